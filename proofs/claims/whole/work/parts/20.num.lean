/-! NUMBERS: ints that are small numbers, sets as bits -/
def FU : Nat := 1000
theorem ob {α β : Type} (a : α) (f : α → Option β) : (some a).bind f = f a := rfl
def bt (x : Int32) (i : Nat) : Bool := x.toBitVec.getLsbD i
theorem b_ext {x y : Int32} (h : ∀ i, i < 32 → bt x i = bt y i) : x = y := Int32.toBitVec_inj.mp (BitVec.eq_of_getLsbD_eq (fun i hi => h i hi))
theorem b_or (x y : Int32) (i : Nat) : bt (x ||| y) i = (bt x i || bt y i) := by unfold bt; rw [Int32.toBitVec_or, BitVec.getLsbD_or]
theorem b_and (x y : Int32) (i : Nat) : bt (x &&& y) i = (bt x i && bt y i) := by unfold bt; rw [Int32.toBitVec_and, BitVec.getLsbD_and]
theorem b_xor (x y : Int32) (i : Nat) : bt (x ^^^ y) i = (bt x i ^^ bt y i) := by unfold bt; rw [Int32.toBitVec_xor, BitVec.getLsbD_xor]
theorem b_m1 : ∀ i, i < 32 → bt (-1) i = true := by decide +kernel
theorem s_l : ∀ n, n < 32 → ((nI n &&& 31).toBitVec.smod 32).toNat = n := by decide +kernel
theorem bt_nI (n i : Nat) : bt (nI n) i = (decide (i < 32) && n.testBit i) := by
  show (BitVec.ofNat 32 n).getLsbD i = _
  exact BitVec.getLsbD_ofNat ..
theorem nI_and (a b : Nat) : nI a &&& nI b = nI (a &&& b) := b_ext fun i hi => by
  simp [b_and, bt_nI, hi, Nat.testBit_and]
theorem nI_or (a b : Nat) : nI a ||| nI b = nI (a ||| b) := b_ext fun i hi => by
  simp [b_or, bt_nI, hi, Nat.testBit_or]
theorem nI_xor (a b : Nat) : nI a ^^^ nI b = nI (a ^^^ b) := b_ext fun i hi => by
  simp [b_xor, bt_nI, hi, Nat.testBit_xor]
/-- a without b -/
def sdf (a b : Nat) : Nat := a ^^^ (a &&& b)
theorem sdf_bit (a b i : Nat) : (sdf a b).testBit i = (a.testBit i && !b.testBit i) := by
  unfold sdf
  rw [Nat.testBit_xor, Nat.testBit_and]
  cases a.testBit i <;> cases b.testBit i <;> rfl
theorem nI_sdf (a b : Nat) : nI a &&& (nI b ^^^ (-1)) = nI (sdf a b) := b_ext fun i hi => by
  rw [b_and, b_xor, b_m1 i hi, bt_nI, bt_nI, bt_nI, sdf_bit]
  simp [hi]
theorem sdf_lt {a b n : Nat} (h : a < 2 ^ n) : sdf a b < 2 ^ n := Nat.xor_lt_two_pow h (Nat.lt_of_le_of_lt Nat.and_le_left h)
theorem nI_pow : ∀ i, i < 31 → (1 : Int32) <<< (nI i &&& 31) = nI (2 ^ i) := by decide +kernel
theorem nI_shr {n i : Nat} (hn : n < 2 ^ 31) (hi : i < 32) : nI n >>> (nI i &&& 31) = nI (n / 2 ^ i) := pk_shrN hn (nI i &&& 31) i (s_l i hi)
theorem nI_bit {n i : Nat} (hn : n < 2 ^ 31) (hi : i < 32) : (nI n >>> (nI i &&& 31)) &&& 1 = nI (if n.testBit i then 1 else 0) := by
  rw [nI_shr hn hi, show (1 : Int32) = nI 1 from rfl, nI_and, Nat.and_one_is_mod, Nat.testBit_eq_decide_div_mod_eq]
  have h2 : n / 2 ^ i % 2 = 0 ∨ n / 2 ^ i % 2 = 1 := by omega
  rcases h2 with h | h <;> simp [h]
theorem and_pow (n i : Nat) : n &&& 2 ^ i = if n.testBit i then 2 ^ i else 0 := by
  refine Nat.eq_of_testBit_eq fun j => ?_
  rw [Nat.testBit_and, Nat.testBit_two_pow]
  by_cases h : i = j
  · subst h
    cases hb : n.testBit i <;> simp [Nat.testBit_two_pow]
  · cases hb : n.testBit i <;> simp [Nat.testBit_two_pow, h]
theorem nI_has0 {n i : Nat} (hi : i < 31) : (nI n &&& ((1 : Int32) <<< (nI i &&& 31)) = 0) ↔ n.testBit i = false := by
  rw [nI_pow i hi, nI_and, and_pow, show (0 : Int32) = nI 0 from rfl]
  have hp : 0 < 2 ^ i := Nat.two_pow_pos i
  have hp2 : 2 ^ i < 2 ^ 31 := Nat.pow_lt_pow_right (by omega) hi
  cases h : n.testBit i
  · simp
  · simp only [if_true, Bool.true_eq_false, iff_false]
    rw [nI_eq hp2 (by omega)]
    omega
def pcn (n : Nat) : Nat := n % 2 + n / 2 % 2 + n / 4 % 2 + n / 8 % 2 + n / 16 % 2 + n / 32 % 2 + n / 64 % 2 + n / 128 % 2 + n / 256 % 2
theorem pcn_le (n : Nat) : pcn n ≤ 9 := by unfold pcn; omega
theorem e_bc : ∀ n, n < 512 → f_J6_bitCount_0f7a4 (nI n) = some (nI (pcn n)) := by decide +kernel
theorem e_bits : ∀ n, n < 512 → f_X10_bits FU (nI n) = some (nI (pcn n)) := by decide +kernel
theorem or_lt {a b n : Nat} (ha : a < 2 ^ n) (hb : b < 2 ^ n) : a ||| b < 2 ^ n := Nat.or_lt_two_pow ha hb
theorem p9 {k n : Nat} (hk : k ≤ 9) (h : n < 2 ^ k) : n < 512 := Nat.lt_of_lt_of_le h (Nat.pow_le_pow_right (by omega) hk)
theorem pw_lt {i k : Nat} (h : i < k) : 2 ^ i < 2 ^ k := Nat.pow_lt_pow_right (by omega) h
theorem lt_pw {a i k : Nat} (h : a < 2 ^ i) (hik : i ≤ k) : a < 2 ^ k := Nat.lt_of_lt_of_le h (Nat.pow_le_pow_right (by omega) hik)
