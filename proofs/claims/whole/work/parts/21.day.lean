/-! A DAY: the class's and the model's -/
def AR (k : Nat) (ka fa ca : Nat → Int32) (kd fg cs : Nat → Nat) : Prop := k ≤ 9 ∧ ∀ i, i < k → (ka i = nI (kd i) ∧ kd i < 6) ∧ (fa i = nI (fg i) ∧ fg i < 10) ∧ (ca i = nI (cs i) ∧ cs i < 2 ^ i)
def ndn (kd fg c d : Nat) : Nat := if kd = 1 then 1 else if kd = 2 then (if c ≤ 1 then 1 else 2) else if kd = 3 then c else if kd = 4 then (if d % (fg + 1) = 0 then 1 else 1000) else if kd = 5 then c / 2 + 1 else 1000
def ndc (kd fg c d : Nat) : Nat := if kd = 1 then 1 else if kd = 2 then (if c ≤ 1 then 1 else 2) else if kd = 3 then c else if kd = 4 then (if d % (fg + 1) = 0 then 1 else 10) else if kd = 5 then c / 2 + 1 else 10
theorem nd_iff (kd fg c d x : Nat) (hx : x ≤ 9) : ndc kd fg c d ≤ x ↔ ndn kd fg c d ≤ x := by
  unfold ndc ndn
  repeat' split
  all_goals omega
def flp (kd fg cs : Nat → Nat) (i L d : Nat) : Bool := cs i != 0 && decide (ndn (kd i) (fg i) (pcn (cs i)) d ≤ pcn (cs i &&& L))
def mr (kd fg cs : Nat → Nat) (L G d : Nat) : Nat → Nat
  | 0 => 0
  | i + 1 => mr kd fg cs L G d i ||| (if (L ||| G).testBit i = false ∧ flp kd fg cs i L d = true then 2 ^ i else 0)
def dayf (k : Nat) (kd fg cs : Nat → Nat) (L G d : Nat) : Nat := L ||| mr kd fg cs L G d k
def run (k : Nat) (kd fg cs : Nat → Nat) (L G d : Nat) : Nat → Nat
  | 0 => L
  | n + 1 => dayf k kd fg cs (run k kd fg cs L G d n) G (d + n + 1)
theorem mr_lt (kd fg cs : Nat → Nat) (L G d : Nat) : ∀ i, mr kd fg cs L G d i < 2 ^ i
  | 0 => by simp [mr]
  | i + 1 => by
    have h := mr_lt kd fg cs L G d i
    have h1 : 2 ^ i < 2 ^ (i + 1) := Nat.pow_lt_pow_right (by omega) (by omega)
    have h0 : 0 < 2 ^ (i + 1) := Nat.two_pow_pos _
    rw [mr]
    refine or_lt (by omega) ?_
    split <;> omega
theorem dayf_lt {k : Nat} {kd fg cs : Nat → Nat} {L G d : Nat} (h : L < 2 ^ k) : dayf k kd fg cs L G d < 2 ^ k := or_lt h (mr_lt _ _ _ _ _ _ _)
theorem run_lt {k : Nat} {kd fg cs : Nat → Nat} {L G d : Nat} (h : L < 2 ^ k) : ∀ n, run k kd fg cs L G d n < 2 ^ k
  | 0 => h
  | n + 1 => by rw [run]; exact dayf_lt (run_lt h n)
section DAY
variable {k : Nat} {ka fa ca : Nat → Int32} {kd fg cs : Nat → Nat}
theorem AR.cs9 (hA : AR k ka fa ca kd fg cs) {i : Nat} (hi : i < k) : cs i < 512 := p9 (k := i) (by have := hA.1; omega) (hA.2 i hi).2.2.2
theorem e_has {i : Nat} (hk : k ≤ 9) (hi : i < k) : f_X7_has (nI k) (nI i) = some 1 := by
  unfold f_X7_has
  rw [if_neg (nI_pos (by omega)), if_neg (nI_ge hi (by omega)), if_neg (show ¬ (9 : Int32) ≤ nI i from nI_ge (b := 9) (by omega) (by omega))]
theorem e_has0 {x : Int32} (h : x < 0 ∨ nI k ≤ x) : f_X7_has (nI k) x = some 0 := by
  unfold f_X7_has
  by_cases h1 : x < 0
  · rw [if_pos h1]
  · rw [if_neg h1, if_pos (h.resolve_left h1)]
theorem e_isT {i : Nat} (hk : k ≤ 9) (hi : i < k) : f_X10_isThing (nI k) (nI i) = some 1 := by
  unfold f_X10_isThing
  rw [if_neg (nI_pos (by omega)), if_neg (nI_ge hi (by omega))]
theorem e_isT0 {x : Int32} (h : x < 0 ∨ nI k ≤ x) : f_X10_isThing (nI k) x = some 0 := by
  unfold f_X10_isThing
  by_cases h1 : x < 0
  · rw [if_pos h1]
  · rw [if_neg h1, if_pos (h.resolve_left h1)]
theorem e_caus (hA : AR k ka fa ca kd fg cs) {i : Nat} (hi : i < k) : f_X7_causesOf ca (nI k) (nI i) = some (nI (cs i)) := by
  have hk := hA.1
  unfold f_X7_causesOf
  rw [e_has hk hi, ob, if_neg (by decide), xa_in (vp_in_nI (by omega) (by omega)), nI_clamp (by omega), (hA.2 i hi).2.2.1]
theorem e_kind (hA : AR k ka fa ca kd fg cs) {i : Nat} (hi : i < k) : f_X7_kindOf ka (nI k) (nI i) = some (nI (kd i)) := by
  have hk := hA.1
  unfold f_X7_kindOf
  rw [e_has hk hi, ob, if_neg (by decide), xa_in (vp_in_nI (by omega) (by omega)), nI_clamp (by omega), (hA.2 i hi).1.1]
theorem e_fig (hA : AR k ka fa ca kd fg cs) {i : Nat} (hi : i < k) : f_X7_figureOf fa (nI k) (nI i) = some (nI (fg i)) := by
  have hk := hA.1
  unfold f_X7_figureOf
  rw [e_has hk hi, ob, if_neg (by decide), xa_in (vp_in_nI (by omega) (by omega)), nI_clamp (by omega), (hA.2 i hi).2.1.1]
theorem nI_ite {c : Prop} [Decidable c] {α : Type} {x : Int32} {a b : Nat} (hx : x = nI a) (ha : a < 2 ^ 31) (hb : b < 2 ^ 31) {u v : α} : (if x = nI b then u else v) = if a = b then u else v := by
  subst hx
  by_cases h : a = b
  · rw [if_pos h, if_pos (by rw [h])]
  · rw [if_neg h, if_neg (by rw [nI_eq ha hb]; exact h)]
theorem e_needed (hA : AR k ka fa ca kd fg cs) {i c d : Nat} (hi : i < k) (hc : c ≤ 9) (hd : d < 2 ^ 31) : f_X7_needed ka fa (nI i) (nI c) (nI d) = some (nI (ndc (kd i) (fg i) c d)) := by
  have hk := hA.1
  have hk6 : kd i < 6 := (hA.2 i hi).1.2
  have hf : fg i < 10 := (hA.2 i hi).2.1.2
  have hin : vp_in (nI i) 9 := vp_in_nI (by omega) (by omega)
  have hr : (if nI (fg i + 1) ≤ 0 then (some (10 : Int32)) else xd (nI (fg i + 1)) (if nI d - nI d / nI (fg i + 1) * nI (fg i + 1) = 0 then some 1 else some 10)) = some (nI (if d % (fg i + 1) = 0 then 1 else 10)) := by
    have hm : d % (fg i + 1) < fg i + 1 := Nat.mod_lt _ (by omega)
    rw [if_neg (nI_nle (by omega) (by omega))]
    unfold xd
    rw [if_neg (nI_ne0 (by omega) (by omega)), pk_rem hd (by omega) (by omega), show (0 : Int32) = nI 0 from rfl]
    by_cases h : d % (fg i + 1) = 0
    · rw [if_pos h, if_pos (by rw [h])]; rfl
    · rw [if_neg h, if_neg (by rw [nI_eq (by omega) (by omega)]; exact h)]; rfl
  unfold f_X7_needed ndc
  rw [if_neg (nI_pos (by omega)), if_pos (show nI i < (9 : Int32) from nI_lt (b := 9) (by omega) (by omega)), xa_in hin, xa_in hin, nI_clamp (by omega), (hA.2 i hi).1.1, (hA.2 i hi).2.1.1, show nI (fg i) + 1 = nI (fg i + 1) from nI_1 _, hr]
  have h6 : kd i = 0 ∨ kd i = 1 ∨ kd i = 2 ∨ kd i = 3 ∨ kd i = 4 ∨ kd i = 5 := by omega
  rcases h6 with h | h | h | h | h | h <;> rw [h]
  · rfl
  · rfl
  · have e : (nI c ≤ 1) ↔ c ≤ 1 := by rw [show (1 : Int32) = nI 1 from rfl, nI_leI (by omega) (by omega)]
    by_cases h1 : c ≤ 1
    · simp only [h1, if_true, e.mpr h1]; rfl
    · have h2 : ¬ nI c ≤ 1 := fun z => h1 (e.mp z)
      simp only [h1, if_false, h2]; rfl
  · rfl
  · rfl
  · have e : nI c / 2 + 1 = nI (c / 2 + 1) := by
      rw [show (2 : Int32) = nI 2 from rfl, pk_div (by omega) (by omega) (by omega)]; exact nI_1 _
    show some (nI c / 2 + 1) = _
    rw [e]; rfl
theorem pcn_zz : ∀ x, x < 512 → pcn x = 0 → x = 0 := by decide +kernel
theorem pcn_z {x : Nat} (h : x < 512) (h0 : pcn x = 0) : x = 0 := pcn_zz x h h0
theorem flp_0 (hA : AR k ka fa ca kd fg cs) {i L d : Nat} (hi : i < k) (h : pcn (cs i &&& L) = 0) : flp kd fg cs i L d = false := by
  have hc9 := hA.cs9 hi
  unfold flp
  by_cases h0 : cs i = 0
  · simp [h0]
  · have hp : pcn (cs i) ≠ 0 := fun z => h0 (pcn_z hc9 z)
    have hn : ¬ ndn (kd i) (fg i) (pcn (cs i)) d ≤ pcn (cs i &&& L) := by
      rw [h]
      unfold ndn
      repeat' split
      all_goals omega
    simp [hn]
theorem flp_1 {i L d : Nat} (h : 0 < pcn (cs i &&& L)) : flp kd fg cs i L d = decide (ndn (kd i) (fg i) (pcn (cs i)) d ≤ pcn (cs i &&& L)) := by
  have h0 : cs i ≠ 0 := by
    intro z
    rw [z, Nat.zero_and] at h
    exact absurd h (by decide)
  unfold flp
  simp [h0]
theorem e_bd1 (hA : AR k ka fa ca kd fg cs) {i L G d : Nat} (hi : i < k) (hd : d < 2 ^ 31) (F : Nat) (kr : Int32 → Int32 → Option Int32) (X B : Int32) : f_X7_behindDay_56 F ka fa ca (nI k) (nI L) (nI G) (nI d) kr 1 X (nI i) B (nI (pcn (cs i &&& L))) = kr (if flp kd fg cs i L d = true then X ||| B else X) (nI (i + 1)) := by
  have hk := hA.1
  have hc9 := hA.cs9 hi
  have hp := pcn_le (cs i &&& L)
  have e1 : nI i + 1 = nI (i + 1) := nI_1 i
  unfold f_X7_behindDay_56 f_X7_behindDay_97
  rw [e1, if_neg (by decide)]
  by_cases h0 : pcn (cs i &&& L) = 0
  · rw [h0, if_pos (by decide), flp_0 hA hi h0, if_neg (by decide)]
  · have hn : ndc (kd i) (fg i) (pcn (cs i)) d < 2 ^ 31 := by
      have := pcn_le (cs i)
      unfold ndc
      repeat' split
      all_goals omega
    have hii := nd_iff (kd i) (fg i) (pcn (cs i)) d _ hp
    rw [if_neg (nI_nle (by omega) (by omega)), xa_in (vp_in_nI (by omega) (by omega)), nI_clamp (by omega), (hA.2 i hi).2.2.1, e_bc _ hc9, ob, e_needed hA hi (pcn_le _) hd, ob, flp_1 (by omega)]
    by_cases h : ndn (kd i) (fg i) (pcn (cs i)) d ≤ pcn (cs i &&& L)
    · rw [if_neg (nI_nlt (hii.mpr h) (by omega)), if_pos (decide_eq_true h)]
    · rw [if_pos (nI_lt (by have := fun z => h (hii.mp z); omega) hn), if_neg (by simp [h])]
theorem e_bdL (hA : AR k ka fa ca kd fg cs) {L G d : Nat} (hd : d < 2 ^ 31) (F : Nat) : ∀ (j i n : Nat), i + j = k → j < n → f_X7_behindDay_6 F ka fa ca (nI k) (nI L) (nI G) (nI d) n (nI (L ||| mr kd fg cs L G d i)) (nI i) = some (nI (dayf k kd fg cs L G d)) := by
  have hk := hA.1
  intro j
  induction j with
  | zero =>
    intro i n hi hn
    obtain ⟨n, rfl⟩ : ∃ z, n = z + 1 := ⟨n - 1, by omega⟩
    have : i = k := by omega
    subst this
    rw [f_X7_behindDay_6, if_pos (Int32.le_refl _)]
    rfl
  | succ j ih =>
    intro i n hi hn
    obtain ⟨n, rfl⟩ : ∃ z, n = z + 1 := ⟨n - 1, by omega⟩
    have hik : i < k := by omega
    have hand : cs i &&& L < 512 := Nat.lt_of_le_of_lt Nat.and_le_left (hA.cs9 hik)
    rw [f_X7_behindDay_6, if_neg (nI_ge hik (by omega)), if_neg (show ¬ (9 : Int32) ≤ nI i from nI_ge (b := 9) (by omega) (by omega)), xa_in (vp_in_nI (by omega) (by omega)), nI_clamp (by omega), (hA.2 i hik).2.2.1, nI_and, e_bc _ hand, ob, nI_or]
    have hbit := nI_has0 (n := L ||| G) (i := i) (by omega)
    have nx := ih (i + 1) n (by omega) (by omega)
    rw [mr] at nx
    have e1 : nI i + 1 = nI (i + 1) := nI_1 i
    by_cases h1 : (L ||| G).testBit i = false
    · rw [if_pos (hbit.mpr h1), e_bd1 hA hik hd]
      by_cases h2 : flp kd fg cs i L d = true
      · rw [if_pos h2, nI_pow i (by omega), nI_or, Nat.or_assoc]
        rw [if_pos ⟨h1, h2⟩] at nx
        exact nx
      · rw [if_neg h2]
        rw [if_neg (fun z => h2 z.2), Nat.or_zero] at nx
        exact nx
    · rw [if_neg (fun z => h1 (hbit.mp z))]
      unfold f_X7_behindDay_56 f_X7_behindDay_97
      rw [if_pos rfl, e1]
      rw [if_neg (fun z => h1 z.1), Nat.or_zero] at nx
      exact nx
theorem e_bd (hA : AR k ka fa ca kd fg cs) {L G d : Nat} (hd : d < 2 ^ 31) : f_X7_behindDay FU ka fa ca (nI k) (nI L) (nI G) (nI d) = some (nI (dayf k kd fg cs L G d)) := by
  have h := e_bdL hA (L := L) (G := G) hd FU k 0 FU (by omega) (by have := hA.1; unfold FU; omega)
  rw [mr, Nat.or_zero] at h
  exact h
end DAY
