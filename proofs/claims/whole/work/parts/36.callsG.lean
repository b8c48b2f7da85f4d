/-! CALLS, seventh part: key, judge, thing -/
def ky (c : Nat → Nat) : Nat → Option Nat
  | 0 => none
  | i + 1 => match ky c i with
    | none => some i
    | some b => if c b < c i then some i else some b
theorem ky_in (c : Nat → Nat) : ∀ i b, ky c i = some b → b < i
  | 0, b, h => by cases h
  | i + 1, b, h => by
    rw [ky] at h
    cases hm : ky c i with
    | none => rw [hm] at h; cases h; omega
    | some q =>
      rw [hm] at h
      have := ky_in c i q hm
      dsimp only at h
      split at h
      · cases h; omega
      · cases h; omega
def km (c : Nat → Nat) (o : Option Nat) : Int32 := match o with
  | none => -1
  | some b => nI (c b)
def v99 (o : Option Nat) : Int32 := match o with
  | none => 99
  | some m => nI m
section CG
variable {k : Nat} {ka fa ca : Nat → Int32} {kd fg cs : Nat → Nat} {L G d : Nat}
def kc (cs : Nat → Nat) (k : Nat) : Nat → Nat := fun i => pcn (frt cs i k)
theorem kc_le (cs : Nat → Nat) (k i : Nat) : kc cs k i ≤ 9 := pcn_le _
theorem e_kycL (hA : AR k ka fa ca kd fg cs) : ∀ (j i n : Nat), i + j = k → j < n → f_X7_withMostFruits_7 FU ca (nI k) n (oI (ky (kc cs k) i)) (km (kc cs k) (ky (kc cs k) i)) (nI i) = some (oI (ky (kc cs k) k)) := by
  have hk := hA.1
  intro j
  induction j with
  | zero =>
    intro i n hi hn
    obtain ⟨n, rfl⟩ : ∃ z, n = z + 1 := ⟨n - 1, by omega⟩
    have : i = k := by omega
    subst this
    rw [f_X7_withMostFruits_7, if_pos (Int32.le_refl _)]
  | succ j ih =>
    intro i n hi hn
    obtain ⟨n, rfl⟩ : ∃ z, n = z + 1 := ⟨n - 1, by omega⟩
    have hik : i < k := by omega
    have e1 : nI i + 1 = nI (i + 1) := nI_1 _
    have nx := ih (i + 1) n (by omega) (by omega)
    rw [ky] at nx
    have hp := kc_le cs k i
    rw [f_X7_withMostFruits_7, if_neg (nI_ge hik (by omega)), e_frc hA hik, ob, e_bc _ (p9 hk (frt_lt cs i k)), ob, show pcn (frt cs i k) = kc cs k i from rfl]
    cases hm : ky (kc cs k) i with
    | none =>
      rw [hm] at nx
      rw [if_neg (fun z => by
        have h1 : ¬ nI (kc cs k i) < 0 := nI_pos (by omega)
        exact h1 (Int32.lt_of_le_of_lt (show nI (kc cs k i) ≤ -1 from z) (by decide))), f_X7_withMostFruits_36, e1]
      exact nx
    | some b =>
      rw [hm] at nx
      dsimp only at nx
      have hb := kc_le cs k b
      by_cases hc : kc cs k b < kc cs k i
      · rw [if_neg (show ¬ nI (kc cs k i) ≤ km (kc cs k) (some b) from nI_ge hc (by omega)), f_X7_withMostFruits_36, e1]
        rw [if_pos hc] at nx
        exact nx
      · rw [if_pos (show nI (kc cs k i) ≤ km (kc cs k) (some b) from nI_le (by omega) (by omega)), f_X7_withMostFruits_36, e1]
        rw [if_neg hc] at nx
        exact nx
theorem e_kymL (hA : AR k ka fa ca kd fg cs) : ∀ (j i n : Nat), i + j = k → j < n → f_X10_key_5 FU ca (nI k) n (oI (ky (kc cs k) i)) (nI i) = some (oI (ky (kc cs k) k)) := by
  have hk := hA.1
  intro j
  induction j with
  | zero =>
    intro i n hi hn
    obtain ⟨n, rfl⟩ : ∃ z, n = z + 1 := ⟨n - 1, by omega⟩
    have : i = k := by omega
    subst this
    rw [f_X10_key_5, if_pos (Int32.le_refl _)]
  | succ j ih =>
    intro i n hi hn
    obtain ⟨n, rfl⟩ : ∃ z, n = z + 1 := ⟨n - 1, by omega⟩
    have hik : i < k := by omega
    have e1 : nI i + 1 = nI (i + 1) := nI_1 _
    have nx := ih (i + 1) n (by omega) (by omega)
    rw [ky] at nx
    have hp := kc_le cs k i
    rw [f_X10_key_5, if_neg (nI_ge hik (by omega))]
    cases hm : ky (kc cs k) i with
    | none =>
      rw [hm] at nx
      rw [if_pos (show oI none < 0 by decide), f_X10_key_36, f_X10_key_41, e1]
      exact nx
    | some b =>
      rw [hm] at nx
      dsimp only at nx
      have hb := kc_le cs k b
      have hbi := ky_in _ _ _ hm
      rw [if_neg (show ¬ oI (some b) < 0 from nI_pos (n := b) (by omega)), e_frm hA hik, ob, e_bits _ (p9 hk (frt_lt cs i k)), ob, show oI (some b) = nI b from rfl, e_frm hA (by omega), ob, e_bits _ (p9 hk (frt_lt cs b k)), ob, show pcn (frt cs i k) = kc cs k i from rfl, show pcn (frt cs b k) = kc cs k b from rfl]
      by_cases hc : kc cs k b < kc cs k i
      · rw [if_neg (nI_ge hc (by omega)), f_X10_key_36, f_X10_key_41, e1]
        rw [if_pos hc] at nx
        exact nx
      · rw [if_pos (nI_le (by omega) (by omega)), f_X10_key_41, e1]
        rw [if_neg hc] at nx
        exact nx
theorem t_key (hA : AR k ka fa ca kd fg cs) : ∃ r : Int32, f_X9_key FU ca (nI k) = some r ∧ f_X10_key FU ca (nI k) = some r := by
  have hk := hA.1
  refine ⟨oI (ky (kc cs k) k), ?_, ?_⟩
  · unfold f_X9_key
    rw [show f_X7_withMostFruits FU ca (nI k) = _ from e_kycL hA k 0 FU (by omega) (by unfold FU; omega), ob]
  · exact e_kymL hA k 0 FU (by omega) (by unfold FU; omega)
def jdp (k : Nat) (kd fg cs : Nat → Nat) (L G d : Nat) (vl : Nat → Int32) : Nat → Bool := fun i => decide (k ≤ i) || !decide (vl i = v99 (whn k kd fg cs L G d i))
theorem e_jdcL (hA : AR k ka fa ca kd fg cs) (hL : L < 2 ^ k) (hd : d ≤ 999) {vl : Nat → Int32} {m : Nat} (hm : m ≤ 16) : ∀ (j i n : Nat), i + j = m → j < n → f_X9_firstMisjudged_2 FU ka fa ca (nI k) (nI L) (nI G) (nI d) vl (nI m) n (nI i) = some (oI (fw (jdp k kd fg cs L G d vl) j i)) := by
  have hk := hA.1
  intro j
  induction j with
  | zero =>
    intro i n hi hn
    obtain ⟨n, rfl⟩ : ∃ z, n = z + 1 := ⟨n - 1, by omega⟩
    have : i = m := by omega
    subst this
    rw [f_X9_firstMisjudged_2, if_pos (Int32.le_refl _)]
    rfl
  | succ j ih =>
    intro i n hi hn
    obtain ⟨n, rfl⟩ : ∃ z, n = z + 1 := ⟨n - 1, by omega⟩
    have nx := ih (i + 1) n (by omega) (by omega)
    rw [f_X9_firstMisjudged_2, if_neg (nI_ge (by omega) (by omega)), fw]
    rcases Nat.lt_or_ge i k with hik | hik
    · have hat : f_X5_at vl (nI m) (nI i) = some (vl i) := by
        unfold f_X5_at
        rw [if_neg (nI_pos (by omega)), if_neg (nI_ge (by omega) (by omega)), if_neg (show ¬ (16 : Int32) ≤ nI i from nI_ge (b := 16) (by omega) (by omega)), xa_in (vp_in_nI (by omega) (by omega)), nI_clamp (by omega)]
      rw [e_has hk hik, ob, if_neg n10, e_dul hA hL (by omega) (by omega), ob, hat, ob]
      have fin : ∀ (y : Int32), y = v99 (whn k kd fg cs L G d i) → f_X9_firstMisjudged_62 FU ka fa ca (nI k) (nI L) (nI G) (nI d) vl (nI m) (f_X9_firstMisjudged_2 FU ka fa ca (nI k) (nI L) (nI G) (nI d) vl (nI m) n) (vl i) y (nI i) = some (oI (if jdp k kd fg cs L G d vl i = true then some i else fw (jdp k kd fg cs L G d vl) j (i + 1))) := by
        intro y hy
        rw [f_X9_firstMisjudged_62, hy]
        by_cases hc : vl i = v99 (whn k kd fg cs L G d i)
        · have : jdp k kd fg cs L G d vl i = false := by unfold jdp; rw [decide_eq_false (by omega), decide_eq_true hc]; rfl
          rw [if_pos hc, this, if_neg (by decide), show nI i + 1 = nI (i + 1) from nI_1 _]
          exact nx
        · have : jdp k kd fg cs L G d vl i = true := by unfold jdp; rw [decide_eq_false (p := vl i = v99 (whn k kd fg cs L G d i)) hc]; simp
          rw [if_neg hc, this, if_pos rfl]
          rfl
      cases hw : whn k kd fg cs L G d i with
      | none =>
        rw [hw] at fin
        rw [if_pos (show oI none = -9 from rfl)]
        exact fin 99 rfl
      | some q =>
        rw [hw] at fin
        rw [if_neg (fun z => by cases (oI_m9 (o := some q) (fun q' h => by cases h; exact whn_le hw)).mp z)]
        exact fin (nI q) rfl
    · have : jdp k kd fg cs L G d vl i = true := by unfold jdp; rw [decide_eq_true hik]; rfl
      rw [e_has0 (Or.inr (nI_le hik (by omega))), ob, if_pos rfl, this, if_pos rfl]
      rfl
theorem e_jdmL (hA : AR k ka fa ca kd fg cs) (hL : L < 2 ^ k) (hG : G < 2 ^ k) (hd : d ≤ 999) {vl : Nat → Int32} {m : Nat} (hm : m ≤ 16) (rm : Int32) : ∀ (j i n : Nat) (kp : Nat → Int32) (ik cu : Int32), i + j = m → j < n → ∃ (kp' : Nat → Int32) (ik' cu' : Int32), f_X10_judge_12 FU vl n (nI m) (nI i) ka fa ca (nI k) (nI d) (nI L) (nI G) kp ik cu rm = some (oI (fw (jdp k kd fg cs L G d vl) j i), ka, fa, ca, nI k, nI d, nI L, nI G, kp', ik', cu', rm) ∧ ∀ j, j < 62 → kp' j = kp j := by
  have hk := hA.1
  intro j
  induction j with
  | zero =>
    intro i n kp ik cu hi hn
    obtain ⟨n, rfl⟩ : ∃ z, n = z + 1 := ⟨n - 1, by omega⟩
    have : i = m := by omega
    subst this
    exact ⟨kp, ik, cu, by rw [f_X10_judge_12, if_pos (Int32.le_refl _)]; rfl, fun _ _ => rfl⟩
  | succ j ih =>
    intro i n kp ik cu hi hn
    obtain ⟨n, rfl⟩ : ∃ z, n = z + 1 := ⟨n - 1, by omega⟩
    rw [f_X10_judge_12, if_neg (nI_ge (by omega) (by omega)), fw]
    rcases Nat.lt_or_ge i k with hik | hik
    · rw [if_neg (nI_ge hik (by omega)), xa_in (vp_in_nI (by omega) (by omega)), nI_clamp (by omega)]
      have told : f_X10_isTold FU ka fa ca (nI k) (nI d) (nI L) (nI G) kp ik cu (nI i) (vl i) = some (if vl i = v99 (whn k kd fg cs L G d i) then 1 else 0, ka, fa, ca, nI k, nI d, nI L, nI G, SV kp ka fa ca k d L G, 0, nI 93) := by
        unfold f_X10_isTold
        rw [e_lw hA hL hG (by omega) (by omega), ob]
        cases hw : whn k kd fg cs L G d i with
        | none =>
          rw [if_neg (show ¬ 0 ≤ oI none by decide), f_X10_isTold_19]
          by_cases hc : vl i = v99 none
          · rw [if_pos (show vl i = 99 from hc), if_pos hc]
          · rw [if_neg (show ¬ vl i = 99 from hc), if_neg hc]
        | some q =>
          have hq := whn_le hw
          rw [if_pos (show 0 ≤ oI (some q) from nI_pos' (n := q) (by omega)), f_X10_isTold_19]
          by_cases hc : vl i = v99 (some q)
          · rw [if_pos (show vl i = oI (some q) from hc), if_pos hc]
          · rw [if_neg (show ¬ vl i = oI (some q) from hc), if_neg hc]
      rw [told, ob]
      by_cases hc : vl i = v99 (whn k kd fg cs L G d i)
      · have : jdp k kd fg cs L G d vl i = false := by unfold jdp; rw [decide_eq_false (by omega), decide_eq_true hc]; rfl
        obtain ⟨kp', ik', cu', nx, nk⟩ := ih (i + 1) n (SV kp ka fa ca k d L G) 0 (nI 93) (by omega) (by omega)
        refine ⟨kp', ik', cu', ?_, fun j hj => by rw [nk j hj, SV_lo _ _ _ _ _ _ _ _ hj]⟩
        rw [if_pos hc, if_neg (show ¬ (1 : Int32) = 0 by decide), this, if_neg (by decide), show nI i + 1 = nI (i + 1) from nI_1 _]
        exact nx
      · have : jdp k kd fg cs L G d vl i = true := by unfold jdp; rw [decide_eq_false (p := vl i = v99 (whn k kd fg cs L G d i)) hc]; simp
        refine ⟨SV kp ka fa ca k d L G, 0, nI 93, ?_, fun j hj => SV_lo _ _ _ _ _ _ _ _ hj⟩
        rw [if_neg hc, if_pos (show (0 : Int32) = 0 from rfl), this, if_pos rfl]
        rfl
    · have : jdp k kd fg cs L G d vl i = true := by unfold jdp; rw [decide_eq_true hik]; rfl
      exact ⟨kp, ik, cu, by rw [if_pos (nI_le hik (by omega)), this, if_pos rfl]; rfl, fun _ _ => rfl⟩
theorem t_judge (hA : AR k ka fa ca kd fg cs) (hL : L < 2 ^ k) (hG : G < 2 ^ k) (hd : d ≤ 999) {vl : Nat → Int32} {m : Nat} (hm : m ≤ 16) (kp : Nat → Int32) (ik cu : Int32) : ∃ (r : Int32) (kp' : Nat → Int32) (ik' cu' : Int32), f_X9_judge FU ka fa ca (nI k) (nI L) (nI G) (nI d) vl (nI m) = some (r, nI 0) ∧ f_X10_judge FU ka fa ca (nI k) (nI d) (nI L) (nI G) kp ik cu vl (nI m) = some (r, ka, fa, ca, nI k, nI d, nI L, nI G, kp', ik', cu', nI 0) ∧ ∀ j, j < 62 → kp' j = kp j := by
  obtain ⟨kp', ik', cu', nx, nk⟩ := e_jdmL hA hL hG hd (vl := vl) hm (nI 0) m 0 FU kp ik cu (by omega) (by unfold FU; omega)
  refine ⟨oI (fw (jdp k kd fg cs L G d vl) m 0), kp', ik', cu', ?_, nx, nk⟩
  unfold f_X9_judge
  rw [show f_X9_firstMisjudged FU ka fa ca (nI k) (nI L) (nI G) (nI d) vl (nI m) = _ from e_jdcL hA hL hd (vl := vl) hm m 0 FU (by omega) (by unfold FU; omega), ob]
  rfl
theorem t_clear (m : Nat) : f_X9_clear (nI m) = some (nI m, nI 0) ∧ f_X10_clear (nI m) = some (nI m, nI 0) := ⟨rfl, rfl⟩
end CG
/-! DEPTH -/
/-- the most of f + 1 over the first j of S -/
def mx (f : Nat → Nat) (S : Nat) : Nat → Nat
  | 0 => 0
  | j + 1 => if S.testBit j = true ∧ mx f S j < f j + 1 then f j + 1 else mx f S j
def dtb (cs : Nat → Nat) : Nat → Nat → Nat
  | 0, _ => 0
  | n + 1, j => if j = n then mx (dtb cs n) (cs n) n else dtb cs n j
def dp (cs : Nat → Nat) (i : Nat) : Nat := dtb cs (i + 1) i
theorem mx_ge (f : Nat → Nat) (S : Nat) : ∀ n j, j < n → S.testBit j = true → f j + 1 ≤ mx f S n
  | 0, j, h, _ => absurd h (by omega)
  | n + 1, j, h, hb => by
    rw [mx]
    by_cases hj : j = n
    · subst hj
      split
      · exact Nat.le_refl _
      · rename_i hc
        have : ¬ mx f S j < f j + 1 := fun z => hc ⟨hb, z⟩
        omega
    · have := mx_ge f S n j (by omega) hb
      split <;> omega
theorem mx_le {f : Nat → Nat} {S B : Nat} : ∀ n, (∀ j, j < n → S.testBit j = true → f j + 1 ≤ B) → mx f S n ≤ B
  | 0, _ => Nat.zero_le _
  | n + 1, h => by
    rw [mx]
    split
    · rename_i hc
      exact h n (by omega) hc.1
    · exact mx_le n (fun j hj => h j (by omega))
theorem mx_congr {f g : Nat → Nat} {S : Nat} : ∀ n, (∀ j, j < n → f j = g j) → mx f S n = mx g S n
  | 0, _ => rfl
  | n + 1, h => by rw [mx, mx, mx_congr n (fun j hj => h j (by omega)), h n (by omega)]
theorem dtb_dp (cs : Nat → Nat) : ∀ n j, j < n → dtb cs n j = dp cs j
  | 0, j, h => absurd h (by omega)
  | n + 1, j, h => by
    by_cases hj : j = n
    · subst hj; rfl
    · rw [dtb, if_neg hj]
      exact dtb_dp cs n j (by omega)
theorem dp_eq (cs : Nat → Nat) (i : Nat) : dp cs i = mx (dp cs) (cs i) i := by
  unfold dp
  rw [dtb, if_pos rfl]
  exact mx_congr i (fun j hj => dtb_dp cs i j hj)
/-- the CAUSES of those in S -/
def un (cs : Nat → Nat) (S : Nat) : Nat → Nat
  | 0 => 0
  | i + 1 => un cs S i ||| (if S.testBit i = true then cs i else 0)
theorem un_bit (cs : Nat → Nat) (S b : Nat) : ∀ n, (un cs S n).testBit b = true ↔ ∃ i, i < n ∧ S.testBit i = true ∧ (cs i).testBit b = true
  | 0 => by simp [un]
  | n + 1 => by
    rw [un, Nat.testBit_or, Bool.or_eq_true, un_bit cs S b n]
    constructor
    · rintro (⟨i, h1, h2⟩ | h)
      · exact ⟨i, by omega, h2⟩
      · by_cases hs : S.testBit n = true
        · rw [if_pos hs] at h; exact ⟨n, by omega, hs, h⟩
        · rw [if_neg hs, Nat.zero_testBit] at h; cases h
    · rintro ⟨i, h1, h2, h3⟩
      by_cases hi : i = n
      · subst hi; right; rw [if_pos h2]; exact h3
      · exact Or.inl ⟨i, by omega, h2, h3⟩
section DP
variable {k : Nat} {ka fa ca : Nat → Int32} {kd fg cs : Nat → Nat} {L G d : Nat}
theorem un_lt (hA : AR k ka fa ca kd fg cs) (S : Nat) : ∀ n, n ≤ k → un cs S n < 2 ^ k
  | 0, _ => Nat.two_pow_pos k
  | n + 1, h => by
    rw [un]
    refine or_lt (un_lt hA S n (by omega)) ?_
    split
    · exact lt_pw (hA.2 n (by omega)).2.2.2 (by omega)
    · exact Nat.two_pow_pos k
theorem dp_lt (hA : AR k ka fa ca kd fg cs) : ∀ i, i < k → dp cs i ≤ i := by
  intro i
  induction i using Nat.strongRecOn with
  | _ i ih =>
    intro hi
    rw [dp_eq]
    refine mx_le i (fun j hj _ => ?_)
    have := ih j hj (by omega)
    omega
theorem mx_un (hA : AR k ka fa ca kd fg cs) {S : Nat} (hS : S < 2 ^ k) (h0 : S ≠ 0) : mx (dp cs) (un cs S k) k + 1 = mx (dp cs) S k := by
  apply Nat.le_antisymm
  · obtain ⟨b, hb⟩ : ∃ b, S.testBit b = true := by
      rcases Classical.em (∃ b, S.testBit b = true) with h | h
      · exact h
      · exfalso
        refine h0 (Nat.eq_of_testBit_eq fun i => ?_)
        rw [Nat.zero_testBit]
        exact bfalse (fun z => h ⟨i, z⟩)
    have hbk : b < k := by
      rcases Nat.lt_or_ge b k with h | h
      · exact h
      · rw [Nat.testBit_lt_two_pow (lt_pw hS h)] at hb; cases hb
    have h1 := mx_ge (dp cs) S k b hbk hb
    suffices hh : mx (dp cs) (un cs S k) k ≤ mx (dp cs) S k - 1 by omega
    refine mx_le k (fun j hj hbit => ?_)
    obtain ⟨i, hi, hsi, hci⟩ := (un_bit cs S j k).mp hbit
    have hji : j < i := by
      rcases Nat.lt_or_ge j i with h | h
      · exact h
      · rw [Nat.testBit_lt_two_pow (lt_pw (hA.2 i hi).2.2.2 h)] at hci; cases hci
    have h2 := mx_ge (dp cs) (cs i) i j hji hci
    rw [← dp_eq] at h2
    have h3 := mx_ge (dp cs) S k i hi hsi
    omega
  · refine mx_le k (fun j hj hbit => ?_)
    have : dp cs j ≤ mx (dp cs) (un cs S k) k := by
      rw [dp_eq]
      refine mx_le j (fun i hi hb => ?_)
      exact mx_ge (dp cs) (un cs S k) k i (by omega) ((un_bit cs S i k).mpr ⟨j, hj, hbit, hb⟩)
    omega
theorem mx_zero (f : Nat → Nat) : ∀ n, mx f 0 n = 0
  | 0 => rfl
  | n + 1 => by rw [mx, mx_zero f n, Nat.zero_testBit]; simp
theorem e_unL (hA : AR k ka fa ca kd fg cs) (S : Nat) : ∀ (j i n : Nat), i + j = k → j < n → f_X7_causesOfThese_4 FU ca (nI k) (nI S) n (nI (un cs S i)) (nI i) = some (nI (un cs S k)) := by
  have hk := hA.1
  intro j
  induction j with
  | zero =>
    intro i n hi hn
    obtain ⟨n, rfl⟩ : ∃ z, n = z + 1 := ⟨n - 1, by omega⟩
    have : i = k := by omega
    subst this
    rw [f_X7_causesOfThese_4, if_pos (Int32.le_refl _)]
  | succ j ih =>
    intro i n hi hn
    obtain ⟨n, rfl⟩ : ∃ z, n = z + 1 := ⟨n - 1, by omega⟩
    have hik : i < k := by omega
    have e1 : nI i + 1 = nI (i + 1) := nI_1 _
    have nx := ih (i + 1) n (by omega) (by omega)
    rw [un] at nx
    rw [f_X7_causesOfThese_4, if_neg (nI_ge hik (by omega))]
    by_cases hb : S.testBit i = true
    · rw [if_neg (fun z => by rw [(nI_has0 (by omega)).mp z] at hb; cases hb), e_caus hA hik, ob, f_X7_causesOfThese_28, nI_or, e1]
      rw [if_pos hb] at nx
      exact nx
    · rw [if_pos ((nI_has0 (by omega)).mpr (bfalse hb)), f_X7_causesOfThese_28, e1]
      rw [if_neg hb, Nat.or_zero] at nx
      exact nx
theorem e_dpcL (hA : AR k ka fa ca kd fg cs) (p1 : Int32) : ∀ (j S x n : Nat), mx (dp cs) S k = j → S < 2 ^ k → x + j ≤ 8 → j < n → f_X7_depthOf_8 FU ca (nI k) p1 n (nI S) (nI x) = some (nI (x + j)) := by
  have hk := hA.1
  intro j
  induction j with
  | zero =>
    intro S x n hS hl hx hn
    obtain ⟨n, rfl⟩ : ∃ z, n = z + 1 := ⟨n - 1, by omega⟩
    have : S = 0 := by
      rcases Nat.eq_zero_or_pos S with h | h
      · exact h
      · have := mx_un hA hl (by omega); omega
    subst this
    rw [f_X7_depthOf_8, if_pos (show nI 0 = 0 from rfl)]
    rfl
  | succ j ih =>
    intro S x n hS hl hx hn
    obtain ⟨n, rfl⟩ : ∃ z, n = z + 1 := ⟨n - 1, by omega⟩
    have h0 : S ≠ 0 := fun z => by rw [z, mx_zero] at hS; omega
    have h9 := p9 hk hl
    rw [f_X7_depthOf_8, if_neg (nI_ne0 (by omega) (by omega)), if_neg (show ¬ (9 : Int32) ≤ nI x from nI_ge (b := 9) (by omega) (by omega)), show f_X7_causesOfThese FU ca (nI k) (nI S) = _ from e_unL hA S k 0 FU (by omega) (by unfold FU; omega), ob, show nI x + 1 = nI (x + 1) from nI_1 _, show x + (j + 1) = x + 1 + j by omega]
    refine ih (un cs S k) (x + 1) n ?_ (un_lt hA S k (Nat.le_refl _)) (by omega) (by omega)
    have := mx_un hA hl h0
    omega
theorem e_dpc (hA : AR k ka fa ca kd fg cs) {t : Nat} (ht : t < k) : f_X7_depthOf FU ca (nI k) (nI t) = some (nI (dp cs t)) := by
  have hk := hA.1
  have hd := dp_lt hA t ht
  have hc : cs t < 2 ^ k := lt_pw (hA.2 t ht).2.2.2 (by omega)
  unfold f_X7_depthOf
  rw [e_caus hA ht, ob]
  have e : mx (dp cs) (cs t) k = dp cs t := by
    rw [dp_eq cs t]
    apply Nat.le_antisymm
    · refine mx_le k (fun j hj hb => ?_)
      have hjt : j < t := by
        rcases Nat.lt_or_ge j t with h | h
        · exact h
        · rw [Nat.testBit_lt_two_pow (lt_pw (hA.2 t ht).2.2.2 h)] at hb; cases hb
      exact mx_ge _ _ _ j hjt hb
    · exact mx_le t (fun j hj hb => mx_ge _ _ _ j (by omega) hb)
  have h := e_dpcL hA (nI t) (dp cs t) (cs t) 0 FU e hc (by omega) (by unfold FU; omega)
  rw [Nat.zero_add] at h
  exact h
/-- the model's row: what is done so far -/
def dr (cs : Nat → Nat) (n : Nat) (dd : Nat → Int32) (k : Nat) : Nat → Int32 := fun j => if j < k then nI (if j < n then dp cs j else 0) else dd j
theorem e_dmz (hA : AR k ka fa ca kd fg cs) (p1 : Int32) (dd : Nat → Int32) : ∀ (j i n : Nat), i + j = k → j < n → f_X10_depthOf_2 FU ca (nI k) p1 n (nI i) (fun q => if q < i then 0 else dd q) = f_X10_depthOf_25 FU ca (nI k) p1 FU 0 (dr cs 0 dd k) := by
  have hk := hA.1
  intro j
  induction j with
  | zero =>
    intro i n hi hn
    obtain ⟨n, rfl⟩ : ∃ z, n = z + 1 := ⟨n - 1, by omega⟩
    have : i = k := by omega
    subst this
    rw [f_X10_depthOf_2, if_pos (Int32.le_refl _)]
    congr 1
  | succ j ih =>
    intro i n hi hn
    obtain ⟨n, rfl⟩ : ∃ z, n = z + 1 := ⟨n - 1, by omega⟩
    have hik : i < k := by omega
    rw [f_X10_depthOf_2, if_neg (nI_ge hik (by omega)), xa_in (vp_in_nI (by omega) (by omega)), nI_clamp (by omega), show nI i + 1 = nI (i + 1) from nI_1 _, ← ih (i + 1) n (by omega) (by omega)]
    congr 1
    funext q
    unfold upd
    by_cases hq : q = i
    · subst hq; rw [if_pos rfl, if_pos (by omega)]
    · rw [if_neg hq]
      show (if q < i then (0 : Int32) else dd q) = if q < i + 1 then 0 else dd q
      by_cases hq2 : q < i
      · rw [if_pos hq2, if_pos (by omega)]
      · rw [if_neg hq2, if_neg (by omega)]
theorem e_dmi (hA : AR k ka fa ca kd fg cs) (p1 : Int32) (kr : Int32 → (Nat → Int32) → Option (Int32 × (Nat → Int32))) (dd : Nat → Int32) {t : Nat} (ht : t < k) : ∀ (j c n : Nat), c + j = t → j < n → f_X10_depthOf_32 FU ca (nI k) p1 kr n (nI t) (nI c) (upd (dr cs t dd k) t (nI (mx (dp cs) (cs t) c))) = kr (nI (t + 1)) (dr cs (t + 1) dd k) := by
  have hk := hA.1
  intro j
  induction j with
  | zero =>
    intro c n hc hn
    obtain ⟨n, rfl⟩ : ∃ z, n = z + 1 := ⟨n - 1, by omega⟩
    have : c = t := by omega
    subst this
    rw [f_X10_depthOf_32, if_pos (Int32.le_refl _), show nI c + 1 = nI (c + 1) from nI_1 _]
    congr 1
    funext q
    unfold upd dr
    by_cases hq : q = c
    · subst hq; rw [if_pos rfl, if_pos ht, if_pos (by omega), ← dp_eq]
    · rw [if_neg hq]
      by_cases hqk : q < k
      · rw [if_pos hqk, if_pos hqk]
        by_cases hqc : q < c
        · rw [if_pos hqc, if_pos (by omega)]
        · rw [if_neg hqc, if_neg (by omega)]
      · rw [if_neg hqk, if_neg hqk]
  | succ j ih =>
    intro c n hc hn
    obtain ⟨n, rfl⟩ : ∃ z, n = z + 1 := ⟨n - 1, by omega⟩
    have hct : c < t := by omega
    have hc9 := hA.cs9 ht
    have hint : vp_in (nI t) 9 := vp_in_nI (by omega) (by omega)
    have hinc : vp_in (nI c) 9 := vp_in_nI (by omega) (by omega)
    have e1 : nI c + 1 = nI (c + 1) := nI_1 _
    have hdc := dp_lt hA c (by omega)
    have hmx : mx (dp cs) (cs t) c ≤ 9 := mx_le c (fun j hj _ => by have := dp_lt hA j (by omega); omega)
    have nx := ih (c + 1) n (by omega) (by omega)
    rw [mx] at nx
    rw [f_X10_depthOf_32, if_neg (nI_ge hct (by omega)), xa_in hint, nI_clamp (by omega), (hA.2 t ht).2.2.1]
    by_cases hb : (cs t).testBit c = true
    · rw [e_mhasT (by omega) (by omega) hb, ob, if_neg n10, xa_in hinc, xa_in hint, nI_clamp (n := c) (by omega), pk_us, pk_un (show c ≠ t by omega), xa_in hinc, xa_in hint]
      have hdr : dr cs t dd k c = nI (dp cs c) := by unfold dr; rw [if_pos (by omega), if_pos hct]
      rw [hdr, show nI (dp cs c) + 1 = nI (dp cs c + 1) from nI_1 _]
      by_cases hlt : mx (dp cs) (cs t) c < dp cs c + 1
      · rw [if_neg (nI_ge hlt (by omega)), f_X10_depthOf_81, e1]
        rw [if_pos ⟨hb, hlt⟩] at nx
        rw [← nx]
        congr 1
        funext q
        unfold upd
        by_cases hq : q = t
        · rw [if_pos hq, if_pos hq]
        · rw [if_neg hq, if_neg hq, if_neg hq]
      · rw [if_pos (nI_le (by omega) (by omega)), f_X10_depthOf_81, e1]
        rw [if_neg (fun z => hlt z.2)] at nx
        exact nx
    · rw [e_mhasF (by omega) (by omega) (bfalse hb), ob, if_pos rfl, f_X10_depthOf_81, e1]
      rw [if_neg (fun z => hb z.1)] at nx
      exact nx
theorem e_dmo (hA : AR k ka fa ca kd fg cs) (dd : Nat → Int32) {t : Nat} (ht : t < k) : ∀ (j i n : Nat), i + j = t + 1 → j < n → f_X10_depthOf_25 FU ca (nI k) (nI t) n (nI i) (dr cs i dd k) = some (nI (dp cs t), dr cs (t + 1) dd k) := by
  have hk := hA.1
  intro j
  induction j with
  | zero =>
    intro i n hi hn
    obtain ⟨n, rfl⟩ : ∃ z, n = z + 1 := ⟨n - 1, by omega⟩
    have : i = t + 1 := by omega
    subst this
    rw [f_X10_depthOf_25, if_pos (nI_lt (by omega) (by omega)), xa_in (vp_in_nI (by omega) (by omega)), nI_clamp (by omega)]
    congr 2
    unfold dr
    rw [if_pos ht, if_pos (by omega)]
  | succ j ih =>
    intro i n hi hn
    obtain ⟨n, rfl⟩ : ∃ z, n = z + 1 := ⟨n - 1, by omega⟩
    have hik : i < k := by omega
    rw [f_X10_depthOf_25, if_neg (nI_nlt (by omega) (by omega))]
    have h := e_dmi hA (nI t) (f_X10_depthOf_25 FU ca (nI k) (nI t) n) dd hik i 0 FU (by omega) (by unfold FU; omega)
    have e : upd (dr cs i dd k) i (nI (mx (dp cs) (cs i) 0)) = dr cs i dd k := by
      funext q
      unfold upd
      by_cases hq : q = i
      · subst hq; rw [if_pos rfl]; unfold dr; rw [if_pos hik, if_neg (by omega)]; rfl
      · rw [if_neg hq]
    rw [e] at h
    rw [show f_X10_depthOf_32 FU ca (nI k) (nI t) (f_X10_depthOf_25 FU ca (nI k) (nI t) n) FU (nI i) 0 (dr cs i dd k) = _ from h]
    exact ih (i + 1) n (by omega) (by omega)
theorem e_dpm (hA : AR k ka fa ca kd fg cs) (dd : Nat → Int32) {t : Nat} (ht : t < k) : f_X10_depthOf FU ca (nI k) dd (nI t) = some (nI (dp cs t), dr cs (t + 1) dd k) := by
  have hk := hA.1
  have h1 := e_dmz hA (nI t) dd k 0 FU (by omega) (by unfold FU; omega)
  have e : (fun q => if q < 0 then (0 : Int32) else dd q) = dd := funext fun q => if_neg (by omega)
  rw [e] at h1
  unfold f_X10_depthOf
  rw [show f_X10_depthOf_2 FU ca (nI k) (nI t) FU 0 dd = _ from h1]
  exact e_dmo hA dd ht (t + 1) 0 FU (by omega) (by unfold FU; omega)
theorem t_thing (hA : AR k ka fa ca kd fg cs) (hL : L < 2 ^ k) (hG : G < 2 ^ k) (rf dd : Nat → Int32) (x y : Int32) : ∃ (r : Int32) (rf' dd' : Nat → Int32), f_X9_thing FU ka fa ca (nI k) (nI L) (nI G) rf x y = some (r, rf') ∧ f_X10_thing FU rf ka fa ca (nI k) (nI L) (nI G) dd x y = some (r, rf', dd') := by
  have hk := hA.1
  have hL9 := p9 hk hL
  have hG9 := p9 hk hG
  unfold f_X9_thing f_X10_thing
  rcases pk_ix x (n := k) (by omega) with h | h | ⟨i, hi, rfl⟩
  · refine ⟨-1, rfu rf 1, dd, ?_, ?_⟩
    · rw [e_has0 (Or.inl h), ob, if_pos rfl, e_ref1, ob]
    · rw [e_isT0 (Or.inl h), ob, if_pos rfl, e_no1, ob]
  · refine ⟨-1, rfu rf 1, dd, ?_, ?_⟩
    · rw [e_has0 (Or.inr h), ob, if_pos rfl, e_ref1, ob]
    · rw [e_isT0 (Or.inr h), ob, if_pos rfl, e_no1, ob]
  · have hin : vp_in (nI i) 9 := vp_in_nI (by omega) (by omega)
    rw [e_has hk hi, ob, if_neg n10, e_isT hk hi, ob, if_neg n10, xa_in hin, xa_in hin, xa_in hin, nI_clamp (by omega), (hA.2 i hi).1.1, (hA.2 i hi).2.1.1, (hA.2 i hi).2.2.1, nI_bit (by omega) (by omega), nI_bit (by omega) (by omega)]
    by_cases c0 : y = 0
    · exact ⟨nI (kd i), rf, dd, by rw [if_pos c0, e_kind hA hi, ob], by rw [if_pos c0]⟩
    rw [if_neg c0, if_neg c0]
    by_cases c1 : y = 1
    · exact ⟨nI (fg i), rf, dd, by rw [if_pos c1, e_fig hA hi, ob], by rw [if_pos c1]⟩
    rw [if_neg c1, if_neg c1]
    by_cases c2 : y = 2
    · exact ⟨nI (cs i), rf, dd, by rw [if_pos c2, e_caus hA hi, ob], by rw [if_pos c2]⟩
    rw [if_neg c2, if_neg c2]
    by_cases c3 : y = 3
    · rw [if_pos c3, if_pos c3]
      by_cases hb : L.testBit i = true
      · exact ⟨1, rf, dd, by rw [e_isLT hk hi hb, ob, if_neg n10], by rw [hb]; rfl⟩
      · exact ⟨0, rf, dd, by rw [e_isLF hk hi (bfalse hb), ob, if_pos rfl], by rw [bfalse hb]; rfl⟩
    rw [if_neg c3, if_neg c3]
    by_cases c4 : y = 4
    · rw [if_pos c4, if_pos c4]
      by_cases hb : G.testBit i = true
      · exact ⟨1, rf, dd, by rw [e_isGT hk hi hb, ob, if_neg n10], by rw [hb]; rfl⟩
      · exact ⟨0, rf, dd, by rw [e_isGF hk hi (bfalse hb), ob, if_pos rfl], by rw [bfalse hb]; rfl⟩
    rw [if_neg c4, if_neg c4]
    by_cases c5 : y = 5
    · exact ⟨nI (dp cs i), rf, dr cs (i + 1) dd k, by rw [if_pos c5, e_dpc hA hi, ob], by rw [if_pos c5, e_dpm hA dd hi, ob]⟩
    rw [if_neg c5, if_neg c5]
    exact ⟨-2, rfu rf 2, dd, by rw [e_ref2, ob], by rw [e_no2, ob]⟩
end DP
