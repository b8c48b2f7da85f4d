/-! CALLS, third part: judge, image, on, count, mean, thing -/
theorem lcmp0 {y : Nat} (hy : y < 2 ^ 63) : (lg_cmp (lN y) 0 = 0) ↔ y = 0 := by
  unfold lg_cmp
  by_cases h : y = 0
  · subst h; simp [show lN 0 = 0 from rfl]
  · have h1 : ¬ lN y = 0 := by rw [show (0 : Int64) = lN 0 from rfl, pk_lEQ hy (by omega)]; exact h
    have h2 : lN y > 0 := by
      show (0 : Int64) < lN y
      rw [show (0 : Int64) = lN 0 from rfl, pk_lLT (by omega) hy]; omega
    rw [if_pos h2]
    exact ⟨fun z => absurd z (by decide), fun z => absurd z h⟩
theorem e_gcL (p0 p2 : Int64) : ∀ (m x y s n : Nat), x < 2 ^ 62 → y < 2 ^ m → m ≤ 62 → s + 2 * m < 200 → 2 * m < n → f_X1_greatestCommon_9 FU p0 p2 n (lN x) (lN y) (nI s) = some (lN (Nat.gcd x y)) := by
  intro m
  induction m with
  | zero =>
    intro x y s n hx hy _ hs hn
    obtain ⟨n, rfl⟩ : ∃ z, n = z + 1 := ⟨n - 1, by omega⟩
    have : y = 0 := by omega
    subst this
    rw [f_X1_greatestCommon_9, if_neg (show ¬ (200 : Int32) ≤ nI s from nI_ge (b := 200) (by omega) (by omega)), if_pos ((lcmp0 (by omega)).mpr rfl), Nat.gcd_zero_right]
  | succ m ih =>
    intro x y s n hx hy hm hs hn
    have hp : 2 ^ (m + 1) = 2 * 2 ^ m := by rw [Nat.pow_succ]; omega
    have hbig : 2 ^ (m + 1) ≤ 2 ^ 62 := Nat.pow_le_pow_right (by omega) hm
    obtain ⟨n, rfl⟩ : ∃ z, n = z + 1 := ⟨n - 1, by omega⟩
    rw [f_X1_greatestCommon_9, if_neg (show ¬ (200 : Int32) ≤ nI s from nI_ge (b := 200) (by omega) (by omega))]
    by_cases h0 : y = 0
    · subst h0
      rw [if_pos ((lcmp0 (by omega)).mpr rfl), Nat.gcd_zero_right]
    · have hz : ¬ lN y = 0 := by rw [show (0 : Int64) = lN 0 from rfl, pk_lEQ (by omega) (by omega)]; exact h0
      rw [if_neg (fun z => h0 ((lcmp0 (by omega)).mp z)), pk_lRem (by omega) (by omega) (by omega), show nI s + 1 = nI (s + 1) from nI_1 _]
      unfold xdl
      rw [if_neg hz]
      have hr : x % y < y := Nat.mod_lt _ (by omega)
      obtain ⟨n, rfl⟩ : ∃ z, n = z + 1 := ⟨n - 1, by omega⟩
      have hg : Nat.gcd x y = Nat.gcd y (x % y) := by rw [Nat.gcd_comm x y, Nat.gcd_rec, Nat.gcd_comm]
      rw [f_X1_greatestCommon_9, if_neg (show ¬ (200 : Int32) ≤ nI (s + 1) from nI_ge (b := 200) (by omega) (by omega)), hg]
      by_cases h1 : x % y = 0
      · rw [h1, if_pos ((lcmp0 (by omega)).mpr rfl), Nat.gcd_zero_right]
      · have hz1 : ¬ lN (x % y) = 0 := by rw [show (0 : Int64) = lN 0 from rfl, pk_lEQ (by omega) (by omega)]; exact h1
        rw [if_neg (fun z => h1 ((lcmp0 (by omega)).mp z)), pk_lRem (by omega) (by omega) (by omega), show nI (s + 1) + 1 = nI (s + 1 + 1) from nI_1 _]
        unfold xdl
        rw [if_neg hz1]
        generalize hr1 : x % y = r at hr h1
        have hr2 : y % r < r := Nat.mod_lt _ (by omega)
        have hhalf : y % r < 2 ^ m := by
          by_cases hc : r ≤ 2 ^ m
          · omega
          · have hdm := Nat.div_add_mod y r
            have : 1 ≤ y / r := Nat.div_pos (by omega) (by omega)
            have : r * 1 ≤ r * (y / r) := Nat.mul_le_mul_left r this
            omega
        have hg2 : Nat.gcd y r = Nat.gcd r (y % r) := by rw [Nat.gcd_comm y r, Nat.gcd_rec, Nat.gcd_comm]
        rw [hg2]
        exact ih r (y % r) (s + 1 + 1) n (by omega) hhalf (by omega) (by omega) (by omega)
theorem e_dvL (p0 p2 : Int64) : ∀ (m x y n : Nat), x < 2 ^ 62 → y < 2 ^ m → m ≤ 62 → 2 * m < n → f_X10_divisor_6 FU p0 p2 n (lN x) (lN y) = some (lN (Nat.gcd x y)) := by
  intro m
  induction m with
  | zero =>
    intro x y n hx hy _ hn
    obtain ⟨n, rfl⟩ : ∃ z, n = z + 1 := ⟨n - 1, by omega⟩
    have : y = 0 := by omega
    subst this
    rw [f_X10_divisor_6, if_pos ((lcmp0 (by omega)).mpr rfl), Nat.gcd_zero_right]
  | succ m ih =>
    intro x y n hx hy hm hn
    have hp : 2 ^ (m + 1) = 2 * 2 ^ m := by rw [Nat.pow_succ]; omega
    have hbig : 2 ^ (m + 1) ≤ 2 ^ 62 := Nat.pow_le_pow_right (by omega) hm
    obtain ⟨n, rfl⟩ : ∃ z, n = z + 1 := ⟨n - 1, by omega⟩
    rw [f_X10_divisor_6]
    by_cases h0 : y = 0
    · subst h0
      rw [if_pos ((lcmp0 (by omega)).mpr rfl), Nat.gcd_zero_right]
    · have hz : ¬ lN y = 0 := by rw [show (0 : Int64) = lN 0 from rfl, pk_lEQ (by omega) (by omega)]; exact h0
      rw [if_neg (fun z => h0 ((lcmp0 (by omega)).mp z)), pk_lRem (by omega) (by omega) (by omega)]
      unfold xdl
      rw [if_neg hz]
      have hr : x % y < y := Nat.mod_lt _ (by omega)
      obtain ⟨n, rfl⟩ : ∃ z, n = z + 1 := ⟨n - 1, by omega⟩
      have hg : Nat.gcd x y = Nat.gcd y (x % y) := by rw [Nat.gcd_comm x y, Nat.gcd_rec, Nat.gcd_comm]
      rw [f_X10_divisor_6, hg]
      by_cases h1 : x % y = 0
      · rw [h1, if_pos ((lcmp0 (by omega)).mpr rfl), Nat.gcd_zero_right]
      · have hz1 : ¬ lN (x % y) = 0 := by rw [show (0 : Int64) = lN 0 from rfl, pk_lEQ (by omega) (by omega)]; exact h1
        rw [if_neg (fun z => h1 ((lcmp0 (by omega)).mp z)), pk_lRem (by omega) (by omega) (by omega)]
        unfold xdl
        rw [if_neg hz1]
        generalize hr1 : x % y = r at hr h1
        have hr2 : y % r < r := Nat.mod_lt _ (by omega)
        have hhalf : y % r < 2 ^ m := by
          by_cases hc : r ≤ 2 ^ m
          · omega
          · have hdm := Nat.div_add_mod y r
            have : 1 ≤ y / r := Nat.div_pos (by omega) (by omega)
            have : r * 1 ≤ r * (y / r) := Nat.mul_le_mul_left r this
            omega
        have hg2 : Nat.gcd y r = Nat.gcd r (y % r) := by rw [Nat.gcd_comm y r, Nat.gcd_rec, Nat.gcd_comm]
        rw [hg2]
        exact ih r (y % r) n (by omega) hhalf (by omega) (by omega)
/-- a fraction in least terms: the class's and the model's -/
theorem e_frac {a b : Nat} (ha : a < 2 ^ 62) (hb : b < 2 ^ 62) (hb0 : 0 < b) (x : Int32) : ∃ r : Int64, f_X1_part FU (lN a) (lN b) x = some r ∧ f_X10_partOf FU (lN a) (lN b) x = some r := by
  have g1 : f_X1_greatestCommon FU (lN a) (lN b) = some (lN (Nat.gcd a b)) := e_gcL _ _ 62 a b 0 FU ha hb (by omega) (by omega) (by unfold FU; omega)
  have g2 : f_X10_divisor FU (lN a) (lN b) = some (lN (Nat.gcd a b)) := e_dvL _ _ 62 a b FU ha hb (by omega) (by unfold FU; omega)
  have hg0 : 0 < Nat.gcd a b := Nat.gcd_pos_of_pos_right _ hb0
  have hgle : Nat.gcd a b ≤ b := Nat.gcd_le_right _ hb0
  have hz : ¬ lN (Nat.gcd a b) = 0 := by rw [show (0 : Int64) = lN 0 from rfl, pk_lEQ (by omega) (by omega)]; omega
  have hc : ¬ lg_cmp (lN (Nat.gcd a b)) 0 = 0 := fun z => absurd ((lcmp0 (by omega)).mp z) (by omega)
  by_cases hx : x = 0
  · refine ⟨lN a / lN (Nat.gcd a b), ?_, ?_⟩
    · unfold f_X1_part xdl
      rw [g1, ob, if_neg hc, if_pos hx, if_neg hz]
    · unfold f_X10_partOf f_X10_partOf_10 xdl
      rw [g2, ob, ob, if_pos hx, if_neg hz]
  · refine ⟨lN b / lN (Nat.gcd a b), ?_, ?_⟩
    · unfold f_X1_part xdl
      rw [g1, ob, if_neg hc, if_neg hx, if_neg hz]
    · unfold f_X10_partOf f_X10_partOf_10 xdl
      rw [g2, ob, ob, if_neg hx, if_neg hz]
def alc (cs : Nat → Nat) : Nat → Nat
  | 0 => 0
  | i + 1 => alc cs i + pcn (cs i)
theorem alc_le (cs : Nat → Nat) : ∀ i, alc cs i ≤ 9 * i
  | 0 => by simp [alc]
  | i + 1 => by have := alc_le cs i; have := pcn_le (cs i); rw [alc]; omega
def cp (f : Nat → Int32) (i : Nat) (g : Nat → Int32) : Nat → Int32 := fun j => if j < i then g j else f j
theorem cp_0 (f g : Nat → Int32) : cp f 0 g = f := funext fun j => if_neg (by omega)
theorem cp_s (f g : Nat → Int32) (i : Nat) : upd (cp f i g) i (g i) = cp f (i + 1) g := by
  funext j
  unfold upd cp
  by_cases h : j = i
  · subst h
    rw [if_pos rfl, if_pos (by omega)]
  · rw [if_neg h]
    by_cases h2 : j < i
    · rw [if_pos h2, if_pos (by omega)]
    · rw [if_neg h2, if_neg (by omega)]
theorem cp_in {f g : Nat → Int32} {i j : Nat} (h : j < i) : cp f i g j = g j := if_pos h
theorem e_becL (a b c o p q : Nat → Int32) (s l g d s2 l2 g2 d2 : Int32) : ∀ (j i n : Nat), i + j = 9 → j < n → f_X7_becomes_2 FU o p q s l g d n (nI i) (cp a i o) (cp b i p) (cp c i q) s2 l2 g2 d2 = some (cp a 9 o, cp b 9 p, cp c 9 q, s, l, g, d) := by
  intro j
  induction j with
  | zero =>
    intro i n hi hn
    obtain ⟨n, rfl⟩ : ∃ z, n = z + 1 := ⟨n - 1, by omega⟩
    have : i = 9 := by omega
    subst this
    rw [f_X7_becomes_2, if_pos (show (9 : Int32) ≤ nI 9 from Int32.le_refl _)]
  | succ j ih =>
    intro i n hi hn
    obtain ⟨n, rfl⟩ : ∃ z, n = z + 1 := ⟨n - 1, by omega⟩
    have hin : vp_in (nI i) 9 := vp_in_nI (by omega) (by omega)
    rw [f_X7_becomes_2, if_neg (show ¬ (9 : Int32) ≤ nI i from nI_ge (b := 9) (by omega) (by omega)), xa_in hin, xa_in hin, xa_in hin, xa_in hin, xa_in hin, xa_in hin, nI_clamp (by omega), cp_s, cp_s, cp_s, show nI i + 1 = nI (i + 1) from nI_1 _]
    exact ih (i + 1) n (by omega) (by omega)
theorem e_bec (a b c o p q : Nat → Int32) (s l g d s2 l2 g2 d2 : Int32) : f_X7_becomes FU a b c s2 l2 g2 d2 o p q s l g d = some (cp a 9 o, cp b 9 p, cp c 9 q, s, l, g, d) := by
  have h := e_becL a b c o p q s l g d s2 l2 g2 d2 9 0 FU (by omega) (by unfold FU; omega)
  rw [cp_0, cp_0, cp_0] at h
  exact h
theorem AR.cp {k : Nat} {ka fa ca a b c : Nat → Int32} {kd fg cs : Nat → Nat} (hA : AR k ka fa ca kd fg cs) : AR k (cp a 9 ka) (cp b 9 fa) (cp c 9 ca) kd fg cs := by
  refine ⟨hA.1, fun i hi => ?_⟩
  have := hA.1
  rw [cp_in (by omega), cp_in (by omega), cp_in (by omega)]
  exact hA.2 i hi
/-- the image: the class's and the model's -/
def IM (b : Int32) (xk xf xc : Nat → Int32) (xs xl xg xd : Int32) (kp : Nat → Int32) : Prop := b = 0 ∨ (b = 1 ∧ ∃ (k : Nat) (kd fg cs : Nat → Nat) (L G d : Nat), AR k xk xf xc kd fg cs ∧ xs = nI k ∧ xl = nI L ∧ xg = nI G ∧ xd = nI d ∧ L < 2 ^ k ∧ G < 2 ^ k ∧ d ≤ 999 ∧ (∀ j, j < 9 → kp j = xk j) ∧ (∀ j, j < 9 → kp (9 + j) = xf j) ∧ (∀ j, j < 9 → kp (18 + j) = xc j) ∧ kp 27 = xs ∧ kp 28 = xd ∧ kp 29 = xl ∧ kp 30 = xg)
theorem IM.keep {b : Int32} {xk xf xc : Nat → Int32} {xs xl xg xd : Int32} {kp kp' : Nat → Int32} (h : IM b xk xf xc xs xl xg xd kp) (hk : ∀ j, j < 31 → kp' j = kp j) : IM b xk xf xc xs xl xg xd kp' := by
  rcases h with h | ⟨hb, k, kd, fg, cs, L, G, d, h1, h2, h3, h4, h5, h6, h7, h8, h9, h10, h11, h12, h13, h14, h15⟩
  · exact Or.inl h
  · refine Or.inr ⟨hb, k, kd, fg, cs, L, G, d, h1, h2, h3, h4, h5, h6, h7, h8, ?_, ?_, ?_, ?_, ?_, ?_, ?_⟩
    · intro j hj; rw [hk j (by omega)]; exact h9 j hj
    · intro j hj; rw [hk _ (by omega)]; exact h10 j hj
    · intro j hj; rw [hk _ (by omega)]; exact h11 j hj
    · rw [hk _ (by omega)]; exact h12
    · rw [hk _ (by omega)]; exact h13
    · rw [hk _ (by omega)]; exact h14
    · rw [hk _ (by omega)]; exact h15
section CC
variable {k : Nat} {ka fa ca : Nat → Int32} {kd fg cs : Nat → Nat} {L G d : Nat}
theorem t_image (hA : AR k ka fa ca kd fg cs) (hL : L < 2 ^ k) (hG : G < 2 ^ k) (hd : d ≤ 999) (xk xf xc kp : Nat → Int32) (xs xl xg xd b ik cu : Int32) : ∃ (r : Int32) (xk' xf' xc' kp' : Nat → Int32) (xs' xl' xg' xd' ik' cu' : Int32), IM 1 xk' xf' xc' xs' xl' xg' xd' kp' ∧ f_X9_image FU ka fa ca (nI k) (nI L) (nI G) (nI d) xk xf xc xs xl xg xd b = some (r, xk', xf', xc', xs', xl', xg', xd', 1) ∧ f_X10_image FU ka fa ca (nI k) (nI d) (nI L) (nI G) kp b ik cu = some (r, ka, fa, ca, nI k, nI d, nI L, nI G, kp', 1, ik', cu') := by
  have hk := hA.1
  refine ⟨nI d, cp xk 9 ka, cp xf 9 fa, cp xc 9 ca, svd 0 kp ka fa ca (nI k) (nI d) (nI L) (nI G), nI k, nI L, nI G, nI d, 1, nI 31, ?_, ?_, ?_⟩
  · refine Or.inr ⟨rfl, k, kd, fg, cs, L, G, d, hA.cp, rfl, rfl, rfl, rfl, hL, hG, hd, ?_, ?_, ?_, ?_, ?_, ?_, ?_⟩
    · intro j hj
      unfold svd
      rw [if_neg (by omega), if_pos (by omega), cp_in hj]; rfl
    · intro j hj
      unfold svd
      rw [if_neg (by omega), if_neg (by omega), if_pos (by omega), cp_in hj, show 9 + j - (0 + 9) = j by omega]
    · intro j hj
      unfold svd
      rw [if_neg (by omega), if_neg (by omega), if_neg (by omega), if_pos (by omega), cp_in hj, show 18 + j - (0 + 18) = j by omega]
    · exact svd_th 0 _ _ _ _ _ _ _ _
    · exact svd_dy 0 _ _ _ _ _ _ _ _
    · exact svd_lt 0 _ _ _ _ _ _ _ _
    · exact svd_gu 0 _ _ _ _ _ _ _ _
  · unfold f_X9_image
    rw [e_bec, ob]
  · unfold f_X10_image
    rw [show (0 : Int32) = nI 0 from rfl, e_all1 0 (by omega), ob]
theorem t_on (hA : AR k ka fa ca kd fg cs) (hL : L < 2 ^ k) (hG : G < 2 ^ k) (hd : d ≤ 999) {b : Int32} {xk xf xc kp : Nat → Int32} {xs xl xg xd : Int32} (hI : IM b xk xf xc xs xl xg xd kp) (rf : Nat → Int32) (ik cu : Int32) : ∃ (r : Int32) (ka' fa' ca' rf' : Nat → Int32) (k' L' G' d' : Nat) (kd' fg' cs' : Nat → Nat) (ik' cu' : Int32), AR k' ka' fa' ca' kd' fg' cs' ∧ L' < 2 ^ k' ∧ G' < 2 ^ k' ∧ d' ≤ 999 ∧ f_X9_on FU ka fa ca (nI k) (nI L) (nI G) (nI d) xk xf xc xs xl xg xd rf b = some (r, ka', fa', ca', nI k', nI L', nI G', nI d', rf') ∧ f_X10_on FU rf ka fa ca (nI k) (nI d) (nI L) (nI G) kp b ik cu = some (r, rf', ka', fa', ca', nI k', nI d', nI L', nI G', kp, ik', cu') := by
  unfold f_X9_on f_X10_on
  rcases hI with rfl | ⟨rfl, k', kd', fg', cs', L', G', d', h1, rfl, rfl, rfl, rfl, h6, h7, h8, h9, h10, h11, h12, h13, h14, h15⟩
  · refine ⟨-3, ka, fa, ca, rfu rf 3, k, L, G, d, kd, fg, cs, ik, cu, hA, hL, hG, hd, ?_, ?_⟩
    · rw [if_pos rfl, e_ref3, ob]
    · rw [if_pos rfl, e_no3, ob]
  · refine ⟨nI d', cp ka 9 xk, cp fa 9 xf, cp ca 9 xc, rf, k', L', G', d', kd', fg', cs', 0, nI 31, h1.cp, h6, h7, h8, ?_, ?_⟩
    · rw [if_neg n10, e_bec, ob]
    · rw [if_neg n10, show f_X10_passesAll FU ka fa ca (nI k) (nI d) (nI L) (nI G) kp ik cu 0 0 = _ from e_all0 0 (by omega) kp ka fa ca (nI k) (nI d) (nI L) (nI G) ik cu, ob]
      have q1 : rsn ka 9 kp (31 * 0) = cp ka 9 xk := by
        funext j; unfold rsn cp
        by_cases hj : j < 9
        · rw [if_pos hj, if_pos hj, show 31 * 0 + j = j by omega, h9 j hj]
        · rw [if_neg hj, if_neg hj]
      have q2 : rsn fa 9 kp (31 * 0 + 9) = cp fa 9 xf := by
        funext j; unfold rsn cp
        by_cases hj : j < 9
        · rw [if_pos hj, if_pos hj, show 31 * 0 + 9 + j = 9 + j by omega, h10 j hj]
        · rw [if_neg hj, if_neg hj]
      have q3 : rsn ca 9 kp (31 * 0 + 18) = cp ca 9 xc := by
        funext j; unfold rsn cp
        by_cases hj : j < 9
        · rw [if_pos hj, if_pos hj, show 31 * 0 + 18 + j = 18 + j by omega, h11 j hj]
        · rw [if_neg hj, if_neg hj]
      rw [q1, q2, q3]
      dsimp only
      rw [show 31 * 0 + 27 = 27 from rfl, show 31 * 0 + 28 = 28 from rfl, show 31 * 0 + 29 = 29 from rfl, show 31 * 0 + 30 = 30 from rfl, h12, h13, h14, h15]
theorem e_alcL (hA : AR k ka fa ca kd fg cs) : ∀ (j i n : Nat), i + j = k → j < n → f_X7_allCauses_4 FU ca (nI k) n (nI (alc cs i)) (nI i) = some (nI (alc cs k)) := by
  have hk := hA.1
  intro j
  induction j with
  | zero =>
    intro i n hi hn
    obtain ⟨n, rfl⟩ : ∃ z, n = z + 1 := ⟨n - 1, by omega⟩
    have : i = k := by omega
    subst this
    rw [f_X7_allCauses_4, if_pos (Int32.le_refl _)]
  | succ j ih =>
    intro i n hi hn
    obtain ⟨n, rfl⟩ : ∃ z, n = z + 1 := ⟨n - 1, by omega⟩
    have hik : i < k := by omega
    rw [f_X7_allCauses_4, if_neg (nI_ge hik (by omega)), e_caus hA hik, ob, e_bc _ (hA.cs9 hik), ob, nI_add, show nI i + 1 = nI (i + 1) from nI_1 _]
    exact ih (i + 1) n (by omega) (by omega)
theorem e_almL (hA : AR k ka fa ca kd fg cs) : ∀ (j i n : Nat), i + j = k → j < n → f_X10_allCauses_4 FU ca (nI k) n (nI (alc cs i)) (nI i) = some (nI (alc cs k)) := by
  have hk := hA.1
  intro j
  induction j with
  | zero =>
    intro i n hi hn
    obtain ⟨n, rfl⟩ : ∃ z, n = z + 1 := ⟨n - 1, by omega⟩
    have : i = k := by omega
    subst this
    rw [f_X10_allCauses_4, if_pos (Int32.le_refl _)]
  | succ j ih =>
    intro i n hi hn
    obtain ⟨n, rfl⟩ : ∃ z, n = z + 1 := ⟨n - 1, by omega⟩
    have hik : i < k := by omega
    rw [f_X10_allCauses_4, if_neg (nI_ge hik (by omega)), xa_in (vp_in_nI (by omega) (by omega)), nI_clamp (by omega), (hA.2 i hik).2.2.1, e_bits _ (hA.cs9 hik), ob, nI_add, show nI i + 1 = nI (i + 1) from nI_1 _]
    exact ih (i + 1) n (by omega) (by omega)
theorem e_alc (hA : AR k ka fa ca kd fg cs) : f_X7_allCauses FU ca (nI k) = some (nI (alc cs k)) := e_alcL hA k 0 FU (by omega) (by have := hA.1; unfold FU; omega)
theorem e_alm (hA : AR k ka fa ca kd fg cs) : f_X10_allCauses FU ca (nI k) = some (nI (alc cs k)) := e_almL hA k 0 FU (by omega) (by have := hA.1; unfold FU; omega)
theorem t_mean (hA : AR k ka fa ca kd fg cs) (rf : Nat → Int32) (x : Int32) : ∃ (r : Int64) (rf' : Nat → Int32), f_X9_mean FU ca (nI k) rf x = some (r, rf') ∧ f_X10_mean FU rf ca (nI k) x = some (r, rf') := by
  have hk := hA.1
  have ha := alc_le cs k
  unfold f_X9_mean f_X10_mean
  have main : ∀ (_ : x = 0 ∨ x = 1), ∃ r : Int64, (((f_X7_allCauses FU ca (nI k)).bind fun x_3 => ((f_X1_part FU (Int32.toInt64 x_3) (Int32.toInt64 (if (1) < nI k then nI k else 1)) x).bind fun x_4 => (some (x_4, rf)))) = some (r, rf)) ∧ ((if nI k = 0 then (some ((Int32.toInt64 x), rf)) else ((f_X10_allCauses FU ca (nI k)).bind fun x_4 => ((f_X10_partOf FU (Int32.toInt64 x_4) (Int32.toInt64 (nI k)) x).bind fun x_5 => (some (x_5, rf))))) = some (r, rf)) := by
    intro hx
    rw [e_alc hA, ob, e_alm hA, ob, nI_l (by omega), nI_l (by omega)]
    by_cases h0 : k = 0
    · subst h0
      refine ⟨Int32.toInt64 x, ?_, ?_⟩
      · rw [show (if (1 : Int32) < nI 0 then nI 0 else 1) = 1 from rfl, show alc cs 0 = 0 from rfl]
        rcases hx with rfl | rfl
        · rw [show f_X1_part FU (lN 0) (Int32.toInt64 1) 0 = some (Int32.toInt64 0) by decide +kernel, ob]
        · rw [show f_X1_part FU (lN 0) (Int32.toInt64 1) 1 = some (Int32.toInt64 1) by decide +kernel, ob]
      · rw [if_pos (show nI 0 = 0 from rfl)]
    · have hm : (if (1 : Int32) < nI k then nI k else 1) = nI k := by
        by_cases h1 : k = 1
        · subst h1; rfl
        · rw [if_pos (show (1 : Int32) < nI k from nI_lt (a := 1) (by omega) (by omega))]
      obtain ⟨r, f1, f2⟩ := e_frac (a := alc cs k) (b := k) (by omega) (by omega) (by omega) x
      refine ⟨r, ?_, ?_⟩
      · rw [hm, nI_l (by omega), f1, ob]
      · rw [if_neg (nI_ne0 (by omega) (by omega)), f2, ob]
  rcases e_prt x with ⟨hx, h1, h2⟩ | ⟨hx, h1, h2⟩ | ⟨h3, h4, h1, h2⟩
  · obtain ⟨r, m1, m2⟩ := main (Or.inl hx)
    exact ⟨r, rf, by rw [h1, ob, if_neg n10]; exact m1, by rw [h2, ob, if_neg n10]; exact m2⟩
  · obtain ⟨r, m1, m2⟩ := main (Or.inr hx)
    exact ⟨r, rf, by rw [h1, ob, if_neg n10]; exact m1, by rw [h2, ob, if_neg n10]; exact m2⟩
  · exact ⟨lgr (-2), rfu rf 2, by rw [h1, ob, if_pos rfl, e_rfl2, ob], by rw [h2, ob, if_pos rfl, e_low2, ob]⟩
theorem e_11 (x : Int32) : (f_X10_isIn x 11 16 = some 1 ∧ ∃ n, 11 ≤ n ∧ n ≤ 16 ∧ x = nI n) ∨ (f_X10_isIn x 11 16 = some 0 ∧ (x < 11 ∨ 16 < x)) := by
  unfold f_X10_isIn
  by_cases h1 : x < 11
  · exact Or.inr ⟨by rw [if_pos h1], Or.inl h1⟩
  · by_cases h2 : 16 < x
    · exact Or.inr ⟨by rw [if_neg h1, if_pos h2], Or.inr h2⟩
    · refine Or.inl ⟨by rw [if_neg h1, if_neg h2], ?_⟩
      have h0 : ¬ x < 0 := fun z => h1 (Int32.lt_trans z (by decide))
      obtain ⟨n, hn, rfl⟩ := nI_of2 (M := 16) (n := 16) rfl h0 (Int32.not_lt.mp h2)
      exact ⟨n, by have : ¬ n < 11 := fun z => h1 (nI_lt (b := 11) z (by omega)); omega, hn, rfl⟩
theorem t_count (hA : AR k ka fa ca kd fg cs) (hL : L < 2 ^ k) (rf : Nat → Int32) (gd dy nl nr x : Int32) : ∃ r : Int32, f_X9_count FU ca (nI k) (nI L) gd dy nl nr rf x = some r ∧ f_X10_count FU rf ca (nI k) dy (nI L) gd nl nr x = some r := by
  have hk := hA.1
  have hs : sdf (nlf cs k) L < 512 := p9 hk (sdf_lt (nlf_lt cs k))
  unfold f_X9_count f_X10_count
  rw [e_alc hA, ob, e_alm hA, ob, e_nlc hA, ob, e_nlm hA, ob, nI_sdf, e_bc _ hs, ob, e_bits _ hs, ob]
  rcases e_11 x with ⟨h1, n, ha, hb, rfl⟩ | ⟨h1, h2⟩
  · refine ⟨rf (n - 10), ?_, ?_⟩
    · have hn : n = 11 ∨ n = 12 ∨ n = 13 ∨ n = 14 ∨ n = 15 ∨ n = 16 := by omega
      rcases hn with rfl | rfl | rfl | rfl | rfl | rfl <;> rfl
    · rw [h1, ob, if_neg n10, show nI n - 10 = nI (n - 10) from pk_sub (b := 10) (by omega), xa_in (vp_in_nI (by omega) (by omega)), nI_clamp (by omega)]
  · rw [h1, ob, if_pos rfl]
    by_cases c0 : x = 0
    · exact ⟨_, by rw [if_pos c0], by rw [if_pos c0]⟩
    rw [if_neg c0, if_neg c0]
    by_cases c1 : x = 1
    · exact ⟨_, by rw [if_pos c1], by rw [if_pos c1]⟩
    rw [if_neg c1, if_neg c1]
    by_cases c2 : x = 2
    · exact ⟨_, by rw [if_pos c2], by rw [if_pos c2]⟩
    rw [if_neg c2, if_neg c2]
    by_cases c3 : x = 3
    · exact ⟨_, by rw [if_pos c3], by rw [if_pos c3]⟩
    rw [if_neg c3, if_neg c3]
    by_cases c4 : x = 4
    · exact ⟨_, by rw [if_pos c4], by rw [if_pos c4]⟩
    rw [if_neg c4, if_neg c4]
    by_cases c5 : x = 5
    · exact ⟨_, by rw [if_pos c5], by rw [if_pos c5]⟩
    rw [if_neg c5, if_neg c5]
    by_cases c6 : x = 6
    · exact ⟨_, by rw [if_pos c6], by rw [if_pos c6]⟩
    rw [if_neg c6, if_neg c6]
    by_cases c7 : x = 7
    · exact ⟨_, by rw [if_pos c7], by rw [if_pos c7]⟩
    rw [if_neg c7, if_neg c7]
    refine ⟨-9, ?_, rfl⟩
    by_cases c8 : x ≤ 10
    · rw [if_pos c8]
    · rw [if_neg c8]
      rcases h2 with h2 | h2
      · exfalso
        have h0 : ¬ x < 0 := fun z => c8 (Int32.le_of_lt (Int32.lt_trans z (by decide)))
        obtain ⟨n, hn, rfl⟩ := nI_of h0
        have g1 := (nI_ltI (b := 11) hn (by omega)).mp h2
        exact c8 (nI_le (b := 10) (by omega) (by omega))
      · rw [if_pos h2]
end CC
