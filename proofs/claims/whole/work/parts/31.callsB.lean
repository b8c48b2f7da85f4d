/-! CALLS, second part: roots, fruits, nails, saved, hooks, row, judge -/
def im (j : Nat) : Int32 := match j with
  | 0 => -1
  | j + 1 => nI j
theorem im_sub (t : Nat) : nI t - 1 = im t := by
  cases t with
  | zero => decide
  | succ t => exact nI_pred t
theorem im_add (t : Nat) : nI t + (-1) = im t := by
  cases t with
  | zero => decide
  | succ t => exact pk_m1 t
def nlf (cs : Nat → Nat) : Nat → Nat
  | 0 => 0
  | i + 1 => nlf cs i ||| (if cs i = 0 then 2 ^ i else 0)
theorem nlf_lt (cs : Nat → Nat) : ∀ i, nlf cs i < 2 ^ i
  | 0 => by simp [nlf]
  | i + 1 => by
    have h := nlf_lt cs i
    have h1 : 2 ^ i < 2 ^ (i + 1) := Nat.pow_lt_pow_right (by omega) (by omega)
    have h0 : 0 < 2 ^ (i + 1) := Nat.two_pow_pos _
    rw [nlf]
    refine or_lt (by omega) ?_
    split <;> omega
theorem nlf_bit (cs : Nat → Nat) : ∀ i j, (nlf cs i).testBit j = decide (j < i ∧ cs j = 0) := by
  intro i
  induction i with
  | zero => intro j; simp [nlf]
  | succ i ih =>
    intro j
    rw [nlf, Nat.testBit_or, ih j]
    by_cases h : j = i
    · subst h
      by_cases hc : cs j = 0
      · rw [if_pos hc, Nat.testBit_two_pow]; simp [hc]
      · rw [if_neg hc]; simp [hc]
    · have h3 : (if cs i = 0 then 2 ^ i else 0).testBit j = false := by
        split
        · rw [Nat.testBit_two_pow]; exact decide_eq_false (fun z => h z.symm)
        · exact Nat.zero_testBit j
      rw [h3, Bool.or_false]
      by_cases hj : j < i
      · have : j < i + 1 := by omega
        simp [hj, this]
      · have : ¬ j < i + 1 := by omega
        simp [hj, this]
def rt (cs : Nat → Nat) : Nat → Nat → Nat
  | 0, b => b
  | j + 1, b => rt cs j (if b.testBit j = true then b ||| cs j else b)
def rts (cs : Nat → Nat) (t : Nat) : Nat := rt cs t (cs t)
def frt (cs : Nat → Nat) (t : Nat) : Nat → Nat
  | 0 => 0
  | i + 1 => frt cs t i ||| (if (rts cs i).testBit t = true then 2 ^ i else 0)
theorem frt_lt (cs : Nat → Nat) (t : Nat) : ∀ i, frt cs t i < 2 ^ i
  | 0 => by simp [frt]
  | i + 1 => by
    have h := frt_lt cs t i
    have h1 : 2 ^ i < 2 ^ (i + 1) := Nat.pow_lt_pow_right (by omega) (by omega)
    have h0 : 0 < 2 ^ (i + 1) := Nat.two_pow_pos _
    rw [frt]
    refine or_lt (by omega) ?_
    split <;> omega
theorem rt_lt {cs : Nat → Nat} {n : Nat} : ∀ (j b : Nat), b < 2 ^ n → (∀ i, i < j → cs i < 2 ^ n) → rt cs j b < 2 ^ n
  | 0, _, h, _ => h
  | j + 1, b, h, hc => by
    rw [rt]
    refine rt_lt j _ ?_ (fun i hi => hc i (by omega))
    split
    · exact or_lt h (hc j (by omega))
    · exact h
section CB
variable {k : Nat} {ka fa ca : Nat → Int32} {kd fg cs : Nat → Nat} {L G d : Nat}
theorem rts_lt (hA : AR k ka fa ca kd fg cs) {i : Nat} (hi : i < k) : rts cs i < 2 ^ i :=
  rt_lt i _ (hA.2 i hi).2.2.2 (fun j hj => lt_pw (hA.2 j (by omega)).2.2.2 (by omega))
theorem e_nlcL (hA : AR k ka fa ca kd fg cs) : ∀ (j i n : Nat), i + j = k → j < n → f_X7_withoutCauses_4 FU ca (nI k) n (nI (nlf cs i)) (nI i) = some (nI (nlf cs k)) := by
  have hk := hA.1
  intro j
  induction j with
  | zero =>
    intro i n hi hn
    obtain ⟨n, rfl⟩ : ∃ z, n = z + 1 := ⟨n - 1, by omega⟩
    have : i = k := by omega
    subst this
    rw [f_X7_withoutCauses_4, if_pos (Int32.le_refl _)]
  | succ j ih =>
    intro i n hi hn
    obtain ⟨n, rfl⟩ : ∃ z, n = z + 1 := ⟨n - 1, by omega⟩
    have hik : i < k := by omega
    have nx := ih (i + 1) n (by omega) (by omega)
    rw [nlf] at nx
    rw [f_X7_withoutCauses_4, if_neg (nI_ge hik (by omega)), e_caus hA hik, ob]
    by_cases h0 : cs i = 0
    · rw [h0, if_pos (show nI 0 = 0 from rfl), f_X7_withoutCauses_26, nI_pow i (by omega), nI_or, show nI i + 1 = nI (i + 1) from nI_1 _]
      rw [if_pos h0] at nx
      exact nx
    · have hc9 := hA.cs9 hik
      rw [if_neg (show ¬ nI (cs i) = 0 from nI_ne0 (by omega) (by omega)), f_X7_withoutCauses_26, show nI i + 1 = nI (i + 1) from nI_1 _]
      rw [if_neg h0, Nat.or_zero] at nx
      exact nx
theorem e_nlc (hA : AR k ka fa ca kd fg cs) : f_X7_withoutCauses FU ca (nI k) = some (nI (nlf cs k)) :=
  e_nlcL hA k 0 FU (by omega) (by have := hA.1; unfold FU; omega)
theorem e_nlmL (hA : AR k ka fa ca kd fg cs) : ∀ (j i n : Nat), i + j = k → j < n → f_X10_nails_4 FU ca (nI k) n (nI (nlf cs i)) (nI i) = some (nI (nlf cs k)) := by
  have hk := hA.1
  intro j
  induction j with
  | zero =>
    intro i n hi hn
    obtain ⟨n, rfl⟩ : ∃ z, n = z + 1 := ⟨n - 1, by omega⟩
    have : i = k := by omega
    subst this
    rw [f_X10_nails_4, if_pos (Int32.le_refl _)]
  | succ j ih =>
    intro i n hi hn
    obtain ⟨n, rfl⟩ : ∃ z, n = z + 1 := ⟨n - 1, by omega⟩
    have hik : i < k := by omega
    have nx := ih (i + 1) n (by omega) (by omega)
    rw [nlf] at nx
    rw [f_X10_nails_4, if_neg (nI_ge hik (by omega)), xa_in (vp_in_nI (by omega) (by omega)), nI_clamp (by omega), (hA.2 i hik).2.2.1]
    by_cases h0 : cs i = 0
    · rw [h0, if_pos (show nI 0 = 0 from rfl), f_X10_nails_29, nI_pow i (by omega), nI_or, show nI i + 1 = nI (i + 1) from nI_1 _]
      rw [if_pos h0] at nx
      exact nx
    · have hc9 := hA.cs9 hik
      rw [if_neg (show ¬ nI (cs i) = 0 from nI_ne0 (by omega) (by omega)), f_X10_nails_29, show nI i + 1 = nI (i + 1) from nI_1 _, show (0 : Int32) = nI 0 from rfl, nI_or]
      rw [if_neg h0] at nx
      exact nx
theorem e_nlm (hA : AR k ka fa ca kd fg cs) : f_X10_nails FU ca (nI k) = some (nI (nlf cs k)) :=
  e_nlmL hA k 0 FU (by omega) (by have := hA.1; unfold FU; omega)
theorem t_nails (hA : AR k ka fa ca kd fg cs) : ∃ r : Int32, f_X9_nails FU ca (nI k) = some r ∧ f_X10_nails FU ca (nI k) = some r :=
  ⟨nI (nlf cs k), by unfold f_X9_nails; rw [e_nlc hA, ob], e_nlm hA⟩
theorem e_rtcL (hA : AR k ka fa ca kd fg cs) (p1 : Int32) : ∀ (j n b : Nat), j ≤ k → j < n → f_X7_rootsOf_10 FU ca (nI k) p1 n (nI b) (im j) = some (nI (rt cs j b)) := by
  have hk := hA.1
  intro j
  induction j with
  | zero =>
    intro n b _ hn
    obtain ⟨n, rfl⟩ : ∃ z, n = z + 1 := ⟨n - 1, by omega⟩
    rw [f_X7_rootsOf_10, if_pos (show im 0 < 0 by decide), rt]
  | succ j ih =>
    intro n b hj hn
    obtain ⟨n, rfl⟩ : ∃ z, n = z + 1 := ⟨n - 1, by omega⟩
    have hjk : j < k := by omega
    rw [f_X7_rootsOf_10, show im (j + 1) = nI j from rfl, if_neg (nI_pos (by omega)), rt]
    by_cases hb : b.testBit j = true
    · rw [if_neg (fun z => by rw [(nI_has0 (by omega)).mp z] at hb; cases hb), e_caus hA hjk, ob, f_X7_rootsOf_30, nI_or, im_add, if_pos hb]
      exact ih n _ (by omega) (by omega)
    · rw [if_pos ((nI_has0 (by omega)).mpr (bfalse hb)), f_X7_rootsOf_30, im_add, if_neg hb]
      exact ih n _ (by omega) (by omega)
theorem e_rtc (hA : AR k ka fa ca kd fg cs) {t : Nat} (ht : t < k) : f_X7_rootsOf FU ca (nI k) (nI t) = some (nI (rts cs t)) := by
  unfold f_X7_rootsOf
  rw [e_caus hA ht, ob, im_sub]
  exact e_rtcL hA _ t FU (cs t) (by omega) (by have := hA.1; unfold FU; omega)
theorem e_rtmL (hA : AR k ka fa ca kd fg cs) {t : Nat} (ht : t < k) : ∀ (j n b : Nat), j ≤ t → j < n → b < 2 ^ t → f_X10_rootsOf_6 FU ca (nI t) n (nI (2 ^ t ||| b)) (im j) = some (nI (rt cs j b)) := by
  have hk := hA.1
  have hpt : 2 ^ t < 2 ^ 9 := pw_lt (by omega)
  intro j
  induction j with
  | zero =>
    intro n b _ hn hb
    obtain ⟨n, rfl⟩ : ∃ z, n = z + 1 := ⟨n - 1, by omega⟩
    have e : sdf (2 ^ t ||| b) (2 ^ t) = b := by
      refine Nat.eq_of_testBit_eq fun i => ?_
      rw [sdf_bit, Nat.testBit_or, Nat.testBit_two_pow]
      by_cases h : t = i
      · subst h; rw [Nat.testBit_lt_two_pow hb]; simp
      · simp [h]
    rw [f_X10_rootsOf_6, if_pos (show im 0 < 0 by decide), rt, nI_pow t (by omega), nI_sdf, e]
  | succ j ih =>
    intro n b hj hn hb
    obtain ⟨n, rfl⟩ : ∃ z, n = z + 1 := ⟨n - 1, by omega⟩
    have hjk : j < k := by omega
    have hlt : 2 ^ t ||| b < 2 ^ 9 := or_lt hpt (lt_pw hb (by omega))
    have hbb : (2 ^ t ||| b).testBit j = b.testBit j := by
      rw [Nat.testBit_or, Nat.testBit_two_pow, decide_eq_false (by omega), Bool.false_or]
    rw [f_X10_rootsOf_6, show im (j + 1) = nI j from rfl, if_neg (nI_pos (by omega)), rt]
    by_cases hbj : b.testBit j = true
    · rw [e_mhasT (by omega) (by omega) (by rw [hbb]; exact hbj), ob, if_neg n10, xa_in (vp_in_nI (by omega) (by omega)), nI_clamp (by omega), (hA.2 j hjk).2.2.1, f_X10_rootsOf_29, nI_or, im_add, if_pos hbj, Nat.or_assoc]
      exact ih n _ (by omega) (by omega) (or_lt hb (lt_pw (hA.2 j hjk).2.2.2 (by omega)))
    · rw [e_mhasF (by omega) (by omega) (by rw [hbb]; exact bfalse hbj), ob, if_pos rfl, f_X10_rootsOf_29, show (0 : Int32) = nI 0 from rfl, nI_or, Nat.or_zero, im_add, if_neg hbj]
      exact ih n _ (by omega) (by omega) hb
theorem e_rtm (hA : AR k ka fa ca kd fg cs) {t : Nat} (ht : t < k) : f_X10_rootsOf FU ca (nI t) = some (nI (rts cs t)) := by
  have hk := hA.1
  have hpt : 2 ^ t < 2 ^ 9 := pw_lt (by omega)
  unfold f_X10_rootsOf
  rw [nI_pow t (by omega)]
  have hF : FU = 999 + 1 := rfl
  rw [show f_X10_rootsOf_6 FU ca (nI t) FU = f_X10_rootsOf_6 FU ca (nI t) (999 + 1) from rfl, f_X10_rootsOf_6, if_neg (nI_pos (by omega)), e_mhasT (by omega) (by omega) (by rw [Nat.testBit_two_pow]; simp), ob, if_neg n10, xa_in (vp_in_nI (by omega) (by omega)), nI_clamp (by omega), (hA.2 t ht).2.2.1, f_X10_rootsOf_29, nI_or, im_add]
  exact e_rtmL hA ht t 999 (cs t) (by omega) (by omega) (hA.2 t ht).2.2.2
theorem e_frcL (hA : AR k ka fa ca kd fg cs) {t : Nat} (ht : t < k) : ∀ (j i n : Nat), i + j = k → j < n → f_X7_fruitsOf_4 FU ca (nI k) (nI t) n (nI (frt cs t i)) (nI i) = some (nI (frt cs t k)) := by
  have hk := hA.1
  intro j
  induction j with
  | zero =>
    intro i n hi hn
    obtain ⟨n, rfl⟩ : ∃ z, n = z + 1 := ⟨n - 1, by omega⟩
    have : i = k := by omega
    subst this
    rw [f_X7_fruitsOf_4, if_pos (Int32.le_refl _)]
  | succ j ih =>
    intro i n hi hn
    obtain ⟨n, rfl⟩ : ∃ z, n = z + 1 := ⟨n - 1, by omega⟩
    have hik : i < k := by omega
    have nx := ih (i + 1) n (by omega) (by omega)
    rw [frt] at nx
    rw [f_X7_fruitsOf_4, if_neg (nI_ge hik (by omega)), e_rtc hA hik, ob]
    by_cases h0 : (rts cs i).testBit t = true
    · rw [if_neg (fun z => by rw [(nI_has0 (by omega)).mp z] at h0; cases h0), f_X7_fruitsOf_30, nI_pow i (by omega), nI_or, show nI i + 1 = nI (i + 1) from nI_1 _]
      rw [if_pos h0] at nx
      exact nx
    · rw [if_pos ((nI_has0 (by omega)).mpr (bfalse h0)), f_X7_fruitsOf_30, show nI i + 1 = nI (i + 1) from nI_1 _]
      rw [if_neg h0, Nat.or_zero] at nx
      exact nx
theorem e_frc (hA : AR k ka fa ca kd fg cs) {t : Nat} (ht : t < k) : f_X7_fruitsOf FU ca (nI k) (nI t) = some (nI (frt cs t k)) :=
  e_frcL hA ht k 0 FU (by omega) (by have := hA.1; unfold FU; omega)
theorem e_frmL (hA : AR k ka fa ca kd fg cs) {t : Nat} (ht : t < k) : ∀ (j i n : Nat), i + j = k → j < n → f_X10_fruitsOf_6 FU ca (nI k) (nI t) n (nI (frt cs t i)) (nI i) = some (nI (frt cs t k)) := by
  have hk := hA.1
  intro j
  induction j with
  | zero =>
    intro i n hi hn
    obtain ⟨n, rfl⟩ : ∃ z, n = z + 1 := ⟨n - 1, by omega⟩
    have : i = k := by omega
    subst this
    rw [f_X10_fruitsOf_6, if_pos (Int32.le_refl _)]
  | succ j ih =>
    intro i n hi hn
    obtain ⟨n, rfl⟩ : ∃ z, n = z + 1 := ⟨n - 1, by omega⟩
    have hik : i < k := by omega
    have nx := ih (i + 1) n (by omega) (by omega)
    have hr := p9 (k := i) (by omega) (rts_lt hA hik)
    rw [frt] at nx
    rw [f_X10_fruitsOf_6, if_neg (nI_ge hik (by omega)), e_rtm hA hik, ob]
    by_cases h0 : (rts cs i).testBit t = true
    · rw [e_mhasT (by omega) (by omega) h0, ob, if_neg n10, f_X10_fruitsOf_34, nI_pow i (by omega), nI_or, show nI i + 1 = nI (i + 1) from nI_1 _]
      rw [if_pos h0] at nx
      exact nx
    · rw [e_mhasF (by omega) (by omega) (bfalse h0), ob, if_pos rfl, f_X10_fruitsOf_34, show nI i + 1 = nI (i + 1) from nI_1 _, show (0 : Int32) = nI 0 from rfl, nI_or]
      rw [if_neg h0] at nx
      exact nx
theorem frt_low (hA : AR k ka fa ca kd fg cs) {t : Nat} (ht : t < k) : ∀ i, i ≤ t + 1 → frt cs t i = 0
  | 0, _ => rfl
  | i + 1, h => by
    rw [frt, frt_low hA ht i (by omega)]
    have hr := rts_lt hA (i := i) (by omega)
    rw [Nat.testBit_lt_two_pow (lt_pw hr (by omega : i ≤ t)), if_neg (by decide)]
    rfl
theorem e_frm (hA : AR k ka fa ca kd fg cs) {t : Nat} (ht : t < k) : f_X10_fruitsOf FU ca (nI k) (nI t) = some (nI (frt cs t k)) := by
  have h := e_frmL hA ht (k - (t + 1)) (t + 1) FU (by omega) (by have := hA.1; unfold FU; omega)
  rw [frt_low hA ht (t + 1) (by omega)] at h
  unfold f_X10_fruitsOf
  rw [show nI t + 1 = nI (t + 1) from nI_1 _]
  exact h
theorem t_roots (hA : AR k ka fa ca kd fg cs) (rf : Nat → Int32) (x y : Int32) : ∃ (r : Int32) (rf' : Nat → Int32), f_X9_roots FU ca (nI k) rf x y = some (r, rf') ∧ f_X10_roots FU rf ca (nI k) x y = some (r, rf') := by
  have hk := hA.1
  unfold f_X9_roots f_X10_roots
  rcases pk_ix x (n := k) (by omega) with h | h | ⟨i, hi, rfl⟩
  · refine ⟨-1, rfu rf 1, ?_, ?_⟩
    · rw [e_has0 (Or.inl h), ob, if_pos rfl, e_ref1, ob]
    · rw [e_isT0 (Or.inl h), ob, if_pos rfl, f_X10_roots_27, if_neg nm1, e_no1, ob]
  · refine ⟨-1, rfu rf 1, ?_, ?_⟩
    · rw [e_has0 (Or.inr h), ob, if_pos rfl, e_ref1, ob]
    · rw [e_isT0 (Or.inr h), ob, if_pos rfl, f_X10_roots_27, if_neg nm1, e_no1, ob]
  · rw [e_has hk hi, ob, if_neg n10, e_isT hk hi, ob, if_neg n10]
    rcases e_prt y with ⟨rfl, h1, h2⟩ | ⟨rfl, h1, h2⟩ | ⟨h3, h4, h1, h2⟩
    · refine ⟨nI (rts cs i), rf, ?_, ?_⟩
      · rw [h1, ob, if_neg n10, if_pos rfl, e_rtc hA hi, ob]
      · rw [h2, ob, if_neg n10, f_X10_roots_27, if_pos rfl, if_pos rfl, e_rtm hA hi, ob]
    · refine ⟨nI (frt cs i k), rf, ?_, ?_⟩
      · rw [h1, ob, if_neg n10, if_neg n10, e_frc hA hi, ob]
      · rw [h2, ob, if_neg n10, f_X10_roots_27, if_pos rfl, if_neg n10, e_frm hA hi, ob]
    · refine ⟨-2, rfu rf 2, ?_, ?_⟩
      · rw [h1, ob, if_pos rfl, e_ref2, ob]
      · rw [h2, ob, if_pos rfl, f_X10_roots_27, if_neg nm2, e_no2, ob]
theorem t_saved (hA : AR k ka fa ca kd fg cs) (hL : L < 2 ^ k) (hG : G < 2 ^ k) (hd : d ≤ 999) (rf kp : Nat → Int32) (ik cu x y : Int32) : QI rf ka fa ca kp k d L G (f_X9_saved FU ka fa ca (nI k) (nI L) (nI G) (nI d) rf x y) (f_X10_saved FU rf ka fa ca (nI k) (nI d) (nI L) (nI G) kp ik cu x y) := by
  have hk := hA.1
  unfold f_X9_saved f_X10_saved
  rcases pk_ix x (n := k) (by omega) with h | h | ⟨i, hi, rfl⟩
  · refine ⟨-1, rfu rf 1, kp, ik, cu, ?_, ?_, fun _ _ => rfl⟩
    · rw [e_has0 (Or.inl h), ob, if_pos rfl, e_ref1, ob]
    · rw [e_isT0 (Or.inl h), ob, if_pos rfl, f_X10_saved_19, if_neg nm1, e_no1, ob]
  · refine ⟨-1, rfu rf 1, kp, ik, cu, ?_, ?_, fun _ _ => rfl⟩
    · rw [e_has0 (Or.inr h), ob, if_pos rfl, e_ref1, ob]
    · rw [e_isT0 (Or.inr h), ob, if_pos rfl, f_X10_saved_19, if_neg nm1, e_no1, ob]
  · rw [e_has hk hi, ob, if_neg n10, e_isT hk hi, ob, if_neg n10]
    rcases e_b0_30 y with ⟨h1, h2⟩ | ⟨h1, h2⟩ | ⟨n, -, hn, rfl, h1, h2⟩
    · refine ⟨-4, rfu rf 4, kp, ik, cu, ?_, ?_, fun _ _ => rfl⟩
      · rw [h1, ob, if_neg nm4, e_ref4, ob]
      · rw [h2, ob, f_X10_saved_19, if_neg nm4, e_no4, ob]
    · refine ⟨-6, rfu rf 6, kp, ik, cu, ?_, ?_, fun _ _ => rfl⟩
      · rw [h1, ob, if_neg nm6, e_ref6, ob]
      · rw [h2, ob, f_X10_saved_19, if_neg nm6, e_no6, ob]
    · have hL' : sdf L (2 ^ i) < 2 ^ k := sdf_lt hL
      have r1 := run_lt (kd := kd) (fg := fg) (cs := cs) (G := G) (d := d) hL n
      have r2 := run_lt (kd := kd) (fg := fg) (cs := cs) (G := G) (d := d) hL' n
      refine ⟨nI (pcn (run k kd fg cs L G d n)) - nI (pcn (run k kd fg cs (sdf L (2 ^ i)) G d n)), rf, SV (SV kp ka fa ca k d L G) ka fa ca k d (sdf L (2 ^ i)) G, 0, nI 93, ?_, ?_, fun j h => by rw [SV_lo _ _ _ _ _ _ _ _ h, SV_lo _ _ _ _ _ _ _ _ h]⟩
      · rw [h1, ob, if_pos rfl, f_X4_savedBy, e_lb hA hL (by omega) (by omega), ob, nI_pow i (by omega), nI_sdf, e_lb hA hL' (by omega) (by omega), ob, e_bc _ (p9 hk r1), ob, e_bc _ (p9 hk r2), ob, ob]
      · rw [h2, ob, f_X10_saved_19, if_pos rfl, e_lostIn hA hL hG (by omega) (by omega), ob, e_bits _ (p9 hk r1), ob]
        dsimp only
        rw [nI_pow i (by omega), nI_sdf, e_lostIn hA hL' hG (by omega) (by omega), ob, e_bits _ (p9 hk r2), ob]
theorem e_all1' : ∀ k, k ≤ 9 → ((1 : Int32) <<< (nI k &&& 31)) - 1 = nI (2 ^ k - 1) := by decide +kernel
theorem t_hooks (hA : AR k ka fa ca kd fg cs) (hL : L < 2 ^ k) (hG : G < 2 ^ k) (hd : d ≤ 999) (rf kp : Nat → Int32) (ik cu x : Int32) : QI rf ka fa ca kp k d L G (f_X9_hooks FU ka fa ca (nI k) (nI L) (nI G) (nI d) rf x) (f_X10_hooks FU rf ka fa ca (nI k) (nI d) (nI L) (nI G) kp ik cu x) := by
  have hk := hA.1
  unfold f_X9_hooks f_X10_hooks
  rcases e_prt x with ⟨rfl, h1, h2⟩ | ⟨rfl, h1, h2⟩ | ⟨h3, h4, h1, h2⟩
  · refine ⟨nI (run k kd fg cs L G d 1) &&& (nI L ^^^ (-1)), rf, SV kp ka fa ca k d L G, 0, nI 93, ?_, ?_, fun _ h => SV_lo _ _ _ _ _ _ _ _ h⟩
    · rw [h1, ob, if_neg n10, if_pos rfl, show (1 : Int32) = nI 1 from rfl, e_lb hA hL (by omega) (by omega), ob]
    · rw [h2, ob, if_neg n10, if_pos rfl, show (1 : Int32) = nI 1 from rfl, e_lostIn hA hL hG (by omega) (by omega), ob]
  · refine ⟨nI (2 ^ k - 1) &&& (nI (run k kd fg cs L G d 60) ^^^ (-1)), rf, SV kp ka fa ca k d L G, 0, nI 93, ?_, ?_, fun _ h => SV_lo _ _ _ _ _ _ _ _ h⟩
    · rw [h1, ob, if_neg n10, if_neg n10, f_X7_all, e_all1' k hk, ob, show (60 : Int32) = nI 60 from rfl, e_lb hA hL (by omega) (by omega), ob]
    · rw [h2, ob, if_neg n10, if_neg n10, f_X10_all, e_all1' k hk, ob, show (60 : Int32) = nI 60 from rfl, e_lostIn hA hL hG (by omega) (by omega), ob]
  · refine ⟨-2, rfu rf 2, kp, ik, cu, ?_, ?_, fun _ _ => rfl⟩
    · rw [h1, ob, if_pos rfl, e_ref2, ob]
    · rw [h2, ob, if_pos rfl, e_no2, ob]
def RW (vl : Nat → Int32) (n : Nat) : Prop := n ≤ 16 ∧ ∀ j, j < n → ∃ c, c < 100 ∧ vl j = nI c
theorem t_row {vl rf : Nat → Int32} {n : Nat} (hl : RW vl n) (x : Int32) : ∃ (r : Int32) (rf' vl' : Nat → Int32) (n' : Nat), RW vl' n' ∧ f_X9_row vl (nI n) rf x = some (r, vl', nI n', rf') ∧ f_X10_row rf vl (nI n) x = some (r, rf', vl', nI n') := by
  have hn := hl.1
  unfold f_X9_row f_X10_row
  rcases e_b0_99 x with ⟨h1, h2⟩ | ⟨h1, h2⟩ | ⟨c, -, hc, rfl, h1, h2⟩
  · have hx : ¬ (0 : Int32) ≤ x := by
      intro z
      unfold f_X9_outside at h1
      rw [if_pos z] at h1
      split at h1 <;> cases h1
    refine ⟨-4, rfu rf 4, vl, n, hl, ?_, ?_⟩
    · rw [if_neg hx, e_ref4, ob]
    · rw [h2, ob, if_neg nm4, f_X10_row_24, if_neg nm4, e_no4, ob]
  · have hx : (0 : Int32) ≤ x ∧ (99 : Int32) < x := by
      unfold f_X9_outside at h1
      by_cases z : (0 : Int32) ≤ x
      · rw [if_pos z] at h1
        by_cases w : x ≤ 99
        · rw [if_pos w] at h1; cases h1
        · exact ⟨z, Int32.not_le.mp w⟩
      · rw [if_neg z] at h1; cases h1
    refine ⟨-6, rfu rf 6, vl, n, hl, ?_, ?_⟩
    · rw [if_pos hx.1, if_pos hx.2, f_X9_row_27, e_ref6, ob]
    · rw [h2, ob, if_neg nm6, f_X10_row_24, if_neg nm6, e_no6, ob]
  · have hx : (0 : Int32) ≤ nI c := nI_pos' (by omega)
    have hy : ¬ (99 : Int32) < nI c := nI_nlt (a := 99) (by omega) (by omega)
    by_cases h96 : n = 16
    · subst h96
      refine ⟨-6, rfu rf 6, vl, 16, hl, ?_, ?_⟩
      · rw [if_pos hx, if_neg hy, f_X5_isFull, if_neg (show ¬ nI 16 < 16 by decide), ob, if_neg n10, f_X9_row_27, e_ref6, ob]
      · rw [h2, ob, if_pos rfl, if_pos (show nI 16 = 16 from rfl), f_X10_row_24, if_neg nm6, e_no6, ob]
    · have hlt : nI n < 16 := nI_lt (b := 16) (by omega) (by omega)
      have hin : vp_in (nI n) 16 := vp_in_nI (by omega) (by omega)
      have hne : ¬ nI n = 16 := by rw [show (16 : Int32) = nI 16 from rfl, nI_eq (by omega) (by omega)]; exact h96
      refine ⟨nI (n + 1), rf, upd vl n (nI c), n + 1, ⟨by omega, ?_⟩, ?_, ?_⟩
      · intro j hj
        by_cases hjn : j = n
        · subst hjn; exact ⟨c, by omega, pk_us⟩
        · rw [pk_un hjn]; exact hl.2 j (by omega)
      · rw [if_pos hx, if_neg hy, f_X5_isFull, if_pos hlt, ob, if_pos rfl, f_X5_add, f_X5_isFull, if_pos hlt, ob, if_pos rfl, xa_in hin, ob, nI_clamp (by omega), show nI n + 1 = nI (n + 1) from nI_1 _]
      · rw [h2, ob, if_pos rfl, if_neg hne, f_X10_row_24, if_pos rfl, xa_in hin, nI_clamp (by omega), show nI n + 1 = nI (n + 1) from nI_1 _]
end CB
