/-! IN MIND: what is LOST n DAYS on, WHEN; refusals -/
theorem nI_hasP {n i : Nat} (hi : i < 31) : (nI n &&& nI (2 ^ i) = 0) ↔ n.testBit i = false := by
  rw [← nI_pow i hi]; exact nI_has0 hi
def fw (P : Nat → Bool) : Nat → Nat → Option Nat
  | 0, _ => none
  | j + 1, i => if P i = true then some i else fw P j (i + 1)
theorem fw_none {P : Nat → Bool} : ∀ {j i : Nat}, (∀ s, i ≤ s → s < i + j → P s = false) → fw P j i = none
  | 0, _, _ => rfl
  | j + 1, i, h => by
    rw [fw, if_neg (by rw [h i (by omega) (by omega)]; decide)]
    exact fw_none (fun s h1 h2 => h s (by omega) (by omega))
theorem fw_some {P : Nat → Bool} : ∀ {j i x : Nat}, fw P j i = some x → i ≤ x ∧ x < i + j ∧ P x = true ∧ ∀ s, i ≤ s → s < x → P s = false
  | 0, _, _, h => by cases h
  | j + 1, i, x, h => by
    rw [fw] at h
    by_cases hp : P i = true
    · rw [if_pos hp] at h
      cases h
      exact ⟨by omega, by omega, hp, fun s h1 h2 => absurd h2 (by omega)⟩
    · rw [if_neg hp] at h
      obtain ⟨h1, h2, h3, h4⟩ := fw_some h
      refine ⟨by omega, by omega, h3, fun s g1 g2 => ?_⟩
      by_cases hs : s = i
      · subst hs; cases hq : P s <;> simp_all
      · exact h4 s (by omega) g2
def oI (o : Option Nat) : Int32 := match o with
  | none => -9
  | some n => nI n
def whn (k : Nat) (kd fg cs : Nat → Nat) (L G d t : Nat) : Option Nat := fw (fun n => (run k kd fg cs L G d n).testBit t) 61 0
section WHEN
variable {k : Nat} {ka fa ca : Nat → Int32} {kd fg cs : Nat → Nat}
theorem e_dulL (hA : AR k ka fa ca kd fg cs) {L G d t : Nat} (hL : L < 2 ^ k) (ht : t < 9) (hd : d < 2 ^ 29) (p1 p2 : Int32) : ∀ (j i q m : Nat), i + j = 61 → j < m → q ≤ 10 → q ≤ i → (∀ s, i - q ≤ s → s < i → run k kd fg cs L G d (s + 1) = run k kd fg cs L G d s) → (∀ s, s < i → (run k kd fg cs L G d s).testBit t = false) →
    f_X4_daysUntilLost_13 FU ka fa ca (nI k) (nI G) (nI d) p1 p2 m (nI (2 ^ t)) (nI (run k kd fg cs L G d i)) (nI q) (nI i) = some (oI (fw (fun n => (run k kd fg cs L G d n).testBit t) j i)) := by
  have hk := hA.1
  intro j
  induction j with
  | zero =>
    intro i q m hi hm _ _ _ _
    obtain ⟨m, rfl⟩ : ∃ z, m = z + 1 := ⟨m - 1, by omega⟩
    have : i = 61 := by omega
    subst this
    rw [f_X4_daysUntilLost_13, if_pos (show (60 : Int32) < nI 61 by decide)]
    rfl
  | succ j ih =>
    intro i q m hi hm hq hqi hs hf
    obtain ⟨m, rfl⟩ : ∃ z, m = z + 1 := ⟨m - 1, by omega⟩
    rw [f_X4_daysUntilLost_13, if_neg (show ¬ (60 : Int32) < nI i from nI_nlt (b := i) (a := 60) (by omega) (by omega))]
    by_cases h10 : q = 10
    · subst h10
      rw [if_pos (show (10 : Int32) ≤ nI 10 from Int32.le_refl _)]
      have hr := run_quiet hA.fgs hqi hs
      have hl : run k kd fg cs L G d i = run k kd fg cs L G d (i - 1) := by
        have := hs (i - 1) (by omega) (by omega)
        rwa [show i - 1 + 1 = i by omega] at this
      rw [fw_none]
      · rfl
      · intro s h1 h2
        have := hr (s - i)
        rw [show i + (s - i) = s by omega] at this
        show (run k kd fg cs L G d s).testBit t = false
        rw [this, hl]
        exact hf (i - 1) (by omega)
    · rw [if_neg (show ¬ (10 : Int32) ≤ nI q from nI_ge (b := 10) (by omega) (by omega)), fw]
      by_cases hp : (run k kd fg cs L G d i).testBit t = true
      · rw [if_neg (fun z => by rw [(nI_hasP (by omega)).mp z] at hp; cases hp), if_pos hp]
        rfl
      · have hp' : (run k kd fg cs L G d i).testBit t = false := by cases h : (run k kd fg cs L G d i).testBit t <;> simp_all
        rw [if_pos ((nI_hasP (by omega)).mpr hp'), if_neg hp, nI_add, show nI (d + i) + 1 = nI (d + i + 1) from nI_1 _, e_bd hA (by omega), ob]
        have e : dayf k kd fg cs (run k kd fg cs L G d i) G (d + i + 1) = run k kd fg cs L G d (i + 1) := rfl
        rw [e]
        have h1 := p9 hk (run_lt (kd := kd) (fg := fg) (cs := cs) (G := G) (d := d) hL i)
        have h2 := p9 hk (run_lt (kd := kd) (fg := fg) (cs := cs) (G := G) (d := d) hL (i + 1))
        have hf' : ∀ s, s < i + 1 → (run k kd fg cs L G d s).testBit t = false := by
          intro s h3
          by_cases h5 : s = i
          · subst h5; exact hp'
          · exact hf s (by omega)
        by_cases hx : run k kd fg cs L G d (i + 1) = run k kd fg cs L G d i
        · rw [if_pos (by rw [hx]), f_X4_daysUntilLost_73, show nI q + 1 = nI (q + 1) from nI_1 _, show nI i + 1 = nI (i + 1) from nI_1 _]
          refine ih (i + 1) (q + 1) m (by omega) (by omega) (by omega) (by omega) ?_ hf'
          intro s h3 h4
          by_cases h5 : s = i
          · subst h5; exact hx
          · exact hs s (by omega) (by omega)
        · rw [if_neg (by rw [nI_eq (by omega) (by omega)]; exact hx), f_X4_daysUntilLost_73, show nI i + 1 = nI (i + 1) from nI_1 _]
          exact ih (i + 1) 0 m (by omega) (by omega) (by omega) (by omega) (fun s h3 h4 => absurd h4 (by omega)) hf'
theorem e_dul (hA : AR k ka fa ca kd fg cs) {L G d t : Nat} (hL : L < 2 ^ k) (ht : t < 9) (hd : d < 2 ^ 29) : f_X4_daysUntilLost FU ka fa ca (nI k) (nI G) (nI d) (nI t) (nI L) = some (oI (whn k kd fg cs L G d t)) := by
  unfold f_X4_daysUntilLost
  rw [nI_pow t (by omega)]
  exact e_dulL hA hL ht hd _ _ 61 0 0 FU (by omega) (by unfold FU; omega) (by omega) (by omega) (fun s h1 h2 => absurd h2 (by omega)) (fun s h => absurd h (by omega))
theorem e_lb (hA : AR k ka fa ca kd fg cs) {L G d N : Nat} (hL : L < 2 ^ k) (hd : d < 2 ^ 29) (hN : N < 999) : f_X4_lostBehind FU ka fa ca (nI k) (nI G) (nI d) (nI L) (nI N) = some (nI (run k kd fg cs L G d N)) := by
  unfold f_X4_lostBehind
  rw [e_bds hA hL hd hN, ob]
def SV (kp ka fa ca : Nat → Int32) (k d L G : Nat) : Nat → Int32 := svd 62 kp ka fa ca (nI k) (nI d) (nI L) (nI G)
theorem SV_lo (kp ka fa ca : Nat → Int32) (k d L G : Nat) {j : Nat} (h : j < 62) : SV kp ka fa ca k d L G j = kp j := svd_lo _ _ _ _ _ _ _ _ _ h
theorem e_lostIn (hA : AR k ka fa ca kd fg cs) {L G d N : Nat} (hL : L < 2 ^ k) (hG : G < 2 ^ k) (hd : d < 2 ^ 29) (hN : N < 999) (kp : Nat → Int32) (ik cu : Int32) : f_X10_lostIn FU ka fa ca (nI k) (nI d) (nI L) (nI G) kp ik cu (nI N) = some (nI (run k kd fg cs L G d N), ka, fa, ca, nI k, nI d, nI L, nI G, SV kp ka fa ca k d L G, 0, nI 93) := by
  unfold f_X10_lostIn
  rw [e_think, ob, e_goes hA hL hG hd hN, ob, e_forget, ob]
  rfl
theorem e_lwL (hA : AR k ka fa ca kd fg cs) {L G d t : Nat} (hL : L < 2 ^ k) (hG : G < 2 ^ k) (ht : t < 9) (hd : d < 2 ^ 29) (kp : Nat → Int32) : ∀ (j i m : Nat), i + j = 61 → j < m → ∀ (ik cu : Int32),
    f_X10_lostWhen_10 FU (nI t) 60 m (-9) (nI i) ka fa ca (nI k) (nI (d + i)) (nI (run k kd fg cs L G d i)) (nI G) (SV kp ka fa ca k d L G) ik cu = some (oI (fw (fun n => (run k kd fg cs L G d n).testBit t) j i), ka, fa, ca, nI k, nI d, nI L, nI G, SV kp ka fa ca k d L G, 0, nI 93) := by
  have hk := hA.1
  have fin : ∀ (x dy lo ik cu : Int32), f_X10_lostWhen_49 FU (nI t) 60 x ka fa ca (nI k) dy lo (nI G) (SV kp ka fa ca k d L G) ik cu = some (x, ka, fa, ca, nI k, nI d, nI L, nI G, SV kp ka fa ca k d L G, 0, nI 93) := by
    intro x dy lo ik cu
    unfold f_X10_lostWhen_49 SV
    rw [e_forget, ob]
  intro j
  induction j with
  | zero =>
    intro i m hi hm ik cu
    obtain ⟨m, rfl⟩ : ∃ z, m = z + 1 := ⟨m - 1, by omega⟩
    have : i = 61 := by omega
    subst this
    rw [f_X10_lostWhen_10, if_pos (show (60 : Int32) < nI 61 by decide), fin]
    rfl
  | succ j ih =>
    intro i m hi hm ik cu
    obtain ⟨m, rfl⟩ : ∃ z, m = z + 1 := ⟨m - 1, by omega⟩
    have h1 := p9 hk (run_lt (kd := kd) (fg := fg) (cs := cs) (G := G) (d := d) hL i)
    rw [f_X10_lostWhen_10, if_neg (show ¬ (60 : Int32) < nI i from nI_nlt (b := i) (a := 60) (by omega) (by omega)), if_neg (by decide), fw]
    have g1 := e_gd hA (d := d + i) h1 (p9 hk hG) (by omega)
    by_cases hp : (run k kd fg cs L G d i).testBit t = true
    · rw [e_mhasT (by omega) (by omega) hp, ob, if_neg (by decide), if_pos hp, f_X10_lostWhen_38, g1, ob]
      obtain ⟨m, rfl⟩ : ∃ z, m = z + 1 := ⟨m - 1, by omega⟩
      rw [show nI i + 1 = nI (i + 1) from nI_1 _, f_X10_lostWhen_10]
      by_cases h60 : (60 : Int32) < nI (i + 1)
      · rw [if_pos h60, fin]; rfl
      · rw [if_neg h60, if_pos (nI_pos' (by omega)), fin]; rfl
    · have hp' : (run k kd fg cs L G d i).testBit t = false := by cases h : (run k kd fg cs L G d i).testBit t <;> simp_all
      rw [e_mhasF (by omega) (by omega) hp', ob, if_pos rfl, if_neg hp, f_X10_lostWhen_38, g1, ob, show nI i + 1 = nI (i + 1) from nI_1 _]
      exact ih (i + 1) m (by omega) (by omega) ik cu
theorem e_lw (hA : AR k ka fa ca kd fg cs) {L G d t : Nat} (hL : L < 2 ^ k) (hG : G < 2 ^ k) (ht : t < 9) (hd : d < 2 ^ 29) (kp : Nat → Int32) (ik cu : Int32) : f_X10_lostWhen FU ka fa ca (nI k) (nI d) (nI L) (nI G) kp ik cu (nI t) 60 = some (oI (whn k kd fg cs L G d t), ka, fa, ca, nI k, nI d, nI L, nI G, SV kp ka fa ca k d L G, 0, nI 93) := by
  unfold f_X10_lostWhen
  rw [e_think, ob]
  exact e_lwL hA hL hG ht hd kp 61 0 FU (by omega) (by unfold FU; omega) 1 (nI 93)
end WHEN
/-! refusals -/
def rfu (f : Nat → Int32) (c : Nat) : Nat → Int32 := upd f c (f c + 1)
theorem e_ref1 (f : Nat → Int32) : f_X9_refuse f (-1) = some (-1, rfu f 1) := rfl
theorem e_ref2 (f : Nat → Int32) : f_X9_refuse f (-2) = some (-2, rfu f 2) := rfl
theorem e_ref3 (f : Nat → Int32) : f_X9_refuse f (-3) = some (-3, rfu f 3) := rfl
theorem e_ref4 (f : Nat → Int32) : f_X9_refuse f (-4) = some (-4, rfu f 4) := rfl
theorem e_ref6 (f : Nat → Int32) : f_X9_refuse f (-6) = some (-6, rfu f 6) := rfl
theorem e_no1 (f : Nat → Int32) : f_X10_no f (-1) = some (-1, rfu f 1) := rfl
theorem e_no2 (f : Nat → Int32) : f_X10_no f (-2) = some (-2, rfu f 2) := rfl
theorem e_no3 (f : Nat → Int32) : f_X10_no f (-3) = some (-3, rfu f 3) := rfl
theorem e_no4 (f : Nat → Int32) : f_X10_no f (-4) = some (-4, rfu f 4) := rfl
theorem e_no6 (f : Nat → Int32) : f_X10_no f (-6) = some (-6, rfu f 6) := rfl
def lgr (c : Int32) : Int64 := 4000000000000000000 - Int32.toInt64 c
theorem e_rfl1 (f : Nat → Int32) : f_X9_refuseLong f (-1) = some (lgr (-1), rfu f 1) := rfl
theorem e_rfl2 (f : Nat → Int32) : f_X9_refuseLong f (-2) = some (lgr (-2), rfu f 2) := rfl
theorem e_rfl3 (f : Nat → Int32) : f_X9_refuseLong f (-3) = some (lgr (-3), rfu f 3) := rfl
theorem e_rfl4 (f : Nat → Int32) : f_X9_refuseLong f (-4) = some (lgr (-4), rfu f 4) := rfl
theorem e_rfl6 (f : Nat → Int32) : f_X9_refuseLong f (-6) = some (lgr (-6), rfu f 6) := rfl
theorem e_low1 (f : Nat → Int32) : f_X10_lowestOf f (-1) = some (lgr (-1), rfu f 1) := rfl
theorem e_low2 (f : Nat → Int32) : f_X10_lowestOf f (-2) = some (lgr (-2), rfu f 2) := rfl
theorem e_low3 (f : Nat → Int32) : f_X10_lowestOf f (-3) = some (lgr (-3), rfu f 3) := rfl
theorem e_low4 (f : Nat → Int32) : f_X10_lowestOf f (-4) = some (lgr (-4), rfu f 4) := rfl
theorem e_low6 (f : Nat → Int32) : f_X10_lowestOf f (-6) = some (lgr (-6), rfu f 6) := rfl
/-- a number against its bounds -/
theorem e_bnd (x : Int32) {a b : Nat} (ha : a < 2 ^ 31) (hb : b < 2 ^ 31) : (f_X9_outside x (nI a) (nI b) = some (-4) ∧ f_X10_bound x (nI a) (nI b) = some (-4)) ∨ (f_X9_outside x (nI a) (nI b) = some (-6) ∧ f_X10_bound x (nI a) (nI b) = some (-6)) ∨ (∃ n, a ≤ n ∧ n ≤ b ∧ x = nI n ∧ f_X9_outside x (nI a) (nI b) = some 0 ∧ f_X10_bound x (nI a) (nI b) = some 0) := by
  unfold f_X9_outside f_X10_bound
  by_cases h1 : nI a ≤ x
  · by_cases h2 : x ≤ nI b
    · have h0 : ¬ x < 0 := by
        have := nI_pos' ha
        exact Int32.not_lt.mpr (Int32.le_trans this h1)
      obtain ⟨n, hn, rfl⟩ := nI_of2 (nI_toInt hb) h0 h2
      refine Or.inr (Or.inr ⟨n, (nI_leI ha (by omega)).mp h1, hn, rfl, ?_, ?_⟩) <;> rw [if_pos h1, if_pos h2]
    · exact Or.inr (Or.inl ⟨by rw [if_pos h1, if_neg h2], by rw [if_pos h1, if_neg h2]⟩)
  · exact Or.inl ⟨by rw [if_neg h1], by rw [if_neg h1]⟩
theorem e_prt (x : Int32) : (x = 0 ∧ f_X9_isPart x = some 1 ∧ f_X10_isIn x 0 1 = some 1) ∨ (x = 1 ∧ f_X9_isPart x = some 1 ∧ f_X10_isIn x 0 1 = some 1) ∨ (¬ x = 0 ∧ ¬ x = 1 ∧ f_X9_isPart x = some 0 ∧ f_X10_isIn x 0 1 = some 0) := by
  by_cases h0 : x = 0
  · subst h0; exact Or.inl ⟨rfl, rfl, rfl⟩
  by_cases h1 : x = 1
  · subst h1; exact Or.inr (Or.inl ⟨rfl, rfl, rfl⟩)
  refine Or.inr (Or.inr ⟨h0, h1, ?_, ?_⟩)
  · unfold f_X9_isPart; rw [if_neg h0, if_neg h1]
  · unfold f_X10_isIn
    by_cases h2 : x < 0
    · rw [if_pos h2]
    · rw [if_neg h2]
      by_cases h3 : 1 < x
      · rw [if_pos h3]
      · exfalso
        obtain ⟨n, hn, rfl⟩ := nI_of2 (M := 1) (n := 1) rfl h2 (Int32.not_lt.mp h3)
        have : n = 0 ∨ n = 1 := by omega
        rcases this with rfl | rfl
        · exact h0 rfl
        · exact h1 rfl
theorem e_b0_60 (x : Int32) : (f_X9_outside x 0 60 = some (-4) ∧ f_X10_bound x 0 60 = some (-4)) ∨ (f_X9_outside x 0 60 = some (-6) ∧ f_X10_bound x 0 60 = some (-6)) ∨ (∃ n, 0 ≤ n ∧ n ≤ 60 ∧ x = nI n ∧ f_X9_outside x 0 60 = some 0 ∧ f_X10_bound x 0 60 = some 0) := e_bnd x (a := 0) (b := 60) (by omega) (by omega)
theorem e_b0_30 (x : Int32) : (f_X9_outside x 0 30 = some (-4) ∧ f_X10_bound x 0 30 = some (-4)) ∨ (f_X9_outside x 0 30 = some (-6) ∧ f_X10_bound x 0 30 = some (-6)) ∨ (∃ n, 0 ≤ n ∧ n ≤ 30 ∧ x = nI n ∧ f_X9_outside x 0 30 = some 0 ∧ f_X10_bound x 0 30 = some 0) := e_bnd x (a := 0) (b := 30) (by omega) (by omega)
theorem e_b1_60 (x : Int32) : (f_X9_outside x 1 60 = some (-4) ∧ f_X10_bound x 1 60 = some (-4)) ∨ (f_X9_outside x 1 60 = some (-6) ∧ f_X10_bound x 1 60 = some (-6)) ∨ (∃ n, 1 ≤ n ∧ n ≤ 60 ∧ x = nI n ∧ f_X9_outside x 1 60 = some 0 ∧ f_X10_bound x 1 60 = some 0) := e_bnd x (a := 1) (b := 60) (by omega) (by omega)
theorem e_b0_9 (x : Int32) : (f_X9_outside x 0 9 = some (-4) ∧ f_X10_bound x 0 9 = some (-4)) ∨ (f_X9_outside x 0 9 = some (-6) ∧ f_X10_bound x 0 9 = some (-6)) ∨ (∃ n, 0 ≤ n ∧ n ≤ 9 ∧ x = nI n ∧ f_X9_outside x 0 9 = some 0 ∧ f_X10_bound x 0 9 = some 0) := e_bnd x (a := 0) (b := 9) (by omega) (by omega)
theorem e_b0_255 (x : Int32) : (f_X9_outside x 0 255 = some (-4) ∧ f_X10_bound x 0 255 = some (-4)) ∨ (f_X9_outside x 0 255 = some (-6) ∧ f_X10_bound x 0 255 = some (-6)) ∨ (∃ n, 0 ≤ n ∧ n ≤ 255 ∧ x = nI n ∧ f_X9_outside x 0 255 = some 0 ∧ f_X10_bound x 0 255 = some 0) := e_bnd x (a := 0) (b := 255) (by omega) (by omega)
theorem e_b0_99 (x : Int32) : (f_X9_outside x 0 99 = some (-4) ∧ f_X10_bound x 0 99 = some (-4)) ∨ (f_X9_outside x 0 99 = some (-6) ∧ f_X10_bound x 0 99 = some (-6)) ∨ (∃ n, 0 ≤ n ∧ n ≤ 99 ∧ x = nI n ∧ f_X9_outside x 0 99 = some 0 ∧ f_X10_bound x 0 99 = some 0) := e_bnd x (a := 0) (b := 99) (by omega) (by omega)
theorem e_b1_20 (x : Int32) : (f_X9_outside x 1 20 = some (-4) ∧ f_X10_bound x 1 20 = some (-4)) ∨ (f_X9_outside x 1 20 = some (-6) ∧ f_X10_bound x 1 20 = some (-6)) ∨ (∃ n, 1 ≤ n ∧ n ≤ 20 ∧ x = nI n ∧ f_X9_outside x 1 20 = some 0 ∧ f_X10_bound x 1 20 = some 0) := e_bnd x (a := 1) (b := 20) (by omega) (by omega)
theorem nm1 : ¬ (-1 : Int32) = 0 := by decide
theorem nm2 : ¬ (-2 : Int32) = 0 := by decide
theorem nm3 : ¬ (-3 : Int32) = 0 := by decide
theorem nm4 : ¬ (-4 : Int32) = 0 := by decide
theorem nm6 : ¬ (-6 : Int32) = 0 := by decide
theorem nm9 : ¬ (-9 : Int32) = 0 := by decide
theorem n10 : ¬ (1 : Int32) = 0 := by decide
