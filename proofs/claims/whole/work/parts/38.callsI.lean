/-! CALLS, ninth part: what it was, lots -/
theorem upd_upd (f : Nat → Int32) (t : Nat) (x y : Int32) : upd (upd f t x) t y = upd f t y := by
  funext j
  unfold upd
  by_cases h : j = t
  · rw [if_pos h, if_pos h]
  · rw [if_neg h, if_neg h, if_neg h]
theorem upd_self (f : Nat → Int32) (t : Nat) : upd f t (f t) = f := by
  funext j
  unfold upd
  by_cases h : j = t
  · subst h; rw [if_pos rfl]
  · rw [if_neg h]
theorem nft : ¬ (false = true) := by decide
section CI
variable {k : Nat} {ka fa ca : Nat → Int32} {kd fg cs : Nat → Nat} {L G d : Nat}
/-- the ROW tells them otherwise at that place -/
def nso (k : Nat) (kd fg cs : Nat → Nat) (L G d : Nat) (vl : Nat → Int32) : Nat → Bool := fun i => !decide (vl i = nI (pcn (run k kd fg cs L G d i)))
def sob (k : Nat) (kd fg cs : Nat → Nat) (L G d : Nat) (vl : Nat → Int32) (m : Nat) : Bool := (fw (nso k kd fg cs L G d vl) m 0).isNone
theorem e_telL (hA : AR k ka fa ca kd fg cs) (hL : L < 2 ^ k) (hd : d ≤ 999) {vl : Nat → Int32} {m : Nat} (hm : m ≤ 16) : ∀ (j i n : Nat) (y : Nat), i + j = m → j < n → (i = 0 → y = L) → (∀ q, i = q + 1 → y = run k kd fg cs L G d q) → f_X5_tellLosses_7 FU vl (nI m) ka fa ca (nI k) (nI L) (nI G) (nI d) n (nI y) (nI i) = some (if (fw (nso k kd fg cs L G d vl) j i).isNone = true then 1 else 0) := by
  have hk := hA.1
  intro j
  induction j with
  | zero =>
    intro i n y hi hn _ _
    obtain ⟨n, rfl⟩ : ∃ z, n = z + 1 := ⟨n - 1, by omega⟩
    have : i = m := by omega
    subst this
    rw [f_X5_tellLosses_7, if_pos (Int32.le_refl _)]
    rfl
  | succ j ih =>
    intro i n y hi hn h0 h1
    obtain ⟨n, rfl⟩ : ∃ z, n = z + 1 := ⟨n - 1, by omega⟩
    have hr := p9 hk (run_lt (kd := kd) (fg := fg) (cs := cs) (G := G) (d := d) hL i)
    have hat : f_X5_at vl (nI m) (nI i) = some (vl i) := by
      unfold f_X5_at
      rw [if_neg (nI_pos (by omega)), if_neg (nI_ge (by omega) (by omega)), if_neg (show ¬ (16 : Int32) ≤ nI i from nI_ge (b := 16) (by omega) (by omega)), xa_in (vp_in_nI (by omega) (by omega)), nI_clamp (by omega)]
    have fin : f_X5_tellLosses_35 FU vl (nI m) ka fa ca (nI k) (nI L) (nI G) (nI d) (f_X5_tellLosses_7 FU vl (nI m) ka fa ca (nI k) (nI L) (nI G) (nI d) n) (nI (run k kd fg cs L G d i)) (nI i) = some (if (fw (nso k kd fg cs L G d vl) (j + 1) i).isNone = true then 1 else 0) := by
      rw [f_X5_tellLosses_35, hat, ob, e_bc _ hr, ob, fw]
      by_cases hc : vl i = nI (pcn (run k kd fg cs L G d i))
      · have : nso k kd fg cs L G d vl i = false := by unfold nso; rw [decide_eq_true hc]; rfl
        rw [if_pos hc, this, if_neg nft, show nI i + 1 = nI (i + 1) from nI_1 _]
        exact ih (i + 1) n _ (by omega) (by omega) (fun z => by omega) (fun q hq => by rw [show q = i by omega])
      · have : nso k kd fg cs L G d vl i = true := by unfold nso; rw [decide_eq_false hc]; rfl
        rw [if_neg hc, this, if_pos rfl]
        rfl
    rw [f_X5_tellLosses_7, if_neg (nI_ge (by omega) (by omega))]
    cases i with
    | zero =>
      rw [if_pos (show nI 0 ≤ 0 by decide), h0 rfl]
      exact fin
    | succ q =>
      rw [if_neg (nI_nle (by omega) (by omega)), h1 q rfl, nI_add, e_bd hA (by omega), ob]
      exact fin
theorem e_tel (hA : AR k ka fa ca kd fg cs) (hL : L < 2 ^ k) (hd : d ≤ 999) {vl : Nat → Int32} {m : Nat} (hm : m ≤ 16) : f_X5_tellLosses FU vl (nI m) ka fa ca (nI k) (nI L) (nI G) (nI d) = some (if sob k kd fg cs L G d vl m = true then 1 else 0) :=
  e_telL hA hL hd (vl := vl) hm m 0 FU L (by omega) (by unfold FU; omega) (fun _ => rfl) (fun q h => by omega)
theorem e_soL (hA : AR k ka fa ca kd fg cs) (hL : L < 2 ^ k) (hG : G < 2 ^ k) (hd : d ≤ 999) {vl : Nat → Int32} {m : Nat} (hm : m ≤ 16) (kp : Nat → Int32) : ∀ (j i n : Nat) (ik cu : Int32), i + j = m → j < n → f_X10_isSo_8 FU vl (nI m) n 1 (nI i) ka fa ca (nI k) (nI (d + i)) (nI (run k kd fg cs L G d i)) (nI G) (SV kp ka fa ca k d L G) ik cu = some (if (fw (nso k kd fg cs L G d vl) j i).isNone = true then 1 else 0, ka, fa, ca, nI k, nI d, nI L, nI G, SV kp ka fa ca k d L G, 0, nI 93) := by
  have hk := hA.1
  have fin : ∀ (x dy lo ik cu : Int32), (x = 0 ∨ x = 1) → f_X10_isSo_52 FU vl (nI m) x ka fa ca (nI k) dy lo (nI G) (SV kp ka fa ca k d L G) ik cu = some (x, ka, fa, ca, nI k, nI d, nI L, nI G, SV kp ka fa ca k d L G, 0, nI 93) := by
    intro x dy lo ik cu hx
    unfold f_X10_isSo_52 SV xz
    rw [e_forget, ob, if_pos hx]
  intro j
  induction j with
  | zero =>
    intro i n ik cu hi hn
    obtain ⟨n, rfl⟩ : ∃ z, n = z + 1 := ⟨n - 1, by omega⟩
    have : i = m := by omega
    subst this
    rw [f_X10_isSo_8, if_pos (Int32.le_refl _), fin _ _ _ _ _ (Or.inr rfl)]
    rfl
  | succ j ih =>
    intro i n ik cu hi hn
    obtain ⟨n, rfl⟩ : ∃ z, n = z + 1 := ⟨n - 1, by omega⟩
    have hr := p9 hk (run_lt (kd := kd) (fg := fg) (cs := cs) (G := G) (d := d) hL i)
    have g1 := e_gd hA (d := d + i) hr (p9 hk hG) (by omega)
    rw [f_X10_isSo_8, if_neg (nI_ge (by omega) (by omega)), if_neg n10, e_bits _ hr, ob, xa_in (vp_in_nI (by omega) (by omega)), nI_clamp (by omega), fw]
    by_cases hc : vl i = nI (pcn (run k kd fg cs L G d i))
    · have : nso k kd fg cs L G d vl i = false := by unfold nso; rw [decide_eq_true hc]; rfl
      rw [if_pos hc.symm, this, if_neg nft, f_X10_isSo_41, g1, ob, show nI i + 1 = nI (i + 1) from nI_1 _]
      exact ih (i + 1) n ik cu (by omega) (by omega)
    · have : nso k kd fg cs L G d vl i = true := by unfold nso; rw [decide_eq_false hc]; rfl
      obtain ⟨n, rfl⟩ : ∃ z, n = z + 1 := ⟨n - 1, by omega⟩
      rw [if_neg (fun z => hc z.symm), this, if_pos rfl, f_X10_isSo_41, g1, ob, show nI i + 1 = nI (i + 1) from nI_1 _, f_X10_isSo_8]
      by_cases hq : nI m ≤ nI (i + 1)
      · rw [if_pos hq, fin _ _ _ _ _ (Or.inl rfl)]; rfl
      · rw [if_neg hq, if_pos rfl, fin _ _ _ _ _ (Or.inl rfl)]; rfl
theorem e_so (hA : AR k ka fa ca kd fg cs) (hL : L < 2 ^ k) (hG : G < 2 ^ k) (hd : d ≤ 999) {vl : Nat → Int32} {m : Nat} (hm : m ≤ 16) (kp : Nat → Int32) (ik cu : Int32) : f_X10_isSo FU ka fa ca (nI k) (nI d) (nI L) (nI G) kp ik cu vl (nI m) = some (if sob k kd fg cs L G d vl m = true then 1 else 0, ka, fa, ca, nI k, nI d, nI L, nI G, SV kp ka fa ca k d L G, 0, nI 93) := by
  unfold f_X10_isSo
  rw [e_think, ob]
  exact e_soL hA hL hG hd (vl := vl) hm kp m 0 FU 1 (nI 93) (by omega) (by unfold FU; omega)
theorem AR_kind (hA : AR k ka fa ca kd fg cs) {t v : Nat} (hv : v < 6) : AR k (upd ka t (nI v)) fa ca (fun q => if q = t then v else kd q) fg cs := by
  refine ⟨hA.1, fun j hj => ?_⟩
  by_cases hjt : j = t
  · subst hjt
    simp only [pk_us, if_true]
    exact ⟨⟨trivial, hv⟩, (hA.2 j hj).2⟩
  · simp only [pk_un hjt, hjt, if_false]
    exact hA.2 j hj
def wb_kind (k : Nat) (kd fg cs : Nat → Nat) (L G d : Nat) (vl : Nat → Int32) (m t : Nat) : Nat → Nat
  | 0 => 0
  | v + 1 => wb_kind k kd fg cs L G d vl m t v ||| (if sob k (fun q => if q = t then v else kd q) fg cs L G d vl m = true then 2 ^ v else 0)
theorem e_wc_kind (hA : AR k ka fa ca kd fg cs) (hL : L < 2 ^ k) (hd : d ≤ 999) {vl : Nat → Int32} {m t : Nat} (hm : m ≤ 16) (ht : t < k) (na nb nc : Nat → Int32) (ns nl ng nd : Int32) : ∀ (j v n : Nat) (K : Nat → Int32), v + j = 6 → j < n → (∀ x, upd K t x = upd ka t x) → ∃ K' : Nat → Int32, f_X9_kindsBySuchNumbers_15 FU na nb nc ns nl ng nd vl (nI m) (nI t) n (nI (wb_kind k kd fg cs L G d vl m t v)) (nI v) K fa ca (nI k) (nI L) (nI G) (nI d) = some (nI (wb_kind k kd fg cs L G d vl m t 6), K', fa, ca, nI k, nI L, nI G, nI d) := by
  have hk := hA.1
  intro j
  induction j with
  | zero =>
    intro v n K hv hn hK
    obtain ⟨n, rfl⟩ : ∃ z, n = z + 1 := ⟨n - 1, by omega⟩
    have : v = 6 := by omega
    subst this
    exact ⟨K, by rw [f_X9_kindsBySuchNumbers_15, if_pos (by decide)]⟩
  | succ j ih =>
    intro v n K hv hn hK
    obtain ⟨n, rfl⟩ : ∃ z, n = z + 1 := ⟨n - 1, by omega⟩
    have hAv := AR_kind hA (t := t) (v := v) (by omega)
    obtain ⟨K', nx⟩ := ih (v + 1) n (upd ka t (nI v)) (by omega) (by omega) (fun x => upd_upd _ _ _ _)
    refine ⟨K', ?_⟩
    have hkin : f_X7_isKind (nI v) = some 1 := by
      unfold f_X7_isKind
      rw [if_neg (nI_pos (by omega)), if_neg (show ¬ (6 : Int32) ≤ nI v from nI_ge (b := 6) (by omega) (by omega))]
    rw [f_X9_kindsBySuchNumbers_15, if_neg (show ¬ (6 : Int32) ≤ nI v from nI_ge (b := 6) (by omega) (by omega)), f_X7_setKind, e_has hk ht, ob, if_neg n10, hkin, ob, if_neg n10, xa_in (vp_in_nI (by omega) (by omega)), ob, nI_clamp (by omega), hK, e_tel hAv hL hd hm, ob]
    rw [wb_kind] at nx
    by_cases hc : sob k (fun q => if q = t then v else kd q) fg cs L G d vl m = true
    · rw [if_pos hc, if_neg n10, f_X9_kindsBySuchNumbers_50, nI_pow v (by omega), nI_or, show nI v + 1 = nI (v + 1) from nI_1 _]
      rw [if_pos hc] at nx
      exact nx
    · rw [if_neg hc, if_pos rfl, f_X9_kindsBySuchNumbers_50, show nI v + 1 = nI (v + 1) from nI_1 _]
      rw [if_neg hc, Nat.or_zero] at nx
      exact nx
theorem e_wm_kind (hA : AR k ka fa ca kd fg cs) (hL : L < 2 ^ k) (hG : G < 2 ^ k) (hd : d ≤ 999) {vl : Nat → Int32} {m t : Nat} (hm : m ≤ 16) (ht : t < k) : ∀ (j v n : Nat) (K kp : Nat → Int32) (ik cu : Int32), v + j = 6 → j < n → (∀ x, upd K t x = upd ka t x) → ∃ (kp' : Nat → Int32) (ik' cu' : Int32), f_X10_bitsFor_kind_11 FU vl (nI m) (nI t) 6 n (ka t) (nI (wb_kind k kd fg cs L G d vl m t v)) (nI v) K fa ca (nI k) (nI d) (nI L) (nI G) kp ik cu = some (nI (wb_kind k kd fg cs L G d vl m t 6), ka, fa, ca, nI k, nI d, nI L, nI G, kp', ik', cu') ∧ ∀ j, j < 62 → kp' j = kp j := by
  have hk := hA.1
  have hin : vp_in (nI t) 9 := vp_in_nI (by omega) (by omega)
  intro j
  induction j with
  | zero =>
    intro v n K kp ik cu hv hn hK
    obtain ⟨n, rfl⟩ : ∃ z, n = z + 1 := ⟨n - 1, by omega⟩
    have : v = 6 := by omega
    subst this
    exact ⟨kp, ik, cu, by rw [f_X10_bitsFor_kind_11, if_pos (by decide), xa_in hin, nI_clamp (by omega), hK, upd_self], fun _ _ => rfl⟩
  | succ j ih =>
    intro v n K kp ik cu hv hn hK
    obtain ⟨n, rfl⟩ : ∃ z, n = z + 1 := ⟨n - 1, by omega⟩
    have hAv := AR_kind hA (t := t) (v := v) (by omega)
    obtain ⟨kp', ik', cu', nx, nk⟩ := ih (v + 1) n (upd ka t (nI v)) (SV kp (upd ka t (nI v)) fa ca k d L G) 0 (nI 93) (by omega) (by omega) (fun x => upd_upd _ _ _ _)
    refine ⟨kp', ik', cu', ?_, fun j hj => by rw [nk j hj, SV_lo _ _ _ _ _ _ _ _ hj]⟩
    rw [f_X10_bitsFor_kind_11, if_neg (show ¬ (6 : Int32) ≤ nI v from nI_ge (b := 6) (by omega) (by omega)), xa_in hin, nI_clamp (by omega), hK, e_so hAv hL hG hd hm, ob]
    rw [wb_kind] at nx
    by_cases hc : sob k (fun q => if q = t then v else kd q) fg cs L G d vl m = true
    · rw [if_pos hc, if_neg n10, f_X10_bitsFor_kind_39, nI_pow v (by omega), nI_or, show nI v + 1 = nI (v + 1) from nI_1 _]
      rw [if_pos hc] at nx
      exact nx
    · rw [if_neg hc, if_pos rfl, f_X10_bitsFor_kind_39, show nI v + 1 = nI (v + 1) from nI_1 _, show (0 : Int32) = nI 0 from rfl, nI_or]
      rw [if_neg hc] at nx
      exact nx
theorem AR_figure (hA : AR k ka fa ca kd fg cs) {t v : Nat} (hv : v < 10) : AR k ka (upd fa t (nI v)) ca kd (fun q => if q = t then v else fg q) cs := by
  refine ⟨hA.1, fun j hj => ?_⟩
  by_cases hjt : j = t
  · subst hjt
    simp only [pk_us, if_true]
    exact ⟨(hA.2 j hj).1, ⟨trivial, hv⟩, (hA.2 j hj).2.2⟩
  · simp only [pk_un hjt, hjt, if_false]
    exact hA.2 j hj
def wb_figure (k : Nat) (kd fg cs : Nat → Nat) (L G d : Nat) (vl : Nat → Int32) (m t : Nat) : Nat → Nat
  | 0 => 0
  | v + 1 => wb_figure k kd fg cs L G d vl m t v ||| (if sob k kd (fun q => if q = t then v else fg q) cs L G d vl m = true then 2 ^ v else 0)
theorem e_wc_figure (hA : AR k ka fa ca kd fg cs) (hL : L < 2 ^ k) (hd : d ≤ 999) {vl : Nat → Int32} {m t : Nat} (hm : m ≤ 16) (ht : t < k) (na nb nc : Nat → Int32) (ns nl ng nd : Int32) : ∀ (j v n : Nat) (K : Nat → Int32), v + j = 10 → j < n → (∀ x, upd K t x = upd fa t x) → ∃ K' : Nat → Int32, f_X9_figuresBySuchNumbers_15 FU na nb nc ns nl ng nd vl (nI m) (nI t) n (nI (wb_figure k kd fg cs L G d vl m t v)) (nI v) ka K ca (nI k) (nI L) (nI G) (nI d) = some (nI (wb_figure k kd fg cs L G d vl m t 10), ka, K', ca, nI k, nI L, nI G, nI d) := by
  have hk := hA.1
  intro j
  induction j with
  | zero =>
    intro v n K hv hn hK
    obtain ⟨n, rfl⟩ : ∃ z, n = z + 1 := ⟨n - 1, by omega⟩
    have : v = 10 := by omega
    subst this
    exact ⟨K, by rw [f_X9_figuresBySuchNumbers_15, if_pos (by decide)]⟩
  | succ j ih =>
    intro v n K hv hn hK
    obtain ⟨n, rfl⟩ : ∃ z, n = z + 1 := ⟨n - 1, by omega⟩
    have hAv := AR_figure hA (t := t) (v := v) (by omega)
    obtain ⟨K', nx⟩ := ih (v + 1) n (upd fa t (nI v)) (by omega) (by omega) (fun x => upd_upd _ _ _ _)
    refine ⟨K', ?_⟩
    have hkin : f_X7_isFigure (nI v) = some 1 := by
      unfold f_X7_isFigure
      rw [if_neg (nI_pos (by omega)), if_neg (show ¬ (9 : Int32) < nI v from nI_nlt (a := 9) (by omega) (by omega))]
    rw [f_X9_figuresBySuchNumbers_15, if_neg (show ¬ (9 : Int32) < nI v from nI_nlt (a := 9) (by omega) (by omega)), f_X7_setFigure, e_has hk ht, ob, if_neg n10, hkin, ob, if_neg n10, xa_in (vp_in_nI (by omega) (by omega)), ob, nI_clamp (by omega), hK, e_tel hAv hL hd hm, ob]
    rw [wb_figure] at nx
    by_cases hc : sob k kd (fun q => if q = t then v else fg q) cs L G d vl m = true
    · rw [if_pos hc, if_neg n10, f_X9_figuresBySuchNumbers_50, nI_pow v (by omega), nI_or, show nI v + 1 = nI (v + 1) from nI_1 _]
      rw [if_pos hc] at nx
      exact nx
    · rw [if_neg hc, if_pos rfl, f_X9_figuresBySuchNumbers_50, show nI v + 1 = nI (v + 1) from nI_1 _]
      rw [if_neg hc, Nat.or_zero] at nx
      exact nx
theorem e_wm_figure (hA : AR k ka fa ca kd fg cs) (hL : L < 2 ^ k) (hG : G < 2 ^ k) (hd : d ≤ 999) {vl : Nat → Int32} {m t : Nat} (hm : m ≤ 16) (ht : t < k) : ∀ (j v n : Nat) (K kp : Nat → Int32) (ik cu : Int32), v + j = 10 → j < n → (∀ x, upd K t x = upd fa t x) → ∃ (kp' : Nat → Int32) (ik' cu' : Int32), f_X10_bitsFor_figure_11 FU vl (nI m) (nI t) 10 n (fa t) (nI (wb_figure k kd fg cs L G d vl m t v)) (nI v) ka K ca (nI k) (nI d) (nI L) (nI G) kp ik cu = some (nI (wb_figure k kd fg cs L G d vl m t 10), ka, fa, ca, nI k, nI d, nI L, nI G, kp', ik', cu') ∧ ∀ j, j < 62 → kp' j = kp j := by
  have hk := hA.1
  have hin : vp_in (nI t) 9 := vp_in_nI (by omega) (by omega)
  intro j
  induction j with
  | zero =>
    intro v n K kp ik cu hv hn hK
    obtain ⟨n, rfl⟩ : ∃ z, n = z + 1 := ⟨n - 1, by omega⟩
    have : v = 10 := by omega
    subst this
    exact ⟨kp, ik, cu, by rw [f_X10_bitsFor_figure_11, if_pos (by decide), xa_in hin, nI_clamp (by omega), hK, upd_self], fun _ _ => rfl⟩
  | succ j ih =>
    intro v n K kp ik cu hv hn hK
    obtain ⟨n, rfl⟩ : ∃ z, n = z + 1 := ⟨n - 1, by omega⟩
    have hAv := AR_figure hA (t := t) (v := v) (by omega)
    obtain ⟨kp', ik', cu', nx, nk⟩ := ih (v + 1) n (upd fa t (nI v)) (SV kp ka (upd fa t (nI v)) ca k d L G) 0 (nI 93) (by omega) (by omega) (fun x => upd_upd _ _ _ _)
    refine ⟨kp', ik', cu', ?_, fun j hj => by rw [nk j hj, SV_lo _ _ _ _ _ _ _ _ hj]⟩
    rw [f_X10_bitsFor_figure_11, if_neg (show ¬ (10 : Int32) ≤ nI v from nI_ge (b := 10) (by omega) (by omega)), xa_in hin, nI_clamp (by omega), hK, e_so hAv hL hG hd hm, ob]
    rw [wb_figure] at nx
    by_cases hc : sob k kd (fun q => if q = t then v else fg q) cs L G d vl m = true
    · rw [if_pos hc, if_neg n10, f_X10_bitsFor_figure_39, nI_pow v (by omega), nI_or, show nI v + 1 = nI (v + 1) from nI_1 _]
      rw [if_pos hc] at nx
      exact nx
    · rw [if_neg hc, if_pos rfl, f_X10_bitsFor_figure_39, show nI v + 1 = nI (v + 1) from nI_1 _, show (0 : Int32) = nI 0 from rfl, nI_or]
      rw [if_neg hc] at nx
      exact nx
theorem t_whatWas (hA : AR k ka fa ca kd fg cs) (hL : L < 2 ^ k) (hG : G < 2 ^ k) (hd : d ≤ 999) {vl : Nat → Int32} {m : Nat} (hm : m ≤ 16) (rf kp tk tf tc : Nat → Int32) (ts tl tg td ik cu x y : Int32) : ∃ (r : Int32) (rf' kp' tk' tf' tc' : Nat → Int32) (ts' tl' tg' td' ik' cu' : Int32), f_X9_whatWas FU ka fa ca (nI k) (nI L) (nI G) (nI d) tk tf tc ts tl tg td vl (nI m) rf x y = some (r, tk', tf', tc', ts', tl', tg', td', rf') ∧ f_X10_whatWas FU rf ka fa ca (nI k) (nI d) (nI L) (nI G) kp ik cu vl (nI m) x y = some (r, rf', ka, fa, ca, nI k, nI d, nI L, nI G, kp', ik', cu') ∧ ∀ j, j < 62 → kp' j = kp j := by
  have hk := hA.1
  unfold f_X9_whatWas f_X10_whatWas
  rcases pk_ix x (n := k) (by omega) with h | h | ⟨t, ht, rfl⟩
  · refine ⟨-1, rfu rf 1, kp, tk, tf, tc, ts, tl, tg, td, ik, cu, ?_, ?_, fun _ _ => rfl⟩
    · rw [e_has0 (Or.inl h), ob, if_pos rfl, e_ref1, ob]
    · rw [e_isT0 (Or.inl h), ob, if_pos rfl, f_X10_whatWas_27, if_neg nm1, e_no1, ob]
  · refine ⟨-1, rfu rf 1, kp, tk, tf, tc, ts, tl, tg, td, ik, cu, ?_, ?_, fun _ _ => rfl⟩
    · rw [e_has0 (Or.inr h), ob, if_pos rfl, e_ref1, ob]
    · rw [e_isT0 (Or.inr h), ob, if_pos rfl, f_X10_whatWas_27, if_neg nm1, e_no1, ob]
  rw [e_has hk ht, ob, if_neg n10, e_isT hk ht, ob, if_neg n10]
  have hin : vp_in (nI t) 9 := vp_in_nI (by omega) (by omega)
  have hC : AR k (cp tk 9 ka) (cp tf 9 fa) (cp tc 9 ca) kd fg cs := hA.cp
  rcases e_prt y with ⟨rfl, h1, h2⟩ | ⟨rfl, h1, h2⟩ | ⟨h3, h4, h1, h2⟩
  · obtain ⟨K', c1⟩ := e_wc_kind (d := d) (G := G) hC hL hd (vl := vl) hm ht ka fa ca (nI k) (nI L) (nI G) (nI d) 6 0 FU (cp tk 9 ka) (by omega) (by unfold FU; omega) (fun _ => rfl)
    obtain ⟨kp', ik', cu', m1, m2⟩ := e_wm_kind hA hL hG hd (vl := vl) hm ht 6 0 FU ka kp ik cu (by omega) (by unfold FU; omega) (fun _ => rfl)
    refine ⟨nI (wb_kind k kd fg cs L G d vl m t 6), rf, kp', K', cp tf 9 fa, cp tc 9 ca, nI k, nI L, nI G, nI d, ik', cu', ?_, ?_, m2⟩
    · rw [h1, ob, if_neg n10, if_pos rfl, f_X9_kindsBySuchNumbers, e_bec, ob]
      dsimp only
      rw [show f_X9_kindsBySuchNumbers_15 FU ka fa ca (nI k) (nI L) (nI G) (nI d) vl (nI m) (nI t) FU 0 0 (cp tk 9 ka) (cp tf 9 fa) (cp tc 9 ca) (nI k) (nI L) (nI G) (nI d) = _ from c1, ob]
    · rw [h2, ob, if_neg n10, f_X10_whatWas_27, if_pos rfl, if_pos rfl, f_X10_bitsFor_kind, xa_in hin, nI_clamp (by omega), show f_X10_bitsFor_kind_11 FU vl (nI m) (nI t) 6 FU (ka t) 0 0 ka fa ca (nI k) (nI d) (nI L) (nI G) kp ik cu = _ from m1, ob]
  · obtain ⟨K', c1⟩ := e_wc_figure (d := d) (G := G) hC hL hd (vl := vl) hm ht ka fa ca (nI k) (nI L) (nI G) (nI d) 10 0 FU (cp tf 9 fa) (by omega) (by unfold FU; omega) (fun _ => rfl)
    obtain ⟨kp', ik', cu', m1, m2⟩ := e_wm_figure hA hL hG hd (vl := vl) hm ht 10 0 FU fa kp ik cu (by omega) (by unfold FU; omega) (fun _ => rfl)
    refine ⟨nI (wb_figure k kd fg cs L G d vl m t 10), rf, kp', cp tk 9 ka, K', cp tc 9 ca, nI k, nI L, nI G, nI d, ik', cu', ?_, ?_, m2⟩
    · rw [h1, ob, if_neg n10, if_neg n10, f_X9_figuresBySuchNumbers, e_bec, ob]
      dsimp only
      rw [show f_X9_figuresBySuchNumbers_15 FU ka fa ca (nI k) (nI L) (nI G) (nI d) vl (nI m) (nI t) FU 0 0 (cp tk 9 ka) (cp tf 9 fa) (cp tc 9 ca) (nI k) (nI L) (nI G) (nI d) = _ from c1, ob]
    · rw [h2, ob, if_neg n10, f_X10_whatWas_27, if_pos rfl, if_neg n10, f_X10_bitsFor_figure, xa_in hin, nI_clamp (by omega), show f_X10_bitsFor_figure_11 FU vl (nI m) (nI t) 10 FU (fa t) 0 0 ka fa ca (nI k) (nI d) (nI L) (nI G) kp ik cu = _ from m1, ob]
  · refine ⟨-2, rfu rf 2, kp, tk, tf, tc, ts, tl, tg, td, ik, cu, ?_, ?_, fun _ _ => rfl⟩
    · rw [h1, ob, if_pos rfl, e_ref2, ob]
    · rw [h2, ob, if_pos rfl, f_X10_whatWas_27, if_neg nm2, e_no2, ob]
end CI
