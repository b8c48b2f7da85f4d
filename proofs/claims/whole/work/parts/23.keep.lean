/-! KEPT AND PUT BACK: the model's snapshots -/
def sgn (f : Nat → Int32) (a i : Nat) (g : Nat → Int32) : Nat → Int32 := fun j => if a ≤ j ∧ j < a + i then g (j - a) else f j
def rsn (f : Nat → Int32) (i : Nat) (g : Nat → Int32) (a : Nat) : Nat → Int32 := fun j => if j < i then g (a + j) else f j
theorem sgn_0 (f : Nat → Int32) (a : Nat) (g : Nat → Int32) : sgn f a 0 g = f := funext fun j => if_neg (by omega)
theorem rsn_0 (f : Nat → Int32) (g : Nat → Int32) (a : Nat) : rsn f 0 g a = f := funext fun j => if_neg (by omega)
theorem sgn_s (f : Nat → Int32) (a i : Nat) (g : Nat → Int32) : upd (sgn f a i g) (a + i) (g i) = sgn f a (i + 1) g := by
  funext j
  unfold upd sgn
  by_cases h : j = a + i
  · subst h
    rw [if_pos rfl, if_pos (by omega), show a + i - a = i by omega]
  · rw [if_neg h]
    by_cases h2 : a ≤ j ∧ j < a + i
    · rw [if_pos h2, if_pos (by omega)]
    · rw [if_neg h2, if_neg (by omega)]
theorem rsn_s (f : Nat → Int32) (i : Nat) (g : Nat → Int32) (a : Nat) : upd (rsn f i g a) i (g (a + i)) = rsn f (i + 1) g a := by
  funext j
  unfold upd rsn
  by_cases h : j = i
  · subst h
    rw [if_pos rfl, if_pos (by omega)]
  · rw [if_neg h]
    by_cases h2 : j < i
    · rw [if_pos h2, if_pos (by omega)]
    · rw [if_neg h2, if_neg (by omega)]
theorem e_keepL_kind (g kp : Nat → Int32) {a : Nat} (ha : a + 9 ≤ 93) : ∀ (j i n : Nat), i + j = 9 → j < n → f_X10_passes_kind_2 FU 1 n (nI i) g (sgn kp a i g) (nI (a + i)) = some (g, sgn kp a 9 g, nI (a + 9)) := by
  intro j
  induction j with
  | zero =>
    intro i n hi hn
    obtain ⟨n, rfl⟩ : ∃ z, n = z + 1 := ⟨n - 1, by omega⟩
    have : i = 9 := by omega
    subst this
    rw [f_X10_passes_kind_2, if_pos (show (9 : Int32) ≤ nI 9 from Int32.le_refl _)]
  | succ j ih =>
    intro i n hi hn
    obtain ⟨n, rfl⟩ : ∃ z, n = z + 1 := ⟨n - 1, by omega⟩
    rw [f_X10_passes_kind_2, if_neg (show ¬ (9 : Int32) ≤ nI i from nI_ge (b := 9) (by omega) (by omega)), if_neg (by decide), xa_in (vp_in_nI (by omega) (by omega)), xa_in (vp_in_nI (by omega) (by omega)), f_X10_passes_kind_42, nI_clamp (by omega), nI_clamp (by omega), sgn_s, show nI i + 1 = nI (i + 1) from nI_1 _, show nI (a + i) + 1 = nI (a + (i + 1)) from nI_1 _]
    exact ih (i + 1) n (by omega) (by omega)
theorem e_putL_kind (g kp : Nat → Int32) {a : Nat} (ha : a + 9 ≤ 93) : ∀ (j i n : Nat), i + j = 9 → j < n → f_X10_passes_kind_2 FU 0 n (nI i) (rsn g i kp a) kp (nI (a + i)) = some (rsn g 9 kp a, kp, nI (a + 9)) := by
  intro j
  induction j with
  | zero =>
    intro i n hi hn
    obtain ⟨n, rfl⟩ : ∃ z, n = z + 1 := ⟨n - 1, by omega⟩
    have : i = 9 := by omega
    subst this
    rw [f_X10_passes_kind_2, if_pos (show (9 : Int32) ≤ nI 9 from Int32.le_refl _)]
  | succ j ih =>
    intro i n hi hn
    obtain ⟨n, rfl⟩ : ∃ z, n = z + 1 := ⟨n - 1, by omega⟩
    rw [f_X10_passes_kind_2, if_neg (show ¬ (9 : Int32) ≤ nI i from nI_ge (b := 9) (by omega) (by omega)), if_pos rfl, xa_in (vp_in_nI (by omega) (by omega)), xa_in (vp_in_nI (by omega) (by omega)), f_X10_passes_kind_42, nI_clamp (by omega), nI_clamp (by omega), rsn_s, show nI i + 1 = nI (i + 1) from nI_1 _, show nI (a + i) + 1 = nI (a + (i + 1)) from nI_1 _]
    exact ih (i + 1) n (by omega) (by omega)
theorem e_keep_kind (g kp : Nat → Int32) {a : Nat} (ha : a + 9 ≤ 93) : f_X10_passes_kind FU g kp 1 (nI a) = some (g, sgn kp a 9 g, nI (a + 9)) := by
  have h := e_keepL_kind g kp ha 9 0 FU (by omega) (by unfold FU; omega)
  rw [sgn_0] at h
  exact h
theorem e_put_kind (g kp : Nat → Int32) {a : Nat} (ha : a + 9 ≤ 93) : f_X10_passes_kind FU g kp 0 (nI a) = some (rsn g 9 kp a, kp, nI (a + 9)) := by
  have h := e_putL_kind g kp ha 9 0 FU (by omega) (by unfold FU; omega)
  rw [rsn_0] at h
  exact h
theorem e_keepL_figure (g kp : Nat → Int32) {a : Nat} (ha : a + 9 ≤ 93) : ∀ (j i n : Nat), i + j = 9 → j < n → f_X10_passes_figure_2 FU 1 n (nI i) g (sgn kp a i g) (nI (a + i)) = some (g, sgn kp a 9 g, nI (a + 9)) := by
  intro j
  induction j with
  | zero =>
    intro i n hi hn
    obtain ⟨n, rfl⟩ : ∃ z, n = z + 1 := ⟨n - 1, by omega⟩
    have : i = 9 := by omega
    subst this
    rw [f_X10_passes_figure_2, if_pos (show (9 : Int32) ≤ nI 9 from Int32.le_refl _)]
  | succ j ih =>
    intro i n hi hn
    obtain ⟨n, rfl⟩ : ∃ z, n = z + 1 := ⟨n - 1, by omega⟩
    rw [f_X10_passes_figure_2, if_neg (show ¬ (9 : Int32) ≤ nI i from nI_ge (b := 9) (by omega) (by omega)), if_neg (by decide), xa_in (vp_in_nI (by omega) (by omega)), xa_in (vp_in_nI (by omega) (by omega)), f_X10_passes_figure_42, nI_clamp (by omega), nI_clamp (by omega), sgn_s, show nI i + 1 = nI (i + 1) from nI_1 _, show nI (a + i) + 1 = nI (a + (i + 1)) from nI_1 _]
    exact ih (i + 1) n (by omega) (by omega)
theorem e_putL_figure (g kp : Nat → Int32) {a : Nat} (ha : a + 9 ≤ 93) : ∀ (j i n : Nat), i + j = 9 → j < n → f_X10_passes_figure_2 FU 0 n (nI i) (rsn g i kp a) kp (nI (a + i)) = some (rsn g 9 kp a, kp, nI (a + 9)) := by
  intro j
  induction j with
  | zero =>
    intro i n hi hn
    obtain ⟨n, rfl⟩ : ∃ z, n = z + 1 := ⟨n - 1, by omega⟩
    have : i = 9 := by omega
    subst this
    rw [f_X10_passes_figure_2, if_pos (show (9 : Int32) ≤ nI 9 from Int32.le_refl _)]
  | succ j ih =>
    intro i n hi hn
    obtain ⟨n, rfl⟩ : ∃ z, n = z + 1 := ⟨n - 1, by omega⟩
    rw [f_X10_passes_figure_2, if_neg (show ¬ (9 : Int32) ≤ nI i from nI_ge (b := 9) (by omega) (by omega)), if_pos rfl, xa_in (vp_in_nI (by omega) (by omega)), xa_in (vp_in_nI (by omega) (by omega)), f_X10_passes_figure_42, nI_clamp (by omega), nI_clamp (by omega), rsn_s, show nI i + 1 = nI (i + 1) from nI_1 _, show nI (a + i) + 1 = nI (a + (i + 1)) from nI_1 _]
    exact ih (i + 1) n (by omega) (by omega)
theorem e_keep_figure (g kp : Nat → Int32) {a : Nat} (ha : a + 9 ≤ 93) : f_X10_passes_figure FU g kp 1 (nI a) = some (g, sgn kp a 9 g, nI (a + 9)) := by
  have h := e_keepL_figure g kp ha 9 0 FU (by omega) (by unfold FU; omega)
  rw [sgn_0] at h
  exact h
theorem e_put_figure (g kp : Nat → Int32) {a : Nat} (ha : a + 9 ≤ 93) : f_X10_passes_figure FU g kp 0 (nI a) = some (rsn g 9 kp a, kp, nI (a + 9)) := by
  have h := e_putL_figure g kp ha 9 0 FU (by omega) (by unfold FU; omega)
  rw [rsn_0] at h
  exact h
theorem e_keepL_cause (g kp : Nat → Int32) {a : Nat} (ha : a + 9 ≤ 93) : ∀ (j i n : Nat), i + j = 9 → j < n → f_X10_passes_cause_2 FU 1 n (nI i) g (sgn kp a i g) (nI (a + i)) = some (g, sgn kp a 9 g, nI (a + 9)) := by
  intro j
  induction j with
  | zero =>
    intro i n hi hn
    obtain ⟨n, rfl⟩ : ∃ z, n = z + 1 := ⟨n - 1, by omega⟩
    have : i = 9 := by omega
    subst this
    rw [f_X10_passes_cause_2, if_pos (show (9 : Int32) ≤ nI 9 from Int32.le_refl _)]
  | succ j ih =>
    intro i n hi hn
    obtain ⟨n, rfl⟩ : ∃ z, n = z + 1 := ⟨n - 1, by omega⟩
    rw [f_X10_passes_cause_2, if_neg (show ¬ (9 : Int32) ≤ nI i from nI_ge (b := 9) (by omega) (by omega)), if_neg (by decide), xa_in (vp_in_nI (by omega) (by omega)), xa_in (vp_in_nI (by omega) (by omega)), f_X10_passes_cause_42, nI_clamp (by omega), nI_clamp (by omega), sgn_s, show nI i + 1 = nI (i + 1) from nI_1 _, show nI (a + i) + 1 = nI (a + (i + 1)) from nI_1 _]
    exact ih (i + 1) n (by omega) (by omega)
theorem e_putL_cause (g kp : Nat → Int32) {a : Nat} (ha : a + 9 ≤ 93) : ∀ (j i n : Nat), i + j = 9 → j < n → f_X10_passes_cause_2 FU 0 n (nI i) (rsn g i kp a) kp (nI (a + i)) = some (rsn g 9 kp a, kp, nI (a + 9)) := by
  intro j
  induction j with
  | zero =>
    intro i n hi hn
    obtain ⟨n, rfl⟩ : ∃ z, n = z + 1 := ⟨n - 1, by omega⟩
    have : i = 9 := by omega
    subst this
    rw [f_X10_passes_cause_2, if_pos (show (9 : Int32) ≤ nI 9 from Int32.le_refl _)]
  | succ j ih =>
    intro i n hi hn
    obtain ⟨n, rfl⟩ : ∃ z, n = z + 1 := ⟨n - 1, by omega⟩
    rw [f_X10_passes_cause_2, if_neg (show ¬ (9 : Int32) ≤ nI i from nI_ge (b := 9) (by omega) (by omega)), if_pos rfl, xa_in (vp_in_nI (by omega) (by omega)), xa_in (vp_in_nI (by omega) (by omega)), f_X10_passes_cause_42, nI_clamp (by omega), nI_clamp (by omega), rsn_s, show nI i + 1 = nI (i + 1) from nI_1 _, show nI (a + i) + 1 = nI (a + (i + 1)) from nI_1 _]
    exact ih (i + 1) n (by omega) (by omega)
theorem e_keep_cause (g kp : Nat → Int32) {a : Nat} (ha : a + 9 ≤ 93) : f_X10_passes_cause FU g kp 1 (nI a) = some (g, sgn kp a 9 g, nI (a + 9)) := by
  have h := e_keepL_cause g kp ha 9 0 FU (by omega) (by unfold FU; omega)
  rw [sgn_0] at h
  exact h
theorem e_put_cause (g kp : Nat → Int32) {a : Nat} (ha : a + 9 ≤ 93) : f_X10_passes_cause FU g kp 0 (nI a) = some (rsn g 9 kp a, kp, nI (a + 9)) := by
  have h := e_putL_cause g kp ha 9 0 FU (by omega) (by unfold FU; omega)
  rw [rsn_0] at h
  exact h
theorem e_keep1 (kp : Nat → Int32) {a : Nat} (ha : a < 93) (v : Int32) : f_X10_passOne kp 1 (nI a) v = some (v, upd kp a v, nI (a + 1)) := by
  unfold f_X10_passOne f_X10_passOne_20 f_X10_passOne_38
  rw [if_neg (by decide), if_neg (by decide), xa_in (vp_in_nI ha (by omega)), nI_clamp (by omega)]
  rw [show nI a + 1 = nI (a + 1) from nI_1 _]
theorem e_put1 (kp : Nat → Int32) {a : Nat} (ha : a < 93) (v : Int32) : f_X10_passOne kp 0 (nI a) v = some (kp a, kp, nI (a + 1)) := by
  unfold f_X10_passOne f_X10_passOne_20 f_X10_passOne_38
  rw [if_pos rfl, if_pos rfl, xa_in (vp_in_nI ha (by omega)), nI_clamp (by omega)]
  rw [show nI a + 1 = nI (a + 1) from nI_1 _]
/-- all that there is, kept from place w on -/
def svd (w : Nat) (kp ka fa ca : Nat → Int32) (th dy lo gu : Int32) : Nat → Int32 := fun j =>
  if j < w then kp j else if j < w + 9 then ka (j - w) else if j < w + 18 then fa (j - (w + 9)) else if j < w + 27 then ca (j - (w + 18)) else if j = w + 27 then th else if j = w + 28 then dy else if j = w + 29 then lo else if j = w + 30 then gu else kp j
theorem svd_lo (w : Nat) (kp ka fa ca : Nat → Int32) (th dy lo gu : Int32) {j : Nat} (h : j < w) : svd w kp ka fa ca th dy lo gu j = kp j := if_pos h
theorem svd_ka (w : Nat) (kp ka fa ca : Nat → Int32) (th dy lo gu : Int32) : rsn ka 9 (svd w kp ka fa ca th dy lo gu) w = ka := by
  funext j
  unfold rsn svd
  by_cases h : j < 9
  · rw [if_pos h, if_neg (by omega), if_pos (by omega), show w + j - w = j by omega]
  · rw [if_neg h]
theorem svd_fa (w : Nat) (kp ka fa ca : Nat → Int32) (th dy lo gu : Int32) : rsn fa 9 (svd w kp ka fa ca th dy lo gu) (w + 9) = fa := by
  funext j
  unfold rsn svd
  by_cases h : j < 9
  · rw [if_pos h, if_neg (by omega), if_neg (by omega), if_pos (by omega), show w + 9 + j - (w + 9) = j by omega]
  · rw [if_neg h]
theorem svd_ca (w : Nat) (kp ka fa ca : Nat → Int32) (th dy lo gu : Int32) : rsn ca 9 (svd w kp ka fa ca th dy lo gu) (w + 18) = ca := by
  funext j
  unfold rsn svd
  by_cases h : j < 9
  · rw [if_pos h, if_neg (by omega), if_neg (by omega), if_neg (by omega), if_pos (by omega), show w + 18 + j - (w + 18) = j by omega]
  · rw [if_neg h]
theorem svd_th (w : Nat) (kp ka fa ca : Nat → Int32) (th dy lo gu : Int32) : svd w kp ka fa ca th dy lo gu (w + 27) = th := by
  unfold svd; rw [if_neg (by omega), if_neg (by omega), if_neg (by omega), if_neg (by omega), if_pos rfl]
theorem svd_dy (w : Nat) (kp ka fa ca : Nat → Int32) (th dy lo gu : Int32) : svd w kp ka fa ca th dy lo gu (w + 28) = dy := by
  unfold svd; rw [if_neg (by omega), if_neg (by omega), if_neg (by omega), if_neg (by omega), if_neg (by omega), if_pos rfl]
theorem svd_lt (w : Nat) (kp ka fa ca : Nat → Int32) (th dy lo gu : Int32) : svd w kp ka fa ca th dy lo gu (w + 29) = lo := by
  unfold svd; rw [if_neg (by omega), if_neg (by omega), if_neg (by omega), if_neg (by omega), if_neg (by omega), if_neg (by omega), if_pos rfl]
theorem svd_gu (w : Nat) (kp ka fa ca : Nat → Int32) (th dy lo gu : Int32) : svd w kp ka fa ca th dy lo gu (w + 30) = gu := by
  unfold svd; rw [if_neg (by omega), if_neg (by omega), if_neg (by omega), if_neg (by omega), if_neg (by omega), if_neg (by omega), if_neg (by omega), if_pos rfl]
theorem svd_eq (w : Nat) (kp ka fa ca : Nat → Int32) (th dy lo gu : Int32) : upd (upd (upd (upd (sgn (sgn (sgn kp w 9 ka) (w + 9) 9 fa) (w + 18) 9 ca) (w + 27) th) (w + 28) dy) (w + 29) lo) (w + 30) gu = svd w kp ka fa ca th dy lo gu := by
  funext j
  unfold upd sgn svd
  by_cases h1 : j = w + 30
  · subst h1; repeat' (first | rw [if_pos rfl] | rw [if_neg (by omega)])
  by_cases h2 : j = w + 29
  · subst h2; repeat' (first | rw [if_pos rfl] | rw [if_neg (by omega)])
  by_cases h3 : j = w + 28
  · subst h3; repeat' (first | rw [if_pos rfl] | rw [if_neg (by omega)])
  by_cases h4 : j = w + 27
  · subst h4; repeat' (first | rw [if_pos rfl] | rw [if_neg (by omega)])
  rw [if_neg h1, if_neg h2, if_neg h3, if_neg h4]
  by_cases h5 : j < w
  · rw [if_neg (by omega), if_neg (by omega), if_neg (by omega), if_pos h5]
  by_cases h6 : j < w + 9
  · rw [if_neg (by omega), if_neg (by omega), if_pos (by omega), if_neg h5, if_pos h6]
  by_cases h7 : j < w + 18
  · rw [if_neg (by omega), if_pos (by omega), if_neg h5, if_neg h6, if_pos h7]
  by_cases h8 : j < w + 27
  · rw [if_pos (by omega), if_neg h5, if_neg h6, if_neg h7, if_pos h8]
  · rw [if_neg (by omega), if_neg (by omega), if_neg (by omega), if_neg h5, if_neg h6, if_neg h7, if_neg h8, if_neg h4, if_neg h3, if_neg h2, if_neg h1]
theorem e_all1 (w : Nat) (hw : w < 3) (kp ka fa ca : Nat → Int32) (th dy lo gu ik cu : Int32) : f_X10_passesAll FU ka fa ca th dy lo gu kp ik cu (nI w) 1 = some (ka, fa, ca, th, dy, lo, gu, svd (31 * w) kp ka fa ca th dy lo gu, 1, nI (31 * w + 31)) := by
  have e : (31 : Int32) * nI w = nI (31 * w) := by rw [show (31 : Int32) = nI 31 from rfl, pk_mul]
  unfold f_X10_passesAll xz
  rw [if_pos (Or.inr rfl), e]
  have ha : 31 * w + 31 ≤ 93 := by omega
  generalize 31 * w = a at *
  rw [e_keep_kind ka kp (by omega), ob, e_keep_figure fa _ (by omega), ob, e_keep_cause ca _ (by omega), ob, e_keep1 _ (by omega), ob, e_keep1 _ (by omega), ob, e_keep1 _ (by omega), ob, e_keep1 _ (by omega), ob, ← svd_eq]
theorem e_all0 (w : Nat) (hw : w < 3) (kp ka fa ca : Nat → Int32) (th dy lo gu ik cu : Int32) : f_X10_passesAll FU ka fa ca th dy lo gu kp ik cu (nI w) 0 = some (rsn ka 9 kp (31 * w), rsn fa 9 kp (31 * w + 9), rsn ca 9 kp (31 * w + 18), kp (31 * w + 27), kp (31 * w + 28), kp (31 * w + 29), kp (31 * w + 30), kp, 0, nI (31 * w + 31)) := by
  have e : (31 : Int32) * nI w = nI (31 * w) := by rw [show (31 : Int32) = nI 31 from rfl, pk_mul]
  have ha : 31 * w + 31 ≤ 93 := by omega
  unfold f_X10_passesAll xz
  rw [if_pos (Or.inl rfl), e]
  generalize 31 * w = a at *
  rw [e_put_kind ka kp (by omega), ob, e_put_figure fa _ (by omega), ob, e_put_cause ca _ (by omega), ob, e_put1 _ (by omega), ob, e_put1 _ (by omega), ob, e_put1 _ (by omega), ob, e_put1 _ (by omega), ob]
theorem e_think (kp ka fa ca : Nat → Int32) (th dy lo gu ik cu : Int32) : f_X10_thinks FU ka fa ca th dy lo gu kp ik cu = some (ka, fa, ca, th, dy, lo, gu, svd 62 kp ka fa ca th dy lo gu, 1, nI 93) := by
  unfold f_X10_thinks
  rw [show (2 : Int32) = nI 2 from rfl, e_all1 2 (by omega), ob]
theorem e_forget (kp ka fa ca : Nat → Int32) (th dy lo gu th2 dy2 lo2 gu2 ik cu : Int32) : f_X10_forgets FU ka fa ca th2 dy2 lo2 gu2 (svd 62 kp ka fa ca th dy lo gu) ik cu = some (ka, fa, ca, th, dy, lo, gu, svd 62 kp ka fa ca th dy lo gu, 0, nI 93) := by
  unfold f_X10_forgets
  rw [show (2 : Int32) = nI 2 from rfl, e_all0 2 (by omega), ob]
  rw [show 31 * 2 = 62 from rfl, svd_ka, svd_fa, svd_ca, svd_th, svd_dy, svd_lt, svd_gu]
