/-! CALLS, fifteenth part: state -/
/-- where STATEMENT q begins -/
def ps (T : Nat → Int32) : Nat → Nat
  | 0 => 0
  | q + 1 => ps T q + ln (T (ps T q))
theorem sb_ln {T : Nat → Int32} {p : Nat} (h : sb T p = none) : 3 ≤ ln (T p) ∧ ln (T p) ≤ 4 := by
  rcases sb_k h with z | z | z | z | z | z <;> rw [z] <;> decide
theorem fw_b {P : Nat → Bool} {j i x : Nat} (h : fw P j i = some x) : x < i + j := (fw_some h).2.1
theorem sb_b4 {T : Nat → Int32} {p b : Nat} (h : sb T p = some b) : b < 4 := by
  unfold sb at h
  by_cases h0 : ln (T p) = 0
  · rw [if_pos h0] at h; cases h; omega
  · rw [if_neg h0] at h
    have := fw_b h
    have := (ln_3 h0).2
    omega
/-- what is kept of the first q STATEMENTS -/
def REC (T : Nat → Int32) (q : Nat) (le la to : Nat → Int32) : Prop := ∀ i, i < q → le i = T (ps T i) ∧ la i = nI (ps T i) ∧ TS T (ps T i) (to (2 * i)) (to (2 * i + 1))
section CO
variable {k : Nat} {ka fa ca : Nat → Int32} {kd fg cs : Nat → Nat} {L G d : Nat}
/-- the form: the class finds the FAULT that the model finds, or both find none -/
theorem e_form {lt : Nat → Int32} {n : Nat} (hl : LT lt n) (hn0 : 0 < n) (ka fa ca kp : Nat → Int32) (s0 s1 s2 s3 ik cu : Int32) : ∀ (j q m m' : Nat) (le la to : Nat → Int32), n ≤ ps (tp lt n) q + j → j + 1 < m → j + 1 < m' → 3 * q ≤ ps (tp lt n) q → ps (tp lt n) q < n + 4 → REC (tp lt n) q le la to → (∀ i, i < q → sb (tp lt n) (ps (tp lt n) i) = none ∧ ps (tp lt n) i < n) →
    (∃ (x : Nat) (st : Int32) (le' la' to' : Nat → Int32), x < 200 ∧ f_X8_faultOfForm_2 FU lt (nI n) m (nI (ps (tp lt n) q)) = some (-1000 - nI x) ∧ f_X10_state_12 FU lt m' 1 ka fa ca s0 s1 s2 s3 le la to (nI n) (nI (ps (tp lt n) q)) (nI q) kp ik cu = f_X10_state_60 FU lt 0 ka fa ca s0 s1 s2 s3 le' la' to' (nI n) (nI x) st kp ik cu) ∨
    (∃ (Q : Nat) (le' la' to' : Nat → Int32), 0 < Q ∧ Q ≤ 33 ∧ n ≤ ps (tp lt n) Q ∧ ps (tp lt n) Q < n + 4 ∧ REC (tp lt n) Q le' la' to' ∧ (∀ i, i < Q → sb (tp lt n) (ps (tp lt n) i) = none ∧ ps (tp lt n) i < n) ∧ f_X8_faultOfForm_2 FU lt (nI n) m (nI (ps (tp lt n) q)) = some 0 ∧ f_X10_state_12 FU lt m' 1 ka fa ca s0 s1 s2 s3 le la to (nI n) (nI (ps (tp lt n) q)) (nI q) kp ik cu = f_X10_state_60 FU lt 1 ka fa ca s0 s1 s2 s3 le' la' to' (nI n) (nI (ps (tp lt n) Q)) (nI Q) kp ik cu) := by
  have hn := hl.1
  have hz0 : ¬ nI n = 0 := nI_ne0 hn0 (by omega)
  -- both at the end
  have fine : ∀ (q m m' : Nat) (le la to : Nat → Int32), n ≤ ps (tp lt n) q → 3 * q ≤ ps (tp lt n) q → ps (tp lt n) q < n + 4 → f_X8_faultOfForm_2 FU lt (nI n) (m + 1) (nI (ps (tp lt n) q)) = some 0 ∧ f_X10_state_12 FU lt (m' + 1) 1 ka fa ca s0 s1 s2 s3 le la to (nI n) (nI (ps (tp lt n) q)) (nI q) kp ik cu = f_X10_state_60 FU lt 1 ka fa ca s0 s1 s2 s3 le la to (nI n) (nI (ps (tp lt n) q)) (nI q) kp ik cu := by
    intro q m m' le la to h1 h2 h3
    have hq0 : 0 < q := by
      by_cases h : q = 0
      · subst h; rw [ps] at h1; omega
      · omega
    refine ⟨?_, ?_⟩
    · rw [f_X8_faultOfForm_2, if_pos (nI_le h1 (by omega)), if_neg hz0]
    · rw [f_X10_state_12, if_neg n10, if_neg (nI_nlt h1 (by omega)), if_neg (nI_ne0 hq0 (by omega))]
  intro j
  induction j with
  | zero =>
    intro q m m' le la to h1 hm hm' h3 h4 hR hS
    obtain ⟨m, rfl⟩ : ∃ z, m = z + 1 := ⟨m - 1, by omega⟩
    obtain ⟨m', rfl⟩ : ∃ z, m' = z + 1 := ⟨m' - 1, by omega⟩
    obtain ⟨f1, f2⟩ := fine q m m' le la to (by omega) h3 h4
    have hq0 : 0 < q := by
      by_cases h : q = 0
      · subst h; rw [ps] at h1; omega
      · omega
    exact Or.inr ⟨q, le, la, to, hq0, by omega, by omega, h4, hR, hS, f1, f2⟩
  | succ j ih =>
    intro q m m' le la to h1 hm hm' h3 h4 hR hS
    obtain ⟨m, rfl⟩ : ∃ z, m = z + 1 := ⟨m - 1, by omega⟩
    obtain ⟨m', rfl⟩ : ∃ z, m' = z + 1 := ⟨m' - 1, by omega⟩
    by_cases hpn : ps (tp lt n) q < n
    rotate_left
    · obtain ⟨f1, f2⟩ := fine q m m' le la to (by omega) h3 h4
      have hq0 : 0 < q := by
        by_cases h : q = 0
        · subst h; rw [ps] at hpn; omega
        · omega
      exact Or.inr ⟨q, le, la, to, hq0, by omega, by omega, h4, hR, hS, f1, f2⟩
    generalize hpe : ps (tp lt n) q = p at *
    have hst := e_st lt le la to (n := n) (p := p) (q := q) hn (by omega) (by omega)
    have hcl : f_X8_faultOfForm_2 FU lt (nI n) (m + 1) (nI p) = match sb (tp lt n) p with
        | none => f_X8_faultOfForm_2 FU lt (nI n) m (nI (p + ln (tp lt n p)))
        | some b => some (-1000 - nI (p + b)) := by
      rw [f_X8_faultOfForm_2, if_neg (nI_ge hpn (by omega)), e_at8 lt hn (by omega), ob, e_len, ob]
      unfold sb
      by_cases h0 : ln (tp lt n p) = 0
      · rw [h0, if_pos (show nI 0 = 0 from rfl), if_pos rfl]; rfl
      · have h34 := ln_3 h0
        rw [if_neg h0, if_neg (by rw [show (0 : Int32) = nI 0 from rfl, nI_eq (by omega) (by omega)]; exact h0)]
        exact e_ff31 hl (by omega) h34.2 _ (ln (tp lt n p) - 1) 1 FU (by omega) (by omega) (by unfold FU; omega)
    have hmd : f_X10_state_12 FU lt (m' + 1) 1 ka fa ca s0 s1 s2 s3 le la to (nI n) (nI p) (nI q) kp ik cu = f_X10_state_34 FU lt (f_X10_state_12 FU lt m') ka fa ca s0 s1 s2 s3 le la to (nI n) (nI p) (nI q) kp ik cu := by
      rw [f_X10_state_12, if_neg n10, if_pos (nI_lt hpn (by omega))]
    unfold SQ at hst
    cases hb : sb (tp lt n) p with
    | some b =>
      rw [hb] at hst hcl
      obtain ⟨le', la', to', hs⟩ := hst
      have hb4 := sb_b4 hb
      obtain ⟨m', rfl⟩ : ∃ z, m' = z + 1 := ⟨m' - 1, by omega⟩
      refine Or.inl ⟨p + b, nI q + 0, le', la', to', by omega, hcl, ?_⟩
      rw [hmd, f_X10_state_34, hs, ob, if_pos rfl]
      dsimp only
      rw [f_X10_state_53, f_X10_state_12, if_pos rfl]
    | none =>
      rw [hb] at hst hcl
      obtain ⟨to', hs, hto1, hto2⟩ := hst
      have h34 := sb_ln hb
      have hps : ps (tp lt n) (q + 1) = p + ln (tp lt n p) := by rw [ps, hpe]
      have hR' : REC (tp lt n) (q + 1) (upd le q (tp lt n p)) (upd la q (nI p)) to' := by
        intro i hi
        by_cases hiq : i = q
        · subst hiq
          rw [pk_us, pk_us, hpe]
          exact ⟨rfl, rfl, hto2⟩
        · rw [pk_un hiq, pk_un hiq, hto1 _ (by omega) (by omega), hto1 _ (by omega) (by omega)]
          exact hR i (by omega)
      have hS' : ∀ i, i < q + 1 → sb (tp lt n) (ps (tp lt n) i) = none ∧ ps (tp lt n) i < n := by
        intro i hi
        by_cases hiq : i = q
        · subst hiq; rw [hpe]; exact ⟨hb, hpn⟩
        · exact hS i (by omega)
      have e1 : nI q + 1 = nI (q + 1) := nI_1 q
      have hmd2 : f_X10_state_12 FU lt (m' + 1) 1 ka fa ca s0 s1 s2 s3 le la to (nI n) (nI p) (nI q) kp ik cu = f_X10_state_12 FU lt m' 1 ka fa ca s0 s1 s2 s3 (upd le q (tp lt n p)) (upd la q (nI p)) to' (nI n) (nI (p + ln (tp lt n p))) (nI (q + 1)) kp ik cu := by
        rw [hmd, f_X10_state_34, hs, ob, if_neg n10]
        dsimp only
        rw [f_X10_state_53, e1]
      have nx := ih (q + 1) m m' (upd le q (tp lt n p)) (upd la q (nI p)) to' (by rw [hps]; omega) (by omega) (by omega) (by rw [hps]; omega) (by rw [hps]; omega) hR' hS'
      rw [hps] at nx
      rw [hcl, hmd2]
      exact nx
/-- the STATEMENTS come -/
theorem e_come {O1 O2 O3 lt le la to : Nat → Int32} {n Q : Nat} (hl : LT lt n) (hQ : Q ≤ 33) (hend : n ≤ ps (tp lt n) Q) (hbig : ps (tp lt n) Q < n + 4) (hR : REC (tp lt n) Q le la to) (hS : ∀ i, i < Q → sb (tp lt n) (ps (tp lt n) i) = none ∧ ps (tp lt n) i < n) (at' : Int32) (kp : Nat → Int32) (k0 d0 L0 G0 : Nat) : ∀ (j q m m' k L G d : Nat) (kd fg cs : Nat → Nat) (K1 K2 K3 M1 M2 M3 : Nat → Int32) (ik cu : Int32), q + j = Q → j < m → j < m' → AR k K1 K2 K3 kd fg cs → AR k M1 M2 M3 kd fg cs → AG K1 M1 O1 → AG K2 M2 O2 → AG K3 M3 O3 → L < 2 ^ k → G < 2 ^ k → d ≤ 999 →
    (∃ (p : Nat) (X1 X2 X3 : Nat → Int32) (x4 x5 x6 x7 ik' cu' : Int32), p < 200 ∧ f_X8_comeOver_4 FU lt (nI n) m (nI q) (nI (ps (tp lt n) q)) K1 K2 K3 (nI k) (nI L) (nI G) (nI d) = some (-2000 - nI p, X1, X2, X3, x4, x5, x6, x7) ∧ f_X10_state_86 FU lt m' (nI q) M1 M2 M3 (nI k) (nI d) (nI L) (nI G) le la to 0 at' (nI Q) (svd 31 kp O1 O2 O3 (nI k0) (nI d0) (nI L0) (nI G0)) ik cu = some (-2000 - nI p, O1, O2, O3, nI k0, nI d0, nI L0, nI G0, le, la, to, 0, at', nI Q, svd 31 kp O1 O2 O3 (nI k0) (nI d0) (nI L0) (nI G0), ik', cu')) ∨
    (∃ (k' L' G' d' : Nat) (kd' fg' cs' : Nat → Nat) (K1' K2' K3' M1' M2' M3' : Nat → Int32), AR k' M1' M2' M3' kd' fg' cs' ∧ AG K1' M1' O1 ∧ AG K2' M2' O2 ∧ AG K3' M3' O3 ∧ L' < 2 ^ k' ∧ G' < 2 ^ k' ∧ d' ≤ 999 ∧
      f_X8_comeOver_4 FU lt (nI n) m (nI q) (nI (ps (tp lt n) q)) K1 K2 K3 (nI k) (nI L) (nI G) (nI d) = some (nI Q, K1', K2', K3', nI k', nI L', nI G', nI d') ∧ f_X10_state_86 FU lt m' (nI q) M1 M2 M3 (nI k) (nI d) (nI L) (nI G) le la to 0 at' (nI Q) (svd 31 kp O1 O2 O3 (nI k0) (nI d0) (nI L0) (nI G0)) ik cu = some (nI Q, M1', M2', M3', nI k', nI d', nI L', nI G', le, la, to, 0, at', nI Q, svd 31 kp O1 O2 O3 (nI k0) (nI d0) (nI L0) (nI G0), ik, cu)) := by
  have hn := hl.1
  intro j
  induction j with
  | zero =>
    intro q m m' k L G d kd fg cs K1 K2 K3 M1 M2 M3 ik cu hq hm hm' hK hM a1 a2 a3 hL hG hd
    obtain ⟨m, rfl⟩ : ∃ z, m = z + 1 := ⟨m - 1, by omega⟩
    obtain ⟨m', rfl⟩ : ∃ z, m' = z + 1 := ⟨m' - 1, by omega⟩
    have : q = Q := by omega
    subst this
    refine Or.inr ⟨k, L, G, d, kd, fg, cs, K1, K2, K3, M1, M2, M3, hM, a1, a2, a3, hL, hG, hd, ?_, ?_⟩
    · rw [f_X8_comeOver_4, if_pos (nI_le hend (by omega))]
    · rw [f_X10_state_86, if_pos (Int32.le_refl _)]
  | succ j ih =>
    intro q m m' k L G d kd fg cs K1 K2 K3 M1 M2 M3 ik cu hq hm hm' hK hM a1 a2 a3 hL hG hd
    obtain ⟨m, rfl⟩ : ∃ z, m = z + 1 := ⟨m - 1, by omega⟩
    obtain ⟨m', rfl⟩ : ∃ z, m' = z + 1 := ⟨m' - 1, by omega⟩
    obtain ⟨hb, hpn⟩ := hS q (by omega)
    obtain ⟨r1, r2, r3⟩ := hR q (by omega)
    have hps : ps (tp lt n) (q + 1) = ps (tp lt n) q + ln (tp lt n (ps (tp lt n) q)) := rfl
    generalize ps (tp lt n) q = p at *
    have h34 := sb_ln hb
    have e1 : nI q + 1 = nI (q + 1) := nI_1 q
    have cst := e_cs hK hM a1 a2 a3 hL hG hd hl (p := p) (q := q) (le := le) (to := to) (by omega) (by omega) r1 r3 hb
    rcases cst with ⟨c1, c2⟩ | ⟨k', L', G', d', kd', fg', cs', K1', K2', K3', M1', M2', M3', hK', hM', b1, b2, b3, hL', hG', hd', c1, c2⟩
    · refine Or.inl ⟨p, K1, K2, K3, nI k, nI L, nI G, nI d, 0, nI 62, by omega, ?_, ?_⟩
      · rw [f_X8_comeOver_4, if_neg (nI_ge hpn (by omega)), c1, ob, if_pos rfl]
      · have hal := e_all0 1 (by omega) (svd 31 kp O1 O2 O3 (nI k0) (nI d0) (nI L0) (nI G0)) M1 M2 M3 (nI k) (nI d) (nI L) (nI G) ik cu
        have rs : ∀ {K M O : Nat → Int32} (a : Nat) (S : Nat → Int32), AG K M O → rsn O 9 S a = O → rsn M 9 S a = O := by
          intro K M O a S hag h
          funext y
          unfold rsn at h ⊢
          by_cases hy : y < 9
          · have := congrFun h y
            rw [if_pos hy] at this ⊢
            exact this
          · rw [if_neg hy]; exact hag.2 y (by omega)
        rw [show 31 * 1 = 31 from rfl, rs 31 _ a1 (svd_ka 31 kp O1 O2 O3 _ _ _ _), rs (31 + 9) _ a2 (svd_fa 31 kp O1 O2 O3 _ _ _ _), rs (31 + 18) _ a3 (svd_ca 31 kp O1 O2 O3 _ _ _ _), svd_th, svd_dy, svd_lt, svd_gu] at hal
        rw [f_X10_state_86, if_neg (nI_ge (by omega) (by omega)), c2, ob, if_pos rfl]
        dsimp only
        rw [show f_X10_passesAll FU M1 M2 M3 (nI k) (nI d) (nI L) (nI G) (svd 31 kp O1 O2 O3 (nI k0) (nI d0) (nI L0) (nI G0)) ik cu 1 0 = _ from hal, ob, xa_in (vp_in_nI (by omega) (by omega)), nI_clamp (by omega), r2]
    · have nx := ih (q + 1) m m' k' L' G' d' kd' fg' cs' K1' K2' K3' M1' M2' M3' ik cu (by omega) (by omega) (by omega) hK' hM' b1 b2 b3 hL' hG' hd'
      rw [hps] at nx
      rw [f_X8_comeOver_4, if_neg (nI_ge hpn (by omega)), c1, ob, if_neg n10, e_at8 lt hn (by omega), ob, e_len, ob, e1, if_pos (show (1 : Int32) < nI (ln (tp lt n p)) from nI_lt (a := 1) (by omega) (by omega)), nI_add]
      have hm1 : f_X10_state_86 FU lt (m' + 1) (nI q) M1 M2 M3 (nI k) (nI d) (nI L) (nI G) le la to 0 at' (nI Q) (svd 31 kp O1 O2 O3 (nI k0) (nI d0) (nI L0) (nI G0)) ik cu = f_X10_state_86 FU lt m' (nI (q + 1)) M1' M2' M3' (nI k') (nI d') (nI L') (nI G') le la to 0 at' (nI Q) (svd 31 kp O1 O2 O3 (nI k0) (nI d0) (nI L0) (nI G0)) ik cu := by
        rw [f_X10_state_86, if_neg (nI_ge (by omega) (by omega)), c2, ob, if_neg n10, e1]
      rw [hm1]
      exact nx
theorem cp_AG {K M O : Nat → Int32} (h : AG K M O) : cp O 9 K = M := by
  funext j
  unfold cp
  by_cases hj : j < 9
  · rw [if_pos hj]; exact h.1 j hj
  · rw [if_neg hj]; exact (h.2 j (by omega)).symm
theorem AG_cp (t a : Nat → Int32) : AG (cp t 9 a) a a := ⟨fun j hj => cp_in hj, fun _ _ => rfl⟩
theorem t_state (hA : AR k ka fa ca kd fg cs) (hL : L < 2 ^ k) (hG : G < 2 ^ k) (hd : d ≤ 999) {lt : Nat → Int32} {n : Nat} (hl : LT lt n) (tk tf tc le la to kp : Nat → Int32) (ts tl tg td at0 st ik cu : Int32) : ∃ (r : Int32) (k' L' G' d' : Nat) (kd' fg' cs' : Nat → Nat) (ka' fa' ca' tk' tf' tc' le' la' to' kp' : Nat → Int32) (ts' tl' tg' td' at' st' ik' cu' : Int32), AR k' ka' fa' ca' kd' fg' cs' ∧ L' < 2 ^ k' ∧ G' < 2 ^ k' ∧ d' ≤ 999 ∧
    f_X9_state FU ka fa ca (nI k) (nI L) (nI G) (nI d) tk tf tc ts tl tg td lt (nI n) = some (r, ka', fa', ca', nI k', nI L', nI G', nI d', tk', tf', tc', ts', tl', tg', td', nI 0) ∧ f_X10_state FU ka fa ca (nI k) (nI d) (nI L) (nI G) lt le la to (nI n) at0 st kp ik cu = some (r, ka', fa', ca', nI k', nI d', nI L', nI G', le', la', to', nI 0, at', st', kp', ik', cu') ∧ ∀ j, j < 31 → kp' j = kp j := by
  have hk := hA.1
  have hn := hl.1
  -- a FAULT of kind 1
  have bad : ∀ (x : Nat) (st1 : Int32) (le1 la1 to1 : Nat → Int32), x < 200 → f_X8_faultOfForm FU lt (nI n) = some (-1000 - nI x) → f_X10_state FU ka fa ca (nI k) (nI d) (nI L) (nI G) lt le la to (nI n) at0 st kp ik cu = f_X10_state_60 FU lt 0 ka fa ca (nI k) (nI d) (nI L) (nI G) le1 la1 to1 (nI n) (nI x) st1 kp ik cu → f_X9_state FU ka fa ca (nI k) (nI L) (nI G) (nI d) tk tf tc ts tl tg td lt (nI n) = some (-1000 - nI x, ka, fa, ca, nI k, nI L, nI G, nI d, tk, tf, tc, ts, tl, tg, td, nI 0) ∧ f_X10_state FU ka fa ca (nI k) (nI d) (nI L) (nI G) lt le la to (nI n) at0 st kp ik cu = some (-1000 - nI x, ka, fa, ca, nI k, nI d, nI L, nI G, le1, la1, to1, nI 0, nI x, st1, kp, ik, cu) := by
    intro x st1 le1 la1 to1 hx h1 h2
    have hne : ¬ (-1000 - nI x) = 0 := (show ∀ x, x < 200 → ¬ (-1000 - nI x : Int32) = 0 by decide +kernel) x hx
    refine ⟨?_, ?_⟩
    · unfold f_X9_state
      rw [h1, ob, if_neg hne, f_X9_state_50, f_X8_forget, ob]
      rfl
    · rw [h2, f_X10_state_60, if_pos rfl]
      rfl
  by_cases hn0 : n = 0
  · subst hn0
    have hst := e_st lt le la to (n := 0) (p := 0) (q := 0) (by omega) (by omega) (by omega)
    unfold SQ at hst
    rw [show sb (tp lt 0) 0 = some 0 from rfl] at hst
    obtain ⟨le', la', to', hs⟩ := hst
    have e : ∀ m, f_X10_state_12 FU lt (m + 1 + 1) 1 ka fa ca (nI k) (nI d) (nI L) (nI G) le la to (nI 0) 0 0 kp ik cu = f_X10_state_60 FU lt 0 ka fa ca (nI k) (nI d) (nI L) (nI G) le' la' to' (nI 0) (nI 0) (0 + 0) kp ik cu := by
      intro m
      rw [f_X10_state_12, if_neg n10, if_neg (show ¬ (0 : Int32) < nI 0 by decide), if_pos rfl, f_X10_state_34, show f_X10_statement FU lt le la to (nI 0) 0 0 = _ from hs, ob, if_pos rfl]
      dsimp only
      rw [f_X10_state_53, f_X10_state_12, if_pos rfl]
    obtain ⟨b1, b2⟩ := bad 0 (0 + 0) le' la' to' (by omega) (by rfl) (e 998)
    exact ⟨_, k, L, G, d, kd, fg, cs, ka, fa, ca, tk, tf, tc, le', la', to', kp, ts, tl, tg, td, _, _, ik, cu, hA, hL, hG, hd, b1, b2, fun _ _ => rfl⟩
  rcases e_form hl (by omega) ka fa ca kp (nI k) (nI d) (nI L) (nI G) ik cu n 0 FU FU le la to (by omega) (by unfold FU; omega) (by unfold FU; omega) (by omega) (by rw [ps]; omega) (fun i hi => absurd hi (by omega)) (fun i hi => absurd hi (by omega)) with ⟨x, st1, le1, la1, to1, hx, h1, h2⟩ | ⟨Q, le1, la1, to1, hQ0, hQ, hend, hbig, hR, hS, h1, h2⟩
  · obtain ⟨b1, b2⟩ := bad x st1 le1 la1 to1 hx h1 h2
    exact ⟨_, k, L, G, d, kd, fg, cs, ka, fa, ca, tk, tf, tc, le1, la1, to1, kp, ts, tl, tg, td, _, _, ik, cu, hA, hL, hG, hd, b1, b2, fun _ _ => rfl⟩
  · have hal := e_all1 1 (by omega) kp ka fa ca (nI k) (nI d) (nI L) (nI G) ik cu
    have cm := e_come (O1 := ka) (O2 := fa) (O3 := ca) hl hQ hend hbig hR hS (nI (ps (tp lt n) Q)) kp k d L G Q 0 FU FU k L G d kd fg cs (cp tk 9 ka) (cp tf 9 fa) (cp tc 9 ca) ka fa ca 1 (nI 62) (by omega) (by unfold FU; omega) (by unfold FU; omega) hA.cp hA (AG_cp tk ka) (AG_cp tf fa) (AG_cp tc ca) hL hG hd
    have hc0 : f_X9_state FU ka fa ca (nI k) (nI L) (nI G) (nI d) tk tf tc ts tl tg td lt (nI n) = ((f_X8_comeOver_4 FU lt (nI n) FU 0 0 (cp tk 9 ka) (cp tf 9 fa) (cp tc 9 ca) (nI k) (nI L) (nI G) (nI d)).bind fun x_5 => (if x_5.1 ≤ 0 then f_X9_state_50 FU lt x_5.1 ka fa ca (nI k) (nI L) (nI G) (nI d) x_5.2.1 x_5.2.2.1 x_5.2.2.2.1 x_5.2.2.2.2.1 x_5.2.2.2.2.2.1 x_5.2.2.2.2.2.2.1 x_5.2.2.2.2.2.2.2 (nI n) else ((f_X7_becomes FU ka fa ca (nI k) (nI L) (nI G) (nI d) x_5.2.1 x_5.2.2.1 x_5.2.2.2.1 x_5.2.2.2.2.1 x_5.2.2.2.2.2.1 x_5.2.2.2.2.2.2.1 x_5.2.2.2.2.2.2.2).bind fun x_7 => (f_X9_state_50 FU lt x_5.1 x_7.1 x_7.2.1 x_7.2.2.1 x_7.2.2.2.1 x_7.2.2.2.2.1 x_7.2.2.2.2.2.1 x_7.2.2.2.2.2.2 x_5.2.1 x_5.2.2.1 x_5.2.2.2.1 x_5.2.2.2.2.1 x_5.2.2.2.2.2.1 x_5.2.2.2.2.2.2.1 x_5.2.2.2.2.2.2.2 (nI n))))) := by
      unfold f_X9_state
      rw [show f_X8_faultOfForm FU lt (nI n) = some 0 from h1, ob, if_pos rfl, e_bec, ob]
      rfl
    have hm0 : f_X10_state FU ka fa ca (nI k) (nI d) (nI L) (nI G) lt le la to (nI n) at0 st kp ik cu = f_X10_state_86 FU lt FU 0 ka fa ca (nI k) (nI d) (nI L) (nI G) le1 la1 to1 0 (nI (ps (tp lt n) Q)) (nI Q) (svd 31 kp ka fa ca (nI k) (nI d) (nI L) (nI G)) 1 (nI 62) := by
      rw [show f_X10_state FU ka fa ca (nI k) (nI d) (nI L) (nI G) lt le la to (nI n) at0 st kp ik cu = _ from h2, f_X10_state_60, if_neg n10, show f_X10_passesAll FU ka fa ca (nI k) (nI d) (nI L) (nI G) kp ik cu 1 1 = _ from hal, ob]
    rcases cm with ⟨p, X1, X2, X3, x4, x5, x6, x7, ik', cu', hp, c1, c2⟩ | ⟨k', L', G', d', kd', fg', cs', K1', K2', K3', M1', M2', M3', hM', b1, b2, b3, hL', hG', hd', c1, c2⟩
    · have hle : (-2000 - nI p : Int32) ≤ 0 := (show ∀ x, x < 200 → (-2000 - nI x : Int32) ≤ 0 by decide +kernel) p hp
      refine ⟨-2000 - nI p, k, L, G, d, kd, fg, cs, ka, fa, ca, X1, X2, X3, le1, la1, to1, svd 31 kp ka fa ca (nI k) (nI d) (nI L) (nI G), x4, x5, x6, x7, nI (ps (tp lt n) Q), nI Q, ik', cu', hA, hL, hG, hd, ?_, ?_, fun j hj => svd_lo _ _ _ _ _ _ _ _ _ hj⟩
      · rw [hc0, show f_X8_comeOver_4 FU lt (nI n) FU 0 0 (cp tk 9 ka) (cp tf 9 fa) (cp tc 9 ca) (nI k) (nI L) (nI G) (nI d) = _ from c1, ob]
        dsimp only
        rw [if_pos hle, f_X9_state_50, f_X8_forget, ob]
        try rfl
      · rw [hm0]; exact c2
    · have hle : ¬ nI Q ≤ 0 := nI_nle hQ0 (by omega)
      refine ⟨nI Q, k', L', G', d', kd', fg', cs', M1', M2', M3', K1', K2', K3', le1, la1, to1, svd 31 kp ka fa ca (nI k) (nI d) (nI L) (nI G), nI k', nI L', nI G', nI d', nI (ps (tp lt n) Q), nI Q, 1, nI 62, hM', hL', hG', hd', ?_, ?_, fun j hj => svd_lo _ _ _ _ _ _ _ _ _ hj⟩
      · rw [hc0, show f_X8_comeOver_4 FU lt (nI n) FU 0 0 (cp tk 9 ka) (cp tf 9 fa) (cp tc 9 ca) (nI k) (nI L) (nI G) (nI d) = _ from c1, ob]
        dsimp only
        rw [if_neg hle, e_bec, ob]
        dsimp only
        rw [cp_AG b1, cp_AG b2, cp_AG b3, f_X9_state_50, f_X8_forget, ob]
        try rfl
      · rw [hm0]; exact c2
end CO
