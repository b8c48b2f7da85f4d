/-! CALLS, fourteenth part: state, what comes -/
theorem sb_c {T : Nat → Int32} {p : Nat} (h : sb T p = none) (hc : T p = 99 ∨ T p = 100) : dg (T (p + 1)) = true ∧ dg (T (p + 2)) = true := by
  unfold sb at h
  have hl : ln (T p) = 4 := by rcases hc with z | z <;> rw [z] <;> rfl
  have h116 : ¬ T p = 116 := by rcases hc with z | z <;> rw [z] <;> decide
  rw [hl, if_neg (by decide), show 4 - 1 = 3 from rfl, fw_3] at h
  have g1 : gk (T p) (T (p + 1)) 1 4 = dg (T (p + 1)) := by unfold gk; rw [if_neg (by decide), if_neg (fun z => h116 z.1)]
  have g2 : gk (T p) (T (p + 2)) 2 4 = dg (T (p + 2)) := by unfold gk; rw [if_neg (by decide), if_neg (fun z => h116 z.1)]
  rw [g1, g2] at h
  by_cases d1 : dg (T (p + 1)) = true
  · by_cases d2 : dg (T (p + 2)) = true
    · exact ⟨d1, d2⟩
    · rw [if_neg (nt d1), if_pos (nf d2)] at h; cases h
  · rw [if_pos (nf d1)] at h; cases h
theorem sb_t {T : Nat → Int32} {p : Nat} (h : sb T p = none) (hc : T p = 116) : (∃ q, q < 6 ∧ kb_ix (T (p + 1)) = nI q) ∧ dg (T (p + 2)) = true := by
  unfold sb at h
  rw [hc, if_neg (show ¬ ln 116 = 0 by decide), show ln 116 - 1 = 3 from rfl, fw_3] at h
  have g1 : gk 116 (T (p + 1)) 1 (ln 116) = !decide (kb_ix (T (p + 1)) = -1) := rfl
  have g2 : gk 116 (T (p + 2)) 2 (ln 116) = dg (T (p + 2)) := rfl
  rw [g1, g2] at h
  by_cases d1 : kb_ix (T (p + 1)) = -1
  · rw [if_pos (show (!!decide (kb_ix (T (p + 1)) = -1)) = true by rw [decide_eq_true d1]; rfl)] at h; cases h
  · rw [if_neg (show ¬ (!!decide (kb_ix (T (p + 1)) = -1)) = true by rw [decide_eq_false d1]; decide)] at h
    by_cases d2 : dg (T (p + 2)) = true
    · exact ⟨(kb_cases _).resolve_left d1, d2⟩
    · rw [if_pos (nf d2)] at h; cases h
theorem sb_l {T : Nat → Int32} {p : Nat} (h : sb T p = none) (hc : T p = 103 ∨ T p = 108 ∨ T p = 109) : dg (T (p + 1)) = true := by
  unfold sb at h
  have hl : ln (T p) = 3 := by rcases hc with z | z | z <;> rw [z] <;> rfl
  have h116 : ¬ T p = 116 := by rcases hc with z | z | z <;> rw [z] <;> decide
  rw [hl, if_neg (by decide), show 3 - 1 = 2 from rfl, fw_2] at h
  have g1 : gk (T p) (T (p + 1)) 1 3 = dg (T (p + 1)) := by unfold gk; rw [if_neg (by decide), if_neg (fun z => h116 z.1)]
  rw [g1] at h
  by_cases d1 : dg (T (p + 1)) = true
  · exact d1
  · rw [if_pos (nf d1)] at h; cases h
theorem sb_k {T : Nat → Int32} {p : Nat} (h : sb T p = none) : T p = 99 ∨ T p = 100 ∨ T p = 116 ∨ T p = 103 ∨ T p = 108 ∨ T p = 109 := by
  by_cases h99 : T p = 99
  · exact Or.inl h99
  by_cases h100 : T p = 100
  · exact Or.inr (Or.inl h100)
  by_cases h116 : T p = 116
  · exact Or.inr (Or.inr (Or.inl h116))
  by_cases h103 : T p = 103
  · exact Or.inr (Or.inr (Or.inr (Or.inl h103)))
  by_cases h108 : T p = 108
  · exact Or.inr (Or.inr (Or.inr (Or.inr (Or.inl h108))))
  by_cases h109 : T p = 109
  · exact Or.inr (Or.inr (Or.inr (Or.inr (Or.inr h109))))
  unfold sb at h
  rw [if_pos (ln_0 h99 h100 h116 h103 h108 h109)] at h
  cases h
/-- the class's row and the model's, the model's old one behind place 9 -/
def AG (K M O : Nat → Int32) : Prop := (∀ j, j < 9 → K j = M j) ∧ ∀ j, 9 ≤ j → M j = O j
theorem AG.upd {K M O : Nat → Int32} (h : AG K M O) {i : Nat} (hi : i < 9) (v : Int32) : AG (upd K i v) (upd M i v) O := by
  refine ⟨fun j hj => ?_, fun j hj => ?_⟩
  · by_cases hji : j = i
    · subst hji; rw [pk_us, pk_us]
    · rw [pk_un hji, pk_un hji]; exact h.1 j hj
  · rw [pk_un (by omega)]; exact h.2 j hj
theorem sdf_big {L k : Nat} (h : L < 2 ^ k) : sdf L (2 ^ k) = L := Nat.eq_of_testBit_eq fun j => by
  rw [sdf_bit, Nat.testBit_two_pow]
  by_cases hj : k = j
  · subst hj; rw [Nat.testBit_lt_two_pow h]; rfl
  · simp [hj]
section CN
variable {k : Nat} {kd fg cs : Nat → Nat} {L G d : Nat}
theorem e_itn (n : Nat) (hn : n < 100) : f_X10_isIn (nI n) 1 60 = some (if 1 ≤ n ∧ n ≤ 60 then 1 else 0) := by
  unfold f_X10_isIn
  by_cases h1 : 1 ≤ n
  · rw [if_neg (show ¬ nI n < 1 from nI_nlt (b := 1) h1 (by omega))]
    by_cases h2 : n ≤ 60
    · rw [if_neg (show ¬ (60 : Int32) < nI n from nI_nlt (a := 60) h2 (by omega)), if_pos ⟨h1, h2⟩]
    · rw [if_pos (show (60 : Int32) < nI n from nI_lt (a := 60) (by omega) (by omega)), if_neg (fun z => h2 z.2)]
  · rw [if_pos (show nI n < 1 from nI_lt (b := 1) (by omega) (by omega)), if_neg (fun z => h1 z.1)]
/-- one STATEMENT comes, in the class's trial and in the model: in both, or in none -/
theorem e_cs {K1 K2 K3 M1 M2 M3 O1 O2 O3 lt le to : Nat → Int32} (hK : AR k K1 K2 K3 kd fg cs) (hM : AR k M1 M2 M3 kd fg cs) (a1 : AG K1 M1 O1) (a2 : AG K2 M2 O2) (a3 : AG K3 M3 O3) (hL : L < 2 ^ k) (hG : G < 2 ^ k) (hd : d ≤ 999) {n p q : Nat} (hl : LT lt n) (hp : p < 900) (hq : q < 47) (hle : le q = tp lt n p) (hto : TS (tp lt n) p (to (2 * q)) (to (2 * q + 1))) (hsb : sb (tp lt n) p = none) :
    (f_X8_comes FU lt (nI n) K1 K2 K3 (nI k) (nI L) (nI G) (nI d) (nI p) = some (0, K1, K2, K3, nI k, nI L, nI G, nI d) ∧ f_X10_comes FU M1 M2 M3 (nI k) (nI d) (nI L) (nI G) le to (nI q) = some (0, M1, M2, M3, nI k, nI d, nI L, nI G)) ∨
    (∃ (k' L' G' d' : Nat) (kd' fg' cs' : Nat → Nat) (K1' K2' K3' M1' M2' M3' : Nat → Int32), AR k' K1' K2' K3' kd' fg' cs' ∧ AR k' M1' M2' M3' kd' fg' cs' ∧ AG K1' M1' O1 ∧ AG K2' M2' O2 ∧ AG K3' M3' O3 ∧ L' < 2 ^ k' ∧ G' < 2 ^ k' ∧ d' ≤ 999 ∧
      f_X8_comes FU lt (nI n) K1 K2 K3 (nI k) (nI L) (nI G) (nI d) (nI p) = some (1, K1', K2', K3', nI k', nI L', nI G', nI d') ∧ f_X10_comes FU M1 M2 M3 (nI k) (nI d) (nI L) (nI G) le to (nI q) = some (1, M1', M2', M3', nI k', nI d', nI L', nI G')) := by
  have hk := hK.1
  have hn := hl.1
  have hin : vp_in (nI q) 48 := vp_in_nI (by omega) (by omega)
  have hi2 : vp_in (nI (2 * q)) 96 := vp_in_nI (by omega) (by omega)
  have hi3 : vp_in (nI (2 * q + 1)) 96 := vp_in_nI (by omega) (by omega)
  have e2q : (2 : Int32) * nI q = nI (2 * q) := by rw [show (2 : Int32) = nI 2 from rfl, pk_mul]
  have e3q : nI (2 * q) + 1 = nI (2 * q + 1) := nI_1 _
  have p1 : nI p + 1 = nI (p + 1) := nI_1 _
  have p2 : nI p + 2 = nI (p + 2) := by rw [show (2 : Int32) = nI 2 from rfl, nI_add]
  have at1 := e_at8 lt hn (p := p + 1) (by omega)
  have at2 := e_at8 lt hn (p := p + 2) (by omega)
  have at0 := e_at8 lt hn (p := p) (by omega)
  rcases sb_k hsb with hc | hc | hc | hc | hc | hc
  · -- c
    obtain ⟨d1, d2⟩ := sb_c hsb (Or.inl hc)
    obtain ⟨v1, v2, -⟩ := dg_val d1
    obtain ⟨w1, w2, -⟩ := dg_val d2
    obtain ⟨t1, t2⟩ := hto.2.1 hc
    generalize dgv (tp lt n (p + 1)) = a at v1 v2 t1
    generalize dgv (tp lt n (p + 2)) = b at w1 w2 t2
    have hm : f_X10_comes FU M1 M2 M3 (nI k) (nI d) (nI L) (nI G) le to (nI q) = (f_X10_comesCause M3 (nI k) (nI a) (nI b)).bind fun x_5 => (xz x_5.1 (some (x_5.1, M1, M2, x_5.2, nI k, nI d, nI L, nI G))) := by
      unfold f_X10_comes
      rw [xa_in hin, nI_clamp (by omega), hle, hc, if_pos rfl, e2q, xa_in hi2, e3q, xa_in hi3, nI_clamp (by omega), nI_clamp (by omega), t1, t2]
    have hcl : f_X8_comes FU lt (nI n) K1 K2 K3 (nI k) (nI L) (nI G) (nI d) (nI p) = (f_X7_flipCause K3 (nI k) (nI a) (nI b)).bind fun x_5 => (xz x_5.1 (some (x_5.1, K1, K2, x_5.2, nI k, nI L, nI G, nI d))) := by
      unfold f_X8_comes
      rw [p1, p2, at1, ob, at2, ob, at0, hc, ob, if_pos rfl, v2, w2]
    by_cases hak : a < k
    rotate_left
    · have hge : nI k ≤ nI a := nI_le (by omega) (by omega)
      refine Or.inl ⟨?_, ?_⟩
      · rw [hcl, f_X7_flipCause, e_has0 (Or.inr hge), ob, if_pos rfl, ob]
        unfold xz
        rw [if_pos (Or.inl rfl)]
      · rw [hm, f_X10_comesCause, e_isT0 (Or.inr hge), ob, if_pos rfl, ob]
        unfold xz
        rw [if_pos (Or.inl rfl)]
    by_cases hba : b < a
    rotate_left
    · have hnl : ¬ nI b < nI a := nI_nlt (by omega) (by omega)
      refine Or.inl ⟨?_, ?_⟩
      · rw [hcl, f_X7_flipCause, e_has hk hak, ob, if_neg n10]
        by_cases hbk : b < k
        · rw [e_has hk hbk, ob, if_neg n10, if_neg hnl, ob]
          unfold xz
          rw [if_pos (Or.inl rfl)]
        · rw [e_has0 (Or.inr (nI_le (by omega) (by omega))), ob, if_pos rfl, ob]
          unfold xz
          rw [if_pos (Or.inl rfl)]
      · rw [hm, f_X10_comesCause, e_isT hk hak, ob, if_neg n10, if_neg hnl, ob]
        unfold xz
        rw [if_pos (Or.inl rfl)]
    have hin9 : vp_in (nI a) 9 := vp_in_nI (by omega) (by omega)
    have eK : K3 a ^^^ (1 <<< (nI b &&& 31)) = nI (cs a ^^^ 2 ^ b) := by rw [(hK.2 a hak).2.2.1, nI_pow b (by omega), nI_xor]
    have eM : M3 a ^^^ (1 <<< (nI b &&& 31)) = nI (cs a ^^^ 2 ^ b) := by rw [(hM.2 a hak).2.2.1, nI_pow b (by omega), nI_xor]
    have mk : ∀ {A B C : Nat → Int32}, AR k A B C kd fg cs → AR k A B (upd C a (nI (cs a ^^^ 2 ^ b))) kd fg (fun j => if j = a then cs a ^^^ 2 ^ b else cs j) := by
      intro A B C hA
      refine ⟨hk, fun j hj => ⟨(hA.2 j hj).1, (hA.2 j hj).2.1, ?_⟩⟩
      by_cases hji : j = a
      · subst hji
        refine ⟨?_, ?_⟩
        · rw [pk_us]; simp
        · simp only [if_true]
          exact Nat.xor_lt_two_pow (hA.2 j hj).2.2.2 (pw_lt hba)
      · refine ⟨?_, ?_⟩
        · rw [pk_un hji]; simp only [hji, if_false]; exact (hA.2 j hj).2.2.1
        · simp only [hji, if_false]; exact (hA.2 j hj).2.2.2
    refine Or.inr ⟨k, L, G, d, kd, fg, _, K1, K2, _, M1, M2, _, mk hK, mk hM, a1, a2, a3.upd (i := a) (by omega) _, hL, hG, hd, ?_, ?_⟩
    · rw [hcl, f_X7_flipCause, e_has hk hak, ob, if_neg n10, e_has hk (show b < k by omega), ob, if_neg n10, if_pos (nI_lt hba (by omega)), xa_in hin9, xa_in hin9, ob, nI_clamp (by omega), eK]
      unfold xz
      rw [if_pos (Or.inr rfl)]
    · rw [hm, f_X10_comesCause, e_isT hk hak, ob, if_neg n10, if_pos (nI_lt hba (by omega)), xa_in hin9, xa_in hin9, ob, nI_clamp (by omega), eM]
      unfold xz
      rw [if_pos (Or.inr rfl)]
  · -- d
    obtain ⟨d1, d2⟩ := sb_c hsb (Or.inr hc)
    obtain ⟨v1, v2, -⟩ := dg_val d1
    obtain ⟨w1, w2, -⟩ := dg_val d2
    have t1 := hto.2.2.1 hc
    generalize dgv (tp lt n (p + 1)) = a at v1 v2 t1
    generalize dgv (tp lt n (p + 2)) = b at w1 w2 t1
    have hm : f_X10_comes FU M1 M2 M3 (nI k) (nI d) (nI L) (nI G) le to (nI q) = (f_X10_comesDays FU M1 M2 M3 (nI k) (nI d) (nI L) (nI G) (nI (10 * a + b))).bind fun x_9 => (xz x_9.1 (some (x_9.1, M1, M2, M3, nI k, x_9.2.1, x_9.2.2, nI G))) := by
      unfold f_X10_comes
      rw [xa_in hin, nI_clamp (by omega), hle, hc, if_neg (by decide), if_pos rfl, e2q, xa_in hi2, nI_clamp (by omega), t1]
    have e10 : (10 : Int32) * nI a + nI b = nI (10 * a + b) := by rw [show (10 : Int32) = nI 10 from rfl, pk_mul, nI_add]
    have hcl : f_X8_comes FU lt (nI n) K1 K2 K3 (nI k) (nI L) (nI G) (nI d) (nI p) = (f_X7_passDays FU K1 K2 K3 (nI k) (nI L) (nI G) (nI d) (nI (10 * a + b))).bind fun x_8 => (xz x_8.1 (some (x_8.1, K1, K2, K3, nI k, x_8.2.1, nI G, x_8.2.2))) := by
      unfold f_X8_comes
      rw [p1, p2, at1, ob, at2, ob, at0, hc, ob, if_neg (by decide), if_pos rfl, v2, w2, e10]
    have hN : 10 * a + b < 100 := by omega
    generalize 10 * a + b = N at hm hcl hN
    have xz0 : ∀ (z : Option (Int32 × (Nat → Int32) × (Nat → Int32) × (Nat → Int32) × Int32 × Int32 × Int32 × Int32)), xz 0 z = z := fun _ => rfl
    have xz1 : ∀ (z : Option (Int32 × (Nat → Int32) × (Nat → Int32) × (Nat → Int32) × Int32 × Int32 × Int32 × Int32)), xz 1 z = z := fun _ => rfl
    have hiN := e_itn N (by omega)
    by_cases h1 : 1 ≤ N
    rotate_left
    · refine Or.inl ⟨?_, ?_⟩
      · rw [hcl, f_X7_passDays, if_pos (show nI N < 1 from nI_lt (b := 1) (by omega) (by omega)), ob]
        exact xz0 _
      · rw [hm, f_X10_comesDays, hiN, if_neg (fun z => h1 z.1), ob, if_pos rfl, ob]
        exact xz0 _
    by_cases h60 : N ≤ 60
    rotate_left
    · refine Or.inl ⟨?_, ?_⟩
      · rw [hcl, f_X7_passDays, if_neg (show ¬ nI N < 1 from nI_nlt (b := 1) (by omega) (by omega)), if_pos (show (60 : Int32) < nI N from nI_lt (a := 60) (by omega) (by omega)), ob]
        exact xz0 _
      · rw [hm, f_X10_comesDays, hiN, if_neg (fun z => h60 z.2), ob, if_pos rfl, ob]
        exact xz0 _
    rw [if_pos ⟨h1, h60⟩] at hiN
    have cc : f_X7_passDays FU K1 K2 K3 (nI k) (nI L) (nI G) (nI d) (nI N) = if nI (d + N) ≤ 999 then ((f_X7_behindDays FU K1 K2 K3 (nI k) (nI L) (nI G) (nI d) (nI N)).bind fun x_4 => (some (1, x_4, nI (d + N)))) else (some (0, nI L, nI d)) := by
      unfold f_X7_passDays
      rw [if_neg (show ¬ nI N < 1 from nI_nlt (b := 1) (by omega) (by omega)), if_neg (show ¬ (60 : Int32) < nI N from nI_nlt (a := 60) (by omega) (by omega)), nI_add]
    have mm : f_X10_comesDays FU M1 M2 M3 (nI k) (nI d) (nI L) (nI G) (nI N) = if nI (d + N) ≤ 999 then ((f_X10_goes FU M1 M2 M3 (nI k) (nI d) (nI L) (nI G) (nI N)).bind fun x_4 => (some (1, x_4.1, x_4.2))) else (some (0, nI d, nI L)) := by
      unfold f_X10_comesDays
      rw [hiN, ob, if_neg n10, nI_add]
    by_cases h9 : d + N ≤ 999
    · have hle9 : nI (d + N) ≤ 999 := nI_le (b := 999) h9 (by omega)
      rw [if_pos hle9, e_bds hK hL (by omega) (by omega), ob] at cc
      rw [if_pos hle9, e_goes hM hL hG (by omega) (by omega), ob] at mm
      refine Or.inr ⟨k, run k kd fg cs L G d N, G, d + N, kd, fg, cs, K1, K2, K3, M1, M2, M3, hK, hM, a1, a2, a3, run_lt hL N, hG, h9, ?_, ?_⟩
      · rw [hcl, cc, ob]
        exact xz1 _
      · rw [hm, mm, ob]
        exact xz1 _
    · have hle9 : ¬ nI (d + N) ≤ 999 := nI_ge (a := 999) (by omega) (by omega)
      rw [if_neg hle9] at cc mm
      refine Or.inl ⟨?_, ?_⟩
      · rw [hcl, cc, ob]
        exact xz0 _
      · rw [hm, mm, ob]
        exact xz0 _
  · -- t
    obtain ⟨⟨kq, hkq, d1⟩, d2⟩ := sb_t hsb hc
    obtain ⟨w1, w2, -⟩ := dg_val d2
    obtain ⟨t1, t2⟩ := hto.1 hc
    rw [d1] at t1
    generalize dgv (tp lt n (p + 2)) = b at w1 w2 t2
    have hm : f_X10_comes FU M1 M2 M3 (nI k) (nI d) (nI L) (nI G) le to (nI q) = (f_X10_comesThing M1 M2 M3 (nI k) (nI L) (nI G) (nI kq) (nI b)).bind fun x_14 => (xz x_14.1 (some (x_14.1, x_14.2.1, x_14.2.2.1, x_14.2.2.2.1, x_14.2.2.2.2.1, nI d, x_14.2.2.2.2.2.1, x_14.2.2.2.2.2.2))) := by
      unfold f_X10_comes
      rw [xa_in hin, nI_clamp (by omega), hle, hc, if_neg (by decide), if_neg (by decide), if_pos rfl, e2q, xa_in hi2, e3q, xa_in hi3, nI_clamp (by omega), nI_clamp (by omega), t1, t2]
    have hcl : f_X8_comes FU lt (nI n) K1 K2 K3 (nI k) (nI L) (nI G) (nI d) (nI p) = (f_X7_add K1 K2 K3 (nI k) (nI kq) (nI b)).bind fun x_34 => (xz x_34.1 (some (x_34.1, x_34.2.1, x_34.2.2.1, x_34.2.2.2.1, x_34.2.2.2.2, nI L, nI G, nI d))) := by
      unfold f_X8_comes
      rw [p1, p2, at1, ob, at2, ob, at0, hc, ob, w2, ob, e_kby (tp_c hl _), d1]
      rfl
    have hki : f_X7_isKind (nI kq) = some 1 := by
      unfold f_X7_isKind
      rw [if_neg (nI_pos (by omega)), if_neg (show ¬ (6 : Int32) ≤ nI kq from nI_ge (b := 6) (by omega) (by omega))]
    have hfi : f_X7_isFigure (nI b) = some 1 := by
      unfold f_X7_isFigure
      rw [if_neg (nI_pos (by omega)), if_neg (show ¬ (9 : Int32) < nI b from nI_nlt (a := 9) (by omega) (by omega))]
    by_cases h9 : k = 9
    · subst h9
      refine Or.inl ⟨?_, ?_⟩
      · rw [hcl, f_X7_add, if_pos (by decide), ob]
        rfl
      · rw [hm, f_X10_comesThing, if_pos (by decide), ob]
        rfl
    have hin9 : vp_in (nI k) 9 := vp_in_nI (by omega) (by omega)
    have mk : ∀ {A B C : Nat → Int32}, AR k A B C kd fg cs → AR (k + 1) (upd A k (nI kq)) (upd B k (nI b)) (upd C k (nI 0)) (fun j => if j = k then kq else kd j) (fun j => if j = k then b else fg j) (fun j => if j = k then 0 else cs j) := by
      intro A B C hA
      refine ⟨by omega, fun j hj => ?_⟩
      by_cases hjk : j = k
      · subst hjk
        simp only [pk_us, if_true]
        exact ⟨⟨trivial, hkq⟩, ⟨trivial, w1⟩, ⟨trivial, Nat.two_pow_pos j⟩⟩
      · simp only [pk_un hjk, hjk, if_false]
        exact hA.2 j (by omega)
    refine Or.inr ⟨k + 1, L, G, d, _, _, _, _, _, _, _, _, _, mk hK, mk hM, a1.upd (i := k) (by omega) _, a2.upd (i := k) (by omega) _, a3.upd (i := k) (by omega) _, lt_pw hL (by omega), lt_pw hG (by omega), hd, ?_, ?_⟩
    · rw [hcl, f_X7_add, if_neg (show ¬ (9 : Int32) ≤ nI k from nI_ge (b := 9) (by omega) (by omega)), hki, ob, if_neg n10, hfi, ob, if_neg n10, xa_in hin9, xa_in hin9, xa_in hin9, ob, nI_clamp (by omega), show nI k + 1 = nI (k + 1) from nI_1 _]
      rfl
    · rw [hm, f_X10_comesThing, if_neg (by rw [show (9 : Int32) = nI 9 from rfl, nI_eq (by omega) (by omega)]; exact h9), xa_in hin9, xa_in hin9, xa_in hin9, ob, nI_clamp (by omega), show nI k + 1 = nI (k + 1) from nI_1 _, nI_pow k (by omega), nI_sdf, nI_sdf, sdf_big hL, sdf_big hG]
      rfl
  · -- g
    have d1 := sb_l hsb (Or.inl hc)
    obtain ⟨v1, v2, -⟩ := dg_val d1
    have t1 := hto.2.2.2 (Or.inl hc)
    generalize dgv (tp lt n (p + 1)) = a at v1 v2 t1
    have hm : f_X10_comes FU M1 M2 M3 (nI k) (nI d) (nI L) (nI G) le to (nI q) = (f_X10_comesOf (nI k) (nI L) (nI G) 103 (nI a)).bind fun x_18 => (xz x_18.1 (some (x_18.1, M1, M2, M3, nI k, nI d, x_18.2.1, x_18.2.2))) := by
      unfold f_X10_comes
      rw [xa_in hin, nI_clamp (by omega), hle, hc, if_neg (by decide), if_neg (by decide), if_neg (by decide), xa_in hin, e2q, xa_in hi2, nI_clamp (by omega), t1]
    have hcl : f_X8_comes FU lt (nI n) K1 K2 K3 (nI k) (nI L) (nI G) (nI d) (nI p) = (f_X7_flipGuard (nI k) (nI G) (nI a)).bind fun x_13 => (xz x_13.1 (some (x_13.1, K1, K2, K3, nI k, nI L, x_13.2, nI d))) := by
      unfold f_X8_comes
      rw [p1, p2, at1, ob, at2, ob, at0, hc, ob, v2]
      rfl
    by_cases hak : a < k
    · refine Or.inr ⟨k, L, G ^^^ 2 ^ a, d, kd, fg, cs, K1, K2, K3, M1, M2, M3, hK, hM, a1, a2, a3, hL, Nat.xor_lt_two_pow hG (pw_lt hak), hd, ?_, ?_⟩
      · rw [hcl, f_X7_flipGuard, e_has hk hak, ob, if_neg n10, ob, nI_pow a (by omega), nI_xor]
        rfl
      · rw [hm, f_X10_comesOf, e_isT hk hak, ob, if_neg n10, if_neg (by decide), f_X10_comesOf_27, if_neg (by decide), if_neg (by decide), ob, nI_pow a (by omega), nI_xor]
        rfl
    · have hge : nI k ≤ nI a := nI_le (by omega) (by omega)
      refine Or.inl ⟨?_, ?_⟩
      · rw [hcl, f_X7_flipGuard, e_has0 (Or.inr hge), ob, if_pos rfl, ob]
        rfl
      · rw [hm, f_X10_comesOf, e_isT0 (Or.inr hge), ob, if_pos rfl, ob]
        rfl
  · -- l
    have d1 := sb_l hsb (Or.inr (Or.inl hc))
    obtain ⟨v1, v2, -⟩ := dg_val d1
    have t1 := hto.2.2.2 (Or.inr (Or.inl hc))
    generalize dgv (tp lt n (p + 1)) = a at v1 v2 t1
    have hm : f_X10_comes FU M1 M2 M3 (nI k) (nI d) (nI L) (nI G) le to (nI q) = (f_X10_comesOf (nI k) (nI L) (nI G) 108 (nI a)).bind fun x_18 => (xz x_18.1 (some (x_18.1, M1, M2, M3, nI k, nI d, x_18.2.1, x_18.2.2))) := by
      unfold f_X10_comes
      rw [xa_in hin, nI_clamp (by omega), hle, hc, if_neg (by decide), if_neg (by decide), if_neg (by decide), xa_in hin, e2q, xa_in hi2, nI_clamp (by omega), t1]
    have hcl : f_X8_comes FU lt (nI n) K1 K2 K3 (nI k) (nI L) (nI G) (nI d) (nI p) = (f_X7_lose (nI k) (nI L) (nI G) (nI a)).bind fun x_20 => (xz x_20.1 (some (x_20.1, K1, K2, K3, nI k, x_20.2, nI G, nI d))) := by
      unfold f_X8_comes
      rw [p1, p2, at1, ob, at2, ob, at0, hc, ob, v2]
      rfl
    by_cases hak : a < k
    · have hG9 := p9 hk hG
      by_cases hg : G.testBit a = true
      · refine Or.inl ⟨?_, ?_⟩
        · rw [hcl, f_X7_lose, e_has hk hak, ob, if_neg n10, e_isGT hk hak hg, ob, if_neg n10, ob]
          rfl
        · rw [hm, f_X10_comesOf, e_isT hk hak, ob, if_neg n10, if_pos rfl, e_mhasT (by omega) (by omega) hg, ob, if_neg n10, ob]
          rfl
      · refine Or.inr ⟨k, L ||| 2 ^ a, G, d, kd, fg, cs, K1, K2, K3, M1, M2, M3, hK, hM, a1, a2, a3, or_lt hL (pw_lt hak), hG, hd, ?_, ?_⟩
        · rw [hcl, f_X7_lose, e_has hk hak, ob, if_neg n10, e_isGF hk hak (bfalse hg), ob, if_pos rfl, ob, nI_pow a (by omega), nI_or]
          rfl
        · rw [hm, f_X10_comesOf, e_isT hk hak, ob, if_neg n10, if_pos rfl, e_mhasF (by omega) (by omega) (bfalse hg), ob, if_pos rfl, f_X10_comesOf_27, if_pos rfl, ob, nI_pow a (by omega), nI_or]
          rfl
    · have hge : nI k ≤ nI a := nI_le (by omega) (by omega)
      refine Or.inl ⟨?_, ?_⟩
      · rw [hcl, f_X7_lose, e_has0 (Or.inr hge), ob, if_pos rfl, ob]
        rfl
      · rw [hm, f_X10_comesOf, e_isT0 (Or.inr hge), ob, if_pos rfl, ob]
        rfl
  · -- m
    have d1 := sb_l hsb (Or.inr (Or.inr hc))
    obtain ⟨v1, v2, -⟩ := dg_val d1
    have t1 := hto.2.2.2 (Or.inr (Or.inr hc))
    generalize dgv (tp lt n (p + 1)) = a at v1 v2 t1
    have hm : f_X10_comes FU M1 M2 M3 (nI k) (nI d) (nI L) (nI G) le to (nI q) = (f_X10_comesOf (nI k) (nI L) (nI G) 109 (nI a)).bind fun x_18 => (xz x_18.1 (some (x_18.1, M1, M2, M3, nI k, nI d, x_18.2.1, x_18.2.2))) := by
      unfold f_X10_comes
      rw [xa_in hin, nI_clamp (by omega), hle, hc, if_neg (by decide), if_neg (by decide), if_neg (by decide), xa_in hin, e2q, xa_in hi2, nI_clamp (by omega), t1]
    have hcl : f_X8_comes FU lt (nI n) K1 K2 K3 (nI k) (nI L) (nI G) (nI d) (nI p) = (f_X7_mend (nI k) (nI L) (nI a)).bind fun x_23 => (xz x_23.1 (some (x_23.1, K1, K2, K3, nI k, x_23.2, nI G, nI d))) := by
      unfold f_X8_comes
      rw [p1, p2, at1, ob, at2, ob, at0, hc, ob, v2]
      rfl
    by_cases hak : a < k
    · refine Or.inr ⟨k, sdf L (2 ^ a), G, d, kd, fg, cs, K1, K2, K3, M1, M2, M3, hK, hM, a1, a2, a3, sdf_lt hL, hG, hd, ?_, ?_⟩
      · rw [hcl, f_X7_mend, e_has hk hak, ob, if_neg n10, ob, nI_pow a (by omega), nI_sdf]
        rfl
      · rw [hm, f_X10_comesOf, e_isT hk hak, ob, if_neg n10, if_neg (by decide), f_X10_comesOf_27, if_neg (by decide), if_pos rfl, ob, nI_pow a (by omega), nI_sdf]
        rfl
    · have hge : nI k ≤ nI a := nI_le (by omega) (by omega)
      refine Or.inl ⟨?_, ?_⟩
      · rw [hcl, f_X7_mend, e_has0 (Or.inr hge), ob, if_pos rfl, ob]
        rfl
      · rw [hm, f_X10_comesOf, e_isT0 (Or.inr hge), ob, if_pos rfl, ob]
        rfl
end CN
