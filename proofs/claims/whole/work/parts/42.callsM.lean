/-! CALLS, thirteenth part: state -/
/-- the letter at a place; -1 behind them -/
def tp (lt : Nat → Int32) (n p : Nat) : Int32 := if p < n then lt p else -1
theorem e_at8 (lt : Nat → Int32) {n p : Nat} (hn : n ≤ 96) (hp : p < 2 ^ 31) : f_X8_at lt (nI n) (nI p) = some (tp lt n p) := by
  unfold f_X8_at tp
  rw [if_neg (nI_pos hp)]
  by_cases h : p < n
  · rw [if_pos h, if_neg (nI_ge h (by omega)), if_neg (show ¬ (96 : Int32) ≤ nI p from nI_ge (b := 96) (by omega) (by omega)), xa_in (vp_in_nI (by omega) (by omega)), nI_clamp (by omega)]
  · rw [if_neg h, if_pos (nI_le (by omega) hp)]
theorem e_nxt (lt : Nat → Int32) {n p : Nat} (hn : n ≤ 96) (hp : p < 2 ^ 31) : f_X10_next lt (nI n) (nI p) = some (tp lt n p) := by
  unfold f_X10_next tp
  by_cases h : p < n
  · rw [if_pos h, if_neg (nI_ge h (by omega)), xa_in (vp_in_nI (by omega) (by omega)), nI_clamp (by omega)]
  · rw [if_neg h, if_pos (nI_le (by omega) hp)]
theorem tp_c {lt : Nat → Int32} {n : Nat} (hl : LT lt n) (p : Nat) : tp lt n p = -1 ∨ ∃ c, c < 256 ∧ tp lt n p = nI c := by
  unfold tp
  by_cases h : p < n
  · rw [if_pos h]; exact Or.inr (hl.2 p h)
  · rw [if_neg h]; exact Or.inl rfl
def ln (c : Int32) : Nat := if c = 99 ∨ c = 100 ∨ c = 116 then 4 else if c = 103 ∨ c = 108 ∨ c = 109 then 3 else 0
theorem ln_0 {c : Int32} (h99 : ¬ c = 99) (h100 : ¬ c = 100) (h116 : ¬ c = 116) (h103 : ¬ c = 103) (h108 : ¬ c = 108) (h109 : ¬ c = 109) : ln c = 0 := by
  unfold ln
  rw [if_neg (by simp [h99, h100, h116]), if_neg (by simp [h103, h108, h109])]
theorem ln_3 {c : Int32} (h : ln c ≠ 0) : 3 ≤ ln c ∧ ln c ≤ 4 := by
  unfold ln at h ⊢
  split
  · omega
  · rename_i h1
    rw [if_neg h1] at h
    split
    · omega
    · rename_i h2; rw [if_neg h2] at h; exact absurd rfl h
theorem e_len (c : Int32) : f_X8_lengthBy c = some (nI (ln c)) := by
  by_cases h99 : c = 99
  · subst h99; rfl
  by_cases h100 : c = 100
  · subst h100; rfl
  by_cases h116 : c = 116
  · subst h116; rfl
  by_cases h103 : c = 103
  · subst h103; rfl
  by_cases h108 : c = 108
  · subst h108; rfl
  by_cases h109 : c = 109
  · subst h109; rfl
  rw [ln_0 h99 h100 h116 h103 h108 h109]
  unfold f_X8_lengthBy
  simp only [h99, h100, h116, h103, h108, h109, if_false, ite_self]
  rfl
theorem kb_cases (c : Int32) : kb_ix c = -1 ∨ ∃ q, q < 6 ∧ kb_ix c = nI q := by
  unfold kb_ix
  repeat' split
  · exact Or.inr ⟨0, by omega, rfl⟩
  · exact Or.inr ⟨1, by omega, rfl⟩
  · exact Or.inr ⟨2, by omega, rfl⟩
  · exact Or.inr ⟨3, by omega, rfl⟩
  · exact Or.inr ⟨4, by omega, rfl⟩
  · exact Or.inr ⟨5, by omega, rfl⟩
  · exact Or.inl rfl
theorem e_kom (c : Int32) : f_X10_kindOf c = some (kb_ix c) := by
  unfold f_X10_kindOf kb_ix
  repeat' split
  all_goals rfl
theorem e_kby {c : Int32} (h : c = -1 ∨ ∃ j, j < 256 ∧ c = nI j) : f_X8_kindBy c = some (kb_ix c) := by
  unfold f_X8_kindBy
  rcases h with rfl | ⟨j, hj, rfl⟩
  · rfl
  · rw [if_neg (nI_pos (by omega)), (sb_byte j hj).2.1]
/-- a digit, and its value -/
def dg (c : Int32) : Bool := decide (48 ≤ c ∧ c ≤ 57)
def dgv (c : Int32) : Nat := c.toNatClampNeg - 48
theorem dg_val {c : Int32} (h : dg c = true) : dgv c < 10 ∧ c - 48 = nI (dgv c) ∧ c = nI (48 + dgv c) := by
  unfold dg at h
  have h1 := of_decide_eq_true h
  have h0 : ¬ c < 0 := Int32.not_lt.mpr (Int32.le_trans (by decide) h1.1)
  obtain ⟨j, hj, rfl⟩ := nI_of2 (M := 57) (n := 57) rfl h0 h1.2
  have h48 : 48 ≤ j := (nI_leI (a := 48) (by omega) (by omega)).mp h1.1
  unfold dgv
  rw [nI_clamp (by omega)]
  exact ⟨by omega, by rw [show (48 : Int32) = nI 48 from rfl, pk_sub h48], by rw [show 48 + (j - 48) = j by omega]⟩
theorem e_dgi (c : Int32) : f_X10_isIn c 48 57 = some (if dg c = true then 1 else 0) := by
  unfold f_X10_isIn dg
  by_cases h1 : c < 48
  · rw [if_pos h1, if_neg (fun z => Int32.not_le.mpr h1 (of_decide_eq_true z).1)]
  · rw [if_neg h1]
    by_cases h2 : 57 < c
    · rw [if_pos h2, if_neg (fun z => Int32.not_le.mpr h2 (of_decide_eq_true z).2)]
    · rw [if_neg h2, if_pos (decide_eq_true ⟨Int32.not_lt.mp h1, Int32.not_lt.mp h2⟩)]
/-- whether a STATEMENT of this first letter and length goes on so at place b -/
def gk (a c : Int32) (b len : Nat) : Bool := if b + 1 = len then decide (c = 59) else if a = 116 ∧ b = 1 then !decide (kb_ix c = -1) else dg c
theorem e_go {a c : Int32} {b len : Nat} (hb : 1 ≤ b) (hbl : b < len) (hl : len ≤ 4) (hc : c = -1 ∨ ∃ j, j < 256 ∧ c = nI j) : f_X8_goesOn a (nI b) (nI len) c = some (if gk a c b len = true then 1 else 0) := by
  have e43 : ∀ p0 p1 p2, f_X8_goesOn_43 p0 p1 p2 c = some (if dg c = true then 1 else 0) := by
    intro p0 p1 p2
    have := e_dgi c
    unfold f_X10_isIn at this
    unfold f_X8_goesOn_43
    exact this
  unfold f_X8_goesOn gk
  rw [show nI len - 1 = nI (len - 1) from by rw [show (1 : Int32) = nI 1 from rfl, pk_sub (by omega)]]
  by_cases h1 : b + 1 = len
  · rw [if_pos (by rw [show len - 1 = b by omega]), if_pos h1]
    by_cases h2 : c = 59
    · rw [if_pos h2, if_pos (decide_eq_true h2)]
    · rw [if_neg h2, if_neg (by rw [decide_eq_false h2]; decide)]
  · rw [if_neg (by rw [nI_eq (by omega) (by omega)]; omega), if_neg h1]
    by_cases ha : a = 116
    · rw [if_pos ha]
      by_cases hb1 : b = 1
      · subst hb1
        have hg : (if a = 116 ∧ 1 = 1 then !decide (kb_ix c = -1) else dg c) = !decide (kb_ix c = -1) := if_pos ⟨ha, rfl⟩
        rw [if_pos (show nI 1 = 1 from rfl), hg, e_kby hc, ob]
        rcases kb_cases c with h | ⟨q, hq, h⟩
        · rw [h]; rfl
        · have : ¬ nI q = -1 := fun z => by have := nI_pos (n := q) (by omega); rw [z] at this; exact this (by decide)
          rw [h, if_neg (nI_pos (by omega)), decide_eq_false this]; rfl
      · have hg : (if a = 116 ∧ b = 1 then !decide (kb_ix c = -1) else dg c) = dg c := if_neg (fun z => hb1 z.2)
        rw [if_neg (by rw [show (1 : Int32) = nI 1 from rfl, nI_eq (by omega) (by omega)]; exact hb1), hg, e43]
    · have hg : (if a = 116 ∧ b = 1 then !decide (kb_ix c = -1) else dg c) = dg c := if_neg (fun z => ha z.1)
      rw [if_neg ha, hg, e43]
/-- the place, from p on, of the first letter with which the STATEMENT at p cannot go on -/
def sb (T : Nat → Int32) (p : Nat) : Option Nat := if ln (T p) = 0 then some 0 else fw (fun b => !gk (T p) (T (p + b)) b (ln (T p))) (ln (T p) - 1) 1
theorem e_ff31 {lt : Nat → Int32} {n : Nat} (hl : LT lt n) {p len : Nat} (hp : p < 1000) (hlen : len ≤ 4) (kr : Int32 → Option Int32) : ∀ (j b m : Nat), b + j = len → 1 ≤ b → j < m → f_X8_faultOfForm_31 FU lt (nI n) kr m (nI p) (nI len) (nI b) = match fw (fun b => !gk (tp lt n p) (tp lt n (p + b)) b len) j b with
    | none => kr (nI (p + len))
    | some b' => some (-1000 - nI (p + b')) := by
  intro j
  induction j with
  | zero =>
    intro b m hb _ hm
    obtain ⟨m, rfl⟩ : ∃ z, m = z + 1 := ⟨m - 1, by omega⟩
    have : b = len := by omega
    subst this
    rw [f_X8_faultOfForm_31, if_pos (Int32.le_refl _), nI_add]
    rfl
  | succ j ih =>
    intro b m hb hb1 hm
    obtain ⟨m, rfl⟩ : ∃ z, m = z + 1 := ⟨m - 1, by omega⟩
    have hn := hl.1
    rw [f_X8_faultOfForm_31, if_neg (nI_ge (by omega) (by omega)), e_at8 lt hn (by omega), ob, nI_add, e_at8 lt hn (by omega), ob, e_go hb1 (by omega) hlen (tp_c hl _), ob, fw]
    by_cases hg : gk (tp lt n p) (tp lt n (p + b)) b len = true
    · rw [if_pos hg, if_neg n10, hg, if_neg (by decide), show nI b + 1 = nI (b + 1) from nI_1 _]
      exact ih (b + 1) m (by omega) (by omega) (by omega)
    · rw [if_neg hg, if_pos rfl, bfalse hg, if_pos (by decide)]
/-! the model reads a STATEMENT -/
theorem e_rd1 (lt to : Nat → Int32) {n p x : Nat} (hn : n ≤ 96) (hp : p < 1000) (hx : x < 96) : f_X10_readsDigits FU lt to (nI n) (nI p) (nI x) 1 = some (if dg (tp lt n p) = true then (1, upd to x (nI (dgv (tp lt n p))), nI (p + 1)) else (0, to, nI p)) := by
  unfold f_X10_readsDigits
  rw [show FU = 998 + 1 + 1 from rfl, f_X10_readsDigits_5, if_neg (by decide), e_nxt lt hn (by omega), ob, e_dgi, ob]
  by_cases h : dg (tp lt n p) = true
  · have hv := dg_val h
    rw [if_pos h, if_neg n10, ob, f_X10_readsDigits_5, if_pos (by decide), xa_in (vp_in_nI hx (by omega)), nI_clamp (by omega), if_pos h, show nI p + 1 = nI (p + 1) from nI_1 _]
    rw [show (10 : Int32) * 0 + tp lt n p - 48 = tp lt n p - 48 from by rw [show (10 : Int32) * 0 = 0 from rfl, Int32.zero_add], hv.2.1]
  · rw [if_neg h, if_pos rfl, if_neg h]
theorem e_rd2 (lt to : Nat → Int32) {n p x : Nat} (hn : n ≤ 96) (hp : p < 1000) (hx : x < 96) : f_X10_readsDigits FU lt to (nI n) (nI p) (nI x) 2 = some (if dg (tp lt n p) = true then (if dg (tp lt n (p + 1)) = true then (1, upd to x (nI (10 * dgv (tp lt n p) + dgv (tp lt n (p + 1)))), nI (p + 2)) else (0, to, nI (p + 1))) else (0, to, nI p)) := by
  unfold f_X10_readsDigits
  rw [show FU = 997 + 1 + 1 + 1 from rfl, f_X10_readsDigits_5, if_neg (by decide), e_nxt lt hn (by omega), ob, e_dgi, ob]
  by_cases h : dg (tp lt n p) = true
  · have hv := dg_val h
    rw [if_pos h, if_neg n10, ob, f_X10_readsDigits_5, if_neg (by decide), show nI p + 1 = nI (p + 1) from nI_1 _, e_nxt lt hn (by omega), ob, e_dgi, ob, if_pos h]
    rw [show (10 : Int32) * 0 + tp lt n p - 48 = tp lt n p - 48 from by rw [show (10 : Int32) * 0 = 0 from rfl, Int32.zero_add], hv.2.1]
    by_cases h2 : dg (tp lt n (p + 1)) = true
    · have hv2 := dg_val h2
      rw [if_pos h2, if_neg n10, ob, f_X10_readsDigits_5, if_pos (by decide), xa_in (vp_in_nI hx (by omega)), nI_clamp (by omega), if_pos h2, show nI (p + 1) + 1 = nI (p + 2) from nI_1 _]
      have e : (10 : Int32) * nI (dgv (tp lt n p)) + tp lt n (p + 1) - 48 = nI (10 * dgv (tp lt n p) + dgv (tp lt n (p + 1))) := by
        have h3 := hv2.2.2
        generalize dgv (tp lt n (p + 1)) = a at h3
        rw [h3, show (10 : Int32) = nI 10 from rfl, show (48 : Int32) = nI 48 from rfl, pk_mul, nI_add, pk_sub (by omega)]
        congr 1
        omega
      rw [e]
    · rw [if_neg h2, if_pos rfl, if_neg h2]
  · rw [if_neg h, if_pos rfl, if_neg h]
/-- what is told of a STATEMENT -/
def TS (T : Nat → Int32) (p : Nat) (x y : Int32) : Prop :=
  (T p = 116 → x = kb_ix (T (p + 1)) ∧ y = nI (dgv (T (p + 2)))) ∧ (T p = 99 → x = nI (dgv (T (p + 1))) ∧ y = nI (dgv (T (p + 2)))) ∧ (T p = 100 → x = nI (10 * dgv (T (p + 1)) + dgv (T (p + 2)))) ∧ ((T p = 103 ∨ T p = 108 ∨ T p = 109) → x = nI (dgv (T (p + 1))))
def SQ (lt : Nat → Int32) (n p q : Nat) (le la to : Nat → Int32) : Prop :=
  match sb (tp lt n) p with
  | none => ∃ to' : Nat → Int32, f_X10_statement FU lt le la to (nI n) (nI p) (nI q) = some (1, upd le q (tp lt n p), upd la q (nI p), to', nI (p + ln (tp lt n p))) ∧ (∀ x, x ≠ 2 * q → x ≠ 2 * q + 1 → to' x = to x) ∧ TS (tp lt n) p (to' (2 * q)) (to' (2 * q + 1))
  | some b => ∃ le' la' to' : Nat → Int32, f_X10_statement FU lt le la to (nI n) (nI p) (nI q) = some (0, le', la', to', nI (p + b))
theorem fw_3 (P : Nat → Bool) : fw P 3 1 = if P 1 = true then some 1 else if P 2 = true then some 2 else if P 3 = true then some 3 else none := rfl
theorem fw_2 (P : Nat → Bool) : fw P 2 1 = if P 1 = true then some 1 else if P 2 = true then some 2 else none := rfl
theorem nt {b : Bool} (h : b = true) : ¬ (!b) = true := by rw [h]; decide
theorem nf {b : Bool} (h : ¬ b = true) : (!b) = true := by rw [bfalse h]; rfl
theorem e_st (lt le la to : Nat → Int32) {n p q : Nat} (hn : n ≤ 96) (hp : p < 900) (hq : q < 47) : SQ lt n p q le la to := by
  have hin : vp_in (nI q) 48 := vp_in_nI (by omega) (by omega)
  have e2q : (2 : Int32) * nI q = nI (2 * q) := by rw [show (2 : Int32) = nI 2 from rfl, pk_mul]
  have hS : ∀ c, (c = 116 ∨ c = 99 ∨ c = 108 ∨ c = 109 ∨ c = 103 ∨ c = 100) → tp lt n p = c → f_X10_statement FU lt le la to (nI n) (nI p) (nI q) = f_X10_statement_43 FU lt (nI n) (nI q) c le la to (nI p) := by
    intro c hc h
    unfold f_X10_statement
    rw [e_nxt lt hn (by omega), ob, h]
    rcases hc with rfl | rfl | rfl | rfl | rfl | rfl <;> rfl
  -- behind readsAll
  have fin : ∀ (c : Int32) (to' : Nat → Int32) (a : Nat), a < 950 → f_X10_readsAll FU lt to (nI n) (nI (p + 1)) c (nI (2 * q)) = some (1, to', nI a) → f_X10_statement_43 FU lt (nI n) (nI q) c le la to (nI p) = if tp lt n a = 59 then some (1, upd le q c, upd la q (nI p), to', nI (a + 1)) else some (0, upd le q c, upd la q (nI p), to', nI a) := by
    intro c to' a ha h
    unfold f_X10_statement_43
    rw [xa_in hin, xa_in hin, nI_clamp (by omega), show nI p + 1 = nI (p + 1) from nI_1 _, e2q, h, ob, if_neg n10]
    dsimp only
    rw [e_nxt lt hn (by omega), ob, show nI a + 1 = nI (a + 1) from nI_1 _]
  have bad : ∀ (c : Int32) (to' : Nat → Int32) (a : Nat), f_X10_readsAll FU lt to (nI n) (nI (p + 1)) c (nI (2 * q)) = some (0, to', nI a) → f_X10_statement_43 FU lt (nI n) (nI q) c le la to (nI p) = some (0, upd le q c, upd la q (nI p), to', nI a) := by
    intro c to' a h
    unfold f_X10_statement_43
    rw [xa_in hin, xa_in hin, nI_clamp (by omega), show nI p + 1 = nI (p + 1) from nI_1 _, e2q, h, ob, if_pos rfl]
  have r11 := fun (y : Nat → Int32) => e_rd1 lt y (n := n) (p := p + 1) (x := 2 * q) hn (by omega) (by omega)
  have r12 := fun (y : Nat → Int32) => e_rd1 lt y (n := n) (p := p + 2) (x := 2 * q + 1) hn (by omega) (by omega)
  have r2 := e_rd2 lt to (n := n) (p := p + 1) (x := 2 * q) hn (by omega) (by omega)
  have c1 : (c : Int32) → nI (p + 1) + 1 = nI (p + 2) := fun _ => nI_1 _
  unfold SQ sb
  by_cases h99 : tp lt n p = 99
  · rw [h99, if_neg (show ¬ ln 99 = 0 by decide), show ln 99 - 1 = 3 from rfl, fw_3, hS 99 (by decide) h99]
    have g1 : gk 99 (tp lt n (p + 1)) 1 (ln 99) = dg (tp lt n (p + 1)) := rfl
    have g2 : gk 99 (tp lt n (p + 2)) 2 (ln 99) = dg (tp lt n (p + 2)) := rfl
    have g3 : gk 99 (tp lt n (p + 3)) 3 (ln 99) = decide (tp lt n (p + 3) = 59) := rfl
    rw [g1, g2, g3]
    by_cases d1 : dg (tp lt n (p + 1)) = true
    rotate_left
    · rw [if_pos (nf d1)]
      have ra : f_X10_readsAll FU lt to (nI n) (nI (p + 1)) 99 (nI (2 * q)) = some (0, to, nI (p + 1)) := by
        unfold f_X10_readsAll
        rw [if_pos rfl, r11, if_neg d1, ob, if_pos rfl]
      exact ⟨_, _, _, bad 99 _ _ ra⟩
    rw [if_neg (nt d1)]
    by_cases d2 : dg (tp lt n (p + 2)) = true
    rotate_left
    · rw [if_pos (nf d2)]
      have ra : f_X10_readsAll FU lt to (nI n) (nI (p + 1)) 99 (nI (2 * q)) = some (0, upd to (2 * q) (nI (dgv (tp lt n (p + 1)))), nI (p + 2)) := by
        unfold f_X10_readsAll
        rw [if_pos rfl, r11, if_pos d1, ob, if_neg n10]
        dsimp only
        rw [show nI (2 * q) + 1 = nI (2 * q + 1) from nI_1 _, r12, if_neg d2, ob, if_pos rfl]
      exact ⟨_, _, _, bad 99 _ _ ra⟩
    rw [if_neg (nt d2)]
    have ra : f_X10_readsAll FU lt to (nI n) (nI (p + 1)) 99 (nI (2 * q)) = some (1, upd (upd to (2 * q) (nI (dgv (tp lt n (p + 1))))) (2 * q + 1) (nI (dgv (tp lt n (p + 2)))), nI (p + 3)) := by
      unfold f_X10_readsAll
      rw [if_pos rfl, r11, if_pos d1, ob, if_neg n10]
      dsimp only
      rw [show nI (2 * q) + 1 = nI (2 * q + 1) from nI_1 _, r12, if_pos d2, ob, if_neg n10]
    rw [fin 99 _ (p + 3) (by omega) ra]
    by_cases d3 : tp lt n (p + 3) = 59
    · rw [if_neg (nt (decide_eq_true d3)), if_pos d3]
      refine ⟨_, rfl, fun x h1 h2 => by rw [pk_un h2, pk_un h1], ?_⟩
      unfold TS
      rw [h99, pk_us, pk_un (by omega), pk_us]
      exact ⟨fun z => absurd z (by decide), fun _ => ⟨rfl, rfl⟩, fun z => absurd z (by decide), fun z => absurd z (by decide)⟩
    · rw [if_pos (nf (by rw [decide_eq_false d3]; decide)), if_neg d3]
      exact ⟨_, _, _, rfl⟩
  by_cases h116 : tp lt n p = 116
  · rw [h116, if_neg (show ¬ ln 116 = 0 by decide), show ln 116 - 1 = 3 from rfl, fw_3, hS 116 (by decide) h116]
    have g1 : gk 116 (tp lt n (p + 1)) 1 (ln 116) = !decide (kb_ix (tp lt n (p + 1)) = -1) := rfl
    have g2 : gk 116 (tp lt n (p + 2)) 2 (ln 116) = dg (tp lt n (p + 2)) := rfl
    have g3 : gk 116 (tp lt n (p + 3)) 3 (ln 116) = decide (tp lt n (p + 3) = 59) := rfl
    rw [g1, g2, g3]
    have hinx : vp_in (nI (2 * q)) 96 := vp_in_nI (by omega) (by omega)
    have rt : f_X10_readsThing FU lt to (nI n) (nI (p + 1)) (nI (2 * q)) = if 0 ≤ kb_ix (tp lt n (p + 1)) then ((f_X10_readsDigits FU lt (upd to (2 * q) (kb_ix (tp lt n (p + 1)))) (nI n) (nI (p + 2)) (nI (2 * q + 1)) 1).bind fun x_6 => (xz x_6.1 (some (x_6.1, x_6.2.1, x_6.2.2)))) else (some (0, (upd to (2 * q) (kb_ix (tp lt n (p + 1)))), nI (p + 1))) := by
      unfold f_X10_readsThing
      rw [e_nxt lt hn (by omega), ob, e_kom, ob, xa_in hinx, xa_in hinx, nI_clamp (by omega), pk_us, show nI (p + 1) + 1 = nI (p + 2) from nI_1 _, show nI (2 * q) + 1 = nI (2 * q + 1) from nI_1 _]
    by_cases d1 : kb_ix (tp lt n (p + 1)) = -1
    · rw [if_pos (show (!!decide (kb_ix (tp lt n (p + 1)) = -1)) = true by rw [decide_eq_true d1]; rfl)]
      have ra : f_X10_readsAll FU lt to (nI n) (nI (p + 1)) 116 (nI (2 * q)) = some (0, upd to (2 * q) (kb_ix (tp lt n (p + 1))), nI (p + 1)) := by
        unfold f_X10_readsAll xz
        rw [if_neg (by decide), if_neg (by decide), if_pos rfl, rt, if_neg (by rw [d1]; decide), ob, if_pos (Or.inl rfl)]
      exact ⟨_, _, _, bad 116 _ _ ra⟩
    rw [if_neg (show ¬ (!!decide (kb_ix (tp lt n (p + 1)) = -1)) = true by rw [decide_eq_false d1]; decide)]
    have hge : 0 ≤ kb_ix (tp lt n (p + 1)) := by
      rcases kb_cases (tp lt n (p + 1)) with h | ⟨x, hx, h⟩
      · exact absurd h d1
      · rw [h]; exact nI_pos' (by omega)
    rw [if_pos hge, r12] at rt
    by_cases d2 : dg (tp lt n (p + 2)) = true
    rotate_left
    · rw [if_pos (nf d2)]
      have ra : f_X10_readsAll FU lt to (nI n) (nI (p + 1)) 116 (nI (2 * q)) = some (0, upd to (2 * q) (kb_ix (tp lt n (p + 1))), nI (p + 2)) := by
        unfold f_X10_readsAll
        rw [if_neg (by decide), if_neg (by decide), if_pos rfl, rt, if_neg d2, ob]
        unfold xz
        rw [if_pos (Or.inl rfl), ob, if_pos (Or.inl rfl)]
      exact ⟨_, _, _, bad 116 _ _ ra⟩
    rw [if_neg (nt d2)]
    have ra : f_X10_readsAll FU lt to (nI n) (nI (p + 1)) 116 (nI (2 * q)) = some (1, upd (upd to (2 * q) (kb_ix (tp lt n (p + 1)))) (2 * q + 1) (nI (dgv (tp lt n (p + 2)))), nI (p + 3)) := by
      unfold f_X10_readsAll
      rw [if_neg (by decide), if_neg (by decide), if_pos rfl, rt, if_pos d2, ob]
      unfold xz
      rw [if_pos (Or.inr rfl), ob, if_pos (Or.inr rfl)]
    rw [fin 116 _ (p + 3) (by omega) ra]
    by_cases d3 : tp lt n (p + 3) = 59
    · rw [if_neg (nt (decide_eq_true d3)), if_pos d3]
      refine ⟨_, rfl, fun x h1 h2 => by rw [pk_un h2, pk_un h1], ?_⟩
      unfold TS
      rw [h116, pk_us, pk_un (by omega), pk_us]
      exact ⟨fun _ => ⟨rfl, rfl⟩, fun z => absurd z (by decide), fun z => absurd z (by decide), fun z => absurd z (by decide)⟩
    · rw [if_pos (nf (by rw [decide_eq_false d3]; decide)), if_neg d3]
      exact ⟨_, _, _, rfl⟩
  by_cases h100 : tp lt n p = 100
  · rw [h100, if_neg (show ¬ ln 100 = 0 by decide), show ln 100 - 1 = 3 from rfl, fw_3, hS 100 (by decide) h100]
    have g1 : gk 100 (tp lt n (p + 1)) 1 (ln 100) = dg (tp lt n (p + 1)) := rfl
    have g2 : gk 100 (tp lt n (p + 2)) 2 (ln 100) = dg (tp lt n (p + 2)) := rfl
    have g3 : gk 100 (tp lt n (p + 3)) 3 (ln 100) = decide (tp lt n (p + 3) = 59) := rfl
    rw [g1, g2, g3]
    by_cases d1 : dg (tp lt n (p + 1)) = true
    rotate_left
    · rw [if_pos (nf d1)]
      have ra : f_X10_readsAll FU lt to (nI n) (nI (p + 1)) 100 (nI (2 * q)) = some (0, to, nI (p + 1)) := by
        unfold f_X10_readsAll xz
        rw [if_neg (by decide), if_pos rfl, r2, if_neg d1, ob, if_pos (Or.inl rfl)]
      exact ⟨_, _, _, bad 100 _ _ ra⟩
    rw [if_neg (nt d1)]
    by_cases d2 : dg (tp lt n (p + 2)) = true
    rotate_left
    · rw [if_pos (nf d2)]
      have ra : f_X10_readsAll FU lt to (nI n) (nI (p + 1)) 100 (nI (2 * q)) = some (0, to, nI (p + 2)) := by
        unfold f_X10_readsAll xz
        rw [if_neg (by decide), if_pos rfl, r2, if_pos d1, if_neg d2, ob, if_pos (Or.inl rfl)]
      exact ⟨_, _, _, bad 100 _ _ ra⟩
    rw [if_neg (nt d2)]
    have ra : f_X10_readsAll FU lt to (nI n) (nI (p + 1)) 100 (nI (2 * q)) = some (1, upd to (2 * q) (nI (10 * dgv (tp lt n (p + 1)) + dgv (tp lt n (p + 2)))), nI (p + 3)) := by
      unfold f_X10_readsAll xz
      rw [if_neg (by decide), if_pos rfl, r2, if_pos d1, if_pos d2, ob, if_pos (Or.inr rfl)]
    rw [fin 100 _ (p + 3) (by omega) ra]
    by_cases d3 : tp lt n (p + 3) = 59
    · rw [if_neg (nt (decide_eq_true d3)), if_pos d3]
      refine ⟨_, rfl, fun x h1 h2 => by rw [pk_un h1], ?_⟩
      unfold TS
      rw [h100, pk_us]
      exact ⟨fun z => absurd z (by decide), fun z => absurd z (by decide), fun _ => rfl, fun z => absurd z (by decide)⟩
    · rw [if_pos (nf (by rw [decide_eq_false d3]; decide)), if_neg d3]
      exact ⟨_, _, _, rfl⟩
  by_cases h3 : tp lt n p = 103 ∨ tp lt n p = 108 ∨ tp lt n p = 109
  · have hl3 : ln (tp lt n p) = 3 := by rcases h3 with h | h | h <;> rw [h] <;> rfl
    rw [hl3, if_neg (by decide), show 3 - 1 = 2 from rfl, fw_2, hS (tp lt n p) (by rcases h3 with h | h | h <;> rw [h] <;> decide) rfl]
    have g1 : gk (tp lt n p) (tp lt n (p + 1)) 1 3 = dg (tp lt n (p + 1)) := by
      unfold gk; rw [if_neg (by decide), if_neg (fun z => h116 z.1)]
    have g2 : gk (tp lt n p) (tp lt n (p + 2)) 2 3 = decide (tp lt n (p + 2) = 59) := rfl
    rw [g1, g2]
    by_cases d1 : dg (tp lt n (p + 1)) = true
    rotate_left
    · rw [if_pos (nf d1)]
      have ra : f_X10_readsAll FU lt to (nI n) (nI (p + 1)) (tp lt n p) (nI (2 * q)) = some (0, to, nI (p + 1)) := by
        unfold f_X10_readsAll xz
        rw [if_neg h99, if_neg h100, if_neg h116, r11, if_neg d1, ob, if_pos (Or.inl rfl)]
      exact ⟨_, _, _, bad _ _ _ ra⟩
    rw [if_neg (nt d1)]
    have ra : f_X10_readsAll FU lt to (nI n) (nI (p + 1)) (tp lt n p) (nI (2 * q)) = some (1, upd to (2 * q) (nI (dgv (tp lt n (p + 1)))), nI (p + 2)) := by
      unfold f_X10_readsAll xz
      rw [if_neg h99, if_neg h100, if_neg h116, r11, if_pos d1, ob, if_pos (Or.inr rfl)]
    rw [fin _ _ (p + 2) (by omega) ra]
    by_cases d3 : tp lt n (p + 2) = 59
    · rw [if_neg (nt (decide_eq_true d3)), if_pos d3]
      refine ⟨_, rfl, fun x h1 h2 => by rw [pk_un h1], ?_⟩
      unfold TS
      rw [pk_us]
      exact ⟨fun z => absurd z h116, fun z => absurd z h99, fun z => absurd z h100, fun _ => rfl⟩
    · rw [if_pos (nf (by rw [decide_eq_false d3]; decide)), if_neg d3]
      exact ⟨_, _, _, rfl⟩
  have h103 : ¬ tp lt n p = 103 := fun z => h3 (Or.inl z)
  have h108 : ¬ tp lt n p = 108 := fun z => h3 (Or.inr (Or.inl z))
  have h109 : ¬ tp lt n p = 109 := fun z => h3 (Or.inr (Or.inr z))
  rw [if_pos (ln_0 h99 h100 h116 h103 h108 h109)]
  refine ⟨le, la, to, ?_⟩
  unfold f_X10_statement
  rw [e_nxt lt hn (by omega), ob, if_neg h116, if_neg h99, if_neg h108, if_neg h109, if_neg h103, if_neg h100]
  rfl
