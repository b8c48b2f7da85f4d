/-! CALLS, first part -/
def QI (rf' : Nat → Int32) (ka fa ca kp : Nat → Int32) (k d L G : Nat) (c : Option (Int32 × (Nat → Int32))) (m : Option (Int32 × (Nat → Int32) × (Nat → Int32) × (Nat → Int32) × (Nat → Int32) × Int32 × Int32 × Int32 × Int32 × (Nat → Int32) × Int32 × Int32)) : Prop :=
  ∃ (r : Int32) (rf' kp' : Nat → Int32) (ik' cu' : Int32), c = some (r, rf') ∧ m = some (r, rf', ka, fa, ca, nI k, nI d, nI L, nI G, kp', ik', cu') ∧ ∀ j, j < 62 → kp' j = kp j
def QL (rf' : Nat → Int32) (ka fa ca kp : Nat → Int32) (k d L G : Nat) (c : Option (Int64 × (Nat → Int32))) (m : Option (Int64 × (Nat → Int32) × (Nat → Int32) × (Nat → Int32) × (Nat → Int32) × Int32 × Int32 × Int32 × Int32 × (Nat → Int32) × Int32 × Int32)) : Prop :=
  ∃ (r : Int64) (rf' kp' : Nat → Int32) (ik' cu' : Int32), c = some (r, rf') ∧ m = some (r, rf', ka, fa, ca, nI k, nI d, nI L, nI G, kp', ik', cu') ∧ ∀ j, j < 62 → kp' j = kp j
theorem bfalse {b : Bool} (h : ¬ b = true) : b = false := by cases b <;> simp_all
theorem btrue {b : Bool} (h : ¬ b = false) : b = true := by cases b <;> simp_all
section CA
variable {k : Nat} {ka fa ca : Nat → Int32} {kd fg cs : Nat → Nat} {L G d : Nat}
theorem e_isLT {i : Nat} (hk : k ≤ 9) (hi : i < k) (h : L.testBit i = true) : f_X7_isLost (nI k) (nI L) (nI i) = some 1 := by
  unfold f_X7_isLost
  rw [e_has hk hi, ob, if_neg n10, if_neg (fun z => by rw [(nI_has0 (by omega)).mp z] at h; cases h)]
theorem e_isLF {i : Nat} (hk : k ≤ 9) (hi : i < k) (h : L.testBit i = false) : f_X7_isLost (nI k) (nI L) (nI i) = some 0 := by
  unfold f_X7_isLost
  rw [e_has hk hi, ob, if_neg n10, if_pos ((nI_has0 (by omega)).mpr h)]
theorem e_isGT {i : Nat} (hk : k ≤ 9) (hi : i < k) (h : G.testBit i = true) : f_X7_isGuarded (nI k) (nI G) (nI i) = some 1 := by
  unfold f_X7_isGuarded
  rw [e_has hk hi, ob, if_neg n10, if_neg (fun z => by rw [(nI_has0 (by omega)).mp z] at h; cases h)]
theorem e_isGF {i : Nat} (hk : k ≤ 9) (hi : i < k) (h : G.testBit i = false) : f_X7_isGuarded (nI k) (nI G) (nI i) = some 0 := by
  unfold f_X7_isGuarded
  rw [e_has hk hi, ob, if_neg n10, if_pos ((nI_has0 (by omega)).mpr h)]
theorem e_isL0 {x : Int32} (h : x < 0 ∨ nI k ≤ x) : f_X7_isLost (nI k) (nI L) x = some 0 := by
  unfold f_X7_isLost
  rw [e_has0 h, ob, if_pos rfl]
def LT (lt : Nat → Int32) (n : Nat) : Prop := n ≤ 96 ∧ ∀ j, j < n → ∃ c, c < 256 ∧ lt j = nI c
theorem t_letter {lt rf : Nat → Int32} {n : Nat} (hl : LT lt n) (x : Int32) : ∃ (r : Int32) (rf' lt' : Nat → Int32) (n' : Nat), LT lt' n' ∧ f_X9_letter lt (nI n) rf x = some (r, lt', nI n', rf') ∧ f_X10_letter rf lt (nI n) x = some (r, rf', lt', nI n') := by
  have hn := hl.1
  unfold f_X9_letter f_X10_letter
  rcases e_b0_255 x with ⟨h1, h2⟩ | ⟨h1, h2⟩ | ⟨c, -, hc, rfl, h1, h2⟩
  · have hx : ¬ (0 : Int32) ≤ x := by
      intro z
      unfold f_X9_outside at h1
      rw [if_pos z] at h1
      split at h1 <;> cases h1
    refine ⟨-4, rfu rf 4, lt, n, hl, ?_, ?_⟩
    · rw [if_neg hx, e_ref4, ob]
    · rw [h2, ob, if_neg nm4, f_X10_letter_25, if_neg nm4, e_no4, ob]
  · have hx : (0 : Int32) ≤ x ∧ (255 : Int32) < x := by
      unfold f_X9_outside at h1
      by_cases z : (0 : Int32) ≤ x
      · rw [if_pos z] at h1
        by_cases w : x ≤ 255
        · rw [if_pos w] at h1; cases h1
        · exact ⟨z, Int32.not_le.mp w⟩
      · rw [if_neg z] at h1; cases h1
    refine ⟨-6, rfu rf 6, lt, n, hl, ?_, ?_⟩
    · rw [if_pos hx.1, if_pos hx.2, f_X9_letter_28, e_ref6, ob]
    · rw [h2, ob, if_neg nm6, f_X10_letter_25, if_neg nm6, e_no6, ob]
  · have hx : (0 : Int32) ≤ nI c := nI_pos' (by omega)
    have hy : ¬ (255 : Int32) < nI c := nI_nlt (a := 255) (by omega) (by omega)
    by_cases h96 : n = 96
    · subst h96
      refine ⟨-6, rfu rf 6, lt, 96, hl, ?_, ?_⟩
      · rw [if_pos hx, if_neg hy, f_X8_isFull, if_neg (show ¬ nI 96 < 96 by decide), ob, if_neg n10, f_X9_letter_28, e_ref6, ob]
      · rw [h2, ob, if_pos rfl, if_pos (show nI 96 = 96 from rfl), f_X10_letter_25, if_neg nm6, e_no6, ob]
    · have hlt : nI n < 96 := nI_lt (b := 96) (by omega) (by omega)
      have hin : vp_in (nI n) 96 := vp_in_nI (by omega) (by omega)
      have hne : ¬ nI n = 96 := by rw [show (96 : Int32) = nI 96 from rfl, nI_eq (by omega) (by omega)]; exact h96
      refine ⟨nI (n + 1), rf, upd lt n (nI c), n + 1, ⟨by omega, ?_⟩, ?_, ?_⟩
      · intro j hj
        by_cases hjn : j = n
        · subst hjn; exact ⟨c, by omega, pk_us⟩
        · rw [pk_un hjn]; exact hl.2 j (by omega)
      · rw [if_pos hx, if_neg hy, f_X8_isFull, if_pos hlt, ob, if_pos rfl, f_X8_add, f_X8_isFull, if_pos hlt, ob, if_pos rfl, xa_in hin, ob, nI_clamp (by omega), show nI n + 1 = nI (n + 1) from nI_1 _]
      · rw [h2, ob, if_pos rfl, if_neg hne, f_X10_letter_25, if_pos rfl, xa_in hin, nI_clamp (by omega), show nI n + 1 = nI (n + 1) from nI_1 _]
theorem t_causes (hA : AR k ka fa ca kd fg cs) (rf : Nat → Int32) (x y : Int32) : ∃ (r : Int32) (ca' rf' : Nat → Int32) (cs' : Nat → Nat), AR k ka fa ca' kd fg cs' ∧ f_X9_causes ca (nI k) rf x y = some (r, ca', rf') ∧ f_X10_causes rf ca (nI k) x y = some (r, rf', ca') := by
  have hk := hA.1
  unfold f_X9_causes f_X10_causes
  rcases pk_ix x (n := k) (by omega) with h | h | ⟨i, hi, rfl⟩
  · refine ⟨-1, ca, rfu rf 1, cs, hA, ?_, ?_⟩
    · rw [e_has0 (Or.inl h), ob, if_pos rfl, f_X9_causes_22, e_ref1, ob]
    · rw [e_isT0 (Or.inl h), ob, if_pos rfl, f_X10_causes_16, f_X10_causes_31, if_neg nm1, e_no1, ob]
  · refine ⟨-1, ca, rfu rf 1, cs, hA, ?_, ?_⟩
    · rw [e_has0 (Or.inr h), ob, if_pos rfl, f_X9_causes_22, e_ref1, ob]
    · rw [e_isT0 (Or.inr h), ob, if_pos rfl, f_X10_causes_16, f_X10_causes_31, if_neg nm1, e_no1, ob]
  · rcases pk_ix y (n := k) (by omega) with h | h | ⟨c, hc, rfl⟩
    · refine ⟨-1, ca, rfu rf 1, cs, hA, ?_, ?_⟩
      · rw [e_has hk hi, ob, if_neg n10, e_has0 (Or.inl h), ob, if_pos rfl, f_X9_causes_22, e_ref1, ob]
      · rw [e_isT hk hi, ob, if_neg n10, e_isT0 (Or.inl h), ob, if_pos rfl, f_X10_causes_16, f_X10_causes_31, if_neg nm1, e_no1, ob]
    · refine ⟨-1, ca, rfu rf 1, cs, hA, ?_, ?_⟩
      · rw [e_has hk hi, ob, if_neg n10, e_has0 (Or.inr h), ob, if_pos rfl, f_X9_causes_22, e_ref1, ob]
      · rw [e_isT hk hi, ob, if_neg n10, e_isT0 (Or.inr h), ob, if_pos rfl, f_X10_causes_16, f_X10_causes_31, if_neg nm1, e_no1, ob]
    · have hin : vp_in (nI i) 9 := vp_in_nI (by omega) (by omega)
      by_cases hci : c < i
      · have e0 : ca i ^^^ (1 <<< (nI c &&& 31)) = nI (cs i ^^^ 2 ^ c) := by rw [(hA.2 i hi).2.2.1, nI_pow c (by omega), nI_xor]
        have hA' : AR k ka fa (upd ca i (nI (cs i ^^^ 2 ^ c))) kd fg (fun j => if j = i then cs i ^^^ 2 ^ c else cs j) := by
          refine ⟨hk, fun j hj => ⟨(hA.2 j hj).1, (hA.2 j hj).2.1, ?_⟩⟩
          by_cases hji : j = i
          · subst hji
            refine ⟨?_, ?_⟩
            · rw [pk_us]; simp
            · simp only [if_true]
              exact Nat.xor_lt_two_pow (hA.2 j hj).2.2.2 (pw_lt hci)
          · refine ⟨?_, ?_⟩
            · rw [pk_un hji]; simp only [hji, if_false]; exact (hA.2 j hj).2.2.1
            · simp only [hji, if_false]; exact (hA.2 j hj).2.2.2
        refine ⟨nI (cs i ^^^ 2 ^ c), upd ca i (nI (cs i ^^^ 2 ^ c)), rf, _, hA', ?_, ?_⟩
        · rw [e_has hk hi, ob, if_neg n10, e_has hk hc, ob, if_neg n10, f_X7_flipCause, e_has hk hi, ob, if_neg n10, e_has hk hc, ob, if_neg n10, if_pos (nI_lt hci (by omega)), xa_in hin, xa_in hin, ob, if_neg n10, nI_clamp (by omega), e0]
          have := e_caus hA' hi
          simp only [if_true] at this
          rw [this, ob]
        · rw [e_isT hk hi, ob, if_neg n10, e_isT hk hc, ob, if_neg n10, if_pos (nI_lt hci (by omega)), f_X10_causes_31, if_pos rfl, xa_in hin, xa_in hin, xa_in hin, nI_clamp (by omega), e0, pk_us]
      · refine ⟨-3, ca, rfu rf 3, cs, hA, ?_, ?_⟩
        · rw [e_has hk hi, ob, if_neg n10, e_has hk hc, ob, if_neg n10, f_X7_flipCause, e_has hk hi, ob, if_neg n10, e_has hk hc, ob, if_neg n10, if_neg (nI_nlt (by omega) (by omega)), ob, if_pos rfl, e_ref3, ob]
        · rw [e_isT hk hi, ob, if_neg n10, e_isT hk hc, ob, if_neg n10, if_neg (nI_nlt (by omega) (by omega)), f_X10_causes_31, if_neg nm3, e_no3, ob]
theorem t_loses (hk : k ≤ 9) (hL : L < 2 ^ k) (hG : G < 2 ^ k) (rf : Nat → Int32) (x : Int32) : ∃ (r : Int32) (L' : Nat) (rf' : Nat → Int32), L' < 2 ^ k ∧ f_X9_loses (nI k) (nI L) (nI G) rf x = some (r, nI L', rf') ∧ f_X10_loses FU rf (nI k) (nI L) (nI G) x = some (r, rf', nI L') := by
  have hLG := or_lt (p9 hk hL) (p9 hk hG) (n := 9)
  unfold f_X9_loses f_X10_loses
  rcases pk_ix x (n := k) (by omega) with h | h | ⟨i, hi, rfl⟩
  · refine ⟨-1, L, rfu rf 1, hL, ?_, ?_⟩
    · rw [e_has0 (Or.inl h), ob, if_pos rfl, e_ref1, ob]
    · rw [e_isT0 (Or.inl h), ob, if_pos rfl, f_X10_loses_34, if_neg nm1, e_no1, ob]
  · refine ⟨-1, L, rfu rf 1, hL, ?_, ?_⟩
    · rw [e_has0 (Or.inr h), ob, if_pos rfl, e_ref1, ob]
    · rw [e_isT0 (Or.inr h), ob, if_pos rfl, f_X10_loses_34, if_neg nm1, e_no1, ob]
  · rw [e_has hk hi, ob, if_neg n10, e_isT hk hi, ob, if_neg n10, nI_or]
    by_cases hb : L.testBit i = true
    · refine ⟨-3, L, rfu rf 3, hL, ?_, ?_⟩
      · rw [e_isLT hk hi hb, ob, if_neg n10, f_X9_loses_39, e_ref3, ob]
      · rw [e_mhasT (by omega) (by omega) (by rw [Nat.testBit_or, hb]; rfl), ob, if_neg n10, f_X10_loses_34, if_neg nm3, e_no3, ob]
    · have hb' := bfalse hb
      by_cases hg : G.testBit i = true
      · refine ⟨-3, L, rfu rf 3, hL, ?_, ?_⟩
        · rw [e_isLF hk hi hb', ob, if_pos rfl, f_X7_lose, e_has hk hi, ob, if_neg n10, e_isGT hk hi hg, ob, if_neg n10, ob, if_pos rfl, f_X9_loses_39, e_ref3, ob]
        · rw [e_mhasT (by omega) (by omega) (by rw [Nat.testBit_or, hg, Bool.or_true]), ob, if_neg n10, f_X10_loses_34, if_neg nm3, e_no3, ob]
      · have hg' := bfalse hg
        have hL' : L ||| 2 ^ i < 2 ^ k := or_lt hL (pw_lt hi)
        have h9 := p9 hk hL'
        refine ⟨nI (pcn (L ||| 2 ^ i)), L ||| 2 ^ i, rf, hL', ?_, ?_⟩
        · rw [e_isLF hk hi hb', ob, if_pos rfl, f_X7_lose, e_has hk hi, ob, if_neg n10, e_isGF hk hi hg', ob, if_pos rfl, ob, if_neg n10, nI_pow i (by omega), nI_or, e_bc _ h9, ob]
        · rw [e_mhasF (by omega) (by omega) (by rw [Nat.testBit_or, hb', hg']; rfl), ob, if_pos rfl, f_X10_loses_34, if_pos rfl, nI_pow i (by omega), nI_or, e_bits _ h9, ob]
theorem t_mends (hk : k ≤ 9) (hL : L < 2 ^ k) (rf : Nat → Int32) (x : Int32) : ∃ (r : Int32) (L' : Nat) (rf' : Nat → Int32), L' < 2 ^ k ∧ f_X9_mends (nI k) (nI L) rf x = some (r, nI L', rf') ∧ f_X10_mends FU rf (nI k) (nI L) x = some (r, rf', nI L') := by
  have hL9 := p9 hk hL
  unfold f_X9_mends f_X10_mends
  rcases pk_ix x (n := k) (by omega) with h | h | ⟨i, hi, rfl⟩
  · refine ⟨-1, L, rfu rf 1, hL, ?_, ?_⟩
    · rw [e_has0 (Or.inl h), ob, if_pos rfl, e_ref1, ob]
    · rw [e_isT0 (Or.inl h), ob, if_pos rfl, f_X10_mends_29, if_neg nm1, e_no1, ob]
  · refine ⟨-1, L, rfu rf 1, hL, ?_, ?_⟩
    · rw [e_has0 (Or.inr h), ob, if_pos rfl, e_ref1, ob]
    · rw [e_isT0 (Or.inr h), ob, if_pos rfl, f_X10_mends_29, if_neg nm1, e_no1, ob]
  · rw [e_has hk hi, ob, if_neg n10, e_isT hk hi, ob, if_neg n10]
    by_cases hb : L.testBit i = true
    · have hL' : sdf L (2 ^ i) < 2 ^ k := sdf_lt hL
      have h9 := p9 hk hL'
      refine ⟨nI (pcn (sdf L (2 ^ i))), sdf L (2 ^ i), rf, hL', ?_, ?_⟩
      · rw [e_isLT hk hi hb, ob, if_neg n10, f_X7_mend, e_has hk hi, ob, if_neg n10, ob, if_neg n10, nI_pow i (by omega), nI_sdf, e_bc _ h9, ob]
      · rw [e_mhasT (by omega) (by omega) hb, ob, if_neg n10, f_X10_mends_29, if_pos rfl, nI_pow i (by omega), nI_sdf, e_bits _ h9, ob]
    · refine ⟨-3, L, rfu rf 3, hL, ?_, ?_⟩
      · rw [e_isLF hk hi (bfalse hb), ob, if_pos rfl, f_X9_mends_39, e_ref3, ob]
      · rw [e_mhasF (by omega) (by omega) (bfalse hb), ob, if_pos rfl, f_X10_mends_29, if_neg nm3, e_no3, ob]
theorem t_guards (hk : k ≤ 9) (hG : G < 2 ^ k) (rf : Nat → Int32) (x : Int32) : ∃ (r : Int32) (G' : Nat) (rf' : Nat → Int32), G' < 2 ^ k ∧ f_X9_guards (nI k) (nI G) rf x = some (r, nI G', rf') ∧ f_X10_guards rf (nI k) (nI G) x = some (r, rf', nI G') := by
  unfold f_X9_guards f_X10_guards
  rcases pk_ix x (n := k) (by omega) with h | h | ⟨i, hi, rfl⟩
  · refine ⟨-1, G, rfu rf 1, hG, ?_, ?_⟩
    · rw [f_X7_flipGuard, e_has0 (Or.inl h), ob, if_pos rfl, ob, if_pos rfl, e_ref1, ob]
    · rw [e_isT0 (Or.inl h), ob, if_pos rfl, e_no1, ob]
  · refine ⟨-1, G, rfu rf 1, hG, ?_, ?_⟩
    · rw [f_X7_flipGuard, e_has0 (Or.inr h), ob, if_pos rfl, ob, if_pos rfl, e_ref1, ob]
    · rw [e_isT0 (Or.inr h), ob, if_pos rfl, e_no1, ob]
  · have hG' : G ^^^ 2 ^ i < 2 ^ k := Nat.xor_lt_two_pow hG (pw_lt hi)
    have h9 := p9 hk hG'
    rw [f_X7_flipGuard, e_has hk hi, ob, if_neg n10, ob, if_neg n10, e_isT hk hi, ob, if_neg n10, nI_pow i (by omega), nI_xor, nI_bit (by omega) (by omega)]
    by_cases hb : (G ^^^ 2 ^ i).testBit i = true
    · refine ⟨1, G ^^^ 2 ^ i, rf, hG', ?_, ?_⟩
      · rw [e_isGT hk hi hb, ob, if_neg n10]
      · rw [hb]; rfl
    · refine ⟨0, G ^^^ 2 ^ i, rf, hG', ?_, ?_⟩
      · rw [e_isGF hk hi (bfalse hb), ob, if_pos rfl]
      · rw [bfalse hb]; rfl
theorem e_kin (x : Int32) : (∃ n, n < 6 ∧ x = nI n ∧ f_X7_isKind x = some 1 ∧ f_X10_isIn x 0 5 = some 1) ∨ (f_X7_isKind x = some 0 ∧ f_X10_isIn x 0 5 = some 0) := by
  unfold f_X7_isKind f_X10_isIn
  by_cases h1 : x < 0
  · exact Or.inr ⟨by rw [if_pos h1], by rw [if_pos h1]⟩
  · by_cases h2 : 5 < x
    · refine Or.inr ⟨?_, by rw [if_neg h1, if_pos h2]⟩
      have : (6 : Int32) ≤ x := by
        obtain ⟨n, hn, rfl⟩ := nI_of h1
        have := (nI_ltI (a := 5) (by omega) hn).mp h2
        exact nI_le (a := 6) (by omega) hn
      rw [if_neg h1, if_pos this]
    · obtain ⟨n, hn, rfl⟩ := nI_of2 (M := 5) (n := 5) rfl h1 (Int32.not_lt.mp h2)
      refine Or.inl ⟨n, by omega, rfl, ?_, ?_⟩
      · rw [if_neg h1, if_neg (show ¬ (6 : Int32) ≤ nI n from nI_ge (b := 6) (by omega) (by omega))]
      · rw [if_neg h1, if_neg h2]
theorem t_turn (hA : AR k ka fa ca kd fg cs) (rf : Nat → Int32) (x y z : Int32) : ∃ (r : Int32) (ka' fa' rf' : Nat → Int32) (kd' fg' : Nat → Nat), AR k ka' fa' ca kd' fg' cs ∧ f_X9_turn ka fa (nI k) rf x y z = some (r, ka', fa', rf') ∧ f_X10_turn rf ka fa (nI k) x y z = some (r, rf', ka', fa') := by
  have hk := hA.1
  unfold f_X9_turn f_X10_turn
  rcases pk_ix x (n := k) (by omega) with h | h | ⟨i, hi, rfl⟩
  · refine ⟨-1, ka, fa, rfu rf 1, kd, fg, hA, ?_, ?_⟩
    · rw [e_has0 (Or.inl h), ob, if_pos rfl, e_ref1, ob]
    · rw [e_isT0 (Or.inl h), ob, if_pos rfl, f_X10_turn_33, if_neg nm1, e_no1, ob]
  · refine ⟨-1, ka, fa, rfu rf 1, kd, fg, hA, ?_, ?_⟩
    · rw [e_has0 (Or.inr h), ob, if_pos rfl, e_ref1, ob]
    · rw [e_isT0 (Or.inr h), ob, if_pos rfl, f_X10_turn_33, if_neg nm1, e_no1, ob]
  · rw [e_has hk hi, ob, if_neg n10, e_isT hk hi, ob, if_neg n10]
    rcases e_kin y with ⟨kn, hkn, rfl, k1, k2⟩ | ⟨k1, k2⟩
    · rw [k1, ob, if_neg n10, k2, ob, if_neg n10]
      rcases e_b0_9 z with ⟨h1, h2⟩ | ⟨h1, h2⟩ | ⟨fn, -, hfn, rfl, h1, h2⟩
      · refine ⟨-4, ka, fa, rfu rf 4, kd, fg, hA, ?_, ?_⟩
        · rw [h1, ob, if_neg nm4, e_ref4, ob]
        · rw [h2, ob, f_X10_turn_33, if_neg nm4, e_no4, ob]
      · refine ⟨-6, ka, fa, rfu rf 6, kd, fg, hA, ?_, ?_⟩
        · rw [h1, ob, if_neg nm6, e_ref6, ob]
        · rw [h2, ob, f_X10_turn_33, if_neg nm6, e_no6, ob]
      · have hin : vp_in (nI i) 9 := vp_in_nI (by omega) (by omega)
        have hfi : f_X7_isFigure (nI fn) = some 1 := by
          unfold f_X7_isFigure
          rw [if_neg (nI_pos (by omega)), if_neg (show ¬ (9 : Int32) < nI fn from nI_nlt (a := 9) (by omega) (by omega))]
        refine ⟨10 * ka i + fa i, upd ka i (nI kn), upd fa i (nI fn), rf, (fun j => if j = i then kn else kd j), (fun j => if j = i then fn else fg j), ⟨hk, fun j hj => ?_⟩, ?_, ?_⟩
        · by_cases hji : j = i
          · subst hji
            simp only [pk_us, if_true]
            exact ⟨⟨trivial, hkn⟩, ⟨trivial, by omega⟩, (hA.2 j hj).2.2⟩
          · simp only [pk_un hji, hji, if_false]
            exact hA.2 j hj
        · rw [h1, ob, if_pos rfl, e_kind hA hi, ob, e_fig hA hi, ob, f_X7_setKind, e_has hk hi, ob, if_neg n10, k1, ob, if_neg n10, xa_in hin, ob, f_X7_setFigure, e_has hk hi, ob, if_neg n10, hfi, ob, if_neg n10, xa_in hin, ob, nI_clamp (by omega), (hA.2 i hi).1.1, (hA.2 i hi).2.1.1]
        · rw [h2, ob, f_X10_turn_33, if_pos rfl, xa_in hin, xa_in hin, xa_in hin, xa_in hin, nI_clamp (by omega)]
    · refine ⟨-2, ka, fa, rfu rf 2, kd, fg, hA, ?_, ?_⟩
      · rw [k1, ob, if_pos rfl, e_ref2, ob]
      · rw [k2, ob, if_pos rfl, f_X10_turn_33, if_neg nm2, e_no2, ob]
theorem t_days (hA : AR k ka fa ca kd fg cs) (hL : L < 2 ^ k) (hG : G < 2 ^ k) (hd : d ≤ 999) (rf : Nat → Int32) (x : Int32) : ∃ (r : Int32) (L' d' : Nat) (rf' : Nat → Int32), L' < 2 ^ k ∧ d' ≤ 999 ∧ f_X9_days FU ka fa ca (nI k) (nI L) (nI G) (nI d) rf x = some (r, nI L', nI d', rf') ∧ f_X10_days FU rf ka fa ca (nI k) (nI d) (nI L) (nI G) x = some (r, rf', nI d', nI L') := by
  have hk := hA.1
  unfold f_X9_days f_X10_days
  rcases e_b1_60 x with ⟨h1, h2⟩ | ⟨h1, h2⟩ | ⟨n, hn1, hn, rfl, h1, h2⟩
  · refine ⟨-4, L, d, rfu rf 4, hL, hd, ?_, ?_⟩
    · rw [h1, ob, if_neg nm4, e_ref4, ob]
    · rw [h2, ob, if_neg nm4, f_X10_days_27, if_neg nm4, e_no4, ob]
  · refine ⟨-6, L, d, rfu rf 6, hL, hd, ?_, ?_⟩
    · rw [h1, ob, if_neg nm6, e_ref6, ob]
    · rw [h2, ob, if_neg nm6, f_X10_days_27, if_neg nm6, e_no6, ob]
  · rw [h1, ob, if_pos rfl, h2, ob, if_pos rfl, f_X7_passDays, if_neg (show ¬ nI n < 1 from nI_nlt (b := 1) (by omega) (by omega)), if_neg (show ¬ (60 : Int32) < nI n from nI_nlt (a := 60) (by omega) (by omega)), nI_add]
    by_cases h9 : d + n ≤ 999
    · have hle : nI (d + n) ≤ 999 := nI_le (b := 999) h9 (by omega)
      have hr := run_lt (kd := kd) (fg := fg) (cs := cs) (G := G) (d := d) hL n
      refine ⟨nI (pcn (run k kd fg cs L G d n)), run k kd fg cs L G d n, d + n, rf, hr, h9, ?_, ?_⟩
      · rw [if_pos hle, e_bds hA hL (by omega) (by omega), ob, ob, if_neg n10, e_bc _ (p9 hk hr), ob]
      · rw [if_pos hle, f_X10_days_27, if_pos rfl, e_goes hA hL hG (by omega) (by omega), ob, e_bits _ (p9 hk hr), ob]
    · have hle : ¬ nI (d + n) ≤ 999 := nI_ge (a := 999) (by omega) (by omega)
      refine ⟨-6, L, d, rfu rf 6, hL, hd, ?_, ?_⟩
      · rw [if_neg hle, ob, if_pos rfl, e_ref6, ob]
      · rw [if_neg hle, f_X10_days_27, if_neg nm6, e_no6, ob]
theorem t_lostThen (hA : AR k ka fa ca kd fg cs) (hL : L < 2 ^ k) (hG : G < 2 ^ k) (hd : d ≤ 999) (rf kp : Nat → Int32) (ik cu x : Int32) : QI rf ka fa ca kp k d L G (f_X9_lostThen FU ka fa ca (nI k) (nI L) (nI G) (nI d) rf x) (f_X10_lostThen FU rf ka fa ca (nI k) (nI d) (nI L) (nI G) kp ik cu x) := by
  have hk := hA.1
  unfold f_X9_lostThen f_X10_lostThen
  rcases e_b0_60 x with ⟨h1, h2⟩ | ⟨h1, h2⟩ | ⟨n, -, hn, rfl, h1, h2⟩
  · refine ⟨-4, rfu rf 4, kp, ik, cu, ?_, ?_, fun _ _ => rfl⟩
    · rw [h1, ob, if_neg nm4, e_ref4, ob]
    · rw [h2, ob, if_neg nm4, e_no4, ob]
  · refine ⟨-6, rfu rf 6, kp, ik, cu, ?_, ?_, fun _ _ => rfl⟩
    · rw [h1, ob, if_neg nm6, e_ref6, ob]
    · rw [h2, ob, if_neg nm6, e_no6, ob]
  · refine ⟨nI (run k kd fg cs L G d n), rf, SV kp ka fa ca k d L G, 0, nI 93, ?_, ?_, fun _ h => SV_lo _ _ _ _ _ _ _ _ h⟩
    · rw [h1, ob, if_pos rfl, e_lb hA hL (by omega) (by omega), ob]
    · rw [h2, ob, if_pos rfl, e_lostIn hA hL hG (by omega) (by omega), ob]
theorem t_when (hA : AR k ka fa ca kd fg cs) (hL : L < 2 ^ k) (hG : G < 2 ^ k) (hd : d ≤ 999) (rf kp : Nat → Int32) (ik cu x : Int32) : QI rf ka fa ca kp k d L G (f_X9_when FU ka fa ca (nI k) (nI L) (nI G) (nI d) rf x) (f_X10_when FU rf ka fa ca (nI k) (nI d) (nI L) (nI G) kp ik cu x) := by
  have hk := hA.1
  unfold f_X9_when f_X10_when
  rcases pk_ix x (n := k) (by omega) with h | h | ⟨i, hi, rfl⟩
  · refine ⟨-1, rfu rf 1, kp, ik, cu, ?_, ?_, fun _ _ => rfl⟩
    · rw [e_has0 (Or.inl h), ob, if_pos rfl, e_ref1, ob]
    · rw [e_isT0 (Or.inl h), ob, if_pos rfl, e_no1, ob]
  · refine ⟨-1, rfu rf 1, kp, ik, cu, ?_, ?_, fun _ _ => rfl⟩
    · rw [e_has0 (Or.inr h), ob, if_pos rfl, e_ref1, ob]
    · rw [e_isT0 (Or.inr h), ob, if_pos rfl, e_no1, ob]
  · refine ⟨oI (whn k kd fg cs L G d i), rf, SV kp ka fa ca k d L G, 0, nI 93, ?_, ?_, fun _ h => SV_lo _ _ _ _ _ _ _ _ h⟩
    · rw [e_has hk hi, ob, if_neg n10, e_dul hA hL (by omega) (by omega), ob]
    · rw [e_isT hk hi, ob, if_neg n10, e_lw hA hL hG (by omega) (by omega), ob]
end CA
