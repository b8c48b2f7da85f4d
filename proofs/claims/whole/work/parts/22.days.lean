/-! DAYS: the model's, what is kept and put back, the class's way to stop early -/
theorem pcn_0 : ∀ n, n < 512 → (pcn n = 0 ↔ n = 0) := by decide +kernel
theorem mr_bit (kd fg cs : Nat → Nat) (L G d : Nat) : ∀ i j, (mr kd fg cs L G d i).testBit j = decide (j < i ∧ (L ||| G).testBit j = false ∧ flp kd fg cs j L d = true) := by
  intro i
  induction i with
  | zero => intro j; simp [mr]
  | succ i ih =>
    intro j
    rw [mr, Nat.testBit_or, ih j]
    by_cases h : j = i
    · subst h
      by_cases hc : (L ||| G).testBit j = false ∧ flp kd fg cs j L d = true
      · rw [if_pos hc, Nat.testBit_two_pow]
        simp [hc.1, hc.2]
      · rw [if_neg hc]
        have h1 : decide (j < j ∧ (L ||| G).testBit j = false ∧ flp kd fg cs j L d = true) = false := decide_eq_false (fun z => absurd z.1 (by omega))
        have h2 : decide (j < j + 1 ∧ (L ||| G).testBit j = false ∧ flp kd fg cs j L d = true) = false := decide_eq_false (fun z => hc z.2)
        rw [h1, h2]; simp
    · have h3 : (if (L ||| G).testBit i = false ∧ flp kd fg cs i L d = true then 2 ^ i else 0).testBit j = false := by
        split
        · rw [Nat.testBit_two_pow]; exact decide_eq_false (fun z => h z.symm)
        · exact Nat.zero_testBit j
      rw [h3, Bool.or_false]
      by_cases hj : j < i
      · have : j < i + 1 := by omega
        simp [hj, this]
      · have : ¬ j < i + 1 := by omega
        simp [hj, this]
theorem dayf_iff {k : Nat} {kd fg cs : Nat → Nat} {L G d : Nat} : dayf k kd fg cs L G d = L ↔ ∀ j, j < k → ¬ ((L ||| G).testBit j = false ∧ flp kd fg cs j L d = true) := by
  constructor
  · intro h j hj hc
    have h1 : (dayf k kd fg cs L G d).testBit j = true := by
      unfold dayf
      rw [Nat.testBit_or, mr_bit]
      simp [hj, hc.1, hc.2]
    rw [h] at h1
    have h2 := hc.1
    rw [Nat.testBit_or, h1] at h2
    cases h2
  · intro h
    refine Nat.eq_of_testBit_eq fun j => ?_
    unfold dayf
    rw [Nat.testBit_or, mr_bit, decide_eq_false (fun z => h j z.1 z.2), Bool.or_false]
theorem flp_again {kd fg cs : Nat → Nat} {i X D D' : Nat} (hf : fg i < 10) (h : flp kd fg cs i X D' = true) : ∃ t, t < 10 ∧ flp kd fg cs i X (D + t) = true := by
  by_cases h4 : kd i = 4
  · obtain ⟨t, ht, hm⟩ : ∃ t, t < 10 ∧ (D + t) % (fg i + 1) = 0 := by
      have hp : 0 < fg i + 1 := by omega
      have hm := Nat.mod_lt D hp
      by_cases hz : D % (fg i + 1) = 0
      · exact ⟨0, by omega, hz⟩
      · refine ⟨fg i + 1 - D % (fg i + 1), by omega, ?_⟩
        have hd := Nat.div_add_mod D (fg i + 1)
        have e : D + (fg i + 1 - D % (fg i + 1)) = (fg i + 1) * (D / (fg i + 1) + 1) := by
          rw [Nat.mul_add, Nat.mul_one]; omega
        rw [e]
        exact Nat.mul_mod_right _ _
    refine ⟨t, ht, ?_⟩
    unfold flp ndn at h ⊢
    rw [h4] at h ⊢
    simp only [Bool.and_eq_true, decide_eq_true_eq] at h ⊢
    refine ⟨h.1, ?_⟩
    have h2 := h.2
    have hp := pcn_le (cs i &&& X)
    simp only [hm, if_true] at h2 ⊢
    by_cases hz : D' % (fg i + 1) = 0
    · simp only [hz, if_true] at h2; simpa using h2
    · simp only [hz, if_false] at h2
      exfalso
      simp at h2
      omega
  · refine ⟨0, by omega, ?_⟩
    unfold flp ndn at h ⊢
    simp only [h4, if_false] at h ⊢
    exact h
theorem quiet {k : Nat} {kd fg cs : Nat → Nat} {X G D : Nat} (hf : ∀ i, i < k → fg i < 10) (h : ∀ t, t < 10 → dayf k kd fg cs X G (D + t) = X) (D' : Nat) : dayf k kd fg cs X G D' = X := by
  refine dayf_iff.mpr fun j hj hc => ?_
  obtain ⟨t, ht, hq⟩ := flp_again (D := D) (hf j hj) hc.2
  exact dayf_iff.mp (h t ht) j hj ⟨hc.1, hq⟩
theorem run_still {k : Nat} {kd fg cs : Nat → Nat} {L G d t : Nat} (h : ∀ D, dayf k kd fg cs (run k kd fg cs L G d t) G D = run k kd fg cs L G d t) : ∀ n, run k kd fg cs L G d (t + n) = run k kd fg cs L G d t
  | 0 => rfl
  | n + 1 => by
    show dayf k kd fg cs (run k kd fg cs L G d (t + n)) G (d + (t + n) + 1) = _
    rw [run_still h n]
    exact h _
/-- ten DAYS without a change: none comes any more -/
theorem run_quiet {k : Nat} {kd fg cs : Nat → Nat} {L G d t : Nat} (hf : ∀ i, i < k → fg i < 10) (ht : 10 ≤ t) (h : ∀ s, t - 10 ≤ s → s < t → run k kd fg cs L G d (s + 1) = run k kd fg cs L G d s) (n : Nat) : run k kd fg cs L G d (t + n) = run k kd fg cs L G d t := by
  have hc : ∀ r, r ≤ 10 → run k kd fg cs L G d (t - 10 + r) = run k kd fg cs L G d (t - 10) := by
    intro r
    induction r with
    | zero => intro _; rfl
    | succ r ih =>
      intro hr
      rw [← ih (by omega)]
      exact h (t - 10 + r) (by omega) (by omega)
  have hX : run k kd fg cs L G d t = run k kd fg cs L G d (t - 10) := by
    have := hc 10 (by omega)
    rwa [show t - 10 + 10 = t by omega] at this
  refine run_still (quiet (D := d + (t - 10) + 1) hf ?_) n
  intro r hr
  have h1 : dayf k kd fg cs (run k kd fg cs L G d (t - 10 + r)) G (d + (t - 10 + r) + 1) = run k kd fg cs L G d (t - 10 + (r + 1)) := rfl
  rw [hc r (by omega), hc (r + 1) (by omega)] at h1
  rw [hX]
  rw [show d + (t - 10) + 1 + r = d + (t - 10 + r) + 1 by omega]
  exact h1
section DAYS
variable {k : Nat} {ka fa ca : Nat → Int32} {kd fg cs : Nat → Nat}
theorem AR.fgs (hA : AR k ka fa ca kd fg cs) : ∀ i, i < k → fg i < 10 := fun i hi => (hA.2 i hi).2.1.2
theorem e_bdsL (hA : AR k ka fa ca kd fg cs) {L G d N : Nat} (hd : d + N < 2 ^ 30) (p1 : Int32) : ∀ (j t q m : Nat), t + j = N → j < m → q ≤ 10 → q ≤ t → (∀ s, t - q ≤ s → s < t → run k kd fg cs L G d (s + 1) = run k kd fg cs L G d s) → (hL : L < 2 ^ k) →
    f_X7_behindDays_9 FU ka fa ca (nI k) p1 (nI G) (nI d) (nI N) m (nI (run k kd fg cs L G d t)) (nI q) (nI (t + 1)) = some (nI (run k kd fg cs L G d N)) := by
  have hk := hA.1
  intro j
  induction j with
  | zero =>
    intro t q m ht hm _ _ _ _
    obtain ⟨m, rfl⟩ : ∃ z, m = z + 1 := ⟨m - 1, by omega⟩
    have : t = N := by omega
    subst this
    rw [f_X7_behindDays_9, if_pos (nI_lt (by omega) (by omega))]
  | succ j ih =>
    intro t q m ht hm hq hqt hs hL
    obtain ⟨m, rfl⟩ : ∃ z, m = z + 1 := ⟨m - 1, by omega⟩
    rw [f_X7_behindDays_9, if_neg (nI_nlt (by omega) (by omega))]
    by_cases h10 : q = 10
    · subst h10
      rw [if_pos (show (10 : Int32) ≤ nI 10 from Int32.le_refl _)]
      have := run_quiet hA.fgs hqt hs (N - t)
      rw [show t + (N - t) = N by omega] at this
      rw [this]
    · rw [if_neg (show ¬ (10 : Int32) ≤ nI q from nI_ge (b := 10) (by omega) (by omega)), nI_add, e_bd hA (by omega), ob]
      have e : dayf k kd fg cs (run k kd fg cs L G d t) G (d + (t + 1)) = run k kd fg cs L G d (t + 1) := rfl
      rw [e]
      have h1 := p9 hk (run_lt (kd := kd) (fg := fg) (cs := cs) (G := G) (d := d) hL t)
      have h2 := p9 hk (run_lt (kd := kd) (fg := fg) (cs := cs) (G := G) (d := d) hL (t + 1))
      by_cases hx : run k kd fg cs L G d (t + 1) = run k kd fg cs L G d t
      · rw [if_pos (by rw [hx]), f_X7_behindDays_51, show nI q + 1 = nI (q + 1) from nI_1 _, show nI (t + 1) + 1 = nI (t + 1 + 1) from nI_1 _]
        refine ih (t + 1) (q + 1) m (by omega) (by omega) (by omega) (by omega) ?_ hL
        intro s h3 h4
        by_cases h5 : s = t
        · subst h5; exact hx
        · exact hs s (by omega) (by omega)
      · rw [if_neg (by rw [nI_eq (by omega) (by omega)]; exact hx), f_X7_behindDays_51, show nI (t + 1) + 1 = nI (t + 1 + 1) from nI_1 _]
        exact ih (t + 1) 0 m (by omega) (by omega) (by omega) (by omega) (fun s h3 h4 => absurd h4 (by omega)) hL
theorem e_bds (hA : AR k ka fa ca kd fg cs) {L G d N : Nat} (hL : L < 2 ^ k) (hd : d < 2 ^ 29) (hN : N < 999) : f_X7_behindDays FU ka fa ca (nI k) (nI L) (nI G) (nI d) (nI N) = some (nI (run k kd fg cs L G d N)) :=
  e_bdsL hA (by omega) (nI L) N 0 0 FU (by omega) (by unfold FU; omega) (by omega) (by omega) (fun s h1 h2 => absurd h2 (by omega)) hL
theorem e_mhas {n i : Nat} (hn : n < 2 ^ 31) (hi : i < 32) : f_X10_has (nI n) (nI i) = some (if n.testBit i = true then 1 else 0) := by
  unfold f_X10_has
  rw [nI_bit hn hi]
  cases n.testBit i <;> rfl
theorem e_mhasT {n i : Nat} (hn : n < 2 ^ 31) (hi : i < 32) (h : n.testBit i = true) : f_X10_has (nI n) (nI i) = some 1 := by rw [e_mhas hn hi, h]; rfl
theorem e_mhasF {n i : Nat} (hn : n < 2 ^ 31) (hi : i < 32) (h : n.testBit i = false) : f_X10_has (nI n) (nI i) = some 0 := by rw [e_mhas hn hi, h]; rfl
theorem e_needs (hA : AR k ka fa ca kd fg cs) {i d : Nat} (hi : i < k) (hd : d < 2 ^ 31) : f_X10_needs FU ka fa ca (nI d) (nI i) = some (nI (if cs i = 0 then 1000 else ndn (kd i) (fg i) (pcn (cs i)) d)) := by
  have hk := hA.1
  have hk6 : kd i < 6 := (hA.2 i hi).1.2
  have hf : fg i < 10 := (hA.2 i hi).2.1.2
  have hc9 := hA.cs9 hi
  have hp := pcn_le (cs i)
  have hin : vp_in (nI i) 9 := vp_in_nI (by omega) (by omega)
  unfold f_X10_needs
  rw [xa_in hin, nI_clamp (by omega), (hA.2 i hi).2.2.1, e_bits _ hc9, ob]
  by_cases h0 : cs i = 0
  · rw [if_pos h0, h0]; rfl
  · have hp0 : ¬ pcn (cs i) = 0 := fun z => h0 ((pcn_0 _ hc9).mp z)
    rw [if_neg h0, if_neg (by rw [show (0 : Int32) = nI 0 from rfl, nI_eq (by omega) (by omega)]; exact hp0), xa_in hin, (hA.2 i hi).1.1, xa_in hin, (hA.2 i hi).2.1.1, show nI (fg i) + 1 = nI (fg i + 1) from nI_1 _, pk_rem hd (by omega) (by omega)]
    unfold xd
    rw [if_neg (nI_ne0 (n := fg i + 1) (by omega) (by omega))]
    generalize pcn (cs i) = c at hp hp0
    unfold ndn
    have h6 : kd i = 0 ∨ kd i = 1 ∨ kd i = 2 ∨ kd i = 3 ∨ kd i = 4 ∨ kd i = 5 := by omega
    rcases h6 with h | h | h | h | h | h <;> rw [h]
    · rfl
    · rfl
    · have e : (nI c ≤ 1) ↔ c ≤ 1 := by rw [show (1 : Int32) = nI 1 from rfl, nI_leI (by omega) (by omega)]
      by_cases h1 : c ≤ 1
      · simp only [h1, if_true, e.mpr h1]; rfl
      · have h2 : ¬ nI c ≤ 1 := fun z => h1 (e.mp z)
        simp only [h1, if_false, h2]; rfl
    · rfl
    · have hm : d % (fg i + 1) < fg i + 1 := Nat.mod_lt _ (by omega)
      by_cases h1 : d % (fg i + 1) = 0
      · simp only [h1, if_true]; rfl
      · have h2 : ¬ nI (d % (fg i + 1)) = 0 := by rw [show (0 : Int32) = nI 0 from rfl, nI_eq (by omega) (by omega)]; exact h1
        simp only [h1, if_false, h2]; rfl
    · have e : nI c / 2 + 1 = nI (c / 2 + 1) := by
        rw [show (2 : Int32) = nI 2 from rfl, pk_div (by omega) (by omega) (by omega)]; exact nI_1 _
      show some (nI c / 2 + 1) = _
      rw [e]; rfl
theorem e_gdL (hA : AR k ka fa ca kd fg cs) {L G d : Nat} (hL : L < 512) (hG : G < 512) (hd : d < 2 ^ 31) : ∀ (j i n : Nat), i + j = k → j < n → f_X10_goesDay_14 FU ka fa ca (nI k) (nI G) n (nI (mr kd fg cs L G d i)) (nI i) (nI d) (nI L) = some (nI d, nI (dayf k kd fg cs L G d)) := by
  have hk := hA.1
  have hLG : L ||| G < 2 ^ 9 := or_lt hL hG
  intro j
  induction j with
  | zero =>
    intro i n hi hn
    obtain ⟨n, rfl⟩ : ∃ z, n = z + 1 := ⟨n - 1, by omega⟩
    have : i = k := by omega
    subst this
    rw [f_X10_goesDay_14, if_pos (Int32.le_refl _), nI_or]
    rfl
  | succ j ih =>
    intro i n hi hn
    obtain ⟨n, rfl⟩ : ∃ z, n = z + 1 := ⟨n - 1, by omega⟩
    have hik : i < k := by omega
    have hc9 := hA.cs9 hik
    have hand : cs i &&& L < 512 := Nat.lt_of_le_of_lt Nat.and_le_left hc9
    have hin : vp_in (nI i) 9 := vp_in_nI (by omega) (by omega)
    have nx := ih (i + 1) n (by omega) (by omega)
    rw [mr] at nx
    have e1 : nI i + 1 = nI (i + 1) := nI_1 i
    rw [f_X10_goesDay_14, if_neg (nI_ge hik (by omega)), nI_or, e_mhas (by omega) (by omega), ob]
    have no : ∀ (hz : ¬ ((L ||| G).testBit i = false ∧ flp kd fg cs i L d = true)), f_X10_goesDay_67 FU ka fa ca (nI k) (nI G) (f_X10_goesDay_14 FU ka fa ca (nI k) (nI G) n) (nI (mr kd fg cs L G d i)) (nI i) (nI d) (nI L) = some (nI d, nI (dayf k kd fg cs L G d)) := by
      intro hz
      rw [if_neg hz, Nat.or_zero] at nx
      rw [f_X10_goesDay_67, f_X10_goesDay_68, e1, show (0 : Int32) = nI 0 from rfl, nI_or, Nat.or_zero]
      exact nx
    by_cases h1 : (L ||| G).testBit i = false
    · rw [h1, if_pos (show (if false = true then (1 : Int32) else 0) = 0 from rfl), xa_in hin, nI_clamp (by omega), (hA.2 i hik).2.2.1, nI_and, e_bits _ hand, ob, e_needs hA hik hd, ob]
      have hp := pcn_le (cs i &&& L)
      by_cases h2 : flp kd fg cs i L d = true
      · have h3 := h2
        unfold flp at h3
        simp only [Bool.and_eq_true, decide_eq_true_eq, bne_iff_ne, ne_eq] at h3
        rw [if_neg h3.1, if_neg (nI_nlt h3.2 (by omega)), f_X10_goesDay_68, e1, nI_pow i (by omega), nI_or]
        rw [if_pos ⟨h1, h2⟩] at nx
        exact nx
      · have h3 : pcn (cs i &&& L) < (if cs i = 0 then 1000 else ndn (kd i) (fg i) (pcn (cs i)) d) := by
          split
          · omega
          · rename_i h0
            have : ¬ ndn (kd i) (fg i) (pcn (cs i)) d ≤ pcn (cs i &&& L) := fun z => h2 (by unfold flp; simp [h0, z])
            omega
        have h4 : (if cs i = 0 then 1000 else ndn (kd i) (fg i) (pcn (cs i)) d) < 2 ^ 31 := by
          have := pcn_le (cs i)
          unfold ndn
          repeat' split
          all_goals omega
        rw [if_pos (nI_lt h3 h4)]
        exact no (fun z => h2 z.2)
    · have h1' : (L ||| G).testBit i = true := by cases h : (L ||| G).testBit i <;> simp_all
      rw [h1', if_neg (show ¬ (if true = true then (1 : Int32) else 0) = 0 by decide)]
      exact no (fun z => h1 z.1)
theorem e_gd (hA : AR k ka fa ca kd fg cs) {L G d : Nat} (hL : L < 512) (hG : G < 512) (hd : d + 1 < 2 ^ 31) : f_X10_goesDay FU ka fa ca (nI k) (nI d) (nI L) (nI G) = some (nI (d + 1), nI (dayf k kd fg cs L G (d + 1))) := by
  have h := e_gdL hA hL hG (d := d + 1) (by omega) k 0 FU (by omega) (by have := hA.1; unfold FU; omega)
  unfold f_X10_goesDay
  rw [show nI d + 1 = nI (d + 1) from nI_1 _]
  exact h
theorem e_goesL (hA : AR k ka fa ca kd fg cs) {L G d N : Nat} (hL : L < 2 ^ k) (hG : G < 2 ^ k) (hd : d + N < 2 ^ 30) : ∀ (j i n : Nat), i + j = N → j < n → f_X10_goes_2 FU ka fa ca (nI k) (nI G) (nI N) n (nI i) (nI (d + i)) (nI (run k kd fg cs L G d i)) = some (nI (d + N), nI (run k kd fg cs L G d N)) := by
  have hk := hA.1
  intro j
  induction j with
  | zero =>
    intro i n hi hn
    obtain ⟨n, rfl⟩ : ∃ z, n = z + 1 := ⟨n - 1, by omega⟩
    have : i = N := by omega
    subst this
    rw [f_X10_goes_2, if_pos (Int32.le_refl _)]
  | succ j ih =>
    intro i n hi hn
    obtain ⟨n, rfl⟩ : ∃ z, n = z + 1 := ⟨n - 1, by omega⟩
    rw [f_X10_goes_2, if_neg (nI_ge (by omega) (by omega)), e_gd hA (p9 hk (run_lt hL i)) (p9 hk hG) (by omega), ob, show nI i + 1 = nI (i + 1) from nI_1 _]
    exact ih (i + 1) n (by omega) (by omega)
theorem e_goes (hA : AR k ka fa ca kd fg cs) {L G d N : Nat} (hL : L < 2 ^ k) (hG : G < 2 ^ k) (hd : d < 2 ^ 29) (hN : N < 999) : f_X10_goes FU ka fa ca (nI k) (nI d) (nI L) (nI G) (nI N) = some (nI (d + N), nI (run k kd fg cs L G d N)) :=
  e_goesL hA hL hG (by omega) N 0 FU (by omega) (by unfold FU; omega)
end DAYS
