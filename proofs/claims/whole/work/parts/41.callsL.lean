/-! CALLS, twelfth part: blame -/
def fac : Nat → Nat
  | 0 => 1
  | n + 1 => fac n * (n + 1)
theorem fac_pos : ∀ n, 0 < fac n
  | 0 => Nat.one_pos
  | n + 1 => by rw [fac]; exact Nat.mul_pos (fac_pos n) (by omega)
theorem fac_5 : ∀ n, n ≤ 5 → fac n ≤ 120 := by decide
/-- the place of the member number j of a set -/
def nthN (s : Nat) : Nat → Nat → Nat → Nat
  | 0, i, _ => i
  | n + 1, i, j => if s.testBit i = true then (if j = 0 then i else nthN s n (i + 1) (j - 1)) else nthN s n (i + 1) j
theorem e_nth : ∀ s, s < 512 → ∀ j, j < pcn s → f_X10_nth FU (nI s) (nI j) = some (nI (nthN s 9 0 j)) := by decide +kernel
theorem nth_list : ∀ s, s < 512 → (List.range (pcn s)).map (nthN s 9 0) = (List.range 9).filter s.testBit := by decide +kernel
theorem nth_in : ∀ s, s < 512 → ∀ j, j < pcn s → s.testBit (nthN s 9 0 j) = true := by decide +kernel
theorem pcn_del : ∀ s, s < 512 → ∀ i, i < 9 → s.testBit i = true → pcn (sdf s (2 ^ i)) + 1 = pcn s := by decide +kernel
theorem pcn_ins : ∀ i, i < 9 → ∀ s, s < 2 ^ i → pcn (s ||| 2 ^ i) = pcn s + 1 := by decide +kernel
theorem e_fac : ∀ n, n ≤ 5 → f_X6_ofThese FU (nI n) = some (lN (fac n)) := by decide +kernel
/-- the sum over the members of a set -/
def cl (g : Nat → Nat) (s : Nat) : Nat → Nat
  | 0 => 0
  | i + 1 => cl g s i + if s.testBit i = true then g i else 0
theorem cl_list (g : Nat → Nat) (s : Nat) : ∀ n, cl g s n = (((List.range n).filter s.testBit).map g).sum
  | 0 => rfl
  | n + 1 => by
    rw [cl, cl_list g s n, List.range_succ, List.filter_append, List.map_append, List.sum_append]
    by_cases h : s.testBit n = true
    · simp [h]
    · simp [h]
theorem cl_ext {g : Nat → Nat} {s k : Nat} (hs : s < 2 ^ k) : ∀ n, k ≤ n → cl g s n = cl g s k := by
  intro n
  induction n with
  | zero => intro h; rw [show k = 0 by omega]
  | succ n ih =>
    intro h
    by_cases hn : k = n + 1
    · rw [hn]
    · rw [cl, ih (by omega), if_neg, Nat.add_zero]
      rw [Nat.testBit_lt_two_pow (Nat.lt_of_lt_of_le hs (Nat.pow_le_pow_right (by omega) (by omega)))]
      decide
theorem sm_list (f : Nat → Nat) : ∀ n, sm f n = ((List.range n).map f).sum
  | 0 => rfl
  | n + 1 => by
    rw [sm, sm_list f n, List.range_succ, List.map_append, List.sum_append]
    simp
theorem sm_nth (g : Nat → Nat) {s k : Nat} (hk : k ≤ 9) (hs : s < 2 ^ k) : sm (fun j => g (nthN s 9 0 j)) (pcn s) = cl g s k := by
  rw [sm_list, ← cl_ext hs 9 hk, cl_list, ← nth_list s (p9 hk hs), List.map_map]
  rfl
theorem sm_congr {f g : Nat → Nat} : ∀ n, (∀ i, i < n → f i = g i) → sm f n = sm g n
  | 0, _ => rfl
  | n + 1, h => by rw [sm, sm, sm_congr n (fun i hi => h i (by omega)), h n (by omega)]
theorem sm_add (f : Nat → Nat) (a : Nat) : ∀ b, sm f (a + b) = sm f a + sm (fun j => f (a + j)) b
  | 0 => by simp [sm]
  | b + 1 => by
    show sm f (a + b) + f (a + b) = sm f a + (sm (fun j => f (a + j)) b + f (a + b))
    rw [sm_add f a b]; omega
theorem sm_mul (f : Nat → Nat) (b : Nat) : ∀ a, sm f (a * b) = sm (fun i => sm (fun j => f (i * b + j)) b) a
  | 0 => by simp [sm]
  | a + 1 => by rw [Nat.succ_mul, sm_add, sm_mul f b a]; rfl
theorem sm_zero {f : Nat → Nat} : ∀ n, (∀ i, i < n → f i = 0) → sm f n = 0
  | 0, _ => rfl
  | n + 1, h => by rw [sm, sm_zero n (fun i hi => h i (by omega)), h n (by omega)]
theorem sm_one {f : Nat → Nat} : ∀ n, (∀ i, i < n → f i = 1) → sm f n = n
  | 0, _ => rfl
  | n + 1, h => by rw [sm, sm_one n (fun i hi => h i (by omega)), h n (by omega)]
section CLB
variable {k : Nat} {ka fa ca : Nat → Int32} {kd fg cs : Nat → Nat} {L G d : Nat}
/-- behind which nail it is LOST first, by the order with the number c -/
def bl (k : Nat) (kd fg cs : Nat → Nat) (d th : Nat) : Nat → Nat → Nat → Nat → Nat → Option Nat
  | 0, _, _, _, _ => none
  | m + 1, S, X, e, c =>
    if (run k kd fg cs (X ||| 2 ^ nthN S 9 0 (c / fac m)) 0 (d + 10 * e) 10).testBit th = true then some (nthN S 9 0 (c / fac m))
    else bl k kd fg cs d th m (sdf S (2 ^ nthN S 9 0 (c / fac m))) (run k kd fg cs (X ||| 2 ^ nthN S 9 0 (c / fac m)) 0 (d + 10 * e) 10) (e + 1) (c % fac m)
theorem nthN_le (s : Nat) : ∀ n i j, nthN s n i j ≤ i + n
  | 0, i, j => Nat.le_refl i
  | n + 1, i, j => by
    rw [nthN]
    split
    · split
      · omega
      · have := nthN_le s n (i + 1) (j - 1); omega
    · have := nthN_le s n (i + 1) j; omega
theorem bl_le {k : Nat} {kd fg cs : Nat → Nat} {d th : Nat} : ∀ (m S X e c t : Nat), bl k kd fg cs d th m S X e c = some t → t ≤ 9
  | 0, _, _, _, _, _, h => by cases h
  | m + 1, S, X, e, c, t, h => by
    rw [bl] at h
    by_cases hb : (run k kd fg cs (X ||| 2 ^ nthN S 9 0 (c / fac m)) 0 (d + 10 * e) 10).testBit th = true
    · rw [if_pos hb] at h
      have h1 := nthN_le S 9 0 (c / fac m)
      have h2 := Option.some.inj h
      omega
    · rw [if_neg hb] at h
      exact bl_le m _ _ _ _ t h
/-- of how many orders it is the told one -/
def bn (k : Nat) (kd fg cs : Nat → Nat) (d th nl m S X e : Nat) : Nat := sm (fun c => if bl k kd fg cs d th m S X e c = some nl then 1 else 0) (fac m)
/-- that, by the one that is LOST next -/
def bg (k : Nat) (kd fg cs : Nat → Nat) (d th nl m S X e : Nat) : Nat → Nat := fun t =>
  if (run k kd fg cs (X ||| 2 ^ t) 0 (d + 10 * e) 10).testBit th = true then (if t = nl then fac m else 0)
  else bn k kd fg cs d th nl m (sdf S (2 ^ t)) (run k kd fg cs (X ||| 2 ^ t) 0 (d + 10 * e) 10) (e + 1)
theorem bn_le (k : Nat) (kd fg cs : Nat → Nat) (d th nl m S X e : Nat) : bn k kd fg cs d th nl m S X e ≤ fac m := by
  unfold bn
  have := sm_le (f := fun c => if bl k kd fg cs d th m S X e c = some nl then 1 else 0) (B := 1) (fun i => by split <;> omega) (fac m)
  omega
theorem bn_step (hk : k ≤ 9) {th nl m S X e : Nat} (hS : S < 2 ^ k) (hm : pcn S = m + 1) : bn k kd fg cs d th nl (m + 1) S X e = cl (bg k kd fg cs d th nl m S X e) S k := by
  rw [← sm_nth _ hk hS, hm]
  unfold bn
  rw [fac, Nat.mul_comm, sm_mul]
  refine sm_congr _ (fun i hi => ?_)
  have hf := fac_pos m
  unfold bg
  by_cases hb : (run k kd fg cs (X ||| 2 ^ nthN S 9 0 i) 0 (d + 10 * e) 10).testBit th = true
  · rw [if_pos hb]
    by_cases hn : nthN S 9 0 i = nl
    · rw [if_pos hn]
      refine sm_one _ (fun j hj => ?_)
      have hd : (i * fac m + j) / fac m = i := by
        rw [Nat.mul_comm, Nat.mul_add_div hf, Nat.div_eq_of_lt hj, Nat.add_zero]
      rw [bl, hd, if_pos hb, if_pos (by rw [hn])]
    · rw [if_neg hn]
      refine sm_zero _ (fun j hj => ?_)
      have hd : (i * fac m + j) / fac m = i := by
        rw [Nat.mul_comm, Nat.mul_add_div hf, Nat.div_eq_of_lt hj, Nat.add_zero]
      rw [bl, hd, if_pos hb, if_neg (fun z => hn (Option.some.inj z))]
  · rw [if_neg hb]
    unfold bn
    refine sm_congr _ (fun j hj => ?_)
    have hd : (i * fac m + j) / fac m = i := by
      rw [Nat.mul_comm, Nat.mul_add_div hf, Nat.div_eq_of_lt hj, Nat.add_zero]
    have hr : (i * fac m + j) % fac m = j := by
      rw [Nat.mul_comm, Nat.mul_add_mod, Nat.mod_eq_of_lt hj]
    rw [bl, hd, hr, if_neg hb]
theorem e_boL (hA : AR k ka fa ca kd fg cs) (hd : d ≤ 999) {th nl m S X e : Nat} (hth : th < k) (hnl : nl < k) (hS : S < 2 ^ k) (hm : pcn S = m + 1) (hX : X < 2 ^ k) (hme : m + 1 + e ≤ 5) (slf : Int32 → Int32 → Int32 → Int32 → Int32 → Option Int64)
    (hs : ∀ t, t < k → S.testBit t = true → ∀ X', X' < 2 ^ k → slf (nI nl) (nI th) (nI (sdf S (2 ^ t))) (nI X') (nI (e + 1)) = some (lN (bn k kd fg cs d th nl m (sdf S (2 ^ t)) X' (e + 1)))) : ∀ (j i n : Nat), i + j = k → j < n →
    f_X6_blamingOf_18 FU slf ka fa ca (nI k) (nI d) (nI nl) (nI th) (nI S) (nI X) (nI e) n (lN (cl (bg k kd fg cs d th nl m S X e) S i)) (nI i) = some (lN (cl (bg k kd fg cs d th nl m S X e) S k)) := by
  have hk := hA.1
  intro j
  induction j with
  | zero =>
    intro i n hi hn
    obtain ⟨n, rfl⟩ : ∃ z, n = z + 1 := ⟨n - 1, by omega⟩
    have : i = k := by omega
    subst this
    rw [f_X6_blamingOf_18, if_pos (Int32.le_refl _)]
  | succ j ih =>
    intro i n hi hn
    obtain ⟨n, rfl⟩ : ∃ z, n = z + 1 := ⟨n - 1, by omega⟩
    have nx := ih (i + 1) n (by omega) (by omega)
    rw [cl] at nx
    have hik : i < k := by omega
    rw [f_X6_blamingOf_18, if_neg (nI_ge (by omega) (by omega))]
    by_cases hb : S.testBit i = true
    · rw [if_pos hb] at nx
      have hX' : X ||| 2 ^ i < 2 ^ k := or_lt hX (pw_lt hik)
      have h10 : f_X7_behindDays FU ka fa ca (nI k) (nI (X ||| 2 ^ i)) 0 (nI (d + 10 * e)) 10 = some (nI (run k kd fg cs (X ||| 2 ^ i) 0 (d + 10 * e) 10)) := e_bds hA (G := 0) hX' (by omega) (N := 10) (by omega)
      have hr := run_lt (kd := kd) (fg := fg) (cs := cs) (G := 0) (d := d + 10 * e) hX' 10
      rw [if_neg (fun z => by rw [(nI_has0 (by omega)).mp z] at hb; cases hb), nI_pow i (by omega), nI_or, show (10 : Int32) * nI e = nI (10 * e) from by rw [show (10 : Int32) = nI 10 from rfl, pk_mul], nI_add, h10, ob]
      unfold bg at nx
      by_cases hc : (run k kd fg cs (X ||| 2 ^ i) 0 (d + 10 * e) 10).testBit th = true
      · rw [if_pos hc] at nx
        rw [if_neg (fun z => by rw [(nI_has0 (by omega)).mp z] at hc; cases hc)]
        by_cases hn1 : i = nl
        · rw [if_pos hn1] at nx
          rw [if_pos (by rw [hn1]), e_bc S (p9 hk hS), ob, hm, show nI (m + 1) - 1 = nI m from nI_pred m, e_fac m (by omega), ob, f_X6_blamingOf_123, lN_add, show nI i + 1 = nI (i + 1) from nI_1 _]
          exact nx
        · rw [if_neg hn1, Nat.add_zero] at nx
          rw [if_neg (by rw [nI_eq (by omega) (by omega)]; exact hn1), f_X6_blamingOf_123, show nI i + 1 = nI (i + 1) from nI_1 _]
          exact nx
      · rw [if_neg hc] at nx
        rw [if_pos ((nI_has0 (by omega)).mpr (bfalse hc)), nI_sdf, show nI e + 1 = nI (e + 1) from nI_1 _, hs i hik hb _ hr, ob, f_X6_blamingOf_123, lN_add, show nI i + 1 = nI (i + 1) from nI_1 _]
        exact nx
    · rw [if_neg hb, Nat.add_zero] at nx
      rw [if_pos ((nI_has0 (by omega)).mpr (bfalse hb)), f_X6_blamingOf_123, show nI i + 1 = nI (i + 1) from nI_1 _]
      exact nx
theorem e_bo (hA : AR k ka fa ca kd fg cs) (hd : d ≤ 999) {th nl : Nat} (hth : th < k) (hnl : nl < k) : ∀ (m g S X e : Nat), m < g → S < 2 ^ k → pcn S = m → X < 2 ^ k → m + e ≤ 5 → f_X6_blamingOf FU ka fa ca (nI k) (nI d) g (nI nl) (nI th) (nI S) (nI X) (nI e) = some (lN (bn k kd fg cs d th nl m S X e)) := by
  have hk := hA.1
  intro m
  induction m with
  | zero =>
    intro g S X e hg hS hm _ _
    obtain ⟨g, rfl⟩ : ∃ z, g = z + 1 := ⟨g - 1, by omega⟩
    have : S = 0 := (pcn_0 S (p9 hk hS)).mp hm
    subst this
    rw [f_X6_blamingOf, if_pos (show nI 0 = 0 from rfl)]
    rfl
  | succ m ih =>
    intro g S X e hg hS hm hX he
    obtain ⟨g, rfl⟩ : ∃ z, g = z + 1 := ⟨g - 1, by omega⟩
    have hS9 := p9 hk hS
    have h0 : ¬ S = 0 := fun z => by rw [(pcn_0 S hS9).mpr z] at hm; omega
    rw [f_X6_blamingOf, if_neg (by rw [show (0 : Int32) = nI 0 from rfl, nI_eq (by omega) (by omega)]; exact h0), if_pos (show nI e < 5 from nI_lt (b := 5) (by omega) (by omega)), bn_step hk hS hm]
    refine e_boL hA hd hth hnl hS hm hX he _ (fun t ht hb X' hX' => ?_) k 0 FU (by omega) (by unfold FU; omega)
    have := pcn_del S hS9 t (by omega) hb
    exact ih g _ X' (e + 1) (by omega) (sdf_lt hS) (by omega) hX' (by omega)
/-- the first five NAILS -/
def fn (cs : Nat → Nat) : Nat → Nat
  | 0 => 0
  | i + 1 => if cs i = 0 ∧ pcn (fn cs i) < 5 then fn cs i ||| 2 ^ i else fn cs i
theorem fn_lt (cs : Nat → Nat) : ∀ i, fn cs i < 2 ^ i
  | 0 => Nat.one_pos
  | i + 1 => by
    have h := fn_lt cs i
    rw [fn]
    split
    · exact or_lt (lt_pw h (by omega)) (pw_lt (by omega))
    · exact lt_pw h (by omega)
theorem fn_5 (cs : Nat → Nat) : ∀ i, i ≤ 9 → pcn (fn cs i) ≤ 5
  | 0, _ => by rw [fn]; decide
  | i + 1, h => by
    have h1 := fn_5 cs i (by omega)
    rw [fn]
    split
    · rename_i h2
      have := pcn_ins i (by omega) _ (fn_lt cs i)
      omega
    · exact h1
theorem fn_stop {cs : Nat → Nat} {i : Nat} (h : 5 ≤ pcn (fn cs i)) : ∀ j, fn cs (i + j) = fn cs i
  | 0 => rfl
  | j + 1 => by
    show fn cs (i + j + 1) = _
    rw [fn, fn_stop h j, if_neg (fun z => by omega)]
theorem e_fncL (hA : AR k ka fa ca kd fg cs) : ∀ (j i n : Nat), i + j = k → j < n → f_X6_firstNails_9 FU ca (nI k) n (nI (nlf cs k)) (nI (fn cs i)) (nI i) = some (nI (fn cs k)) := by
  have hk := hA.1
  intro j
  induction j with
  | zero =>
    intro i n hi hn
    obtain ⟨n, rfl⟩ : ∃ z, n = z + 1 := ⟨n - 1, by omega⟩
    have : i = k := by omega
    subst this
    rw [f_X6_firstNails_9, if_pos (Int32.le_refl _)]
  | succ j ih =>
    intro i n hi hn
    obtain ⟨n, rfl⟩ : ∃ z, n = z + 1 := ⟨n - 1, by omega⟩
    have nx := ih (i + 1) n (by omega) (by omega)
    rw [fn] at nx
    have h9 : fn cs i < 512 := p9 (k := i) (by omega) (fn_lt cs i)
    have h5 := fn_5 cs i (by omega)
    rw [f_X6_firstNails_9, if_neg (nI_ge (by omega) (by omega)), e_bc _ h9, ob]
    by_cases hp : pcn (fn cs i) < 5
    · rw [if_neg (show ¬ (5 : Int32) ≤ nI (pcn (fn cs i)) from nI_ge (b := 5) hp (by omega)), nI_pow i (by omega), nI_and, and_pow, nI_or, show nI i + 1 = nI (i + 1) from nI_1 _]
      have hb : (nlf cs k).testBit i = decide (cs i = 0) := by rw [nlf_bit]; simp; omega
      by_cases h1 : cs i = 0
      · rw [hb, if_pos (by simp [h1])]
        rw [if_pos ⟨h1, hp⟩] at nx
        exact nx
      · rw [hb, if_neg (by simp [h1]), Nat.or_zero]
        rw [if_neg (fun z => h1 z.1)] at nx
        exact nx
    · rw [if_pos (show (5 : Int32) ≤ nI (pcn (fn cs i)) from nI_le (a := 5) (by omega) (by omega))]
      have := fn_stop (cs := cs) (i := i) (by omega) (k - i)
      rw [show i + (k - i) = k by omega] at this
      rw [this]
theorem e_fnc (hA : AR k ka fa ca kd fg cs) : f_X6_firstNails FU ca (nI k) = some (nI (fn cs k)) := by
  unfold f_X6_firstNails
  rw [e_nlc hA, ob]
  exact e_fncL hA k 0 FU (by omega) (by have := hA.1; unfold FU; omega)
theorem e_fnmL (hA : AR k ka fa ca kd fg cs) : ∀ (j i n : Nat), i + j = k → j < n → f_X10_firstNails_4 FU ca (nI k) n (nI (fn cs i)) (nI i) = some (nI (fn cs k)) := by
  have hk := hA.1
  intro j
  induction j with
  | zero =>
    intro i n hi hn
    obtain ⟨n, rfl⟩ : ∃ z, n = z + 1 := ⟨n - 1, by omega⟩
    have : i = k := by omega
    subst this
    rw [f_X10_firstNails_4, if_pos (Int32.le_refl _)]
  | succ j ih =>
    intro i n hi hn
    obtain ⟨n, rfl⟩ : ∃ z, n = z + 1 := ⟨n - 1, by omega⟩
    have nx := ih (i + 1) n (by omega) (by omega)
    rw [fn] at nx
    have h9 : fn cs i < 512 := p9 (k := i) (by omega) (fn_lt cs i)
    have hc9 := hA.cs9 (i := i) (by omega)
    have no : ¬ (cs i = 0 ∧ pcn (fn cs i) < 5) → f_X10_firstNails_36 FU ca (nI k) (f_X10_firstNails_4 FU ca (nI k) n) (nI (fn cs i)) (nI i) = some (nI (fn cs k)) := by
      intro z
      rw [if_neg z] at nx
      rw [f_X10_firstNails_36, f_X10_firstNails_37, show (0 : Int32) = nI 0 from rfl, nI_or, Nat.or_zero, show nI i + 1 = nI (i + 1) from nI_1 _]
      exact nx
    rw [f_X10_firstNails_4, if_neg (nI_ge (by omega) (by omega)), xa_in (vp_in_nI (by omega) (by omega)), nI_clamp (by omega), (hA.2 i (by omega)).2.2.1]
    by_cases h1 : cs i = 0
    · rw [if_pos (by rw [h1]; rfl), e_bits _ h9, ob]
      have h5 := fn_5 cs i (by omega)
      by_cases hp : pcn (fn cs i) < 5
      · rw [if_neg (show ¬ (5 : Int32) ≤ nI (pcn (fn cs i)) from nI_ge (b := 5) hp (by omega)), f_X10_firstNails_37, nI_pow i (by omega), nI_or, show nI i + 1 = nI (i + 1) from nI_1 _]
        rw [if_pos ⟨h1, hp⟩] at nx
        exact nx
      · rw [if_pos (show (5 : Int32) ≤ nI (pcn (fn cs i)) from nI_le (a := 5) (by omega) (by omega))]
        exact no (fun z => hp z.2)
    · rw [if_neg (by rw [show (0 : Int32) = nI 0 from rfl, nI_eq (by omega) (by omega)]; exact h1)]
      exact no (fun z => h1 z.1)
theorem e_fnm (hA : AR k ka fa ca kd fg cs) : f_X10_firstNails FU ca (nI k) = some (nI (fn cs k)) :=
  e_fnmL hA k 0 FU (by omega) (by have := hA.1; unfold FU; omega)
theorem e_bby (hA : AR k ka fa ca kd fg cs) (hd : d ≤ 999) {th : Nat} (hth : th < k) (p1 p2 p3 : Int32) : ∀ (m n S X e c : Nat), m < n → S < 2 ^ k → pcn S = m → X < 2 ^ k → m + e ≤ 5 → c < fac m → ∃ (d' X' : Int32), f_X10_blamedBy_19 FU ka fa ca (nI k) p1 p2 p3 (nI th) n (nI S) (nI c) (nI (fac m)) (nI (d + 10 * e)) (nI X) 0 = some (oI (bl k kd fg cs d th m S X e c), d', X', 0) := by
  have hk := hA.1
  intro m
  induction m with
  | zero =>
    intro n S X e c hn hS hm _ _ _
    obtain ⟨n, rfl⟩ : ∃ z, n = z + 1 := ⟨n - 1, by omega⟩
    have : S = 0 := (pcn_0 S (p9 hk hS)).mp hm
    subst this
    exact ⟨nI (d + 10 * e), nI X, by rw [f_X10_blamedBy_19, if_pos (show nI 0 = 0 from rfl)]; rfl⟩
  | succ m ih =>
    intro n S X e c hn hS hm hX he hc
    obtain ⟨n, rfl⟩ : ∃ z, n = z + 1 := ⟨n - 1, by omega⟩
    have hS9 := p9 hk hS
    have h0 : ¬ S = 0 := fun z => by rw [(pcn_0 S hS9).mpr z] at hm; omega
    have hf := fac_pos m
    have hf5 := fac_5 m (by omega)
    have hf6 := fac_5 (m + 1) (by omega)
    have hdv : nI (fac (m + 1)) / nI (m + 1) = nI (fac m) := by
      rw [pk_div (by omega) (by omega) (by omega), fac, Nat.mul_div_cancel _ (by omega)]
    have hx1 : ¬ nI (m + 1) = 0 := nI_ne0 (by omega) (by omega)
    have hx2 : ¬ nI (fac m) = 0 := nI_ne0 hf (by omega)
    have hcq : c / fac m < pcn S := by
      rw [hm]; exact (Nat.div_lt_iff_lt_mul hf).mpr (by rw [fac] at hc; rw [Nat.mul_comm]; exact hc)
    have hti := nth_in S hS9 _ hcq
    have htk : nthN S 9 0 (c / fac m) < k := by
      by_cases z : nthN S 9 0 (c / fac m) < k
      · exact z
      · rw [Nat.testBit_lt_two_pow (Nat.lt_of_lt_of_le hS (Nat.pow_le_pow_right (by omega) (by omega)))] at hti
        cases hti
    rw [f_X10_blamedBy_19, if_neg (by rw [show (0 : Int32) = nI 0 from rfl, nI_eq (by omega) (by omega)]; exact h0), e_bits _ hS9, ob, hm, hdv]
    unfold xd
    rw [if_neg hx1, if_neg hx2, pk_div (a := c) (by omega) hf (by omega), e_nth S hS9 _ hcq, ob, if_neg hx2]
    generalize ht : nthN S 9 0 (c / fac m) = t at hti htk
    have hX' : X ||| 2 ^ t < 2 ^ k := or_lt hX (pw_lt htk)
    have h10 : f_X10_goes FU ka fa ca (nI k) (nI (d + 10 * e)) (nI (X ||| 2 ^ t)) 0 10 = some (nI (d + 10 * e + 10), nI (run k kd fg cs (X ||| 2 ^ t) 0 (d + 10 * e) 10)) := e_goes hA (G := 0) hX' (Nat.two_pow_pos k) (by omega) (N := 10) (by omega)
    have hr := run_lt (kd := kd) (fg := fg) (cs := cs) (G := 0) (d := d + 10 * e) hX' 10
    have hr9 := p9 hk hr
    rw [nI_pow t (by omega), nI_or, h10, ob]
    dsimp only
    by_cases hb : (run k kd fg cs (X ||| 2 ^ t) 0 (d + 10 * e) 10).testBit th = true
    · refine ⟨nI (d + 10 * e + 10), nI (run k kd fg cs (X ||| 2 ^ t) 0 (d + 10 * e) 10), ?_⟩
      rw [e_mhasT (by omega) (by omega) hb, ob, if_neg n10, bl, ht, if_pos hb]
      rfl
    · have hp := pcn_del S hS9 t (by omega) hti
      obtain ⟨d', X', h1⟩ := ih n (sdf S (2 ^ t)) (run k kd fg cs (X ||| 2 ^ t) 0 (d + 10 * e) 10) (e + 1) (c % fac m) (by omega) (sdf_lt hS) (by omega) hr (by omega) (Nat.mod_lt _ hf)
      refine ⟨d', X', ?_⟩
      rw [e_mhasF (by omega) (by omega) (bfalse hb), ob, if_pos rfl, nI_sdf, ← pk_div (a := c) (by omega) hf (by omega), pk_rem (by omega) hf (by omega), bl, ht, if_neg hb, show d + 10 * e + 10 = d + 10 * (e + 1) by omega]
      exact h1
theorem e_bmL (hA : AR k ka fa ca kd fg cs) (hL : L < 2 ^ k) (hG : G < 2 ^ k) (hd : d ≤ 999) {th nl m S : Nat} (hth : th < k) (hnl : nl < k) (hS : S < 2 ^ k) (hm : pcn S = m) (hm5 : m ≤ 5) (p3 : Int32) (rf : Nat → Int32) (r : Int64) (hr : f_X10_partOf FU (lN (bn k kd fg cs d th nl m S 0 0)) (lN (fac m)) p3 = some r) : ∀ (j c n : Nat) (kp : Nat → Int32) (ik cu : Int32), c + j = fac m → j < n → ∃ (kp' : Nat → Int32) (ik' cu' : Int32), f_X10_blame_106 FU (nI nl) (nI th) p3 n (nI S) (nI (fac m)) (lN (sm (fun c => if bl k kd fg cs d th m S 0 0 c = some nl then 1 else 0) c)) (nI c) rf ka fa ca (nI k) (nI d) (nI L) (nI G) kp ik cu = some (r, rf, ka, fa, ca, nI k, nI d, nI L, nI G, kp', ik', cu') ∧ ∀ q, q < 62 → kp' q = kp q := by
  have hk := hA.1
  have hf5 := fac_5 m hm5
  intro j
  induction j with
  | zero =>
    intro c n kp ik cu hc hn
    obtain ⟨n, rfl⟩ : ∃ z, n = z + 1 := ⟨n - 1, by omega⟩
    have : c = fac m := by omega
    subst this
    refine ⟨kp, ik, cu, ?_, fun _ _ => rfl⟩
    unfold bn at hr
    rw [f_X10_blame_106, if_pos (Int32.le_refl _), nI_l (by omega), hr, ob]
  | succ j ih =>
    intro c n kp ik cu hc hn
    obtain ⟨n, rfl⟩ : ∃ z, n = z + 1 := ⟨n - 1, by omega⟩
    obtain ⟨kp', ik', cu', h1, h2⟩ := ih (c + 1) n (SV kp ka fa ca k d L G) 0 (nI 93) (by omega) (by omega)
    refine ⟨kp', ik', cu', ?_, fun q hq => by rw [h2 q hq, SV_lo _ _ _ _ _ _ _ _ hq]⟩
    obtain ⟨d', X', hbb⟩ := e_bby hA hd hth (nI c) (nI (fac m)) (nI S) m FU S 0 0 c (by unfold FU; omega) hS hm (Nat.two_pow_pos k) (by omega) (by omega)
    have hbb' : f_X10_blamedBy FU ka fa ca (nI k) (nI d) (nI L) (nI G) (nI c) (nI (fac m)) (nI S) (nI th) = some (oI (bl k kd fg cs d th m S 0 0 c), d', X', 0) := hbb
    rw [f_X10_blame_106, if_neg (nI_ge (by omega) (by omega)), e_think, ob]
    dsimp only
    rw [hbb', ob]
    dsimp only
    have fin : ∀ (v : Nat), f_X10_blame_139 FU (nI nl) (nI th) p3 (f_X10_blame_106 FU (nI nl) (nI th) p3 n) (lN (sm (fun c => if bl k kd fg cs d th m S 0 0 c = some nl then 1 else 0) c)) (lN v) (nI S) (nI (fac m)) (nI c) rf ka fa ca (nI k) d' X' 0 (svd 62 kp ka fa ca (nI k) (nI d) (nI L) (nI G)) 1 (nI 93) = f_X10_blame_106 FU (nI nl) (nI th) p3 n (nI S) (nI (fac m)) (lN (sm (fun c => if bl k kd fg cs d th m S 0 0 c = some nl then 1 else 0) c + v)) (nI (c + 1)) rf ka fa ca (nI k) (nI d) (nI L) (nI G) (SV kp ka fa ca k d L G) 0 (nI 93) := by
      intro v
      unfold f_X10_blame_139 SV
      rw [e_forget, ob, lN_add, show nI c + 1 = nI (c + 1) from nI_1 _]
    have hbl : ∀ t, bl k kd fg cs d th m S 0 0 c = some t → oI (some t) = nI t := fun _ _ => rfl
    rw [sm] at h1
    by_cases hq : bl k kd fg cs d th m S 0 0 c = some nl
    · rw [if_pos hq] at h1
      rw [if_pos (by rw [hq]; rfl), show (1 : Int64) = lN 1 from rfl, fin]
      exact h1
    · rw [if_neg hq] at h1
      have hne : ¬ oI (bl k kd fg cs d th m S 0 0 c) = nI nl := by
        cases hv : bl k kd fg cs d th m S 0 0 c with
        | none => exact fun z => absurd (show nI nl = -9 from z.symm) (fun z => by have := nI_pos (n := nl) (by omega); rw [z] at this; exact this (by decide))
        | some t =>
          have htb := bl_le _ _ _ _ _ _ hv
          exact fun z => hq (by rw [hv, (nI_eq (by omega) (by omega)).mp z])
      rw [if_neg hne, show (0 : Int64) = lN 0 from rfl, fin]
      exact h1
theorem e_b77 {S m : Nat} (hS : S < 512) (hm : pcn S = m) (hm5 : m ≤ 5) (p1 p2 p3 : Int32) (rf ka fa ca kp : Nat → Int32) (s0 s1 s2 s3 ik cu : Int32) : ∀ (j q n : Nat), q + j = m + 1 → 2 ≤ q → j < n → f_X10_blame_77 FU p1 p2 p3 n (nI S) (nI (fac (q - 1))) (nI q) rf ka fa ca s0 s1 s2 s3 kp ik cu = f_X10_blame_106 FU p1 p2 p3 FU (nI S) (nI (fac m)) 0 0 rf ka fa ca s0 s1 s2 s3 kp ik cu := by
  intro j
  induction j with
  | zero =>
    intro q n hq h2 hn
    obtain ⟨n, rfl⟩ : ∃ z, n = z + 1 := ⟨n - 1, by omega⟩
    have : q = m + 1 := by omega
    subst this
    rw [f_X10_blame_77, e_bits _ hS, ob, hm, if_pos (nI_lt (by omega) (by omega)), show m + 1 - 1 = m by omega]
  | succ j ih =>
    intro q n hq h2 hn
    obtain ⟨n, rfl⟩ : ∃ z, n = z + 1 := ⟨n - 1, by omega⟩
    have e : fac (q - 1) * q = fac (q + 1 - 1) := by
      obtain ⟨w, rfl⟩ : ∃ w, q = w + 1 := ⟨q - 1, by omega⟩
      rfl
    rw [f_X10_blame_77, e_bits _ hS, ob, hm, if_neg (nI_nlt (by omega) (by omega)), pk_mul, e, show nI q + 1 = nI (q + 1) from nI_1 _]
    exact ih (q + 1) n (by omega) (by omega) (by omega)
theorem t_blame (hA : AR k ka fa ca kd fg cs) (hL : L < 2 ^ k) (hG : G < 2 ^ k) (hd : d ≤ 999) (rf kp : Nat → Int32) (ik cu x y z : Int32) : QL rf ka fa ca kp k d L G (f_X9_blame FU ka fa ca (nI k) (nI d) rf x y z) (f_X10_blame FU rf ka fa ca (nI k) (nI d) (nI L) (nI G) kp ik cu x y z) := by
  have hk := hA.1
  unfold f_X9_blame f_X10_blame
  rcases pk_ix x (n := k) (by omega) with h | h | ⟨nl, hnl, rfl⟩
  · refine ⟨lgr (-1), rfu rf 1, kp, ik, cu, ?_, ?_, fun _ _ => rfl⟩
    · rw [e_has0 (Or.inl h), ob, if_pos rfl, f_X9_blame_22, e_rfl1, ob]
    · rw [e_isT0 (Or.inl h), ob, if_pos rfl, f_X10_blame_16, f_X10_blame_51, if_neg nm1, e_low1, ob]
  · refine ⟨lgr (-1), rfu rf 1, kp, ik, cu, ?_, ?_, fun _ _ => rfl⟩
    · rw [e_has0 (Or.inr h), ob, if_pos rfl, f_X9_blame_22, e_rfl1, ob]
    · rw [e_isT0 (Or.inr h), ob, if_pos rfl, f_X10_blame_16, f_X10_blame_51, if_neg nm1, e_low1, ob]
  rw [e_has hk hnl, ob, if_neg n10, e_isT hk hnl, ob, if_neg n10]
  rcases pk_ix y (n := k) (by omega) with h | h | ⟨th, hth, rfl⟩
  · refine ⟨lgr (-1), rfu rf 1, kp, ik, cu, ?_, ?_, fun _ _ => rfl⟩
    · rw [e_has0 (Or.inl h), ob, if_pos rfl, f_X9_blame_22, e_rfl1, ob]
    · rw [e_isT0 (Or.inl h), ob, if_pos rfl, f_X10_blame_16, f_X10_blame_51, if_neg nm1, e_low1, ob]
  · refine ⟨lgr (-1), rfu rf 1, kp, ik, cu, ?_, ?_, fun _ _ => rfl⟩
    · rw [e_has0 (Or.inr h), ob, if_pos rfl, f_X9_blame_22, e_rfl1, ob]
    · rw [e_isT0 (Or.inr h), ob, if_pos rfl, f_X10_blame_16, f_X10_blame_51, if_neg nm1, e_low1, ob]
  rw [e_has hk hth, ob, if_neg n10, e_isT hk hth, ob, if_neg n10, e_fnc hA, ob, e_fnm hA, ob]
  have hS : fn cs k < 2 ^ k := fn_lt cs k
  have hS9 := p9 hk hS
  by_cases hb : (fn cs k).testBit nl = true
  rotate_left
  · refine ⟨lgr (-3), rfu rf 3, kp, ik, cu, ?_, ?_, fun _ _ => rfl⟩
    · rw [if_pos ((nI_has0 (by omega)).mpr (bfalse hb)), e_rfl3, ob]
    · rw [e_mhasF (by omega) (by omega) (bfalse hb), ob, if_pos rfl, f_X10_blame_51, if_neg nm3, e_low3, ob]
  rw [if_neg (fun z => by rw [(nI_has0 (by omega)).mp z] at hb; cases hb), e_mhasT (by omega) (by omega) hb, ob, if_neg n10]
  have main : ∃ (r : Int64) (kp' : Nat → Int32) (ik' cu' : Int32), ((f_X6_blaming FU ka fa ca (nI k) (nI d) (nI nl) (nI th)).bind fun x_10 => ((f_J6_bitCount_0f7a4 (nI (fn cs k))).bind fun x_11 => ((f_X6_ofThese FU x_11).bind fun x_12 => ((f_X1_part FU x_10 x_12 z).bind fun x_13 => (some (x_13, rf)))))) = some (r, rf) ∧ f_X10_blame_51 FU (nI nl) (nI th) z 0 rf ka fa ca (nI k) (nI d) (nI L) (nI G) kp ik cu = some (r, rf, ka, fa, ca, nI k, nI d, nI L, nI G, kp', ik', cu') ∧ ∀ j, j < 62 → kp' j = kp j := by
    have hm5 := fn_5 cs k hk
    have hm1 : 1 ≤ pcn (fn cs k) := by
      by_cases h : pcn (fn cs k) = 0
      · rw [(pcn_0 _ hS9).mp h] at hb; rw [Nat.zero_testBit] at hb; cases hb
      · omega
    generalize hm : pcn (fn cs k) = m at hm5 hm1
    have hf := fac_pos m
    have hf5 := fac_5 m hm5
    have hbn := bn_le k kd fg cs d th nl m (fn cs k) 0 0
    obtain ⟨r, hr1, hr2⟩ := e_frac (a := bn k kd fg cs d th nl m (fn cs k) 0 0) (b := fac m) (by omega) (by omega) hf z
    obtain ⟨kp', ik', cu', m1, m2⟩ := e_bmL hA hL hG hd hth hnl hS hm hm5 z rf r hr2 (fac m) 0 FU kp ik cu (by omega) (by unfold FU; omega)
    have c1 : f_X6_blamingOf_top FU ka fa ca (nI k) (nI d) (nI nl) (nI th) (nI (fn cs k)) 0 0 = some (lN (bn k kd fg cs d th nl m (fn cs k) 0 0)) := e_bo hA hd hth hnl m 8 (fn cs k) 0 0 (by omega) hS hm (Nat.two_pow_pos k) (by omega)
    refine ⟨r, kp', ik', cu', ?_, ?_, m2⟩
    · unfold f_X6_blaming
      rw [e_fnc hA, ob, c1, ob, ob, e_bc _ hS9, ob, hm, e_fac m hm5, ob, hr1, ob]
    · rw [f_X10_blame_51, if_pos rfl, e_fnm hA, ob]
      have e := e_b77 hS9 hm hm5 (nI nl) (nI th) z rf ka fa ca kp (nI k) (nI d) (nI L) (nI G) ik cu (m - 1) 2 FU (by omega) (by omega) (by unfold FU; omega)
      exact (show f_X10_blame_77 FU (nI nl) (nI th) z FU (nI (fn cs k)) 1 2 rf ka fa ca (nI k) (nI d) (nI L) (nI G) kp ik cu = _ from e).trans m1
  obtain ⟨r, kp', ik', cu', m1, m2, m3⟩ := main
  rcases e_prt z with ⟨rfl, p1, p2⟩ | ⟨rfl, p1, p2⟩ | ⟨p3, p4, p1, p2⟩
  · refine ⟨r, rf, kp', ik', cu', ?_, ?_, m3⟩
    · rw [p1, ob, if_neg n10]; exact m1
    · rw [p2, ob, if_neg n10]; exact m2
  · refine ⟨r, rf, kp', ik', cu', ?_, ?_, m3⟩
    · rw [p1, ob, if_neg n10]; exact m1
    · rw [p2, ob, if_neg n10]; exact m2
  · refine ⟨lgr (-2), rfu rf 2, kp, ik, cu, ?_, ?_, fun _ _ => rfl⟩
    · rw [p1, ob, if_pos rfl, e_rfl2, ob]
    · rw [p2, ob, if_pos rfl, f_X10_blame_51, if_neg nm2, e_low2, ob]
end CLB
