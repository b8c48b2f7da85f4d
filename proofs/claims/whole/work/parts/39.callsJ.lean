/-! CALLS, tenth part: lots -/
def dz (z : Int32) : Int32 := z * 1664525 + 1013904223
def dv (z : Int32) : Int32 := ((dz z &&& 2147483647) / 256) - ((dz z &&& 2147483647) / 256) / 3 * 3
theorem e_dcw (z : Int32) : f_X3_drawBelow z 3 = some (dv z, dz z) := by
  unfold f_X3_drawBelow xd
  rw [if_neg (by decide), if_neg (by decide)]
  rfl
theorem e_dmw (z : Int32) : f_X10_draw z 3 = some (dv z, dz z) := by
  unfold f_X10_draw xd
  rw [if_neg (by decide)]
  rfl
/-- the seed ahead of the draw for place i -/
def zr (cs : Nat → Nat) (z : Int32) : Nat → Int32
  | 0 => z
  | i + 1 => if cs i = 0 then dz (zr cs z i) else zr cs z i
def xcl (cs : Nat → Nat) (z : Int32) (X : Nat) : Nat → Nat
  | 0 => X
  | i + 1 => if cs i = 0 then (if dv (zr cs z i) = 0 then xcl cs z X i ||| 2 ^ i else xcl cs z X i) else xcl cs z X i
def ymd (cs : Nat → Nat) (z : Int32) (L : Nat) : Nat → Nat
  | 0 => L
  | i + 1 => if cs i = 0 then (if dv (zr cs z i) = 0 then ymd cs z L i ||| 2 ^ i else sdf (ymd cs z L i) (2 ^ i)) else ymd cs z L i
theorem xcl_bit (cs : Nat → Nat) (z : Int32) (X : Nat) : ∀ i j, (xcl cs z X i).testBit j = (X.testBit j || decide (j < i ∧ cs j = 0 ∧ dv (zr cs z j) = 0)) := by
  intro i
  induction i with
  | zero => intro j; simp [xcl]
  | succ i ih =>
    intro j
    rw [xcl]
    by_cases h : j = i
    · subst h
      by_cases h1 : cs j = 0
      · rw [if_pos h1]
        by_cases h2 : dv (zr cs z j) = 0
        · rw [if_pos h2, Nat.testBit_or, Nat.testBit_two_pow]; simp [h1, h2]
        · rw [if_neg h2, ih j]; simp [h2]
      · rw [if_neg h1, ih j]; simp [h1]
    · have e : ∀ y, (y ||| 2 ^ i).testBit j = y.testBit j := by
        intro y; rw [Nat.testBit_or, Nat.testBit_two_pow]; simp [show ¬ i = j from fun z => h z.symm]
      have hj : (j < i + 1) ↔ (j < i) := by omega
      have key : (if cs i = 0 then (if dv (zr cs z i) = 0 then xcl cs z X i ||| 2 ^ i else xcl cs z X i) else xcl cs z X i).testBit j = (xcl cs z X i).testBit j := by
        by_cases h1 : cs i = 0
        · rw [if_pos h1]
          by_cases h2 : dv (zr cs z i) = 0
          · rw [if_pos h2, e]
          · rw [if_neg h2]
        · rw [if_neg h1]
      rw [key, ih j]
      simp [hj]
theorem ymd_bit (cs : Nat → Nat) (z : Int32) (L : Nat) : ∀ i j, (ymd cs z L i).testBit j = if j < i ∧ cs j = 0 then decide (dv (zr cs z j) = 0) else L.testBit j := by
  intro i
  induction i with
  | zero => intro j; simp [ymd]
  | succ i ih =>
    intro j
    rw [ymd]
    by_cases h : j = i
    · subst h
      by_cases h1 : cs j = 0
      · rw [if_pos h1]
        by_cases h2 : dv (zr cs z j) = 0
        · rw [if_pos h2, Nat.testBit_or, Nat.testBit_two_pow]; simp [h1, h2]
        · rw [if_neg h2, sdf_bit, Nat.testBit_two_pow]; simp [h1, h2]
      · rw [if_neg h1, ih j]; simp [h1]
    · have e : ∀ y, (y ||| 2 ^ i).testBit j = y.testBit j := by
        intro y; rw [Nat.testBit_or, Nat.testBit_two_pow]; simp [show ¬ i = j from fun z => h z.symm]
      have e2 : ∀ y, (sdf y (2 ^ i)).testBit j = y.testBit j := by
        intro y; rw [sdf_bit, Nat.testBit_two_pow]; simp [show ¬ i = j from fun z => h z.symm]
      have hj : (j < i + 1) ↔ (j < i) := by omega
      have key : (if cs i = 0 then (if dv (zr cs z i) = 0 then ymd cs z L i ||| 2 ^ i else sdf (ymd cs z L i) (2 ^ i)) else ymd cs z L i).testBit j = (ymd cs z L i).testBit j := by
        by_cases h1 : cs i = 0
        · rw [if_pos h1]
          by_cases h2 : dv (zr cs z i) = 0
          · rw [if_pos h2, e]
          · rw [if_neg h2, e2]
        · rw [if_neg h1]
      rw [key, ih j]
      simp [hj]
theorem xy_eq (cs : Nat → Nat) (z : Int32) (L k : Nat) : xcl cs z (sdf L (nlf cs k)) k = ymd cs z L k := Nat.eq_of_testBit_eq fun j => by
  rw [xcl_bit, ymd_bit, sdf_bit, nlf_bit]
  by_cases h : j < k ∧ cs j = 0
  · rw [if_pos h]
    simp [h.1, h.2]
  · rw [if_neg h]
    have : ¬ (j < k ∧ cs j = 0 ∧ dv (zr cs z j) = 0) := fun q => h ⟨q.1, q.2.1⟩
    rw [decide_eq_false h, decide_eq_false this]
    simp
theorem ymd_lt {cs : Nat → Nat} {z : Int32} {L k : Nat} (hL : L < 2 ^ k) : ∀ i, i ≤ k → ymd cs z L i < 2 ^ k
  | 0, _ => hL
  | i + 1, h => by
    have ih := ymd_lt (cs := cs) (z := z) hL i (by omega)
    rw [ymd]
    split
    · split
      · exact or_lt ih (pw_lt (by omega))
      · exact sdf_lt ih
    · exact ih
def wsum (g : Int32 → Nat × Int32) : Nat → Nat → Int32 → Nat × Int32
  | 0, s, z => (s, z)
  | j + 1, s, z => wsum g j (s + (g z).1) (g z).2
section CJ
variable {k : Nat} {ka fa ca : Nat → Int32} {kd fg cs : Nat → Nat} {L G d : Nat}
def wg (k : Nat) (kd fg cs : Nat → Nat) (L G d C : Nat) : Int32 → Nat × Int32 := fun z => (pcn (run k kd fg cs (ymd cs z L k) G d 15 &&& C), zr cs z k)
theorem e_dnL (hA : AR k ka fa ca kd fg cs) (z : Int32) (lo : Int32) (X : Nat) : ∀ (j i n : Nat), i + j = k → j < n → f_X3_drawNails_17 FU ca (nI k) lo n (nI (nlf cs k)) (nI (xcl cs z X i)) (nI i) (zr cs z i) = some (nI (xcl cs z X k), zr cs z k) := by
  have hk := hA.1
  intro j
  induction j with
  | zero =>
    intro i n hi hn
    obtain ⟨n, rfl⟩ : ∃ z, n = z + 1 := ⟨n - 1, by omega⟩
    have : i = k := by omega
    subst this
    rw [f_X3_drawNails_17, if_pos (Int32.le_refl _)]
  | succ j ih =>
    intro i n hi hn
    obtain ⟨n, rfl⟩ : ∃ z, n = z + 1 := ⟨n - 1, by omega⟩
    have nx := ih (i + 1) n (by omega) (by omega)
    rw [xcl, zr] at nx
    rw [f_X3_drawNails_17, if_neg (nI_ge (by omega) (by omega))]
    have hb : (nlf cs k).testBit i = decide (cs i = 0) := by rw [nlf_bit]; simp; omega
    by_cases h1 : cs i = 0
    · rw [if_neg (fun q => by rw [(nI_has0 (by omega)).mp q] at hb; simp [h1] at hb), e_dcw, ob]
      rw [if_pos h1, if_pos h1] at nx
      dsimp only
      by_cases h2 : dv (zr cs z i) = 0
      · rw [if_pos h2, f_X3_drawNails_50, nI_pow i (by omega), nI_or, show nI i + 1 = nI (i + 1) from nI_1 _]
        rw [if_pos h2] at nx
        exact nx
      · rw [if_neg h2, f_X3_drawNails_50, show nI i + 1 = nI (i + 1) from nI_1 _]
        rw [if_neg h2] at nx
        exact nx
    · rw [if_pos ((nI_has0 (by omega)).mpr (by rw [hb]; simp [h1])), f_X3_drawNails_50, show nI i + 1 = nI (i + 1) from nI_1 _]
      rw [if_neg h1, if_neg h1] at nx
      exact nx
theorem e_dn (hA : AR k ka fa ca kd fg cs) (z : Int32) (L : Nat) : f_X3_drawNails FU z ca (nI k) (nI L) = some (nI (ymd cs z L k), zr cs z k) := by
  unfold f_X3_drawNails
  rw [e_nlc hA, ob, nI_sdf, ← xy_eq]
  exact e_dnL hA z (nI L) (sdf L (nlf cs k)) k 0 FU (by omega) (by have := hA.1; unfold FU; omega)
theorem e_liwL (hA : AR k ka fa ca kd fg cs) (hL : L < 2 ^ k) (hd : d ≤ 999) {N C : Nat} (hN : N ≤ 20) (p3 : Int32) : ∀ (j i n s : Nat) (z : Int32), i + j = N → j < n → f_X3_lostInWars_11 FU ka fa ca (nI k) (nI L) (nI G) (nI d) (nI N) p3 (nI C) n (nI s) (nI i) z = some (nI (wsum (wg k kd fg cs L G d C) j s z).1, (wsum (wg k kd fg cs L G d C) j s z).2) := by
  have hk := hA.1
  intro j
  induction j with
  | zero =>
    intro i n s z hi hn
    obtain ⟨n, rfl⟩ : ∃ z, n = z + 1 := ⟨n - 1, by omega⟩
    have : i = N := by omega
    subst this
    rw [f_X3_lostInWars_11, if_pos (Int32.le_refl _)]
    rfl
  | succ j ih =>
    intro i n s z hi hn
    obtain ⟨n, rfl⟩ : ∃ z, n = z + 1 := ⟨n - 1, by omega⟩
    have hy : ymd cs z L k < 2 ^ k := ymd_lt hL k (Nat.le_refl k)
    have hr := p9 hk (run_lt (kd := kd) (fg := fg) (cs := cs) (G := G) (d := d) hy 15)
    have h15 : f_X4_lostBehind FU ka fa ca (nI k) (nI G) (nI d) (nI (ymd cs z L k)) 15 = some (nI (run k kd fg cs (ymd cs z L k) G d 15)) := e_lb hA hy (by omega) (N := 15) (by omega)
    rw [f_X3_lostInWars_11, if_neg (nI_ge (by omega) (by omega)), e_dn hA, ob, h15, ob, nI_and, e_bc _ (Nat.lt_of_le_of_lt Nat.and_le_left hr), ob, nI_add, show nI i + 1 = nI (i + 1) from nI_1 _]
    rw [wsum]
    exact ih (i + 1) n _ _ (by omega) (by omega)
/-- one war in the model, from place t on -/
theorem e_lmI (hA : AR k ka fa ca kd fg cs) (hL : L < 2 ^ k) (hG : G < 2 ^ k) (hd : d ≤ 999) (hk0 : 0 < k) (p1 p2 p3 : Int32) (C : Nat) (hC : (p3 = 0 ∧ C = 2 ^ k - 1) ∨ (p3 = 1 ∧ C = 2 ^ (k - 1))) (rf kp : Nat → Int32) (z : Int32) (s i : Nat)
    (kr : Int32 → Int32 → (Nat → Int32) → (Nat → Int32) → (Nat → Int32) → (Nat → Int32) → Int32 → Int32 → Int32 → Int32 → (Nat → Int32) → Int32 → Int32 → Int32 → Option (Int32 × (Nat → Int32) × (Nat → Int32) × (Nat → Int32) × (Nat → Int32) × Int32 × Int32 × Int32 × Int32 × (Nat → Int32) × Int32 × Int32 × Int32)) : ∀ (j t n : Nat) (ik cu : Int32), t + j = k → j < n →
    f_X10_lots_79 FU p1 p2 p3 kr n (nI s) (nI i) (nI t) rf ka fa ca (nI k) (nI d) (nI (ymd cs z L t)) (nI G) (SV kp ka fa ca k d L G) ik cu (zr cs z t) = kr (nI (s + (wg k kd fg cs L G d C z).1)) (nI (i + 1)) rf ka fa ca (nI k) (nI d) (nI L) (nI G) (SV kp ka fa ca k d L G) 0 (nI 93) (wg k kd fg cs L G d C z).2 := by
  have hk := hA.1
  intro j
  induction j with
  | zero =>
    intro t n ik cu ht hn
    obtain ⟨n, rfl⟩ : ∃ z, n = z + 1 := ⟨n - 1, by omega⟩
    have : t = k := by omega
    subst this
    have hy : ymd cs z L t < 2 ^ t := ymd_lt hL t (Nat.le_refl t)
    have hrk := run_lt (kd := kd) (fg := fg) (cs := cs) (G := G) (d := d) hy 15
    have hr := p9 hk hrk
    have h15 : f_X10_goes FU ka fa ca (nI t) (nI d) (nI (ymd cs z L t)) (nI G) 15 = some (nI (d + 15), nI (run t kd fg cs (ymd cs z L t) G d 15)) := e_goes hA hy hG (by omega) (N := 15) (by omega)
    have fin : ∀ (v : Nat), f_X10_lots_174 FU p1 p2 p3 kr (nI s) (nI v) (nI i) rf ka fa ca (nI t) (nI (d + 15)) (nI (run t kd fg cs (ymd cs z L t) G d 15)) (nI G) (SV kp ka fa ca t d L G) ik cu (zr cs z t) = kr (nI (s + v)) (nI (i + 1)) rf ka fa ca (nI t) (nI d) (nI L) (nI G) (SV kp ka fa ca t d L G) 0 (nI 93) (zr cs z t) := by
      intro v
      unfold f_X10_lots_174 SV
      rw [e_forget, ob, nI_add, show nI i + 1 = nI (i + 1) from nI_1 _]
    rw [f_X10_lots_79, if_pos (Int32.le_refl _), h15, ob]
    dsimp only
    rcases hC with ⟨rfl, rfl⟩ | ⟨rfl, rfl⟩
    · rw [if_pos rfl, e_bits _ hr, ob, fin]
      have e : run t kd fg cs (ymd cs z L t) G d 15 &&& (2 ^ t - 1) = run t kd fg cs (ymd cs z L t) G d 15 := by
        rw [Nat.and_two_pow_sub_one_eq_mod, Nat.mod_eq_of_lt hrk]
      unfold wg
      rw [e]
    · rw [if_neg n10, show nI t - 1 = nI (t - 1) from by rw [show (1 : Int32) = nI 1 from rfl, pk_sub (by omega)], nI_bit (by omega) (by omega), fin]
      have e : pcn (run t kd fg cs (ymd cs z L t) G d 15 &&& 2 ^ (t - 1)) = if (run t kd fg cs (ymd cs z L t) G d 15).testBit (t - 1) = true then 1 else 0 := by
        rw [and_pow]
        by_cases hb : (run t kd fg cs (ymd cs z L t) G d 15).testBit (t - 1) = true
        · rw [if_pos hb, if_pos hb, pcn_p _ (by omega)]
        · rw [if_neg hb, if_neg hb]; rfl
      unfold wg
      rw [e]
  | succ j ih =>
    intro t n ik cu ht hn
    obtain ⟨n, rfl⟩ : ∃ z, n = z + 1 := ⟨n - 1, by omega⟩
    have nx := ih (t + 1) n ik cu (by omega) (by omega)
    rw [ymd, zr] at nx
    have hck : ca t = nI (cs t) := (hA.2 t (by omega)).2.2.1
    have hc9 := hA.cs9 (i := t) (by omega)
    rw [f_X10_lots_79, if_neg (nI_ge (by omega) (by omega)), xa_in (vp_in_nI (by omega) (by omega)), nI_clamp (by omega), hck]
    by_cases h1 : cs t = 0
    · rw [if_pos (by rw [h1]; rfl), e_dmw, ob]
      rw [if_pos h1, if_pos h1] at nx
      dsimp only
      by_cases h2 : dv (zr cs z t) = 0
      · rw [if_pos h2, f_X10_lots_130, f_X10_lots_133, nI_pow t (by omega), nI_or, show nI t + 1 = nI (t + 1) from nI_1 _]
        rw [if_pos h2] at nx
        exact nx
      · rw [if_neg h2, f_X10_lots_130, f_X10_lots_133, nI_pow t (by omega), nI_sdf, show nI t + 1 = nI (t + 1) from nI_1 _]
        rw [if_neg h2] at nx
        exact nx
    · rw [if_neg (by rw [show (0 : Int32) = nI 0 from rfl, nI_eq (by omega) (by omega)]; exact h1), f_X10_lots_133, show nI t + 1 = nI (t + 1) from nI_1 _]
      rw [if_neg h1, if_neg h1] at nx
      exact nx
theorem e_lmO (hA : AR k ka fa ca kd fg cs) (hL : L < 2 ^ k) (hG : G < 2 ^ k) (hd : d ≤ 999) (hk0 : 0 < k) {N : Nat} (hN : N ≤ 20) (p2 p3 : Int32) (C : Nat) (hC : (p3 = 0 ∧ C = 2 ^ k - 1) ∨ (p3 = 1 ∧ C = 2 ^ (k - 1))) (rf : Nat → Int32) : ∀ (j i n s : Nat) (z : Int32) (kp : Nat → Int32) (ik cu : Int32), i + j = N → j < n → ∃ (kp' : Nat → Int32) (ik' cu' : Int32), f_X10_lots_66 FU (nI N) p2 p3 n (nI s) (nI i) rf ka fa ca (nI k) (nI d) (nI L) (nI G) kp ik cu z = some (nI (wsum (wg k kd fg cs L G d C) j s z).1, rf, ka, fa, ca, nI k, nI d, nI L, nI G, kp', ik', cu', (wsum (wg k kd fg cs L G d C) j s z).2) ∧ ∀ q, q < 62 → kp' q = kp q := by
  have hk := hA.1
  intro j
  induction j with
  | zero =>
    intro i n s z kp ik cu hi hn
    obtain ⟨n, rfl⟩ : ∃ z, n = z + 1 := ⟨n - 1, by omega⟩
    have : i = N := by omega
    subst this
    exact ⟨kp, ik, cu, by rw [f_X10_lots_66, if_pos (Int32.le_refl _)]; rfl, fun _ _ => rfl⟩
  | succ j ih =>
    intro i n s z kp ik cu hi hn
    obtain ⟨n, rfl⟩ : ∃ z, n = z + 1 := ⟨n - 1, by omega⟩
    obtain ⟨kp', ik', cu', h1, h2⟩ := ih (i + 1) n (s + (wg k kd fg cs L G d C z).1) (wg k kd fg cs L G d C z).2 (SV kp ka fa ca k d L G) 0 (nI 93) (by omega) (by omega)
    refine ⟨kp', ik', cu', ?_, fun q hq => by rw [h2 q hq, SV_lo _ _ _ _ _ _ _ _ hq]⟩
    rw [f_X10_lots_66, if_neg (nI_ge (by omega) (by omega)), e_think, ob]
    have hI := e_lmI hA hL hG hd hk0 (nI N) p2 p3 C hC rf kp z s i (f_X10_lots_66 FU (nI N) p2 p3 n) k 0 FU 1 (nI 93) (by omega) (by unfold FU; omega)
    rw [wsum]
    exact hI.trans h1
theorem t_lots (hA : AR k ka fa ca kd fg cs) (hL : L < 2 ^ k) (hG : G < 2 ^ k) (hd : d ≤ 999) (rf kp : Nat → Int32) (lz lo ik cu x y w : Int32) : ∃ (r : Int32) (rf' kp' : Nat → Int32) (lz' lo' ik' cu' : Int32), f_X9_lots FU ka fa ca (nI k) (nI L) (nI G) (nI d) lz rf x y w = some (r, lz', rf') ∧ f_X10_lots FU rf ka fa ca (nI k) (nI d) (nI L) (nI G) kp ik cu lo x y w = some (r, rf', ka, fa, ca, nI k, nI d, nI L, nI G, kp', ik', cu', lo') ∧ ∀ j, j < 62 → kp' j = kp j := by
  have hk := hA.1
  unfold f_X9_lots f_X10_lots
  rcases e_b1_20 x with ⟨h1, h2⟩ | ⟨h1, h2⟩ | ⟨N, hN1, hN, rfl, h1, h2⟩
  · refine ⟨-4, rfu rf 4, kp, lz, lo, ik, cu, ?_, ?_, fun _ _ => rfl⟩
    · rw [h1, ob, if_neg nm4, e_ref4, ob]
    · rw [h2, ob, if_neg nm4, f_X10_lots_43, if_neg nm4, e_no4, ob]
  · refine ⟨-6, rfu rf 6, kp, lz, lo, ik, cu, ?_, ?_, fun _ _ => rfl⟩
    · rw [h1, ob, if_neg nm6, e_ref6, ob]
    · rw [h2, ob, if_neg nm6, f_X10_lots_43, if_neg nm6, e_no6, ob]
  rw [h1, ob, if_pos rfl, h2, ob, if_pos rfl]
  have z0 : nI k = 0 ↔ k = 0 := by rw [show (0 : Int32) = nI 0 from rfl, nI_eq (by omega) (by omega)]
  have main : ∀ C, 0 < k → ((w = 0 ∧ C = 2 ^ k - 1) ∨ (w = 1 ∧ C = 2 ^ (k - 1))) → ∃ (r : Int32) (kp' : Nat → Int32) (lz' lo' ik' cu' : Int32), f_X9_lots_87 FU ka fa ca (nI k) (nI L) (nI G) (nI d) (nI N) y w (nI N) y (nI C) lz rf = some (r, lz', rf) ∧ f_X10_lots_41 FU (nI N) y w 0 rf ka fa ca (nI k) (nI d) (nI L) (nI G) kp ik cu lo = some (r, rf, ka, fa, ca, nI k, nI d, nI L, nI G, kp', ik', cu', lo') ∧ ∀ j, j < 62 → kp' j = kp j := by
    intro C hk0 hC
    obtain ⟨kp', ik', cu', m1, m2⟩ := e_lmO hA hL hG hd hk0 hN y w C hC rf N 0 FU 0 y kp ik cu (by omega) (by unfold FU; omega)
    have c1 := e_liwL (G := G) hA hL hd (C := C) hN y N 0 FU 0 y (by omega) (by unfold FU; omega)
    refine ⟨nI (wsum (wg k kd fg cs L G d C) N 0 y).1, kp', (wsum (wg k kd fg cs L G d C) N 0 y).2, (wsum (wg k kd fg cs L G d C) N 0 y).2, ik', cu', ?_, ?_, m2⟩
    · unfold f_X9_lots_87 f_X3_lostInWars
      rw [show f_X3_lostInWars_11 FU ka fa ca (nI k) (nI L) (nI G) (nI d) (nI N) y (nI C) FU 0 0 y = _ from c1, ob]
    · unfold f_X10_lots_41 f_X10_lots_43
      rw [if_pos rfl]
      exact m1
  rcases e_prt w with ⟨rfl, p1, p2⟩ | ⟨rfl, p1, p2⟩ | ⟨p3, p4, p1, p2⟩
  · by_cases hk0 : k = 0
    · refine ⟨-3, rfu rf 3, kp, lz, lo, ik, cu, ?_, ?_, fun _ _ => rfl⟩
      · rw [p1, ob, if_neg n10, if_pos (z0.mpr hk0), e_ref3, ob]
      · rw [p2, ob, if_neg n10, if_pos (z0.mpr hk0), f_X10_lots_41, f_X10_lots_43, if_neg nm3, e_no3, ob]
    · obtain ⟨r, kp', lz', lo', ik', cu', m1, m2, m3⟩ := main (2 ^ k - 1) (by omega) (Or.inl ⟨rfl, rfl⟩)
      refine ⟨r, rf, kp', lz', lo', ik', cu', ?_, ?_, m3⟩
      · rw [p1, ob, if_neg n10, if_neg (fun q => hk0 (z0.mp q)), if_pos rfl, f_X7_all, ob, e_all1' k hk]
        exact m1
      · rw [p2, ob, if_neg n10, if_neg (fun q => hk0 (z0.mp q))]
        exact m2
  · by_cases hk0 : k = 0
    · refine ⟨-3, rfu rf 3, kp, lz, lo, ik, cu, ?_, ?_, fun _ _ => rfl⟩
      · rw [p1, ob, if_neg n10, if_pos (z0.mpr hk0), e_ref3, ob]
      · rw [p2, ob, if_neg n10, if_pos (z0.mpr hk0), f_X10_lots_41, f_X10_lots_43, if_neg nm3, e_no3, ob]
    · obtain ⟨r, kp', lz', lo', ik', cu', m1, m2, m3⟩ := main (2 ^ (k - 1)) (by omega) (Or.inr ⟨rfl, rfl⟩)
      refine ⟨r, rf, kp', lz', lo', ik', cu', ?_, ?_, m3⟩
      · rw [p1, ob, if_neg n10, if_neg (fun q => hk0 (z0.mp q)), if_neg n10, show nI k - 1 = nI (k - 1) from by rw [show (1 : Int32) = nI 1 from rfl, pk_sub (by omega)], nI_pow (k - 1) (by omega)]
        exact m1
      · rw [p2, ob, if_neg n10, if_neg (fun q => hk0 (z0.mp q))]
        exact m2
  · refine ⟨-2, rfu rf 2, kp, lz, lo, ik, cu, ?_, ?_, fun _ _ => rfl⟩
    · rw [p1, ob, if_pos rfl, e_ref2, ob]
    · rw [p2, ob, if_pos rfl, f_X10_lots_41, f_X10_lots_43, if_neg nm2, e_no2, ob]
end CJ
