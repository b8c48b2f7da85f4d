/-! CALLS, eleventh part: boys -/
section CK
variable {k : Nat} {ka fa ca : Nat → Int32} {kd fg cs : Nat → Nat} {L G d : Nat}
/-- what is LOST behind i DAYS, those of the set S with a find -/
def bL (k : Nat) (kd fg cs : Nat → Nat) (L G d f S : Nat) : Nat → Nat
  | 0 => L
  | i + 1 => dayf k kd fg cs (if S.testBit i = true then sdf (bL k kd fg cs L G d f S i) (2 ^ f) else bL k kd fg cs L G d f S i) G (d + i + 1)
def bP (t S : Nat) : Nat → Nat
  | 0 => 1
  | i + 1 => bP t S i * (if S.testBit i = true then 1 else t)
/-- the sum over sets -/
def sm (f : Nat → Nat) : Nat → Nat
  | 0 => 0
  | i + 1 => sm f i + f i
theorem sm_le {f : Nat → Nat} {B : Nat} (h : ∀ i, f i ≤ B) : ∀ n, sm f n ≤ n * B
  | 0 => by simp [sm]
  | n + 1 => by
    have h1 := sm_le h n
    have h2 := h n
    rw [sm, Nat.succ_mul]
    omega
theorem bL_lt (hL : L < 2 ^ k) (f S : Nat) : ∀ i, bL k kd fg cs L G d f S i < 2 ^ k
  | 0 => hL
  | i + 1 => by
    rw [bL]
    refine dayf_lt ?_
    split
    · exact sdf_lt (bL_lt hL f S i)
    · exact bL_lt hL f S i
theorem e_lbfL (hA : AR k ka fa ca kd fg cs) (hL : L < 2 ^ k) (hd : d ≤ 999) {f n S : Nat} (hn : n ≤ 6) (hS : S < 2 ^ n) : ∀ (j i m : Nat), i + j = n → j < m → f_X0_lostByFinds_9 FU ka fa ca (nI k) (nI L) (nI G) (nI d) (nI (2 ^ f)) (nI n) (nI S) m (nI (bL k kd fg cs L G d f S i)) (nI i) = some (nI (bL k kd fg cs L G d f S n)) := by
  have hk := hA.1
  intro j
  induction j with
  | zero =>
    intro i m hi hm
    obtain ⟨m, rfl⟩ : ∃ z, m = z + 1 := ⟨m - 1, by omega⟩
    have : i = n := by omega
    subst this
    rw [f_X0_lostByFinds_9, if_pos (Int32.le_refl _)]
  | succ j ih =>
    intro i m hi hm
    obtain ⟨m, rfl⟩ : ∃ z, m = z + 1 := ⟨m - 1, by omega⟩
    have nx := ih (i + 1) m (by omega) (by omega)
    rw [bL] at nx
    rw [f_X0_lostByFinds_9, if_neg (nI_ge (by omega) (by omega))]
    by_cases hb : S.testBit i = true
    · rw [if_neg (fun z => by rw [(nI_has0 (by omega)).mp z] at hb; cases hb), nI_sdf, f_X0_lostByFinds_32, nI_add, show nI (d + i) + 1 = nI (d + i + 1) from nI_1 _, e_bd hA (by omega), ob, show nI i + 1 = nI (i + 1) from nI_1 _]
      rw [if_pos hb] at nx
      exact nx
    · rw [if_pos ((nI_has0 (by omega)).mpr (bfalse hb)), f_X0_lostByFinds_32, nI_add, show nI (d + i) + 1 = nI (d + i + 1) from nI_1 _, e_bd hA (by omega), ob, show nI i + 1 = nI (i + 1) from nI_1 _]
      rw [if_neg hb] at nx
      exact nx
theorem e_lbf (hA : AR k ka fa ca kd fg cs) (hL : L < 2 ^ k) (hd : d ≤ 999) {f n S : Nat} (hn : n ≤ 6) (hS : S < 2 ^ n) : f_X0_lostByFinds FU ka fa ca (nI k) (nI L) (nI G) (nI d) (nI (2 ^ f)) (nI n) (nI S) = some (nI (bL k kd fg cs L G d f S n)) :=
  e_lbfL hA hL hd hn hS n 0 FU (by omega) (by unfold FU; omega)
theorem e_pwL {b n : Nat} (hb : b < 2 ^ 31) (hn : n < 100) : ∀ (j i m : Nat), i + j = n → j < m → f_X1_power_5 FU (nI b) (nI n) m (lN (b ^ i)) (nI i) = some (lN (b ^ n)) := by
  intro j
  induction j with
  | zero =>
    intro i m hi hm
    obtain ⟨m, rfl⟩ : ∃ z, m = z + 1 := ⟨m - 1, by omega⟩
    have : i = n := by omega
    subst this
    rw [f_X1_power_5, if_pos (Int32.le_refl _)]
  | succ j ih =>
    intro i m hi hm
    obtain ⟨m, rfl⟩ : ∃ z, m = z + 1 := ⟨m - 1, by omega⟩
    rw [f_X1_power_5, if_neg (nI_ge (by omega) (by omega)), nI_l hb, lN_mul, ← Nat.pow_succ, show nI i + 1 = nI (i + 1) from nI_1 _]
    exact ih (i + 1) m (by omega) (by omega)
theorem e_pw {b n : Nat} (hb : b < 2 ^ 31) (hn : n < 100) : f_X1_power FU (nI b) (nI n) = some (lN (b ^ n)) :=
  e_pwL hb hn n 0 FU (by omega) (by unfold FU; omega)
theorem pcn_64 : ∀ n, n ≤ 6 → ∀ S, S < 2 ^ n → pcn S ≤ n := by decide +kernel
def bc6 (S : Nat) : Nat → Nat
  | 0 => 0
  | i + 1 => bc6 S i + (if S.testBit i = true then 1 else 0)
theorem bc6_le (S : Nat) : ∀ i, bc6 S i ≤ i
  | 0 => Nat.le_refl 0
  | i + 1 => by have := bc6_le S i; rw [bc6]; split <;> omega
theorem bc6_pcn : ∀ n, n ≤ 6 → ∀ S, S < 2 ^ n → bc6 S n = pcn S := by decide +kernel
theorem bP_eq (t S : Nat) : ∀ i, bP t S i = t ^ (i - bc6 S i)
  | 0 => rfl
  | i + 1 => by
    have h := bc6_le S i
    rw [bP, bc6, bP_eq t S i]
    by_cases hb : S.testBit i = true
    · rw [if_pos hb, if_pos hb, Nat.mul_one, show i + 1 - (bc6 S i + 1) = i - bc6 S i by omega]
    · rw [if_neg hb, if_neg hb, show i + 1 - (bc6 S i + 0) = (i - bc6 S i) + 1 by omega, Nat.pow_succ]
theorem bP_le {t : Nat} (ht : 1 ≤ t) (ht2 : t ≤ 19) (S : Nat) : ∀ i, i ≤ 6 → bP t S i ≤ 19 ^ i
  | 0, _ => Nat.le_refl 1
  | i + 1, h => by
    have ih := bP_le ht ht2 S i (by omega)
    rw [bP, Nat.pow_succ]
    refine Nat.mul_le_mul ih ?_
    split <;> omega
/-- the ways of one set of finds -/
def bV (k : Nat) (kd fg cs : Nat → Nat) (L G d f th n t : Nat) : Nat → Nat := fun S => if (bL k kd fg cs L G d f S n).testBit th = true then bP t S n else 0
theorem bV_le {f th n t : Nat} (ht : 1 ≤ t) (ht2 : t ≤ 19) (hn : n ≤ 6) (S : Nat) : bV k kd fg cs L G d f th n t S ≤ 19 ^ 6 := by
  unfold bV
  split
  · exact Nat.le_trans (bP_le ht ht2 S n hn) (Nat.pow_le_pow_right (by omega) hn)
  · exact Nat.zero_le _
theorem e_wtlL (hA : AR k ka fa ca kd fg cs) (hL : L < 2 ^ k) (hd : d ≤ 999) {f th n t : Nat} (hf : f < k) (hth : th < k) (hn : n ≤ 6) (ht : 2 ≤ t) (ht2 : t ≤ 20) : ∀ (j S m : Nat), S + j = 2 ^ n → j < m → f_X0_waysToLose_6 FU ka fa ca (nI k) (nI L) (nI G) (nI d) (nI f) (nI th) (nI n) (nI t) m (lN (sm (bV k kd fg cs L G d f th n (t - 1)) S)) (nI S) = some (lN (sm (bV k kd fg cs L G d f th n (t - 1)) (2 ^ n))) := by
  have hk := hA.1
  have h64 : 2 ^ n ≤ 2 ^ 6 := Nat.pow_le_pow_right (by omega) hn
  intro j
  induction j with
  | zero =>
    intro S m hS hm
    obtain ⟨m, rfl⟩ : ∃ z, m = z + 1 := ⟨m - 1, by omega⟩
    have : S = 2 ^ n := by omega
    subst this
    rw [f_X0_waysToLose_6, nI_pow n (by omega), if_pos (Int32.le_refl _)]
  | succ j ih =>
    intro S m hS hm
    obtain ⟨m, rfl⟩ : ∃ z, m = z + 1 := ⟨m - 1, by omega⟩
    have nx := ih (S + 1) m (by omega) (by omega)
    rw [sm] at nx
    rw [f_X0_waysToLose_6, nI_pow n (by omega), if_neg (nI_ge (by omega) (by omega)), nI_pow f (by omega), e_lbf hA hL hd hn (by omega), ob]
    by_cases hb : (bL k kd fg cs L G d f S n).testBit th = true
    · have e : bV k kd fg cs L G d f th n (t - 1) S = (t - 1) ^ (n - pcn S) := by
        unfold bV
        rw [if_pos hb, bP_eq, bc6_pcn n hn S (by omega)]
      rw [if_neg (fun z => by rw [(nI_has0 (by omega)).mp z] at hb; cases hb), e_bc S (by omega), ob, show nI t - 1 = nI (t - 1) from by rw [show (1 : Int32) = nI 1 from rfl, pk_sub (by omega)], pk_sub (pcn_64 n hn S (by omega)), e_pw (by omega) (by omega), ob, f_X0_waysToLose_50, lN_add, show nI S + 1 = nI (S + 1) from nI_1 _]
      rw [e] at nx
      exact nx
    · have e : bV k kd fg cs L G d f th n (t - 1) S = 0 := by
        unfold bV
        rw [if_neg hb]
      rw [if_pos ((nI_has0 (by omega)).mpr (bfalse hb)), f_X0_waysToLose_50, show nI S + 1 = nI (S + 1) from nI_1 _]
      rw [e, Nat.add_zero] at nx
      exact nx
theorem e_bmI (hA : AR k ka fa ca kd fg cs) (hL : L < 2 ^ k) (hG : G < 2 ^ k) (hd : d ≤ 999) {f th n t S : Nat} (hf : f < k) (hth : th < k) (hn : n ≤ 6) (ht : 2 ≤ t) (ht2 : t ≤ 20) (hS : S < 2 ^ n) (p5 : Int32) (rf kp : Nat → Int32) (u : Nat) (x9 : Int64)
    (kr : Int64 → Int64 → Int32 → (Nat → Int32) → (Nat → Int32) → (Nat → Int32) → (Nat → Int32) → Int32 → Int32 → Int32 → Int32 → (Nat → Int32) → Int32 → Int32 → Option (Int64 × (Nat → Int32) × (Nat → Int32) × (Nat → Int32) × (Nat → Int32) × Int32 × Int32 × Int32 × Int32 × (Nat → Int32) × Int32 × Int32)) : ∀ (j i m : Nat) (ik cu : Int32), i + j = n → j < m →
    f_X10_boys_133 FU (nI f) (nI th) (nI n) (nI t) p5 kr m (lN u) x9 (nI S) (lN (bP (t - 1) S i)) (nI i) rf ka fa ca (nI k) (nI (d + i)) (nI (bL k kd fg cs L G d f S i)) (nI G) (SV kp ka fa ca k d L G) ik cu = kr (lN (u + bV k kd fg cs L G d f th n (t - 1) S)) x9 (nI (S + 1)) rf ka fa ca (nI k) (nI d) (nI L) (nI G) (SV kp ka fa ca k d L G) 0 (nI 93) := by
  have hk := hA.1
  have h64 : 2 ^ n ≤ 2 ^ 6 := Nat.pow_le_pow_right (by omega) hn
  intro j
  induction j with
  | zero =>
    intro i m ik cu hi hm
    obtain ⟨m, rfl⟩ : ∃ z, m = z + 1 := ⟨m - 1, by omega⟩
    have : i = n := by omega
    subst this
    have h9 := p9 hk (bL_lt (kd := kd) (fg := fg) (cs := cs) (G := G) (d := d) hL f S i)
    have fin : ∀ (v : Nat), f_X10_boys_216 FU (nI f) (nI th) (nI i) (nI t) p5 kr (lN u) (lN v) x9 (nI S) rf ka fa ca (nI k) (nI (d + i)) (nI (bL k kd fg cs L G d f S i)) (nI G) (SV kp ka fa ca k d L G) ik cu = kr (lN (u + v)) x9 (nI (S + 1)) rf ka fa ca (nI k) (nI d) (nI L) (nI G) (SV kp ka fa ca k d L G) 0 (nI 93) := by
      intro v
      unfold f_X10_boys_216 SV
      rw [e_forget, ob, lN_add, show nI S + 1 = nI (S + 1) from nI_1 _]
    rw [f_X10_boys_133, if_pos (Int32.le_refl _)]
    unfold bV
    by_cases hb : (bL k kd fg cs L G d f S i).testBit th = true
    · rw [e_mhasT (by omega) (by omega) hb, ob, if_neg n10, fin, if_pos hb]
    · rw [e_mhasF (by omega) (by omega) (bfalse hb), ob, if_pos rfl, show (0 : Int64) = lN 0 from rfl, fin, if_neg hb]
  | succ j ih =>
    intro i m ik cu hi hm
    obtain ⟨m, rfl⟩ : ∃ z, m = z + 1 := ⟨m - 1, by omega⟩
    have nx := ih (i + 1) m ik cu (by omega) (by omega)
    rw [bL, bP] at nx
    have h9 := p9 hk (bL_lt (kd := kd) (fg := fg) (cs := cs) (G := G) (d := d) hL f S i)
    rw [f_X10_boys_133, if_neg (nI_ge (by omega) (by omega))]
    by_cases hb : S.testBit i = true
    · rw [if_pos hb, if_pos hb, Nat.mul_one] at nx
      have h9' : sdf (bL k kd fg cs L G d f S i) (2 ^ f) < 512 := sdf_lt (n := 9) h9
      rw [e_mhasT (by omega) (by omega) hb, ob, if_neg n10, f_X10_boys_160, e_mhasT (by omega) (by omega) hb, ob, if_neg n10, f_X10_boys_187, nI_pow f (by omega), nI_sdf, e_gd hA h9' (p9 hk hG) (by omega), ob, show nI i + 1 = nI (i + 1) from nI_1 _, show (1 : Int64) = lN 1 from rfl, lN_mul, Nat.mul_one]
      exact nx
    · rw [if_neg hb, if_neg hb] at nx
      rw [e_mhasF (by omega) (by omega) (bfalse hb), ob, if_pos rfl, f_X10_boys_160, e_mhasF (by omega) (by omega) (bfalse hb), ob, if_pos rfl, f_X10_boys_187, e_gd hA h9 (p9 hk hG) (by omega), ob, show nI i + 1 = nI (i + 1) from nI_1 _, show nI t - 1 = nI (t - 1) from by rw [show (1 : Int32) = nI 1 from rfl, pk_sub (by omega)], nI_l (by omega), lN_mul]
      exact nx
theorem e_bmO (hA : AR k ka fa ca kd fg cs) (hL : L < 2 ^ k) (hG : G < 2 ^ k) (hd : d ≤ 999) {f th n t : Nat} (hf : f < k) (hth : th < k) (hn : n ≤ 6) (ht : 2 ≤ t) (ht2 : t ≤ 20) (p5 : Int32) (rf : Nat → Int32) (x9 r : Int64) (hr : f_X10_partOf FU (lN (sm (bV k kd fg cs L G d f th n (t - 1)) (2 ^ n))) x9 p5 = some r) : ∀ (j S m : Nat) (kp : Nat → Int32) (ik cu : Int32), S + j = 2 ^ n → j < m → ∃ (kp' : Nat → Int32) (ik' cu' : Int32), f_X10_boys_115 FU (nI f) (nI th) (nI n) (nI t) p5 m (lN (sm (bV k kd fg cs L G d f th n (t - 1)) S)) x9 (nI S) rf ka fa ca (nI k) (nI d) (nI L) (nI G) kp ik cu = some (r, rf, ka, fa, ca, nI k, nI d, nI L, nI G, kp', ik', cu') ∧ ∀ q, q < 62 → kp' q = kp q := by
  have hk := hA.1
  have h64 : 2 ^ n ≤ 2 ^ 6 := Nat.pow_le_pow_right (by omega) hn
  intro j
  induction j with
  | zero =>
    intro S m kp ik cu hS hm
    obtain ⟨m, rfl⟩ : ∃ z, m = z + 1 := ⟨m - 1, by omega⟩
    have : S = 2 ^ n := by omega
    subst this
    exact ⟨kp, ik, cu, by rw [f_X10_boys_115, nI_pow n (by omega), if_pos (Int32.le_refl _), hr, ob], fun _ _ => rfl⟩
  | succ j ih =>
    intro S m kp ik cu hS hm
    obtain ⟨m, rfl⟩ : ∃ z, m = z + 1 := ⟨m - 1, by omega⟩
    obtain ⟨kp', ik', cu', h1, h2⟩ := ih (S + 1) m (SV kp ka fa ca k d L G) 0 (nI 93) (by omega) (by omega)
    refine ⟨kp', ik', cu', ?_, fun q hq => by rw [h2 q hq, SV_lo _ _ _ _ _ _ _ _ hq]⟩
    rw [f_X10_boys_115, nI_pow n (by omega), if_neg (nI_ge (by omega) (by omega)), e_think, ob]
    have hI := e_bmI hA hL hG hd hf hth hn ht ht2 (S := S) (by omega) p5 rf kp (sm (bV k kd fg cs L G d f th n (t - 1)) S) x9 (f_X10_boys_115 FU (nI f) (nI th) (nI n) (nI t) p5 m) n 0 FU 1 (nI 93) (by omega) (by unfold FU; omega)
    rw [sm] at h1
    exact hI.trans h1
theorem e_b92 {n t : Nat} (hn : n ≤ 6) (ht : t ≤ 20) (p1 p2 p5 : Int32) (rf ka fa ca kp : Nat → Int32) (s0 s1 s2 s3 ik cu : Int32) : ∀ (j i m : Nat), i + j = n → j < m → f_X10_boys_92 FU p1 p2 (nI n) (nI t) p5 m 0 (lN (t ^ i)) (nI i) rf ka fa ca s0 s1 s2 s3 kp ik cu = f_X10_boys_115 FU p1 p2 (nI n) (nI t) p5 FU 0 (lN (t ^ n)) 0 rf ka fa ca s0 s1 s2 s3 kp ik cu := by
  intro j
  induction j with
  | zero =>
    intro i m hi hm
    obtain ⟨m, rfl⟩ : ∃ z, m = z + 1 := ⟨m - 1, by omega⟩
    have : i = n := by omega
    subst this
    rw [f_X10_boys_92, if_pos (Int32.le_refl _)]
  | succ j ih =>
    intro i m hi hm
    obtain ⟨m, rfl⟩ : ∃ z, m = z + 1 := ⟨m - 1, by omega⟩
    rw [f_X10_boys_92, if_neg (nI_ge (by omega) (by omega)), nI_l (by omega), lN_mul, ← Nat.pow_succ, show nI i + 1 = nI (i + 1) from nI_1 _]
    exact ih (i + 1) m (by omega) (by omega)
theorem t_boys (hA : AR k ka fa ca kd fg cs) (hL : L < 2 ^ k) (hG : G < 2 ^ k) (hd : d ≤ 999) (rf kp : Nat → Int32) (ik cu x y z w v : Int32) : QL rf ka fa ca kp k d L G (f_X9_boys FU ka fa ca (nI k) (nI L) (nI G) (nI d) rf x y z w v) (f_X10_boys FU rf ka fa ca (nI k) (nI d) (nI L) (nI G) kp ik cu x y z w v) := by
  have hk := hA.1
  unfold f_X9_boys f_X10_boys
  rcases pk_ix x (n := k) (by omega) with h | h | ⟨f, hf, rfl⟩
  · refine ⟨lgr (-1), rfu rf 1, kp, ik, cu, ?_, ?_, fun _ _ => rfl⟩
    · rw [e_has0 (Or.inl h), ob, if_pos rfl, f_X9_boys_22, e_rfl1, ob]
    · rw [e_isT0 (Or.inl h), ob, if_pos rfl, f_X10_boys_16, f_X10_boys_69, if_neg nm1, e_low1, ob]
  · refine ⟨lgr (-1), rfu rf 1, kp, ik, cu, ?_, ?_, fun _ _ => rfl⟩
    · rw [e_has0 (Or.inr h), ob, if_pos rfl, f_X9_boys_22, e_rfl1, ob]
    · rw [e_isT0 (Or.inr h), ob, if_pos rfl, f_X10_boys_16, f_X10_boys_69, if_neg nm1, e_low1, ob]
  rw [e_has hk hf, ob, if_neg n10, e_isT hk hf, ob, if_neg n10]
  rcases pk_ix y (n := k) (by omega) with h | h | ⟨th, hth, rfl⟩
  · refine ⟨lgr (-1), rfu rf 1, kp, ik, cu, ?_, ?_, fun _ _ => rfl⟩
    · rw [e_has0 (Or.inl h), ob, if_pos rfl, f_X9_boys_22, e_rfl1, ob]
    · rw [e_isT0 (Or.inl h), ob, if_pos rfl, f_X10_boys_16, f_X10_boys_69, if_neg nm1, e_low1, ob]
  · refine ⟨lgr (-1), rfu rf 1, kp, ik, cu, ?_, ?_, fun _ _ => rfl⟩
    · rw [e_has0 (Or.inr h), ob, if_pos rfl, f_X9_boys_22, e_rfl1, ob]
    · rw [e_isT0 (Or.inr h), ob, if_pos rfl, f_X10_boys_16, f_X10_boys_69, if_neg nm1, e_low1, ob]
  rw [e_has hk hth, ob, if_neg n10, e_isT hk hth, ob, if_neg n10]
  by_cases hz : z < 0
  · refine ⟨lgr (-4), rfu rf 4, kp, ik, cu, ?_, ?_, fun _ _ => rfl⟩
    · rw [if_pos hz, f_X9_boys_38, e_rfl4, ob]
    · rw [if_pos hz, f_X10_boys_30, f_X10_boys_69, if_neg nm4, e_low4, ob]
  rw [if_neg hz, if_neg hz]
  by_cases hw : (2 : Int32) ≤ w
  rotate_left
  · refine ⟨lgr (-4), rfu rf 4, kp, ik, cu, ?_, ?_, fun _ _ => rfl⟩
    · rw [if_neg hw, f_X9_boys_38, e_rfl4, ob]
    · rw [if_neg hw, f_X10_boys_30, f_X10_boys_69, if_neg nm4, e_low4, ob]
  rw [if_pos hw, if_pos hw]
  by_cases hz6 : (6 : Int32) < z
  · refine ⟨lgr (-6), rfu rf 6, kp, ik, cu, ?_, ?_, fun _ _ => rfl⟩
    · rw [if_pos hz6, f_X9_boys_58, e_rfl6, ob]
    · rw [if_pos hz6, f_X10_boys_48, f_X10_boys_69, if_neg nm6, e_low6, ob]
  rw [if_neg hz6, if_neg hz6]
  by_cases hw20 : w ≤ (20 : Int32)
  rotate_left
  · refine ⟨lgr (-6), rfu rf 6, kp, ik, cu, ?_, ?_, fun _ _ => rfl⟩
    · rw [if_neg hw20, f_X9_boys_58, e_rfl6, ob]
    · rw [if_neg hw20, f_X10_boys_48, f_X10_boys_69, if_neg nm6, e_low6, ob]
  rw [if_pos hw20, if_pos hw20]
  obtain ⟨n, hn, rfl⟩ := nI_of2 (M := 6) (n := 6) rfl hz (Int32.not_lt.mp hz6)
  have hw0 : ¬ w < 0 := Int32.not_lt.mpr (Int32.le_trans (by decide) hw)
  obtain ⟨t, ht2, rfl⟩ := nI_of2 (M := 20) (n := 20) rfl hw0 hw20
  have ht : 2 ≤ t := (nI_leI (a := 2) (by omega) (by omega)).mp hw
  have main : ∃ (r : Int64) (kp' : Nat → Int32) (ik' cu' : Int32), ((f_X0_waysToLose FU ka fa ca (nI k) (nI L) (nI G) (nI d) (nI f) (nI th) (nI n) (nI t)).bind fun x_14 => ((f_X1_power FU (nI t) (nI n)).bind fun x_15 => ((f_X1_part FU x_14 x_15 v).bind fun x_16 => (some (x_16, rf))))) = some (r, rf) ∧ f_X10_boys_69 FU (nI f) (nI th) (nI n) (nI t) v 0 rf ka fa ca (nI k) (nI d) (nI L) (nI G) kp ik cu = some (r, rf, ka, fa, ca, nI k, nI d, nI L, nI G, kp', ik', cu') ∧ ∀ j, j < 62 → kp' j = kp j := by
    have h64 : 2 ^ n ≤ 2 ^ 6 := Nat.pow_le_pow_right (by omega) hn
    have hsm : sm (bV k kd fg cs L G d f th n (t - 1)) (2 ^ n) < 2 ^ 62 := by
      have h1 := sm_le (f := bV k kd fg cs L G d f th n (t - 1)) (B := 19 ^ 6) (fun S => bV_le (by omega) (by omega) hn S) (2 ^ n)
      have h2 : 2 ^ n * 19 ^ 6 ≤ 2 ^ 6 * 19 ^ 6 := Nat.mul_le_mul_right _ h64
      omega
    have htn : t ^ n ≤ 20 ^ 6 := Nat.le_trans (Nat.pow_le_pow_left ht2 n) (Nat.pow_le_pow_right (by omega) hn)
    have htp : 0 < t ^ n := Nat.pow_pos (by omega)
    obtain ⟨r, hr1, hr2⟩ := e_frac (a := sm (bV k kd fg cs L G d f th n (t - 1)) (2 ^ n)) (b := t ^ n) hsm (by omega) htp v
    obtain ⟨kp', ik', cu', m1, m2⟩ := e_bmO hA hL hG hd hf hth hn ht ht2 v rf (lN (t ^ n)) r hr2 (2 ^ n) 0 FU kp ik cu (by omega) (by unfold FU; omega)
    have c1 := e_wtlL (G := G) hA hL hd hf hth hn ht ht2 (2 ^ n) 0 FU (by omega) (by unfold FU; omega)
    refine ⟨r, kp', ik', cu', ?_, ?_, m2⟩
    · rw [show f_X0_waysToLose FU ka fa ca (nI k) (nI L) (nI G) (nI d) (nI f) (nI th) (nI n) (nI t) = _ from c1, ob, e_pw (by omega) (by omega), ob, hr1, ob]
    · rw [f_X10_boys_69, if_pos rfl]
      have e := e_b92 hn ht2 (nI f) (nI th) v rf ka fa ca kp (nI k) (nI d) (nI L) (nI G) ik cu n 0 FU (by omega) (by unfold FU; omega)
      exact (show f_X10_boys_92 FU (nI f) (nI th) (nI n) (nI t) v FU 0 1 0 rf ka fa ca (nI k) (nI d) (nI L) (nI G) kp ik cu = _ from e).trans m1
  obtain ⟨r, kp', ik', cu', m1, m2, m3⟩ := main
  rcases e_prt v with ⟨rfl, p1, p2⟩ | ⟨rfl, p1, p2⟩ | ⟨p3, p4, p1, p2⟩
  · refine ⟨r, rf, kp', ik', cu', ?_, ?_, m3⟩
    · rw [p1, ob, if_neg n10]; exact m1
    · rw [p2, ob, if_neg n10]; exact m2
  · refine ⟨r, rf, kp', ik', cu', ?_, ?_, m3⟩
    · rw [p1, ob, if_neg n10]; exact m1
    · rw [p2, ob, if_neg n10]; exact m2
  · refine ⟨lgr (-2), rfu rf 2, kp, ik, cu, ?_, ?_, fun _ _ => rfl⟩
    · rw [p1, ob, if_pos rfl, e_rfl2, ob]
    · rw [p2, ob, if_pos rfl, f_X10_boys_69, if_neg nm2, e_low2, ob]
end CK
