/-! CALLS, eighth part: twins, two -/
def ic (T : Nat → Nat → Bool) (a : Nat) : Nat → Nat → Nat → Nat
  | 0, _, acc => acc
  | j + 1, b, acc => ic T a j (b + 1) (if T a b = true then acc + 1 else acc)
def oc (T : Nat → Nat → Bool) (k : Nat) : Nat → Nat → Nat → Nat
  | 0, _, acc => acc
  | j + 1, a, acc => oc T k j (a + 1) (ic T a (k - (a + 1)) (a + 1) acc)
def i1 (T : Nat → Nat → Bool) (a : Nat) : Nat → Nat → Option Nat
  | 0, _ => none
  | j + 1, b => if T a b = true then some (10 * a + b) else i1 T a j (b + 1)
def of1 (T : Nat → Nat → Bool) (k : Nat) : Nat → Nat → Option Nat
  | 0, _ => none
  | j + 1, a => match i1 T a (k - (a + 1)) (a + 1) with
    | some v => some v
    | none => of1 T k j (a + 1)
def orr (f g : Option Nat) : Option Nat := match f with
  | some v => some v
  | none => g
theorem i1_lt (T : Nat → Nat → Bool) (a : Nat) : ∀ j b v, i1 T a j b = some v → v < 10 * a + b + j
  | 0, b, v, h => by cases h
  | j + 1, b, v, h => by
    rw [i1] at h
    split at h
    · cases h; omega
    · have := i1_lt T a j (b + 1) v h; omega
section CH
variable {k : Nat} {ka fa ca : Nat → Int32} {kd fg cs : Nat → Nat} {L G d : Nat}
def twp (kd cs : Nat → Nat) (a b : Nat) : Bool := decide (kd a = kd b) && decide (cs a = cs b)
theorem e_tw (hA : AR k ka fa ca kd fg cs) {a b : Nat} (ha : a < k) (hb : b < k) : f_X7_areTwins ka ca (nI k) (nI a) (nI b) = some (if twp kd cs a b = true then 1 else 0) := by
  have h1 := (hA.2 a ha).1.2
  have h2 := (hA.2 b hb).1.2
  have h3 := hA.cs9 ha
  have h4 := hA.cs9 hb
  unfold f_X7_areTwins twp
  rw [e_kind hA ha, ob, e_kind hA hb, ob, e_caus hA ha, ob, e_caus hA hb, ob]
  by_cases c1 : kd a = kd b
  · rw [if_pos (by rw [c1])]
    by_cases c2 : cs a = cs b
    · rw [if_pos (by rw [c2])]; simp [c1, c2]
    · rw [if_neg (by rw [nI_eq (by omega) (by omega)]; exact c2)]; simp [c2]
  · rw [if_neg (by rw [nI_eq (by omega) (by omega)]; exact c1)]; simp [c1]
theorem e_tcI (hA : AR k ka fa ca kd fg cs) (kr : Int32 → Int32 → Option Int32) {a : Nat} (ha : a < k) : ∀ (j b n c : Nat), b + j = k → j < n → f_X7_howManyTwins_16 FU ka ca (nI k) kr n (nI c) (nI a) (nI b) = kr (nI (ic (twp kd cs) a j b c)) (nI (a + 1)) := by
  have hk := hA.1
  intro j
  induction j with
  | zero =>
    intro b n c hb hn
    obtain ⟨n, rfl⟩ : ∃ z, n = z + 1 := ⟨n - 1, by omega⟩
    have : b = k := by omega
    subst this
    rw [f_X7_howManyTwins_16, if_pos (Int32.le_refl _), show nI a + 1 = nI (a + 1) from nI_1 _]
    rfl
  | succ j ih =>
    intro b n c hb hn
    obtain ⟨n, rfl⟩ : ∃ z, n = z + 1 := ⟨n - 1, by omega⟩
    have hbk : b < k := by omega
    rw [f_X7_howManyTwins_16, if_neg (nI_ge hbk (by omega)), e_tw hA ha hbk, ob, ic]
    by_cases ht : twp kd cs a b = true
    · rw [if_pos ht, if_neg n10, f_X7_howManyTwins_36, show nI c + 1 = nI (c + 1) from nI_1 _, show nI b + 1 = nI (b + 1) from nI_1 _, if_pos ht]
      exact ih (b + 1) n (c + 1) (by omega) (by omega)
    · rw [if_neg ht, if_pos rfl, f_X7_howManyTwins_36, show nI b + 1 = nI (b + 1) from nI_1 _, if_neg ht]
      exact ih (b + 1) n c (by omega) (by omega)
theorem e_tcO (hA : AR k ka fa ca kd fg cs) : ∀ (j a n c : Nat), a + j = k → j < n → f_X7_howManyTwins_4 FU ka ca (nI k) n (nI c) (nI a) = some (nI (oc (twp kd cs) k j a c)) := by
  have hk := hA.1
  intro j
  induction j with
  | zero =>
    intro a n c hb hn
    obtain ⟨n, rfl⟩ : ∃ z, n = z + 1 := ⟨n - 1, by omega⟩
    have : a = k := by omega
    subst this
    rw [f_X7_howManyTwins_4, if_pos (Int32.le_refl _)]
    rfl
  | succ j ih =>
    intro a n c hb hn
    obtain ⟨n, rfl⟩ : ∃ z, n = z + 1 := ⟨n - 1, by omega⟩
    have hak : a < k := by omega
    rw [f_X7_howManyTwins_4, if_neg (nI_ge hak (by omega)), show nI a + 1 = nI (a + 1) from nI_1 _, e_tcI hA _ hak (k - (a + 1)) (a + 1) FU c (by omega) (by unfold FU; omega), oc]
    exact ih (a + 1) n _ (by omega) (by omega)
theorem e_tfI (hA : AR k ka fa ca kd fg cs) (kr : Int32 → Option Int32) {a : Nat} (ha : a < k) : ∀ (j b n : Nat), b + j = k → j < n → f_X7_firstTwins_14 FU ka ca (nI k) kr n (nI a) (nI b) = match i1 (twp kd cs) a j b with
    | some v => some (nI v)
    | none => kr (nI (a + 1)) := by
  have hk := hA.1
  intro j
  induction j with
  | zero =>
    intro b n hb hn
    obtain ⟨n, rfl⟩ : ∃ z, n = z + 1 := ⟨n - 1, by omega⟩
    have : b = k := by omega
    subst this
    rw [f_X7_firstTwins_14, if_pos (Int32.le_refl _), show nI a + 1 = nI (a + 1) from nI_1 _]
    rfl
  | succ j ih =>
    intro b n hb hn
    obtain ⟨n, rfl⟩ : ∃ z, n = z + 1 := ⟨n - 1, by omega⟩
    have hbk : b < k := by omega
    rw [f_X7_firstTwins_14, if_neg (nI_ge hbk (by omega)), e_tw hA ha hbk, ob, i1]
    by_cases ht : twp kd cs a b = true
    · rw [if_pos ht, if_neg n10, if_pos ht, show (10 : Int32) * nI a = nI (10 * a) from pk_mul 10 a, nI_add]
    · rw [if_neg ht, if_pos rfl, show nI b + 1 = nI (b + 1) from nI_1 _, if_neg ht]
      exact ih (b + 1) n (by omega) (by omega)
theorem e_tfO (hA : AR k ka fa ca kd fg cs) : ∀ (j a n : Nat), a + j = k → j < n → f_X7_firstTwins_2 FU ka ca (nI k) n (nI a) = some (oI (of1 (twp kd cs) k j a)) := by
  have hk := hA.1
  intro j
  induction j with
  | zero =>
    intro a n hb hn
    obtain ⟨n, rfl⟩ : ∃ z, n = z + 1 := ⟨n - 1, by omega⟩
    have : a = k := by omega
    subst this
    rw [f_X7_firstTwins_2, if_pos (Int32.le_refl _)]
    rfl
  | succ j ih =>
    intro a n hb hn
    obtain ⟨n, rfl⟩ : ∃ z, n = z + 1 := ⟨n - 1, by omega⟩
    have hak : a < k := by omega
    rw [f_X7_firstTwins_2, if_neg (nI_ge hak (by omega)), show nI a + 1 = nI (a + 1) from nI_1 _, e_tfI hA _ hak (k - (a + 1)) (a + 1) FU (by omega) (by unfold FU; omega), of1]
    cases h : i1 (twp kd cs) a (k - (a + 1)) (a + 1) with
    | some v => rfl
    | none => exact ih (a + 1) n (by omega) (by omega)
theorem e_tmI (hA : AR k ka fa ca kd fg cs) (p1 : Int32) (kr : Int32 → Int32 → Int32 → (Nat → Int32) → Option (Int32 × (Nat → Int32))) (rf : Nat → Int32) {a : Nat} (ha : a < k) : ∀ (j b n c : Nat) (f : Option Nat), (∀ v, f = some v → v < 100) → b + j = k → j < n → f_X10_twins_39 FU ka ca (nI k) p1 kr n (nI c) (oI f) (nI a) (nI b) rf = kr (nI (ic (twp kd cs) a j b c)) (oI (orr f (i1 (twp kd cs) a j b))) (nI (a + 1)) rf := by
  have hk := hA.1
  intro j
  induction j with
  | zero =>
    intro b n c f hf hb hn
    obtain ⟨n, rfl⟩ : ∃ z, n = z + 1 := ⟨n - 1, by omega⟩
    have : b = k := by omega
    subst this
    rw [f_X10_twins_39, if_pos (Int32.le_refl _), show nI a + 1 = nI (a + 1) from nI_1 _]
    cases f <;> rfl
  | succ j ih =>
    intro b n c f hf hb hn
    obtain ⟨n, rfl⟩ : ∃ z, n = z + 1 := ⟨n - 1, by omega⟩
    have hbk : b < k := by omega
    have hia : vp_in (nI a) 9 := vp_in_nI (by omega) (by omega)
    have hib : vp_in (nI b) 9 := vp_in_nI (by omega) (by omega)
    have h1 := (hA.2 a ha).1.2
    have h2 := (hA.2 b hbk).1.2
    have h3 := hA.cs9 ha
    have h4 := hA.cs9 hbk
    rw [f_X10_twins_39, if_neg (nI_ge hbk (by omega)), xa_in hia, xa_in hib, xa_in hia, xa_in hib, nI_clamp (n := a) (by omega), nI_clamp (n := b) (by omega), (hA.2 a ha).2.2.1, (hA.2 b hbk).2.2.1, (hA.2 a ha).1.1, (hA.2 b hbk).1.1, ic, i1]
    have no : ¬ twp kd cs a b = true → f_X10_twins_105 FU ka ca (nI k) p1 kr (f_X10_twins_39 FU ka ca (nI k) p1 kr n) (nI c) (oI f) (nI a) (nI b) rf = kr (nI (ic (twp kd cs) a j (b + 1) (if twp kd cs a b = true then c + 1 else c))) (oI (orr f (if twp kd cs a b = true then some (10 * a + b) else i1 (twp kd cs) a j (b + 1)))) (nI (a + 1)) rf := by
      intro ht
      rw [f_X10_twins_105, show nI b + 1 = nI (b + 1) from nI_1 _, if_neg ht, if_neg ht]
      exact ih (b + 1) n c f hf (by omega) (by omega)
    by_cases c2 : cs a = cs b
    · rw [if_pos (by rw [c2])]
      by_cases c1 : kd a = kd b
      · have ht : twp kd cs a b = true := by unfold twp; simp [c1, c2]
        rw [if_pos (by rw [c1]), show nI c + 1 = nI (c + 1) from nI_1 _, if_pos ht, if_pos ht]
        cases hfv : f with
        | none =>
          rw [if_neg (show ¬ 0 ≤ oI none by decide), f_X10_twins_104, f_X10_twins_105, show nI b + 1 = nI (b + 1) from nI_1 _, show (10 : Int32) * nI a = nI (10 * a) from pk_mul 10 a, nI_add]
          exact ih (b + 1) n (c + 1) (some (10 * a + b)) (fun v h => by cases h; omega) (by omega) (by omega)
        | some v =>
          have hv := hf v hfv
          rw [if_pos (show 0 ≤ oI (some v) from nI_pos' (n := v) (by omega)), f_X10_twins_104, f_X10_twins_105, show nI b + 1 = nI (b + 1) from nI_1 _]
          exact ih (b + 1) n (c + 1) (some v) (fun v' h => by cases h; exact hv) (by omega) (by omega)
      · rw [if_neg (by rw [nI_eq (by omega) (by omega)]; exact c1)]
        exact no (by unfold twp; simp [c1])
    · rw [if_neg (by rw [nI_eq (by omega) (by omega)]; exact c2)]
      exact no (by unfold twp; simp [c2])
theorem e_tmO (hA : AR k ka fa ca kd fg cs) (p1 : Int32) (rf : Nat → Int32) : ∀ (j a n c : Nat) (f : Option Nat), (∀ v, f = some v → v < 100) → a + j = k → j < n → f_X10_twins_24 FU ka ca (nI k) p1 n (nI c) (oI f) (nI a) rf = if p1 = 0 then some (nI (oc (twp kd cs) k j a c), rf) else some (oI (orr f (of1 (twp kd cs) k j a)), rf) := by
  have hk := hA.1
  intro j
  induction j with
  | zero =>
    intro a n c f hf hb hn
    obtain ⟨n, rfl⟩ : ∃ z, n = z + 1 := ⟨n - 1, by omega⟩
    have : a = k := by omega
    subst this
    rw [f_X10_twins_24, if_pos (Int32.le_refl _)]
    cases f <;> rfl
  | succ j ih =>
    intro a n c f hf hb hn
    obtain ⟨n, rfl⟩ : ∃ z, n = z + 1 := ⟨n - 1, by omega⟩
    have hak : a < k := by omega
    rw [f_X10_twins_24, if_neg (nI_ge hak (by omega)), show nI a + 1 = nI (a + 1) from nI_1 _, e_tmI hA p1 _ rf hak (k - (a + 1)) (a + 1) FU c f hf (by omega) (by unfold FU; omega), oc, of1, ih (a + 1) n _ _ ?_ (by omega) (by omega)]
    · cases f with
      | some v => rfl
      | none => cases i1 (twp kd cs) a (k - (a + 1)) (a + 1) <;> rfl
    · intro v h
      cases f with
      | some w => exact hf v h
      | none =>
        have := i1_lt (twp kd cs) a (k - (a + 1)) (a + 1) v h
        omega
theorem t_twins (hA : AR k ka fa ca kd fg cs) (rf : Nat → Int32) (x : Int32) : ∃ (r : Int32) (rf' : Nat → Int32), f_X9_twins FU ka ca (nI k) rf x = some (r, rf') ∧ f_X10_twins FU rf ka ca (nI k) x = some (r, rf') := by
  have hk := hA.1
  unfold f_X9_twins f_X10_twins
  have hm := e_tmO hA x rf k 0 FU 0 none (fun v h => by cases h) (by omega) (by unfold FU; omega)
  rcases e_prt x with ⟨rfl, h1, h2⟩ | ⟨rfl, h1, h2⟩ | ⟨h3, h4, h1, h2⟩
  · refine ⟨nI (oc (twp kd cs) k k 0 0), rf, ?_, ?_⟩
    · rw [h1, ob, if_neg n10, if_pos rfl, show f_X7_howManyTwins FU ka ca (nI k) = _ from e_tcO hA k 0 FU 0 (by omega) (by unfold FU; omega), ob]
    · rw [h2, ob, if_neg n10]
      rw [if_pos rfl] at hm
      exact hm
  · refine ⟨oI (of1 (twp kd cs) k k 0), rf, ?_, ?_⟩
    · rw [h1, ob, if_neg n10, if_neg n10, show f_X7_firstTwins FU ka ca (nI k) = _ from e_tfO hA k 0 FU (by omega) (by unfold FU; omega), ob]
    · rw [h2, ob, if_neg n10]
      rw [if_neg n10] at hm
      exact hm
  · refine ⟨-2, rfu rf 2, ?_, ?_⟩
    · rw [h1, ob, if_pos rfl, e_ref2, ob]
    · rw [h2, ob, if_pos rfl, e_no2, ob]
/-! two -/
def tm (k : Nat) (kd fg cs : Nat → Nat) (L G d N X : Nat) : Int32 := nI (pcn (run k kd fg cs (L ||| X) G d N))
def pr (X : Nat) : Int32 := if X = 0 then 0 else 2
theorem e_lby (hA : AR k ka fa ca kd fg cs) (hL : L < 2 ^ k) (hd : d ≤ 999) {N X Y : Nat} (hX : X < 2 ^ k) (hY : Y < 2 ^ k) (hN : N < 999) : f_X2_lostBy FU ka fa ca (nI k) (nI L) (nI G) (nI d) (nI X) (nI Y) (nI N) = some (tm k kd fg cs L G d N (X ||| Y)) := by
  have hr := run_lt (kd := kd) (fg := fg) (cs := cs) (G := G) (d := d) (or_lt hL (or_lt hX hY)) N
  unfold f_X2_lostBy
  rw [nI_or, nI_or, Nat.or_assoc, e_bds hA (or_lt hL (or_lt hX hY)) (by omega) hN, ob, e_bc _ (p9 hA.1 hr), ob]
  rfl
theorem e_pri {X : Nat} (hX : X < 512) : f_X2_price (nI X) = some (pr X) := by
  unfold f_X2_price pr
  by_cases h : X = 0
  · subst h; rfl
  · rw [if_neg (nI_ne0 (by omega) (by omega)), if_neg h]
def stl (M : Nat → Int32) (X Y A B : Nat) : Prop := ¬ M (X ||| Y) - pr X < M ((X ^^^ A) ||| Y) - pr (X ^^^ A) ∧ ¬ M (X ||| (Y ^^^ B)) + pr (Y ^^^ B) < M (X ||| Y) + pr Y
theorem e_stl (hA : AR k ka fa ca kd fg cs) (hL : L < 2 ^ k) (hd : d ≤ 999) {N X Y A B : Nat} (hX : X < 2 ^ k) (hY : Y < 2 ^ k) (hXA : X ^^^ A < 2 ^ k) (hYB : Y ^^^ B < 2 ^ k) (hN : N < 999) : (stl (tm k kd fg cs L G d N) X Y A B → f_X2_isSettled FU ka fa ca (nI k) (nI L) (nI G) (nI d) (nI X) (nI Y) (nI A) (nI B) (nI N) = some 1) ∧ (¬ stl (tm k kd fg cs L G d N) X Y A B → f_X2_isSettled FU ka fa ca (nI k) (nI L) (nI G) (nI d) (nI X) (nI Y) (nI A) (nI B) (nI N) = some 0) := by
  have hk := hA.1
  have q1 := p9 hk hX
  have q2 := p9 hk hY
  have q3 := p9 hk hXA
  have q4 := p9 hk hYB
  unfold f_X2_isSettled f_X2_isSettled_51 f_X2_isSettled_83 stl
  rw [e_lby hA hL hd hX hY hN, ob, e_pri q1, ob, nI_xor, nI_xor, e_lby hA hL hd hXA hY hN, ob, e_pri q3, ob, e_pri q2, e_lby hA hL hd hX hYB hN, e_pri q4]
  simp only [ob]
  by_cases c1 : tm k kd fg cs L G d N (X ||| Y) - pr X < tm k kd fg cs L G d N ((X ^^^ A) ||| Y) - pr (X ^^^ A)
  · rw [if_pos c1]
    refine ⟨fun z => absurd c1 z.1, fun _ => ?_⟩
    split <;> rfl
  · rw [if_neg c1]
    by_cases c2 : tm k kd fg cs L G d N (X ||| (Y ^^^ B)) + pr (Y ^^^ B) < tm k kd fg cs L G d N (X ||| Y) + pr Y
    · rw [if_pos c2]
      exact ⟨fun z => absurd c2 z.2, fun _ => rfl⟩
    · rw [if_neg c2]
      exact ⟨fun _ => rfl, fun z => absurd ⟨c1, c2⟩ z⟩
/-- which pair is the first that is settled -/
def F4 (S0 S1 S2 S3 : Prop) (r : Int32) : Prop := (S0 → r = 0) ∧ (¬ S0 → S1 → r = 1) ∧ (¬ S0 → ¬ S1 → S2 → r = 10) ∧ (¬ S0 → ¬ S1 → ¬ S2 → S3 → r = 11) ∧ (¬ S0 → ¬ S1 → ¬ S2 → ¬ S3 → r = -9)
theorem F4_ex (S0 S1 S2 S3 : Prop) : ∃ r, F4 S0 S1 S2 S3 r := by
  by_cases h0 : S0
  · exact ⟨0, fun _ => rfl, fun z => absurd h0 z, fun z => absurd h0 z, fun z => absurd h0 z, fun z => absurd h0 z⟩
  by_cases h1 : S1
  · exact ⟨1, fun z => absurd z h0, fun _ _ => rfl, fun _ z => absurd h1 z, fun _ z => absurd h1 z, fun _ z => absurd h1 z⟩
  by_cases h2 : S2
  · exact ⟨10, fun z => absurd z h0, fun _ z => absurd z h1, fun _ _ _ => rfl, fun _ _ z => absurd h2 z, fun _ _ z => absurd h2 z⟩
  by_cases h3 : S3
  · exact ⟨11, fun z => absurd z h0, fun _ z => absurd z h1, fun _ _ z => absurd z h2, fun _ _ _ _ => rfl, fun _ _ _ z => absurd h3 z⟩
  exact ⟨-9, fun z => absurd z h0, fun _ z => absurd z h1, fun _ _ z => absurd z h2, fun _ _ _ z => absurd z h3, fun _ _ _ _ => rfl⟩
theorem e_fsc (hA : AR k ka fa ca kd fg cs) (hL : L < 2 ^ k) (hd : d ≤ 999) {N a b : Nat} (ha : a < k) (hb : b < k) (hN : N < 999) {r : Int32} (hr : F4 (stl (tm k kd fg cs L G d N) 0 0 (2 ^ a) (2 ^ b)) (stl (tm k kd fg cs L G d N) 0 (2 ^ b) (2 ^ a) (2 ^ b)) (stl (tm k kd fg cs L G d N) (2 ^ a) 0 (2 ^ a) (2 ^ b)) (stl (tm k kd fg cs L G d N) (2 ^ a) (2 ^ b) (2 ^ a) (2 ^ b)) r) : f_X2_firstSettled FU ka fa ca (nI k) (nI L) (nI G) (nI d) (nI a) (nI b) (nI N) = some r := by
  have hk := hA.1
  have p0 : 0 < 2 ^ k := Nat.two_pow_pos k
  have pa := pw_lt ha
  have pb := pw_lt hb
  have xa0 : (0 : Nat) ^^^ 2 ^ a < 2 ^ k := Nat.xor_lt_two_pow p0 pa
  have xaa : 2 ^ a ^^^ 2 ^ a < 2 ^ k := Nat.xor_lt_two_pow pa pa
  have xb0 : (0 : Nat) ^^^ 2 ^ b < 2 ^ k := Nat.xor_lt_two_pow p0 pb
  have xbb : 2 ^ b ^^^ 2 ^ b < 2 ^ k := Nat.xor_lt_two_pow pb pb
  have s0 := e_stl hA hL hd (G := G) (X := 0) (Y := 0) (A := 2 ^ a) (B := 2 ^ b) p0 p0 xa0 xb0 hN
  have s1 := e_stl hA hL hd (G := G) (X := 0) (Y := 2 ^ b) (A := 2 ^ a) (B := 2 ^ b) p0 pb xa0 xbb hN
  have s2 := e_stl hA hL hd (G := G) (X := 2 ^ a) (Y := 0) (A := 2 ^ a) (B := 2 ^ b) pa p0 xaa xb0 hN
  have s3 := e_stl hA hL hd (G := G) (X := 2 ^ a) (Y := 2 ^ b) (A := 2 ^ a) (B := 2 ^ b) pa pb xaa xbb hN
  have z0 : ∀ i, i < 31 → (0 : Int32) <<< (nI i &&& 31) = nI 0 := by decide +kernel
  have in0 : ∀ (kr : Int32 → Option Int32) (n : Nat) (x4 : Int32) (X : Nat), x4 <<< (nI a &&& 31) = nI X → f_X2_firstSettled_12 FU ka fa ca (nI k) (nI L) (nI G) (nI d) (nI a) (nI b) (nI N) kr (n + 3) x4 0 = (f_X2_isSettled FU ka fa ca (nI k) (nI L) (nI G) (nI d) (nI X) (nI 0) (nI (2 ^ a)) (nI (2 ^ b)) (nI N)).bind fun y => if y = 0 then (f_X2_isSettled FU ka fa ca (nI k) (nI L) (nI G) (nI d) (nI X) (nI (2 ^ b)) (nI (2 ^ a)) (nI (2 ^ b)) (nI N)).bind fun y2 => if y2 = 0 then kr (x4 + 1) else some (10 * x4 + (0 + 1)) else some (10 * x4 + 0) := by
    intro kr n x4 X hX
    rw [show n + 3 = n + 1 + 1 + 1 from rfl, f_X2_firstSettled_12, if_neg (by decide), hX, z0 b (by omega), nI_pow a (by omega), nI_pow b (by omega)]
    congr 1
    funext y
    split
    · rw [f_X2_firstSettled_12, if_neg (by decide), hX, show ((0 : Int32) + 1) <<< (nI b &&& 31) = nI (2 ^ b) from nI_pow b (by omega), nI_pow a (by omega), nI_pow b (by omega)]
      congr 1
    · rfl
  unfold f_X2_firstSettled
  rw [show f_X2_firstSettled_3 FU ka fa ca (nI k) (nI L) (nI G) (nI d) (nI a) (nI b) (nI N) FU 0 = f_X2_firstSettled_3 FU ka fa ca (nI k) (nI L) (nI G) (nI d) (nI a) (nI b) (nI N) (997 + 1 + 1 + 1) 0 from rfl, f_X2_firstSettled_3, if_neg (by decide), show f_X2_firstSettled_12 FU ka fa ca (nI k) (nI L) (nI G) (nI d) (nI a) (nI b) (nI N) (f_X2_firstSettled_3 FU ka fa ca (nI k) (nI L) (nI G) (nI d) (nI a) (nI b) (nI N) (997 + 1 + 1)) FU 0 0 = _ from in0 _ 997 0 0 (z0 a (by omega))]
  by_cases c0 : stl (tm k kd fg cs L G d N) 0 0 (2 ^ a) (2 ^ b)
  · rw [s0.1 c0, ob, if_neg n10, hr.1 c0]; rfl
  rw [s0.2 c0, ob, if_pos rfl]
  by_cases c1 : stl (tm k kd fg cs L G d N) 0 (2 ^ b) (2 ^ a) (2 ^ b)
  · rw [s1.1 c1, ob, if_neg n10, hr.2.1 c0 c1]; rfl
  rw [s1.2 c1, ob, if_pos rfl, f_X2_firstSettled_3, if_neg (by decide), show f_X2_firstSettled_12 FU ka fa ca (nI k) (nI L) (nI G) (nI d) (nI a) (nI b) (nI N) (f_X2_firstSettled_3 FU ka fa ca (nI k) (nI L) (nI G) (nI d) (nI a) (nI b) (nI N) (997 + 1)) FU (0 + 1) 0 = _ from in0 _ 997 1 (2 ^ a) (nI_pow a (by omega))]
  by_cases c2 : stl (tm k kd fg cs L G d N) (2 ^ a) 0 (2 ^ a) (2 ^ b)
  · rw [s2.1 c2, ob, if_neg n10, hr.2.2.1 c0 c1 c2]; rfl
  rw [s2.2 c2, ob, if_pos rfl]
  by_cases c3 : stl (tm k kd fg cs L G d N) (2 ^ a) (2 ^ b) (2 ^ a) (2 ^ b)
  · rw [s3.1 c3, ob, if_neg n10, hr.2.2.2.1 c0 c1 c2 c3]; rfl
  rw [s3.2 c3, ob, if_pos rfl, f_X2_firstSettled_3, if_pos (by decide), hr.2.2.2.2 c0 c1 c2 c3]
/-- the model's bits of a pair -/
def tb (a b i : Nat) : Nat := (if i / 2 = 1 then 2 ^ a else 0) ||| (if i % 2 = 1 then 2 ^ b else 0)
theorem tb_lt {a b i : Nat} (ha : a < k) (hb : b < k) : tb a b i < 2 ^ k := by
  have p0 : 0 < 2 ^ k := Nat.two_pow_pos k
  unfold tb
  refine or_lt ?_ ?_
  · split
    · exact pw_lt ha
    · exact p0
  · split
    · exact pw_lt hb
    · exact p0
theorem e_87 (hA : AR k ka fa ca kd fg cs) (hL : L < 2 ^ k) (hG : G < 2 ^ k) (hd : d ≤ 999) {N a b : Nat} (ha : a < k) (hb : b < k) (hN : N < 999) (rf : Nat → Int32) (n : Nat) {i : Nat} (hi : i < 4) (kp mny : Nat → Int32) (ik cu : Int32) : f_X10_two_87 FU (nI a) (nI b) (nI N) (n + 1) (nI i) rf ka fa ca (nI k) (nI d) (nI L) (nI G) kp ik cu mny = f_X10_two_87 FU (nI a) (nI b) (nI N) n (nI (i + 1)) rf ka fa ca (nI k) (nI d) (nI L) (nI G) (SV kp ka fa ca k d (L ||| tb a b i) G) 0 (nI 93) (upd mny i (tm k kd fg cs L G d N (tb a b i))) := by
  have hk := hA.1
  have hr := run_lt (kd := kd) (fg := fg) (cs := cs) (G := G) (d := d) (or_lt hL (tb_lt (i := i) ha hb)) N
  have z0 : ∀ i, i < 31 → (0 : Int32) <<< (nI i &&& 31) = nI 0 := by decide +kernel
  have e1 : (nI i / 2) <<< (nI a &&& 31) ||| (nI i - nI i / 2 * 2) <<< (nI b &&& 31) = nI (tb a b i) := by
    have h4 : i = 0 ∨ i = 1 ∨ i = 2 ∨ i = 3 := by omega
    rcases h4 with rfl | rfl | rfl | rfl
    · rw [show nI 0 / 2 = 0 from rfl, show nI 0 - 0 * 2 = 0 from rfl, z0 a (by omega), z0 b (by omega), nI_or]; rfl
    · rw [show nI 1 / 2 = 0 by decide +kernel, show nI 1 - 0 * 2 = 1 from rfl, z0 a (by omega), nI_pow b (by omega), nI_or]; rfl
    · rw [show nI 2 / 2 = 1 by decide +kernel, show nI 2 - 1 * 2 = 0 by decide +kernel, nI_pow a (by omega), z0 b (by omega), nI_or]; rfl
    · rw [show nI 3 / 2 = 1 by decide +kernel, show nI 3 - 1 * 2 = 1 by decide +kernel, nI_pow a (by omega), nI_pow b (by omega), nI_or]; rfl
  rw [f_X10_two_87, if_neg (show ¬ (4 : Int32) ≤ nI i from nI_ge (b := 4) (by omega) (by omega)), e1, e_lwi hA hL hG hd (tb_lt ha hb) hN, ob, e_bits _ (p9 hk hr), ob, xa_in (vp_in_nI (by omega) (by omega)), nI_clamp (by omega), show nI i + 1 = nI (i + 1) from nI_1 _]
  rfl
theorem e_130 (a b N n : Nat) (rf : Nat → Int32) (k d L G : Nat) (kp mny : Nat → Int32) (ik cu : Int32) (P : Prop) {i j q : Nat} (hi : i < 4) (hj : j < 4) (hq : q < 4) (h2 : nI i ^^^ 2 = nI j) (h1 : nI i ^^^ 1 = nI q) {x y u v : Int32} (hx : 2 * (nI i / 2) = x) (hy : 2 * (1 - nI i / 2) = y) (hu : 2 * (nI i - nI i / 2 * 2) = u) (hv : 2 * (1 - (nI i - nI i / 2 * 2)) = v) {r : Int32} (hr : 10 * (nI i / 2) + (nI i - nI i / 2 * 2) = r) (hP : P ↔ (¬ mny i - x < mny j - y) ∧ ¬ mny q + v < mny i + u) :
    (P → f_X10_two_130 FU (nI a) (nI b) (nI N) (n + 1) (nI i) rf ka fa ca (nI k) (nI d) (nI L) (nI G) kp ik cu mny = some (r, rf, ka, fa, ca, nI k, nI d, nI L, nI G, kp, ik, cu, mny)) ∧ (¬ P → f_X10_two_130 FU (nI a) (nI b) (nI N) (n + 1) (nI i) rf ka fa ca (nI k) (nI d) (nI L) (nI G) kp ik cu mny = f_X10_two_130 FU (nI a) (nI b) (nI N) n (nI (i + 1)) rf ka fa ca (nI k) (nI d) (nI L) (nI G) kp ik cu mny) := by
  have ni : vp_in (nI i) 4 := vp_in_nI (by omega) (by omega)
  have nj : vp_in (nI j) 4 := vp_in_nI (by omega) (by omega)
  have nq : vp_in (nI q) 4 := vp_in_nI (by omega) (by omega)
  have e1 : nI i + 1 = nI (i + 1) := nI_1 _
  rw [f_X10_two_130, if_neg (show ¬ (4 : Int32) ≤ nI i from nI_ge (b := 4) (by omega) (by omega)), xa_in ni, h2, xa_in nj, nI_clamp (n := i) (by omega), nI_clamp (n := j) (by omega), hx, hy]
  unfold f_X10_two_176 f_X10_two_218 f_X10_two_243
  simp only [xa_in ni, h1, xa_in nq]
  rw [nI_clamp (n := i) (by omega), nI_clamp (n := q) (by omega), hu, hv, hr, e1]
  rw [hP]
  by_cases c1 : mny i - x < mny j - y
  · rw [if_pos c1]
    refine ⟨fun z => absurd c1 z.1, fun _ => ?_⟩
    split <;> rfl
  · rw [if_neg c1]
    by_cases c2 : mny q + v < mny i + u
    · rw [if_pos c2]
      exact ⟨fun z => absurd c2 z.2, fun _ => rfl⟩
    · rw [if_neg c2]
      exact ⟨fun _ => rfl, fun z => absurd ⟨c1, c2⟩ z⟩
theorem t_two (hA : AR k ka fa ca kd fg cs) (hL : L < 2 ^ k) (hG : G < 2 ^ k) (hd : d ≤ 999) (rf kp mny : Nat → Int32) (ik cu x y z : Int32) : ∃ (r : Int32) (rf' kp' mny' : Nat → Int32) (ik' cu' : Int32), f_X9_two FU ka fa ca (nI k) (nI L) (nI G) (nI d) rf x y z = some (r, rf') ∧ f_X10_two FU rf ka fa ca (nI k) (nI d) (nI L) (nI G) kp ik cu mny x y z = some (r, rf', ka, fa, ca, nI k, nI d, nI L, nI G, kp', ik', cu', mny') ∧ ∀ j, j < 62 → kp' j = kp j := by
  have hk := hA.1
  have hon := p9 hk (onl_lt cs k L G)
  unfold f_X9_two f_X10_two
  have nobody : (f_X9_two_27 FU ka fa ca (nI k) (nI L) (nI G) (nI d) x y z rf = some (-1, rfu rf 1)) ∧ (f_X10_two_21 FU x y z rf ka fa ca (nI k) (nI d) (nI L) (nI G) kp ik cu mny = some (-1, rfu rf 1, ka, fa, ca, nI k, nI d, nI L, nI G, kp, ik, cu, mny)) := by
    refine ⟨by rw [f_X9_two_27, e_ref1, ob], ?_⟩
    rw [f_X10_two_21, f_X10_two_32, e_nlm hA, ob, e_bare hk, ob, if_neg nm1, f_X10_two_72, if_neg nm1, e_no1, ob]
  rcases pk_ix x (n := k) (by omega) with h | h | ⟨a, ha, rfl⟩
  · exact ⟨-1, rfu rf 1, kp, mny, ik, cu, by rw [e_has0 (Or.inl h), ob, if_pos rfl]; exact nobody.1, by rw [e_isT0 (Or.inl h), ob, if_pos rfl]; exact nobody.2, fun _ _ => rfl⟩
  · exact ⟨-1, rfu rf 1, kp, mny, ik, cu, by rw [e_has0 (Or.inr h), ob, if_pos rfl]; exact nobody.1, by rw [e_isT0 (Or.inr h), ob, if_pos rfl]; exact nobody.2, fun _ _ => rfl⟩
  rw [e_has hk ha, ob, if_neg n10, e_isT hk ha, ob, if_neg n10]
  rcases pk_ix y (n := k) (by omega) with h | h | ⟨b, hb, rfl⟩
  · exact ⟨-1, rfu rf 1, kp, mny, ik, cu, by rw [e_has0 (Or.inl h), ob, if_pos rfl]; exact nobody.1, by rw [e_isT0 (Or.inl h), ob, if_pos rfl]; exact nobody.2, fun _ _ => rfl⟩
  · exact ⟨-1, rfu rf 1, kp, mny, ik, cu, by rw [e_has0 (Or.inr h), ob, if_pos rfl]; exact nobody.1, by rw [e_isT0 (Or.inr h), ob, if_pos rfl]; exact nobody.2, fun _ _ => rfl⟩
  rw [e_has hk hb, ob, if_neg n10, e_isT hk hb, ob, if_neg n10]
  by_cases hab : a = b
  · exact ⟨-1, rfu rf 1, kp, mny, ik, cu, by rw [if_pos (by rw [hab])]; exact nobody.1, by rw [if_pos (by rw [hab])]; exact nobody.2, fun _ _ => rfl⟩
  have hne : ¬ nI a = nI b := by rw [nI_eq (by omega) (by omega)]; exact hab
  rw [if_neg hne, if_neg hne]
  rcases e_b0_30 z with ⟨h1, h2⟩ | ⟨h1, h2⟩ | ⟨N, -, hN, rfl, h1, h2⟩
  · refine ⟨-4, rfu rf 4, kp, mny, ik, cu, ?_, ?_, fun _ _ => rfl⟩
    · rw [h1, ob, if_neg nm4, e_ref4, ob]
    · rw [h2, ob, f_X10_two_32, e_nlm hA, ob, e_bare hk, ob, if_neg nm4, f_X10_two_72, if_neg nm4, e_no4, ob]
  · refine ⟨-6, rfu rf 6, kp, mny, ik, cu, ?_, ?_, fun _ _ => rfl⟩
    · rw [h1, ob, if_neg nm6, e_ref6, ob]
    · rw [h2, ob, f_X10_two_32, e_nlm hA, ob, e_bare hk, ob, if_neg nm6, f_X10_two_72, if_neg nm6, e_no6, ob]
  rw [h1, ob, if_pos rfl, e_onl hA, ob, h2, ob, f_X10_two_32, e_nlm hA, ob, e_bare hk, ob, if_pos rfl, nI_and, nI_pow a (by omega), nI_pow b (by omega), nI_or, nI_and, show nlf cs k &&& ops k L G = onl cs k L G from rfl]
  have hpab : 2 ^ a ||| 2 ^ b < 2 ^ k := or_lt (pw_lt ha) (pw_lt hb)
  have hpab9 := p9 hk hpab
  have hlt1 : onl cs k L G &&& (2 ^ a ||| 2 ^ b) < 512 := Nat.lt_of_le_of_lt Nat.and_le_left hon
  have hboth : (nI (onl cs k L G &&& (2 ^ a ||| 2 ^ b)) = nI (2 ^ a ||| 2 ^ b)) ↔ ((onl cs k L G).testBit a = true ∧ (onl cs k L G).testBit b = true) := by
    rw [nI_eq (by omega) (by omega)]
    constructor
    · intro h
      have g : ∀ i, (onl cs k L G &&& (2 ^ a ||| 2 ^ b)).testBit i = (2 ^ a ||| 2 ^ b).testBit i := fun i => by rw [h]
      have ga := g a
      have gb := g b
      rw [Nat.testBit_and, Nat.testBit_or, Nat.testBit_two_pow, Nat.testBit_two_pow] at ga gb
      simp at ga gb
      exact ⟨ga, gb⟩
    · rintro ⟨g1, g2⟩
      refine Nat.eq_of_testBit_eq fun i => ?_
      rw [Nat.testBit_and, Nat.testBit_or, Nat.testBit_two_pow, Nat.testBit_two_pow]
      by_cases hia : a = i
      · subst hia; rw [g1]; simp
      · by_cases hib : b = i
        · subst hib; rw [g2]; simp
        · simp [hia, hib]
  have notso : (f_X10_two_68 FU (nI a) (nI b) (nI N) rf ka fa ca (nI k) (nI d) (nI L) (nI G) kp ik cu mny = some (-3, rfu rf 3, ka, fa, ca, nI k, nI d, nI L, nI G, kp, ik, cu, mny)) := by
    rw [f_X10_two_68, f_X10_two_72, if_neg nm3, e_no3, ob]
  by_cases hoa : (onl cs k L G).testBit a = true
  · by_cases hob : (onl cs k L G).testBit b = true
    · rw [if_pos (hboth.mpr ⟨hoa, hob⟩), e_mhasT (by omega) (by omega) hoa, ob, if_neg n10, e_mhasT (by omega) (by omega) hob, ob, if_neg n10, f_X10_two_72, if_pos rfl]
      obtain ⟨r, hr⟩ := F4_ex (stl (tm k kd fg cs L G d N) 0 0 (2 ^ a) (2 ^ b)) (stl (tm k kd fg cs L G d N) 0 (2 ^ b) (2 ^ a) (2 ^ b)) (stl (tm k kd fg cs L G d N) (2 ^ a) 0 (2 ^ a) (2 ^ b)) (stl (tm k kd fg cs L G d N) (2 ^ a) (2 ^ b) (2 ^ a) (2 ^ b))
      rw [e_fsc hA hL hd ha hb (by omega) hr, ob]
      have step : ∃ (kp' : Nat → Int32), (∀ j, j < 62 → kp' j = kp j) ∧ f_X10_two_87 FU (nI a) (nI b) (nI N) FU 0 rf ka fa ca (nI k) (nI d) (nI L) (nI G) kp ik cu mny = f_X10_two_130 FU (nI a) (nI b) (nI N) FU 0 rf ka fa ca (nI k) (nI d) (nI L) (nI G) kp' 0 (nI 93) (upd (upd (upd (upd mny 0 (tm k kd fg cs L G d N (tb a b 0))) 1 (tm k kd fg cs L G d N (tb a b 1))) 2 (tm k kd fg cs L G d N (tb a b 2))) 3 (tm k kd fg cs L G d N (tb a b 3))) := by
        refine ⟨SV (SV (SV (SV kp ka fa ca k d (L ||| tb a b 0) G) ka fa ca k d (L ||| tb a b 1) G) ka fa ca k d (L ||| tb a b 2) G) ka fa ca k d (L ||| tb a b 3) G, fun j hj => by rw [SV_lo _ _ _ _ _ _ _ _ hj, SV_lo _ _ _ _ _ _ _ _ hj, SV_lo _ _ _ _ _ _ _ _ hj, SV_lo _ _ _ _ _ _ _ _ hj], ?_⟩
        have hN' : N < 999 := by omega
        rw [show f_X10_two_87 FU (nI a) (nI b) (nI N) FU 0 = f_X10_two_87 FU (nI a) (nI b) (nI N) (995 + 1 + 1 + 1 + 1 + 1) (nI 0) from rfl, e_87 hA hL hG hd ha hb hN' rf _ (i := 0) (by omega), e_87 hA hL hG hd ha hb hN' rf _ (i := 1) (by omega), e_87 hA hL hG hd ha hb hN' rf _ (i := 2) (by omega), e_87 hA hL hG hd ha hb hN' rf _ (i := 3) (by omega), f_X10_two_87, if_pos (show (4 : Int32) ≤ nI (3 + 1) by decide)]
      obtain ⟨kp', hkp', hst⟩ := step
      refine ⟨r, rf, kp', (upd (upd (upd (upd mny 0 (tm k kd fg cs L G d N (tb a b 0))) 1 (tm k kd fg cs L G d N (tb a b 1))) 2 (tm k kd fg cs L G d N (tb a b 2))) 3 (tm k kd fg cs L G d N (tb a b 3))), 0, nI 93, rfl, ?_, hkp'⟩
      rw [hst]
      generalize hM : upd (upd (upd (upd mny 0 (tm k kd fg cs L G d N (tb a b 0))) 1 (tm k kd fg cs L G d N (tb a b 1))) 2 (tm k kd fg cs L G d N (tb a b 2))) 3 (tm k kd fg cs L G d N (tb a b 3)) = M
      have M0 : M 0 = tm k kd fg cs L G d N (0 ||| 0) := by rw [← hM]; rfl
      have M1 : M 1 = tm k kd fg cs L G d N (0 ||| 2 ^ b) := by rw [← hM]; rfl
      have M2 : M 2 = tm k kd fg cs L G d N (2 ^ a ||| 0) := by rw [← hM]; rfl
      have M3 : M 3 = tm k kd fg cs L G d N (2 ^ a ||| 2 ^ b) := by rw [← hM]; rfl
      have pa : pr (2 ^ a) = 2 := by unfold pr; rw [if_neg (by have := Nat.two_pow_pos a; omega)]
      have pb : pr (2 ^ b) = 2 := by unfold pr; rw [if_neg (by have := Nat.two_pow_pos b; omega)]
      have p0 : pr 0 = 0 := rfl
      have q0 := e_130 (ka := ka) (fa := fa) (ca := ca) a b N (995 + 1 + 1 + 1 + 1) rf k d L G kp' M 0 (nI 93) (stl (tm k kd fg cs L G d N) 0 0 (2 ^ a) (2 ^ b)) (i := 0) (j := 2) (q := 1) (by omega) (by omega) (by omega) (by decide +kernel) (by decide +kernel) (x := 0) (y := 2) (u := 0) (v := 2) (r := 0) (by decide +kernel) (by decide +kernel) (by decide +kernel) (by decide +kernel) (by decide +kernel) (by unfold stl; rw [Nat.zero_xor, Nat.zero_xor, pa, pb, p0, M0, M1, M2])
      have q1 := e_130 (ka := ka) (fa := fa) (ca := ca) a b N (995 + 1 + 1 + 1) rf k d L G kp' M 0 (nI 93) (stl (tm k kd fg cs L G d N) 0 (2 ^ b) (2 ^ a) (2 ^ b)) (i := 1) (j := 3) (q := 0) (by omega) (by omega) (by omega) (by decide +kernel) (by decide +kernel) (x := 0) (y := 2) (u := 2) (v := 0) (r := 1) (by decide +kernel) (by decide +kernel) (by decide +kernel) (by decide +kernel) (by decide +kernel) (by unfold stl; rw [Nat.zero_xor, Nat.xor_self, pa, pb, p0, M0, M1, M3])
      have q2 := e_130 (ka := ka) (fa := fa) (ca := ca) a b N (995 + 1 + 1) rf k d L G kp' M 0 (nI 93) (stl (tm k kd fg cs L G d N) (2 ^ a) 0 (2 ^ a) (2 ^ b)) (i := 2) (j := 0) (q := 3) (by omega) (by omega) (by omega) (by decide +kernel) (by decide +kernel) (x := 2) (y := 0) (u := 0) (v := 2) (r := 10) (by decide +kernel) (by decide +kernel) (by decide +kernel) (by decide +kernel) (by decide +kernel) (by unfold stl; rw [Nat.zero_xor, Nat.xor_self, pa, pb, p0, M0, M2, M3])
      have q3 := e_130 (ka := ka) (fa := fa) (ca := ca) a b N (995 + 1) rf k d L G kp' M 0 (nI 93) (stl (tm k kd fg cs L G d N) (2 ^ a) (2 ^ b) (2 ^ a) (2 ^ b)) (i := 3) (j := 1) (q := 2) (by omega) (by omega) (by omega) (by decide +kernel) (by decide +kernel) (x := 2) (y := 0) (u := 2) (v := 0) (r := 11) (by decide +kernel) (by decide +kernel) (by decide +kernel) (by decide +kernel) (by decide +kernel) (by unfold stl; rw [Nat.xor_self, Nat.xor_self, pa, pb, p0, M1, M2, M3])
      rw [show f_X10_two_130 FU (nI a) (nI b) (nI N) FU 0 = f_X10_two_130 FU (nI a) (nI b) (nI N) (995 + 1 + 1 + 1 + 1 + 1) (nI 0) from rfl]
      by_cases c0 : stl (tm k kd fg cs L G d N) 0 0 (2 ^ a) (2 ^ b)
      · rw [q0.1 c0, hr.1 c0]
      rw [q0.2 c0]
      by_cases c1 : stl (tm k kd fg cs L G d N) 0 (2 ^ b) (2 ^ a) (2 ^ b)
      · rw [q1.1 c1, hr.2.1 c0 c1]
      rw [q1.2 c1]
      by_cases c2 : stl (tm k kd fg cs L G d N) (2 ^ a) 0 (2 ^ a) (2 ^ b)
      · rw [q2.1 c2, hr.2.2.1 c0 c1 c2]
      rw [q2.2 c2]
      by_cases c3 : stl (tm k kd fg cs L G d N) (2 ^ a) (2 ^ b) (2 ^ a) (2 ^ b)
      · rw [q3.1 c3, hr.2.2.2.1 c0 c1 c2 c3]
      rw [q3.2 c3, f_X10_two_130, if_pos (show (4 : Int32) ≤ nI (3 + 1) by decide), hr.2.2.2.2 c0 c1 c2 c3]
    · refine ⟨-3, rfu rf 3, kp, mny, ik, cu, ?_, ?_, fun _ _ => rfl⟩
      · rw [if_neg (fun w => hob (hboth.mp w).2), e_ref3, ob]
      · rw [e_mhasT (by omega) (by omega) hoa, ob, if_neg n10, e_mhasF (by omega) (by omega) (bfalse hob), ob, if_pos rfl]
        exact notso
  · refine ⟨-3, rfu rf 3, kp, mny, ik, cu, ?_, ?_, fun _ _ => rfl⟩
    · rw [if_neg (fun w => hoa (hboth.mp w).1), e_ref3, ob]
    · rw [e_mhasF (by omega) (by omega) (bfalse hoa), ob, if_pos rfl]
      exact notso
end CH
