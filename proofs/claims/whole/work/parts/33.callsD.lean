/-! CALLS, fourth part: weak, worst, tack, key -/
theorem sdf_or (a b c : Nat) : sdf (sdf a b) c = sdf a (b ||| c) := Nat.eq_of_testBit_eq fun i => by
  rw [sdf_bit, sdf_bit, sdf_bit, Nat.testBit_or]
  cases a.testBit i <;> cases b.testBit i <;> cases c.testBit i <;> rfl
def ops (k L G : Nat) : Nat := sdf (2 ^ k - 1) (L ||| G)
def onl (cs : Nat → Nat) (k L G : Nat) : Nat := nlf cs k &&& ops k L G
theorem ops_bit {k L G i : Nat} (hi : i < k) : (ops k L G).testBit i = !(L ||| G).testBit i := by
  unfold ops
  rw [sdf_bit, Nat.testBit_two_pow_sub_one, decide_eq_true hi, Bool.true_and]
theorem ops_lt (k L G : Nat) : ops k L G < 2 ^ k := sdf_lt (by have := Nat.two_pow_pos k; omega)
theorem onl_lt (cs : Nat → Nat) (k L G : Nat) : onl cs k L G < 2 ^ k := Nat.lt_of_le_of_lt Nat.and_le_left (nlf_lt cs k)
/-- a guard on what is LOST or GUARDED changes nothing -/
theorem dayf_G {k : Nat} {kd fg cs : Nat → Nat} {L G G' d : Nat} (h : L ||| G' = L ||| G) : dayf k kd fg cs L G' d = dayf k kd fg cs L G d := by
  have : ∀ i, mr kd fg cs L G' d i = mr kd fg cs L G d i := by
    intro i
    induction i with
    | zero => rfl
    | succ i ih => rw [mr, mr, ih, h]
  unfold dayf
  rw [this]
theorem run_sub {k : Nat} {kd fg cs : Nat → Nat} {L G d t : Nat} (h : L.testBit t = true) : ∀ n, (run k kd fg cs L G d n).testBit t = true
  | 0 => h
  | n + 1 => by
    rw [run]
    unfold dayf
    rw [Nat.testBit_or, run_sub h n, Bool.true_or]
theorem run_G {k : Nat} {kd fg cs : Nat → Nat} {L G d t : Nat} (h : (L ||| G).testBit t = true) : ∀ n, run k kd fg cs L (G ||| 2 ^ t) d n = run k kd fg cs L G d n
  | 0 => rfl
  | n + 1 => by
    rw [run, run, run_G h n]
    refine dayf_G (Nat.eq_of_testBit_eq fun i => ?_)
    rw [Nat.testBit_or, Nat.testBit_or, Nat.testBit_or, Nat.testBit_two_pow]
    by_cases hi : t = i
    · subst hi
      rw [Nat.testBit_or] at h
      cases hL : L.testBit t with
      | true => rw [run_sub hL n]; simp
      | false => rw [hL, Bool.false_or] at h; rw [h]; simp
    · simp [hi]
/-- the first of those that come lower than all ahead of them -/
def wk (v : Nat → Nat) (op : Nat → Bool) (f0 : Nat) : Nat → Option Nat × Nat
  | 0 => (none, f0)
  | i + 1 => if op i = true ∧ v i < (wk v op f0 i).2 then (some i, v i) else wk v op f0 i
theorem wk_le (v : Nat → Nat) (op : Nat → Bool) (f0 : Nat) : ∀ i, (wk v op f0 i).2 ≤ f0
  | 0 => Nat.le_refl _
  | i + 1 => by
    have := wk_le v op f0 i
    rw [wk]
    split
    · dsimp only; omega
    · exact this
/-- .. and higher -/
def wr (v : Nat → Nat) (op : Nat → Bool) (f0 : Nat) : Nat → Option Nat × Nat
  | 0 => (none, f0)
  | i + 1 => if op i = true ∧ (wr v op f0 i).2 < v i then (some i, v i) else wr v op f0 i
theorem wr_le {v : Nat → Nat} {op : Nat → Bool} {f0 B : Nat} (h0 : f0 ≤ B) (hv : ∀ i, v i ≤ B) : ∀ i, (wr v op f0 i).2 ≤ B
  | 0 => h0
  | i + 1 => by
    rw [wr]
    split
    · exact hv i
    · exact wr_le h0 hv i
section CD
variable {k : Nat} {ka fa ca : Nat → Int32} {kd fg cs : Nat → Nat} {L G d : Nat}
theorem e_open (hk : k ≤ 9) : f_X7_open (nI k) (nI L) (nI G) = some (nI (ops k L G)) := by
  unfold f_X7_open f_X7_all
  rw [ob, e_all1' k hk, nI_sdf, nI_sdf, sdf_or]; rfl
theorem e_bare (hk : k ≤ 9) : f_X10_bare (nI k) (nI L) (nI G) = some (nI (ops k L G)) := by
  unfold f_X10_bare f_X10_all
  rw [ob, e_all1' k hk, nI_or, nI_sdf]; rfl
theorem e_onl (hA : AR k ka fa ca kd fg cs) : f_X7_openNails FU ca (nI k) (nI L) (nI G) = some (nI (onl cs k L G)) := by
  unfold f_X7_openNails
  rw [e_nlc hA, ob, e_open hA.1, ob, nI_and]; rfl
theorem e_lig (hA : AR k ka fa ca kd fg cs) (hL : L < 2 ^ k) (hd : d ≤ 999) {N : Nat} (hN : N < 999) (X : Nat) : f_X4_lostIfGuarded FU ka fa ca (nI k) (nI L) (nI G) (nI d) (nI X) (nI N) = some (nI (run k kd fg cs L (G ||| X) d N)) := by
  unfold f_X4_lostIfGuarded
  rw [nI_or, e_bds hA hL (by omega) hN, ob]
theorem e_lg (hA : AR k ka fa ca kd fg cs) (hL : L < 2 ^ k) (hG : G < 2 ^ k) (hd : d ≤ 999) {N X : Nat} (hX : X < 2 ^ k) (hN : N < 999) (kp : Nat → Int32) (ik cu : Int32) : f_X10_lostGuarding FU ka fa ca (nI k) (nI d) (nI L) (nI G) kp ik cu (nI X) (nI N) = some (nI (run k kd fg cs L (G ||| X) d N), ka, fa, ca, nI k, nI d, nI L, nI G, SV kp ka fa ca k d L (G ||| X), 0, nI 93) := by
  unfold f_X10_lostGuarding
  rw [nI_or, e_lostIn hA hL (or_lt hG hX) (by omega) hN, ob]
theorem e_lwi (hA : AR k ka fa ca kd fg cs) (hL : L < 2 ^ k) (hG : G < 2 ^ k) (hd : d ≤ 999) {N X : Nat} (hX : X < 2 ^ k) (hN : N < 999) (kp : Nat → Int32) (ik cu : Int32) : f_X10_lostWith FU ka fa ca (nI k) (nI d) (nI L) (nI G) kp ik cu (nI X) (nI N) = some (nI (run k kd fg cs (L ||| X) G d N), ka, fa, ca, nI k, nI d, nI L, nI G, SV kp ka fa ca k d (L ||| X) G, 0, nI 93) := by
  unfold f_X10_lostWith
  rw [nI_or, e_lostIn hA (or_lt hL hX) hG (by omega) hN, ob]
def wkv (k : Nat) (kd fg cs : Nat → Nat) (L G d N : Nat) : Nat → Nat := fun i => pcn (run k kd fg cs L (G ||| 2 ^ i) d N)
def wko (k L G : Nat) : Nat → Bool := fun i => (ops k L G).testBit i
theorem e_wkcL (hA : AR k ka fa ca kd fg cs) (hL : L < 2 ^ k) (hG : G < 2 ^ k) (hd : d ≤ 999) {N f0 : Nat} (hN : N < 999) (hf : f0 ≤ 9) : ∀ (j i n : Nat), i + j = k → j < n → f_X4_bestToGuard_19 FU ka fa ca (nI k) (nI L) (nI G) (nI d) (nI N) n (oI (wk (wkv k kd fg cs L G d N) (wko k L G) f0 i).1) (nI (wk (wkv k kd fg cs L G d N) (wko k L G) f0 i).2) (nI i) = some (oI (wk (wkv k kd fg cs L G d N) (wko k L G) f0 k).1) := by
  have hk := hA.1
  intro j
  induction j with
  | zero =>
    intro i n hi hn
    obtain ⟨n, rfl⟩ : ∃ z, n = z + 1 := ⟨n - 1, by omega⟩
    have : i = k := by omega
    subst this
    rw [f_X4_bestToGuard_19, if_pos (Int32.le_refl _)]
  | succ j ih =>
    intro i n hi hn
    obtain ⟨n, rfl⟩ : ∃ z, n = z + 1 := ⟨n - 1, by omega⟩
    have hik : i < k := by omega
    have nx := ih (i + 1) n (by omega) (by omega)
    have hG' : G ||| 2 ^ i < 2 ^ k := or_lt hG (pw_lt hik)
    have hr := p9 hk (run_lt (kd := kd) (fg := fg) (cs := cs) (G := G ||| 2 ^ i) (d := d) hL N)
    have hw := wk_le (wkv k kd fg cs L G d N) (wko k L G) f0 i
    rw [wk] at nx
    rw [f_X4_bestToGuard_19, if_neg (nI_ge hik (by omega)), e_open hk, ob]
    by_cases ho : (ops k L G).testBit i = true
    · rw [if_neg (fun z => by rw [(nI_has0 (by omega)).mp z] at ho; cases ho), nI_pow i (by omega), e_lig hA hL hd hN, ob, e_bc _ hr, ob]
      have hv : wkv k kd fg cs L G d N i = pcn (run k kd fg cs L (G ||| 2 ^ i) d N) := rfl
      have hp := pcn_le (run k kd fg cs L (G ||| 2 ^ i) d N)
      rw [← hv] at hp ⊢
      by_cases hc : wkv k kd fg cs L G d N i < (wk (wkv k kd fg cs L G d N) (wko k L G) f0 i).2
      · rw [if_neg (nI_ge hc (by omega)), f_X4_bestToGuard_68, show nI i + 1 = nI (i + 1) from nI_1 _]
        rw [if_pos ⟨ho, hc⟩] at nx
        exact nx
      · rw [if_pos (nI_le (by omega) (by omega)), f_X4_bestToGuard_68, show nI i + 1 = nI (i + 1) from nI_1 _]
        rw [if_neg (fun z => hc z.2)] at nx
        exact nx
    · rw [if_pos ((nI_has0 (by omega)).mpr (bfalse ho)), f_X4_bestToGuard_68, show nI i + 1 = nI (i + 1) from nI_1 _]
      rw [if_neg (fun z => ho z.1)] at nx
      exact nx
theorem e_wkmL (hA : AR k ka fa ca kd fg cs) (hL : L < 2 ^ k) (hG : G < 2 ^ k) (hd : d ≤ 999) {N : Nat} (hN : N < 999) (rf : Nat → Int32) : ∀ (j i n : Nat) (kp : Nat → Int32) (ik cu : Int32), i + j = k → j < n → ∃ (kp' : Nat → Int32) (ik' cu' : Int32), f_X10_weak_34 FU (nI N) n (oI (wk (wkv k kd fg cs L G d N) (wko k L G) (pcn (run k kd fg cs L G d N)) i).1) (nI (wk (wkv k kd fg cs L G d N) (wko k L G) (pcn (run k kd fg cs L G d N)) i).2) (nI i) rf ka fa ca (nI k) (nI d) (nI L) (nI G) kp ik cu = some (oI (wk (wkv k kd fg cs L G d N) (wko k L G) (pcn (run k kd fg cs L G d N)) k).1, rf, ka, fa, ca, nI k, nI d, nI L, nI G, kp', ik', cu') ∧ ∀ j, j < 62 → kp' j = kp j := by
  have hk := hA.1
  intro j
  induction j with
  | zero =>
    intro i n kp ik cu hi hn
    obtain ⟨n, rfl⟩ : ∃ z, n = z + 1 := ⟨n - 1, by omega⟩
    have : i = k := by omega
    subst this
    exact ⟨kp, ik, cu, by rw [f_X10_weak_34, if_pos (Int32.le_refl _)], fun _ _ => rfl⟩
  | succ j ih =>
    intro i n kp ik cu hi hn
    obtain ⟨n, rfl⟩ : ∃ z, n = z + 1 := ⟨n - 1, by omega⟩
    have hik : i < k := by omega
    have hr := p9 hk (run_lt (kd := kd) (fg := fg) (cs := cs) (G := G ||| 2 ^ i) (d := d) hL N)
    have hp0 := pcn_le (run k kd fg cs L G d N)
    have hw := wk_le (wkv k kd fg cs L G d N) (wko k L G) (pcn (run k kd fg cs L G d N)) i
    obtain ⟨kp', ik', cu', nx, nk⟩ := ih (i + 1) n (SV kp ka fa ca k d L (G ||| 2 ^ i)) 0 (nI 93) (by omega) (by omega)
    refine ⟨kp', ik', cu', ?_, fun j hj => by rw [nk j hj, SV_lo _ _ _ _ _ _ _ _ hj]⟩
    rw [wk] at nx
    rw [f_X10_weak_34, if_neg (nI_ge hik (by omega)), nI_pow i (by omega), e_lg hA hL hG hd (pw_lt hik) hN, ob, e_bits _ hr, ob]
    have hv : wkv k kd fg cs L G d N i = pcn (run k kd fg cs L (G ||| 2 ^ i) d N) := rfl
    have hp := pcn_le (run k kd fg cs L (G ||| 2 ^ i) d N)
    rw [← hv] at hp ⊢
    by_cases hc : wkv k kd fg cs L G d N i < (wk (wkv k kd fg cs L G d N) (wko k L G) (pcn (run k kd fg cs L G d N)) i).2
    · have ho : wko k L G i = true := by
        unfold wko
        rw [ops_bit hik]
        cases hb : (L ||| G).testBit i with
        | false => rfl
        | true =>
          exfalso
          rw [hv, run_G hb] at hc
          omega
      rw [if_pos (nI_lt hc (by omega)), f_X10_weak_74, show nI i + 1 = nI (i + 1) from nI_1 _]
      rw [if_pos ⟨ho, hc⟩] at nx
      exact nx
    · rw [if_neg (nI_nlt (by omega) (by omega)), f_X10_weak_74, show nI i + 1 = nI (i + 1) from nI_1 _]
      rw [if_neg (fun z => hc z.2)] at nx
      exact nx
theorem t_weak (hA : AR k ka fa ca kd fg cs) (hL : L < 2 ^ k) (hG : G < 2 ^ k) (hd : d ≤ 999) (rf kp : Nat → Int32) (ik cu x : Int32) : QI rf ka fa ca kp k d L G (f_X9_weak FU ka fa ca (nI k) (nI L) (nI G) (nI d) rf x) (f_X10_weak FU rf ka fa ca (nI k) (nI d) (nI L) (nI G) kp ik cu x) := by
  have hk := hA.1
  unfold f_X9_weak f_X10_weak
  rcases e_b0_30 x with ⟨h1, h2⟩ | ⟨h1, h2⟩ | ⟨n, -, hn, rfl, h1, h2⟩
  · refine ⟨-4, rfu rf 4, kp, ik, cu, ?_, ?_, fun _ _ => rfl⟩
    · rw [h1, ob, if_neg nm4, e_ref4, ob]
    · rw [h2, ob, if_neg nm4, e_no4, ob]
  · refine ⟨-6, rfu rf 6, kp, ik, cu, ?_, ?_, fun _ _ => rfl⟩
    · rw [h1, ob, if_neg nm6, e_ref6, ob]
    · rw [h2, ob, if_neg nm6, e_no6, ob]
  · have hr := p9 hk (run_lt (kd := kd) (fg := fg) (cs := cs) (G := G) (d := d) hL n)
    have hp0 := pcn_le (run k kd fg cs L G d n)
    obtain ⟨kp', ik', cu', m1, m2⟩ := e_wkmL hA hL hG hd (N := n) (by omega) rf k 0 FU (SV kp ka fa ca k d L G) 0 (nI 93) (by omega) (by unfold FU; omega)
    refine ⟨oI (wk (wkv k kd fg cs L G d n) (wko k L G) (pcn (run k kd fg cs L G d n)) k).1, rf, kp', ik', cu', ?_, ?_, fun j hj => by rw [m2 j hj, SV_lo _ _ _ _ _ _ _ _ hj]⟩
    · rw [h1, ob, if_pos rfl, f_X4_bestToGuard, e_lb hA hL (by omega) (by omega), ob, e_bc _ hr, ob, show f_X4_bestToGuard_19 FU ka fa ca (nI k) (nI L) (nI G) (nI d) (nI n) FU (-9) (nI (pcn (run k kd fg cs L G d n))) 0 = _ from e_wkcL hA hL hG hd (N := n) (f0 := pcn (run k kd fg cs L G d n)) (by omega) hp0 k 0 FU (by omega) (by unfold FU; omega), ob]
    · rw [h2, ob, if_pos rfl, e_lostIn hA hL hG (by omega) (by omega), ob, e_bits _ hr, ob]
      exact m1
def wrv (k : Nat) (kd fg cs : Nat → Nat) (L G d N : Nat) : Nat → Nat := fun i => pcn (run k kd fg cs (L ||| 2 ^ i) G d N)
def wro (cs : Nat → Nat) (k L G : Nat) : Nat → Bool := fun i => (onl cs k L G).testBit i
theorem wrv_le (k : Nat) (kd fg cs : Nat → Nat) (L G d N : Nat) : ∀ i, wrv k kd fg cs L G d N i ≤ 9 := fun i => pcn_le _
theorem e_wrcL (hA : AR k ka fa ca kd fg cs) (hL : L < 2 ^ k) (hd : d ≤ 999) {N f0 : Nat} (hN : N < 999) (hf : f0 ≤ 9) : ∀ (j i n : Nat), i + j = k → j < n → f_X4_worstNail_25 FU ka fa ca (nI k) (nI L) (nI G) (nI d) (nI N) n (oI (wr (wrv k kd fg cs L G d N) (wro cs k L G) f0 i).1) (nI (wr (wrv k kd fg cs L G d N) (wro cs k L G) f0 i).2) (nI (onl cs k L G)) (nI i) = some (oI (wr (wrv k kd fg cs L G d N) (wro cs k L G) f0 k).1) := by
  have hk := hA.1
  intro j
  induction j with
  | zero =>
    intro i n hi hn
    obtain ⟨n, rfl⟩ : ∃ z, n = z + 1 := ⟨n - 1, by omega⟩
    have : i = k := by omega
    subst this
    rw [f_X4_worstNail_25, if_pos (Int32.le_refl _)]
  | succ j ih =>
    intro i n hi hn
    obtain ⟨n, rfl⟩ : ∃ z, n = z + 1 := ⟨n - 1, by omega⟩
    have hik : i < k := by omega
    have nx := ih (i + 1) n (by omega) (by omega)
    have hL' : L ||| 2 ^ i < 2 ^ k := or_lt hL (pw_lt hik)
    have hr := p9 hk (run_lt (kd := kd) (fg := fg) (cs := cs) (G := G) (d := d) hL' N)
    have hw := wr_le (op := wro cs k L G) hf (wrv_le k kd fg cs L G d N) i
    rw [wr] at nx
    rw [f_X4_worstNail_25, if_neg (nI_ge hik (by omega))]
    by_cases ho : (onl cs k L G).testBit i = true
    · rw [if_neg (fun z => by rw [(nI_has0 (by omega)).mp z] at ho; cases ho), nI_pow i (by omega), nI_or, e_lb hA hL' (by omega) hN, ob, e_bc _ hr, ob]
      have hv : wrv k kd fg cs L G d N i = pcn (run k kd fg cs (L ||| 2 ^ i) G d N) := rfl
      have hp := wrv_le k kd fg cs L G d N i
      rw [← hv]
      by_cases hc : (wr (wrv k kd fg cs L G d N) (wro cs k L G) f0 i).2 < wrv k kd fg cs L G d N i
      · rw [if_neg (nI_ge hc (by omega)), f_X4_worstNail_75, show nI i + 1 = nI (i + 1) from nI_1 _]
        rw [if_pos ⟨ho, hc⟩] at nx
        exact nx
      · rw [if_pos (nI_le (by omega) (by omega)), f_X4_worstNail_75, show nI i + 1 = nI (i + 1) from nI_1 _]
        rw [if_neg (fun z => hc z.2)] at nx
        exact nx
    · rw [if_pos ((nI_has0 (by omega)).mpr (bfalse ho)), f_X4_worstNail_75, show nI i + 1 = nI (i + 1) from nI_1 _]
      rw [if_neg (fun z => ho z.1)] at nx
      exact nx
theorem e_wrmL (hA : AR k ka fa ca kd fg cs) (hL : L < 2 ^ k) (hG : G < 2 ^ k) (hd : d ≤ 999) {N f0 : Nat} (hN : N < 999) (hf : f0 ≤ 9) (rf : Nat → Int32) : ∀ (j i n : Nat) (kp : Nat → Int32) (ik cu : Int32), i + j = k → j < n → ∃ (kp' : Nat → Int32) (ik' cu' : Int32), f_X10_worst_45 FU (nI N) n (nI (onl cs k L G)) (oI (wr (wrv k kd fg cs L G d N) (wro cs k L G) f0 i).1) (nI (wr (wrv k kd fg cs L G d N) (wro cs k L G) f0 i).2) (nI i) rf ka fa ca (nI k) (nI d) (nI L) (nI G) kp ik cu = some (oI (wr (wrv k kd fg cs L G d N) (wro cs k L G) f0 k).1, rf, ka, fa, ca, nI k, nI d, nI L, nI G, kp', ik', cu') ∧ ∀ j, j < 62 → kp' j = kp j := by
  have hk := hA.1
  have hon := p9 hk (onl_lt cs k L G)
  intro j
  induction j with
  | zero =>
    intro i n kp ik cu hi hn
    obtain ⟨n, rfl⟩ : ∃ z, n = z + 1 := ⟨n - 1, by omega⟩
    have : i = k := by omega
    subst this
    exact ⟨kp, ik, cu, by rw [f_X10_worst_45, if_pos (Int32.le_refl _)], fun _ _ => rfl⟩
  | succ j ih =>
    intro i n kp ik cu hi hn
    obtain ⟨n, rfl⟩ : ∃ z, n = z + 1 := ⟨n - 1, by omega⟩
    have hik : i < k := by omega
    have hL' : L ||| 2 ^ i < 2 ^ k := or_lt hL (pw_lt hik)
    have hr := p9 hk (run_lt (kd := kd) (fg := fg) (cs := cs) (G := G) (d := d) hL' N)
    have hw := wr_le (op := wro cs k L G) hf (wrv_le k kd fg cs L G d N) i
    by_cases ho : (onl cs k L G).testBit i = true
    · obtain ⟨kp', ik', cu', nx, nk⟩ := ih (i + 1) n (SV kp ka fa ca k d (L ||| 2 ^ i) G) 0 (nI 93) (by omega) (by omega)
      refine ⟨kp', ik', cu', ?_, fun j hj => by rw [nk j hj, SV_lo _ _ _ _ _ _ _ _ hj]⟩
      rw [wr] at nx
      rw [f_X10_worst_45, if_neg (nI_ge hik (by omega)), e_mhasT (by omega) (by omega) ho, ob, if_neg n10, nI_pow i (by omega), e_lwi hA hL hG hd (pw_lt hik) hN, ob, e_bits _ hr, ob, f_X10_worst_79]
      have hv : wrv k kd fg cs L G d N i = pcn (run k kd fg cs (L ||| 2 ^ i) G d N) := rfl
      have hp := wrv_le k kd fg cs L G d N i
      rw [← hv]
      by_cases hc : (wr (wrv k kd fg cs L G d N) (wro cs k L G) f0 i).2 < wrv k kd fg cs L G d N i
      · rw [if_pos (nI_lt hc (by omega)), f_X10_worst_99, show nI i + 1 = nI (i + 1) from nI_1 _]
        rw [if_pos ⟨ho, hc⟩] at nx
        exact nx
      · rw [if_neg (nI_nlt (by omega) (by omega)), f_X10_worst_99, show nI i + 1 = nI (i + 1) from nI_1 _]
        rw [if_neg (fun z => hc z.2)] at nx
        exact nx
    · obtain ⟨kp', ik', cu', nx, nk⟩ := ih (i + 1) n kp ik cu (by omega) (by omega)
      refine ⟨kp', ik', cu', ?_, nk⟩
      rw [wr, if_neg (fun z => ho z.1)] at nx
      rw [f_X10_worst_45, if_neg (nI_ge hik (by omega)), e_mhasF (by omega) (by omega) (bfalse ho), ob, if_pos rfl, f_X10_worst_79, if_neg (show ¬ nI (wr (wrv k kd fg cs L G d N) (wro cs k L G) f0 i).2 < 0 from nI_pos (by omega)), f_X10_worst_99, show nI i + 1 = nI (i + 1) from nI_1 _]
      exact nx
theorem t_worst (hA : AR k ka fa ca kd fg cs) (hL : L < 2 ^ k) (hG : G < 2 ^ k) (hd : d ≤ 999) (rf kp : Nat → Int32) (ik cu x : Int32) : QI rf ka fa ca kp k d L G (f_X9_worst FU ka fa ca (nI k) (nI L) (nI G) (nI d) rf x) (f_X10_worst FU rf ka fa ca (nI k) (nI d) (nI L) (nI G) kp ik cu x) := by
  have hk := hA.1
  unfold f_X9_worst f_X10_worst
  rcases e_b0_30 x with ⟨h1, h2⟩ | ⟨h1, h2⟩ | ⟨n, -, hn, rfl, h1, h2⟩
  · refine ⟨-4, rfu rf 4, kp, ik, cu, ?_, ?_, fun _ _ => rfl⟩
    · rw [h1, ob, if_neg nm4, e_ref4, ob]
    · rw [h2, ob, if_neg nm4, e_no4, ob]
  · refine ⟨-6, rfu rf 6, kp, ik, cu, ?_, ?_, fun _ _ => rfl⟩
    · rw [h1, ob, if_neg nm6, e_ref6, ob]
    · rw [h2, ob, if_neg nm6, e_no6, ob]
  · have hr := p9 hk (run_lt (kd := kd) (fg := fg) (cs := cs) (G := G) (d := d) hL n)
    have hp0 := pcn_le (run k kd fg cs L G d n)
    obtain ⟨kp', ik', cu', m1, m2⟩ := e_wrmL hA hL hG hd (N := n) (f0 := pcn (run k kd fg cs L G d n)) (by omega) hp0 rf k 0 FU (SV kp ka fa ca k d L G) 0 (nI 93) (by omega) (by unfold FU; omega)
    refine ⟨oI (wr (wrv k kd fg cs L G d n) (wro cs k L G) (pcn (run k kd fg cs L G d n)) k).1, rf, kp', ik', cu', ?_, ?_, fun j hj => by rw [m2 j hj, SV_lo _ _ _ _ _ _ _ _ hj]⟩
    · rw [h1, ob, if_pos rfl, f_X4_worstNail, e_lb hA hL (by omega) (by omega), ob, e_bc _ hr, ob, e_onl hA, ob, show f_X4_worstNail_25 FU ka fa ca (nI k) (nI L) (nI G) (nI d) (nI n) FU (-9) (nI (pcn (run k kd fg cs L G d n))) (nI (onl cs k L G)) 0 = _ from e_wrcL hA hL hd (N := n) (f0 := pcn (run k kd fg cs L G d n)) (by omega) hp0 k 0 FU (by omega) (by unfold FU; omega), ob]
    · rw [h2, ob, if_pos rfl, e_nlm hA, ob, e_bare hk, ob, e_lostIn hA hL hG (by omega) (by omega), ob, e_bits _ hr, ob, nI_and]
      exact m1
end CD
