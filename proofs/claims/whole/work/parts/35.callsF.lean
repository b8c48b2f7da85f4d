/-! CALLS, sixth part: fewest, guard, key, judge -/
def ft (ok : Nat → Bool) : Nat → Option Nat
  | 0 => none
  | s + 1 => match ft ok s with
    | none => if ok s = true then some s else none
    | some b => if ok s = true ∧ pcn s < pcn b then some s else some b
def FtP (ok : Nat → Bool) (M : Nat) (o : Option Nat) : Prop := match o with
  | none => ∀ s, s < M → ok s = false
  | some b => b < M ∧ ok b = true ∧ ∀ s, s < M → ok s = true → pcn b < pcn s ∨ (pcn b = pcn s ∧ b ≤ s)
theorem ft_P (ok : Nat → Bool) : ∀ M, FtP ok M (ft ok M)
  | 0 => fun s h => absurd h (by omega)
  | M + 1 => by
    have ih := ft_P ok M
    rw [ft]
    cases hm : ft ok M with
    | none =>
      rw [hm] at ih
      dsimp only
      by_cases ho : ok M = true
      · rw [if_pos ho]
        refine ⟨by omega, ho, fun s hs hk => ?_⟩
        by_cases hsM : s = M
        · subst hsM; exact Or.inr ⟨rfl, Nat.le_refl _⟩
        · rw [ih s (by omega)] at hk; cases hk
      · rw [if_neg ho]
        intro s hs
        by_cases hsM : s = M
        · subst hsM; exact bfalse ho
        · exact ih s (by omega)
    | some b =>
      rw [hm] at ih
      dsimp only
      by_cases hc : ok M = true ∧ pcn M < pcn b
      · rw [if_pos hc]
        refine ⟨by omega, hc.1, fun s hs hk => ?_⟩
        by_cases hsM : s = M
        · subst hsM; exact Or.inr ⟨rfl, Nat.le_refl _⟩
        · rcases ih.2.2 s (by omega) hk with h | h
          · exact Or.inl (by omega)
          · exact Or.inl (by omega)
      · rw [if_neg hc]
        refine ⟨by have := ih.1; omega, ih.2.1, fun s hs hk => ?_⟩
        by_cases hsM : s = M
        · subst hsM
          have hb := ih.1
          have : ¬ pcn s < pcn b := fun z => hc ⟨hk, z⟩
          rcases Nat.lt_or_ge (pcn b) (pcn s) with h | h
          · exact Or.inl h
          · exact Or.inr ⟨by omega, by omega⟩
        · exact ih.2.2 s (by omega) hk
theorem FtP_uniq {ok : Nat → Bool} {M : Nat} {a b : Option Nat} (ha : FtP ok M a) (hb : FtP ok M b) : a = b := by
  cases a with
  | none =>
    cases b with
    | none => rfl
    | some b => have := ha b hb.1; rw [hb.2.1] at this; cases this
  | some a =>
    cases b with
    | none => have := hb a ha.1; rw [ha.2.1] at this; cases this
    | some b =>
      have h1 := ha.2.2 b hb.1 hb.2.1
      have h2 := hb.2.2 a ha.1 ha.2.1
      congr 1
      omega
theorem run_mono {k : Nat} {kd fg cs : Nat → Nat} {L G d t n : Nat} (h : (run k kd fg cs L G d n).testBit t = true) : ∀ m, (run k kd fg cs L G d (n + m)).testBit t = true := by
  intro m
  rw [run_add]
  exact run_sub h m
theorem fw_nil {P : Nat → Bool} : ∀ {j i : Nat}, fw P j i = none → ∀ s, i ≤ s → s < i + j → P s = false
  | 0, _, _, s, h1, h2 => absurd h2 (by omega)
  | j + 1, i, h, s, h1, h2 => by
    rw [fw] at h
    by_cases hp : P i = true
    · rw [if_pos hp] at h; cases h
    · rw [if_neg hp] at h
      by_cases hs : s = i
      · subst hs; exact bfalse hp
      · exact fw_nil h s (by omega) (by omega)
theorem whn_none {k : Nat} {kd fg cs : Nat → Nat} {L G d t : Nat} : whn k kd fg cs L G d t = none ↔ (run k kd fg cs L G d 60).testBit t = false := by
  constructor
  · intro h
    exact fw_nil h 60 (by omega) (by omega)
  · intro h
    refine fw_none fun s _ hs => ?_
    cases hb : (run k kd fg cs L G d s).testBit t with
    | false => rfl
    | true =>
      have := run_mono hb (60 - s)
      rw [show s + (60 - s) = 60 by omega, h] at this
      cases this
theorem sub0 (s o : Nat) : (nI s &&& (nI o ^^^ (-1)) = 0) ↔ (sdf s o = 0 ∨ 2 ^ 31 ≤ sdf s o ∧ nI (sdf s o) = 0) := by
  rw [nI_sdf, show (0 : Int32) = nI 0 from rfl]
  rcases Nat.lt_or_ge (sdf s o) (2 ^ 31) with h | h
  · rw [nI_eq h (by omega)]
    constructor
    · exact fun z => Or.inl z
    · rintro (z | z)
      · exact z
      · omega
  · constructor
    · exact fun z => Or.inr ⟨h, z⟩
    · rintro (z | z)
      · omega
      · exact z.2
theorem sub0' {s o : Nat} (hs : s < 512) : (nI s &&& (nI o ^^^ (-1)) = 0) ↔ sdf s o = 0 := by
  have h9 : sdf s o < 2 ^ 9 := sdf_lt hs
  rw [sub0]
  constructor
  · rintro (z | z)
    · exact z
    · omega
  · exact fun z => Or.inl z
section CF
variable {k : Nat} {ka fa ca : Nat → Int32} {kd fg cs : Nat → Nat} {L G d : Nat}
def fwok (k : Nat) (kd fg cs : Nat → Nat) (L G d t : Nat) : Nat → Bool := fun s => decide (sdf s (onl cs k L G) = 0) && (run k kd fg cs (L ||| s) G d 60).testBit t
def c10 (o : Option Nat) : Nat := match o with
  | none => 10
  | some b => pcn b
theorem e_flcL (hA : AR k ka fa ca kd fg cs) (hL : L < 2 ^ k) (hd : d ≤ 999) {t : Nat} (ht : t < k) : ∀ (j s n : Nat), s + j = 2 ^ k → j < n → f_X4_fewestToLose_15 FU ka fa ca (nI k) (nI L) (nI G) (nI d) (nI t) n (oI (ft (fwok k kd fg cs L G d t) s)) (nI (c10 (ft (fwok k kd fg cs L G d t) s))) (nI (onl cs k L G)) (nI s) = some (oI (ft (fwok k kd fg cs L G d t) (2 ^ k))) := by
  have hk := hA.1
  have h512 : 2 ^ k ≤ 512 := Nat.pow_le_pow_right (n := 2) (by omega) hk
  have hpos := Nat.two_pow_pos k
  intro j
  induction j with
  | zero =>
    intro s n hs hn
    obtain ⟨n, rfl⟩ : ∃ z, n = z + 1 := ⟨n - 1, by omega⟩
    have : s = 2 ^ k := by omega
    subst this
    rw [f_X4_fewestToLose_15, f_X7_all, e_all1' k hk, ob, if_pos (nI_lt (by omega) (by omega))]
  | succ j ih =>
    intro s n hs hn
    obtain ⟨n, rfl⟩ : ∃ z, n = z + 1 := ⟨n - 1, by omega⟩
    have nx := ih (s + 1) n (by omega) (by omega)
    rw [ft] at nx
    have e1 : nI s + 1 = nI (s + 1) := nI_1 _
    have hL' : L ||| s < 2 ^ k := or_lt hL (by omega)
    have hps := pcn_le s
    rw [f_X4_fewestToLose_15, f_X7_all, e_all1' k hk, ob, if_neg (nI_nlt (by omega) (by omega))]
    have skip : (∀ b, fwok k kd fg cs L G d t s = true → ft (fwok k kd fg cs L G d t) s = some b → ¬ pcn s < pcn b) → (ft (fwok k kd fg cs L G d t) s = none → fwok k kd fg cs L G d t s = false) → f_X4_fewestToLose_81 FU ka fa ca (nI k) (nI L) (nI G) (nI d) (nI t) (f_X4_fewestToLose_15 FU ka fa ca (nI k) (nI L) (nI G) (nI d) (nI t) n) (oI (ft (fwok k kd fg cs L G d t) s)) (nI (c10 (ft (fwok k kd fg cs L G d t) s))) (nI (onl cs k L G)) (nI s) = some (oI (ft (fwok k kd fg cs L G d t) (2 ^ k))) := by
      intro h1 h2
      rw [f_X4_fewestToLose_81, e1]
      cases hm : ft (fwok k kd fg cs L G d t) s with
      | none => rw [hm, h2 hm] at nx; exact nx
      | some b =>
        rw [hm] at nx
        dsimp only at nx
        rw [if_neg (fun z => h1 b z.1 hm z.2)] at nx
        exact nx
    by_cases hsub : sdf s (onl cs k L G) = 0
    · rw [if_pos ((sub0' (by omega)).mpr hsub), e_bc _ (by omega), ob]
      have hc10 : c10 (ft (fwok k kd fg cs L G d t) s) ≤ 10 := by
        cases ft (fwok k kd fg cs L G d t) s with
        | none => exact Nat.le_refl _
        | some b => have := pcn_le b; show pcn b ≤ 10; omega
      by_cases hc : pcn s < c10 (ft (fwok k kd fg cs L G d t) s)
      · rw [if_neg (nI_ge hc (by omega)), f_X4_fewestToLose_48, if_neg n10, nI_or, e_dul hA hL' (by omega) (by omega), ob]
        cases hw : whn k kd fg cs (L ||| s) G d t with
        | none =>
          rw [if_pos (show oI none = -9 from rfl)]
          have hP := whn_none.mp hw
          have hno : fwok k kd fg cs L G d t s = false := by unfold fwok; rw [hP, Bool.and_false]
          exact skip (fun b hb _ => by rw [hno] at hb; cases hb) (fun _ => hno)
        | some m =>
          have hm60 := whn_le hw
          rw [if_neg (fun z => by cases (oI_m9 (o := some m) (fun q h => by cases h; exact hm60)).mp z), e_bc _ (by omega), ob, f_X4_fewestToLose_81, e1]
          have hP : (run k kd fg cs (L ||| s) G d 60).testBit t = true := btrue (fun z => by rw [whn_none.mpr z] at hw; cases hw)
          have hok : fwok k kd fg cs L G d t s = true := by unfold fwok; rw [hP, Bool.and_true]; exact decide_eq_true hsub
          cases hm : ft (fwok k kd fg cs L G d t) s with
          | none => rw [hm] at nx; dsimp only at nx; rw [if_pos hok] at nx; exact nx
          | some b =>
            rw [hm] at nx hc
            dsimp only at nx
            rw [if_pos ⟨hok, hc⟩] at nx
            exact nx
      · rw [if_pos (nI_le (by omega) (by omega)), f_X4_fewestToLose_47, f_X4_fewestToLose_48, if_pos rfl]
        refine skip (fun b _ hb => ?_) (fun hb => ?_)
        · rw [hb] at hc; exact hc
        · rw [hb] at hc
          have : ¬ pcn s < 10 := hc
          omega
    · rw [if_neg (fun z => hsub ((sub0' (by omega)).mp z)), f_X4_fewestToLose_47, f_X4_fewestToLose_48, if_pos rfl]
      have hno : fwok k kd fg cs L G d t s = false := by unfold fwok; rw [decide_eq_false hsub, Bool.false_and]
      exact skip (fun b hb _ => by rw [hno] at hb; cases hb) (fun _ => hno)
theorem e_flmL (hA : AR k ka fa ca kd fg cs) (hL : L < 2 ^ k) (hG : G < 2 ^ k) (hd : d ≤ 999) {t : Nat} (ht : t < k) (rf : Nat → Int32) : ∀ (j s n : Nat) (kp : Nat → Int32) (ik cu : Int32), s + j = 2 ^ k → j < n → ∃ (kp' : Nat → Int32) (ik' cu' : Int32), f_X10_fewest_30 FU (nI t) n (nI (onl cs k L G)) (oI (ft (fwok k kd fg cs L G d t) s)) (nI s) rf ka fa ca (nI k) (nI d) (nI L) (nI G) kp ik cu = some (oI (ft (fwok k kd fg cs L G d t) (2 ^ k)), rf, ka, fa, ca, nI k, nI d, nI L, nI G, kp', ik', cu') ∧ ∀ j, j < 62 → kp' j = kp j := by
  have hk := hA.1
  have h512 : 2 ^ k ≤ 512 := Nat.pow_le_pow_right (n := 2) (by omega) hk
  have hpos := Nat.two_pow_pos k
  intro j
  induction j with
  | zero =>
    intro s n kp ik cu hs hn
    obtain ⟨n, rfl⟩ : ∃ z, n = z + 1 := ⟨n - 1, by omega⟩
    have : s = 2 ^ k := by omega
    subst this
    exact ⟨kp, ik, cu, by rw [f_X10_fewest_30, f_X10_all, e_all1' k hk, ob, if_pos (nI_lt (by omega) (by omega))], fun _ _ => rfl⟩
  | succ j ih =>
    intro s n kp ik cu hs hn
    obtain ⟨n, rfl⟩ : ∃ z, n = z + 1 := ⟨n - 1, by omega⟩
    have e1 : nI s + 1 = nI (s + 1) := nI_1 _
    have hL' : L ||| s < 2 ^ k := or_lt hL (by omega)
    have hr := p9 hk (run_lt (kd := kd) (fg := fg) (cs := cs) (G := G) (d := d) hL' 60)
    have hps := pcn_le s
    have hF := ft_P (fwok k kd fg cs L G d t) s
    rw [f_X10_fewest_30, f_X10_all, e_all1' k hk, ob, if_neg (nI_nlt (by omega) (by omega))]
    have skip : ft (fwok k kd fg cs L G d t) (s + 1) = ft (fwok k kd fg cs L G d t) s → ∃ (kp' : Nat → Int32) (ik' cu' : Int32), f_X10_fewest_85 FU (nI t) (f_X10_fewest_30 FU (nI t) n) (nI (onl cs k L G)) (oI (ft (fwok k kd fg cs L G d t) s)) (nI s) rf ka fa ca (nI k) (nI d) (nI L) (nI G) kp ik cu = some (oI (ft (fwok k kd fg cs L G d t) (2 ^ k)), rf, ka, fa, ca, nI k, nI d, nI L, nI G, kp', ik', cu') ∧ ∀ j, j < 62 → kp' j = kp j := by
      intro h1
      obtain ⟨kp', ik', cu', nx, nk⟩ := ih (s + 1) n kp ik cu (by omega) (by omega)
      rw [h1] at nx
      exact ⟨kp', ik', cu', by rw [f_X10_fewest_85, e1]; exact nx, nk⟩
    have take : sdf s (onl cs k L G) = 0 → (∀ b, ft (fwok k kd fg cs L G d t) s = some b → pcn s < pcn b) → ∃ (kp' : Nat → Int32) (ik' cu' : Int32), f_X10_fewest_67 FU (nI t) (f_X10_fewest_30 FU (nI t) n) (nI (onl cs k L G)) (oI (ft (fwok k kd fg cs L G d t) s)) (nI s) rf ka fa ca (nI k) (nI d) (nI L) (nI G) kp ik cu = some (oI (ft (fwok k kd fg cs L G d t) (2 ^ k)), rf, ka, fa, ca, nI k, nI d, nI L, nI G, kp', ik', cu') ∧ ∀ j, j < 62 → kp' j = kp j := by
      intro hsub hlt
      obtain ⟨kp', ik', cu', nx, nk⟩ := ih (s + 1) n (SV kp ka fa ca k d (L ||| s) G) 0 (nI 93) (by omega) (by omega)
      refine ⟨kp', ik', cu', ?_, fun j hj => by rw [nk j hj, SV_lo _ _ _ _ _ _ _ _ hj]⟩
      rw [f_X10_fewest_67, show (60 : Int32) = nI 60 from rfl, e_lwi hA hL hG hd (by omega) (by omega), ob]
      rw [ft] at nx
      by_cases hP : (run k kd fg cs (L ||| s) G d 60).testBit t = true
      · rw [e_mhasT (by omega) (by omega) hP, ob, if_neg n10, f_X10_fewest_85, e1]
        have hok : fwok k kd fg cs L G d t s = true := by unfold fwok; rw [hP, Bool.and_true]; exact decide_eq_true hsub
        cases hm : ft (fwok k kd fg cs L G d t) s with
        | none => rw [hm] at nx; dsimp only at nx; rw [if_pos hok] at nx; exact nx
        | some b =>
          rw [hm] at nx
          dsimp only at nx
          rw [if_pos ⟨hok, hlt b hm⟩] at nx
          exact nx
      · rw [e_mhasF (by omega) (by omega) (bfalse hP), ob, if_pos rfl, f_X10_fewest_85, e1]
        have hno : fwok k kd fg cs L G d t s = false := by unfold fwok; rw [bfalse hP, Bool.and_false]
        cases hm : ft (fwok k kd fg cs L G d t) s with
        | none => rw [hm, hno] at nx; exact nx
        | some b => rw [hm, hno] at nx; dsimp only at nx; rw [if_neg (fun z => by cases z.1)] at nx; exact nx
    by_cases hsub : sdf s (onl cs k L G) = 0
    · rw [if_pos ((sub0' (by omega)).mpr hsub)]
      cases hm : ft (fwok k kd fg cs L G d t) s with
      | none =>
        rw [hm] at take
        rw [if_pos (show oI none < 0 by decide)]
        exact take hsub (fun b h => by cases h)
      | some b =>
        rw [hm] at take skip hF
        have hb := hF.1
        have hpb := pcn_le b
        rw [if_neg (show ¬ oI (some b) < 0 from nI_pos (n := b) (by omega)), e_bits _ (by omega), ob, show oI (some b) = nI b from rfl, e_bits _ (by omega), ob]
        by_cases hc : pcn s < pcn b
        · rw [if_pos (nI_lt hc (by omega))]
          exact take hsub (fun b' h => by cases h; exact hc)
        · rw [if_neg (nI_nlt (by omega) (by omega))]
          refine skip ?_
          rw [ft, hm]
          exact if_neg (fun z => hc z.2)
    · rw [if_neg (fun z => hsub ((sub0' (by omega)).mp z))]
      have hno : fwok k kd fg cs L G d t s = false := by unfold fwok; rw [decide_eq_false hsub, Bool.false_and]
      refine skip ?_
      rw [ft, hno]
      cases hm : ft (fwok k kd fg cs L G d t) s with
      | none => rfl
      | some b => exact if_neg (fun z => by cases z.1)
theorem t_fewest (hA : AR k ka fa ca kd fg cs) (hL : L < 2 ^ k) (hG : G < 2 ^ k) (hd : d ≤ 999) (rf kp : Nat → Int32) (ik cu x : Int32) : QI rf ka fa ca kp k d L G (f_X9_fewest FU ka fa ca (nI k) (nI L) (nI G) (nI d) rf x) (f_X10_fewest FU rf ka fa ca (nI k) (nI d) (nI L) (nI G) kp ik cu x) := by
  have hk := hA.1
  have h512 : 2 ^ k ≤ 512 := Nat.pow_le_pow_right (n := 2) (by omega) hk
  unfold f_X9_fewest f_X10_fewest
  rcases pk_ix x (n := k) (by omega) with h | h | ⟨i, hi, rfl⟩
  · refine ⟨-1, rfu rf 1, kp, ik, cu, ?_, ?_, fun _ _ => rfl⟩
    · rw [e_has0 (Or.inl h), ob, if_pos rfl, e_ref1, ob]
    · rw [e_isT0 (Or.inl h), ob, if_pos rfl, e_no1, ob]
  · refine ⟨-1, rfu rf 1, kp, ik, cu, ?_, ?_, fun _ _ => rfl⟩
    · rw [e_has0 (Or.inr h), ob, if_pos rfl, e_ref1, ob]
    · rw [e_isT0 (Or.inr h), ob, if_pos rfl, e_no1, ob]
  · obtain ⟨kp', ik', cu', m1, m2⟩ := e_flmL hA hL hG hd hi rf (2 ^ k) 0 FU kp ik cu (by omega) (by unfold FU; omega)
    refine ⟨oI (ft (fwok k kd fg cs L G d i) (2 ^ k)), rf, kp', ik', cu', ?_, ?_, m2⟩
    · rw [e_has hk hi, ob, if_neg n10, f_X4_fewestToLose, e_onl hA, ob, show f_X4_fewestToLose_15 FU ka fa ca (nI k) (nI L) (nI G) (nI d) (nI i) FU (-9) 10 (nI (onl cs k L G)) 0 = _ from e_flcL hA hL hd hi (2 ^ k) 0 FU (by omega) (by unfold FU; omega), ob]
    · rw [e_isT hk hi, ob, if_neg n10, e_nlm hA, ob, e_bare hk, ob, nI_and]
      exact m1
/-! guard -/
def gdok (k : Nat) (kd fg cs : Nat → Nat) (L G d N t : Nat) : Nat → Bool := fun s => decide (sdf s (ops k L G) = 0) && !(run k kd fg cs L (G ||| s) d N).testBit t
theorem e_gumL (hA : AR k ka fa ca kd fg cs) (hL : L < 2 ^ k) (hG : G < 2 ^ k) (hd : d ≤ 999) {t N : Nat} (ht : t < k) (hN : N < 999) (rf : Nat → Int32) : ∀ (j s n : Nat) (kp : Nat → Int32) (ik cu : Int32), s + j = 2 ^ k → j < n → ∃ (kp' : Nat → Int32) (ik' cu' : Int32), f_X10_guard_37 FU (nI t) (nI N) n (oI (ft (gdok k kd fg cs L G d N t) s)) (nI s) rf ka fa ca (nI k) (nI d) (nI L) (nI G) kp ik cu = some (oI (ft (gdok k kd fg cs L G d N t) (2 ^ k)), rf, ka, fa, ca, nI k, nI d, nI L, nI G, kp', ik', cu') ∧ ∀ j, j < 62 → kp' j = kp j := by
  have hk := hA.1
  have h512 : 2 ^ k ≤ 512 := Nat.pow_le_pow_right (n := 2) (by omega) hk
  have hpos := Nat.two_pow_pos k
  intro j
  induction j with
  | zero =>
    intro s n kp ik cu hs hn
    obtain ⟨n, rfl⟩ : ∃ z, n = z + 1 := ⟨n - 1, by omega⟩
    have : s = 2 ^ k := by omega
    subst this
    exact ⟨kp, ik, cu, by rw [f_X10_guard_37, f_X10_all, e_all1' k hk, ob, if_pos (nI_lt (by omega) (by omega))], fun _ _ => rfl⟩
  | succ j ih =>
    intro s n kp ik cu hs hn
    obtain ⟨n, rfl⟩ : ∃ z, n = z + 1 := ⟨n - 1, by omega⟩
    have e1 : nI s + 1 = nI (s + 1) := nI_1 _
    have hr := p9 hk (run_lt (kd := kd) (fg := fg) (cs := cs) (G := G ||| s) (d := d) hL N)
    have hps := pcn_le s
    have hF := ft_P (gdok k kd fg cs L G d N t) s
    rw [f_X10_guard_37, f_X10_all, e_all1' k hk, ob, if_neg (nI_nlt (by omega) (by omega)), e_bare hk, ob]
    have skip : ft (gdok k kd fg cs L G d N t) (s + 1) = ft (gdok k kd fg cs L G d N t) s → ∃ (kp' : Nat → Int32) (ik' cu' : Int32), f_X10_guard_97 FU (nI t) (nI N) (f_X10_guard_37 FU (nI t) (nI N) n) (oI (ft (gdok k kd fg cs L G d N t) s)) (nI s) rf ka fa ca (nI k) (nI d) (nI L) (nI G) kp ik cu = some (oI (ft (gdok k kd fg cs L G d N t) (2 ^ k)), rf, ka, fa, ca, nI k, nI d, nI L, nI G, kp', ik', cu') ∧ ∀ j, j < 62 → kp' j = kp j := by
      intro h1
      obtain ⟨kp', ik', cu', nx, nk⟩ := ih (s + 1) n kp ik cu (by omega) (by omega)
      rw [h1] at nx
      exact ⟨kp', ik', cu', by rw [f_X10_guard_97, e1]; exact nx, nk⟩
    have take : sdf s (ops k L G) = 0 → (∀ b, ft (gdok k kd fg cs L G d N t) s = some b → pcn s < pcn b) → ∃ (kp' : Nat → Int32) (ik' cu' : Int32), f_X10_guard_79 FU (nI t) (nI N) (f_X10_guard_37 FU (nI t) (nI N) n) (oI (ft (gdok k kd fg cs L G d N t) s)) (nI s) rf ka fa ca (nI k) (nI d) (nI L) (nI G) kp ik cu = some (oI (ft (gdok k kd fg cs L G d N t) (2 ^ k)), rf, ka, fa, ca, nI k, nI d, nI L, nI G, kp', ik', cu') ∧ ∀ j, j < 62 → kp' j = kp j := by
      intro hsub hlt
      obtain ⟨kp', ik', cu', nx, nk⟩ := ih (s + 1) n (SV kp ka fa ca k d L (G ||| s)) 0 (nI 93) (by omega) (by omega)
      refine ⟨kp', ik', cu', ?_, fun j hj => by rw [nk j hj, SV_lo _ _ _ _ _ _ _ _ hj]⟩
      rw [f_X10_guard_79, e_lg hA hL hG hd (by omega) hN, ob]
      rw [ft] at nx
      by_cases hP : (run k kd fg cs L (G ||| s) d N).testBit t = true
      · rw [e_mhasT (by omega) (by omega) hP, ob, if_neg n10, f_X10_guard_97, e1]
        have hno : gdok k kd fg cs L G d N t s = false := by unfold gdok; rw [hP, Bool.not_true, Bool.and_false]
        cases hm : ft (gdok k kd fg cs L G d N t) s with
        | none => rw [hm, hno] at nx; exact nx
        | some b => rw [hm, hno] at nx; dsimp only at nx; rw [if_neg (fun z => by cases z.1)] at nx; exact nx
      · rw [e_mhasF (by omega) (by omega) (bfalse hP), ob, if_pos rfl, f_X10_guard_97, e1]
        have hok : gdok k kd fg cs L G d N t s = true := by unfold gdok; rw [bfalse hP, Bool.not_false, Bool.and_true]; exact decide_eq_true hsub
        cases hm : ft (gdok k kd fg cs L G d N t) s with
        | none => rw [hm] at nx; dsimp only at nx; rw [if_pos hok] at nx; exact nx
        | some b =>
          rw [hm] at nx
          dsimp only at nx
          rw [if_pos ⟨hok, hlt b hm⟩] at nx
          exact nx
    by_cases hsub : sdf s (ops k L G) = 0
    · rw [if_pos ((sub0' (by omega)).mpr hsub)]
      cases hm : ft (gdok k kd fg cs L G d N t) s with
      | none =>
        rw [hm] at take
        rw [if_pos (show oI none < 0 by decide)]
        exact take hsub (fun b h => by cases h)
      | some b =>
        rw [hm] at take skip hF
        have hb := hF.1
        have hpb := pcn_le b
        rw [if_neg (show ¬ oI (some b) < 0 from nI_pos (n := b) (by omega)), e_bits _ (by omega), ob, show oI (some b) = nI b from rfl, e_bits _ (by omega), ob]
        by_cases hc : pcn s < pcn b
        · rw [if_pos (nI_lt hc (by omega))]
          exact take hsub (fun b' h => by cases h; exact hc)
        · rw [if_neg (nI_nlt (by omega) (by omega))]
          refine skip ?_
          rw [ft, hm]
          exact if_neg (fun z => hc z.2)
    · rw [if_neg (fun z => hsub ((sub0' (by omega)).mp z))]
      have hno : gdok k kd fg cs L G d N t s = false := by unfold gdok; rw [decide_eq_false hsub, Bool.false_and]
      refine skip ?_
      rw [ft, hno]
      cases hm : ft (gdok k kd fg cs L G d N t) s with
      | none => rfl
      | some b => exact if_neg (fun z => by cases z.1)
theorem pcn_1 : ∀ s, s < 512 → pcn s = 1 → ∃ i, i < 9 ∧ s = 2 ^ i := by decide +kernel
theorem pcn_p : ∀ i, i < 9 → pcn (2 ^ i) = 1 := by decide +kernel
theorem run_gd {k : Nat} {kd fg cs : Nat → Nat} {L G d t : Nat} (hL : L.testBit t = false) (hG : G.testBit t = true) : ∀ n, (run k kd fg cs L G d n).testBit t = false
  | 0 => hL
  | n + 1 => by
    rw [run]
    unfold dayf
    rw [Nat.testBit_or, run_gd hL hG n, mr_bit, Bool.false_or]
    refine decide_eq_false (fun z => ?_)
    have := z.2.1
    rw [Nat.testBit_or, hG, Bool.or_true] at this
    cases this
theorem sdf_pow {o i : Nat} (h : o.testBit i = true) : sdf (2 ^ i) o = 0 := Nat.eq_of_testBit_eq fun j => by
  rw [sdf_bit, Nat.testBit_two_pow, Nat.zero_testBit]
  by_cases hj : i = j
  · subst hj; rw [h]; simp
  · simp [hj]
theorem sdf_pow' {o i : Nat} (h : sdf (2 ^ i) o = 0) : o.testBit i = true := by
  have h1 : (sdf (2 ^ i) o).testBit i = false := by rw [h]; exact Nat.zero_testBit i
  rw [sdf_bit, Nat.testBit_two_pow] at h1
  simpa using h1
theorem sdf_0 (o : Nat) : sdf 0 o = 0 := Nat.eq_of_testBit_eq fun j => by rw [sdf_bit, Nat.zero_testBit]; rfl
theorem e_gucL (hA : AR k ka fa ca kd fg cs) (hL : L < 2 ^ k) (hG : G < 2 ^ k) (hd : d ≤ 999) {t N : Nat} (ht : t < k) (hN : N < 999) (hLt : L.testBit t = false) (hGt : G.testBit t = false) (h0 : gdok k kd fg cs L G d N t 0 = false) : ∀ (j i n : Nat), i + j = k → j < n → i ≤ t → (∀ i', i' < i → gdok k kd fg cs L G d N t (2 ^ i') = false) → f_X4_fewestToGuard_34 FU ka fa ca (nI k) (nI L) (nI G) (nI d) (nI t) (nI N) n (nI (2 ^ t)) (nI i) = some (oI (ft (gdok k kd fg cs L G d N t) (2 ^ k))) := by
  have hk := hA.1
  have h512 : 2 ^ k ≤ 512 := Nat.pow_le_pow_right (n := 2) (by omega) hk
  intro j
  induction j with
  | zero => intro i n hi hn hit; omega
  | succ j ih =>
    intro i n hi hn hit hno
    obtain ⟨n, rfl⟩ : ∃ z, n = z + 1 := ⟨n - 1, by omega⟩
    have hik : i < k := by omega
    have e1 : nI i + 1 = nI (i + 1) := nI_1 _
    rw [f_X4_fewestToGuard_34, if_neg (nI_ge hik (by omega)), e_open hk, ob]
    have good : gdok k kd fg cs L G d N t (2 ^ i) = true → ft (gdok k kd fg cs L G d N t) (2 ^ k) = some (2 ^ i) := by
      intro hg
      refine FtP_uniq (ft_P _ _) ⟨pw_lt hik, hg, fun s hs hok => ?_⟩
      rw [pcn_p i (by omega)]
      rcases Nat.lt_or_ge 1 (pcn s) with h | h
      · exact Or.inl h
      · right
        have hs0 : pcn s ≠ 0 := fun z => by
          rw [(pcn_0 s (by omega)).mp z, h0] at hok
          cases hok
        have hs1 : pcn s = 1 := by omega
        obtain ⟨q, hq, rfl⟩ := pcn_1 s (by omega) hs1
        refine ⟨by omega, Nat.pow_le_pow_right (by omega) ?_⟩
        rcases Nat.lt_or_ge q i with h' | h'
        · rw [hno q h'] at hok; cases hok
        · exact h'
    have next : i ≠ t → gdok k kd fg cs L G d N t (2 ^ i) = false → f_X4_fewestToGuard_74 FU ka fa ca (nI k) (nI L) (nI G) (nI d) (nI t) (nI N) (f_X4_fewestToGuard_34 FU ka fa ca (nI k) (nI L) (nI G) (nI d) (nI t) (nI N) n) (nI (2 ^ t)) (nI i) = some (oI (ft (gdok k kd fg cs L G d N t) (2 ^ k))) := by
      intro hne hg
      rw [f_X4_fewestToGuard_74, e1]
      refine ih (i + 1) n (by omega) (by omega) (by omega) (fun i' h => ?_)
      by_cases h' : i' = i
      · subst h'; exact hg
      · exact hno i' (by omega)
    have self : gdok k kd fg cs L G d N t (2 ^ t) = true := by
      unfold gdok
      have hot : (ops k L G).testBit t = true := by rw [ops_bit ht, Nat.testBit_or, hLt, hGt]; rfl
      rw [run_gd hLt (by rw [Nat.testBit_or, Nat.testBit_two_pow]; simp), Bool.not_false, Bool.and_true]
      exact decide_eq_true (sdf_pow hot)
    by_cases ho : (ops k L G).testBit i = true
    · rw [if_neg (fun z => by rw [(nI_has0 (by omega)).mp z] at ho; cases ho), nI_pow i (by omega), e_lig hA hL hd hN, ob]
      by_cases hP : (run k kd fg cs L (G ||| 2 ^ i) d N).testBit t = true
      · have hg : gdok k kd fg cs L G d N t (2 ^ i) = false := by unfold gdok; rw [hP, Bool.not_true, Bool.and_false]
        rw [if_neg (fun z => by rw [(nI_hasP (by omega)).mp z] at hP; cases hP)]
        exact next (fun z => by rw [z, self] at hg; cases hg) hg
      · have hg : gdok k kd fg cs L G d N t (2 ^ i) = true := by unfold gdok; rw [bfalse hP, Bool.not_false, Bool.and_true]; exact decide_eq_true (sdf_pow ho)
        rw [if_pos ((nI_hasP (by omega)).mpr (bfalse hP)), good hg]
        rfl
    · have hg : gdok k kd fg cs L G d N t (2 ^ i) = false := by
        unfold gdok
        rw [decide_eq_false (fun z => ho (sdf_pow' z)), Bool.false_and]
      rw [if_pos ((nI_has0 (by omega)).mpr (bfalse ho))]
      exact next (fun z => by rw [z, self] at hg; cases hg) hg
theorem e_guc (hA : AR k ka fa ca kd fg cs) (hL : L < 2 ^ k) (hG : G < 2 ^ k) (hd : d ≤ 999) {t N : Nat} (ht : t < k) (hN : N < 999) : f_X4_fewestToGuard FU ka fa ca (nI k) (nI L) (nI G) (nI d) (nI t) (nI N) = some (oI (ft (gdok k kd fg cs L G d N t) (2 ^ k))) := by
  have hk := hA.1
  have hpos := Nat.two_pow_pos k
  unfold f_X4_fewestToGuard
  by_cases hLt : L.testBit t = true
  · rw [e_isLT hk ht hLt, ob, if_neg n10]
    rw [show ft (gdok k kd fg cs L G d N t) (2 ^ k) = none from FtP_uniq (ft_P _ _) (fun s _ => by unfold gdok; rw [run_sub hLt, Bool.not_true, Bool.and_false])]
    rfl
  · have hLt' := bfalse hLt
    rw [e_isLF hk ht hLt', ob, if_pos rfl, e_lb hA hL (by omega) hN, ob]
    have h0e : gdok k kd fg cs L G d N t 0 = !(run k kd fg cs L G d N).testBit t := by
      unfold gdok
      rw [decide_eq_true (sdf_0 _), Bool.true_and, Nat.or_zero]
    by_cases hP : (run k kd fg cs L G d N).testBit t = true
    · rw [if_neg (fun z => by rw [(nI_has0 (by omega)).mp z] at hP; cases hP), nI_pow t (by omega)]
      have hGt : G.testBit t = false := by
        cases h : G.testBit t with
        | false => rfl
        | true => rw [run_gd hLt' h] at hP; cases hP
      exact e_gucL hA hL hG hd ht hN hLt' hGt (by rw [h0e, hP]; rfl) k 0 FU (by omega) (by unfold FU; omega) (by omega) (fun i' h => absurd h (by omega))
    · rw [if_pos ((nI_has0 (by omega)).mpr (bfalse hP))]
      rw [show ft (gdok k kd fg cs L G d N t) (2 ^ k) = some 0 from FtP_uniq (ft_P _ _) ⟨hpos, by rw [h0e, bfalse hP]; rfl, fun s hs _ => by
        rcases Nat.eq_zero_or_pos (pcn s) with h | h
        · exact Or.inr ⟨h.symm, Nat.zero_le _⟩
        · exact Or.inl h⟩]
      rfl
theorem t_guard (hA : AR k ka fa ca kd fg cs) (hL : L < 2 ^ k) (hG : G < 2 ^ k) (hd : d ≤ 999) (rf kp : Nat → Int32) (ik cu x y : Int32) : QI rf ka fa ca kp k d L G (f_X9_guard FU ka fa ca (nI k) (nI L) (nI G) (nI d) rf x y) (f_X10_guard FU rf ka fa ca (nI k) (nI d) (nI L) (nI G) kp ik cu x y) := by
  have hk := hA.1
  have h512 : 2 ^ k ≤ 512 := Nat.pow_le_pow_right (n := 2) (by omega) hk
  unfold f_X9_guard f_X10_guard
  rcases pk_ix x (n := k) (by omega) with h | h | ⟨i, hi, rfl⟩
  · refine ⟨-1, rfu rf 1, kp, ik, cu, ?_, ?_, fun _ _ => rfl⟩
    · rw [e_has0 (Or.inl h), ob, if_pos rfl, e_ref1, ob]
    · rw [e_isT0 (Or.inl h), ob, if_pos rfl, f_X10_guard_19, if_neg nm1, e_no1, ob]
  · refine ⟨-1, rfu rf 1, kp, ik, cu, ?_, ?_, fun _ _ => rfl⟩
    · rw [e_has0 (Or.inr h), ob, if_pos rfl, e_ref1, ob]
    · rw [e_isT0 (Or.inr h), ob, if_pos rfl, f_X10_guard_19, if_neg nm1, e_no1, ob]
  · rw [e_has hk hi, ob, if_neg n10, e_isT hk hi, ob, if_neg n10]
    rcases e_b0_30 y with ⟨h1, h2⟩ | ⟨h1, h2⟩ | ⟨n, -, hn, rfl, h1, h2⟩
    · refine ⟨-4, rfu rf 4, kp, ik, cu, ?_, ?_, fun _ _ => rfl⟩
      · rw [h1, ob, if_neg nm4, e_ref4, ob]
      · rw [h2, ob, f_X10_guard_19, if_neg nm4, e_no4, ob]
    · refine ⟨-6, rfu rf 6, kp, ik, cu, ?_, ?_, fun _ _ => rfl⟩
      · rw [h1, ob, if_neg nm6, e_ref6, ob]
      · rw [h2, ob, f_X10_guard_19, if_neg nm6, e_no6, ob]
    · obtain ⟨kp', ik', cu', m1, m2⟩ := e_gumL hA hL hG hd (N := n) hi (by omega) rf (2 ^ k) 0 FU kp ik cu (by omega) (by unfold FU; omega)
      refine ⟨oI (ft (gdok k kd fg cs L G d n i) (2 ^ k)), rf, kp', ik', cu', ?_, ?_, m2⟩
      · rw [h1, ob, if_pos rfl, e_guc hA hL hG hd hi (by omega), ob]
      · rw [h2, ob, f_X10_guard_19, if_pos rfl]
        exact m1
end CF
