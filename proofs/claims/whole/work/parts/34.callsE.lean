/-! CALLS, fifth part: tack, next -/
def o1 (o : Option Nat) : Nat := match o with
  | none => 1000
  | some n => n
def lsO (a b : Option Nat) : Bool := match a with
  | none => false
  | some m => match b with
    | none => true
    | some q => decide (m < q)
theorem whn_le {k : Nat} {kd fg cs : Nat → Nat} {L G d t m : Nat} (h : whn k kd fg cs L G d t = some m) : m ≤ 60 := by
  have := (fw_some h).2.1
  omega
def tk (u : Nat → Option Nat) (op : Nat → Bool) (s0 : Option Nat) : Nat → Option Nat × Option Nat
  | 0 => (none, s0)
  | i + 1 => if op i = true ∧ lsO (u i) (tk u op s0 i).2 = true then (some i, u i) else tk u op s0 i
theorem tk_in {u : Nat → Option Nat} {op : Nat → Bool} {s0 : Option Nat} {B : Nat} (h0 : ∀ m, s0 = some m → m ≤ B) (hu : ∀ i m, u i = some m → m ≤ B) : ∀ i m, (tk u op s0 i).2 = some m → m ≤ B
  | 0, m, h => h0 m h
  | i + 1, m, h => by
    rw [tk] at h
    split at h
    · exact hu i m h
    · exact tk_in h0 hu i m h
section CE
variable {k : Nat} {ka fa ca : Nat → Int32} {kd fg cs : Nat → Nat} {L G d : Nat}
theorem e_ww (hA : AR k ka fa ca kd fg cs) (hL : L < 2 ^ k) (hG : G < 2 ^ k) (hd : d ≤ 999) {t X : Nat} (ht : t < 9) (hX : X < 2 ^ k) (kp : Nat → Int32) (ik cu : Int32) : f_X10_whenWith FU ka fa ca (nI k) (nI d) (nI L) (nI G) kp ik cu (nI X) (nI t) = some (nI (o1 (whn k kd fg cs (L ||| X) G d t)), ka, fa, ca, nI k, nI d, nI L, nI G, SV kp ka fa ca k d (L ||| X) G, 0, nI 93) := by
  unfold f_X10_whenWith
  rw [nI_or, e_lw hA (or_lt hL hX) hG ht (by omega), ob]
  cases h : whn k kd fg cs (L ||| X) G d t with
  | none => rfl
  | some m =>
    have := whn_le h
    show (if 0 ≤ nI m then _ else _) = _
    rw [if_pos (nI_pos' (by omega))]
    rfl
def tku (k : Nat) (kd fg cs : Nat → Nat) (L G d t : Nat) : Nat → Option Nat := fun i => whn k kd fg cs (L ||| 2 ^ i) G d t
theorem oI_m9 {o : Option Nat} (h : ∀ m, o = some m → m ≤ 60) : (oI o = -9) ↔ o = none := by
  cases o with
  | none => exact ⟨fun _ => rfl, fun _ => rfl⟩
  | some m =>
    have := h m rfl
    refine ⟨fun z => ?_, fun z => by cases z⟩
    exfalso
    have h1 : ¬ nI m < 0 := nI_pos (by omega)
    exact h1 (by rw [show nI m = -9 from z]; decide)
theorem e_tkcL (hA : AR k ka fa ca kd fg cs) (hL : L < 2 ^ k) (hd : d ≤ 999) {t : Nat} (ht : t < k) {s0 : Option Nat} (hs : ∀ m, s0 = some m → m ≤ 60) : ∀ (j i n : Nat), i + j = k → j < n → f_X4_soonestNail_22 FU ka fa ca (nI k) (nI L) (nI G) (nI d) (nI t) n (oI (tk (tku k kd fg cs L G d t) (wro cs k L G) s0 i).1) (oI (tk (tku k kd fg cs L G d t) (wro cs k L G) s0 i).2) (nI (onl cs k L G)) (nI i) = some (oI (tk (tku k kd fg cs L G d t) (wro cs k L G) s0 k).1) := by
  have hk := hA.1
  intro j
  induction j with
  | zero =>
    intro i n hi hn
    obtain ⟨n, rfl⟩ : ∃ z, n = z + 1 := ⟨n - 1, by omega⟩
    have : i = k := by omega
    subst this
    rw [f_X4_soonestNail_22, if_pos (Int32.le_refl _)]
  | succ j ih =>
    intro i n hi hn
    obtain ⟨n, rfl⟩ : ∃ z, n = z + 1 := ⟨n - 1, by omega⟩
    have hik : i < k := by omega
    have nx := ih (i + 1) n (by omega) (by omega)
    have hL' : L ||| 2 ^ i < 2 ^ k := or_lt hL (pw_lt hik)
    have hb := tk_in (u := tku k kd fg cs L G d t) (op := wro cs k L G) hs (fun i m h => whn_le (show whn k kd fg cs (L ||| 2 ^ i) G d t = some m from h)) i
    rw [tk] at nx
    rw [f_X4_soonestNail_22, if_neg (nI_ge hik (by omega))]
    by_cases ho : (onl cs k L G).testBit i = true
    · rw [if_neg (fun z => by rw [(nI_has0 (by omega)).mp z] at ho; cases ho), nI_pow i (by omega), nI_or, e_dul hA hL' (by omega) (by omega), ob]
      have hu : tku k kd fg cs L G d t i = whn k kd fg cs (L ||| 2 ^ i) G d t := rfl
      rw [← hu]
      generalize hx : tk (tku k kd fg cs L G d t) (wro cs k L G) s0 i = X at hb nx ⊢
      cases hw : tku k kd fg cs L G d t i with
      | none =>
        rw [if_pos (show oI none = -9 from rfl), f_X4_soonestNail_82, show nI i + 1 = nI (i + 1) from nI_1 _]
        rw [hw, if_neg (fun z => by cases z.2)] at nx
        exact nx
      | some m =>
        have hm : m ≤ 60 := whn_le (show whn k kd fg cs (L ||| 2 ^ i) G d t = some m from hw)
        rw [if_neg (fun z => by cases (oI_m9 (o := some m) (fun q h => by cases h; exact hm)).mp z)]
        cases hs2 : X.2 with
        | none =>
          rw [if_pos (show oI none = -9 from rfl), f_X4_soonestNail_76, f_X4_soonestNail_82, show nI i + 1 = nI (i + 1) from nI_1 _]
          rw [hw, hs2, if_pos ⟨ho, rfl⟩] at nx
          exact nx
        | some q =>
          have hq := hb q hs2
          rw [if_neg (fun z => by cases (oI_m9 (o := some q) (fun q' h => by cases h; exact hq)).mp z)]
          rw [hw, hs2] at nx
          by_cases hc : m < q
          · rw [if_neg (show ¬ oI (some q) ≤ oI (some m) from nI_ge hc (by omega)), f_X4_soonestNail_76, f_X4_soonestNail_82, show nI i + 1 = nI (i + 1) from nI_1 _]
            rw [if_pos ⟨ho, decide_eq_true hc⟩] at nx
            exact nx
          · rw [if_pos (show oI (some q) ≤ oI (some m) from nI_le (by omega) (by omega)), f_X4_soonestNail_82, show nI i + 1 = nI (i + 1) from nI_1 _, ← hs2]
            rw [if_neg (fun z => hc (of_decide_eq_true z.2))] at nx
            exact nx
    · rw [if_pos ((nI_has0 (by omega)).mpr (bfalse ho)), f_X4_soonestNail_82, show nI i + 1 = nI (i + 1) from nI_1 _]
      rw [if_neg (fun z => ho z.1)] at nx
      exact nx
theorem e_tkmL (hA : AR k ka fa ca kd fg cs) (hL : L < 2 ^ k) (hG : G < 2 ^ k) (hd : d ≤ 999) {t : Nat} (ht : t < k) {s0 : Option Nat} (hs : ∀ m, s0 = some m → m ≤ 60) (rf : Nat → Int32) : ∀ (j i n : Nat) (kp : Nat → Int32) (ik cu : Int32), i + j = k → j < n → ∃ (kp' : Nat → Int32) (ik' cu' : Int32), f_X10_tack_38 FU (nI t) n (nI (onl cs k L G)) (oI (tk (tku k kd fg cs L G d t) (wro cs k L G) s0 i).1) (nI (o1 (tk (tku k kd fg cs L G d t) (wro cs k L G) s0 i).2)) (nI i) rf ka fa ca (nI k) (nI d) (nI L) (nI G) kp ik cu = some (oI (tk (tku k kd fg cs L G d t) (wro cs k L G) s0 k).1, rf, ka, fa, ca, nI k, nI d, nI L, nI G, kp', ik', cu') ∧ ∀ j, j < 62 → kp' j = kp j := by
  have hk := hA.1
  have hon := p9 hk (onl_lt cs k L G)
  intro j
  induction j with
  | zero =>
    intro i n kp ik cu hi hn
    obtain ⟨n, rfl⟩ : ∃ z, n = z + 1 := ⟨n - 1, by omega⟩
    have : i = k := by omega
    subst this
    exact ⟨kp, ik, cu, by rw [f_X10_tack_38, if_pos (Int32.le_refl _)], fun _ _ => rfl⟩
  | succ j ih =>
    intro i n kp ik cu hi hn
    obtain ⟨n, rfl⟩ : ∃ z, n = z + 1 := ⟨n - 1, by omega⟩
    have hik : i < k := by omega
    have hb := tk_in (u := tku k kd fg cs L G d t) (op := wro cs k L G) hs (fun i m h => whn_le (show whn k kd fg cs (L ||| 2 ^ i) G d t = some m from h)) i
    by_cases ho : (onl cs k L G).testBit i = true
    · obtain ⟨kp', ik', cu', nx, nk⟩ := ih (i + 1) n (SV kp ka fa ca k d (L ||| 2 ^ i) G) 0 (nI 93) (by omega) (by omega)
      refine ⟨kp', ik', cu', ?_, fun j hj => by rw [nk j hj, SV_lo _ _ _ _ _ _ _ _ hj]⟩
      rw [tk] at nx
      rw [f_X10_tack_38, if_neg (nI_ge hik (by omega)), e_mhasT (by omega) (by omega) ho, ob, if_neg n10, nI_pow i (by omega), e_ww hA hL hG hd (by omega) (pw_lt hik), ob, f_X10_tack_71]
      have hu : tku k kd fg cs L G d t i = whn k kd fg cs (L ||| 2 ^ i) G d t := rfl
      have hub : ∀ m, tku k kd fg cs L G d t i = some m → m ≤ 60 := fun m h => whn_le (show whn k kd fg cs (L ||| 2 ^ i) G d t = some m from h)
      rw [← hu]
      generalize tk (tku k kd fg cs L G d t) (wro cs k L G) s0 i = X at hb nx ⊢
      generalize tku k kd fg cs L G d t i = w at hub nx ⊢
      have hls : (o1 w < o1 X.2) ↔ lsO w X.2 = true := by
        cases w with
        | none =>
          cases h2 : X.2 with
          | none => simp [o1, lsO]
          | some q => have := hb q h2; simp [o1, lsO]; omega
        | some m =>
          have := hub m rfl
          cases h2 : X.2 with
          | none => simp [o1, lsO]; omega
          | some q => simp [o1, lsO]
      have b1 : o1 w ≤ 1000 := by
        cases w with
        | none => exact Nat.le_refl _
        | some m => have := hub m rfl; show m ≤ 1000; omega
      have b2 : o1 X.2 ≤ 1000 := by
        cases h2 : X.2 with
        | none => exact Nat.le_refl _
        | some q => have := hb q h2; show q ≤ 1000; omega
      by_cases hc : lsO w X.2 = true
      · rw [if_pos (nI_lt (hls.mpr hc) (by omega)), f_X10_tack_90, show nI i + 1 = nI (i + 1) from nI_1 _]
        rw [if_pos ⟨ho, hc⟩] at nx
        exact nx
      · rw [if_neg (nI_nlt (by have : ¬ o1 w < o1 X.2 := fun z => hc (hls.mp z); omega) (by omega)), f_X10_tack_90, show nI i + 1 = nI (i + 1) from nI_1 _]
        rw [if_neg (fun z => hc z.2)] at nx
        exact nx
    · obtain ⟨kp', ik', cu', nx, nk⟩ := ih (i + 1) n kp ik cu (by omega) (by omega)
      refine ⟨kp', ik', cu', ?_, nk⟩
      rw [tk, if_neg (fun z => ho z.1)] at nx
      have b2 : o1 (tk (tku k kd fg cs L G d t) (wro cs k L G) s0 i).2 ≤ 1000 := by
        cases h2 : (tk (tku k kd fg cs L G d t) (wro cs k L G) s0 i).2 with
        | none => exact Nat.le_refl _
        | some q => have := hb q h2; show q ≤ 1000; omega
      rw [f_X10_tack_38, if_neg (nI_ge hik (by omega)), e_mhasF (by omega) (by omega) (bfalse ho), ob, if_pos rfl, f_X10_tack_71, if_neg (show ¬ (1000 : Int32) < nI (o1 (tk (tku k kd fg cs L G d t) (wro cs k L G) s0 i).2) from nI_nlt (a := 1000) b2 (by omega)), f_X10_tack_90, show nI i + 1 = nI (i + 1) from nI_1 _]
      exact nx
theorem t_tack (hA : AR k ka fa ca kd fg cs) (hL : L < 2 ^ k) (hG : G < 2 ^ k) (hd : d ≤ 999) (rf kp : Nat → Int32) (ik cu x : Int32) : QI rf ka fa ca kp k d L G (f_X9_tack FU ka fa ca (nI k) (nI L) (nI G) (nI d) rf x) (f_X10_tack FU rf ka fa ca (nI k) (nI d) (nI L) (nI G) kp ik cu x) := by
  have hk := hA.1
  unfold f_X9_tack f_X10_tack
  rcases pk_ix x (n := k) (by omega) with h | h | ⟨i, hi, rfl⟩
  · refine ⟨-1, rfu rf 1, kp, ik, cu, ?_, ?_, fun _ _ => rfl⟩
    · rw [e_has0 (Or.inl h), ob, if_pos rfl, e_ref1, ob]
    · rw [e_isT0 (Or.inl h), ob, if_pos rfl, e_no1, ob]
  · refine ⟨-1, rfu rf 1, kp, ik, cu, ?_, ?_, fun _ _ => rfl⟩
    · rw [e_has0 (Or.inr h), ob, if_pos rfl, e_ref1, ob]
    · rw [e_isT0 (Or.inr h), ob, if_pos rfl, e_no1, ob]
  · have hs : ∀ m, whn k kd fg cs L G d i = some m → m ≤ 60 := fun m h => whn_le h
    obtain ⟨kp', ik', cu', m1, m2⟩ := e_tkmL hA hL hG hd hi hs rf k 0 FU (SV kp ka fa ca k d (L ||| 0) G) 0 (nI 93) (by omega) (by unfold FU; omega)
    refine ⟨oI (tk (tku k kd fg cs L G d i) (wro cs k L G) (whn k kd fg cs L G d i) k).1, rf, kp', ik', cu', ?_, ?_, fun j hj => by rw [m2 j hj, SV_lo _ _ _ _ _ _ _ _ hj]⟩
    · rw [e_has hk hi, ob, if_neg n10, f_X4_soonestNail, e_dul hA hL (by omega) (by omega), ob, e_onl hA, ob, show f_X4_soonestNail_22 FU ka fa ca (nI k) (nI L) (nI G) (nI d) (nI i) FU (-9) (oI (whn k kd fg cs L G d i)) (nI (onl cs k L G)) 0 = _ from e_tkcL hA hL hd hi hs k 0 FU (by omega) (by unfold FU; omega), ob]
    · rw [e_isT hk hi, ob, if_neg n10, e_nlm hA, ob, e_bare hk, ob, show f_X10_whenWith FU ka fa ca (nI k) (nI d) (nI L) (nI G) kp ik cu 0 (nI i) = _ from e_ww hA hL hG hd (X := 0) (by omega) (Nat.two_pow_pos k) kp ik cu, ob, nI_and, Nat.or_zero]
      rw [Nat.or_zero] at m1
      exact m1
end CE
/-! NEXT -/
def tzn (D : Nat) : Nat := ((List.range 9).find? (fun i => D.testBit i)).getD 0
theorem e_tz : ∀ D, D < 512 → 0 < D → f_J6_numberOfTrailingZeros_0f7a4 (nI D) = some (nI (tzn D)) := by decide +kernel
theorem tzn_at : ∀ D, D < 512 → 0 < D → D.testBit (tzn D) = true := by decide +kernel
theorem tzn_le : ∀ D, D < 512 → ∀ j, j < 9 → D.testBit j = true → tzn D ≤ j := by decide +kernel
theorem run_add {k : Nat} {kd fg cs : Nat → Nat} {L G d n : Nat} : ∀ m, run k kd fg cs L G d (n + m) = run k kd fg cs (run k kd fg cs L G d n) G (d + n) m
  | 0 => rfl
  | m + 1 => by
    show dayf k kd fg cs (run k kd fg cs L G d (n + m)) G (d + (n + m) + 1) = dayf k kd fg cs (run k kd fg cs (run k kd fg cs L G d n) G (d + n) m) G (d + n + m + 1)
    rw [run_add m, show d + (n + m) + 1 = d + n + m + 1 by omega]
/-- of those that come, the soonest, the first -/
def mn (w : Nat → Option Nat) : Nat → Option (Nat × Nat)
  | 0 => none
  | i + 1 => match w i with
    | none => mn w i
    | some m => if m = 0 then mn w i else match mn w i with
      | none => some (i, m)
      | some b => if m < b.2 then some (i, m) else some b
def MnP (w : Nat → Option Nat) (i : Nat) (o : Option (Nat × Nat)) : Prop := match o with
  | none => ∀ t m, t < i → w t = some m → m = 0
  | some b => b.1 < i ∧ w b.1 = some b.2 ∧ 0 < b.2 ∧ ∀ t m, t < i → w t = some m → 0 < m → b.2 ≤ m ∧ (b.2 = m → b.1 ≤ t)
theorem mn_P (w : Nat → Option Nat) : ∀ i, MnP w i (mn w i)
  | 0 => fun t m h => absurd h (by omega)
  | i + 1 => by
    have ih := mn_P w i
    rw [mn]
    cases hw : w i with
    | none =>
      dsimp only
      cases hm : mn w i with
      | none =>
        rw [hm] at ih
        intro t m ht h
        by_cases hti : t = i
        · subst hti; rw [hw] at h; cases h
        · exact ih t m (by omega) h
      | some b =>
        rw [hm] at ih
        refine ⟨by have := ih.1; omega, ih.2.1, ih.2.2.1, fun t m ht h h0 => ?_⟩
        by_cases hti : t = i
        · subst hti; rw [hw] at h; cases h
        · exact ih.2.2.2 t m (by omega) h h0
    | some m =>
      dsimp only
      by_cases h0 : m = 0
      · rw [if_pos h0]
        subst h0
        cases hm : mn w i with
        | none =>
          rw [hm] at ih
          intro t m ht h
          by_cases hti : t = i
          · subst hti; rw [hw] at h; cases h; rfl
          · exact ih t m (by omega) h
        | some b =>
          rw [hm] at ih
          refine ⟨by have := ih.1; omega, ih.2.1, ih.2.2.1, fun t m ht h h1 => ?_⟩
          by_cases hti : t = i
          · subst hti; rw [hw] at h; cases h; omega
          · exact ih.2.2.2 t m (by omega) h h1
      · rw [if_neg h0]
        cases hm : mn w i with
        | none =>
          rw [hm] at ih
          refine ⟨by dsimp only; omega, hw, by dsimp only; omega, fun t q ht h h1 => ?_⟩
          by_cases hti : t = i
          · subst hti; rw [hw] at h; cases h; exact ⟨Nat.le_refl _, fun _ => Nat.le_refl _⟩
          · exact absurd (ih t q (by omega) h) (by omega)
        | some b =>
          rw [hm] at ih
          dsimp only
          by_cases hc : m < b.2
          · rw [if_pos hc]
            refine ⟨by dsimp only; omega, hw, by dsimp only; omega, fun t q ht h h1 => ?_⟩
            dsimp only
            by_cases hti : t = i
            · subst hti; rw [hw] at h; cases h; exact ⟨Nat.le_refl _, fun _ => Nat.le_refl _⟩
            · have := (ih.2.2.2 t q (by omega) h h1).1
              exact ⟨by omega, fun z => by omega⟩
          · rw [if_neg hc]
            refine ⟨by have := ih.1; omega, ih.2.1, ih.2.2.1, fun t q ht h h1 => ?_⟩
            by_cases hti : t = i
            · subst hti; rw [hw] at h; cases h
              exact ⟨by omega, fun _ => by have := ih.1; omega⟩
            · exact ih.2.2.2 t q (by omega) h h1
theorem MnP_uniq {w : Nat → Option Nat} {i : Nat} {a b : Option (Nat × Nat)} (ha : MnP w i a) (hb : MnP w i b) : a = b := by
  cases a with
  | none =>
    cases b with
    | none => rfl
    | some b =>
      have := ha b.1 b.2 hb.1 hb.2.1
      have := hb.2.2.1
      omega
  | some a =>
    cases b with
    | none =>
      have := hb a.1 a.2 ha.1 ha.2.1
      have := ha.2.2.1
      omega
    | some b =>
      obtain ⟨a1, a2⟩ := a
      obtain ⟨b1, b2⟩ := b
      have h1 := ha.2.2.2 b1 b2 hb.1 hb.2.1 hb.2.2.1
      have h2 := hb.2.2.2 a1 a2 ha.1 ha.2.1 ha.2.2.1
      dsimp only at h1 h2
      have e2 : a2 = b2 := by omega
      have e1 : a1 = b1 := by have := h1.2 e2; have := h2.2 e2.symm; omega
      rw [e1, e2]
section CE2
variable {k : Nat} {ka fa ca : Nat → Int32} {kd fg cs : Nat → Nat} {L G d : Nat}
def nxw (k : Nat) (kd fg cs : Nat → Nat) (L G d : Nat) : Option (Nat × Nat) := mn (fun t => whn k kd fg cs L G d t) k
/-- the class's: the first DAY on which something falls -/
theorem e_ftfL (hA : AR k ka fa ca kd fg cs) (hL : L < 2 ^ k) (hd : d ≤ 999) : ∀ (j i n : Nat), i + j = 60 → j < n → (∀ s, s ≤ i → run k kd fg cs L G d s = L) → f_X4_firstToFall_7 FU ka fa ca (nI k) (nI L) (nI G) (nI d) n (nI L) (nI (i + 1)) = some (oI ((nxw k kd fg cs L G d).map (·.1))) := by
  have hk := hA.1
  have hL9 := p9 hk hL
  have same : ∀ (o : Option (Nat × Nat)), MnP (fun t => whn k kd fg cs L G d t) k o → nxw k kd fg cs L G d = o := fun o h => MnP_uniq (mn_P _ _) h
  intro j
  induction j with
  | zero =>
    intro i n hi hn hs
    obtain ⟨n, rfl⟩ : ∃ z, n = z + 1 := ⟨n - 1, by omega⟩
    have : i = 60 := by omega
    subst this
    rw [f_X4_firstToFall_7, if_pos (show (60 : Int32) < nI (60 + 1) by decide)]
    rw [same none]
    · rfl
    · intro t m ht hw
      obtain ⟨-, g2, g3, g4⟩ := fw_some hw
      have e : run k kd fg cs L G d m = L := hs m (by omega)
      have g3' : (run k kd fg cs L G d m).testBit t = true := g3
      by_cases h0 : m = 0
      · exact h0
      · exfalso
        have g5 : (run k kd fg cs L G d 0).testBit t = false := g4 0 (by omega) (by omega)
        rw [e] at g3'
        rw [show run k kd fg cs L G d 0 = L from rfl, g3'] at g5
        cases g5
  | succ j ih =>
    intro i n hi hn hs
    obtain ⟨n, rfl⟩ : ∃ z, n = z + 1 := ⟨n - 1, by omega⟩
    rw [f_X4_firstToFall_7, if_neg (show ¬ (60 : Int32) < nI (i + 1) from nI_nlt (a := 60) (by omega) (by omega)), nI_add, e_bd hA (by omega), ob]
    have e : dayf k kd fg cs L G (d + (i + 1)) = run k kd fg cs L G d (i + 1) := by
      show _ = dayf k kd fg cs (run k kd fg cs L G d i) G (d + i + 1)
      rw [hs i (Nat.le_refl _)]; rfl
    rw [e]
    have hr := run_lt (kd := kd) (fg := fg) (cs := cs) (G := G) (d := d) hL (i + 1)
    have hr9 := p9 hk hr
    by_cases hx : run k kd fg cs L G d (i + 1) = L
    · rw [hx, if_pos rfl, show nI (i + 1) + 1 = nI (i + 1 + 1) from nI_1 _]
      refine ih (i + 1) n (by omega) (by omega) (fun s h => ?_)
      by_cases hsi : s = i + 1
      · subst hsi; exact hx
      · exact hs s (by omega)
    · rw [if_neg (by rw [nI_eq (by omega) (by omega)]; exact hx), nI_sdf]
      have hD : sdf (run k kd fg cs L G d (i + 1)) L < 512 := p9 hk (sdf_lt hr)
      have hD0 : 0 < sdf (run k kd fg cs L G d (i + 1)) L := by
        rcases Nat.eq_zero_or_pos (sdf (run k kd fg cs L G d (i + 1)) L) with h0 | h0
        · exfalso
          refine hx (Nat.eq_of_testBit_eq fun b => ?_)
          have h1 : (sdf (run k kd fg cs L G d (i + 1)) L).testBit b = false := by rw [h0]; exact Nat.zero_testBit b
          rw [sdf_bit] at h1
          cases hb : L.testBit b with
          | true => exact run_sub hb _
          | false => rw [hb] at h1; simpa using h1
        · exact h0
      rw [e_tz _ hD hD0, ob]
      have ha := tzn_at _ hD hD0
      generalize htt : tzn (sdf (run k kd fg cs L G d (i + 1)) L) = t at ha
      have ha' := ha
      rw [sdf_bit, Bool.and_eq_true] at ha'
      have htk : t < k := by
        rcases Nat.lt_or_ge t k with h | h
        · exact h
        · exfalso
          rw [Nat.testBit_lt_two_pow (lt_pw hr h)] at ha'
          cases ha'.1
      have htL : L.testBit t = false := by simpa using ha'.2
      have hwt : whn k kd fg cs L G d t = some (i + 1) := by
        unfold whn
        cases hf : fw (fun n => (run k kd fg cs L G d n).testBit t) 61 0 with
        | none =>
          exfalso
          have key : ∀ (j i0 : Nat), fw (fun n => (run k kd fg cs L G d n).testBit t) j i0 = none → ∀ s, i0 ≤ s → s < i0 + j → (run k kd fg cs L G d s).testBit t = false := by
            intro j
            induction j with
            | zero => intro i0 _ s h1 h2; omega
            | succ j ih2 =>
              intro i0 h s h1 h2
              rw [fw] at h
              by_cases hp : (run k kd fg cs L G d i0).testBit t = true
              · rw [if_pos hp] at h; cases h
              · rw [if_neg hp] at h
                by_cases hsi : s = i0
                · subst hsi; exact bfalse hp
                · exact ih2 (i0 + 1) h s (by omega) (by omega)
          have := key 61 0 hf (i + 1) (by omega) (by omega)
          rw [ha'.1] at this
          cases this
        | some m =>
          obtain ⟨g1, g2, g3, g4⟩ := fw_some hf
          have g3' : (run k kd fg cs L G d m).testBit t = true := g3
          congr 1
          rcases Nat.lt_trichotomy m (i + 1) with h | h | h
          · exfalso
            rw [hs m (by omega), htL] at g3'
            cases g3'
          · exact h
          · exfalso
            have : (run k kd fg cs L G d (i + 1)).testBit t = false := g4 (i + 1) (by omega) h
            rw [ha'.1] at this
            cases this
      rw [same (some (t, i + 1))]
      · rfl
      · refine ⟨htk, hwt, by dsimp only; omega, fun t' m' ht' hw' h0 => ?_⟩
        dsimp only
        obtain ⟨g1, g2, g3, g4⟩ := fw_some (show fw (fun n => (run k kd fg cs L G d n).testBit t') 61 0 = some m' from hw')
        have g3' : (run k kd fg cs L G d m').testBit t' = true := g3
        have g5 : L.testBit t' = false := g4 0 (by omega) (by omega)
        have hge : i + 1 ≤ m' := by
          rcases Nat.lt_or_ge m' (i + 1) with h | h
          · exfalso; rw [hs m' (by omega), g5] at g3'; cases g3'
          · exact h
        refine ⟨hge, fun hm => ?_⟩
        rw [← hm] at g3'
        rw [← htt]
        refine tzn_le _ hD t' (by omega) ?_
        rw [sdf_bit, g3', g5]; rfl
theorem e_ftf (hA : AR k ka fa ca kd fg cs) (hL : L < 2 ^ k) (hd : d ≤ 999) : f_X4_firstToFall FU ka fa ca (nI k) (nI L) (nI G) (nI d) = some (oI ((nxw k kd fg cs L G d).map (·.1))) := by
  refine e_ftfL hA hL hd 60 0 FU (by omega) (by unfold FU; omega) (fun s h => ?_)
  have : s = 0 := by omega
  subst this
  rfl
theorem e_dusL (hA : AR k ka fa ca kd fg cs) (hL : L < 2 ^ k) (hd : d ≤ 999) : ∀ (j i n : Nat), i + j = 61 → j < n → f_X4_daysUntilStill_7 FU ka fa ca (nI k) (nI L) (nI G) (nI d) n (nI (run k kd fg cs L G d i)) (nI i) = some (oI (fw (fun n => decide (run k kd fg cs L G d n = run k kd fg cs L G d (n + 12))) j i)) := by
  have hk := hA.1
  intro j
  induction j with
  | zero =>
    intro i n hi hn
    obtain ⟨n, rfl⟩ : ∃ z, n = z + 1 := ⟨n - 1, by omega⟩
    have : i = 61 := by omega
    subst this
    rw [f_X4_daysUntilStill_7, if_pos (show (60 : Int32) < nI 61 by decide)]
    rfl
  | succ j ih =>
    intro i n hi hn
    obtain ⟨n, rfl⟩ : ∃ z, n = z + 1 := ⟨n - 1, by omega⟩
    have h1 := run_lt (kd := kd) (fg := fg) (cs := cs) (G := G) (d := d) hL i
    have h2 := p9 hk (run_lt (kd := kd) (fg := fg) (cs := cs) (G := G) (d := d) hL (i + 12))
    have h1' := p9 hk h1
    rw [f_X4_daysUntilStill_7, if_neg (show ¬ (60 : Int32) < nI i from nI_nlt (a := 60) (by omega) (by omega)), nI_add, show (12 : Int32) = nI 12 from rfl, e_bds hA h1 (by omega) (by omega), ob, ← run_add, fw]
    by_cases hx : run k kd fg cs L G d i = run k kd fg cs L G d (i + 12)
    · rw [if_pos (by rw [← hx]), if_pos (decide_eq_true hx)]
      rfl
    · rw [if_neg (by rw [nI_eq (by omega) (by omega)]; exact fun z => hx z.symm), if_neg (fun z => hx (of_decide_eq_true z)), show nI (d + i) + 1 = nI (d + i + 1) from nI_1 _, e_bd hA (by omega), ob, show nI i + 1 = nI (i + 1) from nI_1 _]
      exact ih (i + 1) n (by omega) (by omega)
theorem e_nxmL (hA : AR k ka fa ca kd fg cs) (hL : L < 2 ^ k) (hG : G < 2 ^ k) (hd : d ≤ 999) : ∀ (j i n : Nat) (kp : Nat → Int32) (ik cu : Int32), i + j = k → j < n → ∃ (kp' : Nat → Int32) (ik' cu' : Int32), f_X10_nextOne_11 FU n (oI ((mn (fun t => whn k kd fg cs L G d t) i).map (·.1))) (nI i) ka fa ca (nI k) (nI d) (nI L) (nI G) kp ik cu (oI ((mn (fun t => whn k kd fg cs L G d t) i).map (·.2))) = some (oI ((nxw k kd fg cs L G d).map (·.1)), ka, fa, ca, nI k, nI d, nI L, nI G, kp', ik', cu', oI ((nxw k kd fg cs L G d).map (·.2))) ∧ ∀ j, j < 62 → kp' j = kp j := by
  have hk := hA.1
  intro j
  induction j with
  | zero =>
    intro i n kp ik cu hi hn
    obtain ⟨n, rfl⟩ : ∃ z, n = z + 1 := ⟨n - 1, by omega⟩
    have : i = k := by omega
    subst this
    exact ⟨kp, ik, cu, by rw [f_X10_nextOne_11, if_pos (Int32.le_refl _)]; rfl, fun _ _ => rfl⟩
  | succ j ih =>
    intro i n kp ik cu hi hn
    obtain ⟨n, rfl⟩ : ∃ z, n = z + 1 := ⟨n - 1, by omega⟩
    have hik : i < k := by omega
    obtain ⟨kp', ik', cu', nx, nk⟩ := ih (i + 1) n (SV kp ka fa ca k d L G) 0 (nI 93) (by omega) (by omega)
    refine ⟨kp', ik', cu', ?_, fun j hj => by rw [nk j hj, SV_lo _ _ _ _ _ _ _ _ hj]⟩
    have hP := mn_P (fun t => whn k kd fg cs L G d t) i
    rw [mn] at nx
    rw [f_X10_nextOne_11, if_neg (nI_ge hik (by omega)), e_lw hA hL hG (by omega) (by omega), ob]
    have e1 : nI i + 1 = nI (i + 1) := nI_1 _
    generalize hmn : mn (fun t => whn k kd fg cs L G d t) i = X at nx hP ⊢
    cases hw : whn k kd fg cs L G d i with
    | none =>
      rw [hw] at nx
      rw [if_pos (show oI none ≤ 0 by decide), f_X10_nextOne_53, e1]
      exact nx
    | some m =>
      have hm := whn_le hw
      rw [hw] at nx
      dsimp only at nx
      by_cases h0 : m = 0
      · subst h0
        rw [if_pos (show oI (some 0) ≤ 0 by decide), f_X10_nextOne_53, e1]
        rw [if_pos rfl] at nx
        exact nx
      · rw [if_neg (show ¬ oI (some m) ≤ 0 from nI_nle (by omega) (by omega))]
        rw [if_neg h0] at nx
        cases X with
        | none =>
          rw [if_pos (show oI (Option.map (·.1) (none : Option (Nat × Nat))) < 0 by decide), f_X10_nextOne_46, f_X10_nextOne_53, e1]
          exact nx
        | some b =>
          have hb1 := hP.1
          have hb2 := whn_le hP.2.1
          rw [if_neg (show ¬ oI (Option.map (·.1) (some b)) < 0 from nI_pos (n := b.1) (by omega))]
          dsimp only at nx
          by_cases hc : m < b.2
          · rw [if_pos (show oI (some m) < oI (Option.map (·.2) (some b)) from nI_lt (a := m) (b := b.2) hc (by omega)), f_X10_nextOne_46, f_X10_nextOne_53, e1]
            rw [if_pos hc] at nx
            exact nx
          · rw [if_neg (show ¬ oI (some m) < oI (Option.map (·.2) (some b)) from nI_nlt (a := m) (b := b.2) (by omega) (by omega)), f_X10_nextOne_53, e1]
            rw [if_neg hc] at nx
            exact nx
theorem e_stmL (hA : AR k ka fa ca kd fg cs) (hL : L < 2 ^ k) (hG : G < 2 ^ k) (hd : d ≤ 999) : ∀ (j i n : Nat) (kp : Nat → Int32) (ik cu : Int32), i + j = 61 → j < n → ∃ (kp' : Nat → Int32) (ik' cu' : Int32), f_X10_still_2 FU n (nI i) ka fa ca (nI k) (nI d) (nI L) (nI G) kp ik cu = some (oI (fw (fun n => decide (run k kd fg cs L G d n = run k kd fg cs L G d (n + 12))) j i), ka, fa, ca, nI k, nI d, nI L, nI G, kp', ik', cu') ∧ ∀ j, j < 62 → kp' j = kp j := by
  have hk := hA.1
  intro j
  induction j with
  | zero =>
    intro i n kp ik cu hi hn
    obtain ⟨n, rfl⟩ : ∃ z, n = z + 1 := ⟨n - 1, by omega⟩
    have : i = 61 := by omega
    subst this
    exact ⟨kp, ik, cu, by rw [f_X10_still_2, if_pos (show (60 : Int32) < nI 61 by decide)]; rfl, fun _ _ => rfl⟩
  | succ j ih =>
    intro i n kp ik cu hi hn
    obtain ⟨n, rfl⟩ : ∃ z, n = z + 1 := ⟨n - 1, by omega⟩
    have h1 := p9 hk (run_lt (kd := kd) (fg := fg) (cs := cs) (G := G) (d := d) hL i)
    have h2 := p9 hk (run_lt (kd := kd) (fg := fg) (cs := cs) (G := G) (d := d) hL (i + 12))
    have st : f_X10_still_2 FU (n + 1) (nI i) ka fa ca (nI k) (nI d) (nI L) (nI G) kp ik cu = if nI (run k kd fg cs L G d i) = nI (run k kd fg cs L G d (i + 12)) then some (nI i, ka, fa, ca, nI k, nI d, nI L, nI G, SV (SV kp ka fa ca k d L G) ka fa ca k d L G, 0, nI 93) else f_X10_still_2 FU n (nI (i + 1)) ka fa ca (nI k) (nI d) (nI L) (nI G) (SV (SV kp ka fa ca k d L G) ka fa ca k d L G) 0 (nI 93) := by
      rw [f_X10_still_2, if_neg (show ¬ (60 : Int32) < nI i from nI_nlt (a := 60) (by omega) (by omega)), e_lostIn hA hL hG (by omega) (by omega), ob, show nI i + 12 = nI (i + 12) from nI_add i 12]
      dsimp only
      rw [e_lostIn hA hL hG (by omega) (by omega), ob, show nI i + 1 = nI (i + 1) from nI_1 _]
    rw [st, fw]
    by_cases hx : run k kd fg cs L G d i = run k kd fg cs L G d (i + 12)
    · exact ⟨SV (SV kp ka fa ca k d L G) ka fa ca k d L G, 0, nI 93, by rw [if_pos (by rw [← hx]), if_pos (decide_eq_true hx)]; rfl, fun j hj => by rw [SV_lo _ _ _ _ _ _ _ _ hj, SV_lo _ _ _ _ _ _ _ _ hj]⟩
    · obtain ⟨kp', ik', cu', nx, nk⟩ := ih (i + 1) n (SV (SV kp ka fa ca k d L G) ka fa ca k d L G) 0 (nI 93) (by omega) (by omega)
      refine ⟨kp', ik', cu', ?_, fun j hj => by rw [nk j hj, SV_lo _ _ _ _ _ _ _ _ hj, SV_lo _ _ _ _ _ _ _ _ hj]⟩
      rw [if_neg (by rw [nI_eq (by omega) (by omega)]; exact hx), if_neg (fun z => hx (of_decide_eq_true z))]
      exact nx
theorem e_is2 (x : Int32) : (x = 0 ∨ x = 1 ∨ x = 2) ∧ f_X10_isIn x 0 2 = some 1 ∨ (¬ x = 0 ∧ ¬ x = 1 ∧ ¬ x = 2 ∧ f_X10_isIn x 0 2 = some 0) := by
  by_cases h0 : x = 0
  · subst h0; exact Or.inl ⟨Or.inl rfl, rfl⟩
  by_cases h1 : x = 1
  · subst h1; exact Or.inl ⟨Or.inr (Or.inl rfl), rfl⟩
  by_cases h2 : x = 2
  · subst h2; exact Or.inl ⟨Or.inr (Or.inr rfl), rfl⟩
  refine Or.inr ⟨h0, h1, h2, ?_⟩
  unfold f_X10_isIn
  by_cases g : x < 0
  · rw [if_pos g]
  · rw [if_neg g]
    by_cases g2 : 2 < x
    · rw [if_pos g2]
    · exfalso
      obtain ⟨n, hn, rfl⟩ := nI_of2 (M := 2) (n := 2) rfl g (Int32.not_lt.mp g2)
      have : n = 0 ∨ n = 1 ∨ n = 2 := by omega
      rcases this with rfl | rfl | rfl
      · exact h0 rfl
      · exact h1 rfl
      · exact h2 rfl
theorem t_next (hA : AR k ka fa ca kd fg cs) (hL : L < 2 ^ k) (hG : G < 2 ^ k) (hd : d ≤ 999) (rf kp : Nat → Int32) (ik cu nw x : Int32) : ∃ (r : Int32) (rf' kp' : Nat → Int32) (ik' cu' nw' : Int32), f_X9_next FU ka fa ca (nI k) (nI L) (nI G) (nI d) rf x = some (r, rf') ∧ f_X10_next_ FU rf ka fa ca (nI k) (nI d) (nI L) (nI G) kp ik cu nw x = some (r, rf', ka, fa, ca, nI k, nI d, nI L, nI G, kp', ik', cu', nw') ∧ ∀ j, j < 62 → kp' j = kp j := by
  have hk := hA.1
  unfold f_X9_next f_X10_next_
  rcases e_is2 x with ⟨hx, h2⟩ | ⟨h0, h1, h2, h3⟩
  · obtain ⟨kp', ik', cu', m1, m2⟩ := e_nxmL hA hL hG hd k 0 FU kp ik cu (by omega) (by unfold FU; omega)
    have m1' : f_X10_nextOne FU ka fa ca (nI k) (nI d) (nI L) (nI G) kp ik cu nw = _ := m1
    rcases hx with rfl | rfl | rfl
    · refine ⟨oI ((nxw k kd fg cs L G d).map (·.1)), rf, kp', ik', cu', oI ((nxw k kd fg cs L G d).map (·.2)), ?_, ?_, m2⟩
      · rw [if_pos rfl, e_ftf hA hL hd, ob]
      · rw [h2, ob, if_neg n10, if_neg (by decide), m1', ob, if_pos rfl]
    · refine ⟨oI ((nxw k kd fg cs L G d).map (·.2)), rf, kp', ik', cu', oI ((nxw k kd fg cs L G d).map (·.2)), ?_, ?_, m2⟩
      · rw [if_neg n10, if_pos rfl, e_ftf hA hL hd, ob]
        have hP : MnP (fun t => whn k kd fg cs L G d t) k (nxw k kd fg cs L G d) := mn_P _ _
        cases hn : nxw k kd fg cs L G d with
        | none => rfl
        | some b =>
          rw [hn] at hP
          have hb := hP.1
          rw [if_neg (fun z => by cases (oI_m9 (o := some b.1) (fun q h => by cases h; omega)).mp z), show oI (Option.map (·.1) (some b)) = nI b.1 from rfl, e_dul hA hL (by omega) (by omega), ob]
          rw [show whn k kd fg cs L G d b.1 = some b.2 from hP.2.1]
          rfl
      · rw [h2, ob, if_neg n10, if_neg (by decide), m1', ob, if_neg n10]
    · obtain ⟨kp', ik', cu', m1, m2⟩ := e_stmL hA hL hG hd 61 0 FU kp ik cu (by omega) (by unfold FU; omega)
      have m1' : f_X10_still FU ka fa ca (nI k) (nI d) (nI L) (nI G) kp ik cu = _ := m1
      refine ⟨oI (fw (fun n => decide (run k kd fg cs L G d n = run k kd fg cs L G d (n + 12))) 61 0), rf, kp', ik', cu', nw, ?_, ?_, m2⟩
      · rw [if_neg (by decide), if_neg (by decide), if_pos rfl, show f_X4_daysUntilStill FU ka fa ca (nI k) (nI L) (nI G) (nI d) = _ from e_dusL hA hL hd 61 0 FU (by omega) (by unfold FU; omega), ob]
      · rw [h2, ob, if_neg n10, if_pos rfl, m1', ob]
  · refine ⟨-2, rfu rf 2, kp, ik, cu, nw, ?_, ?_, fun _ _ => rfl⟩
    · rw [if_neg h0, if_neg h1, if_neg h2, e_ref2, ob]
    · rw [h3, ob, if_pos rfl, e_no2, ob]
end CE2
