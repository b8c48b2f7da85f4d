/-! THE KIT OF THIS CLAIM'S CONTRACTS: a world of cells at fixed addresses, what stays outside of it, calls and returns -/
def xk_nest : List Cond := [
  .fieldLinkNest RX0 25 RX7 "lost" "I" RX9, .fieldLinkNest RX0 31 RX7 "guarded" "I" RX9, .fieldLinkNest RX0 34 RX7 "day" "I" RX9, .fieldLinkNest RX2 23 RX7 "lost" "I" RX9,
  .fieldLinkNest RX2 29 RX7 "guarded" "I" RX9, .fieldLinkNest RX2 32 RX7 "day" "I" RX9, .fieldLinkNest RX3 35 RX7 "lost" "I" RX9, .fieldLinkNest RX3 38 RX7 "size" "I" RX9,
  .fieldLinkNest RX4 9 RX7 "guarded" "I" RX9, .fieldLinkNest RX4 15 RX7 "day" "I" RX9, .fieldLinkNest RX4 26 RX7 "lost" "I" RX9, .fieldLinkNest RX4 45 RX7 "size" "I" RX9,
  .fieldLinkNest RX5 23 RX7 "lost" "I" RX9, .fieldLinkNest RX5 28 RX7 "guarded" "I" RX9, .fieldLinkNest RX5 31 RX7 "day" "I" RX9, .fieldLinkNest RX6 13 RX7 "size" "I" RX9,
  .fieldLinkNest RX6 33 RX7 "day" "I" RX9, .fieldLinkNest RX9 106 RX7 "lost" "I" RX9, .fieldLinkNest RX9 240 RX7 "size" "I" RX9, .fieldLinkNest RX9 261 RX5 "size" "I" RX9,
  .fieldLinkNest RX9 265 RX7 "day" "I" RX9, .fieldLinkNest RX9 268 RX7 "guarded" "I" RX9, .fieldLinkNest RX9 271 RX8 "size" "I" RX9, .methodLinkNest RX9 38 yX3_init RX9]
def xk_isN : Cond → Bool
  | .fieldLinkNest _ _ _ _ _ _ => true
  | .methodLinkNest _ _ _ _ => true
  | _ => false
theorem xk_nest_ok : ∀ w ∈ xk_nest, xk_isN w = true := fun w h => List.all_eq_true.mp (show xk_nest.all xk_isN = true from rfl) w h
def xk_N (U : State) : Prop := ∀ w ∈ xk_nest, va_Nw w U
theorem xk_N.warm {s U : State} (hW : s.WarmedH U.vm) (h : xk_N s) : xk_N U := by
  intro w hw
  have h1 := h w hw
  have h2 := xk_nest_ok w hw
  cases w with
  | fieldLinkNest a i b n d z => exact va_Nw.warmF hW h1
  | methodLinkNest a i x z => exact va_Nw.warmM hW h1
  | _ => simp [xk_isN] at h2
theorem xk_N.same {u U : State} (hv : u.vm = U.vm) (h : xk_N u) : xk_N U := by
  intro w hw
  have h1 := h w hw
  have h2 := xk_nest_ok w hw
  cases w with
  | fieldLinkNest a i b n d z => exact va_Nw.same rfl hv h1
  | methodLinkNest a i x z => exact va_Nw.same rfl hv h1
  | _ => simp [xk_isN] at h2
/-- the text constant, and the static that its methods read -/
def xk_T (sa sv : Nat → Nat) (A : Nat → Prop) (U : State) (H : Heap) : Prop :=
  vk_R RX8 35 "nshbkw" (sa 0) U ∧ vk_S 1 [6] [[110, 115, 104, 98, 107, 119]] sa sv A U H ∧ va_Z "java/lang/String" "COMPACT_STRINGS" "Z" (.int 1) A U H
/-- what holds outside of the world -/
def xk_K (D : va_G) (cA : ClassId) (sa sv : Nat → Nat) (A : Nat → Prop) (U : State) (H : Heap) : Prop :=
  va_K D vwCl [(cA, .int)] U ∧ xk_N U ∧ xk_T sa sv A U H
theorem xk_K.enter {D : va_G} {cA : ClassId} {sa sv : Nat → Nat} {A A1 : Nat → Prop} {s U : State} {H : Heap} {locs : List Loc} (h : xk_K D cA sa sv A s s.heap) (hS : va_S A s.heap H locs) (hF : ∀ q, A1 q → A q) (hU : U.heap = H) (hW : s.WarmedH U.vm) : xk_K D cA sa sv A1 U U.heap := by
  obtain ⟨h1, h2, h3, h4, h5⟩ := h
  refine ⟨va_K.moved hW.alike h1, h2.warm hW, vk_R.warm hW h3, ?_, ?_⟩
  · rw [hU]; exact (vk_S.moved hW.alike (h4.kept hS.2.1)).narrow hF
  · rw [hU]; exact (va_Z.moved hW.alike (h5.kept hS.2.1)).narrow hF
theorem xk_K.same {D : va_G} {cA : ClassId} {sa sv : Nat → Nat} {A : Nat → Prop} {u U : State} {H : Heap} (hv : u.vm = U.vm) (h : xk_K D cA sa sv A u H) : xk_K D cA sa sv A U H := by
  obtain ⟨h1, h2, h3, h4, h5⟩ := h
  have ha : u.vm.Alike U.vm := by rw [hv]; exact Vm.Alike.refl U.vm
  exact ⟨va_K.moved ha h1, h2.same hv, vk_R.same hv.symm h3, vk_S.moved ha h4, va_Z.moved ha h5⟩
theorem xk_K.narrow {D : va_G} {cA : ClassId} {sa sv : Nat → Nat} {A A1 : Nat → Prop} {U : State} {H : Heap} (h : xk_K D cA sa sv A U H) (hF : ∀ q, A1 q → A q) : xk_K D cA sa sv A1 U H :=
  ⟨h.1, h.2.1, h.2.2.1, h.2.2.2.1.narrow hF, h.2.2.2.2.narrow hF⟩
/-- a contract's start -/
def xk_Pc (D : va_G) (cA : ClassId) (sa sv : Nat → Nat) (ws : va_W) (sz : Nat) (av : List Value) : Array Value → State → Prop :=
  va_Pc av (fun U => U.heap.size = sz ∧ va_P D vwCl ws U.heap ∧ xk_K D cA sa sv (va_A ws sz) U U.heap ∧ va_D (fun _ => True) ws)
/-- a contract's end: the answer, the world -/
def xk_Q (D : va_G) (A : Nat → Prop) (v : Option Value) (ws : va_W) : Array Value → State → Outcome → State → Prop :=
  fun _ st oc t => (oc = .returned v ∧ va_P D vwCl ws t.heap ∧ va_D A ws) ∧ va_F A st t
theorem xk_blind {D : va_G} {cA : ClassId} {sa sv : Nat → Nat} {ws : va_W} {sz : Nat} {av : List Value} : FrameBlind (xk_Pc D cA sa sv ws sz av) := by
  intro a U g mk q
  obtain ⟨q0, q1, qP, qK, qD⟩ := q
  exact ⟨q0, q1, qP, xk_K.same (u := U) (U := U.calling g mk a) rfl qK, qD⟩
/-- a method's contract out of a walk from its first instruction -/
theorem xk_met {l : Launch} {ρ : Type} {y : MethodName} {wsy ws'' : List Cond} {fr lo : Nat} {D : va_G} {cA : ClassId} {sa sv : Nat → Nat} {ws : va_W} {sz : Nat} {av : List Value} {cc : ByteArray} {maxL : Nat} {ret : Option FieldType}
    (val : ρ → Option Value) (wn : ρ → va_W) (res : ρ) (hy : plainName y.cls = true) (hw : wsy = Cond.code y cc maxL ret :: ws'') (hlen : (lg_sl av).length ≤ maxL)
    (body : ∀ (p : Program) (e : Env) (s : State) (m : MethodId) (args : Array Value) (below : List Frame) (meth : Method) (c : Code) (A : Nat → Prop) (Q : ρ → State → Prop) (ls : Array Slot),
      (∀ r, Q r = MQ below (xk_Q D A (val r) (wn r)) args s 0 0 A) → p.tables.exec = Jvm.exec → c.code = cc → meth.sig.returnType = ret → meth.locks = false → c.maxLocals = maxL → s.vm.findClass y.cls = some m.cls → (∀ w ∈ wsy, w.before args s = true) →
      xk_K D cA sa sv A s s.heap → va_P D vwCl ws s.heap → va_D A ws → va_S A s.heap s.heap [] → (∀ q, s.heap.size ≤ q → A q) → lv_has ls maxL (lv_args 0 av) →
      W p l e { frames := fr, cells := 0, slots := 0, locals := lo } s m args below meth c s.heap [] 0 0 (Q res) (F0 m 0 ls [])) :
    Met l y wsy { frames := fr, cells := 0, slots := 0, locals := lo } (xk_Pc D cA sa sv ws sz av) (xk_Q D (va_A ws sz) (val res) (wn res)) 0 0 (va_A ws sz) := by
  refine Met.ofW (cc := cc) (maxL := maxL) (ret := ret) hy hw ?_
  intro p e s m args below meth c s₁ B hml hv
  obtain ⟨rfl, hsz, hP, hK, hD0⟩ := hv
  subst hsz
  have hl := lv_entry av (n := maxL) hlen
  rw [lg_entry_eq]
  exact body p e s m av.toArray below meth c _ (fun r => MQ below (xk_Q D (va_A ws s.heap.size) (val r) (wn r)) av.toArray s 0 0 (va_A ws s.heap.size)) _ (fun _ => rfl) B.exec B.bytes B.returns B.notSynchronized hml (findClass_of_methodNamed B.named) (atoms_spec (ws := wsy) B.pre) hK hP (hD0.self (sz := s.heap.size)) va_S.rf (fun q h => Or.inr h) hl
section XKC
variable {p : Program} {l : Launch} {e : Env} {R : Room} {s : State} {m : MethodId} {args : Array Value} {below : List Frame} {meth : Method} {c : Code} {H : Heap} {locs : List Loc} {cells slots : Nat} {Q : State → Prop}
variable {cc : ByteArray} {pc nL : Nat} {ls : Array Slot} {rest st0 : List Value} {D : va_G} {cA : ClassId} {sa sv : Nat → Nat} {A : Nat → Prop} {ws wc wr wc' wn : va_W}
theorem xk_iret {v : Int32} (hx : p.tables.exec = Jvm.exec) (hb : c.code = cc) (hr : meth.sig.returnType = some .int) (hlk : meth.locks = false) (hP : va_P D vwCl ws H) (hD : va_D A ws) (hS : va_S A s.heap H locs) (hQ : Q = MQ below (xk_Q D A (some (.int v)) ws) args s cells slots A) (hdg : decode cc pc = .ok (.ireturn, 1)) : W p l e R s m args below meth c H locs cells slots Q (F0 m pc ls [.int v]) := by
  rw [hQ]
  exact W.iret hx hb hr (fun t ht _ => ⟨⟨rfl, by rw [ht]; exact hP, hD⟩, hS.F ht⟩) hS.2.2 hdg hlk
theorem xk_zret {v : Int32} {ty : FieldType} (hn : narrow ty (.int v) = .int v) (hx : p.tables.exec = Jvm.exec) (hb : c.code = cc) (hr : meth.sig.returnType = some ty) (hlk : meth.locks = false) (hP : va_P D vwCl ws H) (hD : va_D A ws) (hS : va_S A s.heap H locs) (hQ : Q = MQ below (xk_Q D A (some (.int v)) ws) args s cells slots A) (hdg : decode cc pc = .ok (.ireturn, 1)) : W p l e R s m args below meth c H locs cells slots Q (F0 m pc ls [.int v]) := by
  rw [hQ]
  exact W.zret hx hb hr hn (fun t ht _ => ⟨⟨rfl, by rw [ht]; exact hP, hD⟩, hS.F ht⟩) hS.2.2 hdg hlk
theorem xk_lret {v : Int64} (hx : p.tables.exec = Jvm.exec) (hb : c.code = cc) (hr : meth.sig.returnType = some .long) (hlk : meth.locks = false) (hP : va_P D vwCl ws H) (hD : va_D A ws) (hS : va_S A s.heap H locs) (hQ : Q = MQ below (xk_Q D A (some (.long v)) ws) args s cells slots A) (hdg : decode cc pc = .ok (.lreturn, 1)) : W p l e R s m args below meth c H locs cells slots Q (F0 m pc ls [.long v]) := by
  rw [hQ]
  exact W.lret hx hb hr (fun t ht _ => ⟨⟨rfl, by rw [ht]; exact hP, hD⟩, hS.F ht⟩) hS.2.2 hdg (hlocks := hlk)
theorem xk_vret (hx : p.tables.exec = Jvm.exec) (hb : c.code = cc) (hr : meth.sig.returnType = none) (hlk : meth.locks = false) (hP : va_P D vwCl ws H) (hD : va_D A ws) (hS : va_S A s.heap H locs) (hQ : Q = MQ below (xk_Q D A none ws) args s cells slots A) (hdg : decode cc pc = .ok (.return_, 1)) : W p l e R s m args below meth c H locs cells slots Q (F0 m pc ls []) := by
  rw [hQ]
  exact W.vret hx hb hr (fun t ht _ => ⟨⟨rfl, by rw [ht]; exact hP, hD⟩, hS.F ht⟩) hS.2.2 hdg hlk
/-- behind a call: the callee's cells beside the rest, in their old order -/
theorem xk_go {v : Option Value} {a : Array Value} {stk : List Value} (hstk : v.toList ++ rest = stk) (hr : va_Run p l e R s m args below meth c H locs cells slots 0 0 (F0 m pc ls st0) rest (xk_Q D (va_A wc H.size) v wc' a) (va_A wc H.size))
    (hP : va_P D vwCl ws H) (hD : va_D A ws) (hS : va_S A s.heap H locs) (hA : ∀ q, s.heap.size ≤ q → A q)
    (isC isR isB : List Nat) (hC : isC.map (fun i => ws[i]?) = wc.map some) (hR : isR.map (fun i => ws[i]?) = wr.map some) (hnr : va_nd isR = true) (hdis : (isR.all fun i => !(isC.contains i)) = true) (hnb : va_nd isB = true) (hB : isB.map (fun i => (wr ++ wc')[i]?) = wn.map some)
    (kk : ∀ (H1 : Heap) (locs1 : List Loc), va_P D vwCl wn H1 → va_D A wn → va_S A s.heap H1 locs1 → W p l e R s m args below meth c H1 locs1 cells slots Q (F0 m (pc + 3) ls stk)) : W p l e R s m args below meth c H locs cells slots Q (F0 m pc ls st0) := by
  have hF := va_free (wc := wc) hD hS hA isC hC
  have hdis' : ∀ i ∈ isR, i ∉ isC := by
    intro i hi h
    have h1 := List.all_eq_true.mp hdis i hi
    simp [List.contains_iff_mem, h] at h1
  subst hstk
  intro T hT X
  obtain ⟨v', st₀, t, T', L, h0, X', hL, e1, e2, ⟨⟨hv, hp1, hd1⟩, hz, hk⟩, st⟩ := hr T hT X
  cases hv
  rw [h0] at hz hk
  obtain ⟨hPj, hDj⟩ := va_join (wr := wr) (w1 := wc') hP hD isC isR hC hR hnr hdis' (H1 := t.heap) hk hF hp1 hd1
  have hDn : va_D A wn := hDj.sub isB hnb hB
  have hPn : va_P D vwCl wn t.heap := by
    refine hPj.sub isB ?_
    have h1 : (isB.map (fun i => (wr ++ wc')[i]?)).filterMap id = (wn.map some).filterMap id := by rw [hB]
    rw [List.filterMap_map, List.filterMap_map] at h1
    simpa using h1
  obtain ⟨t2, a1, b1⟩ := kk T'.heap (locs ++ L) (by rw [e1]; exact hPn) hDn
    ⟨Nat.le_trans hS.1 (by rw [e1]; exact hz), fun q h1 h2 => by rw [e1, hk q (Nat.lt_of_lt_of_le h1 hS.1) (fun z => h2 (hF q z))]; exact hS.2.1 q h1 h2, fun q hq => by
      rcases List.mem_append.mp hq with h | h
      · exact hS.2.2 q h
      · exact hF _ (hL q h)⟩ T' rfl X'
  exact ⟨t2, st t2 a1, b1⟩
/-- an instance method's call -/
theorem xk_V {v : Option Value} {y : MethodName} {wsy ws'' Ts : List Cond} {rm : Room} {own C : String} {index n maxL ci q0 N b : Nat} {bytes : ByteArray} {ret : Option FieldType} {As fs stk : List Value} {T : u_T}
    (hg : GoodIn Ts (wsV own index C y wsy)) (hw : wsy = Cond.code y bytes maxL ret :: ws'') (hd : y.cls = C ∧ y.cls ≠ "java/lang/invoke/MethodHandle" ∧ y.cls ≠ "java/lang/invoke/VarHandle" ∧ (parseMethodDescriptor y.desc).map (fun d => d.parameters.length) = some n) (hrc : rm.cells = 0) (hrs : rm.slots = 0)
    (hM : Met l y wsy rm (xk_Pc D cA sa sv wc H.size (.ref b :: As)) (xk_Q D (va_A wc H.size) v wc') 0 0 (va_A wc H.size)) (hcl : vwCl[ci]? = some (C, T, N)) (he : wc[q0]? = some (b, .inr (ci, fs)))
    (S : CallFix p m c cc nL s args Ts own) (hK : xk_K D cA sa sv A s s.heap) (hP : va_P D vwCl ws H) (hD : va_D A ws) (hS : va_S A s.heap H locs) (hA : ∀ q, s.heap.size ≤ q → A q)
    (isC isR isB : List Nat) (hC : isC.map (fun i => ws[i]?) = wc.map some) (hR : isR.map (fun i => ws[i]?) = wr.map some) (hnc : va_nd isC = true) (hnr : va_nd isR = true) (hdis : (isR.all fun i => !(isC.contains i)) = true) (hnb : va_nd isB = true) (hB : isB.map (fun i => (wr ++ wc')[i]?) = wn.map some)
    (hRm : rm.frames + 1 ≤ R.frames ∧ 8 + (maxL + 11) + rm.locals ≤ R.locals) (hf : cells ≤ R.cells ∧ slots ≤ R.slots) (hn : As.length = n) (hsz : ls.size = nL) (hst : st0 = As.reverse ++ .ref b :: rest) (hroom : (rest.map fun v => v.category).sum ≤ 8) (hstk : v.toList ++ rest = stk) (hdg : decode cc pc = .ok (.invokevirtual index, 3))
    (kk : ∀ (H1 : Heap) (locs1 : List Loc), va_P D vwCl wn H1 → va_D A wn → va_S A s.heap H1 locs1 → W p l e R s m args below meth c H1 locs1 cells slots Q (F0 m (pc + 3) ls stk)) : W p l e R s m args below meth c H locs cells slots Q (F0 m pc ls st0) := by
  have hF := va_free (wc := wc) hD hS hA isC hC
  have hPc : va_P D vwCl wc H := by
    refine hP.sub isC ?_
    have h1 : (isC.map (fun i => ws[i]?)).filterMap id = (wc.map some).filterMap id := by rw [hC]
    rw [List.filterMap_map, List.filterMap_map] at h1
    simpa using h1
  have hDc := hD.sub isC hnc hC
  refine xk_go hstk (va_runV (As := As) (rest := rest) S hM (cwV n S.2.2.2.2 hg hw hrc hrs hd hRm) ⟨xk_blind, va_recv hK.1 hPc hcl he, fun U hU hW => ⟨rfl, by rw [hU], by rw [hU]; exact hPc, hK.enter hS hF hU hW, hDc.weaken (fun _ _ _ _ => trivial)⟩⟩ rfl hn hsz hst (lv_room hroom) hdg hf) hP hD hS hA isC isR isB hC hR hnr hdis hnb hB kk
/-- a static method's call -/
theorem xk_S {v : Option Value} {y : MethodName} {wsy ws'' Ts : List Cond} {rm : Room} {own : String} {index n maxL : Nat} {bytes : ByteArray} {ret : Option FieldType} {As stk : List Value}
    (hg : GoodIn Ts (va_wsS own index y wsy)) (hw : wsy = Cond.code y bytes maxL ret :: ws'') (hd : y.cls ≠ "java/lang/invoke/MethodHandle" ∧ y.cls ≠ "java/lang/invoke/VarHandle" ∧ (parseMethodDescriptor y.desc).map (fun d => d.parameters.length) = some n) (hrc : rm.cells = 0) (hrs : rm.slots = 0)
    (hM : Met l y wsy rm (xk_Pc D cA sa sv wc H.size As) (xk_Q D (va_A wc H.size) v wc') 0 0 (va_A wc H.size))
    (S : CallFix p m c cc nL s args Ts own) (hK : xk_K D cA sa sv A s s.heap) (hP : va_P D vwCl ws H) (hD : va_D A ws) (hS : va_S A s.heap H locs) (hA : ∀ q, s.heap.size ≤ q → A q)
    (isC isR isB : List Nat) (hC : isC.map (fun i => ws[i]?) = wc.map some) (hR : isR.map (fun i => ws[i]?) = wr.map some) (hnc : va_nd isC = true) (hnr : va_nd isR = true) (hdis : (isR.all fun i => !(isC.contains i)) = true) (hnb : va_nd isB = true) (hB : isB.map (fun i => (wr ++ wc')[i]?) = wn.map some)
    (hRm : rm.frames + 1 ≤ R.frames ∧ 8 + (maxL + 11) + rm.locals ≤ R.locals) (hf : cells ≤ R.cells ∧ slots ≤ R.slots) (hn : As.length = n) (hsz : ls.size = nL) (hst : st0 = As.reverse ++ rest) (hroom : (rest.map fun v => v.category).sum ≤ 8) (hstk : v.toList ++ rest = stk) (hdg : decode cc pc = .ok (.invokestatic index, 3))
    (kk : ∀ (H1 : Heap) (locs1 : List Loc), va_P D vwCl wn H1 → va_D A wn → va_S A s.heap H1 locs1 → W p l e R s m args below meth c H1 locs1 cells slots Q (F0 m (pc + 3) ls stk)) : W p l e R s m args below meth c H locs cells slots Q (F0 m pc ls st0) := by
  have hF := va_free (wc := wc) hD hS hA isC hC
  have hPc : va_P D vwCl wc H := by
    refine hP.sub isC ?_
    have h1 : (isC.map (fun i => ws[i]?)).filterMap id = (wc.map some).filterMap id := by rw [hC]
    rw [List.filterMap_map, List.filterMap_map] at h1
    simpa using h1
  have hDc := hD.sub isC hnc hC
  refine xk_go hstk (va_runS (As := As) (rest := rest) S hM (va_cwS n S.2.2.2.2 hg hw hrc hrs hd hRm) ⟨xk_blind, fun U hU hW => ⟨rfl, by rw [hU], by rw [hU]; exact hPc, hK.enter hS hF hU hW, hDc.weaken (fun _ _ _ _ => trivial)⟩⟩ rfl hn hsz hst (lv_room hroom) hdg hf) hP hD hS hA isC isR isB hC hR hnr hdis hnb hB kk
end XKC
theorem gd_some {α : Type} {c : Prop} [Decidable c] {a : Option α} {r : α} (h : (if c then a else none) = some r) : c ∧ a = some r := by
  by_cases hc : c
  · rw [if_pos hc] at h; exact ⟨hc, h⟩
  · rw [if_neg hc] at h; cases h
theorem bd_some {α β : Type} {o : Option α} {f : α → Option β} {r : β} (h : o.bind f = some r) : ∃ a, o = some a ∧ f a = some r := by
  cases o with
  | none => cases h
  | some a => exact ⟨a, rfl, h⟩
theorem xk_bool {v : Int32} (h : v = 0 ∨ v = 1) : narrow .boolean (.int v) = .int v ∧ fits .boolean (.int v) = true := by
  rcases h with rfl | rfl <;> exact ⟨rfl, rfl⟩
def xa {α : Type} (i : Int32) (n : Nat) (k : Option α) : Option α := if i < 0 ∨ n ≤ i.toNatClampNeg then none else k
theorem xa_some {α : Type} {i : Int32} {n : Nat} {k : Option α} {r : α} (h : xa i n k = some r) : vp_in i n ∧ k = some r := by
  unfold xa at h
  by_cases hc : i < 0 ∨ n ≤ i.toNatClampNeg
  · rw [if_pos hc] at h; cases h
  · rw [if_neg hc] at h; exact ⟨hc, h⟩
theorem xa_in {α : Type} {i : Int32} {n : Nat} {k : Option α} (h : vp_in i n) : xa i n k = k := if_neg h
def xd {α : Type} (y : Int32) (k : Option α) : Option α := if y = 0 then none else k
theorem xd_some {α : Type} {y : Int32} {k : Option α} {r : α} (h : xd y k = some r) : (¬ y = 0) ∧ k = some r := by
  unfold xd at h
  by_cases hc : y = 0
  · rw [if_pos hc] at h; cases h
  · rw [if_neg hc] at h; exact ⟨hc, h⟩
def xdl {α : Type} (y : Int64) (k : Option α) : Option α := if y = 0 then none else k
theorem xdl_some {α : Type} {y : Int64} {k : Option α} {r : α} (h : xdl y k = some r) : (¬ y = 0) ∧ k = some r := by
  unfold xdl at h
  by_cases hc : y = 0
  · rw [if_pos hc] at h; cases h
  · rw [if_neg hc] at h; exact ⟨hc, h⟩
def xz {α : Type} (y : Int32) (k : Option α) : Option α := if y = 0 ∨ y = 1 then k else none
theorem xz_some {α : Type} {y : Int32} {k : Option α} {r : α} (h : xz y k = some r) : (y = 0 ∨ y = 1) ∧ k = some r := gd_some h
