/-! THE TEXT CONSTANT: indexOf on "nshbkw", by the JDK's own methods -/
theorem hdV_J0_coder_7d493 : yJ0_coder_7d493.cls = RJ0 ∧ yJ0_coder_7d493.cls ≠ "java/lang/invoke/MethodHandle" ∧ yJ0_coder_7d493.cls ≠ "java/lang/invoke/VarHandle" ∧ (parseMethodDescriptor yJ0_coder_7d493.desc).map (fun d => d.parameters.length) = some 0 := by decide +kernel
theorem hdV_J0_isLatin1_aae02 : yJ0_isLatin1_aae02.cls = RJ0 ∧ yJ0_isLatin1_aae02.cls ≠ "java/lang/invoke/MethodHandle" ∧ yJ0_isLatin1_aae02.cls ≠ "java/lang/invoke/VarHandle" ∧ (parseMethodDescriptor yJ0_isLatin1_aae02.desc).map (fun d => d.parameters.length) = some 0 := by decide +kernel
theorem hdV_J0_length_8abf5 : yJ0_length_8abf5.cls = RJ0 ∧ yJ0_length_8abf5.cls ≠ "java/lang/invoke/MethodHandle" ∧ yJ0_length_8abf5.cls ≠ "java/lang/invoke/VarHandle" ∧ (parseMethodDescriptor yJ0_length_8abf5.desc).map (fun d => d.parameters.length) = some 0 := by decide +kernel
theorem hdV_J0_indexOf_7cf53 : yJ0_indexOf_7cf53.cls = RJ0 ∧ yJ0_indexOf_7cf53.cls ≠ "java/lang/invoke/MethodHandle" ∧ yJ0_indexOf_7cf53.cls ≠ "java/lang/invoke/VarHandle" ∧ (parseMethodDescriptor yJ0_indexOf_7cf53.desc).map (fun d => d.parameters.length) = some 2 := by decide +kernel
theorem hdV_J0_indexOf_0f7a4 : yJ0_indexOf_0f7a4.cls = RJ0 ∧ yJ0_indexOf_0f7a4.cls ≠ "java/lang/invoke/MethodHandle" ∧ yJ0_indexOf_0f7a4.cls ≠ "java/lang/invoke/VarHandle" ∧ (parseMethodDescriptor yJ0_indexOf_0f7a4.desc).map (fun d => d.parameters.length) = some 1 := by decide +kernel
theorem hdS_J1_canEncode_9a6ad : yJ1_canEncode_9a6ad.cls ≠ "java/lang/invoke/MethodHandle" ∧ yJ1_canEncode_9a6ad.cls ≠ "java/lang/invoke/VarHandle" ∧ (parseMethodDescriptor yJ1_canEncode_9a6ad.desc).map (fun d => d.parameters.length) = some 1 := by decide +kernel
theorem hdS_J1_indexOfChar_4cfef : yJ1_indexOfChar_4cfef.cls ≠ "java/lang/invoke/MethodHandle" ∧ yJ1_indexOfChar_4cfef.cls ≠ "java/lang/invoke/VarHandle" ∧ (parseMethodDescriptor yJ1_indexOfChar_4cfef.desc).map (fun d => d.parameters.length) = some 4 := by decide +kernel
theorem hdS_J1_indexOf_4cfef : yJ1_indexOf_4cfef.cls ≠ "java/lang/invoke/MethodHandle" ∧ yJ1_indexOf_4cfef.cls ≠ "java/lang/invoke/VarHandle" ∧ (parseMethodDescriptor yJ1_indexOf_4cfef.desc).map (fun d => d.parameters.length) = some 4 := by decide +kernel
section XKT
variable {p : Program} {l : Launch} {e : Env} {R : Room} {s : State} {m : MethodId} {args : Array Value} {below : List Frame} {meth : Method} {c : Code} {H : Heap} {locs : List Loc} {cells slots : Nat} {Q : State → Prop}
variable {cc : ByteArray} {pc nL : Nat} {ls : Array Slot} {rest st0 : List Value} {D : va_G} {cA : ClassId} {sa sv : Nat → Nat} {A : Nat → Prop}
/-- a call on the text constant -/
theorem xk_VT {v : Option Value} {y : MethodName} {wsy ws'' Ts : List Cond} {rm : Room} {own : String} {index n maxL : Nat} {bytes : ByteArray} {ret : Option FieldType} {As stk : List Value}
    (hg : GoodIn Ts (wsV own index RJ0 y wsy)) (hw : wsy = Cond.code y bytes maxL ret :: ws'') (hd : y.cls = RJ0 ∧ y.cls ≠ "java/lang/invoke/MethodHandle" ∧ y.cls ≠ "java/lang/invoke/VarHandle" ∧ (parseMethodDescriptor y.desc).map (fun d => d.parameters.length) = some n) (hrc : rm.cells = 0) (hrs : rm.slots = 0)
    (hM : Met l y wsy rm (xk_Pc D cA sa sv ([] : va_W) H.size (.ref (sa 0) :: As)) (xk_Q D (va_A ([] : va_W) H.size) v ([] : va_W)) 0 0 (va_A ([] : va_W) H.size))
    (S : CallFix p m c cc nL s args Ts own) (hK : xk_K D cA sa sv A s s.heap) (hP : va_P D vwCl ([] : va_W) H) (hD : va_D A ([] : va_W)) (hS : va_S A s.heap H locs) (hA : ∀ q, s.heap.size ≤ q → A q)
    (hRm : rm.frames + 1 ≤ R.frames ∧ 8 + (maxL + 11) + rm.locals ≤ R.locals) (hf : cells ≤ R.cells ∧ slots ≤ R.slots) (hn : As.length = n) (hsz : ls.size = nL) (hst : st0 = As.reverse ++ .ref (sa 0) :: rest) (hroom : (rest.map fun v => v.category).sum ≤ 8) (hstk : v.toList ++ rest = stk) (hdg : decode cc pc = .ok (.invokevirtual index, 3))
    (kk : ∀ (H1 : Heap) (locs1 : List Loc), va_P D vwCl ([] : va_W) H1 → va_D A ([] : va_W) → va_S A s.heap H1 locs1 → W p l e R s m args below meth c H1 locs1 cells slots Q (F0 m (pc + 3) ls stk)) : W p l e R s m args below meth c H locs cells slots Q (F0 m pc ls st0) := by
  have hF := va_free (wc := ([] : va_W)) hD hS hA [] rfl
  refine xk_go (wr := ([] : va_W)) hstk (va_runV (As := As) (rest := rest) S hM (cwV n S.2.2.2.2 hg hw hrc hrs hd hRm) ⟨xk_blind, vk_recv hK.2.2.2.1 (Nat.zero_lt_one) hS, fun U hU hW => ⟨rfl, by rw [hU], by rw [hU]; exact hP, hK.enter hS hF hU hW, hD.weaken (fun _ _ _ _ => trivial)⟩⟩ rfl hn hsz hst (lv_room hroom) hdg hf) hP hD hS hA [] [] [] rfl rfl rfl rfl rfl rfl kk
end XKT
/-- the constant's letters -/
def kbl : List Int32 := [110, 115, 104, 98, 107, 119]
def ixk (c : Int32) : Nat → Nat → Int32
  | 0, _ => -1
  | j + 1, k => if kbl.getD k 0 = c then nI k else ixk c j (k + 1)
theorem ixk_kb : ∀ n, n < 256 → ixk (nI n).toInt8.toInt32 6 0 = kb_ix (nI n) := by decide +kernel
theorem kb_big {n : Nat} (h : 256 ≤ n) (h2 : n < 65536) : kb_ix (nI n) = -1 := by
  have e : ∀ q, q < 256 → ¬ nI n = nI q := fun q hq z => by rw [nI_eq (by omega) (by omega)] at z; omega
  unfold kb_ix
  rw [if_neg (show ¬ nI n = 110 from e 110 (by omega)), if_neg (show ¬ nI n = 115 from e 115 (by omega)), if_neg (show ¬ nI n = 104 from e 104 (by omega)), if_neg (show ¬ nI n = 98 from e 98 (by omega)), if_neg (show ¬ nI n = 107 from e 107 (by omega)), if_neg (show ¬ nI n = 119 from e 119 (by omega))]
set_option maxHeartbeats 4000000 in
set_option maxRecDepth 100000 in
theorem c_J0_isLatin1 (l : Launch) (D : va_G) (cA : ClassId) (sa sv : Nat → Nat) (sz : Nat) : Met l yJ0_isLatin1_aae02 wsJ0_isLatin1_aae02 { frames := 0, cells := 0, slots := 0, locals := 0 } (xk_Pc D cA sa sv ([] : va_W) sz [.ref (sa 0)]) (xk_Q D (va_A ([] : va_W) sz) (some (.int 1)) ([] : va_W)) 0 0 (va_A ([] : va_W) sz) := by
  refine xk_met (fun res : Int32 => some (.int res)) (fun _ : Int32 => ([] : va_W)) 1 (cc := cJ0_isLatin1_aae02) (maxL := 1) (ret := (some .boolean)) (by decide) rfl (Nat.le_of_ble_eq_true rfl) ?_
  intro p e s m args below meth c A Q ls hQ hx hb hr hlk hml hown hts hK hP hD hS hA hl
  have hl : lv_has ls 1 [(0, .ref (sa 0))] := hl
  have k_0 := hts (.fieldLink RJ0 38 "java/lang/String" "COMPACT_STRINGS" "Z") (List.mem_of_getElem? (i := 1) (by decide +kernel))
  have k_1 := hts (.fieldLink RJ0 15 "java/lang/String" "coder" "B") (List.mem_of_getElem? (i := 2) (by decide +kernel))
  refine va_gets hx hb hK.2.2.2.2 hS hown k_0 (fun _ h => h) dJ0_isLatin1_aae02_0 ?_
  refine lv_if_eq (tgt := 17) hx hb dJ0_isLatin1_aae02_3 (by decide) (fun c_1 => absurd c_1 (by decide)) (fun c_1 => ?_)
  refine lv_aload_n hx hb dJ0_isLatin1_aae02_6 rfl (lv_at hl 0 rfl) ?_
  refine vk_getf hx hb (hK.2.2.2.1.1 0 Nat.zero_lt_one).2.1 hS hown k_1 (fun _ h => h) dJ0_isLatin1_aae02_7 ?_
  refine lv_if_ne (tgt := 17) hx hb dJ0_isLatin1_aae02_10 (by decide) (fun c_1 => absurd rfl c_1) (fun c_1 => ?_)
  refine lv_iconst (v := 1) hx hb dJ0_isLatin1_aae02_13 (by decide) ?_
  refine lv_goto (tgt := 18) hx hb dJ0_isLatin1_aae02_14 (by decide) ?_
  exact xk_zret rfl hx hb hr hlk hP hD hS (hQ _) dJ0_isLatin1_aae02_18
set_option maxHeartbeats 4000000 in
set_option maxRecDepth 100000 in
theorem c_J0_coder (l : Launch) (D : va_G) (cA : ClassId) (sa sv : Nat → Nat) (sz : Nat) : Met l yJ0_coder_7d493 wsJ0_coder_7d493 { frames := 0, cells := 0, slots := 0, locals := 0 } (xk_Pc D cA sa sv ([] : va_W) sz [.ref (sa 0)]) (xk_Q D (va_A ([] : va_W) sz) (some (.int 0)) ([] : va_W)) 0 0 (va_A ([] : va_W) sz) := by
  refine xk_met (fun res : Int32 => some (.int res)) (fun _ : Int32 => ([] : va_W)) 0 (cc := cJ0_coder_7d493) (maxL := 1) (ret := (some .byte)) (by decide) rfl (Nat.le_of_ble_eq_true rfl) ?_
  intro p e s m args below meth c A Q ls hQ hx hb hr hlk hml hown hts hK hP hD hS hA hl
  have hl : lv_has ls 1 [(0, .ref (sa 0))] := hl
  have k_0 := hts (.fieldLink RJ0 38 "java/lang/String" "COMPACT_STRINGS" "Z") (List.mem_of_getElem? (i := 1) (by decide +kernel))
  have k_1 := hts (.fieldLink RJ0 15 "java/lang/String" "coder" "B") (List.mem_of_getElem? (i := 2) (by decide +kernel))
  refine va_gets hx hb hK.2.2.2.2 hS hown k_0 (fun _ h => h) dJ0_coder_7d493_0 ?_
  refine lv_if_eq (tgt := 13) hx hb dJ0_coder_7d493_3 (by decide) (fun c_1 => absurd c_1 (by decide)) (fun c_1 => ?_)
  refine lv_aload_n hx hb dJ0_coder_7d493_6 rfl (lv_at hl 0 rfl) ?_
  refine vk_getf hx hb (hK.2.2.2.1.1 0 Nat.zero_lt_one).2.1 hS hown k_1 (fun _ h => h) dJ0_coder_7d493_7 ?_
  refine lv_goto (tgt := 14) hx hb dJ0_coder_7d493_10 (by decide) ?_
  exact xk_zret rfl hx hb hr hlk hP hD hS (hQ _) dJ0_coder_7d493_14
set_option maxHeartbeats 4000000 in
set_option maxRecDepth 100000 in
theorem c_J0_length (l : Launch) (D : va_G) (cA : ClassId) (sa sv : Nat → Nat) (sz : Nat) : Met l yJ0_length_8abf5 wsJ0_length_8abf5 { frames := 1, cells := 0, slots := 0, locals := 20 } (xk_Pc D cA sa sv ([] : va_W) sz [.ref (sa 0)]) (xk_Q D (va_A ([] : va_W) sz) (some (.int 6)) ([] : va_W)) 0 0 (va_A ([] : va_W) sz) := by
  refine xk_met (fun res : Int32 => some (.int res)) (fun _ : Int32 => ([] : va_W)) 6 (cc := cJ0_length_8abf5) (maxL := 1) (ret := (some .int)) (by decide) rfl (Nat.le_of_ble_eq_true rfl) ?_
  intro p e s m args below meth c A Q ls hQ hx hb hr hlk hml hown hts hK hP hD hS hA hl
  have S : CallFix p m c cJ0_length_8abf5 1 s args wsJ0_length_8abf5 RJ0 := ⟨hx, hb, hml, hown, hts⟩
  have hl : lv_has ls 1 [(0, .ref (sa 0))] := hl
  have k_0 := hts (.fieldLink RJ0 9 "java/lang/String" "value" "[B") (List.mem_of_getElem? (i := 1) (by decide +kernel))
  refine lv_aload_n hx hb dJ0_length_8abf5_0 rfl (lv_at hl 0 rfl) ?_
  refine vk_getf hx hb (hK.2.2.2.1.1 0 Nat.zero_lt_one).2.2.1 hS hown k_0 (fun _ h => h) dJ0_length_8abf5_1 ?_
  refine va_tlen (v := 6) hx hb (hK.2.2.2.1.1 0 Nat.zero_lt_one).2.2.2 hS rfl dJ0_length_8abf5_4 ?_
  refine lv_aload_n hx hb dJ0_length_8abf5_5 rfl (lv_at hl 0 rfl) ?_
  refine xk_VT (rest := [.int 6]) (As := []) (stk := [.int 0, .int 6]) (v := (some (.int 0))) gJ0_length_8abf5_J0_coder_7d493 rfl hdV_J0_coder_7d493 rfl rfl (c_J0_coder l D cA sa sv _) S hK hP hD hS hA ⟨Nat.le_of_ble_eq_true rfl, Nat.le_of_ble_eq_true rfl⟩ ⟨Nat.le_refl 0, Nat.le_refl 0⟩ rfl hl.1 rfl (Nat.le_of_ble_eq_true rfl) rfl dJ0_length_8abf5_6 (fun H locs hP hD hS => ?_)
  refine lv_ishr hx hb dJ0_length_8abf5_9 ?_
  rw [show ((6 : Int32) >>> ((0 : Int32) &&& 31)) = 6 from by decide]
  exact xk_iret hx hb hr hlk hP hD hS (hQ _) dJ0_length_8abf5_10
def f_J1_can (c : Int32) : Int32 := if c < 0 then 0 else if 255 < c then 0 else 1
set_option maxHeartbeats 4000000 in
set_option maxRecDepth 100000 in
theorem c_J1_can (l : Launch) (D : va_G) (cA : ClassId) (sa sv : Nat → Nat) (sz : Nat) (p0 : Int32) : Met l yJ1_canEncode_9a6ad wsJ1_canEncode_9a6ad { frames := 0, cells := 0, slots := 0, locals := 0 } (xk_Pc D cA sa sv ([] : va_W) sz [.int p0]) (xk_Q D (va_A ([] : va_W) sz) (some (.int (f_J1_can p0))) ([] : va_W)) 0 0 (va_A ([] : va_W) sz) := by
  refine xk_met (fun res : Int32 => some (.int res)) (fun _ : Int32 => ([] : va_W)) (f_J1_can p0) (cc := cJ1_canEncode_9a6ad) (maxL := 1) (ret := (some .boolean)) (by decide) rfl (Nat.le_of_ble_eq_true rfl) ?_
  intro p e s m args below meth c A Q ls hQ hx hb hr hlk hml hown hts hK hP hD hS hA hl
  have hl : lv_has ls 1 [(0, .int p0)] := hl
  unfold f_J1_can
  refine lv_iload_n hx hb dJ1_canEncode_9a6ad_0 rfl (lv_at hl 0 rfl) ?_
  refine lv_if_lt (tgt := 15) hx hb dJ1_canEncode_9a6ad_1 (by decide) (fun c_1 => ?_) (fun c_1 => ?_)
  · rw [if_pos c_1]
    refine lv_iconst (v := 0) hx hb dJ1_canEncode_9a6ad_15 (by decide) ?_
    exact xk_zret rfl hx hb hr hlk hP hD hS (hQ _) dJ1_canEncode_9a6ad_16
  · rw [if_neg c_1]
    refine lv_iload_n hx hb dJ1_canEncode_9a6ad_4 rfl (lv_at hl 0 rfl) ?_
    refine lv_sipush (v := 255) hx hb dJ1_canEncode_9a6ad_5 (by decide) ?_
    refine lv_icmp_gt (tgt := 15) hx hb dJ1_canEncode_9a6ad_8 (by decide) (fun c_2 => ?_) (fun c_2 => ?_)
    · rw [if_pos c_2]
      refine lv_iconst (v := 0) hx hb dJ1_canEncode_9a6ad_15 (by decide) ?_
      exact xk_zret rfl hx hb hr hlk hP hD hS (hQ _) dJ1_canEncode_9a6ad_16
    · rw [if_neg c_2]
      refine lv_iconst (v := 1) hx hb dJ1_canEncode_9a6ad_11 (by decide) ?_
      refine lv_goto (tgt := 16) hx hb dJ1_canEncode_9a6ad_12 (by decide) ?_
      exact xk_zret rfl hx hb hr hlk hP hD hS (hQ _) dJ1_canEncode_9a6ad_16
set_option maxHeartbeats 4000000 in
set_option maxRecDepth 100000 in
theorem c_J1_ixc (l : Launch) (D : va_G) (cA : ClassId) (sa sv : Nat → Nat) (sz : Nat) (p1 : Int32) : Met l yJ1_indexOfChar_4cfef wsJ1_indexOfChar_4cfef { frames := 0, cells := 0, slots := 0, locals := 0 } (xk_Pc D cA sa sv ([] : va_W) sz [.ref (sv 0), .int p1, .int 0, .int 6]) (xk_Q D (va_A ([] : va_W) sz) (some (.int (ixk p1.toInt8.toInt32 6 0))) ([] : va_W)) 0 0 (va_A ([] : va_W) sz) := by
  refine xk_met (fun res : Int32 => some (.int res)) (fun _ : Int32 => ([] : va_W)) (ixk p1.toInt8.toInt32 6 0) (cc := cJ1_indexOfChar_4cfef) (maxL := 6) (ret := (some .int)) (by decide) rfl (Nat.le_of_ble_eq_true rfl) ?_
  intro p e s m args below meth c A Q ls hQ hx hb hr hlk hml hown hts hK hP hD hS hA hl
  have hl : lv_has ls 6 [(0, .ref (sv 0)), (1, .int p1), (2, .int 0), (3, .int 6)] := hl
  have hT := (hK.2.2.2.1.1 0 Nat.zero_lt_one).2.2.2
  have J_7 : ∀ (j k : Nat) (res : Int32), k + j = 6 → ixk p1.toInt8.toInt32 j k = res → ∀ (H : Heap) (locs : List Loc) (ls : Array Slot), va_P D vwCl ([] : va_W) H → va_D A ([] : va_W) → va_S A s.heap H locs → lv_has ls 6 [(5, .int (nI k)), (4, .int p1.toInt8.toInt32), (0, .ref (sv 0)), (3, .int 6)] → W p l e { frames := 0, cells := 0, slots := 0, locals := 0 } s m args below meth c H locs 0 0 (Q res) (F0 m 7 ls []) := by
    intro j
    induction j with
    | zero =>
      intro k res hk h H locs ls hP hD hS hl
      have : k = 6 := by omega
      subst this
      subst h
      refine lv_iload hx hb dJ1_indexOfChar_4cfef_7 (lv_at hl 0 rfl) ?_
      refine lv_iload_n hx hb dJ1_indexOfChar_4cfef_9 rfl (lv_at hl 3 rfl) ?_
      refine lv_icmp_ge (tgt := 31) hx hb dJ1_indexOfChar_4cfef_10 (by decide) (fun c_1 => ?_) (fun c_1 => absurd (show (6 : Int32) ≤ nI 6 from Int32.le_refl _) c_1)
      refine lv_iconst (v := (-1)) hx hb dJ1_indexOfChar_4cfef_31 (by decide) ?_
      exact xk_iret hx hb hr hlk hP hD hS (hQ _) dJ1_indexOfChar_4cfef_32
    | succ j ih =>
      intro k res hk h H locs ls hP hD hS hl
      refine lv_iload hx hb dJ1_indexOfChar_4cfef_7 (lv_at hl 0 rfl) ?_
      refine lv_iload_n hx hb dJ1_indexOfChar_4cfef_9 rfl (lv_at hl 3 rfl) ?_
      refine lv_icmp_ge (tgt := 31) hx hb dJ1_indexOfChar_4cfef_10 (by decide) (fun c_1 => absurd c_1 (show ¬ (6 : Int32) ≤ nI k from nI_ge (b := 6) (by omega) (by omega))) (fun c_1 => ?_)
      refine lv_aload_n hx hb dJ1_indexOfChar_4cfef_13 rfl (lv_at hl 2 rfl) ?_
      refine lv_iload hx hb dJ1_indexOfChar_4cfef_14 (lv_at hl 0 rfl) ?_
      refine va_tb (v := .int (kbl.getD k 0)) hx hb hT hS (show vp_in (nI k) 6 from vp_in_nI (by omega) (by omega)) (by rw [nI_clamp (by omega)]; rfl) dJ1_indexOfChar_4cfef_16 ?_
      refine lv_iload hx hb dJ1_indexOfChar_4cfef_17 (lv_at hl 1 rfl) ?_
      rw [ixk] at h
      refine lv_icmp_ne (tgt := 25) hx hb dJ1_indexOfChar_4cfef_19 (by decide) (fun c_2 => ?_) (fun c_2 => ?_)
      · rw [if_neg c_2] at h
        refine lv_iinc (v := nI (k + 1)) (lv' := [(5, .int (nI (k + 1))), (4, .int p1.toInt8.toInt32), (0, .ref (sv 0)), (3, .int 6)]) hx hb dJ1_indexOfChar_4cfef_25 hl (k := 0) rfl (nI_1 k) (by decide) rfl (fun ls hl => ?_)
        refine lv_goto (tgt := 7) hx hb dJ1_indexOfChar_4cfef_28 (by decide) ?_
        exact ih (k + 1) res (by omega) h _ _ _ hP hD hS hl
      · rw [if_pos c_2] at h
        subst h
        refine lv_iload hx hb dJ1_indexOfChar_4cfef_22 (lv_at hl 0 rfl) ?_
        exact xk_iret hx hb hr hlk hP hD hS (hQ _) dJ1_indexOfChar_4cfef_24
  refine lv_iload_n hx hb dJ1_indexOfChar_4cfef_0 rfl (lv_at hl 1 rfl) ?_
  refine lv_i2b (v := p1.toInt8.toInt32) hx hb dJ1_indexOfChar_4cfef_1 rfl ?_
  refine lv_istore (lv' := [(4, .int p1.toInt8.toInt32), (0, .ref (sv 0)), (1, .int p1), (2, .int 0), (3, .int 6)]) hx hb dJ1_indexOfChar_4cfef_2 hl (by decide) rfl (fun ls hl => ?_)
  refine lv_iload_n hx hb dJ1_indexOfChar_4cfef_4 rfl (lv_at hl 3 rfl) ?_
  refine lv_istore (lv' := [(5, .int 0), (4, .int p1.toInt8.toInt32), (0, .ref (sv 0)), (1, .int p1), (2, .int 0), (3, .int 6)]) hx hb dJ1_indexOfChar_4cfef_5 hl (by decide) rfl (fun ls hl => ?_)
  exact J_7 6 0 _ rfl rfl _ _ _ hP hD hS (lv_sub hl [0, 1, 2, 5] rfl)
/-- what indexOf answers -/
def f_J1_ix (c : Int32) : Int32 := if f_J1_can c = 0 then -1 else ixk c.toInt8.toInt32 6 0
set_option maxHeartbeats 4000000 in
set_option maxRecDepth 100000 in
theorem c_J1_ix (l : Launch) (D : va_G) (cA : ClassId) (sa sv : Nat → Nat) (sz : Nat) (p1 : Int32) : Met l yJ1_indexOf_4cfef wsJ1_indexOf_4cfef { frames := 1, cells := 0, slots := 0, locals := 25 } (xk_Pc D cA sa sv ([] : va_W) sz [.ref (sv 0), .int p1, .int 0, .int 6]) (xk_Q D (va_A ([] : va_W) sz) (some (.int (f_J1_ix p1))) ([] : va_W)) 0 0 (va_A ([] : va_W) sz) := by
  refine xk_met (fun res : Int32 => some (.int res)) (fun _ : Int32 => ([] : va_W)) (f_J1_ix p1) (cc := cJ1_indexOf_4cfef) (maxL := 4) (ret := (some .int)) (by decide) rfl (Nat.le_of_ble_eq_true rfl) ?_
  intro p e s m args below meth c A Q ls hQ hx hb hr hlk hml hown hts hK hP hD hS hA hl
  have S : CallFix p m c cJ1_indexOf_4cfef 4 s args wsJ1_indexOf_4cfef RJ1 := ⟨hx, hb, hml, hown, hts⟩
  have hl : lv_has ls 4 [(0, .ref (sv 0)), (1, .int p1), (2, .int 0), (3, .int 6)] := hl
  have hT := (hK.2.2.2.1.1 0 Nat.zero_lt_one).2.2.2
  have k_0 := hts (.methodLink RJ1 92 Lib.Math.max.name) (List.mem_of_getElem? (i := 1) (by decide +kernel))
  have k_1 := hts (.static Lib.Math.max.name) (List.mem_of_getElem? (i := 2) (by decide +kernel))
  have k_2 := hts (.initialized "java/lang/Math") (List.mem_of_getElem? (i := 3) (by decide +kernel))
  have k_3 := hts (.code Lib.Math.max.name Lib.Math.max.code 2 (some .int)) (List.mem_of_getElem? (i := 4) (by decide +kernel))
  have k_4 := hts (.methodLink RJ1 38 Lib.Math.min.name) (List.mem_of_getElem? (i := 5) (by decide +kernel))
  have k_5 := hts (.static Lib.Math.min.name) (List.mem_of_getElem? (i := 6) (by decide +kernel))
  have k_6 := hts (.code Lib.Math.min.name Lib.Math.min.code 2 (some .int)) (List.mem_of_getElem? (i := 7) (by decide +kernel))
  unfold f_J1_ix
  refine lv_iload_n hx hb dJ1_indexOf_4cfef_0 rfl (lv_at hl 1 rfl) ?_
  refine xk_S (rest := []) (As := [.int p1]) (stk := [.int (f_J1_can p1)]) (wn := ([] : va_W)) (v := (some (.int (f_J1_can p1)))) (wr := []) gJ1_indexOf_4cfef_J1_canEncode_9a6ad rfl hdS_J1_canEncode_9a6ad rfl rfl (c_J1_can l D cA sa sv _ p1) S hK hP hD hS hA [] [] [] rfl rfl rfl rfl rfl rfl rfl ⟨Nat.le_of_ble_eq_true rfl, Nat.le_of_ble_eq_true rfl⟩ ⟨Nat.le_refl 0, Nat.le_refl 0⟩ rfl hl.1 rfl (Nat.le_of_ble_eq_true rfl) rfl dJ1_indexOf_4cfef_1 (fun H locs hP hD hS => ?_)
  refine lv_if_ne (tgt := 9) hx hb dJ1_indexOf_4cfef_4 (by decide) (fun c_1 => ?_) (fun c_1 => ?_)
  · rw [if_neg c_1]
    refine lv_iload_n hx hb dJ1_indexOf_4cfef_9 rfl (lv_at hl 2 rfl) ?_
    refine lv_iconst (v := 0) hx hb dJ1_indexOf_4cfef_10 (by decide) ?_
    refine va_mmax hx hb (hml.trans hl.1.symm) hown k_0 k_1 k_2 k_3 (Nat.le_of_ble_eq_true rfl) (Nat.le_of_ble_eq_true rfl) (Nat.le_refl 0) (Nat.le_refl 0) dJ1_indexOf_4cfef_11 ?_
    rw [show (if (0 : Int32) < 0 then (0 : Int32) else 0) = 0 from rfl]
    refine lv_istore_n (lv' := [(2, .int 0), (0, .ref (sv 0)), (1, .int p1), (3, .int 6)]) hx hb dJ1_indexOf_4cfef_14 rfl hl (by decide) rfl (fun ls hl => ?_)
    refine lv_iload_n hx hb dJ1_indexOf_4cfef_15 rfl (lv_at hl 3 rfl) ?_
    refine lv_aload_n hx hb dJ1_indexOf_4cfef_16 rfl (lv_at hl 1 rfl) ?_
    refine va_tlen (v := 6) hx hb hT hS rfl dJ1_indexOf_4cfef_17 ?_
    refine va_mmin hx hb (hml.trans hl.1.symm) hown k_4 k_5 k_2 k_6 (Nat.le_of_ble_eq_true rfl) (Nat.le_of_ble_eq_true rfl) (Nat.le_refl 0) (Nat.le_refl 0) dJ1_indexOf_4cfef_18 ?_
    rw [show (if (6 : Int32) < 6 then (6 : Int32) else 6) = 6 from rfl]
    refine lv_istore_n (lv' := [(3, .int 6), (2, .int 0), (0, .ref (sv 0)), (1, .int p1)]) hx hb dJ1_indexOf_4cfef_21 rfl hl (by decide) rfl (fun ls hl => ?_)
    refine lv_iload_n hx hb dJ1_indexOf_4cfef_22 rfl (lv_at hl 1 rfl) ?_
    refine lv_iload_n hx hb dJ1_indexOf_4cfef_23 rfl (lv_at hl 0 rfl) ?_
    refine lv_icmp_lt (tgt := 29) hx hb dJ1_indexOf_4cfef_24 (by decide) (fun c_2 => ?_) (fun c_2 => absurd (by decide) c_2)
    refine lv_aload_n hx hb dJ1_indexOf_4cfef_29 rfl (lv_at hl 2 rfl) ?_
    refine lv_iload_n hx hb dJ1_indexOf_4cfef_30 rfl (lv_at hl 3 rfl) ?_
    refine lv_iload_n hx hb dJ1_indexOf_4cfef_31 rfl (lv_at hl 1 rfl) ?_
    refine lv_iload_n hx hb dJ1_indexOf_4cfef_32 rfl (lv_at hl 0 rfl) ?_
    refine xk_S (rest := []) (As := [.ref (sv 0), .int p1, .int 0, .int 6]) (stk := [.int (ixk p1.toInt8.toInt32 6 0)]) (wn := ([] : va_W)) (v := (some (.int (ixk p1.toInt8.toInt32 6 0)))) (wr := []) gJ1_indexOf_4cfef_J1_indexOfChar_4cfef rfl hdS_J1_indexOfChar_4cfef rfl rfl (c_J1_ixc l D cA sa sv _ p1) S hK hP hD hS hA [] [] [] rfl rfl rfl rfl rfl rfl rfl ⟨Nat.le_of_ble_eq_true rfl, Nat.le_of_ble_eq_true rfl⟩ ⟨Nat.le_refl 0, Nat.le_refl 0⟩ rfl hl.1 rfl (Nat.le_of_ble_eq_true rfl) rfl dJ1_indexOf_4cfef_33 (fun H locs hP hD hS => ?_)
    exact xk_iret hx hb hr hlk hP hD hS (hQ _) dJ1_indexOf_4cfef_36
  · rw [if_pos c_1]
    refine lv_iconst (v := (-1)) hx hb dJ1_indexOf_4cfef_7 (by decide) ?_
    exact xk_iret hx hb hr hlk hP hD hS (hQ _) dJ1_indexOf_4cfef_8
set_option maxHeartbeats 4000000 in
set_option maxRecDepth 100000 in
theorem c_J0_ix2 (l : Launch) (D : va_G) (cA : ClassId) (sa sv : Nat → Nat) (sz : Nat) (p1 : Int32) : Met l yJ0_indexOf_7cf53 wsJ0_indexOf_7cf53 { frames := 2, cells := 0, slots := 0, locals := 48 } (xk_Pc D cA sa sv ([] : va_W) sz [.ref (sa 0), .int p1, .int 0]) (xk_Q D (va_A ([] : va_W) sz) (some (.int (f_J1_ix p1))) ([] : va_W)) 0 0 (va_A ([] : va_W) sz) := by
  refine xk_met (fun res : Int32 => some (.int res)) (fun _ : Int32 => ([] : va_W)) (f_J1_ix p1) (cc := cJ0_indexOf_7cf53) (maxL := 3) (ret := (some .int)) (by decide) rfl (Nat.le_of_ble_eq_true rfl) ?_
  intro p e s m args below meth c A Q ls hQ hx hb hr hlk hml hown hts hK hP hD hS hA hl
  have S : CallFix p m c cJ0_indexOf_7cf53 3 s args wsJ0_indexOf_7cf53 RJ0 := ⟨hx, hb, hml, hown, hts⟩
  have hl : lv_has ls 3 [(0, .ref (sa 0)), (1, .int p1), (2, .int 0)] := hl
  have k_0 := hts (.fieldLink RJ0 9 "java/lang/String" "value" "[B") (List.mem_of_getElem? (i := 1) (by decide +kernel))
  refine lv_aload_n hx hb dJ0_indexOf_7cf53_0 rfl (lv_at hl 0 rfl) ?_
  refine xk_VT (rest := []) (As := []) (stk := [.int 1]) (v := (some (.int 1))) gJ0_indexOf_7cf53_J0_isLatin1_aae02 rfl hdV_J0_isLatin1_aae02 rfl rfl (c_J0_isLatin1 l D cA sa sv _) S hK hP hD hS hA ⟨Nat.le_of_ble_eq_true rfl, Nat.le_of_ble_eq_true rfl⟩ ⟨Nat.le_refl 0, Nat.le_refl 0⟩ rfl hl.1 rfl (Nat.le_of_ble_eq_true rfl) rfl dJ0_indexOf_7cf53_1 (fun H locs hP hD hS => ?_)
  refine lv_if_eq (tgt := 23) hx hb dJ0_indexOf_7cf53_4 (by decide) (fun c_1 => absurd c_1 (by decide)) (fun c_1 => ?_)
  refine lv_aload_n hx hb dJ0_indexOf_7cf53_7 rfl (lv_at hl 0 rfl) ?_
  refine vk_getf hx hb (hK.2.2.2.1.1 0 Nat.zero_lt_one).2.2.1 hS hown k_0 (fun _ h => h) dJ0_indexOf_7cf53_8 ?_
  refine lv_iload_n hx hb dJ0_indexOf_7cf53_11 rfl (lv_at hl 1 rfl) ?_
  refine lv_iload_n hx hb dJ0_indexOf_7cf53_12 rfl (lv_at hl 2 rfl) ?_
  refine lv_aload_n hx hb dJ0_indexOf_7cf53_13 rfl (lv_at hl 0 rfl) ?_
  refine xk_VT (rest := [.int 0, .int p1, .ref (sv 0)]) (As := []) (stk := [.int 6, .int 0, .int p1, .ref (sv 0)]) (v := (some (.int 6))) gJ0_indexOf_7cf53_J0_length_8abf5 rfl hdV_J0_length_8abf5 rfl rfl (c_J0_length l D cA sa sv _) S hK hP hD hS hA ⟨Nat.le_of_ble_eq_true rfl, Nat.le_of_ble_eq_true rfl⟩ ⟨Nat.le_refl 0, Nat.le_refl 0⟩ rfl hl.1 rfl (Nat.le_of_ble_eq_true rfl) rfl dJ0_indexOf_7cf53_14 (fun H locs hP hD hS => ?_)
  refine xk_S (rest := []) (As := [.ref (sv 0), .int p1, .int 0, .int 6]) (stk := [.int (f_J1_ix p1)]) (wn := ([] : va_W)) (v := (some (.int (f_J1_ix p1)))) (wr := []) gJ0_indexOf_7cf53_J1_indexOf_4cfef rfl hdS_J1_indexOf_4cfef rfl rfl (c_J1_ix l D cA sa sv _ p1) S hK hP hD hS hA [] [] [] rfl rfl rfl rfl rfl rfl rfl ⟨Nat.le_of_ble_eq_true rfl, Nat.le_of_ble_eq_true rfl⟩ ⟨Nat.le_refl 0, Nat.le_refl 0⟩ rfl hl.1 rfl (Nat.le_of_ble_eq_true rfl) rfl dJ0_indexOf_7cf53_17 (fun H locs hP hD hS => ?_)
  refine lv_goto (tgt := 36) hx hb dJ0_indexOf_7cf53_20 (by decide) ?_
  exact xk_iret hx hb hr hlk hP hD hS (hQ _) dJ0_indexOf_7cf53_36
set_option maxHeartbeats 4000000 in
set_option maxRecDepth 100000 in
theorem c_J0_ix1 (l : Launch) (D : va_G) (cA : ClassId) (sa sv : Nat → Nat) (sz : Nat) (p1 : Int32) : Met l yJ0_indexOf_0f7a4 wsJ0_indexOf_0f7a4 { frames := 3, cells := 0, slots := 0, locals := 70 } (xk_Pc D cA sa sv ([] : va_W) sz [.ref (sa 0), .int p1]) (xk_Q D (va_A ([] : va_W) sz) (some (.int (f_J1_ix p1))) ([] : va_W)) 0 0 (va_A ([] : va_W) sz) := by
  refine xk_met (fun res : Int32 => some (.int res)) (fun _ : Int32 => ([] : va_W)) (f_J1_ix p1) (cc := cJ0_indexOf_0f7a4) (maxL := 2) (ret := (some .int)) (by decide) rfl (Nat.le_of_ble_eq_true rfl) ?_
  intro p e s m args below meth c A Q ls hQ hx hb hr hlk hml hown hts hK hP hD hS hA hl
  have S : CallFix p m c cJ0_indexOf_0f7a4 2 s args wsJ0_indexOf_0f7a4 RJ0 := ⟨hx, hb, hml, hown, hts⟩
  have hl : lv_has ls 2 [(0, .ref (sa 0)), (1, .int p1)] := hl
  refine lv_aload_n hx hb dJ0_indexOf_0f7a4_0 rfl (lv_at hl 0 rfl) ?_
  refine lv_iload_n hx hb dJ0_indexOf_0f7a4_1 rfl (lv_at hl 1 rfl) ?_
  refine lv_iconst (v := 0) hx hb dJ0_indexOf_0f7a4_2 (by decide) ?_
  refine xk_VT (rest := []) (As := [.int p1, .int 0]) (stk := [.int (f_J1_ix p1)]) (v := (some (.int (f_J1_ix p1)))) gJ0_indexOf_0f7a4_J0_indexOf_7cf53 rfl hdV_J0_indexOf_7cf53 rfl rfl (c_J0_ix2 l D cA sa sv _ p1) S hK hP hD hS hA ⟨Nat.le_of_ble_eq_true rfl, Nat.le_of_ble_eq_true rfl⟩ ⟨Nat.le_refl 0, Nat.le_refl 0⟩ rfl hl.1 rfl (Nat.le_of_ble_eq_true rfl) rfl dJ0_indexOf_0f7a4_3 (fun H locs hP hD hS => ?_)
  exact xk_iret hx hb hr hlk hP hD hS (hQ _) dJ0_indexOf_0f7a4_6
theorem ix_kb (x : Int32) : f_J1_ix ((x.toUInt32 % 65536).toInt32) = kb_ix ((x.toUInt32 % 65536).toInt32) := by
  have h := pk_char x
  have hlt : x.toBitVec.toNat % 65536 < 65536 := Nat.mod_lt _ (by omega)
  generalize x.toBitVec.toNat % 65536 = n at h hlt
  rw [h]
  unfold f_J1_ix f_J1_can
  rw [if_neg (nI_pos (by omega))]
  by_cases hn : n < 256
  · rw [if_neg (show ¬ (255 : Int32) < nI n from nI_nlt (a := 255) (by omega) (by omega)), if_neg (by decide), ixk_kb n hn]
  · rw [if_pos (show (255 : Int32) < nI n from nI_lt (a := 255) (by omega) (by omega)), if_pos rfl, kb_big (by omega) hlt]
set_option maxHeartbeats 4000000 in
set_option maxRecDepth 100000 in
theorem c_X8_kindBy (l : Launch) (D : va_G) (cA : ClassId) (sa sv : Nat → Nat) (sz : Nat) (p0 : Int32) (res : Int32) (h : f_X8_kindBy p0 = some res) : Met l yX8_kindBy wsX8_kindBy { frames := 8, cells := 0, slots := 0, locals := 300 } (xk_Pc D cA sa sv ([] : va_W) sz [.int p0]) (xk_Q D (va_A ([] : va_W) sz) (some (.int res)) ([] : va_W)) 0 0 (va_A ([] : va_W) sz) := by
  refine xk_met (fun res : Int32 => some (.int res)) (fun _ : Int32 => ([] : va_W)) res (cc := cX8_kindBy) (maxL := 1) (ret := (some .int)) (by decide) rfl (Nat.le_of_ble_eq_true rfl) ?_
  intro p e s m args below meth c A Q ls hQ hx hb hr hlk hml hown hts hK hP hD hS hA hl
  have S : CallFix p m c cX8_kindBy 1 s args wsX8_kindBy RX8 := ⟨hx, hb, hml, hown, hts⟩
  have hl : lv_has ls 1 [(0, .int p0)] := hl
  unfold f_X8_kindBy at h
  have h := Option.some.inj h
  refine lv_iload_n hx hb dX8_kindBy_0 rfl (lv_at hl 0 rfl) ?_
  refine lv_if_ge (tgt := 8) hx hb dX8_kindBy_1 (by decide) (fun c_1 => ?_) (fun c_1 => ?_)
  · rw [if_neg (Int32.not_lt.mpr c_1), ← ix_kb] at h
    subst h
    refine va_ldcS hx hb hown hK.2.2.1 dX8_kindBy_8 ?_
    refine lv_iload_n hx hb dX8_kindBy_10 rfl (lv_at hl 0 rfl) ?_
    refine lv_i2c (v := (p0.toUInt32 % 65536).toInt32) hx hb dX8_kindBy_11 rfl ?_
    refine xk_VT (rest := []) (As := [.int (p0.toUInt32 % 65536).toInt32]) (stk := [.int (f_J1_ix (p0.toUInt32 % 65536).toInt32)]) (v := (some (.int (f_J1_ix (p0.toUInt32 % 65536).toInt32)))) gX8_kindBy_J0_indexOf_0f7a4 rfl hdV_J0_indexOf_0f7a4 rfl rfl (c_J0_ix1 l D cA sa sv _ _) S hK hP hD hS hA ⟨Nat.le_of_ble_eq_true rfl, Nat.le_of_ble_eq_true rfl⟩ ⟨Nat.le_refl 0, Nat.le_refl 0⟩ rfl hl.1 rfl (Nat.le_of_ble_eq_true rfl) rfl dX8_kindBy_12 (fun H locs hP hD hS => ?_)
    exact xk_iret hx hb hr hlk hP hD hS (hQ _) dX8_kindBy_15
  · rw [if_pos (Int32.not_le.mp c_1)] at h
    subst h
    refine lv_iconst (v := (-1)) hx hb dX8_kindBy_4 (by decide) ?_
    refine lv_goto (tgt := 15) hx hb dX8_kindBy_5 (by decide) ?_
    exact xk_iret hx hb hr hlk hP hD hS (hQ _) dX8_kindBy_15
