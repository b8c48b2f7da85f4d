set_option maxHeartbeats 4000000 in
set_option maxRecDepth 100000 in
theorem c_J6_bitCount_0f7a4 (l : Launch) (D : va_G) (cA : ClassId) (sa sv : Nat → Nat) (sz : Nat) (p0 : Int32) (res : Int32) (h : f_J6_bitCount_0f7a4  p0 = some res) : Met l yJ6_bitCount_0f7a4 wsJ6_bitCount_0f7a4 { frames := 0, cells := 0, slots := 0, locals := 0 } (xk_Pc D cA sa sv ([] : va_W) sz [.int p0]) (xk_Q D (va_A ([] : va_W) sz) (some (.int res)) ([] : va_W)) 0 0 (va_A ([] : va_W) sz) := by
  refine xk_met (fun res : Int32 => some (.int res)) (fun res : Int32 => ([] : va_W)) res (cc := cJ6_bitCount_0f7a4) (maxL := 1) (ret := (some .int)) (by decide) rfl (Nat.le_of_ble_eq_true rfl) ?_
  intro p e s m args below meth c A Q ls hQ hx hb hr hlk hml hown hts hK hP hD hS hA hl
  have S : CallFix p m c cJ6_bitCount_0f7a4 1 s args wsJ6_bitCount_0f7a4 RJ6 := ⟨hx, hb, hml, hown, hts⟩
  have hl : lv_has ls 1 [(0, .int p0)] := hl
  have k_0 := hts (.constant RJ6 265 (1431655765)) (List.mem_of_getElem? (i := 1) (by decide +kernel))
  have k_1 := hts (.constant RJ6 266 (858993459)) (List.mem_of_getElem? (i := 2) (by decide +kernel))
  have k_2 := hts (.constant RJ6 267 (252645135)) (List.mem_of_getElem? (i := 3) (by decide +kernel))
  unfold f_J6_bitCount_0f7a4 at h
  refine lv_iload_n hx hb dJ6_bitCount_0f7a4_0 rfl (lv_at hl 0 rfl) ?_
  refine lv_iload_n hx hb dJ6_bitCount_0f7a4_1 rfl (lv_at hl 0 rfl) ?_
  refine lv_iconst (v := 1) hx hb dJ6_bitCount_0f7a4_2 (by decide) ?_
  refine lv_iushr (v := (Int32.toUInt32 p0 >>> (Int32.toUInt32 1 &&& Int32.toUInt32 31)).toInt32) hx hb dJ6_bitCount_0f7a4_3 rfl ?_
  refine lv_ldcw (v := 1431655765) hx hb hown k_0 dJ6_bitCount_0f7a4_4 ?_
  refine lv_iand hx hb dJ6_bitCount_0f7a4_7 ?_
  refine lv_isub hx hb dJ6_bitCount_0f7a4_8 ?_
  refine lv_istore_n (lv' := [(0, .int (p0 - (((Int32.toUInt32 p0 >>> (Int32.toUInt32 1 &&& Int32.toUInt32 31)).toInt32) &&& 1431655765)))]) hx hb dJ6_bitCount_0f7a4_9 rfl hl (by decide) rfl (fun ls hl => ?_)
  refine lv_iload_n hx hb dJ6_bitCount_0f7a4_10 rfl (lv_at hl 0 rfl) ?_
  refine lv_ldcw (v := 858993459) hx hb hown k_1 dJ6_bitCount_0f7a4_11 ?_
  refine lv_iand hx hb dJ6_bitCount_0f7a4_14 ?_
  refine lv_iload_n hx hb dJ6_bitCount_0f7a4_15 rfl (lv_at hl 0 rfl) ?_
  refine lv_iconst (v := 2) hx hb dJ6_bitCount_0f7a4_16 (by decide) ?_
  refine lv_iushr (v := (Int32.toUInt32 (p0 - (((Int32.toUInt32 p0 >>> (Int32.toUInt32 1 &&& Int32.toUInt32 31)).toInt32) &&& 1431655765)) >>> (Int32.toUInt32 2 &&& Int32.toUInt32 31)).toInt32) hx hb dJ6_bitCount_0f7a4_17 rfl ?_
  refine lv_ldcw (v := 858993459) hx hb hown k_1 dJ6_bitCount_0f7a4_18 ?_
  refine lv_iand hx hb dJ6_bitCount_0f7a4_21 ?_
  refine lv_iadd hx hb dJ6_bitCount_0f7a4_22 ?_
  refine lv_istore_n (lv' := [(0, .int (((p0 - (((Int32.toUInt32 p0 >>> (Int32.toUInt32 1 &&& Int32.toUInt32 31)).toInt32) &&& 1431655765)) &&& 858993459) + (((Int32.toUInt32 (p0 - (((Int32.toUInt32 p0 >>> (Int32.toUInt32 1 &&& Int32.toUInt32 31)).toInt32) &&& 1431655765)) >>> (Int32.toUInt32 2 &&& Int32.toUInt32 31)).toInt32) &&& 858993459)))]) hx hb dJ6_bitCount_0f7a4_23 rfl hl (by decide) rfl (fun ls hl => ?_)
  refine lv_iload_n hx hb dJ6_bitCount_0f7a4_24 rfl (lv_at hl 0 rfl) ?_
  refine lv_iload_n hx hb dJ6_bitCount_0f7a4_25 rfl (lv_at hl 0 rfl) ?_
  refine lv_iconst (v := 4) hx hb dJ6_bitCount_0f7a4_26 (by decide) ?_
  refine lv_iushr (v := (Int32.toUInt32 (((p0 - (((Int32.toUInt32 p0 >>> (Int32.toUInt32 1 &&& Int32.toUInt32 31)).toInt32) &&& 1431655765)) &&& 858993459) + (((Int32.toUInt32 (p0 - (((Int32.toUInt32 p0 >>> (Int32.toUInt32 1 &&& Int32.toUInt32 31)).toInt32) &&& 1431655765)) >>> (Int32.toUInt32 2 &&& Int32.toUInt32 31)).toInt32) &&& 858993459)) >>> (Int32.toUInt32 4 &&& Int32.toUInt32 31)).toInt32) hx hb dJ6_bitCount_0f7a4_27 rfl ?_
  refine lv_iadd hx hb dJ6_bitCount_0f7a4_28 ?_
  refine lv_ldcw (v := 252645135) hx hb hown k_2 dJ6_bitCount_0f7a4_29 ?_
  refine lv_iand hx hb dJ6_bitCount_0f7a4_32 ?_
  refine lv_istore_n (lv' := [(0, .int (((((p0 - (((Int32.toUInt32 p0 >>> (Int32.toUInt32 1 &&& Int32.toUInt32 31)).toInt32) &&& 1431655765)) &&& 858993459) + (((Int32.toUInt32 (p0 - (((Int32.toUInt32 p0 >>> (Int32.toUInt32 1 &&& Int32.toUInt32 31)).toInt32) &&& 1431655765)) >>> (Int32.toUInt32 2 &&& Int32.toUInt32 31)).toInt32) &&& 858993459)) + ((Int32.toUInt32 (((p0 - (((Int32.toUInt32 p0 >>> (Int32.toUInt32 1 &&& Int32.toUInt32 31)).toInt32) &&& 1431655765)) &&& 858993459) + (((Int32.toUInt32 (p0 - (((Int32.toUInt32 p0 >>> (Int32.toUInt32 1 &&& Int32.toUInt32 31)).toInt32) &&& 1431655765)) >>> (Int32.toUInt32 2 &&& Int32.toUInt32 31)).toInt32) &&& 858993459)) >>> (Int32.toUInt32 4 &&& Int32.toUInt32 31)).toInt32)) &&& 252645135))]) hx hb dJ6_bitCount_0f7a4_33 rfl hl (by decide) rfl (fun ls hl => ?_)
  refine lv_iload_n hx hb dJ6_bitCount_0f7a4_34 rfl (lv_at hl 0 rfl) ?_
  refine lv_iload_n hx hb dJ6_bitCount_0f7a4_35 rfl (lv_at hl 0 rfl) ?_
  refine lv_bipush (v := 8) hx hb dJ6_bitCount_0f7a4_36 (by decide) ?_
  refine lv_iushr (v := (Int32.toUInt32 (((((p0 - (((Int32.toUInt32 p0 >>> (Int32.toUInt32 1 &&& Int32.toUInt32 31)).toInt32) &&& 1431655765)) &&& 858993459) + (((Int32.toUInt32 (p0 - (((Int32.toUInt32 p0 >>> (Int32.toUInt32 1 &&& Int32.toUInt32 31)).toInt32) &&& 1431655765)) >>> (Int32.toUInt32 2 &&& Int32.toUInt32 31)).toInt32) &&& 858993459)) + ((Int32.toUInt32 (((p0 - (((Int32.toUInt32 p0 >>> (Int32.toUInt32 1 &&& Int32.toUInt32 31)).toInt32) &&& 1431655765)) &&& 858993459) + (((Int32.toUInt32 (p0 - (((Int32.toUInt32 p0 >>> (Int32.toUInt32 1 &&& Int32.toUInt32 31)).toInt32) &&& 1431655765)) >>> (Int32.toUInt32 2 &&& Int32.toUInt32 31)).toInt32) &&& 858993459)) >>> (Int32.toUInt32 4 &&& Int32.toUInt32 31)).toInt32)) &&& 252645135) >>> (Int32.toUInt32 8 &&& Int32.toUInt32 31)).toInt32) hx hb dJ6_bitCount_0f7a4_38 rfl ?_
  refine lv_iadd hx hb dJ6_bitCount_0f7a4_39 ?_
  refine lv_istore_n (lv' := [(0, .int ((((((p0 - (((Int32.toUInt32 p0 >>> (Int32.toUInt32 1 &&& Int32.toUInt32 31)).toInt32) &&& 1431655765)) &&& 858993459) + (((Int32.toUInt32 (p0 - (((Int32.toUInt32 p0 >>> (Int32.toUInt32 1 &&& Int32.toUInt32 31)).toInt32) &&& 1431655765)) >>> (Int32.toUInt32 2 &&& Int32.toUInt32 31)).toInt32) &&& 858993459)) + ((Int32.toUInt32 (((p0 - (((Int32.toUInt32 p0 >>> (Int32.toUInt32 1 &&& Int32.toUInt32 31)).toInt32) &&& 1431655765)) &&& 858993459) + (((Int32.toUInt32 (p0 - (((Int32.toUInt32 p0 >>> (Int32.toUInt32 1 &&& Int32.toUInt32 31)).toInt32) &&& 1431655765)) >>> (Int32.toUInt32 2 &&& Int32.toUInt32 31)).toInt32) &&& 858993459)) >>> (Int32.toUInt32 4 &&& Int32.toUInt32 31)).toInt32)) &&& 252645135) + ((Int32.toUInt32 (((((p0 - (((Int32.toUInt32 p0 >>> (Int32.toUInt32 1 &&& Int32.toUInt32 31)).toInt32) &&& 1431655765)) &&& 858993459) + (((Int32.toUInt32 (p0 - (((Int32.toUInt32 p0 >>> (Int32.toUInt32 1 &&& Int32.toUInt32 31)).toInt32) &&& 1431655765)) >>> (Int32.toUInt32 2 &&& Int32.toUInt32 31)).toInt32) &&& 858993459)) + ((Int32.toUInt32 (((p0 - (((Int32.toUInt32 p0 >>> (Int32.toUInt32 1 &&& Int32.toUInt32 31)).toInt32) &&& 1431655765)) &&& 858993459) + (((Int32.toUInt32 (p0 - (((Int32.toUInt32 p0 >>> (Int32.toUInt32 1 &&& Int32.toUInt32 31)).toInt32) &&& 1431655765)) >>> (Int32.toUInt32 2 &&& Int32.toUInt32 31)).toInt32) &&& 858993459)) >>> (Int32.toUInt32 4 &&& Int32.toUInt32 31)).toInt32)) &&& 252645135) >>> (Int32.toUInt32 8 &&& Int32.toUInt32 31)).toInt32)))]) hx hb dJ6_bitCount_0f7a4_40 rfl hl (by decide) rfl (fun ls hl => ?_)
  refine lv_iload_n hx hb dJ6_bitCount_0f7a4_41 rfl (lv_at hl 0 rfl) ?_
  refine lv_iload_n hx hb dJ6_bitCount_0f7a4_42 rfl (lv_at hl 0 rfl) ?_
  refine lv_bipush (v := 16) hx hb dJ6_bitCount_0f7a4_43 (by decide) ?_
  refine lv_iushr (v := (Int32.toUInt32 ((((((p0 - (((Int32.toUInt32 p0 >>> (Int32.toUInt32 1 &&& Int32.toUInt32 31)).toInt32) &&& 1431655765)) &&& 858993459) + (((Int32.toUInt32 (p0 - (((Int32.toUInt32 p0 >>> (Int32.toUInt32 1 &&& Int32.toUInt32 31)).toInt32) &&& 1431655765)) >>> (Int32.toUInt32 2 &&& Int32.toUInt32 31)).toInt32) &&& 858993459)) + ((Int32.toUInt32 (((p0 - (((Int32.toUInt32 p0 >>> (Int32.toUInt32 1 &&& Int32.toUInt32 31)).toInt32) &&& 1431655765)) &&& 858993459) + (((Int32.toUInt32 (p0 - (((Int32.toUInt32 p0 >>> (Int32.toUInt32 1 &&& Int32.toUInt32 31)).toInt32) &&& 1431655765)) >>> (Int32.toUInt32 2 &&& Int32.toUInt32 31)).toInt32) &&& 858993459)) >>> (Int32.toUInt32 4 &&& Int32.toUInt32 31)).toInt32)) &&& 252645135) + ((Int32.toUInt32 (((((p0 - (((Int32.toUInt32 p0 >>> (Int32.toUInt32 1 &&& Int32.toUInt32 31)).toInt32) &&& 1431655765)) &&& 858993459) + (((Int32.toUInt32 (p0 - (((Int32.toUInt32 p0 >>> (Int32.toUInt32 1 &&& Int32.toUInt32 31)).toInt32) &&& 1431655765)) >>> (Int32.toUInt32 2 &&& Int32.toUInt32 31)).toInt32) &&& 858993459)) + ((Int32.toUInt32 (((p0 - (((Int32.toUInt32 p0 >>> (Int32.toUInt32 1 &&& Int32.toUInt32 31)).toInt32) &&& 1431655765)) &&& 858993459) + (((Int32.toUInt32 (p0 - (((Int32.toUInt32 p0 >>> (Int32.toUInt32 1 &&& Int32.toUInt32 31)).toInt32) &&& 1431655765)) >>> (Int32.toUInt32 2 &&& Int32.toUInt32 31)).toInt32) &&& 858993459)) >>> (Int32.toUInt32 4 &&& Int32.toUInt32 31)).toInt32)) &&& 252645135) >>> (Int32.toUInt32 8 &&& Int32.toUInt32 31)).toInt32)) >>> (Int32.toUInt32 16 &&& Int32.toUInt32 31)).toInt32) hx hb dJ6_bitCount_0f7a4_45 rfl ?_
  refine lv_iadd hx hb dJ6_bitCount_0f7a4_46 ?_
  refine lv_istore_n (lv' := [(0, .int (((((((p0 - (((Int32.toUInt32 p0 >>> (Int32.toUInt32 1 &&& Int32.toUInt32 31)).toInt32) &&& 1431655765)) &&& 858993459) + (((Int32.toUInt32 (p0 - (((Int32.toUInt32 p0 >>> (Int32.toUInt32 1 &&& Int32.toUInt32 31)).toInt32) &&& 1431655765)) >>> (Int32.toUInt32 2 &&& Int32.toUInt32 31)).toInt32) &&& 858993459)) + ((Int32.toUInt32 (((p0 - (((Int32.toUInt32 p0 >>> (Int32.toUInt32 1 &&& Int32.toUInt32 31)).toInt32) &&& 1431655765)) &&& 858993459) + (((Int32.toUInt32 (p0 - (((Int32.toUInt32 p0 >>> (Int32.toUInt32 1 &&& Int32.toUInt32 31)).toInt32) &&& 1431655765)) >>> (Int32.toUInt32 2 &&& Int32.toUInt32 31)).toInt32) &&& 858993459)) >>> (Int32.toUInt32 4 &&& Int32.toUInt32 31)).toInt32)) &&& 252645135) + ((Int32.toUInt32 (((((p0 - (((Int32.toUInt32 p0 >>> (Int32.toUInt32 1 &&& Int32.toUInt32 31)).toInt32) &&& 1431655765)) &&& 858993459) + (((Int32.toUInt32 (p0 - (((Int32.toUInt32 p0 >>> (Int32.toUInt32 1 &&& Int32.toUInt32 31)).toInt32) &&& 1431655765)) >>> (Int32.toUInt32 2 &&& Int32.toUInt32 31)).toInt32) &&& 858993459)) + ((Int32.toUInt32 (((p0 - (((Int32.toUInt32 p0 >>> (Int32.toUInt32 1 &&& Int32.toUInt32 31)).toInt32) &&& 1431655765)) &&& 858993459) + (((Int32.toUInt32 (p0 - (((Int32.toUInt32 p0 >>> (Int32.toUInt32 1 &&& Int32.toUInt32 31)).toInt32) &&& 1431655765)) >>> (Int32.toUInt32 2 &&& Int32.toUInt32 31)).toInt32) &&& 858993459)) >>> (Int32.toUInt32 4 &&& Int32.toUInt32 31)).toInt32)) &&& 252645135) >>> (Int32.toUInt32 8 &&& Int32.toUInt32 31)).toInt32)) + ((Int32.toUInt32 ((((((p0 - (((Int32.toUInt32 p0 >>> (Int32.toUInt32 1 &&& Int32.toUInt32 31)).toInt32) &&& 1431655765)) &&& 858993459) + (((Int32.toUInt32 (p0 - (((Int32.toUInt32 p0 >>> (Int32.toUInt32 1 &&& Int32.toUInt32 31)).toInt32) &&& 1431655765)) >>> (Int32.toUInt32 2 &&& Int32.toUInt32 31)).toInt32) &&& 858993459)) + ((Int32.toUInt32 (((p0 - (((Int32.toUInt32 p0 >>> (Int32.toUInt32 1 &&& Int32.toUInt32 31)).toInt32) &&& 1431655765)) &&& 858993459) + (((Int32.toUInt32 (p0 - (((Int32.toUInt32 p0 >>> (Int32.toUInt32 1 &&& Int32.toUInt32 31)).toInt32) &&& 1431655765)) >>> (Int32.toUInt32 2 &&& Int32.toUInt32 31)).toInt32) &&& 858993459)) >>> (Int32.toUInt32 4 &&& Int32.toUInt32 31)).toInt32)) &&& 252645135) + ((Int32.toUInt32 (((((p0 - (((Int32.toUInt32 p0 >>> (Int32.toUInt32 1 &&& Int32.toUInt32 31)).toInt32) &&& 1431655765)) &&& 858993459) + (((Int32.toUInt32 (p0 - (((Int32.toUInt32 p0 >>> (Int32.toUInt32 1 &&& Int32.toUInt32 31)).toInt32) &&& 1431655765)) >>> (Int32.toUInt32 2 &&& Int32.toUInt32 31)).toInt32) &&& 858993459)) + ((Int32.toUInt32 (((p0 - (((Int32.toUInt32 p0 >>> (Int32.toUInt32 1 &&& Int32.toUInt32 31)).toInt32) &&& 1431655765)) &&& 858993459) + (((Int32.toUInt32 (p0 - (((Int32.toUInt32 p0 >>> (Int32.toUInt32 1 &&& Int32.toUInt32 31)).toInt32) &&& 1431655765)) >>> (Int32.toUInt32 2 &&& Int32.toUInt32 31)).toInt32) &&& 858993459)) >>> (Int32.toUInt32 4 &&& Int32.toUInt32 31)).toInt32)) &&& 252645135) >>> (Int32.toUInt32 8 &&& Int32.toUInt32 31)).toInt32)) >>> (Int32.toUInt32 16 &&& Int32.toUInt32 31)).toInt32)))]) hx hb dJ6_bitCount_0f7a4_47 rfl hl (by decide) rfl (fun ls hl => ?_)
  refine lv_iload_n hx hb dJ6_bitCount_0f7a4_48 rfl (lv_at hl 0 rfl) ?_
  refine lv_bipush (v := 63) hx hb dJ6_bitCount_0f7a4_49 (by decide) ?_
  refine lv_iand hx hb dJ6_bitCount_0f7a4_51 ?_
  obtain rfl := Option.some.inj h
  exact xk_iret hx hb hr hlk hP hD hS (hQ _) dJ6_bitCount_0f7a4_52
set_option maxHeartbeats 4000000 in
set_option maxRecDepth 100000 in
theorem c_X7_needed (l : Launch) (D : va_G) (cA : ClassId) (sa sv : Nat → Nat) (a_t a_t_kinds a_t_figures a_t_causeBits : Nat) (sz : Nat) (v_t_kinds : Nat → Int32) (v_t_figures : Nat → Int32) (v_t_causeBits : Nat → Int32) (v_t_size : Int32) (v_t_lost : Int32) (v_t_guarded : Int32) (v_t_day : Int32) (p1 : Int32) (p2 : Int32) (p3 : Int32) (res : Int32) (h : f_X7_needed v_t_kinds v_t_figures p1 p2 p3 = some res) : Met l yX7_needed wsX7_needed { frames := 0, cells := 0, slots := 0, locals := 0 } (xk_Pc D cA sa sv (wX7 cA a_t a_t_kinds a_t_figures a_t_causeBits v_t_kinds v_t_figures v_t_causeBits v_t_size v_t_lost v_t_guarded v_t_day) sz [.ref a_t, .int p1, .int p2, .int p3]) (xk_Q D (va_A (wX7 cA a_t a_t_kinds a_t_figures a_t_causeBits v_t_kinds v_t_figures v_t_causeBits v_t_size v_t_lost v_t_guarded v_t_day) sz) (some (.int res)) (wX7 cA a_t a_t_kinds a_t_figures a_t_causeBits v_t_kinds v_t_figures v_t_causeBits v_t_size v_t_lost v_t_guarded v_t_day)) 0 0 (va_A (wX7 cA a_t a_t_kinds a_t_figures a_t_causeBits v_t_kinds v_t_figures v_t_causeBits v_t_size v_t_lost v_t_guarded v_t_day) sz) := by
  refine xk_met (fun res : Int32 => some (.int res)) (fun res : Int32 => (wX7 cA a_t a_t_kinds a_t_figures a_t_causeBits v_t_kinds v_t_figures v_t_causeBits v_t_size v_t_lost v_t_guarded v_t_day)) res (cc := cX7_needed) (maxL := 5) (ret := (some .int)) (by decide) rfl (Nat.le_of_ble_eq_true rfl) ?_
  intro p e s m args below meth c A Q ls hQ hx hb hr hlk hml hown hts hK hP hD hS hA hl
  have S : CallFix p m c cX7_needed 5 s args wsX7_needed RX7 := ⟨hx, hb, hml, hown, hts⟩
  have hl : lv_has ls 5 [(0, .ref a_t), (1, .int p1), (2, .int p2), (3, .int p3)] := hl
  have hinX7 : ∀ w ∈ u_ws RX7 TX7 7, w ∈ wsX7_needed := fun _ h => List.mem_cons_of_mem _ (List.mem_append_right _ (h))
  have k_0 := hts (.fieldLink RX7 11 "NailsWantTheKingdom$Realm" "kinds" "[I") (List.mem_of_getElem? (i := 1) (by decide +kernel))
  have k_1 := hts (.fieldLink RX7 15 "NailsWantTheKingdom$Realm" "figures" "[I") (List.mem_of_getElem? (i := 2) (by decide +kernel))
  unfold f_X7_needed at h
  refine lv_iload_n hx hb dX7_needed_0 rfl (lv_at hl 1 rfl) ?_
  refine lv_if_lt (tgt := 10) hx hb dX7_needed_1 (by decide) (fun c_1 => ?_) (fun c_1 => ?_)
  · have h := (if_pos c_1).symm.trans h
    refine lv_bipush (v := 10) hx hb dX7_needed_10 (by decide) ?_
    obtain rfl := Option.some.inj h
    exact xk_iret hx hb hr hlk hP hD hS (hQ _) dX7_needed_12
  · have h := (if_neg c_1).symm.trans h
    refine lv_iload_n hx hb dX7_needed_4 rfl (lv_at hl 1 rfl) ?_
    refine lv_bipush (v := 9) hx hb dX7_needed_5 (by decide) ?_
    refine lv_icmp_lt (tgt := 13) hx hb dX7_needed_7 (by decide) (fun c_2 => ?_) (fun c_2 => ?_)
    · have h := (if_pos c_2).symm.trans h
      refine lv_aload_n hx hb dX7_needed_13 rfl (lv_at hl 0 rfl) ?_
      refine va_get (ci := 2) (v := .ref a_t_kinds) (C := RX7) (T := TX7) (N := 7) hx hb hts hinX7 hown hK.1 hP 0 rfl rfl 0 (by decide) k_0 (fun _ h9 => h9) rfl dX7_needed_14 ?_
      refine lv_iload_n hx hb dX7_needed_17 rfl (lv_at hl 1 rfl) ?_
      obtain ⟨i_3, h⟩ := xa_some h
      refine va_iald hx hb hK.1 hP 1 0 rfl rfl i_3 dX7_needed_18 ?_
      by_cases c_4 : (v_t_kinds (Int32.toNatClampNeg p1)) = 1
      · have h := (if_pos c_4).symm.trans h
        refine lv_tableIn (tgt := 52) (off := 33) hx hb dX7_needed_19 (by rw [c_4]; decide) (by rw [c_4]; decide) (by rw [c_4]; rfl) (by decide) ?_
        refine lv_iconst (v := 1) hx hb dX7_needed_52 (by decide) ?_
        obtain rfl := Option.some.inj h
        exact xk_iret hx hb hr hlk hP hD hS (hQ _) dX7_needed_53
      have h := (if_neg c_4).symm.trans h
      by_cases c_5 : (v_t_kinds (Int32.toNatClampNeg p1)) = 2
      · have h := (if_pos c_5).symm.trans h
        refine lv_tableIn (tgt := 54) (off := 35) hx hb dX7_needed_19 (by rw [c_5]; decide) (by rw [c_5]; decide) (by rw [c_5]; rfl) (by decide) ?_
        refine lv_iload_n hx hb dX7_needed_54 rfl (lv_at hl 2 rfl) ?_
        refine lv_iconst (v := 1) hx hb dX7_needed_55 (by decide) ?_
        refine lv_icmp_le (tgt := 63) hx hb dX7_needed_56 (by decide) (fun c_6 => ?_) (fun c_6 => ?_)
        · have h := (if_pos c_6).symm.trans h
          refine lv_iconst (v := 1) hx hb dX7_needed_63 (by decide) ?_
          obtain rfl := Option.some.inj h
          exact xk_iret hx hb hr hlk hP hD hS (hQ _) dX7_needed_64
        · have h := (if_neg c_6).symm.trans h
          refine lv_iconst (v := 2) hx hb dX7_needed_59 (by decide) ?_
          refine lv_goto (tgt := 64) hx hb dX7_needed_60 (by decide) ?_
          obtain rfl := Option.some.inj h
          exact xk_iret hx hb hr hlk hP hD hS (hQ _) dX7_needed_64
      have h := (if_neg c_5).symm.trans h
      by_cases c_7 : (v_t_kinds (Int32.toNatClampNeg p1)) = 3
      · have h := (if_pos c_7).symm.trans h
        refine lv_tableIn (tgt := 65) (off := 46) hx hb dX7_needed_19 (by rw [c_7]; decide) (by rw [c_7]; decide) (by rw [c_7]; rfl) (by decide) ?_
        refine lv_iload_n hx hb dX7_needed_65 rfl (lv_at hl 2 rfl) ?_
        obtain rfl := Option.some.inj h
        exact xk_iret hx hb hr hlk hP hD hS (hQ _) dX7_needed_66
      have h := (if_neg c_7).symm.trans h
      by_cases c_8 : (v_t_kinds (Int32.toNatClampNeg p1)) = 4
      · have h := (if_pos c_8).symm.trans h
        refine lv_tableIn (tgt := 67) (off := 48) hx hb dX7_needed_19 (by rw [c_8]; decide) (by rw [c_8]; decide) (by rw [c_8]; rfl) (by decide) ?_
        refine lv_aload_n hx hb dX7_needed_67 rfl (lv_at hl 0 rfl) ?_
        refine va_get (ci := 2) (v := .ref a_t_figures) (C := RX7) (T := TX7) (N := 7) hx hb hts hinX7 hown hK.1 hP 0 rfl rfl 1 (by decide) k_1 (fun _ h9 => h9) rfl dX7_needed_68 ?_
        refine lv_iload_n hx hb dX7_needed_71 rfl (lv_at hl 1 rfl) ?_
        obtain ⟨i_9, h⟩ := xa_some h
        refine va_iald hx hb hK.1 hP 2 0 rfl rfl i_9 dX7_needed_72 ?_
        refine lv_iconst (v := 1) hx hb dX7_needed_73 (by decide) ?_
        refine lv_iadd hx hb dX7_needed_74 ?_
        refine lv_istore (lv' := [(4, .int ((v_t_figures (Int32.toNatClampNeg p1)) + 1)), (0, .ref a_t), (1, .int p1), (2, .int p2), (3, .int p3)]) hx hb dX7_needed_75 hl (by decide) rfl (fun ls hl => ?_)
        refine lv_iload hx hb dX7_needed_77 (lv_at hl 0 rfl) ?_
        refine lv_if_le (tgt := 93) hx hb dX7_needed_79 (by decide) (fun c_10 => ?_) (fun c_10 => ?_)
        · have h := (if_pos c_10).symm.trans h
          refine lv_bipush (v := 10) hx hb dX7_needed_93 (by decide) ?_
          obtain rfl := Option.some.inj h
          exact xk_iret hx hb hr hlk hP hD hS (hQ _) dX7_needed_95
        · have h := (if_neg c_10).symm.trans h
          refine lv_iload_n hx hb dX7_needed_82 rfl (lv_at hl 4 rfl) ?_
          refine lv_iload hx hb dX7_needed_83 (lv_at hl 0 rfl) ?_
          obtain ⟨z_11, h⟩ := xd_some h
          refine lv_irem hx hb dX7_needed_85 z_11 ?_
          refine lv_if_ne (tgt := 93) hx hb dX7_needed_86 (by decide) (fun c_12 => ?_) (fun c_12 => ?_)
          · have h := (if_neg c_12).symm.trans h
            refine lv_bipush (v := 10) hx hb dX7_needed_93 (by decide) ?_
            obtain rfl := Option.some.inj h
            exact xk_iret hx hb hr hlk hP hD hS (hQ _) dX7_needed_95
          · have h := (if_pos c_12).symm.trans h
            refine lv_iconst (v := 1) hx hb dX7_needed_89 (by decide) ?_
            refine lv_goto (tgt := 95) hx hb dX7_needed_90 (by decide) ?_
            obtain rfl := Option.some.inj h
            exact xk_iret hx hb hr hlk hP hD hS (hQ _) dX7_needed_95
      have h := (if_neg c_8).symm.trans h
      by_cases c_13 : (v_t_kinds (Int32.toNatClampNeg p1)) = 5
      · have h := (if_pos c_13).symm.trans h
        refine lv_tableIn (tgt := 96) (off := 77) hx hb dX7_needed_19 (by rw [c_13]; decide) (by rw [c_13]; decide) (by rw [c_13]; rfl) (by decide) ?_
        refine lv_iload_n hx hb dX7_needed_96 rfl (lv_at hl 2 rfl) ?_
        refine lv_iconst (v := 2) hx hb dX7_needed_97 (by decide) ?_
        refine lv_idiv hx hb dX7_needed_98 (by decide) ?_
        refine lv_iconst (v := 1) hx hb dX7_needed_99 (by decide) ?_
        refine lv_iadd hx hb dX7_needed_100 ?_
        obtain rfl := Option.some.inj h
        exact xk_iret hx hb hr hlk hP hD hS (hQ _) dX7_needed_101
      have h := (if_neg c_13).symm.trans h
      have n_4 : ¬ Int32.toInt (v_t_kinds (Int32.toNatClampNeg p1)) = (1 : Int) := lv_neT (k := 1) c_4 rfl
      have n_5 : ¬ Int32.toInt (v_t_kinds (Int32.toNatClampNeg p1)) = (2 : Int) := lv_neT (k := 2) c_5 rfl
      have n_7 : ¬ Int32.toInt (v_t_kinds (Int32.toNatClampNeg p1)) = (3 : Int) := lv_neT (k := 3) c_7 rfl
      have n_8 : ¬ Int32.toInt (v_t_kinds (Int32.toNatClampNeg p1)) = (4 : Int) := lv_neT (k := 4) c_8 rfl
      have n_13 : ¬ Int32.toInt (v_t_kinds (Int32.toNatClampNeg p1)) = (5 : Int) := lv_neT (k := 5) c_13 rfl
      refine lv_tableOut (tgt := 102) hx hb dX7_needed_19 (by omega) (by decide) ?_
      refine lv_bipush (v := 10) hx hb dX7_needed_102 (by decide) ?_
      obtain rfl := Option.some.inj h
      exact xk_iret hx hb hr hlk hP hD hS (hQ _) dX7_needed_104
    · have h := (if_neg c_2).symm.trans h
      refine lv_bipush (v := 10) hx hb dX7_needed_10 (by decide) ?_
      obtain rfl := Option.some.inj h
      exact xk_iret hx hb hr hlk hP hD hS (hQ _) dX7_needed_12
set_option maxHeartbeats 4000000 in
set_option maxRecDepth 100000 in
theorem c_X7_behindDay (l : Launch) (D : va_G) (cA : ClassId) (sa sv : Nat → Nat) (a_t a_t_kinds a_t_figures a_t_causeBits : Nat) (sz : Nat) (v_t_kinds : Nat → Int32) (v_t_figures : Nat → Int32) (v_t_causeBits : Nat → Int32) (v_t_size : Int32) (v_t_lost : Int32) (v_t_guarded : Int32) (v_t_day : Int32) (p1 : Int32) (p2 : Int32) (p3 : Int32) (F : Nat) (res : Int32) (h : f_X7_behindDay F v_t_kinds v_t_figures v_t_causeBits v_t_size p1 p2 p3 = some res) : Met l yX7_behindDay wsX7_behindDay { frames := 1, cells := 0, slots := 0, locals := 24 } (xk_Pc D cA sa sv (wX7 cA a_t a_t_kinds a_t_figures a_t_causeBits v_t_kinds v_t_figures v_t_causeBits v_t_size v_t_lost v_t_guarded v_t_day) sz [.ref a_t, .int p1, .int p2, .int p3]) (xk_Q D (va_A (wX7 cA a_t a_t_kinds a_t_figures a_t_causeBits v_t_kinds v_t_figures v_t_causeBits v_t_size v_t_lost v_t_guarded v_t_day) sz) (some (.int res)) (wX7 cA a_t a_t_kinds a_t_figures a_t_causeBits v_t_kinds v_t_figures v_t_causeBits v_t_size v_t_lost v_t_guarded v_t_day)) 0 0 (va_A (wX7 cA a_t a_t_kinds a_t_figures a_t_causeBits v_t_kinds v_t_figures v_t_causeBits v_t_size v_t_lost v_t_guarded v_t_day) sz) := by
  refine xk_met (fun res : Int32 => some (.int res)) (fun res : Int32 => (wX7 cA a_t a_t_kinds a_t_figures a_t_causeBits v_t_kinds v_t_figures v_t_causeBits v_t_size v_t_lost v_t_guarded v_t_day)) res (cc := cX7_behindDay) (maxL := 9) (ret := (some .int)) (by decide) rfl (Nat.le_of_ble_eq_true rfl) ?_
  intro p e s m args below meth c A Q ls hQ hx hb hr hlk hml hown hts hK hP hD hS hA hl
  have S : CallFix p m c cX7_behindDay 9 s args wsX7_behindDay RX7 := ⟨hx, hb, hml, hown, hts⟩
  have hl : lv_has ls 9 [(0, .ref a_t), (1, .int p1), (2, .int p2), (3, .int p3)] := hl
  have hinX7 : ∀ w ∈ u_ws RX7 TX7 7, w ∈ wsX7_behindDay := fun _ h => List.mem_cons_of_mem _ (List.mem_append_right _ (h))
  have k_0 := hts (.fieldLink RX7 21 "NailsWantTheKingdom$Realm" "size" "I") (List.mem_of_getElem? (i := 1) (by decide +kernel))
  have k_1 := hts (.fieldLink RX7 18 "NailsWantTheKingdom$Realm" "causeBits" "[I") (List.mem_of_getElem? (i := 2) (by decide +kernel))
  have J_97 : ∀ (k_6r : Int32 → Int32 → Option (Int32)), (∀ (x4 : Int32) (x5 : Int32) (res : Int32), k_6r x4 x5 = some res → ∀ (H : Heap) (locs : List Loc) (ls : Array Slot), va_P D vwCl (wX7 cA a_t a_t_kinds a_t_figures a_t_causeBits v_t_kinds v_t_figures v_t_causeBits v_t_size v_t_lost v_t_guarded v_t_day) H → va_D A (wX7 cA a_t a_t_kinds a_t_figures a_t_causeBits v_t_kinds v_t_figures v_t_causeBits v_t_size v_t_lost v_t_guarded v_t_day) → va_S A s.heap H locs → lv_has ls 9 [(0, .ref a_t), (1, .int p1), (2, .int p2), (3, .int p3), (4, .int x4), (5, .int x5)] → W p l e { frames := 1, cells := 0, slots := 0, locals := 24 } s m args below meth c H locs 0 0 (Q res) (F0 m 6 ls [])) → ∀ (x4 : Int32) (x5 : Int32) (res : Int32), f_X7_behindDay_97 F v_t_kinds v_t_figures v_t_causeBits v_t_size p1 p2 p3 k_6r x4 x5 = some res → ∀ (H : Heap) (locs : List Loc) (ls : Array Slot), va_P D vwCl (wX7 cA a_t a_t_kinds a_t_figures a_t_causeBits v_t_kinds v_t_figures v_t_causeBits v_t_size v_t_lost v_t_guarded v_t_day) H → va_D A (wX7 cA a_t a_t_kinds a_t_figures a_t_causeBits v_t_kinds v_t_figures v_t_causeBits v_t_size v_t_lost v_t_guarded v_t_day) → va_S A s.heap H locs → lv_has ls 9 [(0, .ref a_t), (1, .int p1), (2, .int p2), (3, .int p3), (4, .int x4), (5, .int x5)] → W p l e { frames := 1, cells := 0, slots := 0, locals := 24 } s m args below meth c H locs 0 0 (Q res) (F0 m 97 ls []) := by
    intro k_6r hk_6r x4 x5 res h H locs ls hP hD hS hl
    unfold f_X7_behindDay_97 at h
    refine lv_iinc (v := (x5 + 1)) (lv' := [(5, .int (x5 + 1)), (0, .ref a_t), (1, .int p1), (2, .int p2), (3, .int p3), (4, .int x4)]) hx hb dX7_behindDay_97 hl (k := 5) rfl rfl (by decide) rfl (fun ls hl => ?_)
    refine lv_goto (tgt := 6) hx hb dX7_behindDay_100 (by decide) ?_
    exact hk_6r x4 (x5 + 1) _ h _ _ _ hP hD hS (lv_sub hl [1, 2, 3, 4, 5, 0] rfl)
  have J_56 : ∀ (k_6r : Int32 → Int32 → Option (Int32)), (∀ (x4 : Int32) (x5 : Int32) (res : Int32), k_6r x4 x5 = some res → ∀ (H : Heap) (locs : List Loc) (ls : Array Slot), va_P D vwCl (wX7 cA a_t a_t_kinds a_t_figures a_t_causeBits v_t_kinds v_t_figures v_t_causeBits v_t_size v_t_lost v_t_guarded v_t_day) H → va_D A (wX7 cA a_t a_t_kinds a_t_figures a_t_causeBits v_t_kinds v_t_figures v_t_causeBits v_t_size v_t_lost v_t_guarded v_t_day) → va_S A s.heap H locs → lv_has ls 9 [(0, .ref a_t), (1, .int p1), (2, .int p2), (3, .int p3), (4, .int x4), (5, .int x5)] → W p l e { frames := 1, cells := 0, slots := 0, locals := 24 } s m args below meth c H locs 0 0 (Q res) (F0 m 6 ls [])) → ∀ (s0 : Int32) (x4 : Int32) (x5 : Int32) (x6 : Int32) (x7 : Int32) (res : Int32), f_X7_behindDay_56 F v_t_kinds v_t_figures v_t_causeBits v_t_size p1 p2 p3 k_6r s0 x4 x5 x6 x7 = some res → ∀ (H : Heap) (locs : List Loc) (ls : Array Slot), va_P D vwCl (wX7 cA a_t a_t_kinds a_t_figures a_t_causeBits v_t_kinds v_t_figures v_t_causeBits v_t_size v_t_lost v_t_guarded v_t_day) H → va_D A (wX7 cA a_t a_t_kinds a_t_figures a_t_causeBits v_t_kinds v_t_figures v_t_causeBits v_t_size v_t_lost v_t_guarded v_t_day) → va_S A s.heap H locs → lv_has ls 9 [(0, .ref a_t), (1, .int p1), (2, .int p2), (3, .int p3), (4, .int x4), (5, .int x5), (6, .int x6), (7, .int x7)] → W p l e { frames := 1, cells := 0, slots := 0, locals := 24 } s m args below meth c H locs 0 0 (Q res) (F0 m 56 ls [.int s0]) := by
    intro k_6r hk_6r s0 x4 x5 x6 x7 res h H locs ls hP hD hS hl
    unfold f_X7_behindDay_56 at h
    refine lv_istore (lv' := [(8, .int s0), (0, .ref a_t), (1, .int p1), (2, .int p2), (3, .int p3), (4, .int x4), (5, .int x5), (6, .int x6), (7, .int x7)]) hx hb dX7_behindDay_56 hl (by decide) rfl (fun ls hl => ?_)
    refine lv_iload hx hb dX7_behindDay_58 (lv_at hl 0 rfl) ?_
    refine lv_if_eq (tgt := 97) hx hb dX7_behindDay_60 (by decide) (fun c_6 => ?_) (fun c_6 => ?_)
    · have h := (if_pos c_6).symm.trans h
      exact J_97 k_6r hk_6r x4 x5 _ h _ _ _ hP hD hS (lv_sub hl [1, 2, 3, 4, 5, 6] rfl)
    · have h := (if_neg c_6).symm.trans h
      refine lv_iload hx hb dX7_behindDay_63 (lv_at hl 8 rfl) ?_
      refine lv_if_le (tgt := 97) hx hb dX7_behindDay_65 (by decide) (fun c_7 => ?_) (fun c_7 => ?_)
      · have h := (if_pos c_7).symm.trans h
        exact J_97 k_6r hk_6r x4 x5 _ h _ _ _ hP hD hS (lv_sub hl [1, 2, 3, 4, 5, 6] rfl)
      · have h := (if_neg c_7).symm.trans h
        refine lv_iload hx hb dX7_behindDay_68 (lv_at hl 8 rfl) ?_
        refine lv_aload_n hx hb dX7_behindDay_70 rfl (lv_at hl 1 rfl) ?_
        refine lv_iload hx hb dX7_behindDay_71 (lv_at hl 6 rfl) ?_
        refine lv_aload_n hx hb dX7_behindDay_73 rfl (lv_at hl 1 rfl) ?_
        refine va_get (ci := 2) (v := .ref a_t_causeBits) (C := RX7) (T := TX7) (N := 7) hx hb hts hinX7 hown hK.1 hP 0 rfl rfl 2 (by decide) k_1 (fun _ h9 => h9) rfl dX7_behindDay_74 ?_
        refine lv_iload hx hb dX7_behindDay_77 (lv_at hl 6 rfl) ?_
        obtain ⟨i_8, h⟩ := xa_some h
        refine va_iald hx hb hK.1 hP 3 0 rfl rfl i_8 dX7_behindDay_79 ?_
        obtain ⟨x_9, hc_9, h⟩ := bd_some h
        refine xk_S (rest := [.int x5, .ref a_t, .int x7]) (As := [.int (v_t_causeBits (Int32.toNatClampNeg x5))]) (stk := [.int x_9, .int x5, .ref a_t, .int x7]) (wn := (wX7 cA a_t a_t_kinds a_t_figures a_t_causeBits v_t_kinds v_t_figures v_t_causeBits v_t_size v_t_lost v_t_guarded v_t_day)) (v := (some (.int x_9))) (wr := [(a_t, .inr (2, [.ref a_t_kinds, .ref a_t_figures, .ref a_t_causeBits, .int v_t_size, .int v_t_lost, .int v_t_guarded, .int v_t_day])), (a_t_kinds, .inl (cA, 9, .inl v_t_kinds)), (a_t_figures, .inl (cA, 9, .inl v_t_figures)), (a_t_causeBits, .inl (cA, 9, .inl v_t_causeBits))]) gX7_behindDay_J6_bitCount_0f7a4 rfl hdS_J6_bitCount_0f7a4 rfl rfl (c_J6_bitCount_0f7a4 l D cA sa sv _ (v_t_causeBits (Int32.toNatClampNeg x5)) x_9 hc_9) S hK hP hD hS hA [] [0, 1, 2, 3] [0, 1, 2, 3] rfl rfl rfl rfl rfl rfl rfl ⟨Nat.le_of_ble_eq_true rfl, Nat.le_of_ble_eq_true rfl⟩ ⟨Nat.le_refl 0, Nat.le_refl 0⟩ rfl hl.1 rfl (Nat.le_of_ble_eq_true rfl) rfl dX7_behindDay_80 (fun H locs hP hD hS => ?_)
        refine lv_iload_n hx hb dX7_behindDay_83 rfl (lv_at hl 4 rfl) ?_
        obtain ⟨x_10, hc_10, h⟩ := bd_some h
        refine xk_V (rest := [.int x7]) (As := [.int x5, .int x_9, .int p3]) (stk := [.int x_10, .int x7]) (wn := (wX7 cA a_t a_t_kinds a_t_figures a_t_causeBits v_t_kinds v_t_figures v_t_causeBits v_t_size v_t_lost v_t_guarded v_t_day)) (v := (some (.int x_10))) (wr := []) gX7_behindDay_X7_needed rfl hdV_X7_needed rfl rfl (c_X7_needed l D cA sa sv a_t a_t_kinds a_t_figures a_t_causeBits _ v_t_kinds v_t_figures v_t_causeBits v_t_size v_t_lost v_t_guarded v_t_day x5 x_9 p3 x_10 hc_10) (ci := 2) rfl (q0 := 0) rfl S hK hP hD hS hA [0, 1, 2, 3] [] [0, 1, 2, 3] rfl rfl rfl rfl rfl rfl rfl ⟨Nat.le_of_ble_eq_true rfl, Nat.le_of_ble_eq_true rfl⟩ ⟨Nat.le_refl 0, Nat.le_refl 0⟩ rfl hl.1 rfl (Nat.le_of_ble_eq_true rfl) rfl dX7_behindDay_84 (fun H locs hP hD hS => ?_)
        refine lv_icmp_lt (tgt := 97) hx hb dX7_behindDay_87 (by decide) (fun c_11 => ?_) (fun c_11 => ?_)
        · have h := (if_pos c_11).symm.trans h
          exact J_97 k_6r hk_6r x4 x5 _ h _ _ _ hP hD hS (lv_sub hl [1, 2, 3, 4, 5, 6] rfl)
        · have h := (if_neg c_11).symm.trans h
          refine lv_iload hx hb dX7_behindDay_90 (lv_at hl 5 rfl) ?_
          refine lv_iload hx hb dX7_behindDay_92 (lv_at hl 7 rfl) ?_
          refine lv_ior hx hb dX7_behindDay_94 ?_
          refine lv_istore (lv' := [(4, .int (x4 ||| x6)), (8, .int s0), (0, .ref a_t), (1, .int p1), (2, .int p2), (3, .int p3), (5, .int x5), (6, .int x6), (7, .int x7)]) hx hb dX7_behindDay_95 hl (by decide) rfl (fun ls hl => ?_)
          exact J_97 k_6r hk_6r (x4 ||| x6) x5 _ h _ _ _ hP hD hS (lv_sub hl [2, 3, 4, 5, 0, 6] rfl)
  have J_6 : ∀ (n : Nat) (x4 : Int32) (x5 : Int32) (res : Int32), f_X7_behindDay_6 F v_t_kinds v_t_figures v_t_causeBits v_t_size p1 p2 p3 n x4 x5 = some res → ∀ (H : Heap) (locs : List Loc) (ls : Array Slot), va_P D vwCl (wX7 cA a_t a_t_kinds a_t_figures a_t_causeBits v_t_kinds v_t_figures v_t_causeBits v_t_size v_t_lost v_t_guarded v_t_day) H → va_D A (wX7 cA a_t a_t_kinds a_t_figures a_t_causeBits v_t_kinds v_t_figures v_t_causeBits v_t_size v_t_lost v_t_guarded v_t_day) → va_S A s.heap H locs → lv_has ls 9 [(0, .ref a_t), (1, .int p1), (2, .int p2), (3, .int p3), (4, .int x4), (5, .int x5)] → W p l e { frames := 1, cells := 0, slots := 0, locals := 24 } s m args below meth c H locs 0 0 (Q res) (F0 m 6 ls []) := by
    intro n
    induction n with
    | zero => intro x4 x5 res h; exact nomatch (show (none : Option (Int32)) = some res from h)
    | succ n ih =>
      intro x4 x5 res h H locs ls hP hD hS hl
      rw [f_X7_behindDay_6] at h
      refine lv_iload hx hb dX7_behindDay_6 (lv_at hl 5 rfl) ?_
      refine lv_aload_n hx hb dX7_behindDay_8 rfl (lv_at hl 0 rfl) ?_
      refine va_get (ci := 2) (v := .int v_t_size) (C := RX7) (T := TX7) (N := 7) hx hb hts hinX7 hown hK.1 hP 0 rfl rfl 3 (by decide) k_0 (fun _ h9 => h9) rfl dX7_behindDay_9 ?_
      refine lv_icmp_ge (tgt := 103) hx hb dX7_behindDay_12 (by decide) (fun c_1 => ?_) (fun c_1 => ?_)
      · have h := (if_pos c_1).symm.trans h
        refine lv_iload hx hb dX7_behindDay_103 (lv_at hl 4 rfl) ?_
        obtain rfl := Option.some.inj h
        exact xk_iret hx hb hr hlk hP hD hS (hQ _) dX7_behindDay_105
      · have h := (if_neg c_1).symm.trans h
        refine lv_iload hx hb dX7_behindDay_15 (lv_at hl 5 rfl) ?_
        refine lv_bipush (v := 9) hx hb dX7_behindDay_17 (by decide) ?_
        refine lv_icmp_ge (tgt := 103) hx hb dX7_behindDay_19 (by decide) (fun c_2 => ?_) (fun c_2 => ?_)
        · have h := (if_pos c_2).symm.trans h
          refine lv_iload hx hb dX7_behindDay_103 (lv_at hl 4 rfl) ?_
          obtain rfl := Option.some.inj h
          exact xk_iret hx hb hr hlk hP hD hS (hQ _) dX7_behindDay_105
        · have h := (if_neg c_2).symm.trans h
          refine lv_iconst (v := 1) hx hb dX7_behindDay_22 (by decide) ?_
          refine lv_iload hx hb dX7_behindDay_23 (lv_at hl 5 rfl) ?_
          refine lv_ishl hx hb dX7_behindDay_25 ?_
          refine lv_istore (lv' := [(6, .int (1 <<< (x5 &&& 31))), (0, .ref a_t), (1, .int p1), (2, .int p2), (3, .int p3), (4, .int x4), (5, .int x5)]) hx hb dX7_behindDay_26 hl (by decide) rfl (fun ls hl => ?_)
          refine lv_aload_n hx hb dX7_behindDay_28 rfl (lv_at hl 1 rfl) ?_
          refine va_get (ci := 2) (v := .ref a_t_causeBits) (C := RX7) (T := TX7) (N := 7) hx hb hts hinX7 hown hK.1 hP 0 rfl rfl 2 (by decide) k_1 (fun _ h9 => h9) rfl dX7_behindDay_29 ?_
          refine lv_iload hx hb dX7_behindDay_32 (lv_at hl 6 rfl) ?_
          obtain ⟨i_3, h⟩ := xa_some h
          refine va_iald hx hb hK.1 hP 3 0 rfl rfl i_3 dX7_behindDay_34 ?_
          refine lv_iload_n hx hb dX7_behindDay_35 rfl (lv_at hl 2 rfl) ?_
          refine lv_iand hx hb dX7_behindDay_36 ?_
          obtain ⟨x_4, hc_4, h⟩ := bd_some h
          refine xk_S (rest := []) (As := [.int ((v_t_causeBits (Int32.toNatClampNeg x5)) &&& p1)]) (stk := [.int x_4]) (wn := (wX7 cA a_t a_t_kinds a_t_figures a_t_causeBits v_t_kinds v_t_figures v_t_causeBits v_t_size v_t_lost v_t_guarded v_t_day)) (v := (some (.int x_4))) (wr := [(a_t, .inr (2, [.ref a_t_kinds, .ref a_t_figures, .ref a_t_causeBits, .int v_t_size, .int v_t_lost, .int v_t_guarded, .int v_t_day])), (a_t_kinds, .inl (cA, 9, .inl v_t_kinds)), (a_t_figures, .inl (cA, 9, .inl v_t_figures)), (a_t_causeBits, .inl (cA, 9, .inl v_t_causeBits))]) gX7_behindDay_J6_bitCount_0f7a4 rfl hdS_J6_bitCount_0f7a4 rfl rfl (c_J6_bitCount_0f7a4 l D cA sa sv _ ((v_t_causeBits (Int32.toNatClampNeg x5)) &&& p1) x_4 hc_4) S hK hP hD hS hA [] [0, 1, 2, 3] [0, 1, 2, 3] rfl rfl rfl rfl rfl rfl rfl ⟨Nat.le_of_ble_eq_true rfl, Nat.le_of_ble_eq_true rfl⟩ ⟨Nat.le_refl 0, Nat.le_refl 0⟩ rfl hl.1 rfl (Nat.le_of_ble_eq_true rfl) rfl dX7_behindDay_37 (fun H locs hP hD hS => ?_)
          refine lv_istore (lv' := [(7, .int x_4), (6, .int (1 <<< (x5 &&& 31))), (0, .ref a_t), (1, .int p1), (2, .int p2), (3, .int p3), (4, .int x4), (5, .int x5)]) hx hb dX7_behindDay_40 hl (by decide) rfl (fun ls hl => ?_)
          refine lv_iload_n hx hb dX7_behindDay_42 rfl (lv_at hl 3 rfl) ?_
          refine lv_iload_n hx hb dX7_behindDay_43 rfl (lv_at hl 4 rfl) ?_
          refine lv_ior hx hb dX7_behindDay_44 ?_
          refine lv_iload hx hb dX7_behindDay_45 (lv_at hl 1 rfl) ?_
          refine lv_iand hx hb dX7_behindDay_47 ?_
          refine lv_if_ne (tgt := 55) hx hb dX7_behindDay_48 (by decide) (fun c_5 => ?_) (fun c_5 => ?_)
          · have h := (if_neg c_5).symm.trans h
            refine lv_iconst (v := 0) hx hb dX7_behindDay_55 (by decide) ?_
            exact J_56 (f_X7_behindDay_6 F v_t_kinds v_t_figures v_t_causeBits v_t_size p1 p2 p3 n) ih 0 x4 x5 (1 <<< (x5 &&& 31)) x_4 _ h _ _ _ hP hD hS (lv_sub hl [2, 3, 4, 5, 6, 7, 1, 0] rfl)
          · have h := (if_pos c_5).symm.trans h
            refine lv_iconst (v := 1) hx hb dX7_behindDay_51 (by decide) ?_
            refine lv_goto (tgt := 56) hx hb dX7_behindDay_52 (by decide) ?_
            exact J_56 (f_X7_behindDay_6 F v_t_kinds v_t_figures v_t_causeBits v_t_size p1 p2 p3 n) ih 1 x4 x5 (1 <<< (x5 &&& 31)) x_4 _ h _ _ _ hP hD hS (lv_sub hl [2, 3, 4, 5, 6, 7, 1, 0] rfl)
  unfold f_X7_behindDay at h
  refine lv_iload_n hx hb dX7_behindDay_0 rfl (lv_at hl 1 rfl) ?_
  refine lv_istore (lv' := [(4, .int p1), (0, .ref a_t), (1, .int p1), (2, .int p2), (3, .int p3)]) hx hb dX7_behindDay_1 hl (by decide) rfl (fun ls hl => ?_)
  refine lv_iconst (v := 0) hx hb dX7_behindDay_3 (by decide) ?_
  refine lv_istore (lv' := [(5, .int 0), (4, .int p1), (0, .ref a_t), (1, .int p1), (2, .int p2), (3, .int p3)]) hx hb dX7_behindDay_4 hl (by decide) rfl (fun ls hl => ?_)
  exact J_6 F p1 0 _ h _ _ _ hP hD hS (lv_sub hl [2, 3, 4, 5, 1, 0] rfl)
set_option maxHeartbeats 4000000 in
set_option maxRecDepth 100000 in
theorem c_X7_behindDays (l : Launch) (D : va_G) (cA : ClassId) (sa sv : Nat → Nat) (a_t a_t_kinds a_t_figures a_t_causeBits : Nat) (sz : Nat) (v_t_kinds : Nat → Int32) (v_t_figures : Nat → Int32) (v_t_causeBits : Nat → Int32) (v_t_size : Int32) (v_t_lost : Int32) (v_t_guarded : Int32) (v_t_day : Int32) (p1 : Int32) (p2 : Int32) (p3 : Int32) (p4 : Int32) (F : Nat) (res : Int32) (h : f_X7_behindDays F v_t_kinds v_t_figures v_t_causeBits v_t_size p1 p2 p3 p4 = some res) : Met l yX7_behindDays wsX7_behindDays { frames := 2, cells := 0, slots := 0, locals := 52 } (xk_Pc D cA sa sv (wX7 cA a_t a_t_kinds a_t_figures a_t_causeBits v_t_kinds v_t_figures v_t_causeBits v_t_size v_t_lost v_t_guarded v_t_day) sz [.ref a_t, .int p1, .int p2, .int p3, .int p4]) (xk_Q D (va_A (wX7 cA a_t a_t_kinds a_t_figures a_t_causeBits v_t_kinds v_t_figures v_t_causeBits v_t_size v_t_lost v_t_guarded v_t_day) sz) (some (.int res)) (wX7 cA a_t a_t_kinds a_t_figures a_t_causeBits v_t_kinds v_t_figures v_t_causeBits v_t_size v_t_lost v_t_guarded v_t_day)) 0 0 (va_A (wX7 cA a_t a_t_kinds a_t_figures a_t_causeBits v_t_kinds v_t_figures v_t_causeBits v_t_size v_t_lost v_t_guarded v_t_day) sz) := by
  refine xk_met (fun res : Int32 => some (.int res)) (fun res : Int32 => (wX7 cA a_t a_t_kinds a_t_figures a_t_causeBits v_t_kinds v_t_figures v_t_causeBits v_t_size v_t_lost v_t_guarded v_t_day)) res (cc := cX7_behindDays) (maxL := 9) (ret := (some .int)) (by decide) rfl (Nat.le_of_ble_eq_true rfl) ?_
  intro p e s m args below meth c A Q ls hQ hx hb hr hlk hml hown hts hK hP hD hS hA hl
  have S : CallFix p m c cX7_behindDays 9 s args wsX7_behindDays RX7 := ⟨hx, hb, hml, hown, hts⟩
  have hl : lv_has ls 9 [(0, .ref a_t), (1, .int p1), (2, .int p2), (3, .int p3), (4, .int p4)] := hl
  have J_51 : ∀ (k_9r : Int32 → Int32 → Int32 → Option (Int32)), (∀ (x5 : Int32) (x6 : Int32) (x7 : Int32) (res : Int32), k_9r x5 x6 x7 = some res → ∀ (H : Heap) (locs : List Loc) (ls : Array Slot), va_P D vwCl (wX7 cA a_t a_t_kinds a_t_figures a_t_causeBits v_t_kinds v_t_figures v_t_causeBits v_t_size v_t_lost v_t_guarded v_t_day) H → va_D A (wX7 cA a_t a_t_kinds a_t_figures a_t_causeBits v_t_kinds v_t_figures v_t_causeBits v_t_size v_t_lost v_t_guarded v_t_day) → va_S A s.heap H locs → lv_has ls 9 [(0, .ref a_t), (2, .int p2), (3, .int p3), (4, .int p4), (5, .int x5), (6, .int x6), (7, .int x7)] → W p l e { frames := 2, cells := 0, slots := 0, locals := 52 } s m args below meth c H locs 0 0 (Q res) (F0 m 9 ls [])) → ∀ (s0 : Int32) (x7 : Int32) (x8 : Int32) (res : Int32), f_X7_behindDays_51 F v_t_kinds v_t_figures v_t_causeBits v_t_size p1 p2 p3 p4 k_9r s0 x7 x8 = some res → ∀ (H : Heap) (locs : List Loc) (ls : Array Slot), va_P D vwCl (wX7 cA a_t a_t_kinds a_t_figures a_t_causeBits v_t_kinds v_t_figures v_t_causeBits v_t_size v_t_lost v_t_guarded v_t_day) H → va_D A (wX7 cA a_t a_t_kinds a_t_figures a_t_causeBits v_t_kinds v_t_figures v_t_causeBits v_t_size v_t_lost v_t_guarded v_t_day) → va_S A s.heap H locs → lv_has ls 9 [(0, .ref a_t), (2, .int p2), (3, .int p3), (4, .int p4), (7, .int x7), (8, .int x8)] → W p l e { frames := 2, cells := 0, slots := 0, locals := 52 } s m args below meth c H locs 0 0 (Q res) (F0 m 51 ls [.int s0]) := by
    intro k_9r hk_9r s0 x7 x8 res h H locs ls hP hD hS hl
    unfold f_X7_behindDays_51 at h
    refine lv_istore (lv' := [(6, .int s0), (0, .ref a_t), (2, .int p2), (3, .int p3), (4, .int p4), (7, .int x7), (8, .int x8)]) hx hb dX7_behindDays_51 hl (by decide) rfl (fun ls hl => ?_)
    refine lv_iload hx hb dX7_behindDays_53 (lv_at hl 6 rfl) ?_
    refine lv_istore (lv' := [(5, .int x8), (6, .int s0), (0, .ref a_t), (2, .int p2), (3, .int p3), (4, .int p4), (7, .int x7), (8, .int x8)]) hx hb dX7_behindDays_55 hl (by decide) rfl (fun ls hl => ?_)
    refine lv_iinc (v := (x7 + 1)) (lv' := [(7, .int (x7 + 1)), (5, .int x8), (6, .int s0), (0, .ref a_t), (2, .int p2), (3, .int p3), (4, .int p4), (8, .int x8)]) hx hb dX7_behindDays_57 hl (k := 6) rfl rfl (by decide) rfl (fun ls hl => ?_)
    refine lv_goto (tgt := 9) hx hb dX7_behindDays_60 (by decide) ?_
    exact hk_9r x8 s0 (x7 + 1) _ h _ _ _ hP hD hS (lv_sub hl [3, 4, 5, 6, 1, 2, 0] rfl)
  have J_9 : ∀ (n : Nat) (x5 : Int32) (x6 : Int32) (x7 : Int32) (res : Int32), f_X7_behindDays_9 F v_t_kinds v_t_figures v_t_causeBits v_t_size p1 p2 p3 p4 n x5 x6 x7 = some res → ∀ (H : Heap) (locs : List Loc) (ls : Array Slot), va_P D vwCl (wX7 cA a_t a_t_kinds a_t_figures a_t_causeBits v_t_kinds v_t_figures v_t_causeBits v_t_size v_t_lost v_t_guarded v_t_day) H → va_D A (wX7 cA a_t a_t_kinds a_t_figures a_t_causeBits v_t_kinds v_t_figures v_t_causeBits v_t_size v_t_lost v_t_guarded v_t_day) → va_S A s.heap H locs → lv_has ls 9 [(0, .ref a_t), (2, .int p2), (3, .int p3), (4, .int p4), (5, .int x5), (6, .int x6), (7, .int x7)] → W p l e { frames := 2, cells := 0, slots := 0, locals := 52 } s m args below meth c H locs 0 0 (Q res) (F0 m 9 ls []) := by
    intro n
    induction n with
    | zero => intro x5 x6 x7 res h; exact nomatch (show (none : Option (Int32)) = some res from h)
    | succ n ih =>
      intro x5 x6 x7 res h H locs ls hP hD hS hl
      rw [f_X7_behindDays_9] at h
      refine lv_iload hx hb dX7_behindDays_9 (lv_at hl 6 rfl) ?_
      refine lv_iload hx hb dX7_behindDays_11 (lv_at hl 3 rfl) ?_
      refine lv_icmp_gt (tgt := 63) hx hb dX7_behindDays_13 (by decide) (fun c_1 => ?_) (fun c_1 => ?_)
      · have h := (if_pos c_1).symm.trans h
        refine lv_iload hx hb dX7_behindDays_63 (lv_at hl 4 rfl) ?_
        obtain rfl := Option.some.inj h
        exact xk_iret hx hb hr hlk hP hD hS (hQ _) dX7_behindDays_65
      · have h := (if_neg c_1).symm.trans h
        refine lv_iload hx hb dX7_behindDays_16 (lv_at hl 5 rfl) ?_
        refine lv_bipush (v := 10) hx hb dX7_behindDays_18 (by decide) ?_
        refine lv_icmp_ge (tgt := 63) hx hb dX7_behindDays_20 (by decide) (fun c_2 => ?_) (fun c_2 => ?_)
        · have h := (if_pos c_2).symm.trans h
          refine lv_iload hx hb dX7_behindDays_63 (lv_at hl 4 rfl) ?_
          obtain rfl := Option.some.inj h
          exact xk_iret hx hb hr hlk hP hD hS (hQ _) dX7_behindDays_65
        · have h := (if_neg c_2).symm.trans h
          refine lv_aload_n hx hb dX7_behindDays_23 rfl (lv_at hl 0 rfl) ?_
          refine lv_iload hx hb dX7_behindDays_24 (lv_at hl 4 rfl) ?_
          refine lv_iload_n hx hb dX7_behindDays_26 rfl (lv_at hl 1 rfl) ?_
          refine lv_iload_n hx hb dX7_behindDays_27 rfl (lv_at hl 2 rfl) ?_
          refine lv_iload hx hb dX7_behindDays_28 (lv_at hl 6 rfl) ?_
          refine lv_iadd hx hb dX7_behindDays_30 ?_
          obtain ⟨x_3, hc_3, h⟩ := bd_some h
          refine xk_V (rest := []) (As := [.int x5, .int p2, .int (p3 + x7)]) (stk := [.int x_3]) (wn := (wX7 cA a_t a_t_kinds a_t_figures a_t_causeBits v_t_kinds v_t_figures v_t_causeBits v_t_size v_t_lost v_t_guarded v_t_day)) (v := (some (.int x_3))) (wr := []) gX7_behindDays_X7_behindDay rfl hdV_X7_behindDay rfl rfl (c_X7_behindDay l D cA sa sv a_t a_t_kinds a_t_figures a_t_causeBits _ v_t_kinds v_t_figures v_t_causeBits v_t_size v_t_lost v_t_guarded v_t_day x5 p2 (p3 + x7) F x_3 hc_3) (ci := 2) rfl (q0 := 0) rfl S hK hP hD hS hA [0, 1, 2, 3] [] [0, 1, 2, 3] rfl rfl rfl rfl rfl rfl rfl ⟨Nat.le_of_ble_eq_true rfl, Nat.le_of_ble_eq_true rfl⟩ ⟨Nat.le_refl 0, Nat.le_refl 0⟩ rfl hl.1 rfl (Nat.le_of_ble_eq_true rfl) rfl dX7_behindDays_31 (fun H locs hP hD hS => ?_)
          refine lv_istore (lv' := [(8, .int x_3), (0, .ref a_t), (2, .int p2), (3, .int p3), (4, .int p4), (5, .int x5), (6, .int x6), (7, .int x7)]) hx hb dX7_behindDays_34 hl (by decide) rfl (fun ls hl => ?_)
          refine lv_iload hx hb dX7_behindDays_36 (lv_at hl 0 rfl) ?_
          refine lv_iload hx hb dX7_behindDays_38 (lv_at hl 5 rfl) ?_
          refine lv_icmp_ne (tgt := 50) hx hb dX7_behindDays_40 (by decide) (fun c_4 => ?_) (fun c_4 => ?_)
          · have h := (if_neg c_4).symm.trans h
            refine lv_iconst (v := 0) hx hb dX7_behindDays_50 (by decide) ?_
            exact J_51 (f_X7_behindDays_9 F v_t_kinds v_t_figures v_t_causeBits v_t_size p1 p2 p3 p4 n) ih 0 x7 x_3 _ h _ _ _ hP hD hS (lv_sub hl [1, 2, 3, 4, 7, 0] rfl)
          · have h := (if_pos c_4).symm.trans h
            refine lv_iload hx hb dX7_behindDays_43 (lv_at hl 6 rfl) ?_
            refine lv_iconst (v := 1) hx hb dX7_behindDays_45 (by decide) ?_
            refine lv_iadd hx hb dX7_behindDays_46 ?_
            refine lv_goto (tgt := 51) hx hb dX7_behindDays_47 (by decide) ?_
            exact J_51 (f_X7_behindDays_9 F v_t_kinds v_t_figures v_t_causeBits v_t_size p1 p2 p3 p4 n) ih (x6 + 1) x7 x_3 _ h _ _ _ hP hD hS (lv_sub hl [1, 2, 3, 4, 7, 0] rfl)
  unfold f_X7_behindDays at h
  refine lv_iload_n hx hb dX7_behindDays_0 rfl (lv_at hl 1 rfl) ?_
  refine lv_istore (lv' := [(5, .int p1), (0, .ref a_t), (1, .int p1), (2, .int p2), (3, .int p3), (4, .int p4)]) hx hb dX7_behindDays_1 hl (by decide) rfl (fun ls hl => ?_)
  refine lv_iconst (v := 0) hx hb dX7_behindDays_3 (by decide) ?_
  refine lv_istore (lv' := [(6, .int 0), (5, .int p1), (0, .ref a_t), (1, .int p1), (2, .int p2), (3, .int p3), (4, .int p4)]) hx hb dX7_behindDays_4 hl (by decide) rfl (fun ls hl => ?_)
  refine lv_iconst (v := 1) hx hb dX7_behindDays_6 (by decide) ?_
  refine lv_istore (lv' := [(7, .int 1), (6, .int 0), (5, .int p1), (0, .ref a_t), (1, .int p1), (2, .int p2), (3, .int p3), (4, .int p4)]) hx hb dX7_behindDays_7 hl (by decide) rfl (fun ls hl => ?_)
  exact J_9 F p1 0 1 _ h _ _ _ hP hD hS (lv_sub hl [3, 5, 6, 7, 2, 1, 0] rfl)
set_option maxHeartbeats 4000000 in
set_option maxRecDepth 100000 in
theorem c_X7_has (l : Launch) (D : va_G) (cA : ClassId) (sa sv : Nat → Nat) (a_t a_t_kinds a_t_figures a_t_causeBits : Nat) (sz : Nat) (v_t_kinds : Nat → Int32) (v_t_figures : Nat → Int32) (v_t_causeBits : Nat → Int32) (v_t_size : Int32) (v_t_lost : Int32) (v_t_guarded : Int32) (v_t_day : Int32) (p1 : Int32) (res : Int32) (h : f_X7_has v_t_size p1 = some res) : Met l yX7_has wsX7_has { frames := 0, cells := 0, slots := 0, locals := 0 } (xk_Pc D cA sa sv (wX7 cA a_t a_t_kinds a_t_figures a_t_causeBits v_t_kinds v_t_figures v_t_causeBits v_t_size v_t_lost v_t_guarded v_t_day) sz [.ref a_t, .int p1]) (xk_Q D (va_A (wX7 cA a_t a_t_kinds a_t_figures a_t_causeBits v_t_kinds v_t_figures v_t_causeBits v_t_size v_t_lost v_t_guarded v_t_day) sz) (some (.int res)) (wX7 cA a_t a_t_kinds a_t_figures a_t_causeBits v_t_kinds v_t_figures v_t_causeBits v_t_size v_t_lost v_t_guarded v_t_day)) 0 0 (va_A (wX7 cA a_t a_t_kinds a_t_figures a_t_causeBits v_t_kinds v_t_figures v_t_causeBits v_t_size v_t_lost v_t_guarded v_t_day) sz) := by
  refine xk_met (fun res : Int32 => some (.int res)) (fun res : Int32 => (wX7 cA a_t a_t_kinds a_t_figures a_t_causeBits v_t_kinds v_t_figures v_t_causeBits v_t_size v_t_lost v_t_guarded v_t_day)) res (cc := cX7_has) (maxL := 2) (ret := (some .boolean)) (by decide) rfl (Nat.le_of_ble_eq_true rfl) ?_
  intro p e s m args below meth c A Q ls hQ hx hb hr hlk hml hown hts hK hP hD hS hA hl
  have S : CallFix p m c cX7_has 2 s args wsX7_has RX7 := ⟨hx, hb, hml, hown, hts⟩
  have hl : lv_has ls 2 [(0, .ref a_t), (1, .int p1)] := hl
  have hinX7 : ∀ w ∈ u_ws RX7 TX7 7, w ∈ wsX7_has := fun _ h => List.mem_cons_of_mem _ (List.mem_append_right _ (h))
  have k_0 := hts (.fieldLink RX7 21 "NailsWantTheKingdom$Realm" "size" "I") (List.mem_of_getElem? (i := 1) (by decide +kernel))
  unfold f_X7_has at h
  refine lv_iload_n hx hb dX7_has_0 rfl (lv_at hl 1 rfl) ?_
  refine lv_if_lt (tgt := 22) hx hb dX7_has_1 (by decide) (fun c_1 => ?_) (fun c_1 => ?_)
  · have h := (if_pos c_1).symm.trans h
    refine lv_iconst (v := 0) hx hb dX7_has_22 (by decide) ?_
    obtain rfl := Option.some.inj h
    exact xk_zret rfl hx hb hr hlk hP hD hS (hQ _) dX7_has_23
  · have h := (if_neg c_1).symm.trans h
    refine lv_iload_n hx hb dX7_has_4 rfl (lv_at hl 1 rfl) ?_
    refine lv_aload_n hx hb dX7_has_5 rfl (lv_at hl 0 rfl) ?_
    refine va_get (ci := 2) (v := .int v_t_size) (C := RX7) (T := TX7) (N := 7) hx hb hts hinX7 hown hK.1 hP 0 rfl rfl 3 (by decide) k_0 (fun _ h9 => h9) rfl dX7_has_6 ?_
    refine lv_icmp_ge (tgt := 22) hx hb dX7_has_9 (by decide) (fun c_2 => ?_) (fun c_2 => ?_)
    · have h := (if_pos c_2).symm.trans h
      refine lv_iconst (v := 0) hx hb dX7_has_22 (by decide) ?_
      obtain rfl := Option.some.inj h
      exact xk_zret rfl hx hb hr hlk hP hD hS (hQ _) dX7_has_23
    · have h := (if_neg c_2).symm.trans h
      refine lv_iload_n hx hb dX7_has_12 rfl (lv_at hl 1 rfl) ?_
      refine lv_bipush (v := 9) hx hb dX7_has_13 (by decide) ?_
      refine lv_icmp_ge (tgt := 22) hx hb dX7_has_15 (by decide) (fun c_3 => ?_) (fun c_3 => ?_)
      · have h := (if_pos c_3).symm.trans h
        refine lv_iconst (v := 0) hx hb dX7_has_22 (by decide) ?_
        obtain rfl := Option.some.inj h
        exact xk_zret rfl hx hb hr hlk hP hD hS (hQ _) dX7_has_23
      · have h := (if_neg c_3).symm.trans h
        refine lv_iconst (v := 1) hx hb dX7_has_18 (by decide) ?_
        refine lv_goto (tgt := 23) hx hb dX7_has_19 (by decide) ?_
        obtain rfl := Option.some.inj h
        exact xk_zret rfl hx hb hr hlk hP hD hS (hQ _) dX7_has_23
set_option maxHeartbeats 4000000 in
set_option maxRecDepth 100000 in
theorem c_X7_causesOf (l : Launch) (D : va_G) (cA : ClassId) (sa sv : Nat → Nat) (a_t a_t_kinds a_t_figures a_t_causeBits : Nat) (sz : Nat) (v_t_kinds : Nat → Int32) (v_t_figures : Nat → Int32) (v_t_causeBits : Nat → Int32) (v_t_size : Int32) (v_t_lost : Int32) (v_t_guarded : Int32) (v_t_day : Int32) (p1 : Int32) (res : Int32) (h : f_X7_causesOf v_t_causeBits v_t_size p1 = some res) : Met l yX7_causesOf wsX7_causesOf { frames := 1, cells := 0, slots := 0, locals := 21 } (xk_Pc D cA sa sv (wX7 cA a_t a_t_kinds a_t_figures a_t_causeBits v_t_kinds v_t_figures v_t_causeBits v_t_size v_t_lost v_t_guarded v_t_day) sz [.ref a_t, .int p1]) (xk_Q D (va_A (wX7 cA a_t a_t_kinds a_t_figures a_t_causeBits v_t_kinds v_t_figures v_t_causeBits v_t_size v_t_lost v_t_guarded v_t_day) sz) (some (.int res)) (wX7 cA a_t a_t_kinds a_t_figures a_t_causeBits v_t_kinds v_t_figures v_t_causeBits v_t_size v_t_lost v_t_guarded v_t_day)) 0 0 (va_A (wX7 cA a_t a_t_kinds a_t_figures a_t_causeBits v_t_kinds v_t_figures v_t_causeBits v_t_size v_t_lost v_t_guarded v_t_day) sz) := by
  refine xk_met (fun res : Int32 => some (.int res)) (fun res : Int32 => (wX7 cA a_t a_t_kinds a_t_figures a_t_causeBits v_t_kinds v_t_figures v_t_causeBits v_t_size v_t_lost v_t_guarded v_t_day)) res (cc := cX7_causesOf) (maxL := 2) (ret := (some .int)) (by decide) rfl (Nat.le_of_ble_eq_true rfl) ?_
  intro p e s m args below meth c A Q ls hQ hx hb hr hlk hml hown hts hK hP hD hS hA hl
  have S : CallFix p m c cX7_causesOf 2 s args wsX7_causesOf RX7 := ⟨hx, hb, hml, hown, hts⟩
  have hl : lv_has ls 2 [(0, .ref a_t), (1, .int p1)] := hl
  have hinX7 : ∀ w ∈ u_ws RX7 TX7 7, w ∈ wsX7_causesOf := fun _ h => List.mem_cons_of_mem _ (List.mem_append_right _ (h))
  have k_0 := hts (.fieldLink RX7 18 "NailsWantTheKingdom$Realm" "causeBits" "[I") (List.mem_of_getElem? (i := 1) (by decide +kernel))
  unfold f_X7_causesOf at h
  refine lv_aload_n hx hb dX7_causesOf_0 rfl (lv_at hl 0 rfl) ?_
  refine lv_iload_n hx hb dX7_causesOf_1 rfl (lv_at hl 1 rfl) ?_
  obtain ⟨x_1, hc_1, h⟩ := bd_some h
  refine xk_V (rest := []) (As := [.int p1]) (stk := [.int x_1]) (wn := (wX7 cA a_t a_t_kinds a_t_figures a_t_causeBits v_t_kinds v_t_figures v_t_causeBits v_t_size v_t_lost v_t_guarded v_t_day)) (v := (some (.int x_1))) (wr := []) gX7_causesOf_X7_has rfl hdV_X7_has rfl rfl (c_X7_has l D cA sa sv a_t a_t_kinds a_t_figures a_t_causeBits _ v_t_kinds v_t_figures v_t_causeBits v_t_size v_t_lost v_t_guarded v_t_day p1 x_1 hc_1) (ci := 2) rfl (q0 := 0) rfl S hK hP hD hS hA [0, 1, 2, 3] [] [0, 1, 2, 3] rfl rfl rfl rfl rfl rfl rfl ⟨Nat.le_of_ble_eq_true rfl, Nat.le_of_ble_eq_true rfl⟩ ⟨Nat.le_refl 0, Nat.le_refl 0⟩ rfl hl.1 rfl (Nat.le_of_ble_eq_true rfl) rfl dX7_causesOf_2 (fun H locs hP hD hS => ?_)
  refine lv_if_eq (tgt := 17) hx hb dX7_causesOf_5 (by decide) (fun c_2 => ?_) (fun c_2 => ?_)
  · have h := (if_pos c_2).symm.trans h
    refine lv_iconst (v := 0) hx hb dX7_causesOf_17 (by decide) ?_
    obtain rfl := Option.some.inj h
    exact xk_iret hx hb hr hlk hP hD hS (hQ _) dX7_causesOf_18
  · have h := (if_neg c_2).symm.trans h
    refine lv_aload_n hx hb dX7_causesOf_8 rfl (lv_at hl 0 rfl) ?_
    refine va_get (ci := 2) (v := .ref a_t_causeBits) (C := RX7) (T := TX7) (N := 7) hx hb hts hinX7 hown hK.1 hP 0 rfl rfl 2 (by decide) k_0 (fun _ h9 => h9) rfl dX7_causesOf_9 ?_
    refine lv_iload_n hx hb dX7_causesOf_12 rfl (lv_at hl 1 rfl) ?_
    obtain ⟨i_3, h⟩ := xa_some h
    refine va_iald hx hb hK.1 hP 3 0 rfl rfl i_3 dX7_causesOf_13 ?_
    refine lv_goto (tgt := 18) hx hb dX7_causesOf_14 (by decide) ?_
    obtain rfl := Option.some.inj h
    exact xk_iret hx hb hr hlk hP hD hS (hQ _) dX7_causesOf_18
set_option maxHeartbeats 4000000 in
set_option maxRecDepth 100000 in
theorem c_X7_withoutCauses (l : Launch) (D : va_G) (cA : ClassId) (sa sv : Nat → Nat) (a_t a_t_kinds a_t_figures a_t_causeBits : Nat) (sz : Nat) (v_t_kinds : Nat → Int32) (v_t_figures : Nat → Int32) (v_t_causeBits : Nat → Int32) (v_t_size : Int32) (v_t_lost : Int32) (v_t_guarded : Int32) (v_t_day : Int32) (F : Nat) (res : Int32) (h : f_X7_withoutCauses F v_t_causeBits v_t_size  = some res) : Met l yX7_withoutCauses wsX7_withoutCauses { frames := 2, cells := 0, slots := 0, locals := 42 } (xk_Pc D cA sa sv (wX7 cA a_t a_t_kinds a_t_figures a_t_causeBits v_t_kinds v_t_figures v_t_causeBits v_t_size v_t_lost v_t_guarded v_t_day) sz [.ref a_t]) (xk_Q D (va_A (wX7 cA a_t a_t_kinds a_t_figures a_t_causeBits v_t_kinds v_t_figures v_t_causeBits v_t_size v_t_lost v_t_guarded v_t_day) sz) (some (.int res)) (wX7 cA a_t a_t_kinds a_t_figures a_t_causeBits v_t_kinds v_t_figures v_t_causeBits v_t_size v_t_lost v_t_guarded v_t_day)) 0 0 (va_A (wX7 cA a_t a_t_kinds a_t_figures a_t_causeBits v_t_kinds v_t_figures v_t_causeBits v_t_size v_t_lost v_t_guarded v_t_day) sz) := by
  refine xk_met (fun res : Int32 => some (.int res)) (fun res : Int32 => (wX7 cA a_t a_t_kinds a_t_figures a_t_causeBits v_t_kinds v_t_figures v_t_causeBits v_t_size v_t_lost v_t_guarded v_t_day)) res (cc := cX7_withoutCauses) (maxL := 3) (ret := (some .int)) (by decide) rfl (Nat.le_of_ble_eq_true rfl) ?_
  intro p e s m args below meth c A Q ls hQ hx hb hr hlk hml hown hts hK hP hD hS hA hl
  have S : CallFix p m c cX7_withoutCauses 3 s args wsX7_withoutCauses RX7 := ⟨hx, hb, hml, hown, hts⟩
  have hl : lv_has ls 3 [(0, .ref a_t)] := hl
  have hinX7 : ∀ w ∈ u_ws RX7 TX7 7, w ∈ wsX7_withoutCauses := fun _ h => List.mem_cons_of_mem _ (List.mem_append_right _ (h))
  have k_0 := hts (.fieldLink RX7 21 "NailsWantTheKingdom$Realm" "size" "I") (List.mem_of_getElem? (i := 1) (by decide +kernel))
  have J_26 : ∀ (k_4r : Int32 → Int32 → Option (Int32)), (∀ (x1 : Int32) (x2 : Int32) (res : Int32), k_4r x1 x2 = some res → ∀ (H : Heap) (locs : List Loc) (ls : Array Slot), va_P D vwCl (wX7 cA a_t a_t_kinds a_t_figures a_t_causeBits v_t_kinds v_t_figures v_t_causeBits v_t_size v_t_lost v_t_guarded v_t_day) H → va_D A (wX7 cA a_t a_t_kinds a_t_figures a_t_causeBits v_t_kinds v_t_figures v_t_causeBits v_t_size v_t_lost v_t_guarded v_t_day) → va_S A s.heap H locs → lv_has ls 3 [(0, .ref a_t), (1, .int x1), (2, .int x2)] → W p l e { frames := 2, cells := 0, slots := 0, locals := 42 } s m args below meth c H locs 0 0 (Q res) (F0 m 4 ls [])) → ∀ (x1 : Int32) (x2 : Int32) (res : Int32), f_X7_withoutCauses_26 F v_t_causeBits v_t_size k_4r x1 x2 = some res → ∀ (H : Heap) (locs : List Loc) (ls : Array Slot), va_P D vwCl (wX7 cA a_t a_t_kinds a_t_figures a_t_causeBits v_t_kinds v_t_figures v_t_causeBits v_t_size v_t_lost v_t_guarded v_t_day) H → va_D A (wX7 cA a_t a_t_kinds a_t_figures a_t_causeBits v_t_kinds v_t_figures v_t_causeBits v_t_size v_t_lost v_t_guarded v_t_day) → va_S A s.heap H locs → lv_has ls 3 [(0, .ref a_t), (1, .int x1), (2, .int x2)] → W p l e { frames := 2, cells := 0, slots := 0, locals := 42 } s m args below meth c H locs 0 0 (Q res) (F0 m 26 ls []) := by
    intro k_4r hk_4r x1 x2 res h H locs ls hP hD hS hl
    unfold f_X7_withoutCauses_26 at h
    refine lv_iinc (v := (x2 + 1)) (lv' := [(2, .int (x2 + 1)), (0, .ref a_t), (1, .int x1)]) hx hb dX7_withoutCauses_26 hl (k := 2) rfl rfl (by decide) rfl (fun ls hl => ?_)
    refine lv_goto (tgt := 4) hx hb dX7_withoutCauses_29 (by decide) ?_
    exact hk_4r x1 (x2 + 1) _ h _ _ _ hP hD hS (lv_sub hl [1, 2, 0] rfl)
  have J_4 : ∀ (n : Nat) (x1 : Int32) (x2 : Int32) (res : Int32), f_X7_withoutCauses_4 F v_t_causeBits v_t_size n x1 x2 = some res → ∀ (H : Heap) (locs : List Loc) (ls : Array Slot), va_P D vwCl (wX7 cA a_t a_t_kinds a_t_figures a_t_causeBits v_t_kinds v_t_figures v_t_causeBits v_t_size v_t_lost v_t_guarded v_t_day) H → va_D A (wX7 cA a_t a_t_kinds a_t_figures a_t_causeBits v_t_kinds v_t_figures v_t_causeBits v_t_size v_t_lost v_t_guarded v_t_day) → va_S A s.heap H locs → lv_has ls 3 [(0, .ref a_t), (1, .int x1), (2, .int x2)] → W p l e { frames := 2, cells := 0, slots := 0, locals := 42 } s m args below meth c H locs 0 0 (Q res) (F0 m 4 ls []) := by
    intro n
    induction n with
    | zero => intro x1 x2 res h; exact nomatch (show (none : Option (Int32)) = some res from h)
    | succ n ih =>
      intro x1 x2 res h H locs ls hP hD hS hl
      rw [f_X7_withoutCauses_4] at h
      refine lv_iload_n hx hb dX7_withoutCauses_4 rfl (lv_at hl 2 rfl) ?_
      refine lv_aload_n hx hb dX7_withoutCauses_5 rfl (lv_at hl 0 rfl) ?_
      refine va_get (ci := 2) (v := .int v_t_size) (C := RX7) (T := TX7) (N := 7) hx hb hts hinX7 hown hK.1 hP 0 rfl rfl 3 (by decide) k_0 (fun _ h9 => h9) rfl dX7_withoutCauses_6 ?_
      refine lv_icmp_ge (tgt := 32) hx hb dX7_withoutCauses_9 (by decide) (fun c_1 => ?_) (fun c_1 => ?_)
      · have h := (if_pos c_1).symm.trans h
        refine lv_iload_n hx hb dX7_withoutCauses_32 rfl (lv_at hl 1 rfl) ?_
        obtain rfl := Option.some.inj h
        exact xk_iret hx hb hr hlk hP hD hS (hQ _) dX7_withoutCauses_33
      · have h := (if_neg c_1).symm.trans h
        refine lv_aload_n hx hb dX7_withoutCauses_12 rfl (lv_at hl 0 rfl) ?_
        refine lv_iload_n hx hb dX7_withoutCauses_13 rfl (lv_at hl 2 rfl) ?_
        obtain ⟨x_2, hc_2, h⟩ := bd_some h
        refine xk_V (rest := []) (As := [.int x2]) (stk := [.int x_2]) (wn := (wX7 cA a_t a_t_kinds a_t_figures a_t_causeBits v_t_kinds v_t_figures v_t_causeBits v_t_size v_t_lost v_t_guarded v_t_day)) (v := (some (.int x_2))) (wr := []) gX7_withoutCauses_X7_causesOf rfl hdV_X7_causesOf rfl rfl (c_X7_causesOf l D cA sa sv a_t a_t_kinds a_t_figures a_t_causeBits _ v_t_kinds v_t_figures v_t_causeBits v_t_size v_t_lost v_t_guarded v_t_day x2 x_2 hc_2) (ci := 2) rfl (q0 := 0) rfl S hK hP hD hS hA [0, 1, 2, 3] [] [0, 1, 2, 3] rfl rfl rfl rfl rfl rfl rfl ⟨Nat.le_of_ble_eq_true rfl, Nat.le_of_ble_eq_true rfl⟩ ⟨Nat.le_refl 0, Nat.le_refl 0⟩ rfl hl.1 rfl (Nat.le_of_ble_eq_true rfl) rfl dX7_withoutCauses_14 (fun H locs hP hD hS => ?_)
        refine lv_if_ne (tgt := 26) hx hb dX7_withoutCauses_17 (by decide) (fun c_3 => ?_) (fun c_3 => ?_)
        · have h := (if_neg c_3).symm.trans h
          exact J_26 (f_X7_withoutCauses_4 F v_t_causeBits v_t_size n) ih x1 x2 _ h _ _ _ hP hD hS (lv_sub hl [0, 1, 2] rfl)
        · have h := (if_pos c_3).symm.trans h
          refine lv_iload_n hx hb dX7_withoutCauses_20 rfl (lv_at hl 1 rfl) ?_
          refine lv_iconst (v := 1) hx hb dX7_withoutCauses_21 (by decide) ?_
          refine lv_iload_n hx hb dX7_withoutCauses_22 rfl (lv_at hl 2 rfl) ?_
          refine lv_ishl hx hb dX7_withoutCauses_23 ?_
          refine lv_ior hx hb dX7_withoutCauses_24 ?_
          refine lv_istore_n (lv' := [(1, .int (x1 ||| (1 <<< (x2 &&& 31)))), (0, .ref a_t), (2, .int x2)]) hx hb dX7_withoutCauses_25 rfl hl (by decide) rfl (fun ls hl => ?_)
          exact J_26 (f_X7_withoutCauses_4 F v_t_causeBits v_t_size n) ih (x1 ||| (1 <<< (x2 &&& 31))) x2 _ h _ _ _ hP hD hS (lv_sub hl [1, 0, 2] rfl)
  unfold f_X7_withoutCauses at h
  refine lv_iconst (v := 0) hx hb dX7_withoutCauses_0 (by decide) ?_
  refine lv_istore_n (lv' := [(1, .int 0), (0, .ref a_t)]) hx hb dX7_withoutCauses_1 rfl hl (by decide) rfl (fun ls hl => ?_)
  refine lv_iconst (v := 0) hx hb dX7_withoutCauses_2 (by decide) ?_
  refine lv_istore_n (lv' := [(2, .int 0), (1, .int 0), (0, .ref a_t)]) hx hb dX7_withoutCauses_3 rfl hl (by decide) rfl (fun ls hl => ?_)
  exact J_4 F 0 0 _ h _ _ _ hP hD hS (lv_sub hl [2, 1, 0] rfl)
set_option maxHeartbeats 4000000 in
set_option maxRecDepth 100000 in
theorem c_J6_numberOfTrailingZeros_0f7a4 (l : Launch) (D : va_G) (cA : ClassId) (sa sv : Nat → Nat) (sz : Nat) (p0 : Int32) (res : Int32) (h : f_J6_numberOfTrailingZeros_0f7a4  p0 = some res) : Met l yJ6_numberOfTrailingZeros_0f7a4 wsJ6_numberOfTrailingZeros_0f7a4 { frames := 0, cells := 0, slots := 0, locals := 0 } (xk_Pc D cA sa sv ([] : va_W) sz [.int p0]) (xk_Q D (va_A ([] : va_W) sz) (some (.int res)) ([] : va_W)) 0 0 (va_A ([] : va_W) sz) := by
  refine xk_met (fun res : Int32 => some (.int res)) (fun res : Int32 => ([] : va_W)) res (cc := cJ6_numberOfTrailingZeros_0f7a4) (maxL := 2) (ret := (some .int)) (by decide) rfl (Nat.le_of_ble_eq_true rfl) ?_
  intro p e s m args below meth c A Q ls hQ hx hb hr hlk hml hown hts hK hP hD hS hA hl
  have S : CallFix p m c cJ6_numberOfTrailingZeros_0f7a4 2 s args wsJ6_numberOfTrailingZeros_0f7a4 RJ6 := ⟨hx, hb, hml, hown, hts⟩
  have hl : lv_has ls 2 [(0, .int p0)] := hl
  have k_0 := hts (.constant RJ6 264 (65536)) (List.mem_of_getElem? (i := 1) (by decide +kernel))
  have J_74 : ∀ (x0 : Int32) (x1 : Int32) (res : Int32), f_J6_numberOfTrailingZeros_0f7a4_74 x0 x1 = some res → ∀ (H : Heap) (locs : List Loc) (ls : Array Slot), va_P D vwCl ([] : va_W) H → va_D A ([] : va_W) → va_S A s.heap H locs → lv_has ls 2 [(0, .int x0), (1, .int x1)] → W p l e { frames := 0, cells := 0, slots := 0, locals := 0 } s m args below meth c H locs 0 0 (Q res) (F0 m 74 ls []) := by
    intro x0 x1 res h H locs ls hP hD hS hl
    unfold f_J6_numberOfTrailingZeros_0f7a4_74 at h
    refine lv_iload_n hx hb dJ6_numberOfTrailingZeros_0f7a4_74 rfl (lv_at hl 1 rfl) ?_
    refine lv_iload_n hx hb dJ6_numberOfTrailingZeros_0f7a4_75 rfl (lv_at hl 0 rfl) ?_
    refine lv_iconst (v := 1) hx hb dJ6_numberOfTrailingZeros_0f7a4_76 (by decide) ?_
    refine lv_iushr (v := (Int32.toUInt32 x0 >>> (Int32.toUInt32 1 &&& Int32.toUInt32 31)).toInt32) hx hb dJ6_numberOfTrailingZeros_0f7a4_77 rfl ?_
    refine lv_iadd hx hb dJ6_numberOfTrailingZeros_0f7a4_78 ?_
    obtain rfl := Option.some.inj h
    exact xk_iret hx hb hr hlk hP hD hS (hQ _) dJ6_numberOfTrailingZeros_0f7a4_79
  have J_62 : ∀ (x0 : Int32) (x1 : Int32) (res : Int32), f_J6_numberOfTrailingZeros_0f7a4_62 x0 x1 = some res → ∀ (H : Heap) (locs : List Loc) (ls : Array Slot), va_P D vwCl ([] : va_W) H → va_D A ([] : va_W) → va_S A s.heap H locs → lv_has ls 2 [(0, .int x0), (1, .int x1)] → W p l e { frames := 0, cells := 0, slots := 0, locals := 0 } s m args below meth c H locs 0 0 (Q res) (F0 m 62 ls []) := by
    intro x0 x1 res h H locs ls hP hD hS hl
    unfold f_J6_numberOfTrailingZeros_0f7a4_62 at h
    refine lv_iload_n hx hb dJ6_numberOfTrailingZeros_0f7a4_62 rfl (lv_at hl 0 rfl) ?_
    refine lv_iconst (v := 4) hx hb dJ6_numberOfTrailingZeros_0f7a4_63 (by decide) ?_
    refine lv_icmp_le (tgt := 74) hx hb dJ6_numberOfTrailingZeros_0f7a4_64 (by decide) (fun c_5 => ?_) (fun c_5 => ?_)
    · have h := (if_pos c_5).symm.trans h
      exact J_74 x0 x1 _ h _ _ _ hP hD hS (lv_sub hl [0, 1] rfl)
    · have h := (if_neg c_5).symm.trans h
      refine lv_iinc (v := (x1 + 2)) (lv' := [(1, .int (x1 + 2)), (0, .int x0)]) hx hb dJ6_numberOfTrailingZeros_0f7a4_67 hl (k := 1) rfl rfl (by decide) rfl (fun ls hl => ?_)
      refine lv_iload_n hx hb dJ6_numberOfTrailingZeros_0f7a4_70 rfl (lv_at hl 1 rfl) ?_
      refine lv_iconst (v := 2) hx hb dJ6_numberOfTrailingZeros_0f7a4_71 (by decide) ?_
      refine lv_iushr (v := (Int32.toUInt32 x0 >>> (Int32.toUInt32 2 &&& Int32.toUInt32 31)).toInt32) hx hb dJ6_numberOfTrailingZeros_0f7a4_72 rfl ?_
      refine lv_istore_n (lv' := [(0, .int ((Int32.toUInt32 x0 >>> (Int32.toUInt32 2 &&& Int32.toUInt32 31)).toInt32)), (1, .int (x1 + 2))]) hx hb dJ6_numberOfTrailingZeros_0f7a4_73 rfl hl (by decide) rfl (fun ls hl => ?_)
      exact J_74 ((Int32.toUInt32 x0 >>> (Int32.toUInt32 2 &&& Int32.toUInt32 31)).toInt32) (x1 + 2) _ h _ _ _ hP hD hS (lv_sub hl [0, 1] rfl)
  have J_49 : ∀ (x0 : Int32) (x1 : Int32) (res : Int32), f_J6_numberOfTrailingZeros_0f7a4_49 x0 x1 = some res → ∀ (H : Heap) (locs : List Loc) (ls : Array Slot), va_P D vwCl ([] : va_W) H → va_D A ([] : va_W) → va_S A s.heap H locs → lv_has ls 2 [(0, .int x0), (1, .int x1)] → W p l e { frames := 0, cells := 0, slots := 0, locals := 0 } s m args below meth c H locs 0 0 (Q res) (F0 m 49 ls []) := by
    intro x0 x1 res h H locs ls hP hD hS hl
    unfold f_J6_numberOfTrailingZeros_0f7a4_49 at h
    refine lv_iload_n hx hb dJ6_numberOfTrailingZeros_0f7a4_49 rfl (lv_at hl 0 rfl) ?_
    refine lv_bipush (v := 16) hx hb dJ6_numberOfTrailingZeros_0f7a4_50 (by decide) ?_
    refine lv_icmp_le (tgt := 62) hx hb dJ6_numberOfTrailingZeros_0f7a4_52 (by decide) (fun c_4 => ?_) (fun c_4 => ?_)
    · have h := (if_pos c_4).symm.trans h
      exact J_62 x0 x1 _ h _ _ _ hP hD hS (lv_sub hl [0, 1] rfl)
    · have h := (if_neg c_4).symm.trans h
      refine lv_iinc (v := (x1 + 4)) (lv' := [(1, .int (x1 + 4)), (0, .int x0)]) hx hb dJ6_numberOfTrailingZeros_0f7a4_55 hl (k := 1) rfl rfl (by decide) rfl (fun ls hl => ?_)
      refine lv_iload_n hx hb dJ6_numberOfTrailingZeros_0f7a4_58 rfl (lv_at hl 1 rfl) ?_
      refine lv_iconst (v := 4) hx hb dJ6_numberOfTrailingZeros_0f7a4_59 (by decide) ?_
      refine lv_iushr (v := (Int32.toUInt32 x0 >>> (Int32.toUInt32 4 &&& Int32.toUInt32 31)).toInt32) hx hb dJ6_numberOfTrailingZeros_0f7a4_60 rfl ?_
      refine lv_istore_n (lv' := [(0, .int ((Int32.toUInt32 x0 >>> (Int32.toUInt32 4 &&& Int32.toUInt32 31)).toInt32)), (1, .int (x1 + 4))]) hx hb dJ6_numberOfTrailingZeros_0f7a4_61 rfl hl (by decide) rfl (fun ls hl => ?_)
      exact J_62 ((Int32.toUInt32 x0 >>> (Int32.toUInt32 4 &&& Int32.toUInt32 31)).toInt32) (x1 + 4) _ h _ _ _ hP hD hS (lv_sub hl [0, 1] rfl)
  have J_34 : ∀ (x0 : Int32) (x1 : Int32) (res : Int32), f_J6_numberOfTrailingZeros_0f7a4_34 x0 x1 = some res → ∀ (H : Heap) (locs : List Loc) (ls : Array Slot), va_P D vwCl ([] : va_W) H → va_D A ([] : va_W) → va_S A s.heap H locs → lv_has ls 2 [(0, .int x0), (1, .int x1)] → W p l e { frames := 0, cells := 0, slots := 0, locals := 0 } s m args below meth c H locs 0 0 (Q res) (F0 m 34 ls []) := by
    intro x0 x1 res h H locs ls hP hD hS hl
    unfold f_J6_numberOfTrailingZeros_0f7a4_34 at h
    refine lv_iload_n hx hb dJ6_numberOfTrailingZeros_0f7a4_34 rfl (lv_at hl 0 rfl) ?_
    refine lv_sipush (v := 256) hx hb dJ6_numberOfTrailingZeros_0f7a4_35 (by decide) ?_
    refine lv_icmp_le (tgt := 49) hx hb dJ6_numberOfTrailingZeros_0f7a4_38 (by decide) (fun c_3 => ?_) (fun c_3 => ?_)
    · have h := (if_pos c_3).symm.trans h
      exact J_49 x0 x1 _ h _ _ _ hP hD hS (lv_sub hl [0, 1] rfl)
    · have h := (if_neg c_3).symm.trans h
      refine lv_iinc (v := (x1 + 8)) (lv' := [(1, .int (x1 + 8)), (0, .int x0)]) hx hb dJ6_numberOfTrailingZeros_0f7a4_41 hl (k := 1) rfl rfl (by decide) rfl (fun ls hl => ?_)
      refine lv_iload_n hx hb dJ6_numberOfTrailingZeros_0f7a4_44 rfl (lv_at hl 1 rfl) ?_
      refine lv_bipush (v := 8) hx hb dJ6_numberOfTrailingZeros_0f7a4_45 (by decide) ?_
      refine lv_iushr (v := (Int32.toUInt32 x0 >>> (Int32.toUInt32 8 &&& Int32.toUInt32 31)).toInt32) hx hb dJ6_numberOfTrailingZeros_0f7a4_47 rfl ?_
      refine lv_istore_n (lv' := [(0, .int ((Int32.toUInt32 x0 >>> (Int32.toUInt32 8 &&& Int32.toUInt32 31)).toInt32)), (1, .int (x1 + 8))]) hx hb dJ6_numberOfTrailingZeros_0f7a4_48 rfl hl (by decide) rfl (fun ls hl => ?_)
      exact J_49 ((Int32.toUInt32 x0 >>> (Int32.toUInt32 8 &&& Int32.toUInt32 31)).toInt32) (x1 + 8) _ h _ _ _ hP hD hS (lv_sub hl [0, 1] rfl)
  unfold f_J6_numberOfTrailingZeros_0f7a4 at h
  refine lv_iload_n hx hb dJ6_numberOfTrailingZeros_0f7a4_0 rfl (lv_at hl 0 rfl) ?_
  refine lv_iconst (v := (-1)) hx hb dJ6_numberOfTrailingZeros_0f7a4_1 (by decide) ?_
  refine lv_ixor hx hb dJ6_numberOfTrailingZeros_0f7a4_2 ?_
  refine lv_iload_n hx hb dJ6_numberOfTrailingZeros_0f7a4_3 rfl (lv_at hl 0 rfl) ?_
  refine lv_iconst (v := 1) hx hb dJ6_numberOfTrailingZeros_0f7a4_4 (by decide) ?_
  refine lv_isub hx hb dJ6_numberOfTrailingZeros_0f7a4_5 ?_
  refine lv_iand hx hb dJ6_numberOfTrailingZeros_0f7a4_6 ?_
  refine lv_istore_n (lv' := [(0, .int ((p0 ^^^ (-1)) &&& (p0 - 1)))]) hx hb dJ6_numberOfTrailingZeros_0f7a4_7 rfl hl (by decide) rfl (fun ls hl => ?_)
  refine lv_iload_n hx hb dJ6_numberOfTrailingZeros_0f7a4_8 rfl (lv_at hl 0 rfl) ?_
  refine lv_if_gt (tgt := 17) hx hb dJ6_numberOfTrailingZeros_0f7a4_9 (by decide) (fun c_1 => ?_) (fun c_1 => ?_)
  · have h := (if_pos c_1).symm.trans h
    refine lv_iconst (v := 1) hx hb dJ6_numberOfTrailingZeros_0f7a4_17 (by decide) ?_
    refine lv_istore_n (lv' := [(1, .int 1), (0, .int ((p0 ^^^ (-1)) &&& (p0 - 1)))]) hx hb dJ6_numberOfTrailingZeros_0f7a4_18 rfl hl (by decide) rfl (fun ls hl => ?_)
    refine lv_iload_n hx hb dJ6_numberOfTrailingZeros_0f7a4_19 rfl (lv_at hl 1 rfl) ?_
    refine lv_ldcw (v := 65536) hx hb hown k_0 dJ6_numberOfTrailingZeros_0f7a4_20 ?_
    refine lv_icmp_le (tgt := 34) hx hb dJ6_numberOfTrailingZeros_0f7a4_23 (by decide) (fun c_2 => ?_) (fun c_2 => ?_)
    · have h := (if_pos c_2).symm.trans h
      exact J_34 ((p0 ^^^ (-1)) &&& (p0 - 1)) 1 _ h _ _ _ hP hD hS (lv_sub hl [1, 0] rfl)
    · have h := (if_neg c_2).symm.trans h
      refine lv_iinc (v := (1 + 16)) (lv' := [(1, .int (1 + 16)), (0, .int ((p0 ^^^ (-1)) &&& (p0 - 1)))]) hx hb dJ6_numberOfTrailingZeros_0f7a4_26 hl (k := 0) rfl rfl (by decide) rfl (fun ls hl => ?_)
      refine lv_iload_n hx hb dJ6_numberOfTrailingZeros_0f7a4_29 rfl (lv_at hl 1 rfl) ?_
      refine lv_bipush (v := 16) hx hb dJ6_numberOfTrailingZeros_0f7a4_30 (by decide) ?_
      refine lv_iushr (v := (Int32.toUInt32 ((p0 ^^^ (-1)) &&& (p0 - 1)) >>> (Int32.toUInt32 16 &&& Int32.toUInt32 31)).toInt32) hx hb dJ6_numberOfTrailingZeros_0f7a4_32 rfl ?_
      refine lv_istore_n (lv' := [(0, .int ((Int32.toUInt32 ((p0 ^^^ (-1)) &&& (p0 - 1)) >>> (Int32.toUInt32 16 &&& Int32.toUInt32 31)).toInt32)), (1, .int (1 + 16))]) hx hb dJ6_numberOfTrailingZeros_0f7a4_33 rfl hl (by decide) rfl (fun ls hl => ?_)
      exact J_34 ((Int32.toUInt32 ((p0 ^^^ (-1)) &&& (p0 - 1)) >>> (Int32.toUInt32 16 &&& Int32.toUInt32 31)).toInt32) (1 + 16) _ h _ _ _ hP hD hS (lv_sub hl [0, 1] rfl)
  · have h := (if_neg c_1).symm.trans h
    refine lv_iload_n hx hb dJ6_numberOfTrailingZeros_0f7a4_12 rfl (lv_at hl 0 rfl) ?_
    refine lv_bipush (v := 32) hx hb dJ6_numberOfTrailingZeros_0f7a4_13 (by decide) ?_
    refine lv_iand hx hb dJ6_numberOfTrailingZeros_0f7a4_15 ?_
    obtain rfl := Option.some.inj h
    exact xk_iret hx hb hr hlk hP hD hS (hQ _) dJ6_numberOfTrailingZeros_0f7a4_16
set_option maxHeartbeats 4000000 in
set_option maxRecDepth 100000 in
theorem c_X7_isLost (l : Launch) (D : va_G) (cA : ClassId) (sa sv : Nat → Nat) (a_t a_t_kinds a_t_figures a_t_causeBits : Nat) (sz : Nat) (v_t_kinds : Nat → Int32) (v_t_figures : Nat → Int32) (v_t_causeBits : Nat → Int32) (v_t_size : Int32) (v_t_lost : Int32) (v_t_guarded : Int32) (v_t_day : Int32) (p1 : Int32) (res : Int32) (h : f_X7_isLost v_t_size v_t_lost p1 = some res) : Met l yX7_isLost wsX7_isLost { frames := 1, cells := 0, slots := 0, locals := 21 } (xk_Pc D cA sa sv (wX7 cA a_t a_t_kinds a_t_figures a_t_causeBits v_t_kinds v_t_figures v_t_causeBits v_t_size v_t_lost v_t_guarded v_t_day) sz [.ref a_t, .int p1]) (xk_Q D (va_A (wX7 cA a_t a_t_kinds a_t_figures a_t_causeBits v_t_kinds v_t_figures v_t_causeBits v_t_size v_t_lost v_t_guarded v_t_day) sz) (some (.int res)) (wX7 cA a_t a_t_kinds a_t_figures a_t_causeBits v_t_kinds v_t_figures v_t_causeBits v_t_size v_t_lost v_t_guarded v_t_day)) 0 0 (va_A (wX7 cA a_t a_t_kinds a_t_figures a_t_causeBits v_t_kinds v_t_figures v_t_causeBits v_t_size v_t_lost v_t_guarded v_t_day) sz) := by
  refine xk_met (fun res : Int32 => some (.int res)) (fun res : Int32 => (wX7 cA a_t a_t_kinds a_t_figures a_t_causeBits v_t_kinds v_t_figures v_t_causeBits v_t_size v_t_lost v_t_guarded v_t_day)) res (cc := cX7_isLost) (maxL := 2) (ret := (some .boolean)) (by decide) rfl (Nat.le_of_ble_eq_true rfl) ?_
  intro p e s m args below meth c A Q ls hQ hx hb hr hlk hml hown hts hK hP hD hS hA hl
  have S : CallFix p m c cX7_isLost 2 s args wsX7_isLost RX7 := ⟨hx, hb, hml, hown, hts⟩
  have hl : lv_has ls 2 [(0, .ref a_t), (1, .int p1)] := hl
  have hinX7 : ∀ w ∈ u_ws RX7 TX7 7, w ∈ wsX7_isLost := fun _ h => List.mem_cons_of_mem _ (List.mem_append_right _ (h))
  have k_0 := hts (.fieldLink RX7 25 "NailsWantTheKingdom$Realm" "lost" "I") (List.mem_of_getElem? (i := 1) (by decide +kernel))
  unfold f_X7_isLost at h
  refine lv_aload_n hx hb dX7_isLost_0 rfl (lv_at hl 0 rfl) ?_
  refine lv_iload_n hx hb dX7_isLost_1 rfl (lv_at hl 1 rfl) ?_
  obtain ⟨x_1, hc_1, h⟩ := bd_some h
  refine xk_V (rest := []) (As := [.int p1]) (stk := [.int x_1]) (wn := (wX7 cA a_t a_t_kinds a_t_figures a_t_causeBits v_t_kinds v_t_figures v_t_causeBits v_t_size v_t_lost v_t_guarded v_t_day)) (v := (some (.int x_1))) (wr := []) gX7_isLost_X7_has rfl hdV_X7_has rfl rfl (c_X7_has l D cA sa sv a_t a_t_kinds a_t_figures a_t_causeBits _ v_t_kinds v_t_figures v_t_causeBits v_t_size v_t_lost v_t_guarded v_t_day p1 x_1 hc_1) (ci := 2) rfl (q0 := 0) rfl S hK hP hD hS hA [0, 1, 2, 3] [] [0, 1, 2, 3] rfl rfl rfl rfl rfl rfl rfl ⟨Nat.le_of_ble_eq_true rfl, Nat.le_of_ble_eq_true rfl⟩ ⟨Nat.le_refl 0, Nat.le_refl 0⟩ rfl hl.1 rfl (Nat.le_of_ble_eq_true rfl) rfl dX7_isLost_2 (fun H locs hP hD hS => ?_)
  refine lv_if_eq (tgt := 23) hx hb dX7_isLost_5 (by decide) (fun c_2 => ?_) (fun c_2 => ?_)
  · have h := (if_pos c_2).symm.trans h
    refine lv_iconst (v := 0) hx hb dX7_isLost_23 (by decide) ?_
    obtain rfl := Option.some.inj h
    exact xk_zret rfl hx hb hr hlk hP hD hS (hQ _) dX7_isLost_24
  · have h := (if_neg c_2).symm.trans h
    refine lv_aload_n hx hb dX7_isLost_8 rfl (lv_at hl 0 rfl) ?_
    refine va_get (ci := 2) (v := .int v_t_lost) (C := RX7) (T := TX7) (N := 7) hx hb hts hinX7 hown hK.1 hP 0 rfl rfl 4 (by decide) k_0 (fun _ h9 => h9) rfl dX7_isLost_9 ?_
    refine lv_iconst (v := 1) hx hb dX7_isLost_12 (by decide) ?_
    refine lv_iload_n hx hb dX7_isLost_13 rfl (lv_at hl 1 rfl) ?_
    refine lv_ishl hx hb dX7_isLost_14 ?_
    refine lv_iand hx hb dX7_isLost_15 ?_
    refine lv_if_eq (tgt := 23) hx hb dX7_isLost_16 (by decide) (fun c_3 => ?_) (fun c_3 => ?_)
    · have h := (if_pos c_3).symm.trans h
      refine lv_iconst (v := 0) hx hb dX7_isLost_23 (by decide) ?_
      obtain rfl := Option.some.inj h
      exact xk_zret rfl hx hb hr hlk hP hD hS (hQ _) dX7_isLost_24
    · have h := (if_neg c_3).symm.trans h
      refine lv_iconst (v := 1) hx hb dX7_isLost_19 (by decide) ?_
      refine lv_goto (tgt := 24) hx hb dX7_isLost_20 (by decide) ?_
      obtain rfl := Option.some.inj h
      exact xk_zret rfl hx hb hr hlk hP hD hS (hQ _) dX7_isLost_24
set_option maxHeartbeats 4000000 in
set_option maxRecDepth 100000 in
theorem c_X7_all (l : Launch) (D : va_G) (cA : ClassId) (sa sv : Nat → Nat) (a_t a_t_kinds a_t_figures a_t_causeBits : Nat) (sz : Nat) (v_t_kinds : Nat → Int32) (v_t_figures : Nat → Int32) (v_t_causeBits : Nat → Int32) (v_t_size : Int32) (v_t_lost : Int32) (v_t_guarded : Int32) (v_t_day : Int32) (res : Int32) (h : f_X7_all v_t_size  = some res) : Met l yX7_all wsX7_all { frames := 0, cells := 0, slots := 0, locals := 0 } (xk_Pc D cA sa sv (wX7 cA a_t a_t_kinds a_t_figures a_t_causeBits v_t_kinds v_t_figures v_t_causeBits v_t_size v_t_lost v_t_guarded v_t_day) sz [.ref a_t]) (xk_Q D (va_A (wX7 cA a_t a_t_kinds a_t_figures a_t_causeBits v_t_kinds v_t_figures v_t_causeBits v_t_size v_t_lost v_t_guarded v_t_day) sz) (some (.int res)) (wX7 cA a_t a_t_kinds a_t_figures a_t_causeBits v_t_kinds v_t_figures v_t_causeBits v_t_size v_t_lost v_t_guarded v_t_day)) 0 0 (va_A (wX7 cA a_t a_t_kinds a_t_figures a_t_causeBits v_t_kinds v_t_figures v_t_causeBits v_t_size v_t_lost v_t_guarded v_t_day) sz) := by
  refine xk_met (fun res : Int32 => some (.int res)) (fun res : Int32 => (wX7 cA a_t a_t_kinds a_t_figures a_t_causeBits v_t_kinds v_t_figures v_t_causeBits v_t_size v_t_lost v_t_guarded v_t_day)) res (cc := cX7_all) (maxL := 1) (ret := (some .int)) (by decide) rfl (Nat.le_of_ble_eq_true rfl) ?_
  intro p e s m args below meth c A Q ls hQ hx hb hr hlk hml hown hts hK hP hD hS hA hl
  have S : CallFix p m c cX7_all 1 s args wsX7_all RX7 := ⟨hx, hb, hml, hown, hts⟩
  have hl : lv_has ls 1 [(0, .ref a_t)] := hl
  have hinX7 : ∀ w ∈ u_ws RX7 TX7 7, w ∈ wsX7_all := fun _ h => List.mem_cons_of_mem _ (List.mem_append_right _ (h))
  have k_0 := hts (.fieldLink RX7 21 "NailsWantTheKingdom$Realm" "size" "I") (List.mem_of_getElem? (i := 1) (by decide +kernel))
  unfold f_X7_all at h
  refine lv_iconst (v := 1) hx hb dX7_all_0 (by decide) ?_
  refine lv_aload_n hx hb dX7_all_1 rfl (lv_at hl 0 rfl) ?_
  refine va_get (ci := 2) (v := .int v_t_size) (C := RX7) (T := TX7) (N := 7) hx hb hts hinX7 hown hK.1 hP 0 rfl rfl 3 (by decide) k_0 (fun _ h9 => h9) rfl dX7_all_2 ?_
  refine lv_ishl hx hb dX7_all_5 ?_
  refine lv_iconst (v := 1) hx hb dX7_all_6 (by decide) ?_
  refine lv_isub hx hb dX7_all_7 ?_
  obtain rfl := Option.some.inj h
  exact xk_iret hx hb hr hlk hP hD hS (hQ _) dX7_all_8
set_option maxHeartbeats 4000000 in
set_option maxRecDepth 100000 in
theorem c_X7_open (l : Launch) (D : va_G) (cA : ClassId) (sa sv : Nat → Nat) (a_t a_t_kinds a_t_figures a_t_causeBits : Nat) (sz : Nat) (v_t_kinds : Nat → Int32) (v_t_figures : Nat → Int32) (v_t_causeBits : Nat → Int32) (v_t_size : Int32) (v_t_lost : Int32) (v_t_guarded : Int32) (v_t_day : Int32) (res : Int32) (h : f_X7_open v_t_size v_t_lost v_t_guarded  = some res) : Met l yX7_open wsX7_open { frames := 1, cells := 0, slots := 0, locals := 20 } (xk_Pc D cA sa sv (wX7 cA a_t a_t_kinds a_t_figures a_t_causeBits v_t_kinds v_t_figures v_t_causeBits v_t_size v_t_lost v_t_guarded v_t_day) sz [.ref a_t]) (xk_Q D (va_A (wX7 cA a_t a_t_kinds a_t_figures a_t_causeBits v_t_kinds v_t_figures v_t_causeBits v_t_size v_t_lost v_t_guarded v_t_day) sz) (some (.int res)) (wX7 cA a_t a_t_kinds a_t_figures a_t_causeBits v_t_kinds v_t_figures v_t_causeBits v_t_size v_t_lost v_t_guarded v_t_day)) 0 0 (va_A (wX7 cA a_t a_t_kinds a_t_figures a_t_causeBits v_t_kinds v_t_figures v_t_causeBits v_t_size v_t_lost v_t_guarded v_t_day) sz) := by
  refine xk_met (fun res : Int32 => some (.int res)) (fun res : Int32 => (wX7 cA a_t a_t_kinds a_t_figures a_t_causeBits v_t_kinds v_t_figures v_t_causeBits v_t_size v_t_lost v_t_guarded v_t_day)) res (cc := cX7_open) (maxL := 1) (ret := (some .int)) (by decide) rfl (Nat.le_of_ble_eq_true rfl) ?_
  intro p e s m args below meth c A Q ls hQ hx hb hr hlk hml hown hts hK hP hD hS hA hl
  have S : CallFix p m c cX7_open 1 s args wsX7_open RX7 := ⟨hx, hb, hml, hown, hts⟩
  have hl : lv_has ls 1 [(0, .ref a_t)] := hl
  have hinX7 : ∀ w ∈ u_ws RX7 TX7 7, w ∈ wsX7_open := fun _ h => List.mem_cons_of_mem _ (List.mem_append_right _ (h))
  have k_0 := hts (.fieldLink RX7 25 "NailsWantTheKingdom$Realm" "lost" "I") (List.mem_of_getElem? (i := 1) (by decide +kernel))
  have k_1 := hts (.fieldLink RX7 28 "NailsWantTheKingdom$Realm" "guarded" "I") (List.mem_of_getElem? (i := 2) (by decide +kernel))
  unfold f_X7_open at h
  refine lv_aload_n hx hb dX7_open_0 rfl (lv_at hl 0 rfl) ?_
  obtain ⟨x_1, hc_1, h⟩ := bd_some h
  refine xk_V (rest := []) (As := []) (stk := [.int x_1]) (wn := (wX7 cA a_t a_t_kinds a_t_figures a_t_causeBits v_t_kinds v_t_figures v_t_causeBits v_t_size v_t_lost v_t_guarded v_t_day)) (v := (some (.int x_1))) (wr := []) gX7_open_X7_all rfl hdV_X7_all rfl rfl (c_X7_all l D cA sa sv a_t a_t_kinds a_t_figures a_t_causeBits _ v_t_kinds v_t_figures v_t_causeBits v_t_size v_t_lost v_t_guarded v_t_day x_1 hc_1) (ci := 2) rfl (q0 := 0) rfl S hK hP hD hS hA [0, 1, 2, 3] [] [0, 1, 2, 3] rfl rfl rfl rfl rfl rfl rfl ⟨Nat.le_of_ble_eq_true rfl, Nat.le_of_ble_eq_true rfl⟩ ⟨Nat.le_refl 0, Nat.le_refl 0⟩ rfl hl.1 rfl (Nat.le_of_ble_eq_true rfl) rfl dX7_open_1 (fun H locs hP hD hS => ?_)
  refine lv_aload_n hx hb dX7_open_4 rfl (lv_at hl 0 rfl) ?_
  refine va_get (ci := 2) (v := .int v_t_lost) (C := RX7) (T := TX7) (N := 7) hx hb hts hinX7 hown hK.1 hP 0 rfl rfl 4 (by decide) k_0 (fun _ h9 => h9) rfl dX7_open_5 ?_
  refine lv_iconst (v := (-1)) hx hb dX7_open_8 (by decide) ?_
  refine lv_ixor hx hb dX7_open_9 ?_
  refine lv_iand hx hb dX7_open_10 ?_
  refine lv_aload_n hx hb dX7_open_11 rfl (lv_at hl 0 rfl) ?_
  refine va_get (ci := 2) (v := .int v_t_guarded) (C := RX7) (T := TX7) (N := 7) hx hb hts hinX7 hown hK.1 hP 0 rfl rfl 5 (by decide) k_1 (fun _ h9 => h9) rfl dX7_open_12 ?_
  refine lv_iconst (v := (-1)) hx hb dX7_open_15 (by decide) ?_
  refine lv_ixor hx hb dX7_open_16 ?_
  refine lv_iand hx hb dX7_open_17 ?_
  obtain rfl := Option.some.inj h
  exact xk_iret hx hb hr hlk hP hD hS (hQ _) dX7_open_18
set_option maxHeartbeats 4000000 in
set_option maxRecDepth 100000 in
theorem c_X7_openNails (l : Launch) (D : va_G) (cA : ClassId) (sa sv : Nat → Nat) (a_t a_t_kinds a_t_figures a_t_causeBits : Nat) (sz : Nat) (v_t_kinds : Nat → Int32) (v_t_figures : Nat → Int32) (v_t_causeBits : Nat → Int32) (v_t_size : Int32) (v_t_lost : Int32) (v_t_guarded : Int32) (v_t_day : Int32) (F : Nat) (res : Int32) (h : f_X7_openNails F v_t_causeBits v_t_size v_t_lost v_t_guarded  = some res) : Met l yX7_openNails wsX7_openNails { frames := 3, cells := 0, slots := 0, locals := 64 } (xk_Pc D cA sa sv (wX7 cA a_t a_t_kinds a_t_figures a_t_causeBits v_t_kinds v_t_figures v_t_causeBits v_t_size v_t_lost v_t_guarded v_t_day) sz [.ref a_t]) (xk_Q D (va_A (wX7 cA a_t a_t_kinds a_t_figures a_t_causeBits v_t_kinds v_t_figures v_t_causeBits v_t_size v_t_lost v_t_guarded v_t_day) sz) (some (.int res)) (wX7 cA a_t a_t_kinds a_t_figures a_t_causeBits v_t_kinds v_t_figures v_t_causeBits v_t_size v_t_lost v_t_guarded v_t_day)) 0 0 (va_A (wX7 cA a_t a_t_kinds a_t_figures a_t_causeBits v_t_kinds v_t_figures v_t_causeBits v_t_size v_t_lost v_t_guarded v_t_day) sz) := by
  refine xk_met (fun res : Int32 => some (.int res)) (fun res : Int32 => (wX7 cA a_t a_t_kinds a_t_figures a_t_causeBits v_t_kinds v_t_figures v_t_causeBits v_t_size v_t_lost v_t_guarded v_t_day)) res (cc := cX7_openNails) (maxL := 1) (ret := (some .int)) (by decide) rfl (Nat.le_of_ble_eq_true rfl) ?_
  intro p e s m args below meth c A Q ls hQ hx hb hr hlk hml hown hts hK hP hD hS hA hl
  have S : CallFix p m c cX7_openNails 1 s args wsX7_openNails RX7 := ⟨hx, hb, hml, hown, hts⟩
  have hl : lv_has ls 1 [(0, .ref a_t)] := hl
  unfold f_X7_openNails at h
  refine lv_aload_n hx hb dX7_openNails_0 rfl (lv_at hl 0 rfl) ?_
  obtain ⟨x_1, hc_1, h⟩ := bd_some h
  refine xk_V (rest := []) (As := []) (stk := [.int x_1]) (wn := (wX7 cA a_t a_t_kinds a_t_figures a_t_causeBits v_t_kinds v_t_figures v_t_causeBits v_t_size v_t_lost v_t_guarded v_t_day)) (v := (some (.int x_1))) (wr := []) gX7_openNails_X7_withoutCauses rfl hdV_X7_withoutCauses rfl rfl (c_X7_withoutCauses l D cA sa sv a_t a_t_kinds a_t_figures a_t_causeBits _ v_t_kinds v_t_figures v_t_causeBits v_t_size v_t_lost v_t_guarded v_t_day F x_1 hc_1) (ci := 2) rfl (q0 := 0) rfl S hK hP hD hS hA [0, 1, 2, 3] [] [0, 1, 2, 3] rfl rfl rfl rfl rfl rfl rfl ⟨Nat.le_of_ble_eq_true rfl, Nat.le_of_ble_eq_true rfl⟩ ⟨Nat.le_refl 0, Nat.le_refl 0⟩ rfl hl.1 rfl (Nat.le_of_ble_eq_true rfl) rfl dX7_openNails_1 (fun H locs hP hD hS => ?_)
  refine lv_aload_n hx hb dX7_openNails_4 rfl (lv_at hl 0 rfl) ?_
  obtain ⟨x_2, hc_2, h⟩ := bd_some h
  refine xk_V (rest := [.int x_1]) (As := []) (stk := [.int x_2, .int x_1]) (wn := (wX7 cA a_t a_t_kinds a_t_figures a_t_causeBits v_t_kinds v_t_figures v_t_causeBits v_t_size v_t_lost v_t_guarded v_t_day)) (v := (some (.int x_2))) (wr := []) gX7_openNails_X7_open rfl hdV_X7_open rfl rfl (c_X7_open l D cA sa sv a_t a_t_kinds a_t_figures a_t_causeBits _ v_t_kinds v_t_figures v_t_causeBits v_t_size v_t_lost v_t_guarded v_t_day x_2 hc_2) (ci := 2) rfl (q0 := 0) rfl S hK hP hD hS hA [0, 1, 2, 3] [] [0, 1, 2, 3] rfl rfl rfl rfl rfl rfl rfl ⟨Nat.le_of_ble_eq_true rfl, Nat.le_of_ble_eq_true rfl⟩ ⟨Nat.le_refl 0, Nat.le_refl 0⟩ rfl hl.1 rfl (Nat.le_of_ble_eq_true rfl) rfl dX7_openNails_5 (fun H locs hP hD hS => ?_)
  refine lv_iand hx hb dX7_openNails_8 ?_
  obtain rfl := Option.some.inj h
  exact xk_iret hx hb hr hlk hP hD hS (hQ _) dX7_openNails_9
set_option maxHeartbeats 4000000 in
set_option maxRecDepth 100000 in
theorem c_X7_becomes (l : Launch) (D : va_G) (cA : ClassId) (sa sv : Nat → Nat) (a_t a_t_kinds a_t_figures a_t_causeBits a_o1 a_o1_kinds a_o1_figures a_o1_causeBits : Nat) (sz : Nat) (v_t_kinds : Nat → Int32) (v_t_figures : Nat → Int32) (v_t_causeBits : Nat → Int32) (v_t_size : Int32) (v_t_lost : Int32) (v_t_guarded : Int32) (v_t_day : Int32) (v_o1_kinds : Nat → Int32) (v_o1_figures : Nat → Int32) (v_o1_causeBits : Nat → Int32) (v_o1_size : Int32) (v_o1_lost : Int32) (v_o1_guarded : Int32) (v_o1_day : Int32) (F : Nat) (res : (Nat → Int32) × (Nat → Int32) × (Nat → Int32) × Int32 × Int32 × Int32 × Int32) (h : f_X7_becomes F v_t_kinds v_t_figures v_t_causeBits v_t_size v_t_lost v_t_guarded v_t_day v_o1_kinds v_o1_figures v_o1_causeBits v_o1_size v_o1_lost v_o1_guarded v_o1_day  = some res) : Met l yX7_becomes wsX7_becomes { frames := 0, cells := 0, slots := 0, locals := 0 } (xk_Pc D cA sa sv (wX7 cA a_t a_t_kinds a_t_figures a_t_causeBits v_t_kinds v_t_figures v_t_causeBits v_t_size v_t_lost v_t_guarded v_t_day ++ wX7 cA a_o1 a_o1_kinds a_o1_figures a_o1_causeBits v_o1_kinds v_o1_figures v_o1_causeBits v_o1_size v_o1_lost v_o1_guarded v_o1_day) sz [.ref a_t, .ref a_o1]) (xk_Q D (va_A (wX7 cA a_t a_t_kinds a_t_figures a_t_causeBits v_t_kinds v_t_figures v_t_causeBits v_t_size v_t_lost v_t_guarded v_t_day ++ wX7 cA a_o1 a_o1_kinds a_o1_figures a_o1_causeBits v_o1_kinds v_o1_figures v_o1_causeBits v_o1_size v_o1_lost v_o1_guarded v_o1_day) sz) (none) (wX7 cA a_t a_t_kinds a_t_figures a_t_causeBits res.1 res.2.1 res.2.2.1 res.2.2.2.1 res.2.2.2.2.1 res.2.2.2.2.2.1 res.2.2.2.2.2.2 ++ wX7 cA a_o1 a_o1_kinds a_o1_figures a_o1_causeBits v_o1_kinds v_o1_figures v_o1_causeBits v_o1_size v_o1_lost v_o1_guarded v_o1_day)) 0 0 (va_A (wX7 cA a_t a_t_kinds a_t_figures a_t_causeBits v_t_kinds v_t_figures v_t_causeBits v_t_size v_t_lost v_t_guarded v_t_day ++ wX7 cA a_o1 a_o1_kinds a_o1_figures a_o1_causeBits v_o1_kinds v_o1_figures v_o1_causeBits v_o1_size v_o1_lost v_o1_guarded v_o1_day) sz) := by
  refine xk_met (fun res : (Nat → Int32) × (Nat → Int32) × (Nat → Int32) × Int32 × Int32 × Int32 × Int32 => none) (fun res : (Nat → Int32) × (Nat → Int32) × (Nat → Int32) × Int32 × Int32 × Int32 × Int32 => (wX7 cA a_t a_t_kinds a_t_figures a_t_causeBits res.1 res.2.1 res.2.2.1 res.2.2.2.1 res.2.2.2.2.1 res.2.2.2.2.2.1 res.2.2.2.2.2.2 ++ wX7 cA a_o1 a_o1_kinds a_o1_figures a_o1_causeBits v_o1_kinds v_o1_figures v_o1_causeBits v_o1_size v_o1_lost v_o1_guarded v_o1_day)) res (cc := cX7_becomes) (maxL := 3) (ret := none) (by decide) rfl (Nat.le_of_ble_eq_true rfl) ?_
  intro p e s m args below meth c A Q ls hQ hx hb hr hlk hml hown hts hK hP hD hS hA hl
  have S : CallFix p m c cX7_becomes 3 s args wsX7_becomes RX7 := ⟨hx, hb, hml, hown, hts⟩
  have hl : lv_has ls 3 [(0, .ref a_t), (1, .ref a_o1)] := hl
  have hinX7 : ∀ w ∈ u_ws RX7 TX7 7, w ∈ wsX7_becomes := fun _ h => List.mem_cons_of_mem _ (List.mem_append_right _ (h))
  have k_0 := hts (.fieldLink RX7 21 "NailsWantTheKingdom$Realm" "size" "I") (List.mem_of_getElem? (i := 4) (by decide +kernel))
  have k_1 := hts (.fieldLink RX7 25 "NailsWantTheKingdom$Realm" "lost" "I") (List.mem_of_getElem? (i := 5) (by decide +kernel))
  have k_2 := hts (.fieldLink RX7 28 "NailsWantTheKingdom$Realm" "guarded" "I") (List.mem_of_getElem? (i := 6) (by decide +kernel))
  have k_3 := hts (.fieldLink RX7 31 "NailsWantTheKingdom$Realm" "day" "I") (List.mem_of_getElem? (i := 7) (by decide +kernel))
  have k_4 := hts (.fieldLink RX7 11 "NailsWantTheKingdom$Realm" "kinds" "[I") (List.mem_of_getElem? (i := 1) (by decide +kernel))
  have k_5 := hts (.fieldLink RX7 15 "NailsWantTheKingdom$Realm" "figures" "[I") (List.mem_of_getElem? (i := 2) (by decide +kernel))
  have k_6 := hts (.fieldLink RX7 18 "NailsWantTheKingdom$Realm" "causeBits" "[I") (List.mem_of_getElem? (i := 3) (by decide +kernel))
  have J_2 : ∀ (n : Nat) (x2 : Int32) (v_t_kinds : Nat → Int32) (v_t_figures : Nat → Int32) (v_t_causeBits : Nat → Int32) (v_t_size : Int32) (v_t_lost : Int32) (v_t_guarded : Int32) (v_t_day : Int32) (res : (Nat → Int32) × (Nat → Int32) × (Nat → Int32) × Int32 × Int32 × Int32 × Int32), f_X7_becomes_2 F v_o1_kinds v_o1_figures v_o1_causeBits v_o1_size v_o1_lost v_o1_guarded v_o1_day n x2 v_t_kinds v_t_figures v_t_causeBits v_t_size v_t_lost v_t_guarded v_t_day = some res → ∀ (H : Heap) (locs : List Loc) (ls : Array Slot), va_P D vwCl (wX7 cA a_t a_t_kinds a_t_figures a_t_causeBits v_t_kinds v_t_figures v_t_causeBits v_t_size v_t_lost v_t_guarded v_t_day ++ wX7 cA a_o1 a_o1_kinds a_o1_figures a_o1_causeBits v_o1_kinds v_o1_figures v_o1_causeBits v_o1_size v_o1_lost v_o1_guarded v_o1_day) H → va_D A (wX7 cA a_t a_t_kinds a_t_figures a_t_causeBits v_t_kinds v_t_figures v_t_causeBits v_t_size v_t_lost v_t_guarded v_t_day ++ wX7 cA a_o1 a_o1_kinds a_o1_figures a_o1_causeBits v_o1_kinds v_o1_figures v_o1_causeBits v_o1_size v_o1_lost v_o1_guarded v_o1_day) → va_S A s.heap H locs → lv_has ls 3 [(0, .ref a_t), (1, .ref a_o1), (2, .int x2)] → W p l e { frames := 0, cells := 0, slots := 0, locals := 0 } s m args below meth c H locs 0 0 (Q res) (F0 m 2 ls []) := by
    intro n
    induction n with
    | zero => intro x2 v_t_kinds v_t_figures v_t_causeBits v_t_size v_t_lost v_t_guarded v_t_day res h; exact nomatch (show (none : Option ((Nat → Int32) × (Nat → Int32) × (Nat → Int32) × Int32 × Int32 × Int32 × Int32)) = some res from h)
    | succ n ih =>
      intro x2 v_t_kinds v_t_figures v_t_causeBits v_t_size v_t_lost v_t_guarded v_t_day res h H locs ls hP hD hS hl
      rw [f_X7_becomes_2] at h
      refine lv_iload_n hx hb dX7_becomes_2 rfl (lv_at hl 2 rfl) ?_
      refine lv_bipush (v := 9) hx hb dX7_becomes_3 (by decide) ?_
      refine lv_icmp_ge (tgt := 50) hx hb dX7_becomes_5 (by decide) (fun c_1 => ?_) (fun c_1 => ?_)
      · have h := (if_pos c_1).symm.trans h
        refine lv_aload_n hx hb dX7_becomes_50 rfl (lv_at hl 0 rfl) ?_
        refine lv_aload_n hx hb dX7_becomes_51 rfl (lv_at hl 1 rfl) ?_
        refine va_get (ci := 2) (v := .int v_o1_size) (C := RX7) (T := TX7) (N := 7) hx hb hts hinX7 hown hK.1 hP 4 rfl rfl 3 (by decide) k_0 (fun _ h9 => h9) rfl dX7_becomes_52 ?_
        refine va_put (ci := 2) (v := .int v_o1_size) (ty := tyX7 3) (C := RX7) (T := TX7) (N := 7) hx hb hts hinX7 tyX7 tyX7_ok nmX7 hown hK.1 hP hD hS 0 rfl rfl 3 (by decide) k_0 (fun _ h9 => h9) rfl (tyX7_ok 3 (by decide)) rfl rfl (Nat.le_of_ble_eq_true rfl) dX7_becomes_55 (fun H locs hP hD hS => ?_)
        have hP : va_P D vwCl (wX7 cA a_t a_t_kinds a_t_figures a_t_causeBits v_t_kinds v_t_figures v_t_causeBits v_o1_size v_t_lost v_t_guarded v_t_day ++ wX7 cA a_o1 a_o1_kinds a_o1_figures a_o1_causeBits v_o1_kinds v_o1_figures v_o1_causeBits v_o1_size v_o1_lost v_o1_guarded v_o1_day) H := hP
        have hD : va_D A (wX7 cA a_t a_t_kinds a_t_figures a_t_causeBits v_t_kinds v_t_figures v_t_causeBits v_o1_size v_t_lost v_t_guarded v_t_day ++ wX7 cA a_o1 a_o1_kinds a_o1_figures a_o1_causeBits v_o1_kinds v_o1_figures v_o1_causeBits v_o1_size v_o1_lost v_o1_guarded v_o1_day) := hD
        refine lv_aload_n hx hb dX7_becomes_58 rfl (lv_at hl 0 rfl) ?_
        refine lv_aload_n hx hb dX7_becomes_59 rfl (lv_at hl 1 rfl) ?_
        refine va_get (ci := 2) (v := .int v_o1_lost) (C := RX7) (T := TX7) (N := 7) hx hb hts hinX7 hown hK.1 hP 4 rfl rfl 4 (by decide) k_1 (fun _ h9 => h9) rfl dX7_becomes_60 ?_
        refine va_put (ci := 2) (v := .int v_o1_lost) (ty := tyX7 4) (C := RX7) (T := TX7) (N := 7) hx hb hts hinX7 tyX7 tyX7_ok nmX7 hown hK.1 hP hD hS 0 rfl rfl 4 (by decide) k_1 (fun _ h9 => h9) rfl (tyX7_ok 4 (by decide)) rfl rfl (Nat.le_of_ble_eq_true rfl) dX7_becomes_63 (fun H locs hP hD hS => ?_)
        have hP : va_P D vwCl (wX7 cA a_t a_t_kinds a_t_figures a_t_causeBits v_t_kinds v_t_figures v_t_causeBits v_o1_size v_o1_lost v_t_guarded v_t_day ++ wX7 cA a_o1 a_o1_kinds a_o1_figures a_o1_causeBits v_o1_kinds v_o1_figures v_o1_causeBits v_o1_size v_o1_lost v_o1_guarded v_o1_day) H := hP
        have hD : va_D A (wX7 cA a_t a_t_kinds a_t_figures a_t_causeBits v_t_kinds v_t_figures v_t_causeBits v_o1_size v_o1_lost v_t_guarded v_t_day ++ wX7 cA a_o1 a_o1_kinds a_o1_figures a_o1_causeBits v_o1_kinds v_o1_figures v_o1_causeBits v_o1_size v_o1_lost v_o1_guarded v_o1_day) := hD
        refine lv_aload_n hx hb dX7_becomes_66 rfl (lv_at hl 0 rfl) ?_
        refine lv_aload_n hx hb dX7_becomes_67 rfl (lv_at hl 1 rfl) ?_
        refine va_get (ci := 2) (v := .int v_o1_guarded) (C := RX7) (T := TX7) (N := 7) hx hb hts hinX7 hown hK.1 hP 4 rfl rfl 5 (by decide) k_2 (fun _ h9 => h9) rfl dX7_becomes_68 ?_
        refine va_put (ci := 2) (v := .int v_o1_guarded) (ty := tyX7 5) (C := RX7) (T := TX7) (N := 7) hx hb hts hinX7 tyX7 tyX7_ok nmX7 hown hK.1 hP hD hS 0 rfl rfl 5 (by decide) k_2 (fun _ h9 => h9) rfl (tyX7_ok 5 (by decide)) rfl rfl (Nat.le_of_ble_eq_true rfl) dX7_becomes_71 (fun H locs hP hD hS => ?_)
        have hP : va_P D vwCl (wX7 cA a_t a_t_kinds a_t_figures a_t_causeBits v_t_kinds v_t_figures v_t_causeBits v_o1_size v_o1_lost v_o1_guarded v_t_day ++ wX7 cA a_o1 a_o1_kinds a_o1_figures a_o1_causeBits v_o1_kinds v_o1_figures v_o1_causeBits v_o1_size v_o1_lost v_o1_guarded v_o1_day) H := hP
        have hD : va_D A (wX7 cA a_t a_t_kinds a_t_figures a_t_causeBits v_t_kinds v_t_figures v_t_causeBits v_o1_size v_o1_lost v_o1_guarded v_t_day ++ wX7 cA a_o1 a_o1_kinds a_o1_figures a_o1_causeBits v_o1_kinds v_o1_figures v_o1_causeBits v_o1_size v_o1_lost v_o1_guarded v_o1_day) := hD
        refine lv_aload_n hx hb dX7_becomes_74 rfl (lv_at hl 0 rfl) ?_
        refine lv_aload_n hx hb dX7_becomes_75 rfl (lv_at hl 1 rfl) ?_
        refine va_get (ci := 2) (v := .int v_o1_day) (C := RX7) (T := TX7) (N := 7) hx hb hts hinX7 hown hK.1 hP 4 rfl rfl 6 (by decide) k_3 (fun _ h9 => h9) rfl dX7_becomes_76 ?_
        refine va_put (ci := 2) (v := .int v_o1_day) (ty := tyX7 6) (C := RX7) (T := TX7) (N := 7) hx hb hts hinX7 tyX7 tyX7_ok nmX7 hown hK.1 hP hD hS 0 rfl rfl 6 (by decide) k_3 (fun _ h9 => h9) rfl (tyX7_ok 6 (by decide)) rfl rfl (Nat.le_of_ble_eq_true rfl) dX7_becomes_79 (fun H locs hP hD hS => ?_)
        have hP : va_P D vwCl (wX7 cA a_t a_t_kinds a_t_figures a_t_causeBits v_t_kinds v_t_figures v_t_causeBits v_o1_size v_o1_lost v_o1_guarded v_o1_day ++ wX7 cA a_o1 a_o1_kinds a_o1_figures a_o1_causeBits v_o1_kinds v_o1_figures v_o1_causeBits v_o1_size v_o1_lost v_o1_guarded v_o1_day) H := hP
        have hD : va_D A (wX7 cA a_t a_t_kinds a_t_figures a_t_causeBits v_t_kinds v_t_figures v_t_causeBits v_o1_size v_o1_lost v_o1_guarded v_o1_day ++ wX7 cA a_o1 a_o1_kinds a_o1_figures a_o1_causeBits v_o1_kinds v_o1_figures v_o1_causeBits v_o1_size v_o1_lost v_o1_guarded v_o1_day) := hD
        obtain rfl := Option.some.inj h
        exact xk_vret hx hb hr hlk hP hD hS (hQ _) dX7_becomes_82
      · have h := (if_neg c_1).symm.trans h
        refine lv_aload_n hx hb dX7_becomes_8 rfl (lv_at hl 0 rfl) ?_
        refine va_get (ci := 2) (v := .ref a_t_kinds) (C := RX7) (T := TX7) (N := 7) hx hb hts hinX7 hown hK.1 hP 0 rfl rfl 0 (by decide) k_4 (fun _ h9 => h9) rfl dX7_becomes_9 ?_
        refine lv_iload_n hx hb dX7_becomes_12 rfl (lv_at hl 2 rfl) ?_
        refine lv_aload_n hx hb dX7_becomes_13 rfl (lv_at hl 1 rfl) ?_
        refine va_get (ci := 2) (v := .ref a_o1_kinds) (C := RX7) (T := TX7) (N := 7) hx hb hts hinX7 hown hK.1 hP 4 rfl rfl 0 (by decide) k_4 (fun _ h9 => h9) rfl dX7_becomes_14 ?_
        refine lv_iload_n hx hb dX7_becomes_17 rfl (lv_at hl 2 rfl) ?_
        obtain ⟨i_2, h⟩ := xa_some h
        refine va_iald hx hb hK.1 hP 5 0 rfl rfl i_2 dX7_becomes_18 ?_
        obtain ⟨i_3, h⟩ := xa_some h
        refine va_iast hx hb hK.1 hP hD hS 1 0 rfl rfl i_3 dX7_becomes_19 (fun H locs hP hD hS => ?_)
        have hP : va_P D vwCl (wX7 cA a_t a_t_kinds a_t_figures a_t_causeBits (upd v_t_kinds (Int32.toNatClampNeg x2) (v_o1_kinds (Int32.toNatClampNeg x2))) v_t_figures v_t_causeBits v_t_size v_t_lost v_t_guarded v_t_day ++ wX7 cA a_o1 a_o1_kinds a_o1_figures a_o1_causeBits v_o1_kinds v_o1_figures v_o1_causeBits v_o1_size v_o1_lost v_o1_guarded v_o1_day) H := hP
        have hD : va_D A (wX7 cA a_t a_t_kinds a_t_figures a_t_causeBits (upd v_t_kinds (Int32.toNatClampNeg x2) (v_o1_kinds (Int32.toNatClampNeg x2))) v_t_figures v_t_causeBits v_t_size v_t_lost v_t_guarded v_t_day ++ wX7 cA a_o1 a_o1_kinds a_o1_figures a_o1_causeBits v_o1_kinds v_o1_figures v_o1_causeBits v_o1_size v_o1_lost v_o1_guarded v_o1_day) := hD
        refine lv_aload_n hx hb dX7_becomes_20 rfl (lv_at hl 0 rfl) ?_
        refine va_get (ci := 2) (v := .ref a_t_figures) (C := RX7) (T := TX7) (N := 7) hx hb hts hinX7 hown hK.1 hP 0 rfl rfl 1 (by decide) k_5 (fun _ h9 => h9) rfl dX7_becomes_21 ?_
        refine lv_iload_n hx hb dX7_becomes_24 rfl (lv_at hl 2 rfl) ?_
        refine lv_aload_n hx hb dX7_becomes_25 rfl (lv_at hl 1 rfl) ?_
        refine va_get (ci := 2) (v := .ref a_o1_figures) (C := RX7) (T := TX7) (N := 7) hx hb hts hinX7 hown hK.1 hP 4 rfl rfl 1 (by decide) k_5 (fun _ h9 => h9) rfl dX7_becomes_26 ?_
        refine lv_iload_n hx hb dX7_becomes_29 rfl (lv_at hl 2 rfl) ?_
        obtain ⟨i_4, h⟩ := xa_some h
        refine va_iald hx hb hK.1 hP 6 0 rfl rfl i_4 dX7_becomes_30 ?_
        obtain ⟨i_5, h⟩ := xa_some h
        refine va_iast hx hb hK.1 hP hD hS 2 0 rfl rfl i_5 dX7_becomes_31 (fun H locs hP hD hS => ?_)
        have hP : va_P D vwCl (wX7 cA a_t a_t_kinds a_t_figures a_t_causeBits (upd v_t_kinds (Int32.toNatClampNeg x2) (v_o1_kinds (Int32.toNatClampNeg x2))) (upd v_t_figures (Int32.toNatClampNeg x2) (v_o1_figures (Int32.toNatClampNeg x2))) v_t_causeBits v_t_size v_t_lost v_t_guarded v_t_day ++ wX7 cA a_o1 a_o1_kinds a_o1_figures a_o1_causeBits v_o1_kinds v_o1_figures v_o1_causeBits v_o1_size v_o1_lost v_o1_guarded v_o1_day) H := hP
        have hD : va_D A (wX7 cA a_t a_t_kinds a_t_figures a_t_causeBits (upd v_t_kinds (Int32.toNatClampNeg x2) (v_o1_kinds (Int32.toNatClampNeg x2))) (upd v_t_figures (Int32.toNatClampNeg x2) (v_o1_figures (Int32.toNatClampNeg x2))) v_t_causeBits v_t_size v_t_lost v_t_guarded v_t_day ++ wX7 cA a_o1 a_o1_kinds a_o1_figures a_o1_causeBits v_o1_kinds v_o1_figures v_o1_causeBits v_o1_size v_o1_lost v_o1_guarded v_o1_day) := hD
        refine lv_aload_n hx hb dX7_becomes_32 rfl (lv_at hl 0 rfl) ?_
        refine va_get (ci := 2) (v := .ref a_t_causeBits) (C := RX7) (T := TX7) (N := 7) hx hb hts hinX7 hown hK.1 hP 0 rfl rfl 2 (by decide) k_6 (fun _ h9 => h9) rfl dX7_becomes_33 ?_
        refine lv_iload_n hx hb dX7_becomes_36 rfl (lv_at hl 2 rfl) ?_
        refine lv_aload_n hx hb dX7_becomes_37 rfl (lv_at hl 1 rfl) ?_
        refine va_get (ci := 2) (v := .ref a_o1_causeBits) (C := RX7) (T := TX7) (N := 7) hx hb hts hinX7 hown hK.1 hP 4 rfl rfl 2 (by decide) k_6 (fun _ h9 => h9) rfl dX7_becomes_38 ?_
        refine lv_iload_n hx hb dX7_becomes_41 rfl (lv_at hl 2 rfl) ?_
        obtain ⟨i_6, h⟩ := xa_some h
        refine va_iald hx hb hK.1 hP 7 0 rfl rfl i_6 dX7_becomes_42 ?_
        obtain ⟨i_7, h⟩ := xa_some h
        refine va_iast hx hb hK.1 hP hD hS 3 0 rfl rfl i_7 dX7_becomes_43 (fun H locs hP hD hS => ?_)
        have hP : va_P D vwCl (wX7 cA a_t a_t_kinds a_t_figures a_t_causeBits (upd v_t_kinds (Int32.toNatClampNeg x2) (v_o1_kinds (Int32.toNatClampNeg x2))) (upd v_t_figures (Int32.toNatClampNeg x2) (v_o1_figures (Int32.toNatClampNeg x2))) (upd v_t_causeBits (Int32.toNatClampNeg x2) (v_o1_causeBits (Int32.toNatClampNeg x2))) v_t_size v_t_lost v_t_guarded v_t_day ++ wX7 cA a_o1 a_o1_kinds a_o1_figures a_o1_causeBits v_o1_kinds v_o1_figures v_o1_causeBits v_o1_size v_o1_lost v_o1_guarded v_o1_day) H := hP
        have hD : va_D A (wX7 cA a_t a_t_kinds a_t_figures a_t_causeBits (upd v_t_kinds (Int32.toNatClampNeg x2) (v_o1_kinds (Int32.toNatClampNeg x2))) (upd v_t_figures (Int32.toNatClampNeg x2) (v_o1_figures (Int32.toNatClampNeg x2))) (upd v_t_causeBits (Int32.toNatClampNeg x2) (v_o1_causeBits (Int32.toNatClampNeg x2))) v_t_size v_t_lost v_t_guarded v_t_day ++ wX7 cA a_o1 a_o1_kinds a_o1_figures a_o1_causeBits v_o1_kinds v_o1_figures v_o1_causeBits v_o1_size v_o1_lost v_o1_guarded v_o1_day) := hD
        refine lv_iinc (v := (x2 + 1)) (lv' := [(2, .int (x2 + 1)), (0, .ref a_t), (1, .ref a_o1)]) hx hb dX7_becomes_44 hl (k := 2) rfl rfl (by decide) rfl (fun ls hl => ?_)
        refine lv_goto (tgt := 2) hx hb dX7_becomes_47 (by decide) ?_
        exact ih (x2 + 1) (upd v_t_kinds (Int32.toNatClampNeg x2) (v_o1_kinds (Int32.toNatClampNeg x2))) (upd v_t_figures (Int32.toNatClampNeg x2) (v_o1_figures (Int32.toNatClampNeg x2))) (upd v_t_causeBits (Int32.toNatClampNeg x2) (v_o1_causeBits (Int32.toNatClampNeg x2))) v_t_size v_t_lost v_t_guarded v_t_day _ h _ _ _ hP hD hS (lv_sub hl [1, 2, 0] rfl)
  unfold f_X7_becomes at h
  refine lv_iconst (v := 0) hx hb dX7_becomes_0 (by decide) ?_
  refine lv_istore_n (lv' := [(2, .int 0), (0, .ref a_t), (1, .ref a_o1)]) hx hb dX7_becomes_1 rfl hl (by decide) rfl (fun ls hl => ?_)
  exact J_2 F 0 v_t_kinds v_t_figures v_t_causeBits v_t_size v_t_lost v_t_guarded v_t_day _ h _ _ _ hP hD hS (lv_sub hl [1, 2, 0] rfl)
set_option maxHeartbeats 4000000 in
set_option maxRecDepth 100000 in
theorem c_X7_isKind (l : Launch) (D : va_G) (cA : ClassId) (sa sv : Nat → Nat) (sz : Nat) (p0 : Int32) (res : Int32) (h : f_X7_isKind  p0 = some res) : Met l yX7_isKind wsX7_isKind { frames := 0, cells := 0, slots := 0, locals := 0 } (xk_Pc D cA sa sv ([] : va_W) sz [.int p0]) (xk_Q D (va_A ([] : va_W) sz) (some (.int res)) ([] : va_W)) 0 0 (va_A ([] : va_W) sz) := by
  refine xk_met (fun res : Int32 => some (.int res)) (fun res : Int32 => ([] : va_W)) res (cc := cX7_isKind) (maxL := 1) (ret := (some .boolean)) (by decide) rfl (Nat.le_of_ble_eq_true rfl) ?_
  intro p e s m args below meth c A Q ls hQ hx hb hr hlk hml hown hts hK hP hD hS hA hl
  have S : CallFix p m c cX7_isKind 1 s args wsX7_isKind RX7 := ⟨hx, hb, hml, hown, hts⟩
  have hl : lv_has ls 1 [(0, .int p0)] := hl
  unfold f_X7_isKind at h
  refine lv_iload_n hx hb dX7_isKind_0 rfl (lv_at hl 0 rfl) ?_
  refine lv_if_lt (tgt := 14) hx hb dX7_isKind_1 (by decide) (fun c_1 => ?_) (fun c_1 => ?_)
  · have h := (if_pos c_1).symm.trans h
    refine lv_iconst (v := 0) hx hb dX7_isKind_14 (by decide) ?_
    obtain rfl := Option.some.inj h
    exact xk_zret rfl hx hb hr hlk hP hD hS (hQ _) dX7_isKind_15
  · have h := (if_neg c_1).symm.trans h
    refine lv_iload_n hx hb dX7_isKind_4 rfl (lv_at hl 0 rfl) ?_
    refine lv_bipush (v := 6) hx hb dX7_isKind_5 (by decide) ?_
    refine lv_icmp_ge (tgt := 14) hx hb dX7_isKind_7 (by decide) (fun c_2 => ?_) (fun c_2 => ?_)
    · have h := (if_pos c_2).symm.trans h
      refine lv_iconst (v := 0) hx hb dX7_isKind_14 (by decide) ?_
      obtain rfl := Option.some.inj h
      exact xk_zret rfl hx hb hr hlk hP hD hS (hQ _) dX7_isKind_15
    · have h := (if_neg c_2).symm.trans h
      refine lv_iconst (v := 1) hx hb dX7_isKind_10 (by decide) ?_
      refine lv_goto (tgt := 15) hx hb dX7_isKind_11 (by decide) ?_
      obtain rfl := Option.some.inj h
      exact xk_zret rfl hx hb hr hlk hP hD hS (hQ _) dX7_isKind_15
set_option maxHeartbeats 4000000 in
set_option maxRecDepth 100000 in
theorem c_X7_isFigure (l : Launch) (D : va_G) (cA : ClassId) (sa sv : Nat → Nat) (sz : Nat) (p0 : Int32) (res : Int32) (h : f_X7_isFigure  p0 = some res) : Met l yX7_isFigure wsX7_isFigure { frames := 0, cells := 0, slots := 0, locals := 0 } (xk_Pc D cA sa sv ([] : va_W) sz [.int p0]) (xk_Q D (va_A ([] : va_W) sz) (some (.int res)) ([] : va_W)) 0 0 (va_A ([] : va_W) sz) := by
  refine xk_met (fun res : Int32 => some (.int res)) (fun res : Int32 => ([] : va_W)) res (cc := cX7_isFigure) (maxL := 1) (ret := (some .boolean)) (by decide) rfl (Nat.le_of_ble_eq_true rfl) ?_
  intro p e s m args below meth c A Q ls hQ hx hb hr hlk hml hown hts hK hP hD hS hA hl
  have S : CallFix p m c cX7_isFigure 1 s args wsX7_isFigure RX7 := ⟨hx, hb, hml, hown, hts⟩
  have hl : lv_has ls 1 [(0, .int p0)] := hl
  unfold f_X7_isFigure at h
  refine lv_iload_n hx hb dX7_isFigure_0 rfl (lv_at hl 0 rfl) ?_
  refine lv_if_lt (tgt := 14) hx hb dX7_isFigure_1 (by decide) (fun c_1 => ?_) (fun c_1 => ?_)
  · have h := (if_pos c_1).symm.trans h
    refine lv_iconst (v := 0) hx hb dX7_isFigure_14 (by decide) ?_
    obtain rfl := Option.some.inj h
    exact xk_zret rfl hx hb hr hlk hP hD hS (hQ _) dX7_isFigure_15
  · have h := (if_neg c_1).symm.trans h
    refine lv_iload_n hx hb dX7_isFigure_4 rfl (lv_at hl 0 rfl) ?_
    refine lv_bipush (v := 9) hx hb dX7_isFigure_5 (by decide) ?_
    refine lv_icmp_gt (tgt := 14) hx hb dX7_isFigure_7 (by decide) (fun c_2 => ?_) (fun c_2 => ?_)
    · have h := (if_pos c_2).symm.trans h
      refine lv_iconst (v := 0) hx hb dX7_isFigure_14 (by decide) ?_
      obtain rfl := Option.some.inj h
      exact xk_zret rfl hx hb hr hlk hP hD hS (hQ _) dX7_isFigure_15
    · have h := (if_neg c_2).symm.trans h
      refine lv_iconst (v := 1) hx hb dX7_isFigure_10 (by decide) ?_
      refine lv_goto (tgt := 15) hx hb dX7_isFigure_11 (by decide) ?_
      obtain rfl := Option.some.inj h
      exact xk_zret rfl hx hb hr hlk hP hD hS (hQ _) dX7_isFigure_15
set_option maxHeartbeats 4000000 in
set_option maxRecDepth 100000 in
theorem c_X7_kindOf (l : Launch) (D : va_G) (cA : ClassId) (sa sv : Nat → Nat) (a_t a_t_kinds a_t_figures a_t_causeBits : Nat) (sz : Nat) (v_t_kinds : Nat → Int32) (v_t_figures : Nat → Int32) (v_t_causeBits : Nat → Int32) (v_t_size : Int32) (v_t_lost : Int32) (v_t_guarded : Int32) (v_t_day : Int32) (p1 : Int32) (res : Int32) (h : f_X7_kindOf v_t_kinds v_t_size p1 = some res) : Met l yX7_kindOf wsX7_kindOf { frames := 1, cells := 0, slots := 0, locals := 21 } (xk_Pc D cA sa sv (wX7 cA a_t a_t_kinds a_t_figures a_t_causeBits v_t_kinds v_t_figures v_t_causeBits v_t_size v_t_lost v_t_guarded v_t_day) sz [.ref a_t, .int p1]) (xk_Q D (va_A (wX7 cA a_t a_t_kinds a_t_figures a_t_causeBits v_t_kinds v_t_figures v_t_causeBits v_t_size v_t_lost v_t_guarded v_t_day) sz) (some (.int res)) (wX7 cA a_t a_t_kinds a_t_figures a_t_causeBits v_t_kinds v_t_figures v_t_causeBits v_t_size v_t_lost v_t_guarded v_t_day)) 0 0 (va_A (wX7 cA a_t a_t_kinds a_t_figures a_t_causeBits v_t_kinds v_t_figures v_t_causeBits v_t_size v_t_lost v_t_guarded v_t_day) sz) := by
  refine xk_met (fun res : Int32 => some (.int res)) (fun res : Int32 => (wX7 cA a_t a_t_kinds a_t_figures a_t_causeBits v_t_kinds v_t_figures v_t_causeBits v_t_size v_t_lost v_t_guarded v_t_day)) res (cc := cX7_kindOf) (maxL := 2) (ret := (some .int)) (by decide) rfl (Nat.le_of_ble_eq_true rfl) ?_
  intro p e s m args below meth c A Q ls hQ hx hb hr hlk hml hown hts hK hP hD hS hA hl
  have S : CallFix p m c cX7_kindOf 2 s args wsX7_kindOf RX7 := ⟨hx, hb, hml, hown, hts⟩
  have hl : lv_has ls 2 [(0, .ref a_t), (1, .int p1)] := hl
  have hinX7 : ∀ w ∈ u_ws RX7 TX7 7, w ∈ wsX7_kindOf := fun _ h => List.mem_cons_of_mem _ (List.mem_append_right _ (h))
  have k_0 := hts (.fieldLink RX7 11 "NailsWantTheKingdom$Realm" "kinds" "[I") (List.mem_of_getElem? (i := 1) (by decide +kernel))
  unfold f_X7_kindOf at h
  refine lv_aload_n hx hb dX7_kindOf_0 rfl (lv_at hl 0 rfl) ?_
  refine lv_iload_n hx hb dX7_kindOf_1 rfl (lv_at hl 1 rfl) ?_
  obtain ⟨x_1, hc_1, h⟩ := bd_some h
  refine xk_V (rest := []) (As := [.int p1]) (stk := [.int x_1]) (wn := (wX7 cA a_t a_t_kinds a_t_figures a_t_causeBits v_t_kinds v_t_figures v_t_causeBits v_t_size v_t_lost v_t_guarded v_t_day)) (v := (some (.int x_1))) (wr := []) gX7_kindOf_X7_has rfl hdV_X7_has rfl rfl (c_X7_has l D cA sa sv a_t a_t_kinds a_t_figures a_t_causeBits _ v_t_kinds v_t_figures v_t_causeBits v_t_size v_t_lost v_t_guarded v_t_day p1 x_1 hc_1) (ci := 2) rfl (q0 := 0) rfl S hK hP hD hS hA [0, 1, 2, 3] [] [0, 1, 2, 3] rfl rfl rfl rfl rfl rfl rfl ⟨Nat.le_of_ble_eq_true rfl, Nat.le_of_ble_eq_true rfl⟩ ⟨Nat.le_refl 0, Nat.le_refl 0⟩ rfl hl.1 rfl (Nat.le_of_ble_eq_true rfl) rfl dX7_kindOf_2 (fun H locs hP hD hS => ?_)
  refine lv_if_eq (tgt := 17) hx hb dX7_kindOf_5 (by decide) (fun c_2 => ?_) (fun c_2 => ?_)
  · have h := (if_pos c_2).symm.trans h
    refine lv_iconst (v := 0) hx hb dX7_kindOf_17 (by decide) ?_
    obtain rfl := Option.some.inj h
    exact xk_iret hx hb hr hlk hP hD hS (hQ _) dX7_kindOf_18
  · have h := (if_neg c_2).symm.trans h
    refine lv_aload_n hx hb dX7_kindOf_8 rfl (lv_at hl 0 rfl) ?_
    refine va_get (ci := 2) (v := .ref a_t_kinds) (C := RX7) (T := TX7) (N := 7) hx hb hts hinX7 hown hK.1 hP 0 rfl rfl 0 (by decide) k_0 (fun _ h9 => h9) rfl dX7_kindOf_9 ?_
    refine lv_iload_n hx hb dX7_kindOf_12 rfl (lv_at hl 1 rfl) ?_
    obtain ⟨i_3, h⟩ := xa_some h
    refine va_iald hx hb hK.1 hP 1 0 rfl rfl i_3 dX7_kindOf_13 ?_
    refine lv_goto (tgt := 18) hx hb dX7_kindOf_14 (by decide) ?_
    obtain rfl := Option.some.inj h
    exact xk_iret hx hb hr hlk hP hD hS (hQ _) dX7_kindOf_18
set_option maxHeartbeats 4000000 in
set_option maxRecDepth 100000 in
theorem c_X7_figureOf (l : Launch) (D : va_G) (cA : ClassId) (sa sv : Nat → Nat) (a_t a_t_kinds a_t_figures a_t_causeBits : Nat) (sz : Nat) (v_t_kinds : Nat → Int32) (v_t_figures : Nat → Int32) (v_t_causeBits : Nat → Int32) (v_t_size : Int32) (v_t_lost : Int32) (v_t_guarded : Int32) (v_t_day : Int32) (p1 : Int32) (res : Int32) (h : f_X7_figureOf v_t_figures v_t_size p1 = some res) : Met l yX7_figureOf wsX7_figureOf { frames := 1, cells := 0, slots := 0, locals := 21 } (xk_Pc D cA sa sv (wX7 cA a_t a_t_kinds a_t_figures a_t_causeBits v_t_kinds v_t_figures v_t_causeBits v_t_size v_t_lost v_t_guarded v_t_day) sz [.ref a_t, .int p1]) (xk_Q D (va_A (wX7 cA a_t a_t_kinds a_t_figures a_t_causeBits v_t_kinds v_t_figures v_t_causeBits v_t_size v_t_lost v_t_guarded v_t_day) sz) (some (.int res)) (wX7 cA a_t a_t_kinds a_t_figures a_t_causeBits v_t_kinds v_t_figures v_t_causeBits v_t_size v_t_lost v_t_guarded v_t_day)) 0 0 (va_A (wX7 cA a_t a_t_kinds a_t_figures a_t_causeBits v_t_kinds v_t_figures v_t_causeBits v_t_size v_t_lost v_t_guarded v_t_day) sz) := by
  refine xk_met (fun res : Int32 => some (.int res)) (fun res : Int32 => (wX7 cA a_t a_t_kinds a_t_figures a_t_causeBits v_t_kinds v_t_figures v_t_causeBits v_t_size v_t_lost v_t_guarded v_t_day)) res (cc := cX7_figureOf) (maxL := 2) (ret := (some .int)) (by decide) rfl (Nat.le_of_ble_eq_true rfl) ?_
  intro p e s m args below meth c A Q ls hQ hx hb hr hlk hml hown hts hK hP hD hS hA hl
  have S : CallFix p m c cX7_figureOf 2 s args wsX7_figureOf RX7 := ⟨hx, hb, hml, hown, hts⟩
  have hl : lv_has ls 2 [(0, .ref a_t), (1, .int p1)] := hl
  have hinX7 : ∀ w ∈ u_ws RX7 TX7 7, w ∈ wsX7_figureOf := fun _ h => List.mem_cons_of_mem _ (List.mem_append_right _ (h))
  have k_0 := hts (.fieldLink RX7 15 "NailsWantTheKingdom$Realm" "figures" "[I") (List.mem_of_getElem? (i := 1) (by decide +kernel))
  unfold f_X7_figureOf at h
  refine lv_aload_n hx hb dX7_figureOf_0 rfl (lv_at hl 0 rfl) ?_
  refine lv_iload_n hx hb dX7_figureOf_1 rfl (lv_at hl 1 rfl) ?_
  obtain ⟨x_1, hc_1, h⟩ := bd_some h
  refine xk_V (rest := []) (As := [.int p1]) (stk := [.int x_1]) (wn := (wX7 cA a_t a_t_kinds a_t_figures a_t_causeBits v_t_kinds v_t_figures v_t_causeBits v_t_size v_t_lost v_t_guarded v_t_day)) (v := (some (.int x_1))) (wr := []) gX7_figureOf_X7_has rfl hdV_X7_has rfl rfl (c_X7_has l D cA sa sv a_t a_t_kinds a_t_figures a_t_causeBits _ v_t_kinds v_t_figures v_t_causeBits v_t_size v_t_lost v_t_guarded v_t_day p1 x_1 hc_1) (ci := 2) rfl (q0 := 0) rfl S hK hP hD hS hA [0, 1, 2, 3] [] [0, 1, 2, 3] rfl rfl rfl rfl rfl rfl rfl ⟨Nat.le_of_ble_eq_true rfl, Nat.le_of_ble_eq_true rfl⟩ ⟨Nat.le_refl 0, Nat.le_refl 0⟩ rfl hl.1 rfl (Nat.le_of_ble_eq_true rfl) rfl dX7_figureOf_2 (fun H locs hP hD hS => ?_)
  refine lv_if_eq (tgt := 17) hx hb dX7_figureOf_5 (by decide) (fun c_2 => ?_) (fun c_2 => ?_)
  · have h := (if_pos c_2).symm.trans h
    refine lv_iconst (v := 0) hx hb dX7_figureOf_17 (by decide) ?_
    obtain rfl := Option.some.inj h
    exact xk_iret hx hb hr hlk hP hD hS (hQ _) dX7_figureOf_18
  · have h := (if_neg c_2).symm.trans h
    refine lv_aload_n hx hb dX7_figureOf_8 rfl (lv_at hl 0 rfl) ?_
    refine va_get (ci := 2) (v := .ref a_t_figures) (C := RX7) (T := TX7) (N := 7) hx hb hts hinX7 hown hK.1 hP 0 rfl rfl 1 (by decide) k_0 (fun _ h9 => h9) rfl dX7_figureOf_9 ?_
    refine lv_iload_n hx hb dX7_figureOf_12 rfl (lv_at hl 1 rfl) ?_
    obtain ⟨i_3, h⟩ := xa_some h
    refine va_iald hx hb hK.1 hP 2 0 rfl rfl i_3 dX7_figureOf_13 ?_
    refine lv_goto (tgt := 18) hx hb dX7_figureOf_14 (by decide) ?_
    obtain rfl := Option.some.inj h
    exact xk_iret hx hb hr hlk hP hD hS (hQ _) dX7_figureOf_18
set_option maxHeartbeats 4000000 in
set_option maxRecDepth 100000 in
theorem c_X7_isGuarded (l : Launch) (D : va_G) (cA : ClassId) (sa sv : Nat → Nat) (a_t a_t_kinds a_t_figures a_t_causeBits : Nat) (sz : Nat) (v_t_kinds : Nat → Int32) (v_t_figures : Nat → Int32) (v_t_causeBits : Nat → Int32) (v_t_size : Int32) (v_t_lost : Int32) (v_t_guarded : Int32) (v_t_day : Int32) (p1 : Int32) (res : Int32) (h : f_X7_isGuarded v_t_size v_t_guarded p1 = some res) : Met l yX7_isGuarded wsX7_isGuarded { frames := 1, cells := 0, slots := 0, locals := 21 } (xk_Pc D cA sa sv (wX7 cA a_t a_t_kinds a_t_figures a_t_causeBits v_t_kinds v_t_figures v_t_causeBits v_t_size v_t_lost v_t_guarded v_t_day) sz [.ref a_t, .int p1]) (xk_Q D (va_A (wX7 cA a_t a_t_kinds a_t_figures a_t_causeBits v_t_kinds v_t_figures v_t_causeBits v_t_size v_t_lost v_t_guarded v_t_day) sz) (some (.int res)) (wX7 cA a_t a_t_kinds a_t_figures a_t_causeBits v_t_kinds v_t_figures v_t_causeBits v_t_size v_t_lost v_t_guarded v_t_day)) 0 0 (va_A (wX7 cA a_t a_t_kinds a_t_figures a_t_causeBits v_t_kinds v_t_figures v_t_causeBits v_t_size v_t_lost v_t_guarded v_t_day) sz) := by
  refine xk_met (fun res : Int32 => some (.int res)) (fun res : Int32 => (wX7 cA a_t a_t_kinds a_t_figures a_t_causeBits v_t_kinds v_t_figures v_t_causeBits v_t_size v_t_lost v_t_guarded v_t_day)) res (cc := cX7_isGuarded) (maxL := 2) (ret := (some .boolean)) (by decide) rfl (Nat.le_of_ble_eq_true rfl) ?_
  intro p e s m args below meth c A Q ls hQ hx hb hr hlk hml hown hts hK hP hD hS hA hl
  have S : CallFix p m c cX7_isGuarded 2 s args wsX7_isGuarded RX7 := ⟨hx, hb, hml, hown, hts⟩
  have hl : lv_has ls 2 [(0, .ref a_t), (1, .int p1)] := hl
  have hinX7 : ∀ w ∈ u_ws RX7 TX7 7, w ∈ wsX7_isGuarded := fun _ h => List.mem_cons_of_mem _ (List.mem_append_right _ (h))
  have k_0 := hts (.fieldLink RX7 28 "NailsWantTheKingdom$Realm" "guarded" "I") (List.mem_of_getElem? (i := 1) (by decide +kernel))
  unfold f_X7_isGuarded at h
  refine lv_aload_n hx hb dX7_isGuarded_0 rfl (lv_at hl 0 rfl) ?_
  refine lv_iload_n hx hb dX7_isGuarded_1 rfl (lv_at hl 1 rfl) ?_
  obtain ⟨x_1, hc_1, h⟩ := bd_some h
  refine xk_V (rest := []) (As := [.int p1]) (stk := [.int x_1]) (wn := (wX7 cA a_t a_t_kinds a_t_figures a_t_causeBits v_t_kinds v_t_figures v_t_causeBits v_t_size v_t_lost v_t_guarded v_t_day)) (v := (some (.int x_1))) (wr := []) gX7_isGuarded_X7_has rfl hdV_X7_has rfl rfl (c_X7_has l D cA sa sv a_t a_t_kinds a_t_figures a_t_causeBits _ v_t_kinds v_t_figures v_t_causeBits v_t_size v_t_lost v_t_guarded v_t_day p1 x_1 hc_1) (ci := 2) rfl (q0 := 0) rfl S hK hP hD hS hA [0, 1, 2, 3] [] [0, 1, 2, 3] rfl rfl rfl rfl rfl rfl rfl ⟨Nat.le_of_ble_eq_true rfl, Nat.le_of_ble_eq_true rfl⟩ ⟨Nat.le_refl 0, Nat.le_refl 0⟩ rfl hl.1 rfl (Nat.le_of_ble_eq_true rfl) rfl dX7_isGuarded_2 (fun H locs hP hD hS => ?_)
  refine lv_if_eq (tgt := 23) hx hb dX7_isGuarded_5 (by decide) (fun c_2 => ?_) (fun c_2 => ?_)
  · have h := (if_pos c_2).symm.trans h
    refine lv_iconst (v := 0) hx hb dX7_isGuarded_23 (by decide) ?_
    obtain rfl := Option.some.inj h
    exact xk_zret rfl hx hb hr hlk hP hD hS (hQ _) dX7_isGuarded_24
  · have h := (if_neg c_2).symm.trans h
    refine lv_aload_n hx hb dX7_isGuarded_8 rfl (lv_at hl 0 rfl) ?_
    refine va_get (ci := 2) (v := .int v_t_guarded) (C := RX7) (T := TX7) (N := 7) hx hb hts hinX7 hown hK.1 hP 0 rfl rfl 5 (by decide) k_0 (fun _ h9 => h9) rfl dX7_isGuarded_9 ?_
    refine lv_iconst (v := 1) hx hb dX7_isGuarded_12 (by decide) ?_
    refine lv_iload_n hx hb dX7_isGuarded_13 rfl (lv_at hl 1 rfl) ?_
    refine lv_ishl hx hb dX7_isGuarded_14 ?_
    refine lv_iand hx hb dX7_isGuarded_15 ?_
    refine lv_if_eq (tgt := 23) hx hb dX7_isGuarded_16 (by decide) (fun c_3 => ?_) (fun c_3 => ?_)
    · have h := (if_pos c_3).symm.trans h
      refine lv_iconst (v := 0) hx hb dX7_isGuarded_23 (by decide) ?_
      obtain rfl := Option.some.inj h
      exact xk_zret rfl hx hb hr hlk hP hD hS (hQ _) dX7_isGuarded_24
    · have h := (if_neg c_3).symm.trans h
      refine lv_iconst (v := 1) hx hb dX7_isGuarded_19 (by decide) ?_
      refine lv_goto (tgt := 24) hx hb dX7_isGuarded_20 (by decide) ?_
      obtain rfl := Option.some.inj h
      exact xk_zret rfl hx hb hr hlk hP hD hS (hQ _) dX7_isGuarded_24
set_option maxHeartbeats 4000000 in
set_option maxRecDepth 100000 in
theorem c_X7_add (l : Launch) (D : va_G) (cA : ClassId) (sa sv : Nat → Nat) (a_t a_t_kinds a_t_figures a_t_causeBits : Nat) (sz : Nat) (v_t_kinds : Nat → Int32) (v_t_figures : Nat → Int32) (v_t_causeBits : Nat → Int32) (v_t_size : Int32) (v_t_lost : Int32) (v_t_guarded : Int32) (v_t_day : Int32) (p1 : Int32) (p2 : Int32) (res : Int32 × (Nat → Int32) × (Nat → Int32) × (Nat → Int32) × Int32) (h : f_X7_add v_t_kinds v_t_figures v_t_causeBits v_t_size p1 p2 = some res) : Met l yX7_add wsX7_add { frames := 1, cells := 0, slots := 0, locals := 20 } (xk_Pc D cA sa sv (wX7 cA a_t a_t_kinds a_t_figures a_t_causeBits v_t_kinds v_t_figures v_t_causeBits v_t_size v_t_lost v_t_guarded v_t_day) sz [.ref a_t, .int p1, .int p2]) (xk_Q D (va_A (wX7 cA a_t a_t_kinds a_t_figures a_t_causeBits v_t_kinds v_t_figures v_t_causeBits v_t_size v_t_lost v_t_guarded v_t_day) sz) (some (.int res.1)) (wX7 cA a_t a_t_kinds a_t_figures a_t_causeBits res.2.1 res.2.2.1 res.2.2.2.1 res.2.2.2.2 v_t_lost v_t_guarded v_t_day)) 0 0 (va_A (wX7 cA a_t a_t_kinds a_t_figures a_t_causeBits v_t_kinds v_t_figures v_t_causeBits v_t_size v_t_lost v_t_guarded v_t_day) sz) := by
  refine xk_met (fun res : Int32 × (Nat → Int32) × (Nat → Int32) × (Nat → Int32) × Int32 => some (.int res.1)) (fun res : Int32 × (Nat → Int32) × (Nat → Int32) × (Nat → Int32) × Int32 => (wX7 cA a_t a_t_kinds a_t_figures a_t_causeBits res.2.1 res.2.2.1 res.2.2.2.1 res.2.2.2.2 v_t_lost v_t_guarded v_t_day)) res (cc := cX7_add) (maxL := 3) (ret := (some .boolean)) (by decide) rfl (Nat.le_of_ble_eq_true rfl) ?_
  intro p e s m args below meth c A Q ls hQ hx hb hr hlk hml hown hts hK hP hD hS hA hl
  have S : CallFix p m c cX7_add 3 s args wsX7_add RX7 := ⟨hx, hb, hml, hown, hts⟩
  have hl : lv_has ls 3 [(0, .ref a_t), (1, .int p1), (2, .int p2)] := hl
  have hinX7 : ∀ w ∈ u_ws RX7 TX7 7, w ∈ wsX7_add := fun _ h => List.mem_cons_of_mem _ (List.mem_append_right _ (h))
  have k_0 := hts (.fieldLink RX7 21 "NailsWantTheKingdom$Realm" "size" "I") (List.mem_of_getElem? (i := 1) (by decide +kernel))
  have k_1 := hts (.fieldLink RX7 11 "NailsWantTheKingdom$Realm" "kinds" "[I") (List.mem_of_getElem? (i := 2) (by decide +kernel))
  have k_2 := hts (.fieldLink RX7 15 "NailsWantTheKingdom$Realm" "figures" "[I") (List.mem_of_getElem? (i := 3) (by decide +kernel))
  have k_3 := hts (.fieldLink RX7 18 "NailsWantTheKingdom$Realm" "causeBits" "[I") (List.mem_of_getElem? (i := 4) (by decide +kernel))
  unfold f_X7_add at h
  refine lv_aload_n hx hb dX7_add_0 rfl (lv_at hl 0 rfl) ?_
  refine va_get (ci := 2) (v := .int v_t_size) (C := RX7) (T := TX7) (N := 7) hx hb hts hinX7 hown hK.1 hP 0 rfl rfl 3 (by decide) k_0 (fun _ h9 => h9) rfl dX7_add_1 ?_
  refine lv_bipush (v := 9) hx hb dX7_add_4 (by decide) ?_
  refine lv_icmp_ge (tgt := 23) hx hb dX7_add_6 (by decide) (fun c_1 => ?_) (fun c_1 => ?_)
  · have h := (if_pos c_1).symm.trans h
    refine lv_iconst (v := 0) hx hb dX7_add_23 (by decide) ?_
    obtain rfl := Option.some.inj h
    exact xk_zret rfl hx hb hr hlk hP hD hS (hQ _) dX7_add_24
  · have h := (if_neg c_1).symm.trans h
    refine lv_iload_n hx hb dX7_add_9 rfl (lv_at hl 1 rfl) ?_
    obtain ⟨x_2, hc_2, h⟩ := bd_some h
    refine xk_S (rest := []) (As := [.int p1]) (stk := [.int x_2]) (wn := (wX7 cA a_t a_t_kinds a_t_figures a_t_causeBits v_t_kinds v_t_figures v_t_causeBits v_t_size v_t_lost v_t_guarded v_t_day)) (v := (some (.int x_2))) (wr := [(a_t, .inr (2, [.ref a_t_kinds, .ref a_t_figures, .ref a_t_causeBits, .int v_t_size, .int v_t_lost, .int v_t_guarded, .int v_t_day])), (a_t_kinds, .inl (cA, 9, .inl v_t_kinds)), (a_t_figures, .inl (cA, 9, .inl v_t_figures)), (a_t_causeBits, .inl (cA, 9, .inl v_t_causeBits))]) gX7_add_X7_isKind rfl hdS_X7_isKind rfl rfl (c_X7_isKind l D cA sa sv _ p1 x_2 hc_2) S hK hP hD hS hA [] [0, 1, 2, 3] [0, 1, 2, 3] rfl rfl rfl rfl rfl rfl rfl ⟨Nat.le_of_ble_eq_true rfl, Nat.le_of_ble_eq_true rfl⟩ ⟨Nat.le_refl 0, Nat.le_refl 0⟩ rfl hl.1 rfl (Nat.le_of_ble_eq_true rfl) rfl dX7_add_10 (fun H locs hP hD hS => ?_)
    refine lv_if_eq (tgt := 23) hx hb dX7_add_13 (by decide) (fun c_3 => ?_) (fun c_3 => ?_)
    · have h := (if_pos c_3).symm.trans h
      refine lv_iconst (v := 0) hx hb dX7_add_23 (by decide) ?_
      obtain rfl := Option.some.inj h
      exact xk_zret rfl hx hb hr hlk hP hD hS (hQ _) dX7_add_24
    · have h := (if_neg c_3).symm.trans h
      refine lv_iload_n hx hb dX7_add_16 rfl (lv_at hl 2 rfl) ?_
      obtain ⟨x_4, hc_4, h⟩ := bd_some h
      refine xk_S (rest := []) (As := [.int p2]) (stk := [.int x_4]) (wn := (wX7 cA a_t a_t_kinds a_t_figures a_t_causeBits v_t_kinds v_t_figures v_t_causeBits v_t_size v_t_lost v_t_guarded v_t_day)) (v := (some (.int x_4))) (wr := [(a_t, .inr (2, [.ref a_t_kinds, .ref a_t_figures, .ref a_t_causeBits, .int v_t_size, .int v_t_lost, .int v_t_guarded, .int v_t_day])), (a_t_kinds, .inl (cA, 9, .inl v_t_kinds)), (a_t_figures, .inl (cA, 9, .inl v_t_figures)), (a_t_causeBits, .inl (cA, 9, .inl v_t_causeBits))]) gX7_add_X7_isFigure rfl hdS_X7_isFigure rfl rfl (c_X7_isFigure l D cA sa sv _ p2 x_4 hc_4) S hK hP hD hS hA [] [0, 1, 2, 3] [0, 1, 2, 3] rfl rfl rfl rfl rfl rfl rfl ⟨Nat.le_of_ble_eq_true rfl, Nat.le_of_ble_eq_true rfl⟩ ⟨Nat.le_refl 0, Nat.le_refl 0⟩ rfl hl.1 rfl (Nat.le_of_ble_eq_true rfl) rfl dX7_add_17 (fun H locs hP hD hS => ?_)
      refine lv_if_ne (tgt := 25) hx hb dX7_add_20 (by decide) (fun c_5 => ?_) (fun c_5 => ?_)
      · have h := (if_neg c_5).symm.trans h
        refine lv_aload_n hx hb dX7_add_25 rfl (lv_at hl 0 rfl) ?_
        refine va_get (ci := 2) (v := .ref a_t_kinds) (C := RX7) (T := TX7) (N := 7) hx hb hts hinX7 hown hK.1 hP 0 rfl rfl 0 (by decide) k_1 (fun _ h9 => h9) rfl dX7_add_26 ?_
        refine lv_aload_n hx hb dX7_add_29 rfl (lv_at hl 0 rfl) ?_
        refine va_get (ci := 2) (v := .int v_t_size) (C := RX7) (T := TX7) (N := 7) hx hb hts hinX7 hown hK.1 hP 0 rfl rfl 3 (by decide) k_0 (fun _ h9 => h9) rfl dX7_add_30 ?_
        refine lv_iload_n hx hb dX7_add_33 rfl (lv_at hl 1 rfl) ?_
        obtain ⟨i_6, h⟩ := xa_some h
        refine va_iast hx hb hK.1 hP hD hS 1 0 rfl rfl i_6 dX7_add_34 (fun H locs hP hD hS => ?_)
        have hP : va_P D vwCl (wX7 cA a_t a_t_kinds a_t_figures a_t_causeBits (upd v_t_kinds (Int32.toNatClampNeg v_t_size) p1) v_t_figures v_t_causeBits v_t_size v_t_lost v_t_guarded v_t_day) H := hP
        have hD : va_D A (wX7 cA a_t a_t_kinds a_t_figures a_t_causeBits (upd v_t_kinds (Int32.toNatClampNeg v_t_size) p1) v_t_figures v_t_causeBits v_t_size v_t_lost v_t_guarded v_t_day) := hD
        refine lv_aload_n hx hb dX7_add_35 rfl (lv_at hl 0 rfl) ?_
        refine va_get (ci := 2) (v := .ref a_t_figures) (C := RX7) (T := TX7) (N := 7) hx hb hts hinX7 hown hK.1 hP 0 rfl rfl 1 (by decide) k_2 (fun _ h9 => h9) rfl dX7_add_36 ?_
        refine lv_aload_n hx hb dX7_add_39 rfl (lv_at hl 0 rfl) ?_
        refine va_get (ci := 2) (v := .int v_t_size) (C := RX7) (T := TX7) (N := 7) hx hb hts hinX7 hown hK.1 hP 0 rfl rfl 3 (by decide) k_0 (fun _ h9 => h9) rfl dX7_add_40 ?_
        refine lv_iload_n hx hb dX7_add_43 rfl (lv_at hl 2 rfl) ?_
        obtain ⟨i_7, h⟩ := xa_some h
        refine va_iast hx hb hK.1 hP hD hS 2 0 rfl rfl i_7 dX7_add_44 (fun H locs hP hD hS => ?_)
        have hP : va_P D vwCl (wX7 cA a_t a_t_kinds a_t_figures a_t_causeBits (upd v_t_kinds (Int32.toNatClampNeg v_t_size) p1) (upd v_t_figures (Int32.toNatClampNeg v_t_size) p2) v_t_causeBits v_t_size v_t_lost v_t_guarded v_t_day) H := hP
        have hD : va_D A (wX7 cA a_t a_t_kinds a_t_figures a_t_causeBits (upd v_t_kinds (Int32.toNatClampNeg v_t_size) p1) (upd v_t_figures (Int32.toNatClampNeg v_t_size) p2) v_t_causeBits v_t_size v_t_lost v_t_guarded v_t_day) := hD
        refine lv_aload_n hx hb dX7_add_45 rfl (lv_at hl 0 rfl) ?_
        refine va_get (ci := 2) (v := .ref a_t_causeBits) (C := RX7) (T := TX7) (N := 7) hx hb hts hinX7 hown hK.1 hP 0 rfl rfl 2 (by decide) k_3 (fun _ h9 => h9) rfl dX7_add_46 ?_
        refine lv_aload_n hx hb dX7_add_49 rfl (lv_at hl 0 rfl) ?_
        refine va_get (ci := 2) (v := .int v_t_size) (C := RX7) (T := TX7) (N := 7) hx hb hts hinX7 hown hK.1 hP 0 rfl rfl 3 (by decide) k_0 (fun _ h9 => h9) rfl dX7_add_50 ?_
        refine lv_iconst (v := 0) hx hb dX7_add_53 (by decide) ?_
        obtain ⟨i_8, h⟩ := xa_some h
        refine va_iast hx hb hK.1 hP hD hS 3 0 rfl rfl i_8 dX7_add_54 (fun H locs hP hD hS => ?_)
        have hP : va_P D vwCl (wX7 cA a_t a_t_kinds a_t_figures a_t_causeBits (upd v_t_kinds (Int32.toNatClampNeg v_t_size) p1) (upd v_t_figures (Int32.toNatClampNeg v_t_size) p2) (upd v_t_causeBits (Int32.toNatClampNeg v_t_size) 0) v_t_size v_t_lost v_t_guarded v_t_day) H := hP
        have hD : va_D A (wX7 cA a_t a_t_kinds a_t_figures a_t_causeBits (upd v_t_kinds (Int32.toNatClampNeg v_t_size) p1) (upd v_t_figures (Int32.toNatClampNeg v_t_size) p2) (upd v_t_causeBits (Int32.toNatClampNeg v_t_size) 0) v_t_size v_t_lost v_t_guarded v_t_day) := hD
        refine lv_aload_n hx hb dX7_add_55 rfl (lv_at hl 0 rfl) ?_
        refine lv_dup hx hb dX7_add_56 rfl ?_
        refine va_get (ci := 2) (v := .int v_t_size) (C := RX7) (T := TX7) (N := 7) hx hb hts hinX7 hown hK.1 hP 0 rfl rfl 3 (by decide) k_0 (fun _ h9 => h9) rfl dX7_add_57 ?_
        refine lv_iconst (v := 1) hx hb dX7_add_60 (by decide) ?_
        refine lv_iadd hx hb dX7_add_61 ?_
        refine va_put (ci := 2) (v := .int (v_t_size + 1)) (ty := tyX7 3) (C := RX7) (T := TX7) (N := 7) hx hb hts hinX7 tyX7 tyX7_ok nmX7 hown hK.1 hP hD hS 0 rfl rfl 3 (by decide) k_0 (fun _ h9 => h9) rfl (tyX7_ok 3 (by decide)) rfl rfl (Nat.le_of_ble_eq_true rfl) dX7_add_62 (fun H locs hP hD hS => ?_)
        have hP : va_P D vwCl (wX7 cA a_t a_t_kinds a_t_figures a_t_causeBits (upd v_t_kinds (Int32.toNatClampNeg v_t_size) p1) (upd v_t_figures (Int32.toNatClampNeg v_t_size) p2) (upd v_t_causeBits (Int32.toNatClampNeg v_t_size) 0) (v_t_size + 1) v_t_lost v_t_guarded v_t_day) H := hP
        have hD : va_D A (wX7 cA a_t a_t_kinds a_t_figures a_t_causeBits (upd v_t_kinds (Int32.toNatClampNeg v_t_size) p1) (upd v_t_figures (Int32.toNatClampNeg v_t_size) p2) (upd v_t_causeBits (Int32.toNatClampNeg v_t_size) 0) (v_t_size + 1) v_t_lost v_t_guarded v_t_day) := hD
        refine lv_iconst (v := 1) hx hb dX7_add_65 (by decide) ?_
        obtain rfl := Option.some.inj h
        exact xk_zret rfl hx hb hr hlk hP hD hS (hQ _) dX7_add_66
      · have h := (if_pos c_5).symm.trans h
        refine lv_iconst (v := 0) hx hb dX7_add_23 (by decide) ?_
        obtain rfl := Option.some.inj h
        exact xk_zret rfl hx hb hr hlk hP hD hS (hQ _) dX7_add_24
set_option maxHeartbeats 4000000 in
set_option maxRecDepth 100000 in
theorem c_X7_setKind (l : Launch) (D : va_G) (cA : ClassId) (sa sv : Nat → Nat) (a_t a_t_kinds a_t_figures a_t_causeBits : Nat) (sz : Nat) (v_t_kinds : Nat → Int32) (v_t_figures : Nat → Int32) (v_t_causeBits : Nat → Int32) (v_t_size : Int32) (v_t_lost : Int32) (v_t_guarded : Int32) (v_t_day : Int32) (p1 : Int32) (p2 : Int32) (res : (Nat → Int32)) (h : f_X7_setKind v_t_kinds v_t_size p1 p2 = some res) : Met l yX7_setKind wsX7_setKind { frames := 1, cells := 0, slots := 0, locals := 21 } (xk_Pc D cA sa sv (wX7 cA a_t a_t_kinds a_t_figures a_t_causeBits v_t_kinds v_t_figures v_t_causeBits v_t_size v_t_lost v_t_guarded v_t_day) sz [.ref a_t, .int p1, .int p2]) (xk_Q D (va_A (wX7 cA a_t a_t_kinds a_t_figures a_t_causeBits v_t_kinds v_t_figures v_t_causeBits v_t_size v_t_lost v_t_guarded v_t_day) sz) (none) (wX7 cA a_t a_t_kinds a_t_figures a_t_causeBits res v_t_figures v_t_causeBits v_t_size v_t_lost v_t_guarded v_t_day)) 0 0 (va_A (wX7 cA a_t a_t_kinds a_t_figures a_t_causeBits v_t_kinds v_t_figures v_t_causeBits v_t_size v_t_lost v_t_guarded v_t_day) sz) := by
  refine xk_met (fun res : (Nat → Int32) => none) (fun res : (Nat → Int32) => (wX7 cA a_t a_t_kinds a_t_figures a_t_causeBits res v_t_figures v_t_causeBits v_t_size v_t_lost v_t_guarded v_t_day)) res (cc := cX7_setKind) (maxL := 3) (ret := none) (by decide) rfl (Nat.le_of_ble_eq_true rfl) ?_
  intro p e s m args below meth c A Q ls hQ hx hb hr hlk hml hown hts hK hP hD hS hA hl
  have S : CallFix p m c cX7_setKind 3 s args wsX7_setKind RX7 := ⟨hx, hb, hml, hown, hts⟩
  have hl : lv_has ls 3 [(0, .ref a_t), (1, .int p1), (2, .int p2)] := hl
  have hinX7 : ∀ w ∈ u_ws RX7 TX7 7, w ∈ wsX7_setKind := fun _ h => List.mem_cons_of_mem _ (List.mem_append_right _ (h))
  have k_0 := hts (.fieldLink RX7 11 "NailsWantTheKingdom$Realm" "kinds" "[I") (List.mem_of_getElem? (i := 1) (by decide +kernel))
  unfold f_X7_setKind at h
  refine lv_aload_n hx hb dX7_setKind_0 rfl (lv_at hl 0 rfl) ?_
  refine lv_iload_n hx hb dX7_setKind_1 rfl (lv_at hl 1 rfl) ?_
  obtain ⟨x_1, hc_1, h⟩ := bd_some h
  refine xk_V (rest := []) (As := [.int p1]) (stk := [.int x_1]) (wn := (wX7 cA a_t a_t_kinds a_t_figures a_t_causeBits v_t_kinds v_t_figures v_t_causeBits v_t_size v_t_lost v_t_guarded v_t_day)) (v := (some (.int x_1))) (wr := []) gX7_setKind_X7_has rfl hdV_X7_has rfl rfl (c_X7_has l D cA sa sv a_t a_t_kinds a_t_figures a_t_causeBits _ v_t_kinds v_t_figures v_t_causeBits v_t_size v_t_lost v_t_guarded v_t_day p1 x_1 hc_1) (ci := 2) rfl (q0 := 0) rfl S hK hP hD hS hA [0, 1, 2, 3] [] [0, 1, 2, 3] rfl rfl rfl rfl rfl rfl rfl ⟨Nat.le_of_ble_eq_true rfl, Nat.le_of_ble_eq_true rfl⟩ ⟨Nat.le_refl 0, Nat.le_refl 0⟩ rfl hl.1 rfl (Nat.le_of_ble_eq_true rfl) rfl dX7_setKind_2 (fun H locs hP hD hS => ?_)
  refine lv_if_eq (tgt := 22) hx hb dX7_setKind_5 (by decide) (fun c_2 => ?_) (fun c_2 => ?_)
  · have h := (if_pos c_2).symm.trans h
    obtain rfl := Option.some.inj h
    exact xk_vret hx hb hr hlk hP hD hS (hQ _) dX7_setKind_22
  · have h := (if_neg c_2).symm.trans h
    refine lv_iload_n hx hb dX7_setKind_8 rfl (lv_at hl 2 rfl) ?_
    obtain ⟨x_3, hc_3, h⟩ := bd_some h
    refine xk_S (rest := []) (As := [.int p2]) (stk := [.int x_3]) (wn := (wX7 cA a_t a_t_kinds a_t_figures a_t_causeBits v_t_kinds v_t_figures v_t_causeBits v_t_size v_t_lost v_t_guarded v_t_day)) (v := (some (.int x_3))) (wr := [(a_t, .inr (2, [.ref a_t_kinds, .ref a_t_figures, .ref a_t_causeBits, .int v_t_size, .int v_t_lost, .int v_t_guarded, .int v_t_day])), (a_t_kinds, .inl (cA, 9, .inl v_t_kinds)), (a_t_figures, .inl (cA, 9, .inl v_t_figures)), (a_t_causeBits, .inl (cA, 9, .inl v_t_causeBits))]) gX7_setKind_X7_isKind rfl hdS_X7_isKind rfl rfl (c_X7_isKind l D cA sa sv _ p2 x_3 hc_3) S hK hP hD hS hA [] [0, 1, 2, 3] [0, 1, 2, 3] rfl rfl rfl rfl rfl rfl rfl ⟨Nat.le_of_ble_eq_true rfl, Nat.le_of_ble_eq_true rfl⟩ ⟨Nat.le_refl 0, Nat.le_refl 0⟩ rfl hl.1 rfl (Nat.le_of_ble_eq_true rfl) rfl dX7_setKind_9 (fun H locs hP hD hS => ?_)
    refine lv_if_eq (tgt := 22) hx hb dX7_setKind_12 (by decide) (fun c_4 => ?_) (fun c_4 => ?_)
    · have h := (if_pos c_4).symm.trans h
      obtain rfl := Option.some.inj h
      exact xk_vret hx hb hr hlk hP hD hS (hQ _) dX7_setKind_22
    · have h := (if_neg c_4).symm.trans h
      refine lv_aload_n hx hb dX7_setKind_15 rfl (lv_at hl 0 rfl) ?_
      refine va_get (ci := 2) (v := .ref a_t_kinds) (C := RX7) (T := TX7) (N := 7) hx hb hts hinX7 hown hK.1 hP 0 rfl rfl 0 (by decide) k_0 (fun _ h9 => h9) rfl dX7_setKind_16 ?_
      refine lv_iload_n hx hb dX7_setKind_19 rfl (lv_at hl 1 rfl) ?_
      refine lv_iload_n hx hb dX7_setKind_20 rfl (lv_at hl 2 rfl) ?_
      obtain ⟨i_5, h⟩ := xa_some h
      refine va_iast hx hb hK.1 hP hD hS 1 0 rfl rfl i_5 dX7_setKind_21 (fun H locs hP hD hS => ?_)
      have hP : va_P D vwCl (wX7 cA a_t a_t_kinds a_t_figures a_t_causeBits (upd v_t_kinds (Int32.toNatClampNeg p1) p2) v_t_figures v_t_causeBits v_t_size v_t_lost v_t_guarded v_t_day) H := hP
      have hD : va_D A (wX7 cA a_t a_t_kinds a_t_figures a_t_causeBits (upd v_t_kinds (Int32.toNatClampNeg p1) p2) v_t_figures v_t_causeBits v_t_size v_t_lost v_t_guarded v_t_day) := hD
      obtain rfl := Option.some.inj h
      exact xk_vret hx hb hr hlk hP hD hS (hQ _) dX7_setKind_22
set_option maxHeartbeats 4000000 in
set_option maxRecDepth 100000 in
theorem c_X7_setFigure (l : Launch) (D : va_G) (cA : ClassId) (sa sv : Nat → Nat) (a_t a_t_kinds a_t_figures a_t_causeBits : Nat) (sz : Nat) (v_t_kinds : Nat → Int32) (v_t_figures : Nat → Int32) (v_t_causeBits : Nat → Int32) (v_t_size : Int32) (v_t_lost : Int32) (v_t_guarded : Int32) (v_t_day : Int32) (p1 : Int32) (p2 : Int32) (res : (Nat → Int32)) (h : f_X7_setFigure v_t_figures v_t_size p1 p2 = some res) : Met l yX7_setFigure wsX7_setFigure { frames := 1, cells := 0, slots := 0, locals := 21 } (xk_Pc D cA sa sv (wX7 cA a_t a_t_kinds a_t_figures a_t_causeBits v_t_kinds v_t_figures v_t_causeBits v_t_size v_t_lost v_t_guarded v_t_day) sz [.ref a_t, .int p1, .int p2]) (xk_Q D (va_A (wX7 cA a_t a_t_kinds a_t_figures a_t_causeBits v_t_kinds v_t_figures v_t_causeBits v_t_size v_t_lost v_t_guarded v_t_day) sz) (none) (wX7 cA a_t a_t_kinds a_t_figures a_t_causeBits v_t_kinds res v_t_causeBits v_t_size v_t_lost v_t_guarded v_t_day)) 0 0 (va_A (wX7 cA a_t a_t_kinds a_t_figures a_t_causeBits v_t_kinds v_t_figures v_t_causeBits v_t_size v_t_lost v_t_guarded v_t_day) sz) := by
  refine xk_met (fun res : (Nat → Int32) => none) (fun res : (Nat → Int32) => (wX7 cA a_t a_t_kinds a_t_figures a_t_causeBits v_t_kinds res v_t_causeBits v_t_size v_t_lost v_t_guarded v_t_day)) res (cc := cX7_setFigure) (maxL := 3) (ret := none) (by decide) rfl (Nat.le_of_ble_eq_true rfl) ?_
  intro p e s m args below meth c A Q ls hQ hx hb hr hlk hml hown hts hK hP hD hS hA hl
  have S : CallFix p m c cX7_setFigure 3 s args wsX7_setFigure RX7 := ⟨hx, hb, hml, hown, hts⟩
  have hl : lv_has ls 3 [(0, .ref a_t), (1, .int p1), (2, .int p2)] := hl
  have hinX7 : ∀ w ∈ u_ws RX7 TX7 7, w ∈ wsX7_setFigure := fun _ h => List.mem_cons_of_mem _ (List.mem_append_right _ (h))
  have k_0 := hts (.fieldLink RX7 15 "NailsWantTheKingdom$Realm" "figures" "[I") (List.mem_of_getElem? (i := 1) (by decide +kernel))
  unfold f_X7_setFigure at h
  refine lv_aload_n hx hb dX7_setFigure_0 rfl (lv_at hl 0 rfl) ?_
  refine lv_iload_n hx hb dX7_setFigure_1 rfl (lv_at hl 1 rfl) ?_
  obtain ⟨x_1, hc_1, h⟩ := bd_some h
  refine xk_V (rest := []) (As := [.int p1]) (stk := [.int x_1]) (wn := (wX7 cA a_t a_t_kinds a_t_figures a_t_causeBits v_t_kinds v_t_figures v_t_causeBits v_t_size v_t_lost v_t_guarded v_t_day)) (v := (some (.int x_1))) (wr := []) gX7_setFigure_X7_has rfl hdV_X7_has rfl rfl (c_X7_has l D cA sa sv a_t a_t_kinds a_t_figures a_t_causeBits _ v_t_kinds v_t_figures v_t_causeBits v_t_size v_t_lost v_t_guarded v_t_day p1 x_1 hc_1) (ci := 2) rfl (q0 := 0) rfl S hK hP hD hS hA [0, 1, 2, 3] [] [0, 1, 2, 3] rfl rfl rfl rfl rfl rfl rfl ⟨Nat.le_of_ble_eq_true rfl, Nat.le_of_ble_eq_true rfl⟩ ⟨Nat.le_refl 0, Nat.le_refl 0⟩ rfl hl.1 rfl (Nat.le_of_ble_eq_true rfl) rfl dX7_setFigure_2 (fun H locs hP hD hS => ?_)
  refine lv_if_eq (tgt := 22) hx hb dX7_setFigure_5 (by decide) (fun c_2 => ?_) (fun c_2 => ?_)
  · have h := (if_pos c_2).symm.trans h
    obtain rfl := Option.some.inj h
    exact xk_vret hx hb hr hlk hP hD hS (hQ _) dX7_setFigure_22
  · have h := (if_neg c_2).symm.trans h
    refine lv_iload_n hx hb dX7_setFigure_8 rfl (lv_at hl 2 rfl) ?_
    obtain ⟨x_3, hc_3, h⟩ := bd_some h
    refine xk_S (rest := []) (As := [.int p2]) (stk := [.int x_3]) (wn := (wX7 cA a_t a_t_kinds a_t_figures a_t_causeBits v_t_kinds v_t_figures v_t_causeBits v_t_size v_t_lost v_t_guarded v_t_day)) (v := (some (.int x_3))) (wr := [(a_t, .inr (2, [.ref a_t_kinds, .ref a_t_figures, .ref a_t_causeBits, .int v_t_size, .int v_t_lost, .int v_t_guarded, .int v_t_day])), (a_t_kinds, .inl (cA, 9, .inl v_t_kinds)), (a_t_figures, .inl (cA, 9, .inl v_t_figures)), (a_t_causeBits, .inl (cA, 9, .inl v_t_causeBits))]) gX7_setFigure_X7_isFigure rfl hdS_X7_isFigure rfl rfl (c_X7_isFigure l D cA sa sv _ p2 x_3 hc_3) S hK hP hD hS hA [] [0, 1, 2, 3] [0, 1, 2, 3] rfl rfl rfl rfl rfl rfl rfl ⟨Nat.le_of_ble_eq_true rfl, Nat.le_of_ble_eq_true rfl⟩ ⟨Nat.le_refl 0, Nat.le_refl 0⟩ rfl hl.1 rfl (Nat.le_of_ble_eq_true rfl) rfl dX7_setFigure_9 (fun H locs hP hD hS => ?_)
    refine lv_if_eq (tgt := 22) hx hb dX7_setFigure_12 (by decide) (fun c_4 => ?_) (fun c_4 => ?_)
    · have h := (if_pos c_4).symm.trans h
      obtain rfl := Option.some.inj h
      exact xk_vret hx hb hr hlk hP hD hS (hQ _) dX7_setFigure_22
    · have h := (if_neg c_4).symm.trans h
      refine lv_aload_n hx hb dX7_setFigure_15 rfl (lv_at hl 0 rfl) ?_
      refine va_get (ci := 2) (v := .ref a_t_figures) (C := RX7) (T := TX7) (N := 7) hx hb hts hinX7 hown hK.1 hP 0 rfl rfl 1 (by decide) k_0 (fun _ h9 => h9) rfl dX7_setFigure_16 ?_
      refine lv_iload_n hx hb dX7_setFigure_19 rfl (lv_at hl 1 rfl) ?_
      refine lv_iload_n hx hb dX7_setFigure_20 rfl (lv_at hl 2 rfl) ?_
      obtain ⟨i_5, h⟩ := xa_some h
      refine va_iast hx hb hK.1 hP hD hS 2 0 rfl rfl i_5 dX7_setFigure_21 (fun H locs hP hD hS => ?_)
      have hP : va_P D vwCl (wX7 cA a_t a_t_kinds a_t_figures a_t_causeBits v_t_kinds (upd v_t_figures (Int32.toNatClampNeg p1) p2) v_t_causeBits v_t_size v_t_lost v_t_guarded v_t_day) H := hP
      have hD : va_D A (wX7 cA a_t a_t_kinds a_t_figures a_t_causeBits v_t_kinds (upd v_t_figures (Int32.toNatClampNeg p1) p2) v_t_causeBits v_t_size v_t_lost v_t_guarded v_t_day) := hD
      obtain rfl := Option.some.inj h
      exact xk_vret hx hb hr hlk hP hD hS (hQ _) dX7_setFigure_22
set_option maxHeartbeats 4000000 in
set_option maxRecDepth 100000 in
theorem c_X7_flipCause (l : Launch) (D : va_G) (cA : ClassId) (sa sv : Nat → Nat) (a_t a_t_kinds a_t_figures a_t_causeBits : Nat) (sz : Nat) (v_t_kinds : Nat → Int32) (v_t_figures : Nat → Int32) (v_t_causeBits : Nat → Int32) (v_t_size : Int32) (v_t_lost : Int32) (v_t_guarded : Int32) (v_t_day : Int32) (p1 : Int32) (p2 : Int32) (res : Int32 × (Nat → Int32)) (h : f_X7_flipCause v_t_causeBits v_t_size p1 p2 = some res) : Met l yX7_flipCause wsX7_flipCause { frames := 1, cells := 0, slots := 0, locals := 21 } (xk_Pc D cA sa sv (wX7 cA a_t a_t_kinds a_t_figures a_t_causeBits v_t_kinds v_t_figures v_t_causeBits v_t_size v_t_lost v_t_guarded v_t_day) sz [.ref a_t, .int p1, .int p2]) (xk_Q D (va_A (wX7 cA a_t a_t_kinds a_t_figures a_t_causeBits v_t_kinds v_t_figures v_t_causeBits v_t_size v_t_lost v_t_guarded v_t_day) sz) (some (.int res.1)) (wX7 cA a_t a_t_kinds a_t_figures a_t_causeBits v_t_kinds v_t_figures res.2 v_t_size v_t_lost v_t_guarded v_t_day)) 0 0 (va_A (wX7 cA a_t a_t_kinds a_t_figures a_t_causeBits v_t_kinds v_t_figures v_t_causeBits v_t_size v_t_lost v_t_guarded v_t_day) sz) := by
  refine xk_met (fun res : Int32 × (Nat → Int32) => some (.int res.1)) (fun res : Int32 × (Nat → Int32) => (wX7 cA a_t a_t_kinds a_t_figures a_t_causeBits v_t_kinds v_t_figures res.2 v_t_size v_t_lost v_t_guarded v_t_day)) res (cc := cX7_flipCause) (maxL := 3) (ret := (some .boolean)) (by decide) rfl (Nat.le_of_ble_eq_true rfl) ?_
  intro p e s m args below meth c A Q ls hQ hx hb hr hlk hml hown hts hK hP hD hS hA hl
  have S : CallFix p m c cX7_flipCause 3 s args wsX7_flipCause RX7 := ⟨hx, hb, hml, hown, hts⟩
  have hl : lv_has ls 3 [(0, .ref a_t), (1, .int p1), (2, .int p2)] := hl
  have hinX7 : ∀ w ∈ u_ws RX7 TX7 7, w ∈ wsX7_flipCause := fun _ h => List.mem_cons_of_mem _ (List.mem_append_right _ (h))
  have k_0 := hts (.fieldLink RX7 18 "NailsWantTheKingdom$Realm" "causeBits" "[I") (List.mem_of_getElem? (i := 1) (by decide +kernel))
  unfold f_X7_flipCause at h
  refine lv_aload_n hx hb dX7_flipCause_0 rfl (lv_at hl 0 rfl) ?_
  refine lv_iload_n hx hb dX7_flipCause_1 rfl (lv_at hl 1 rfl) ?_
  obtain ⟨x_1, hc_1, h⟩ := bd_some h
  refine xk_V (rest := []) (As := [.int p1]) (stk := [.int x_1]) (wn := (wX7 cA a_t a_t_kinds a_t_figures a_t_causeBits v_t_kinds v_t_figures v_t_causeBits v_t_size v_t_lost v_t_guarded v_t_day)) (v := (some (.int x_1))) (wr := []) gX7_flipCause_X7_has rfl hdV_X7_has rfl rfl (c_X7_has l D cA sa sv a_t a_t_kinds a_t_figures a_t_causeBits _ v_t_kinds v_t_figures v_t_causeBits v_t_size v_t_lost v_t_guarded v_t_day p1 x_1 hc_1) (ci := 2) rfl (q0 := 0) rfl S hK hP hD hS hA [0, 1, 2, 3] [] [0, 1, 2, 3] rfl rfl rfl rfl rfl rfl rfl ⟨Nat.le_of_ble_eq_true rfl, Nat.le_of_ble_eq_true rfl⟩ ⟨Nat.le_refl 0, Nat.le_refl 0⟩ rfl hl.1 rfl (Nat.le_of_ble_eq_true rfl) rfl dX7_flipCause_2 (fun H locs hP hD hS => ?_)
  refine lv_if_eq (tgt := 21) hx hb dX7_flipCause_5 (by decide) (fun c_2 => ?_) (fun c_2 => ?_)
  · have h := (if_pos c_2).symm.trans h
    refine lv_iconst (v := 0) hx hb dX7_flipCause_21 (by decide) ?_
    obtain rfl := Option.some.inj h
    exact xk_zret rfl hx hb hr hlk hP hD hS (hQ _) dX7_flipCause_22
  · have h := (if_neg c_2).symm.trans h
    refine lv_aload_n hx hb dX7_flipCause_8 rfl (lv_at hl 0 rfl) ?_
    refine lv_iload_n hx hb dX7_flipCause_9 rfl (lv_at hl 2 rfl) ?_
    obtain ⟨x_3, hc_3, h⟩ := bd_some h
    refine xk_V (rest := []) (As := [.int p2]) (stk := [.int x_3]) (wn := (wX7 cA a_t a_t_kinds a_t_figures a_t_causeBits v_t_kinds v_t_figures v_t_causeBits v_t_size v_t_lost v_t_guarded v_t_day)) (v := (some (.int x_3))) (wr := []) gX7_flipCause_X7_has rfl hdV_X7_has rfl rfl (c_X7_has l D cA sa sv a_t a_t_kinds a_t_figures a_t_causeBits _ v_t_kinds v_t_figures v_t_causeBits v_t_size v_t_lost v_t_guarded v_t_day p2 x_3 hc_3) (ci := 2) rfl (q0 := 0) rfl S hK hP hD hS hA [0, 1, 2, 3] [] [0, 1, 2, 3] rfl rfl rfl rfl rfl rfl rfl ⟨Nat.le_of_ble_eq_true rfl, Nat.le_of_ble_eq_true rfl⟩ ⟨Nat.le_refl 0, Nat.le_refl 0⟩ rfl hl.1 rfl (Nat.le_of_ble_eq_true rfl) rfl dX7_flipCause_10 (fun H locs hP hD hS => ?_)
    refine lv_if_eq (tgt := 21) hx hb dX7_flipCause_13 (by decide) (fun c_4 => ?_) (fun c_4 => ?_)
    · have h := (if_pos c_4).symm.trans h
      refine lv_iconst (v := 0) hx hb dX7_flipCause_21 (by decide) ?_
      obtain rfl := Option.some.inj h
      exact xk_zret rfl hx hb hr hlk hP hD hS (hQ _) dX7_flipCause_22
    · have h := (if_neg c_4).symm.trans h
      refine lv_iload_n hx hb dX7_flipCause_16 rfl (lv_at hl 2 rfl) ?_
      refine lv_iload_n hx hb dX7_flipCause_17 rfl (lv_at hl 1 rfl) ?_
      refine lv_icmp_lt (tgt := 23) hx hb dX7_flipCause_18 (by decide) (fun c_5 => ?_) (fun c_5 => ?_)
      · have h := (if_pos c_5).symm.trans h
        refine lv_aload_n hx hb dX7_flipCause_23 rfl (lv_at hl 0 rfl) ?_
        refine va_get (ci := 2) (v := .ref a_t_causeBits) (C := RX7) (T := TX7) (N := 7) hx hb hts hinX7 hown hK.1 hP 0 rfl rfl 2 (by decide) k_0 (fun _ h9 => h9) rfl dX7_flipCause_24 ?_
        refine lv_iload_n hx hb dX7_flipCause_27 rfl (lv_at hl 1 rfl) ?_
        refine lv_dup2_11 hx hb dX7_flipCause_28 rfl rfl ?_
        obtain ⟨i_6, h⟩ := xa_some h
        refine va_iald hx hb hK.1 hP 3 0 rfl rfl i_6 dX7_flipCause_29 ?_
        refine lv_iconst (v := 1) hx hb dX7_flipCause_30 (by decide) ?_
        refine lv_iload_n hx hb dX7_flipCause_31 rfl (lv_at hl 2 rfl) ?_
        refine lv_ishl hx hb dX7_flipCause_32 ?_
        refine lv_ixor hx hb dX7_flipCause_33 ?_
        obtain ⟨i_7, h⟩ := xa_some h
        refine va_iast hx hb hK.1 hP hD hS 3 0 rfl rfl i_7 dX7_flipCause_34 (fun H locs hP hD hS => ?_)
        have hP : va_P D vwCl (wX7 cA a_t a_t_kinds a_t_figures a_t_causeBits v_t_kinds v_t_figures (upd v_t_causeBits (Int32.toNatClampNeg p1) ((v_t_causeBits (Int32.toNatClampNeg p1)) ^^^ (1 <<< (p2 &&& 31)))) v_t_size v_t_lost v_t_guarded v_t_day) H := hP
        have hD : va_D A (wX7 cA a_t a_t_kinds a_t_figures a_t_causeBits v_t_kinds v_t_figures (upd v_t_causeBits (Int32.toNatClampNeg p1) ((v_t_causeBits (Int32.toNatClampNeg p1)) ^^^ (1 <<< (p2 &&& 31)))) v_t_size v_t_lost v_t_guarded v_t_day) := hD
        refine lv_iconst (v := 1) hx hb dX7_flipCause_35 (by decide) ?_
        obtain rfl := Option.some.inj h
        exact xk_zret rfl hx hb hr hlk hP hD hS (hQ _) dX7_flipCause_36
      · have h := (if_neg c_5).symm.trans h
        refine lv_iconst (v := 0) hx hb dX7_flipCause_21 (by decide) ?_
        obtain rfl := Option.some.inj h
        exact xk_zret rfl hx hb hr hlk hP hD hS (hQ _) dX7_flipCause_22
set_option maxHeartbeats 4000000 in
set_option maxRecDepth 100000 in
theorem c_X7_lose (l : Launch) (D : va_G) (cA : ClassId) (sa sv : Nat → Nat) (a_t a_t_kinds a_t_figures a_t_causeBits : Nat) (sz : Nat) (v_t_kinds : Nat → Int32) (v_t_figures : Nat → Int32) (v_t_causeBits : Nat → Int32) (v_t_size : Int32) (v_t_lost : Int32) (v_t_guarded : Int32) (v_t_day : Int32) (p1 : Int32) (res : Int32 × Int32) (h : f_X7_lose v_t_size v_t_lost v_t_guarded p1 = some res) : Met l yX7_lose wsX7_lose { frames := 2, cells := 0, slots := 0, locals := 42 } (xk_Pc D cA sa sv (wX7 cA a_t a_t_kinds a_t_figures a_t_causeBits v_t_kinds v_t_figures v_t_causeBits v_t_size v_t_lost v_t_guarded v_t_day) sz [.ref a_t, .int p1]) (xk_Q D (va_A (wX7 cA a_t a_t_kinds a_t_figures a_t_causeBits v_t_kinds v_t_figures v_t_causeBits v_t_size v_t_lost v_t_guarded v_t_day) sz) (some (.int res.1)) (wX7 cA a_t a_t_kinds a_t_figures a_t_causeBits v_t_kinds v_t_figures v_t_causeBits v_t_size res.2 v_t_guarded v_t_day)) 0 0 (va_A (wX7 cA a_t a_t_kinds a_t_figures a_t_causeBits v_t_kinds v_t_figures v_t_causeBits v_t_size v_t_lost v_t_guarded v_t_day) sz) := by
  refine xk_met (fun res : Int32 × Int32 => some (.int res.1)) (fun res : Int32 × Int32 => (wX7 cA a_t a_t_kinds a_t_figures a_t_causeBits v_t_kinds v_t_figures v_t_causeBits v_t_size res.2 v_t_guarded v_t_day)) res (cc := cX7_lose) (maxL := 2) (ret := (some .boolean)) (by decide) rfl (Nat.le_of_ble_eq_true rfl) ?_
  intro p e s m args below meth c A Q ls hQ hx hb hr hlk hml hown hts hK hP hD hS hA hl
  have S : CallFix p m c cX7_lose 2 s args wsX7_lose RX7 := ⟨hx, hb, hml, hown, hts⟩
  have hl : lv_has ls 2 [(0, .ref a_t), (1, .int p1)] := hl
  have hinX7 : ∀ w ∈ u_ws RX7 TX7 7, w ∈ wsX7_lose := fun _ h => List.mem_cons_of_mem _ (List.mem_append_right _ (h))
  have k_0 := hts (.fieldLink RX7 25 "NailsWantTheKingdom$Realm" "lost" "I") (List.mem_of_getElem? (i := 1) (by decide +kernel))
  unfold f_X7_lose at h
  refine lv_aload_n hx hb dX7_lose_0 rfl (lv_at hl 0 rfl) ?_
  refine lv_iload_n hx hb dX7_lose_1 rfl (lv_at hl 1 rfl) ?_
  obtain ⟨x_1, hc_1, h⟩ := bd_some h
  refine xk_V (rest := []) (As := [.int p1]) (stk := [.int x_1]) (wn := (wX7 cA a_t a_t_kinds a_t_figures a_t_causeBits v_t_kinds v_t_figures v_t_causeBits v_t_size v_t_lost v_t_guarded v_t_day)) (v := (some (.int x_1))) (wr := []) gX7_lose_X7_has rfl hdV_X7_has rfl rfl (c_X7_has l D cA sa sv a_t a_t_kinds a_t_figures a_t_causeBits _ v_t_kinds v_t_figures v_t_causeBits v_t_size v_t_lost v_t_guarded v_t_day p1 x_1 hc_1) (ci := 2) rfl (q0 := 0) rfl S hK hP hD hS hA [0, 1, 2, 3] [] [0, 1, 2, 3] rfl rfl rfl rfl rfl rfl rfl ⟨Nat.le_of_ble_eq_true rfl, Nat.le_of_ble_eq_true rfl⟩ ⟨Nat.le_refl 0, Nat.le_refl 0⟩ rfl hl.1 rfl (Nat.le_of_ble_eq_true rfl) rfl dX7_lose_2 (fun H locs hP hD hS => ?_)
  refine lv_if_eq (tgt := 16) hx hb dX7_lose_5 (by decide) (fun c_2 => ?_) (fun c_2 => ?_)
  · have h := (if_pos c_2).symm.trans h
    refine lv_iconst (v := 0) hx hb dX7_lose_16 (by decide) ?_
    obtain rfl := Option.some.inj h
    exact xk_zret rfl hx hb hr hlk hP hD hS (hQ _) dX7_lose_17
  · have h := (if_neg c_2).symm.trans h
    refine lv_aload_n hx hb dX7_lose_8 rfl (lv_at hl 0 rfl) ?_
    refine lv_iload_n hx hb dX7_lose_9 rfl (lv_at hl 1 rfl) ?_
    obtain ⟨x_3, hc_3, h⟩ := bd_some h
    refine xk_V (rest := []) (As := [.int p1]) (stk := [.int x_3]) (wn := (wX7 cA a_t a_t_kinds a_t_figures a_t_causeBits v_t_kinds v_t_figures v_t_causeBits v_t_size v_t_lost v_t_guarded v_t_day)) (v := (some (.int x_3))) (wr := []) gX7_lose_X7_isGuarded rfl hdV_X7_isGuarded rfl rfl (c_X7_isGuarded l D cA sa sv a_t a_t_kinds a_t_figures a_t_causeBits _ v_t_kinds v_t_figures v_t_causeBits v_t_size v_t_lost v_t_guarded v_t_day p1 x_3 hc_3) (ci := 2) rfl (q0 := 0) rfl S hK hP hD hS hA [0, 1, 2, 3] [] [0, 1, 2, 3] rfl rfl rfl rfl rfl rfl rfl ⟨Nat.le_of_ble_eq_true rfl, Nat.le_of_ble_eq_true rfl⟩ ⟨Nat.le_refl 0, Nat.le_refl 0⟩ rfl hl.1 rfl (Nat.le_of_ble_eq_true rfl) rfl dX7_lose_10 (fun H locs hP hD hS => ?_)
    refine lv_if_eq (tgt := 18) hx hb dX7_lose_13 (by decide) (fun c_4 => ?_) (fun c_4 => ?_)
    · have h := (if_pos c_4).symm.trans h
      refine lv_aload_n hx hb dX7_lose_18 rfl (lv_at hl 0 rfl) ?_
      refine lv_dup hx hb dX7_lose_19 rfl ?_
      refine va_get (ci := 2) (v := .int v_t_lost) (C := RX7) (T := TX7) (N := 7) hx hb hts hinX7 hown hK.1 hP 0 rfl rfl 4 (by decide) k_0 (fun _ h9 => h9) rfl dX7_lose_20 ?_
      refine lv_iconst (v := 1) hx hb dX7_lose_23 (by decide) ?_
      refine lv_iload_n hx hb dX7_lose_24 rfl (lv_at hl 1 rfl) ?_
      refine lv_ishl hx hb dX7_lose_25 ?_
      refine lv_ior hx hb dX7_lose_26 ?_
      refine va_put (ci := 2) (v := .int (v_t_lost ||| (1 <<< (p1 &&& 31)))) (ty := tyX7 4) (C := RX7) (T := TX7) (N := 7) hx hb hts hinX7 tyX7 tyX7_ok nmX7 hown hK.1 hP hD hS 0 rfl rfl 4 (by decide) k_0 (fun _ h9 => h9) rfl (tyX7_ok 4 (by decide)) rfl rfl (Nat.le_of_ble_eq_true rfl) dX7_lose_27 (fun H locs hP hD hS => ?_)
      have hP : va_P D vwCl (wX7 cA a_t a_t_kinds a_t_figures a_t_causeBits v_t_kinds v_t_figures v_t_causeBits v_t_size (v_t_lost ||| (1 <<< (p1 &&& 31))) v_t_guarded v_t_day) H := hP
      have hD : va_D A (wX7 cA a_t a_t_kinds a_t_figures a_t_causeBits v_t_kinds v_t_figures v_t_causeBits v_t_size (v_t_lost ||| (1 <<< (p1 &&& 31))) v_t_guarded v_t_day) := hD
      refine lv_iconst (v := 1) hx hb dX7_lose_30 (by decide) ?_
      obtain rfl := Option.some.inj h
      exact xk_zret rfl hx hb hr hlk hP hD hS (hQ _) dX7_lose_31
    · have h := (if_neg c_4).symm.trans h
      refine lv_iconst (v := 0) hx hb dX7_lose_16 (by decide) ?_
      obtain rfl := Option.some.inj h
      exact xk_zret rfl hx hb hr hlk hP hD hS (hQ _) dX7_lose_17
set_option maxHeartbeats 4000000 in
set_option maxRecDepth 100000 in
theorem c_X7_mend (l : Launch) (D : va_G) (cA : ClassId) (sa sv : Nat → Nat) (a_t a_t_kinds a_t_figures a_t_causeBits : Nat) (sz : Nat) (v_t_kinds : Nat → Int32) (v_t_figures : Nat → Int32) (v_t_causeBits : Nat → Int32) (v_t_size : Int32) (v_t_lost : Int32) (v_t_guarded : Int32) (v_t_day : Int32) (p1 : Int32) (res : Int32 × Int32) (h : f_X7_mend v_t_size v_t_lost p1 = some res) : Met l yX7_mend wsX7_mend { frames := 1, cells := 0, slots := 0, locals := 21 } (xk_Pc D cA sa sv (wX7 cA a_t a_t_kinds a_t_figures a_t_causeBits v_t_kinds v_t_figures v_t_causeBits v_t_size v_t_lost v_t_guarded v_t_day) sz [.ref a_t, .int p1]) (xk_Q D (va_A (wX7 cA a_t a_t_kinds a_t_figures a_t_causeBits v_t_kinds v_t_figures v_t_causeBits v_t_size v_t_lost v_t_guarded v_t_day) sz) (some (.int res.1)) (wX7 cA a_t a_t_kinds a_t_figures a_t_causeBits v_t_kinds v_t_figures v_t_causeBits v_t_size res.2 v_t_guarded v_t_day)) 0 0 (va_A (wX7 cA a_t a_t_kinds a_t_figures a_t_causeBits v_t_kinds v_t_figures v_t_causeBits v_t_size v_t_lost v_t_guarded v_t_day) sz) := by
  refine xk_met (fun res : Int32 × Int32 => some (.int res.1)) (fun res : Int32 × Int32 => (wX7 cA a_t a_t_kinds a_t_figures a_t_causeBits v_t_kinds v_t_figures v_t_causeBits v_t_size res.2 v_t_guarded v_t_day)) res (cc := cX7_mend) (maxL := 2) (ret := (some .boolean)) (by decide) rfl (Nat.le_of_ble_eq_true rfl) ?_
  intro p e s m args below meth c A Q ls hQ hx hb hr hlk hml hown hts hK hP hD hS hA hl
  have S : CallFix p m c cX7_mend 2 s args wsX7_mend RX7 := ⟨hx, hb, hml, hown, hts⟩
  have hl : lv_has ls 2 [(0, .ref a_t), (1, .int p1)] := hl
  have hinX7 : ∀ w ∈ u_ws RX7 TX7 7, w ∈ wsX7_mend := fun _ h => List.mem_cons_of_mem _ (List.mem_append_right _ (h))
  have k_0 := hts (.fieldLink RX7 25 "NailsWantTheKingdom$Realm" "lost" "I") (List.mem_of_getElem? (i := 1) (by decide +kernel))
  unfold f_X7_mend at h
  refine lv_aload_n hx hb dX7_mend_0 rfl (lv_at hl 0 rfl) ?_
  refine lv_iload_n hx hb dX7_mend_1 rfl (lv_at hl 1 rfl) ?_
  obtain ⟨x_1, hc_1, h⟩ := bd_some h
  refine xk_V (rest := []) (As := [.int p1]) (stk := [.int x_1]) (wn := (wX7 cA a_t a_t_kinds a_t_figures a_t_causeBits v_t_kinds v_t_figures v_t_causeBits v_t_size v_t_lost v_t_guarded v_t_day)) (v := (some (.int x_1))) (wr := []) gX7_mend_X7_has rfl hdV_X7_has rfl rfl (c_X7_has l D cA sa sv a_t a_t_kinds a_t_figures a_t_causeBits _ v_t_kinds v_t_figures v_t_causeBits v_t_size v_t_lost v_t_guarded v_t_day p1 x_1 hc_1) (ci := 2) rfl (q0 := 0) rfl S hK hP hD hS hA [0, 1, 2, 3] [] [0, 1, 2, 3] rfl rfl rfl rfl rfl rfl rfl ⟨Nat.le_of_ble_eq_true rfl, Nat.le_of_ble_eq_true rfl⟩ ⟨Nat.le_refl 0, Nat.le_refl 0⟩ rfl hl.1 rfl (Nat.le_of_ble_eq_true rfl) rfl dX7_mend_2 (fun H locs hP hD hS => ?_)
  refine lv_if_ne (tgt := 10) hx hb dX7_mend_5 (by decide) (fun c_2 => ?_) (fun c_2 => ?_)
  · have h := (if_neg c_2).symm.trans h
    refine lv_aload_n hx hb dX7_mend_10 rfl (lv_at hl 0 rfl) ?_
    refine lv_dup hx hb dX7_mend_11 rfl ?_
    refine va_get (ci := 2) (v := .int v_t_lost) (C := RX7) (T := TX7) (N := 7) hx hb hts hinX7 hown hK.1 hP 0 rfl rfl 4 (by decide) k_0 (fun _ h9 => h9) rfl dX7_mend_12 ?_
    refine lv_iconst (v := 1) hx hb dX7_mend_15 (by decide) ?_
    refine lv_iload_n hx hb dX7_mend_16 rfl (lv_at hl 1 rfl) ?_
    refine lv_ishl hx hb dX7_mend_17 ?_
    refine lv_iconst (v := (-1)) hx hb dX7_mend_18 (by decide) ?_
    refine lv_ixor hx hb dX7_mend_19 ?_
    refine lv_iand hx hb dX7_mend_20 ?_
    refine va_put (ci := 2) (v := .int (v_t_lost &&& ((1 <<< (p1 &&& 31)) ^^^ (-1)))) (ty := tyX7 4) (C := RX7) (T := TX7) (N := 7) hx hb hts hinX7 tyX7 tyX7_ok nmX7 hown hK.1 hP hD hS 0 rfl rfl 4 (by decide) k_0 (fun _ h9 => h9) rfl (tyX7_ok 4 (by decide)) rfl rfl (Nat.le_of_ble_eq_true rfl) dX7_mend_21 (fun H locs hP hD hS => ?_)
    have hP : va_P D vwCl (wX7 cA a_t a_t_kinds a_t_figures a_t_causeBits v_t_kinds v_t_figures v_t_causeBits v_t_size (v_t_lost &&& ((1 <<< (p1 &&& 31)) ^^^ (-1))) v_t_guarded v_t_day) H := hP
    have hD : va_D A (wX7 cA a_t a_t_kinds a_t_figures a_t_causeBits v_t_kinds v_t_figures v_t_causeBits v_t_size (v_t_lost &&& ((1 <<< (p1 &&& 31)) ^^^ (-1))) v_t_guarded v_t_day) := hD
    refine lv_iconst (v := 1) hx hb dX7_mend_24 (by decide) ?_
    obtain rfl := Option.some.inj h
    exact xk_zret rfl hx hb hr hlk hP hD hS (hQ _) dX7_mend_25
  · have h := (if_pos c_2).symm.trans h
    refine lv_iconst (v := 0) hx hb dX7_mend_8 (by decide) ?_
    obtain rfl := Option.some.inj h
    exact xk_zret rfl hx hb hr hlk hP hD hS (hQ _) dX7_mend_9
set_option maxHeartbeats 4000000 in
set_option maxRecDepth 100000 in
theorem c_X7_flipGuard (l : Launch) (D : va_G) (cA : ClassId) (sa sv : Nat → Nat) (a_t a_t_kinds a_t_figures a_t_causeBits : Nat) (sz : Nat) (v_t_kinds : Nat → Int32) (v_t_figures : Nat → Int32) (v_t_causeBits : Nat → Int32) (v_t_size : Int32) (v_t_lost : Int32) (v_t_guarded : Int32) (v_t_day : Int32) (p1 : Int32) (res : Int32 × Int32) (h : f_X7_flipGuard v_t_size v_t_guarded p1 = some res) : Met l yX7_flipGuard wsX7_flipGuard { frames := 1, cells := 0, slots := 0, locals := 21 } (xk_Pc D cA sa sv (wX7 cA a_t a_t_kinds a_t_figures a_t_causeBits v_t_kinds v_t_figures v_t_causeBits v_t_size v_t_lost v_t_guarded v_t_day) sz [.ref a_t, .int p1]) (xk_Q D (va_A (wX7 cA a_t a_t_kinds a_t_figures a_t_causeBits v_t_kinds v_t_figures v_t_causeBits v_t_size v_t_lost v_t_guarded v_t_day) sz) (some (.int res.1)) (wX7 cA a_t a_t_kinds a_t_figures a_t_causeBits v_t_kinds v_t_figures v_t_causeBits v_t_size v_t_lost res.2 v_t_day)) 0 0 (va_A (wX7 cA a_t a_t_kinds a_t_figures a_t_causeBits v_t_kinds v_t_figures v_t_causeBits v_t_size v_t_lost v_t_guarded v_t_day) sz) := by
  refine xk_met (fun res : Int32 × Int32 => some (.int res.1)) (fun res : Int32 × Int32 => (wX7 cA a_t a_t_kinds a_t_figures a_t_causeBits v_t_kinds v_t_figures v_t_causeBits v_t_size v_t_lost res.2 v_t_day)) res (cc := cX7_flipGuard) (maxL := 2) (ret := (some .boolean)) (by decide) rfl (Nat.le_of_ble_eq_true rfl) ?_
  intro p e s m args below meth c A Q ls hQ hx hb hr hlk hml hown hts hK hP hD hS hA hl
  have S : CallFix p m c cX7_flipGuard 2 s args wsX7_flipGuard RX7 := ⟨hx, hb, hml, hown, hts⟩
  have hl : lv_has ls 2 [(0, .ref a_t), (1, .int p1)] := hl
  have hinX7 : ∀ w ∈ u_ws RX7 TX7 7, w ∈ wsX7_flipGuard := fun _ h => List.mem_cons_of_mem _ (List.mem_append_right _ (h))
  have k_0 := hts (.fieldLink RX7 28 "NailsWantTheKingdom$Realm" "guarded" "I") (List.mem_of_getElem? (i := 1) (by decide +kernel))
  unfold f_X7_flipGuard at h
  refine lv_aload_n hx hb dX7_flipGuard_0 rfl (lv_at hl 0 rfl) ?_
  refine lv_iload_n hx hb dX7_flipGuard_1 rfl (lv_at hl 1 rfl) ?_
  obtain ⟨x_1, hc_1, h⟩ := bd_some h
  refine xk_V (rest := []) (As := [.int p1]) (stk := [.int x_1]) (wn := (wX7 cA a_t a_t_kinds a_t_figures a_t_causeBits v_t_kinds v_t_figures v_t_causeBits v_t_size v_t_lost v_t_guarded v_t_day)) (v := (some (.int x_1))) (wr := []) gX7_flipGuard_X7_has rfl hdV_X7_has rfl rfl (c_X7_has l D cA sa sv a_t a_t_kinds a_t_figures a_t_causeBits _ v_t_kinds v_t_figures v_t_causeBits v_t_size v_t_lost v_t_guarded v_t_day p1 x_1 hc_1) (ci := 2) rfl (q0 := 0) rfl S hK hP hD hS hA [0, 1, 2, 3] [] [0, 1, 2, 3] rfl rfl rfl rfl rfl rfl rfl ⟨Nat.le_of_ble_eq_true rfl, Nat.le_of_ble_eq_true rfl⟩ ⟨Nat.le_refl 0, Nat.le_refl 0⟩ rfl hl.1 rfl (Nat.le_of_ble_eq_true rfl) rfl dX7_flipGuard_2 (fun H locs hP hD hS => ?_)
  refine lv_if_ne (tgt := 10) hx hb dX7_flipGuard_5 (by decide) (fun c_2 => ?_) (fun c_2 => ?_)
  · have h := (if_neg c_2).symm.trans h
    refine lv_aload_n hx hb dX7_flipGuard_10 rfl (lv_at hl 0 rfl) ?_
    refine lv_dup hx hb dX7_flipGuard_11 rfl ?_
    refine va_get (ci := 2) (v := .int v_t_guarded) (C := RX7) (T := TX7) (N := 7) hx hb hts hinX7 hown hK.1 hP 0 rfl rfl 5 (by decide) k_0 (fun _ h9 => h9) rfl dX7_flipGuard_12 ?_
    refine lv_iconst (v := 1) hx hb dX7_flipGuard_15 (by decide) ?_
    refine lv_iload_n hx hb dX7_flipGuard_16 rfl (lv_at hl 1 rfl) ?_
    refine lv_ishl hx hb dX7_flipGuard_17 ?_
    refine lv_ixor hx hb dX7_flipGuard_18 ?_
    refine va_put (ci := 2) (v := .int (v_t_guarded ^^^ (1 <<< (p1 &&& 31)))) (ty := tyX7 5) (C := RX7) (T := TX7) (N := 7) hx hb hts hinX7 tyX7 tyX7_ok nmX7 hown hK.1 hP hD hS 0 rfl rfl 5 (by decide) k_0 (fun _ h9 => h9) rfl (tyX7_ok 5 (by decide)) rfl rfl (Nat.le_of_ble_eq_true rfl) dX7_flipGuard_19 (fun H locs hP hD hS => ?_)
    have hP : va_P D vwCl (wX7 cA a_t a_t_kinds a_t_figures a_t_causeBits v_t_kinds v_t_figures v_t_causeBits v_t_size v_t_lost (v_t_guarded ^^^ (1 <<< (p1 &&& 31))) v_t_day) H := hP
    have hD : va_D A (wX7 cA a_t a_t_kinds a_t_figures a_t_causeBits v_t_kinds v_t_figures v_t_causeBits v_t_size v_t_lost (v_t_guarded ^^^ (1 <<< (p1 &&& 31))) v_t_day) := hD
    refine lv_iconst (v := 1) hx hb dX7_flipGuard_22 (by decide) ?_
    obtain rfl := Option.some.inj h
    exact xk_zret rfl hx hb hr hlk hP hD hS (hQ _) dX7_flipGuard_23
  · have h := (if_pos c_2).symm.trans h
    refine lv_iconst (v := 0) hx hb dX7_flipGuard_8 (by decide) ?_
    obtain rfl := Option.some.inj h
    exact xk_zret rfl hx hb hr hlk hP hD hS (hQ _) dX7_flipGuard_9
set_option maxHeartbeats 4000000 in
set_option maxRecDepth 100000 in
theorem c_X7_passDays (l : Launch) (D : va_G) (cA : ClassId) (sa sv : Nat → Nat) (a_t a_t_kinds a_t_figures a_t_causeBits : Nat) (sz : Nat) (v_t_kinds : Nat → Int32) (v_t_figures : Nat → Int32) (v_t_causeBits : Nat → Int32) (v_t_size : Int32) (v_t_lost : Int32) (v_t_guarded : Int32) (v_t_day : Int32) (p1 : Int32) (F : Nat) (res : Int32 × Int32 × Int32) (h : f_X7_passDays F v_t_kinds v_t_figures v_t_causeBits v_t_size v_t_lost v_t_guarded v_t_day p1 = some res) : Met l yX7_passDays wsX7_passDays { frames := 3, cells := 0, slots := 0, locals := 80 } (xk_Pc D cA sa sv (wX7 cA a_t a_t_kinds a_t_figures a_t_causeBits v_t_kinds v_t_figures v_t_causeBits v_t_size v_t_lost v_t_guarded v_t_day) sz [.ref a_t, .int p1]) (xk_Q D (va_A (wX7 cA a_t a_t_kinds a_t_figures a_t_causeBits v_t_kinds v_t_figures v_t_causeBits v_t_size v_t_lost v_t_guarded v_t_day) sz) (some (.int res.1)) (wX7 cA a_t a_t_kinds a_t_figures a_t_causeBits v_t_kinds v_t_figures v_t_causeBits v_t_size res.2.1 v_t_guarded res.2.2)) 0 0 (va_A (wX7 cA a_t a_t_kinds a_t_figures a_t_causeBits v_t_kinds v_t_figures v_t_causeBits v_t_size v_t_lost v_t_guarded v_t_day) sz) := by
  refine xk_met (fun res : Int32 × Int32 × Int32 => some (.int res.1)) (fun res : Int32 × Int32 × Int32 => (wX7 cA a_t a_t_kinds a_t_figures a_t_causeBits v_t_kinds v_t_figures v_t_causeBits v_t_size res.2.1 v_t_guarded res.2.2)) res (cc := cX7_passDays) (maxL := 2) (ret := (some .boolean)) (by decide) rfl (Nat.le_of_ble_eq_true rfl) ?_
  intro p e s m args below meth c A Q ls hQ hx hb hr hlk hml hown hts hK hP hD hS hA hl
  have S : CallFix p m c cX7_passDays 2 s args wsX7_passDays RX7 := ⟨hx, hb, hml, hown, hts⟩
  have hl : lv_has ls 2 [(0, .ref a_t), (1, .int p1)] := hl
  have hinX7 : ∀ w ∈ u_ws RX7 TX7 7, w ∈ wsX7_passDays := fun _ h => List.mem_cons_of_mem _ (List.mem_append_right _ (h))
  have k_0 := hts (.fieldLink RX7 31 "NailsWantTheKingdom$Realm" "day" "I") (List.mem_of_getElem? (i := 1) (by decide +kernel))
  have k_1 := hts (.fieldLink RX7 25 "NailsWantTheKingdom$Realm" "lost" "I") (List.mem_of_getElem? (i := 2) (by decide +kernel))
  have k_2 := hts (.fieldLink RX7 28 "NailsWantTheKingdom$Realm" "guarded" "I") (List.mem_of_getElem? (i := 3) (by decide +kernel))
  unfold f_X7_passDays at h
  refine lv_iload_n hx hb dX7_passDays_0 rfl (lv_at hl 1 rfl) ?_
  refine lv_iconst (v := 1) hx hb dX7_passDays_1 (by decide) ?_
  refine lv_icmp_lt (tgt := 23) hx hb dX7_passDays_2 (by decide) (fun c_1 => ?_) (fun c_1 => ?_)
  · have h := (if_pos c_1).symm.trans h
    refine lv_iconst (v := 0) hx hb dX7_passDays_23 (by decide) ?_
    obtain rfl := Option.some.inj h
    exact xk_zret rfl hx hb hr hlk hP hD hS (hQ _) dX7_passDays_24
  · have h := (if_neg c_1).symm.trans h
    refine lv_iload_n hx hb dX7_passDays_5 rfl (lv_at hl 1 rfl) ?_
    refine lv_bipush (v := 60) hx hb dX7_passDays_6 (by decide) ?_
    refine lv_icmp_gt (tgt := 23) hx hb dX7_passDays_8 (by decide) (fun c_2 => ?_) (fun c_2 => ?_)
    · have h := (if_pos c_2).symm.trans h
      refine lv_iconst (v := 0) hx hb dX7_passDays_23 (by decide) ?_
      obtain rfl := Option.some.inj h
      exact xk_zret rfl hx hb hr hlk hP hD hS (hQ _) dX7_passDays_24
    · have h := (if_neg c_2).symm.trans h
      refine lv_aload_n hx hb dX7_passDays_11 rfl (lv_at hl 0 rfl) ?_
      refine va_get (ci := 2) (v := .int v_t_day) (C := RX7) (T := TX7) (N := 7) hx hb hts hinX7 hown hK.1 hP 0 rfl rfl 6 (by decide) k_0 (fun _ h9 => h9) rfl dX7_passDays_12 ?_
      refine lv_iload_n hx hb dX7_passDays_15 rfl (lv_at hl 1 rfl) ?_
      refine lv_iadd hx hb dX7_passDays_16 ?_
      refine lv_sipush (v := 999) hx hb dX7_passDays_17 (by decide) ?_
      refine lv_icmp_le (tgt := 25) hx hb dX7_passDays_20 (by decide) (fun c_3 => ?_) (fun c_3 => ?_)
      · have h := (if_pos c_3).symm.trans h
        refine lv_aload_n hx hb dX7_passDays_25 rfl (lv_at hl 0 rfl) ?_
        refine lv_aload_n hx hb dX7_passDays_26 rfl (lv_at hl 0 rfl) ?_
        refine lv_aload_n hx hb dX7_passDays_27 rfl (lv_at hl 0 rfl) ?_
        refine va_get (ci := 2) (v := .int v_t_lost) (C := RX7) (T := TX7) (N := 7) hx hb hts hinX7 hown hK.1 hP 0 rfl rfl 4 (by decide) k_1 (fun _ h9 => h9) rfl dX7_passDays_28 ?_
        refine lv_aload_n hx hb dX7_passDays_31 rfl (lv_at hl 0 rfl) ?_
        refine va_get (ci := 2) (v := .int v_t_guarded) (C := RX7) (T := TX7) (N := 7) hx hb hts hinX7 hown hK.1 hP 0 rfl rfl 5 (by decide) k_2 (fun _ h9 => h9) rfl dX7_passDays_32 ?_
        refine lv_aload_n hx hb dX7_passDays_35 rfl (lv_at hl 0 rfl) ?_
        refine va_get (ci := 2) (v := .int v_t_day) (C := RX7) (T := TX7) (N := 7) hx hb hts hinX7 hown hK.1 hP 0 rfl rfl 6 (by decide) k_0 (fun _ h9 => h9) rfl dX7_passDays_36 ?_
        refine lv_iload_n hx hb dX7_passDays_39 rfl (lv_at hl 1 rfl) ?_
        obtain ⟨x_4, hc_4, h⟩ := bd_some h
        refine xk_V (rest := [.ref a_t]) (As := [.int v_t_lost, .int v_t_guarded, .int v_t_day, .int p1]) (stk := [.int x_4, .ref a_t]) (wn := (wX7 cA a_t a_t_kinds a_t_figures a_t_causeBits v_t_kinds v_t_figures v_t_causeBits v_t_size v_t_lost v_t_guarded v_t_day)) (v := (some (.int x_4))) (wr := []) gX7_passDays_X7_behindDays rfl hdV_X7_behindDays rfl rfl (c_X7_behindDays l D cA sa sv a_t a_t_kinds a_t_figures a_t_causeBits _ v_t_kinds v_t_figures v_t_causeBits v_t_size v_t_lost v_t_guarded v_t_day v_t_lost v_t_guarded v_t_day p1 F x_4 hc_4) (ci := 2) rfl (q0 := 0) rfl S hK hP hD hS hA [0, 1, 2, 3] [] [0, 1, 2, 3] rfl rfl rfl rfl rfl rfl rfl ⟨Nat.le_of_ble_eq_true rfl, Nat.le_of_ble_eq_true rfl⟩ ⟨Nat.le_refl 0, Nat.le_refl 0⟩ rfl hl.1 rfl (Nat.le_of_ble_eq_true rfl) rfl dX7_passDays_40 (fun H locs hP hD hS => ?_)
        refine va_put (ci := 2) (v := .int x_4) (ty := tyX7 4) (C := RX7) (T := TX7) (N := 7) hx hb hts hinX7 tyX7 tyX7_ok nmX7 hown hK.1 hP hD hS 0 rfl rfl 4 (by decide) k_1 (fun _ h9 => h9) rfl (tyX7_ok 4 (by decide)) rfl rfl (Nat.le_of_ble_eq_true rfl) dX7_passDays_43 (fun H locs hP hD hS => ?_)
        have hP : va_P D vwCl (wX7 cA a_t a_t_kinds a_t_figures a_t_causeBits v_t_kinds v_t_figures v_t_causeBits v_t_size x_4 v_t_guarded v_t_day) H := hP
        have hD : va_D A (wX7 cA a_t a_t_kinds a_t_figures a_t_causeBits v_t_kinds v_t_figures v_t_causeBits v_t_size x_4 v_t_guarded v_t_day) := hD
        refine lv_aload_n hx hb dX7_passDays_46 rfl (lv_at hl 0 rfl) ?_
        refine lv_dup hx hb dX7_passDays_47 rfl ?_
        refine va_get (ci := 2) (v := .int v_t_day) (C := RX7) (T := TX7) (N := 7) hx hb hts hinX7 hown hK.1 hP 0 rfl rfl 6 (by decide) k_0 (fun _ h9 => h9) rfl dX7_passDays_48 ?_
        refine lv_iload_n hx hb dX7_passDays_51 rfl (lv_at hl 1 rfl) ?_
        refine lv_iadd hx hb dX7_passDays_52 ?_
        refine va_put (ci := 2) (v := .int (v_t_day + p1)) (ty := tyX7 6) (C := RX7) (T := TX7) (N := 7) hx hb hts hinX7 tyX7 tyX7_ok nmX7 hown hK.1 hP hD hS 0 rfl rfl 6 (by decide) k_0 (fun _ h9 => h9) rfl (tyX7_ok 6 (by decide)) rfl rfl (Nat.le_of_ble_eq_true rfl) dX7_passDays_53 (fun H locs hP hD hS => ?_)
        have hP : va_P D vwCl (wX7 cA a_t a_t_kinds a_t_figures a_t_causeBits v_t_kinds v_t_figures v_t_causeBits v_t_size x_4 v_t_guarded (v_t_day + p1)) H := hP
        have hD : va_D A (wX7 cA a_t a_t_kinds a_t_figures a_t_causeBits v_t_kinds v_t_figures v_t_causeBits v_t_size x_4 v_t_guarded (v_t_day + p1)) := hD
        refine lv_iconst (v := 1) hx hb dX7_passDays_56 (by decide) ?_
        obtain rfl := Option.some.inj h
        exact xk_zret rfl hx hb hr hlk hP hD hS (hQ _) dX7_passDays_57
      · have h := (if_neg c_3).symm.trans h
        refine lv_iconst (v := 0) hx hb dX7_passDays_23 (by decide) ?_
        obtain rfl := Option.some.inj h
        exact xk_zret rfl hx hb hr hlk hP hD hS (hQ _) dX7_passDays_24
set_option maxHeartbeats 4000000 in
set_option maxRecDepth 100000 in
theorem c_X7_allCauses (l : Launch) (D : va_G) (cA : ClassId) (sa sv : Nat → Nat) (a_t a_t_kinds a_t_figures a_t_causeBits : Nat) (sz : Nat) (v_t_kinds : Nat → Int32) (v_t_figures : Nat → Int32) (v_t_causeBits : Nat → Int32) (v_t_size : Int32) (v_t_lost : Int32) (v_t_guarded : Int32) (v_t_day : Int32) (F : Nat) (res : Int32) (h : f_X7_allCauses F v_t_causeBits v_t_size  = some res) : Met l yX7_allCauses wsX7_allCauses { frames := 2, cells := 0, slots := 0, locals := 42 } (xk_Pc D cA sa sv (wX7 cA a_t a_t_kinds a_t_figures a_t_causeBits v_t_kinds v_t_figures v_t_causeBits v_t_size v_t_lost v_t_guarded v_t_day) sz [.ref a_t]) (xk_Q D (va_A (wX7 cA a_t a_t_kinds a_t_figures a_t_causeBits v_t_kinds v_t_figures v_t_causeBits v_t_size v_t_lost v_t_guarded v_t_day) sz) (some (.int res)) (wX7 cA a_t a_t_kinds a_t_figures a_t_causeBits v_t_kinds v_t_figures v_t_causeBits v_t_size v_t_lost v_t_guarded v_t_day)) 0 0 (va_A (wX7 cA a_t a_t_kinds a_t_figures a_t_causeBits v_t_kinds v_t_figures v_t_causeBits v_t_size v_t_lost v_t_guarded v_t_day) sz) := by
  refine xk_met (fun res : Int32 => some (.int res)) (fun res : Int32 => (wX7 cA a_t a_t_kinds a_t_figures a_t_causeBits v_t_kinds v_t_figures v_t_causeBits v_t_size v_t_lost v_t_guarded v_t_day)) res (cc := cX7_allCauses) (maxL := 3) (ret := (some .int)) (by decide) rfl (Nat.le_of_ble_eq_true rfl) ?_
  intro p e s m args below meth c A Q ls hQ hx hb hr hlk hml hown hts hK hP hD hS hA hl
  have S : CallFix p m c cX7_allCauses 3 s args wsX7_allCauses RX7 := ⟨hx, hb, hml, hown, hts⟩
  have hl : lv_has ls 3 [(0, .ref a_t)] := hl
  have hinX7 : ∀ w ∈ u_ws RX7 TX7 7, w ∈ wsX7_allCauses := fun _ h => List.mem_cons_of_mem _ (List.mem_append_right _ (h))
  have k_0 := hts (.fieldLink RX7 21 "NailsWantTheKingdom$Realm" "size" "I") (List.mem_of_getElem? (i := 1) (by decide +kernel))
  have J_4 : ∀ (n : Nat) (x1 : Int32) (x2 : Int32) (res : Int32), f_X7_allCauses_4 F v_t_causeBits v_t_size n x1 x2 = some res → ∀ (H : Heap) (locs : List Loc) (ls : Array Slot), va_P D vwCl (wX7 cA a_t a_t_kinds a_t_figures a_t_causeBits v_t_kinds v_t_figures v_t_causeBits v_t_size v_t_lost v_t_guarded v_t_day) H → va_D A (wX7 cA a_t a_t_kinds a_t_figures a_t_causeBits v_t_kinds v_t_figures v_t_causeBits v_t_size v_t_lost v_t_guarded v_t_day) → va_S A s.heap H locs → lv_has ls 3 [(0, .ref a_t), (1, .int x1), (2, .int x2)] → W p l e { frames := 2, cells := 0, slots := 0, locals := 42 } s m args below meth c H locs 0 0 (Q res) (F0 m 4 ls []) := by
    intro n
    induction n with
    | zero => intro x1 x2 res h; exact nomatch (show (none : Option (Int32)) = some res from h)
    | succ n ih =>
      intro x1 x2 res h H locs ls hP hD hS hl
      rw [f_X7_allCauses_4] at h
      refine lv_iload_n hx hb dX7_allCauses_4 rfl (lv_at hl 2 rfl) ?_
      refine lv_aload_n hx hb dX7_allCauses_5 rfl (lv_at hl 0 rfl) ?_
      refine va_get (ci := 2) (v := .int v_t_size) (C := RX7) (T := TX7) (N := 7) hx hb hts hinX7 hown hK.1 hP 0 rfl rfl 3 (by decide) k_0 (fun _ h9 => h9) rfl dX7_allCauses_6 ?_
      refine lv_icmp_ge (tgt := 29) hx hb dX7_allCauses_9 (by decide) (fun c_1 => ?_) (fun c_1 => ?_)
      · have h := (if_pos c_1).symm.trans h
        refine lv_iload_n hx hb dX7_allCauses_29 rfl (lv_at hl 1 rfl) ?_
        obtain rfl := Option.some.inj h
        exact xk_iret hx hb hr hlk hP hD hS (hQ _) dX7_allCauses_30
      · have h := (if_neg c_1).symm.trans h
        refine lv_iload_n hx hb dX7_allCauses_12 rfl (lv_at hl 1 rfl) ?_
        refine lv_aload_n hx hb dX7_allCauses_13 rfl (lv_at hl 0 rfl) ?_
        refine lv_iload_n hx hb dX7_allCauses_14 rfl (lv_at hl 2 rfl) ?_
        obtain ⟨x_2, hc_2, h⟩ := bd_some h
        refine xk_V (rest := [.int x1]) (As := [.int x2]) (stk := [.int x_2, .int x1]) (wn := (wX7 cA a_t a_t_kinds a_t_figures a_t_causeBits v_t_kinds v_t_figures v_t_causeBits v_t_size v_t_lost v_t_guarded v_t_day)) (v := (some (.int x_2))) (wr := []) gX7_allCauses_X7_causesOf rfl hdV_X7_causesOf rfl rfl (c_X7_causesOf l D cA sa sv a_t a_t_kinds a_t_figures a_t_causeBits _ v_t_kinds v_t_figures v_t_causeBits v_t_size v_t_lost v_t_guarded v_t_day x2 x_2 hc_2) (ci := 2) rfl (q0 := 0) rfl S hK hP hD hS hA [0, 1, 2, 3] [] [0, 1, 2, 3] rfl rfl rfl rfl rfl rfl rfl ⟨Nat.le_of_ble_eq_true rfl, Nat.le_of_ble_eq_true rfl⟩ ⟨Nat.le_refl 0, Nat.le_refl 0⟩ rfl hl.1 rfl (Nat.le_of_ble_eq_true rfl) rfl dX7_allCauses_15 (fun H locs hP hD hS => ?_)
        obtain ⟨x_3, hc_3, h⟩ := bd_some h
        refine xk_S (rest := [.int x1]) (As := [.int x_2]) (stk := [.int x_3, .int x1]) (wn := (wX7 cA a_t a_t_kinds a_t_figures a_t_causeBits v_t_kinds v_t_figures v_t_causeBits v_t_size v_t_lost v_t_guarded v_t_day)) (v := (some (.int x_3))) (wr := [(a_t, .inr (2, [.ref a_t_kinds, .ref a_t_figures, .ref a_t_causeBits, .int v_t_size, .int v_t_lost, .int v_t_guarded, .int v_t_day])), (a_t_kinds, .inl (cA, 9, .inl v_t_kinds)), (a_t_figures, .inl (cA, 9, .inl v_t_figures)), (a_t_causeBits, .inl (cA, 9, .inl v_t_causeBits))]) gX7_allCauses_J6_bitCount_0f7a4 rfl hdS_J6_bitCount_0f7a4 rfl rfl (c_J6_bitCount_0f7a4 l D cA sa sv _ x_2 x_3 hc_3) S hK hP hD hS hA [] [0, 1, 2, 3] [0, 1, 2, 3] rfl rfl rfl rfl rfl rfl rfl ⟨Nat.le_of_ble_eq_true rfl, Nat.le_of_ble_eq_true rfl⟩ ⟨Nat.le_refl 0, Nat.le_refl 0⟩ rfl hl.1 rfl (Nat.le_of_ble_eq_true rfl) rfl dX7_allCauses_18 (fun H locs hP hD hS => ?_)
        refine lv_iadd hx hb dX7_allCauses_21 ?_
        refine lv_istore_n (lv' := [(1, .int (x1 + x_3)), (0, .ref a_t), (2, .int x2)]) hx hb dX7_allCauses_22 rfl hl (by decide) rfl (fun ls hl => ?_)
        refine lv_iinc (v := (x2 + 1)) (lv' := [(2, .int (x2 + 1)), (1, .int (x1 + x_3)), (0, .ref a_t)]) hx hb dX7_allCauses_23 hl (k := 2) rfl rfl (by decide) rfl (fun ls hl => ?_)
        refine lv_goto (tgt := 4) hx hb dX7_allCauses_26 (by decide) ?_
        exact ih (x1 + x_3) (x2 + 1) _ h _ _ _ hP hD hS (lv_sub hl [2, 1, 0] rfl)
  unfold f_X7_allCauses at h
  refine lv_iconst (v := 0) hx hb dX7_allCauses_0 (by decide) ?_
  refine lv_istore_n (lv' := [(1, .int 0), (0, .ref a_t)]) hx hb dX7_allCauses_1 rfl hl (by decide) rfl (fun ls hl => ?_)
  refine lv_iconst (v := 0) hx hb dX7_allCauses_2 (by decide) ?_
  refine lv_istore_n (lv' := [(2, .int 0), (1, .int 0), (0, .ref a_t)]) hx hb dX7_allCauses_3 rfl hl (by decide) rfl (fun ls hl => ?_)
  exact J_4 F 0 0 _ h _ _ _ hP hD hS (lv_sub hl [2, 1, 0] rfl)
set_option maxHeartbeats 4000000 in
set_option maxRecDepth 100000 in
theorem c_X7_rootsOf (l : Launch) (D : va_G) (cA : ClassId) (sa sv : Nat → Nat) (a_t a_t_kinds a_t_figures a_t_causeBits : Nat) (sz : Nat) (v_t_kinds : Nat → Int32) (v_t_figures : Nat → Int32) (v_t_causeBits : Nat → Int32) (v_t_size : Int32) (v_t_lost : Int32) (v_t_guarded : Int32) (v_t_day : Int32) (p1 : Int32) (F : Nat) (res : Int32) (h : f_X7_rootsOf F v_t_causeBits v_t_size p1 = some res) : Met l yX7_rootsOf wsX7_rootsOf { frames := 2, cells := 0, slots := 0, locals := 42 } (xk_Pc D cA sa sv (wX7 cA a_t a_t_kinds a_t_figures a_t_causeBits v_t_kinds v_t_figures v_t_causeBits v_t_size v_t_lost v_t_guarded v_t_day) sz [.ref a_t, .int p1]) (xk_Q D (va_A (wX7 cA a_t a_t_kinds a_t_figures a_t_causeBits v_t_kinds v_t_figures v_t_causeBits v_t_size v_t_lost v_t_guarded v_t_day) sz) (some (.int res)) (wX7 cA a_t a_t_kinds a_t_figures a_t_causeBits v_t_kinds v_t_figures v_t_causeBits v_t_size v_t_lost v_t_guarded v_t_day)) 0 0 (va_A (wX7 cA a_t a_t_kinds a_t_figures a_t_causeBits v_t_kinds v_t_figures v_t_causeBits v_t_size v_t_lost v_t_guarded v_t_day) sz) := by
  refine xk_met (fun res : Int32 => some (.int res)) (fun res : Int32 => (wX7 cA a_t a_t_kinds a_t_figures a_t_causeBits v_t_kinds v_t_figures v_t_causeBits v_t_size v_t_lost v_t_guarded v_t_day)) res (cc := cX7_rootsOf) (maxL := 4) (ret := (some .int)) (by decide) rfl (Nat.le_of_ble_eq_true rfl) ?_
  intro p e s m args below meth c A Q ls hQ hx hb hr hlk hml hown hts hK hP hD hS hA hl
  have S : CallFix p m c cX7_rootsOf 4 s args wsX7_rootsOf RX7 := ⟨hx, hb, hml, hown, hts⟩
  have hl : lv_has ls 4 [(0, .ref a_t), (1, .int p1)] := hl
  have J_30 : ∀ (k_10r : Int32 → Int32 → Option (Int32)), (∀ (x2 : Int32) (x3 : Int32) (res : Int32), k_10r x2 x3 = some res → ∀ (H : Heap) (locs : List Loc) (ls : Array Slot), va_P D vwCl (wX7 cA a_t a_t_kinds a_t_figures a_t_causeBits v_t_kinds v_t_figures v_t_causeBits v_t_size v_t_lost v_t_guarded v_t_day) H → va_D A (wX7 cA a_t a_t_kinds a_t_figures a_t_causeBits v_t_kinds v_t_figures v_t_causeBits v_t_size v_t_lost v_t_guarded v_t_day) → va_S A s.heap H locs → lv_has ls 4 [(0, .ref a_t), (2, .int x2), (3, .int x3)] → W p l e { frames := 2, cells := 0, slots := 0, locals := 42 } s m args below meth c H locs 0 0 (Q res) (F0 m 10 ls [])) → ∀ (x2 : Int32) (x3 : Int32) (res : Int32), f_X7_rootsOf_30 F v_t_causeBits v_t_size p1 k_10r x2 x3 = some res → ∀ (H : Heap) (locs : List Loc) (ls : Array Slot), va_P D vwCl (wX7 cA a_t a_t_kinds a_t_figures a_t_causeBits v_t_kinds v_t_figures v_t_causeBits v_t_size v_t_lost v_t_guarded v_t_day) H → va_D A (wX7 cA a_t a_t_kinds a_t_figures a_t_causeBits v_t_kinds v_t_figures v_t_causeBits v_t_size v_t_lost v_t_guarded v_t_day) → va_S A s.heap H locs → lv_has ls 4 [(0, .ref a_t), (2, .int x2), (3, .int x3)] → W p l e { frames := 2, cells := 0, slots := 0, locals := 42 } s m args below meth c H locs 0 0 (Q res) (F0 m 30 ls []) := by
    intro k_10r hk_10r x2 x3 res h H locs ls hP hD hS hl
    unfold f_X7_rootsOf_30 at h
    refine lv_iinc (v := (x3 + (-1))) (lv' := [(3, .int (x3 + (-1))), (0, .ref a_t), (2, .int x2)]) hx hb dX7_rootsOf_30 hl (k := 2) rfl rfl (by decide) rfl (fun ls hl => ?_)
    refine lv_goto (tgt := 10) hx hb dX7_rootsOf_33 (by decide) ?_
    exact hk_10r x2 (x3 + (-1)) _ h _ _ _ hP hD hS (lv_sub hl [1, 2, 0] rfl)
  have J_10 : ∀ (n : Nat) (x2 : Int32) (x3 : Int32) (res : Int32), f_X7_rootsOf_10 F v_t_causeBits v_t_size p1 n x2 x3 = some res → ∀ (H : Heap) (locs : List Loc) (ls : Array Slot), va_P D vwCl (wX7 cA a_t a_t_kinds a_t_figures a_t_causeBits v_t_kinds v_t_figures v_t_causeBits v_t_size v_t_lost v_t_guarded v_t_day) H → va_D A (wX7 cA a_t a_t_kinds a_t_figures a_t_causeBits v_t_kinds v_t_figures v_t_causeBits v_t_size v_t_lost v_t_guarded v_t_day) → va_S A s.heap H locs → lv_has ls 4 [(0, .ref a_t), (2, .int x2), (3, .int x3)] → W p l e { frames := 2, cells := 0, slots := 0, locals := 42 } s m args below meth c H locs 0 0 (Q res) (F0 m 10 ls []) := by
    intro n
    induction n with
    | zero => intro x2 x3 res h; exact nomatch (show (none : Option (Int32)) = some res from h)
    | succ n ih =>
      intro x2 x3 res h H locs ls hP hD hS hl
      rw [f_X7_rootsOf_10] at h
      refine lv_iload_n hx hb dX7_rootsOf_10 rfl (lv_at hl 2 rfl) ?_
      refine lv_if_lt (tgt := 36) hx hb dX7_rootsOf_11 (by decide) (fun c_2 => ?_) (fun c_2 => ?_)
      · have h := (if_pos c_2).symm.trans h
        refine lv_iload_n hx hb dX7_rootsOf_36 rfl (lv_at hl 1 rfl) ?_
        obtain rfl := Option.some.inj h
        exact xk_iret hx hb hr hlk hP hD hS (hQ _) dX7_rootsOf_37
      · have h := (if_neg c_2).symm.trans h
        refine lv_iload_n hx hb dX7_rootsOf_14 rfl (lv_at hl 1 rfl) ?_
        refine lv_iconst (v := 1) hx hb dX7_rootsOf_15 (by decide) ?_
        refine lv_iload_n hx hb dX7_rootsOf_16 rfl (lv_at hl 2 rfl) ?_
        refine lv_ishl hx hb dX7_rootsOf_17 ?_
        refine lv_iand hx hb dX7_rootsOf_18 ?_
        refine lv_if_eq (tgt := 30) hx hb dX7_rootsOf_19 (by decide) (fun c_3 => ?_) (fun c_3 => ?_)
        · have h := (if_pos c_3).symm.trans h
          exact J_30 (f_X7_rootsOf_10 F v_t_causeBits v_t_size p1 n) ih x2 x3 _ h _ _ _ hP hD hS (lv_sub hl [0, 1, 2] rfl)
        · have h := (if_neg c_3).symm.trans h
          refine lv_iload_n hx hb dX7_rootsOf_22 rfl (lv_at hl 1 rfl) ?_
          refine lv_aload_n hx hb dX7_rootsOf_23 rfl (lv_at hl 0 rfl) ?_
          refine lv_iload_n hx hb dX7_rootsOf_24 rfl (lv_at hl 2 rfl) ?_
          obtain ⟨x_4, hc_4, h⟩ := bd_some h
          refine xk_V (rest := [.int x2]) (As := [.int x3]) (stk := [.int x_4, .int x2]) (wn := (wX7 cA a_t a_t_kinds a_t_figures a_t_causeBits v_t_kinds v_t_figures v_t_causeBits v_t_size v_t_lost v_t_guarded v_t_day)) (v := (some (.int x_4))) (wr := []) gX7_rootsOf_X7_causesOf rfl hdV_X7_causesOf rfl rfl (c_X7_causesOf l D cA sa sv a_t a_t_kinds a_t_figures a_t_causeBits _ v_t_kinds v_t_figures v_t_causeBits v_t_size v_t_lost v_t_guarded v_t_day x3 x_4 hc_4) (ci := 2) rfl (q0 := 0) rfl S hK hP hD hS hA [0, 1, 2, 3] [] [0, 1, 2, 3] rfl rfl rfl rfl rfl rfl rfl ⟨Nat.le_of_ble_eq_true rfl, Nat.le_of_ble_eq_true rfl⟩ ⟨Nat.le_refl 0, Nat.le_refl 0⟩ rfl hl.1 rfl (Nat.le_of_ble_eq_true rfl) rfl dX7_rootsOf_25 (fun H locs hP hD hS => ?_)
          refine lv_ior hx hb dX7_rootsOf_28 ?_
          refine lv_istore_n (lv' := [(2, .int (x2 ||| x_4)), (0, .ref a_t), (3, .int x3)]) hx hb dX7_rootsOf_29 rfl hl (by decide) rfl (fun ls hl => ?_)
          exact J_30 (f_X7_rootsOf_10 F v_t_causeBits v_t_size p1 n) ih (x2 ||| x_4) x3 _ h _ _ _ hP hD hS (lv_sub hl [1, 0, 2] rfl)
  unfold f_X7_rootsOf at h
  refine lv_aload_n hx hb dX7_rootsOf_0 rfl (lv_at hl 0 rfl) ?_
  refine lv_iload_n hx hb dX7_rootsOf_1 rfl (lv_at hl 1 rfl) ?_
  obtain ⟨x_1, hc_1, h⟩ := bd_some h
  refine xk_V (rest := []) (As := [.int p1]) (stk := [.int x_1]) (wn := (wX7 cA a_t a_t_kinds a_t_figures a_t_causeBits v_t_kinds v_t_figures v_t_causeBits v_t_size v_t_lost v_t_guarded v_t_day)) (v := (some (.int x_1))) (wr := []) gX7_rootsOf_X7_causesOf rfl hdV_X7_causesOf rfl rfl (c_X7_causesOf l D cA sa sv a_t a_t_kinds a_t_figures a_t_causeBits _ v_t_kinds v_t_figures v_t_causeBits v_t_size v_t_lost v_t_guarded v_t_day p1 x_1 hc_1) (ci := 2) rfl (q0 := 0) rfl S hK hP hD hS hA [0, 1, 2, 3] [] [0, 1, 2, 3] rfl rfl rfl rfl rfl rfl rfl ⟨Nat.le_of_ble_eq_true rfl, Nat.le_of_ble_eq_true rfl⟩ ⟨Nat.le_refl 0, Nat.le_refl 0⟩ rfl hl.1 rfl (Nat.le_of_ble_eq_true rfl) rfl dX7_rootsOf_2 (fun H locs hP hD hS => ?_)
  refine lv_istore_n (lv' := [(2, .int x_1), (0, .ref a_t), (1, .int p1)]) hx hb dX7_rootsOf_5 rfl hl (by decide) rfl (fun ls hl => ?_)
  refine lv_iload_n hx hb dX7_rootsOf_6 rfl (lv_at hl 2 rfl) ?_
  refine lv_iconst (v := 1) hx hb dX7_rootsOf_7 (by decide) ?_
  refine lv_isub hx hb dX7_rootsOf_8 ?_
  refine lv_istore_n (lv' := [(3, .int (p1 - 1)), (2, .int x_1), (0, .ref a_t), (1, .int p1)]) hx hb dX7_rootsOf_9 rfl hl (by decide) rfl (fun ls hl => ?_)
  exact J_10 F x_1 (p1 - 1) _ h _ _ _ hP hD hS (lv_sub hl [2, 1, 0] rfl)
set_option maxHeartbeats 4000000 in
set_option maxRecDepth 100000 in
theorem c_X7_fruitsOf (l : Launch) (D : va_G) (cA : ClassId) (sa sv : Nat → Nat) (a_t a_t_kinds a_t_figures a_t_causeBits : Nat) (sz : Nat) (v_t_kinds : Nat → Int32) (v_t_figures : Nat → Int32) (v_t_causeBits : Nat → Int32) (v_t_size : Int32) (v_t_lost : Int32) (v_t_guarded : Int32) (v_t_day : Int32) (p1 : Int32) (F : Nat) (res : Int32) (h : f_X7_fruitsOf F v_t_causeBits v_t_size p1 = some res) : Met l yX7_fruitsOf wsX7_fruitsOf { frames := 3, cells := 0, slots := 0, locals := 65 } (xk_Pc D cA sa sv (wX7 cA a_t a_t_kinds a_t_figures a_t_causeBits v_t_kinds v_t_figures v_t_causeBits v_t_size v_t_lost v_t_guarded v_t_day) sz [.ref a_t, .int p1]) (xk_Q D (va_A (wX7 cA a_t a_t_kinds a_t_figures a_t_causeBits v_t_kinds v_t_figures v_t_causeBits v_t_size v_t_lost v_t_guarded v_t_day) sz) (some (.int res)) (wX7 cA a_t a_t_kinds a_t_figures a_t_causeBits v_t_kinds v_t_figures v_t_causeBits v_t_size v_t_lost v_t_guarded v_t_day)) 0 0 (va_A (wX7 cA a_t a_t_kinds a_t_figures a_t_causeBits v_t_kinds v_t_figures v_t_causeBits v_t_size v_t_lost v_t_guarded v_t_day) sz) := by
  refine xk_met (fun res : Int32 => some (.int res)) (fun res : Int32 => (wX7 cA a_t a_t_kinds a_t_figures a_t_causeBits v_t_kinds v_t_figures v_t_causeBits v_t_size v_t_lost v_t_guarded v_t_day)) res (cc := cX7_fruitsOf) (maxL := 4) (ret := (some .int)) (by decide) rfl (Nat.le_of_ble_eq_true rfl) ?_
  intro p e s m args below meth c A Q ls hQ hx hb hr hlk hml hown hts hK hP hD hS hA hl
  have S : CallFix p m c cX7_fruitsOf 4 s args wsX7_fruitsOf RX7 := ⟨hx, hb, hml, hown, hts⟩
  have hl : lv_has ls 4 [(0, .ref a_t), (1, .int p1)] := hl
  have hinX7 : ∀ w ∈ u_ws RX7 TX7 7, w ∈ wsX7_fruitsOf := fun _ h => List.mem_cons_of_mem _ (List.mem_append_right _ (h))
  have k_0 := hts (.fieldLink RX7 21 "NailsWantTheKingdom$Realm" "size" "I") (List.mem_of_getElem? (i := 1) (by decide +kernel))
  have J_30 : ∀ (k_4r : Int32 → Int32 → Option (Int32)), (∀ (x2 : Int32) (x3 : Int32) (res : Int32), k_4r x2 x3 = some res → ∀ (H : Heap) (locs : List Loc) (ls : Array Slot), va_P D vwCl (wX7 cA a_t a_t_kinds a_t_figures a_t_causeBits v_t_kinds v_t_figures v_t_causeBits v_t_size v_t_lost v_t_guarded v_t_day) H → va_D A (wX7 cA a_t a_t_kinds a_t_figures a_t_causeBits v_t_kinds v_t_figures v_t_causeBits v_t_size v_t_lost v_t_guarded v_t_day) → va_S A s.heap H locs → lv_has ls 4 [(0, .ref a_t), (1, .int p1), (2, .int x2), (3, .int x3)] → W p l e { frames := 3, cells := 0, slots := 0, locals := 65 } s m args below meth c H locs 0 0 (Q res) (F0 m 4 ls [])) → ∀ (x2 : Int32) (x3 : Int32) (res : Int32), f_X7_fruitsOf_30 F v_t_causeBits v_t_size p1 k_4r x2 x3 = some res → ∀ (H : Heap) (locs : List Loc) (ls : Array Slot), va_P D vwCl (wX7 cA a_t a_t_kinds a_t_figures a_t_causeBits v_t_kinds v_t_figures v_t_causeBits v_t_size v_t_lost v_t_guarded v_t_day) H → va_D A (wX7 cA a_t a_t_kinds a_t_figures a_t_causeBits v_t_kinds v_t_figures v_t_causeBits v_t_size v_t_lost v_t_guarded v_t_day) → va_S A s.heap H locs → lv_has ls 4 [(0, .ref a_t), (1, .int p1), (2, .int x2), (3, .int x3)] → W p l e { frames := 3, cells := 0, slots := 0, locals := 65 } s m args below meth c H locs 0 0 (Q res) (F0 m 30 ls []) := by
    intro k_4r hk_4r x2 x3 res h H locs ls hP hD hS hl
    unfold f_X7_fruitsOf_30 at h
    refine lv_iinc (v := (x3 + 1)) (lv' := [(3, .int (x3 + 1)), (0, .ref a_t), (1, .int p1), (2, .int x2)]) hx hb dX7_fruitsOf_30 hl (k := 3) rfl rfl (by decide) rfl (fun ls hl => ?_)
    refine lv_goto (tgt := 4) hx hb dX7_fruitsOf_33 (by decide) ?_
    exact hk_4r x2 (x3 + 1) _ h _ _ _ hP hD hS (lv_sub hl [1, 2, 3, 0] rfl)
  have J_4 : ∀ (n : Nat) (x2 : Int32) (x3 : Int32) (res : Int32), f_X7_fruitsOf_4 F v_t_causeBits v_t_size p1 n x2 x3 = some res → ∀ (H : Heap) (locs : List Loc) (ls : Array Slot), va_P D vwCl (wX7 cA a_t a_t_kinds a_t_figures a_t_causeBits v_t_kinds v_t_figures v_t_causeBits v_t_size v_t_lost v_t_guarded v_t_day) H → va_D A (wX7 cA a_t a_t_kinds a_t_figures a_t_causeBits v_t_kinds v_t_figures v_t_causeBits v_t_size v_t_lost v_t_guarded v_t_day) → va_S A s.heap H locs → lv_has ls 4 [(0, .ref a_t), (1, .int p1), (2, .int x2), (3, .int x3)] → W p l e { frames := 3, cells := 0, slots := 0, locals := 65 } s m args below meth c H locs 0 0 (Q res) (F0 m 4 ls []) := by
    intro n
    induction n with
    | zero => intro x2 x3 res h; exact nomatch (show (none : Option (Int32)) = some res from h)
    | succ n ih =>
      intro x2 x3 res h H locs ls hP hD hS hl
      rw [f_X7_fruitsOf_4] at h
      refine lv_iload_n hx hb dX7_fruitsOf_4 rfl (lv_at hl 3 rfl) ?_
      refine lv_aload_n hx hb dX7_fruitsOf_5 rfl (lv_at hl 0 rfl) ?_
      refine va_get (ci := 2) (v := .int v_t_size) (C := RX7) (T := TX7) (N := 7) hx hb hts hinX7 hown hK.1 hP 0 rfl rfl 3 (by decide) k_0 (fun _ h9 => h9) rfl dX7_fruitsOf_6 ?_
      refine lv_icmp_ge (tgt := 36) hx hb dX7_fruitsOf_9 (by decide) (fun c_1 => ?_) (fun c_1 => ?_)
      · have h := (if_pos c_1).symm.trans h
        refine lv_iload_n hx hb dX7_fruitsOf_36 rfl (lv_at hl 2 rfl) ?_
        obtain rfl := Option.some.inj h
        exact xk_iret hx hb hr hlk hP hD hS (hQ _) dX7_fruitsOf_37
      · have h := (if_neg c_1).symm.trans h
        refine lv_aload_n hx hb dX7_fruitsOf_12 rfl (lv_at hl 0 rfl) ?_
        refine lv_iload_n hx hb dX7_fruitsOf_13 rfl (lv_at hl 3 rfl) ?_
        obtain ⟨x_2, hc_2, h⟩ := bd_some h
        refine xk_V (rest := []) (As := [.int x3]) (stk := [.int x_2]) (wn := (wX7 cA a_t a_t_kinds a_t_figures a_t_causeBits v_t_kinds v_t_figures v_t_causeBits v_t_size v_t_lost v_t_guarded v_t_day)) (v := (some (.int x_2))) (wr := []) gX7_fruitsOf_X7_rootsOf rfl hdV_X7_rootsOf rfl rfl (c_X7_rootsOf l D cA sa sv a_t a_t_kinds a_t_figures a_t_causeBits _ v_t_kinds v_t_figures v_t_causeBits v_t_size v_t_lost v_t_guarded v_t_day x3 F x_2 hc_2) (ci := 2) rfl (q0 := 0) rfl S hK hP hD hS hA [0, 1, 2, 3] [] [0, 1, 2, 3] rfl rfl rfl rfl rfl rfl rfl ⟨Nat.le_of_ble_eq_true rfl, Nat.le_of_ble_eq_true rfl⟩ ⟨Nat.le_refl 0, Nat.le_refl 0⟩ rfl hl.1 rfl (Nat.le_of_ble_eq_true rfl) rfl dX7_fruitsOf_14 (fun H locs hP hD hS => ?_)
        refine lv_iconst (v := 1) hx hb dX7_fruitsOf_17 (by decide) ?_
        refine lv_iload_n hx hb dX7_fruitsOf_18 rfl (lv_at hl 1 rfl) ?_
        refine lv_ishl hx hb dX7_fruitsOf_19 ?_
        refine lv_iand hx hb dX7_fruitsOf_20 ?_
        refine lv_if_eq (tgt := 30) hx hb dX7_fruitsOf_21 (by decide) (fun c_3 => ?_) (fun c_3 => ?_)
        · have h := (if_pos c_3).symm.trans h
          exact J_30 (f_X7_fruitsOf_4 F v_t_causeBits v_t_size p1 n) ih x2 x3 _ h _ _ _ hP hD hS (lv_sub hl [0, 1, 2, 3] rfl)
        · have h := (if_neg c_3).symm.trans h
          refine lv_iload_n hx hb dX7_fruitsOf_24 rfl (lv_at hl 2 rfl) ?_
          refine lv_iconst (v := 1) hx hb dX7_fruitsOf_25 (by decide) ?_
          refine lv_iload_n hx hb dX7_fruitsOf_26 rfl (lv_at hl 3 rfl) ?_
          refine lv_ishl hx hb dX7_fruitsOf_27 ?_
          refine lv_ior hx hb dX7_fruitsOf_28 ?_
          refine lv_istore_n (lv' := [(2, .int (x2 ||| (1 <<< (x3 &&& 31)))), (0, .ref a_t), (1, .int p1), (3, .int x3)]) hx hb dX7_fruitsOf_29 rfl hl (by decide) rfl (fun ls hl => ?_)
          exact J_30 (f_X7_fruitsOf_4 F v_t_causeBits v_t_size p1 n) ih (x2 ||| (1 <<< (x3 &&& 31))) x3 _ h _ _ _ hP hD hS (lv_sub hl [1, 2, 0, 3] rfl)
  unfold f_X7_fruitsOf at h
  refine lv_iconst (v := 0) hx hb dX7_fruitsOf_0 (by decide) ?_
  refine lv_istore_n (lv' := [(2, .int 0), (0, .ref a_t), (1, .int p1)]) hx hb dX7_fruitsOf_1 rfl hl (by decide) rfl (fun ls hl => ?_)
  refine lv_iconst (v := 0) hx hb dX7_fruitsOf_2 (by decide) ?_
  refine lv_istore_n (lv' := [(3, .int 0), (2, .int 0), (0, .ref a_t), (1, .int p1)]) hx hb dX7_fruitsOf_3 rfl hl (by decide) rfl (fun ls hl => ?_)
  exact J_4 F 0 0 _ h _ _ _ hP hD hS (lv_sub hl [2, 3, 1, 0] rfl)
set_option maxHeartbeats 4000000 in
set_option maxRecDepth 100000 in
theorem c_X7_causesOfThese (l : Launch) (D : va_G) (cA : ClassId) (sa sv : Nat → Nat) (a_t a_t_kinds a_t_figures a_t_causeBits : Nat) (sz : Nat) (v_t_kinds : Nat → Int32) (v_t_figures : Nat → Int32) (v_t_causeBits : Nat → Int32) (v_t_size : Int32) (v_t_lost : Int32) (v_t_guarded : Int32) (v_t_day : Int32) (p1 : Int32) (F : Nat) (res : Int32) (h : f_X7_causesOfThese F v_t_causeBits v_t_size p1 = some res) : Met l yX7_causesOfThese wsX7_causesOfThese { frames := 2, cells := 0, slots := 0, locals := 42 } (xk_Pc D cA sa sv (wX7 cA a_t a_t_kinds a_t_figures a_t_causeBits v_t_kinds v_t_figures v_t_causeBits v_t_size v_t_lost v_t_guarded v_t_day) sz [.ref a_t, .int p1]) (xk_Q D (va_A (wX7 cA a_t a_t_kinds a_t_figures a_t_causeBits v_t_kinds v_t_figures v_t_causeBits v_t_size v_t_lost v_t_guarded v_t_day) sz) (some (.int res)) (wX7 cA a_t a_t_kinds a_t_figures a_t_causeBits v_t_kinds v_t_figures v_t_causeBits v_t_size v_t_lost v_t_guarded v_t_day)) 0 0 (va_A (wX7 cA a_t a_t_kinds a_t_figures a_t_causeBits v_t_kinds v_t_figures v_t_causeBits v_t_size v_t_lost v_t_guarded v_t_day) sz) := by
  refine xk_met (fun res : Int32 => some (.int res)) (fun res : Int32 => (wX7 cA a_t a_t_kinds a_t_figures a_t_causeBits v_t_kinds v_t_figures v_t_causeBits v_t_size v_t_lost v_t_guarded v_t_day)) res (cc := cX7_causesOfThese) (maxL := 4) (ret := (some .int)) (by decide) rfl (Nat.le_of_ble_eq_true rfl) ?_
  intro p e s m args below meth c A Q ls hQ hx hb hr hlk hml hown hts hK hP hD hS hA hl
  have S : CallFix p m c cX7_causesOfThese 4 s args wsX7_causesOfThese RX7 := ⟨hx, hb, hml, hown, hts⟩
  have hl : lv_has ls 4 [(0, .ref a_t), (1, .int p1)] := hl
  have hinX7 : ∀ w ∈ u_ws RX7 TX7 7, w ∈ wsX7_causesOfThese := fun _ h => List.mem_cons_of_mem _ (List.mem_append_right _ (h))
  have k_0 := hts (.fieldLink RX7 21 "NailsWantTheKingdom$Realm" "size" "I") (List.mem_of_getElem? (i := 1) (by decide +kernel))
  have J_28 : ∀ (k_4r : Int32 → Int32 → Option (Int32)), (∀ (x2 : Int32) (x3 : Int32) (res : Int32), k_4r x2 x3 = some res → ∀ (H : Heap) (locs : List Loc) (ls : Array Slot), va_P D vwCl (wX7 cA a_t a_t_kinds a_t_figures a_t_causeBits v_t_kinds v_t_figures v_t_causeBits v_t_size v_t_lost v_t_guarded v_t_day) H → va_D A (wX7 cA a_t a_t_kinds a_t_figures a_t_causeBits v_t_kinds v_t_figures v_t_causeBits v_t_size v_t_lost v_t_guarded v_t_day) → va_S A s.heap H locs → lv_has ls 4 [(0, .ref a_t), (1, .int p1), (2, .int x2), (3, .int x3)] → W p l e { frames := 2, cells := 0, slots := 0, locals := 42 } s m args below meth c H locs 0 0 (Q res) (F0 m 4 ls [])) → ∀ (x2 : Int32) (x3 : Int32) (res : Int32), f_X7_causesOfThese_28 F v_t_causeBits v_t_size p1 k_4r x2 x3 = some res → ∀ (H : Heap) (locs : List Loc) (ls : Array Slot), va_P D vwCl (wX7 cA a_t a_t_kinds a_t_figures a_t_causeBits v_t_kinds v_t_figures v_t_causeBits v_t_size v_t_lost v_t_guarded v_t_day) H → va_D A (wX7 cA a_t a_t_kinds a_t_figures a_t_causeBits v_t_kinds v_t_figures v_t_causeBits v_t_size v_t_lost v_t_guarded v_t_day) → va_S A s.heap H locs → lv_has ls 4 [(0, .ref a_t), (1, .int p1), (2, .int x2), (3, .int x3)] → W p l e { frames := 2, cells := 0, slots := 0, locals := 42 } s m args below meth c H locs 0 0 (Q res) (F0 m 28 ls []) := by
    intro k_4r hk_4r x2 x3 res h H locs ls hP hD hS hl
    unfold f_X7_causesOfThese_28 at h
    refine lv_iinc (v := (x3 + 1)) (lv' := [(3, .int (x3 + 1)), (0, .ref a_t), (1, .int p1), (2, .int x2)]) hx hb dX7_causesOfThese_28 hl (k := 3) rfl rfl (by decide) rfl (fun ls hl => ?_)
    refine lv_goto (tgt := 4) hx hb dX7_causesOfThese_31 (by decide) ?_
    exact hk_4r x2 (x3 + 1) _ h _ _ _ hP hD hS (lv_sub hl [1, 2, 3, 0] rfl)
  have J_4 : ∀ (n : Nat) (x2 : Int32) (x3 : Int32) (res : Int32), f_X7_causesOfThese_4 F v_t_causeBits v_t_size p1 n x2 x3 = some res → ∀ (H : Heap) (locs : List Loc) (ls : Array Slot), va_P D vwCl (wX7 cA a_t a_t_kinds a_t_figures a_t_causeBits v_t_kinds v_t_figures v_t_causeBits v_t_size v_t_lost v_t_guarded v_t_day) H → va_D A (wX7 cA a_t a_t_kinds a_t_figures a_t_causeBits v_t_kinds v_t_figures v_t_causeBits v_t_size v_t_lost v_t_guarded v_t_day) → va_S A s.heap H locs → lv_has ls 4 [(0, .ref a_t), (1, .int p1), (2, .int x2), (3, .int x3)] → W p l e { frames := 2, cells := 0, slots := 0, locals := 42 } s m args below meth c H locs 0 0 (Q res) (F0 m 4 ls []) := by
    intro n
    induction n with
    | zero => intro x2 x3 res h; exact nomatch (show (none : Option (Int32)) = some res from h)
    | succ n ih =>
      intro x2 x3 res h H locs ls hP hD hS hl
      rw [f_X7_causesOfThese_4] at h
      refine lv_iload_n hx hb dX7_causesOfThese_4 rfl (lv_at hl 3 rfl) ?_
      refine lv_aload_n hx hb dX7_causesOfThese_5 rfl (lv_at hl 0 rfl) ?_
      refine va_get (ci := 2) (v := .int v_t_size) (C := RX7) (T := TX7) (N := 7) hx hb hts hinX7 hown hK.1 hP 0 rfl rfl 3 (by decide) k_0 (fun _ h9 => h9) rfl dX7_causesOfThese_6 ?_
      refine lv_icmp_ge (tgt := 34) hx hb dX7_causesOfThese_9 (by decide) (fun c_1 => ?_) (fun c_1 => ?_)
      · have h := (if_pos c_1).symm.trans h
        refine lv_iload_n hx hb dX7_causesOfThese_34 rfl (lv_at hl 2 rfl) ?_
        obtain rfl := Option.some.inj h
        exact xk_iret hx hb hr hlk hP hD hS (hQ _) dX7_causesOfThese_35
      · have h := (if_neg c_1).symm.trans h
        refine lv_iload_n hx hb dX7_causesOfThese_12 rfl (lv_at hl 1 rfl) ?_
        refine lv_iconst (v := 1) hx hb dX7_causesOfThese_13 (by decide) ?_
        refine lv_iload_n hx hb dX7_causesOfThese_14 rfl (lv_at hl 3 rfl) ?_
        refine lv_ishl hx hb dX7_causesOfThese_15 ?_
        refine lv_iand hx hb dX7_causesOfThese_16 ?_
        refine lv_if_eq (tgt := 28) hx hb dX7_causesOfThese_17 (by decide) (fun c_2 => ?_) (fun c_2 => ?_)
        · have h := (if_pos c_2).symm.trans h
          exact J_28 (f_X7_causesOfThese_4 F v_t_causeBits v_t_size p1 n) ih x2 x3 _ h _ _ _ hP hD hS (lv_sub hl [0, 1, 2, 3] rfl)
        · have h := (if_neg c_2).symm.trans h
          refine lv_iload_n hx hb dX7_causesOfThese_20 rfl (lv_at hl 2 rfl) ?_
          refine lv_aload_n hx hb dX7_causesOfThese_21 rfl (lv_at hl 0 rfl) ?_
          refine lv_iload_n hx hb dX7_causesOfThese_22 rfl (lv_at hl 3 rfl) ?_
          obtain ⟨x_3, hc_3, h⟩ := bd_some h
          refine xk_V (rest := [.int x2]) (As := [.int x3]) (stk := [.int x_3, .int x2]) (wn := (wX7 cA a_t a_t_kinds a_t_figures a_t_causeBits v_t_kinds v_t_figures v_t_causeBits v_t_size v_t_lost v_t_guarded v_t_day)) (v := (some (.int x_3))) (wr := []) gX7_causesOfThese_X7_causesOf rfl hdV_X7_causesOf rfl rfl (c_X7_causesOf l D cA sa sv a_t a_t_kinds a_t_figures a_t_causeBits _ v_t_kinds v_t_figures v_t_causeBits v_t_size v_t_lost v_t_guarded v_t_day x3 x_3 hc_3) (ci := 2) rfl (q0 := 0) rfl S hK hP hD hS hA [0, 1, 2, 3] [] [0, 1, 2, 3] rfl rfl rfl rfl rfl rfl rfl ⟨Nat.le_of_ble_eq_true rfl, Nat.le_of_ble_eq_true rfl⟩ ⟨Nat.le_refl 0, Nat.le_refl 0⟩ rfl hl.1 rfl (Nat.le_of_ble_eq_true rfl) rfl dX7_causesOfThese_23 (fun H locs hP hD hS => ?_)
          refine lv_ior hx hb dX7_causesOfThese_26 ?_
          refine lv_istore_n (lv' := [(2, .int (x2 ||| x_3)), (0, .ref a_t), (1, .int p1), (3, .int x3)]) hx hb dX7_causesOfThese_27 rfl hl (by decide) rfl (fun ls hl => ?_)
          exact J_28 (f_X7_causesOfThese_4 F v_t_causeBits v_t_size p1 n) ih (x2 ||| x_3) x3 _ h _ _ _ hP hD hS (lv_sub hl [1, 2, 0, 3] rfl)
  unfold f_X7_causesOfThese at h
  refine lv_iconst (v := 0) hx hb dX7_causesOfThese_0 (by decide) ?_
  refine lv_istore_n (lv' := [(2, .int 0), (0, .ref a_t), (1, .int p1)]) hx hb dX7_causesOfThese_1 rfl hl (by decide) rfl (fun ls hl => ?_)
  refine lv_iconst (v := 0) hx hb dX7_causesOfThese_2 (by decide) ?_
  refine lv_istore_n (lv' := [(3, .int 0), (2, .int 0), (0, .ref a_t), (1, .int p1)]) hx hb dX7_causesOfThese_3 rfl hl (by decide) rfl (fun ls hl => ?_)
  exact J_4 F 0 0 _ h _ _ _ hP hD hS (lv_sub hl [2, 3, 1, 0] rfl)
set_option maxHeartbeats 4000000 in
set_option maxRecDepth 100000 in
theorem c_X7_depthOf (l : Launch) (D : va_G) (cA : ClassId) (sa sv : Nat → Nat) (a_t a_t_kinds a_t_figures a_t_causeBits : Nat) (sz : Nat) (v_t_kinds : Nat → Int32) (v_t_figures : Nat → Int32) (v_t_causeBits : Nat → Int32) (v_t_size : Int32) (v_t_lost : Int32) (v_t_guarded : Int32) (v_t_day : Int32) (p1 : Int32) (F : Nat) (res : Int32) (h : f_X7_depthOf F v_t_causeBits v_t_size p1 = some res) : Met l yX7_depthOf wsX7_depthOf { frames := 3, cells := 0, slots := 0, locals := 65 } (xk_Pc D cA sa sv (wX7 cA a_t a_t_kinds a_t_figures a_t_causeBits v_t_kinds v_t_figures v_t_causeBits v_t_size v_t_lost v_t_guarded v_t_day) sz [.ref a_t, .int p1]) (xk_Q D (va_A (wX7 cA a_t a_t_kinds a_t_figures a_t_causeBits v_t_kinds v_t_figures v_t_causeBits v_t_size v_t_lost v_t_guarded v_t_day) sz) (some (.int res)) (wX7 cA a_t a_t_kinds a_t_figures a_t_causeBits v_t_kinds v_t_figures v_t_causeBits v_t_size v_t_lost v_t_guarded v_t_day)) 0 0 (va_A (wX7 cA a_t a_t_kinds a_t_figures a_t_causeBits v_t_kinds v_t_figures v_t_causeBits v_t_size v_t_lost v_t_guarded v_t_day) sz) := by
  refine xk_met (fun res : Int32 => some (.int res)) (fun res : Int32 => (wX7 cA a_t a_t_kinds a_t_figures a_t_causeBits v_t_kinds v_t_figures v_t_causeBits v_t_size v_t_lost v_t_guarded v_t_day)) res (cc := cX7_depthOf) (maxL := 4) (ret := (some .int)) (by decide) rfl (Nat.le_of_ble_eq_true rfl) ?_
  intro p e s m args below meth c A Q ls hQ hx hb hr hlk hml hown hts hK hP hD hS hA hl
  have S : CallFix p m c cX7_depthOf 4 s args wsX7_depthOf RX7 := ⟨hx, hb, hml, hown, hts⟩
  have hl : lv_has ls 4 [(0, .ref a_t), (1, .int p1)] := hl
  have J_8 : ∀ (n : Nat) (x2 : Int32) (x3 : Int32) (res : Int32), f_X7_depthOf_8 F v_t_causeBits v_t_size p1 n x2 x3 = some res → ∀ (H : Heap) (locs : List Loc) (ls : Array Slot), va_P D vwCl (wX7 cA a_t a_t_kinds a_t_figures a_t_causeBits v_t_kinds v_t_figures v_t_causeBits v_t_size v_t_lost v_t_guarded v_t_day) H → va_D A (wX7 cA a_t a_t_kinds a_t_figures a_t_causeBits v_t_kinds v_t_figures v_t_causeBits v_t_size v_t_lost v_t_guarded v_t_day) → va_S A s.heap H locs → lv_has ls 4 [(0, .ref a_t), (2, .int x2), (3, .int x3)] → W p l e { frames := 3, cells := 0, slots := 0, locals := 65 } s m args below meth c H locs 0 0 (Q res) (F0 m 8 ls []) := by
    intro n
    induction n with
    | zero => intro x2 x3 res h; exact nomatch (show (none : Option (Int32)) = some res from h)
    | succ n ih =>
      intro x2 x3 res h H locs ls hP hD hS hl
      rw [f_X7_depthOf_8] at h
      refine lv_iload_n hx hb dX7_depthOf_8 rfl (lv_at hl 1 rfl) ?_
      refine lv_if_eq (tgt := 30) hx hb dX7_depthOf_9 (by decide) (fun c_2 => ?_) (fun c_2 => ?_)
      · have h := (if_pos c_2).symm.trans h
        refine lv_iload_n hx hb dX7_depthOf_30 rfl (lv_at hl 2 rfl) ?_
        obtain rfl := Option.some.inj h
        exact xk_iret hx hb hr hlk hP hD hS (hQ _) dX7_depthOf_31
      · have h := (if_neg c_2).symm.trans h
        refine lv_iload_n hx hb dX7_depthOf_12 rfl (lv_at hl 2 rfl) ?_
        refine lv_bipush (v := 9) hx hb dX7_depthOf_13 (by decide) ?_
        refine lv_icmp_ge (tgt := 30) hx hb dX7_depthOf_15 (by decide) (fun c_3 => ?_) (fun c_3 => ?_)
        · have h := (if_pos c_3).symm.trans h
          refine lv_iload_n hx hb dX7_depthOf_30 rfl (lv_at hl 2 rfl) ?_
          obtain rfl := Option.some.inj h
          exact xk_iret hx hb hr hlk hP hD hS (hQ _) dX7_depthOf_31
        · have h := (if_neg c_3).symm.trans h
          refine lv_iinc (v := (x3 + 1)) (lv' := [(3, .int (x3 + 1)), (0, .ref a_t), (2, .int x2)]) hx hb dX7_depthOf_18 hl (k := 2) rfl rfl (by decide) rfl (fun ls hl => ?_)
          refine lv_aload_n hx hb dX7_depthOf_21 rfl (lv_at hl 1 rfl) ?_
          refine lv_iload_n hx hb dX7_depthOf_22 rfl (lv_at hl 2 rfl) ?_
          obtain ⟨x_4, hc_4, h⟩ := bd_some h
          refine xk_V (rest := []) (As := [.int x2]) (stk := [.int x_4]) (wn := (wX7 cA a_t a_t_kinds a_t_figures a_t_causeBits v_t_kinds v_t_figures v_t_causeBits v_t_size v_t_lost v_t_guarded v_t_day)) (v := (some (.int x_4))) (wr := []) gX7_depthOf_X7_causesOfThese rfl hdV_X7_causesOfThese rfl rfl (c_X7_causesOfThese l D cA sa sv a_t a_t_kinds a_t_figures a_t_causeBits _ v_t_kinds v_t_figures v_t_causeBits v_t_size v_t_lost v_t_guarded v_t_day x2 F x_4 hc_4) (ci := 2) rfl (q0 := 0) rfl S hK hP hD hS hA [0, 1, 2, 3] [] [0, 1, 2, 3] rfl rfl rfl rfl rfl rfl rfl ⟨Nat.le_of_ble_eq_true rfl, Nat.le_of_ble_eq_true rfl⟩ ⟨Nat.le_refl 0, Nat.le_refl 0⟩ rfl hl.1 rfl (Nat.le_of_ble_eq_true rfl) rfl dX7_depthOf_23 (fun H locs hP hD hS => ?_)
          refine lv_istore_n (lv' := [(2, .int x_4), (3, .int (x3 + 1)), (0, .ref a_t)]) hx hb dX7_depthOf_26 rfl hl (by decide) rfl (fun ls hl => ?_)
          refine lv_goto (tgt := 8) hx hb dX7_depthOf_27 (by decide) ?_
          exact ih x_4 (x3 + 1) _ h _ _ _ hP hD hS (lv_sub hl [2, 0, 1] rfl)
  unfold f_X7_depthOf at h
  refine lv_aload_n hx hb dX7_depthOf_0 rfl (lv_at hl 0 rfl) ?_
  refine lv_iload_n hx hb dX7_depthOf_1 rfl (lv_at hl 1 rfl) ?_
  obtain ⟨x_1, hc_1, h⟩ := bd_some h
  refine xk_V (rest := []) (As := [.int p1]) (stk := [.int x_1]) (wn := (wX7 cA a_t a_t_kinds a_t_figures a_t_causeBits v_t_kinds v_t_figures v_t_causeBits v_t_size v_t_lost v_t_guarded v_t_day)) (v := (some (.int x_1))) (wr := []) gX7_depthOf_X7_causesOf rfl hdV_X7_causesOf rfl rfl (c_X7_causesOf l D cA sa sv a_t a_t_kinds a_t_figures a_t_causeBits _ v_t_kinds v_t_figures v_t_causeBits v_t_size v_t_lost v_t_guarded v_t_day p1 x_1 hc_1) (ci := 2) rfl (q0 := 0) rfl S hK hP hD hS hA [0, 1, 2, 3] [] [0, 1, 2, 3] rfl rfl rfl rfl rfl rfl rfl ⟨Nat.le_of_ble_eq_true rfl, Nat.le_of_ble_eq_true rfl⟩ ⟨Nat.le_refl 0, Nat.le_refl 0⟩ rfl hl.1 rfl (Nat.le_of_ble_eq_true rfl) rfl dX7_depthOf_2 (fun H locs hP hD hS => ?_)
  refine lv_istore_n (lv' := [(2, .int x_1), (0, .ref a_t), (1, .int p1)]) hx hb dX7_depthOf_5 rfl hl (by decide) rfl (fun ls hl => ?_)
  refine lv_iconst (v := 0) hx hb dX7_depthOf_6 (by decide) ?_
  refine lv_istore_n (lv' := [(3, .int 0), (2, .int x_1), (0, .ref a_t), (1, .int p1)]) hx hb dX7_depthOf_7 rfl hl (by decide) rfl (fun ls hl => ?_)
  exact J_8 F x_1 0 _ h _ _ _ hP hD hS (lv_sub hl [2, 1, 0] rfl)
set_option maxHeartbeats 4000000 in
set_option maxRecDepth 100000 in
theorem c_X7_withMostFruits (l : Launch) (D : va_G) (cA : ClassId) (sa sv : Nat → Nat) (a_t a_t_kinds a_t_figures a_t_causeBits : Nat) (sz : Nat) (v_t_kinds : Nat → Int32) (v_t_figures : Nat → Int32) (v_t_causeBits : Nat → Int32) (v_t_size : Int32) (v_t_lost : Int32) (v_t_guarded : Int32) (v_t_day : Int32) (F : Nat) (res : Int32) (h : f_X7_withMostFruits F v_t_causeBits v_t_size  = some res) : Met l yX7_withMostFruits wsX7_withMostFruits { frames := 4, cells := 0, slots := 0, locals := 88 } (xk_Pc D cA sa sv (wX7 cA a_t a_t_kinds a_t_figures a_t_causeBits v_t_kinds v_t_figures v_t_causeBits v_t_size v_t_lost v_t_guarded v_t_day) sz [.ref a_t]) (xk_Q D (va_A (wX7 cA a_t a_t_kinds a_t_figures a_t_causeBits v_t_kinds v_t_figures v_t_causeBits v_t_size v_t_lost v_t_guarded v_t_day) sz) (some (.int res)) (wX7 cA a_t a_t_kinds a_t_figures a_t_causeBits v_t_kinds v_t_figures v_t_causeBits v_t_size v_t_lost v_t_guarded v_t_day)) 0 0 (va_A (wX7 cA a_t a_t_kinds a_t_figures a_t_causeBits v_t_kinds v_t_figures v_t_causeBits v_t_size v_t_lost v_t_guarded v_t_day) sz) := by
  refine xk_met (fun res : Int32 => some (.int res)) (fun res : Int32 => (wX7 cA a_t a_t_kinds a_t_figures a_t_causeBits v_t_kinds v_t_figures v_t_causeBits v_t_size v_t_lost v_t_guarded v_t_day)) res (cc := cX7_withMostFruits) (maxL := 5) (ret := (some .int)) (by decide) rfl (Nat.le_of_ble_eq_true rfl) ?_
  intro p e s m args below meth c A Q ls hQ hx hb hr hlk hml hown hts hK hP hD hS hA hl
  have S : CallFix p m c cX7_withMostFruits 5 s args wsX7_withMostFruits RX7 := ⟨hx, hb, hml, hown, hts⟩
  have hl : lv_has ls 5 [(0, .ref a_t)] := hl
  have hinX7 : ∀ w ∈ u_ws RX7 TX7 7, w ∈ wsX7_withMostFruits := fun _ h => List.mem_cons_of_mem _ (List.mem_append_right _ (h))
  have k_0 := hts (.fieldLink RX7 21 "NailsWantTheKingdom$Realm" "size" "I") (List.mem_of_getElem? (i := 1) (by decide +kernel))
  have J_36 : ∀ (k_7r : Int32 → Int32 → Int32 → Option (Int32)), (∀ (x1 : Int32) (x2 : Int32) (x3 : Int32) (res : Int32), k_7r x1 x2 x3 = some res → ∀ (H : Heap) (locs : List Loc) (ls : Array Slot), va_P D vwCl (wX7 cA a_t a_t_kinds a_t_figures a_t_causeBits v_t_kinds v_t_figures v_t_causeBits v_t_size v_t_lost v_t_guarded v_t_day) H → va_D A (wX7 cA a_t a_t_kinds a_t_figures a_t_causeBits v_t_kinds v_t_figures v_t_causeBits v_t_size v_t_lost v_t_guarded v_t_day) → va_S A s.heap H locs → lv_has ls 5 [(0, .ref a_t), (1, .int x1), (2, .int x2), (3, .int x3)] → W p l e { frames := 4, cells := 0, slots := 0, locals := 88 } s m args below meth c H locs 0 0 (Q res) (F0 m 7 ls [])) → ∀ (x1 : Int32) (x2 : Int32) (x3 : Int32) (res : Int32), f_X7_withMostFruits_36 F v_t_causeBits v_t_size k_7r x1 x2 x3 = some res → ∀ (H : Heap) (locs : List Loc) (ls : Array Slot), va_P D vwCl (wX7 cA a_t a_t_kinds a_t_figures a_t_causeBits v_t_kinds v_t_figures v_t_causeBits v_t_size v_t_lost v_t_guarded v_t_day) H → va_D A (wX7 cA a_t a_t_kinds a_t_figures a_t_causeBits v_t_kinds v_t_figures v_t_causeBits v_t_size v_t_lost v_t_guarded v_t_day) → va_S A s.heap H locs → lv_has ls 5 [(0, .ref a_t), (1, .int x1), (2, .int x2), (3, .int x3)] → W p l e { frames := 4, cells := 0, slots := 0, locals := 88 } s m args below meth c H locs 0 0 (Q res) (F0 m 36 ls []) := by
    intro k_7r hk_7r x1 x2 x3 res h H locs ls hP hD hS hl
    unfold f_X7_withMostFruits_36 at h
    refine lv_iinc (v := (x3 + 1)) (lv' := [(3, .int (x3 + 1)), (0, .ref a_t), (1, .int x1), (2, .int x2)]) hx hb dX7_withMostFruits_36 hl (k := 3) rfl rfl (by decide) rfl (fun ls hl => ?_)
    refine lv_goto (tgt := 7) hx hb dX7_withMostFruits_39 (by decide) ?_
    exact hk_7r x1 x2 (x3 + 1) _ h _ _ _ hP hD hS (lv_sub hl [1, 2, 3, 0] rfl)
  have J_7 : ∀ (n : Nat) (x1 : Int32) (x2 : Int32) (x3 : Int32) (res : Int32), f_X7_withMostFruits_7 F v_t_causeBits v_t_size n x1 x2 x3 = some res → ∀ (H : Heap) (locs : List Loc) (ls : Array Slot), va_P D vwCl (wX7 cA a_t a_t_kinds a_t_figures a_t_causeBits v_t_kinds v_t_figures v_t_causeBits v_t_size v_t_lost v_t_guarded v_t_day) H → va_D A (wX7 cA a_t a_t_kinds a_t_figures a_t_causeBits v_t_kinds v_t_figures v_t_causeBits v_t_size v_t_lost v_t_guarded v_t_day) → va_S A s.heap H locs → lv_has ls 5 [(0, .ref a_t), (1, .int x1), (2, .int x2), (3, .int x3)] → W p l e { frames := 4, cells := 0, slots := 0, locals := 88 } s m args below meth c H locs 0 0 (Q res) (F0 m 7 ls []) := by
    intro n
    induction n with
    | zero => intro x1 x2 x3 res h; exact nomatch (show (none : Option (Int32)) = some res from h)
    | succ n ih =>
      intro x1 x2 x3 res h H locs ls hP hD hS hl
      rw [f_X7_withMostFruits_7] at h
      refine lv_iload_n hx hb dX7_withMostFruits_7 rfl (lv_at hl 3 rfl) ?_
      refine lv_aload_n hx hb dX7_withMostFruits_8 rfl (lv_at hl 0 rfl) ?_
      refine va_get (ci := 2) (v := .int v_t_size) (C := RX7) (T := TX7) (N := 7) hx hb hts hinX7 hown hK.1 hP 0 rfl rfl 3 (by decide) k_0 (fun _ h9 => h9) rfl dX7_withMostFruits_9 ?_
      refine lv_icmp_ge (tgt := 42) hx hb dX7_withMostFruits_12 (by decide) (fun c_1 => ?_) (fun c_1 => ?_)
      · have h := (if_pos c_1).symm.trans h
        refine lv_iload_n hx hb dX7_withMostFruits_42 rfl (lv_at hl 1 rfl) ?_
        obtain rfl := Option.some.inj h
        exact xk_iret hx hb hr hlk hP hD hS (hQ _) dX7_withMostFruits_43
      · have h := (if_neg c_1).symm.trans h
        refine lv_aload_n hx hb dX7_withMostFruits_15 rfl (lv_at hl 0 rfl) ?_
        refine lv_iload_n hx hb dX7_withMostFruits_16 rfl (lv_at hl 3 rfl) ?_
        obtain ⟨x_2, hc_2, h⟩ := bd_some h
        refine xk_V (rest := []) (As := [.int x3]) (stk := [.int x_2]) (wn := (wX7 cA a_t a_t_kinds a_t_figures a_t_causeBits v_t_kinds v_t_figures v_t_causeBits v_t_size v_t_lost v_t_guarded v_t_day)) (v := (some (.int x_2))) (wr := []) gX7_withMostFruits_X7_fruitsOf rfl hdV_X7_fruitsOf rfl rfl (c_X7_fruitsOf l D cA sa sv a_t a_t_kinds a_t_figures a_t_causeBits _ v_t_kinds v_t_figures v_t_causeBits v_t_size v_t_lost v_t_guarded v_t_day x3 F x_2 hc_2) (ci := 2) rfl (q0 := 0) rfl S hK hP hD hS hA [0, 1, 2, 3] [] [0, 1, 2, 3] rfl rfl rfl rfl rfl rfl rfl ⟨Nat.le_of_ble_eq_true rfl, Nat.le_of_ble_eq_true rfl⟩ ⟨Nat.le_refl 0, Nat.le_refl 0⟩ rfl hl.1 rfl (Nat.le_of_ble_eq_true rfl) rfl dX7_withMostFruits_17 (fun H locs hP hD hS => ?_)
        obtain ⟨x_3, hc_3, h⟩ := bd_some h
        refine xk_S (rest := []) (As := [.int x_2]) (stk := [.int x_3]) (wn := (wX7 cA a_t a_t_kinds a_t_figures a_t_causeBits v_t_kinds v_t_figures v_t_causeBits v_t_size v_t_lost v_t_guarded v_t_day)) (v := (some (.int x_3))) (wr := [(a_t, .inr (2, [.ref a_t_kinds, .ref a_t_figures, .ref a_t_causeBits, .int v_t_size, .int v_t_lost, .int v_t_guarded, .int v_t_day])), (a_t_kinds, .inl (cA, 9, .inl v_t_kinds)), (a_t_figures, .inl (cA, 9, .inl v_t_figures)), (a_t_causeBits, .inl (cA, 9, .inl v_t_causeBits))]) gX7_withMostFruits_J6_bitCount_0f7a4 rfl hdS_J6_bitCount_0f7a4 rfl rfl (c_J6_bitCount_0f7a4 l D cA sa sv _ x_2 x_3 hc_3) S hK hP hD hS hA [] [0, 1, 2, 3] [0, 1, 2, 3] rfl rfl rfl rfl rfl rfl rfl ⟨Nat.le_of_ble_eq_true rfl, Nat.le_of_ble_eq_true rfl⟩ ⟨Nat.le_refl 0, Nat.le_refl 0⟩ rfl hl.1 rfl (Nat.le_of_ble_eq_true rfl) rfl dX7_withMostFruits_20 (fun H locs hP hD hS => ?_)
        refine lv_istore (lv' := [(4, .int x_3), (0, .ref a_t), (1, .int x1), (2, .int x2), (3, .int x3)]) hx hb dX7_withMostFruits_23 hl (by decide) rfl (fun ls hl => ?_)
        refine lv_iload hx hb dX7_withMostFruits_25 (lv_at hl 0 rfl) ?_
        refine lv_iload_n hx hb dX7_withMostFruits_27 rfl (lv_at hl 3 rfl) ?_
        refine lv_icmp_le (tgt := 36) hx hb dX7_withMostFruits_28 (by decide) (fun c_4 => ?_) (fun c_4 => ?_)
        · have h := (if_pos c_4).symm.trans h
          exact J_36 (f_X7_withMostFruits_7 F v_t_causeBits v_t_size n) ih x1 x2 x3 _ h _ _ _ hP hD hS (lv_sub hl [1, 2, 3, 4] rfl)
        · have h := (if_neg c_4).symm.trans h
          refine lv_iload hx hb dX7_withMostFruits_31 (lv_at hl 0 rfl) ?_
          refine lv_istore_n (lv' := [(2, .int x_3), (4, .int x_3), (0, .ref a_t), (1, .int x1), (3, .int x3)]) hx hb dX7_withMostFruits_33 rfl hl (by decide) rfl (fun ls hl => ?_)
          refine lv_iload_n hx hb dX7_withMostFruits_34 rfl (lv_at hl 4 rfl) ?_
          refine lv_istore_n (lv' := [(1, .int x3), (2, .int x_3), (4, .int x_3), (0, .ref a_t), (3, .int x3)]) hx hb dX7_withMostFruits_35 rfl hl (by decide) rfl (fun ls hl => ?_)
          exact J_36 (f_X7_withMostFruits_7 F v_t_causeBits v_t_size n) ih x3 x_3 x3 _ h _ _ _ hP hD hS (lv_sub hl [3, 0, 1, 4] rfl)
  unfold f_X7_withMostFruits at h
  refine lv_bipush (v := (-9)) hx hb dX7_withMostFruits_0 (by decide) ?_
  refine lv_istore_n (lv' := [(1, .int (-9)), (0, .ref a_t)]) hx hb dX7_withMostFruits_2 rfl hl (by decide) rfl (fun ls hl => ?_)
  refine lv_iconst (v := (-1)) hx hb dX7_withMostFruits_3 (by decide) ?_
  refine lv_istore_n (lv' := [(2, .int (-1)), (1, .int (-9)), (0, .ref a_t)]) hx hb dX7_withMostFruits_4 rfl hl (by decide) rfl (fun ls hl => ?_)
  refine lv_iconst (v := 0) hx hb dX7_withMostFruits_5 (by decide) ?_
  refine lv_istore_n (lv' := [(3, .int 0), (2, .int (-1)), (1, .int (-9)), (0, .ref a_t)]) hx hb dX7_withMostFruits_6 rfl hl (by decide) rfl (fun ls hl => ?_)
  exact J_7 F (-9) (-1) 0 _ h _ _ _ hP hD hS (lv_sub hl [3, 2, 1, 0] rfl)
set_option maxHeartbeats 4000000 in
set_option maxRecDepth 100000 in
theorem c_X7_areTwins (l : Launch) (D : va_G) (cA : ClassId) (sa sv : Nat → Nat) (a_t a_t_kinds a_t_figures a_t_causeBits : Nat) (sz : Nat) (v_t_kinds : Nat → Int32) (v_t_figures : Nat → Int32) (v_t_causeBits : Nat → Int32) (v_t_size : Int32) (v_t_lost : Int32) (v_t_guarded : Int32) (v_t_day : Int32) (p1 : Int32) (p2 : Int32) (res : Int32) (h : f_X7_areTwins v_t_kinds v_t_causeBits v_t_size p1 p2 = some res) : Met l yX7_areTwins wsX7_areTwins { frames := 2, cells := 0, slots := 0, locals := 42 } (xk_Pc D cA sa sv (wX7 cA a_t a_t_kinds a_t_figures a_t_causeBits v_t_kinds v_t_figures v_t_causeBits v_t_size v_t_lost v_t_guarded v_t_day) sz [.ref a_t, .int p1, .int p2]) (xk_Q D (va_A (wX7 cA a_t a_t_kinds a_t_figures a_t_causeBits v_t_kinds v_t_figures v_t_causeBits v_t_size v_t_lost v_t_guarded v_t_day) sz) (some (.int res)) (wX7 cA a_t a_t_kinds a_t_figures a_t_causeBits v_t_kinds v_t_figures v_t_causeBits v_t_size v_t_lost v_t_guarded v_t_day)) 0 0 (va_A (wX7 cA a_t a_t_kinds a_t_figures a_t_causeBits v_t_kinds v_t_figures v_t_causeBits v_t_size v_t_lost v_t_guarded v_t_day) sz) := by
  refine xk_met (fun res : Int32 => some (.int res)) (fun res : Int32 => (wX7 cA a_t a_t_kinds a_t_figures a_t_causeBits v_t_kinds v_t_figures v_t_causeBits v_t_size v_t_lost v_t_guarded v_t_day)) res (cc := cX7_areTwins) (maxL := 3) (ret := (some .boolean)) (by decide) rfl (Nat.le_of_ble_eq_true rfl) ?_
  intro p e s m args below meth c A Q ls hQ hx hb hr hlk hml hown hts hK hP hD hS hA hl
  have S : CallFix p m c cX7_areTwins 3 s args wsX7_areTwins RX7 := ⟨hx, hb, hml, hown, hts⟩
  have hl : lv_has ls 3 [(0, .ref a_t), (1, .int p1), (2, .int p2)] := hl
  unfold f_X7_areTwins at h
  refine lv_aload_n hx hb dX7_areTwins_0 rfl (lv_at hl 0 rfl) ?_
  refine lv_iload_n hx hb dX7_areTwins_1 rfl (lv_at hl 1 rfl) ?_
  obtain ⟨x_1, hc_1, h⟩ := bd_some h
  refine xk_V (rest := []) (As := [.int p1]) (stk := [.int x_1]) (wn := (wX7 cA a_t a_t_kinds a_t_figures a_t_causeBits v_t_kinds v_t_figures v_t_causeBits v_t_size v_t_lost v_t_guarded v_t_day)) (v := (some (.int x_1))) (wr := []) gX7_areTwins_X7_kindOf rfl hdV_X7_kindOf rfl rfl (c_X7_kindOf l D cA sa sv a_t a_t_kinds a_t_figures a_t_causeBits _ v_t_kinds v_t_figures v_t_causeBits v_t_size v_t_lost v_t_guarded v_t_day p1 x_1 hc_1) (ci := 2) rfl (q0 := 0) rfl S hK hP hD hS hA [0, 1, 2, 3] [] [0, 1, 2, 3] rfl rfl rfl rfl rfl rfl rfl ⟨Nat.le_of_ble_eq_true rfl, Nat.le_of_ble_eq_true rfl⟩ ⟨Nat.le_refl 0, Nat.le_refl 0⟩ rfl hl.1 rfl (Nat.le_of_ble_eq_true rfl) rfl dX7_areTwins_2 (fun H locs hP hD hS => ?_)
  refine lv_aload_n hx hb dX7_areTwins_5 rfl (lv_at hl 0 rfl) ?_
  refine lv_iload_n hx hb dX7_areTwins_6 rfl (lv_at hl 2 rfl) ?_
  obtain ⟨x_2, hc_2, h⟩ := bd_some h
  refine xk_V (rest := [.int x_1]) (As := [.int p2]) (stk := [.int x_2, .int x_1]) (wn := (wX7 cA a_t a_t_kinds a_t_figures a_t_causeBits v_t_kinds v_t_figures v_t_causeBits v_t_size v_t_lost v_t_guarded v_t_day)) (v := (some (.int x_2))) (wr := []) gX7_areTwins_X7_kindOf rfl hdV_X7_kindOf rfl rfl (c_X7_kindOf l D cA sa sv a_t a_t_kinds a_t_figures a_t_causeBits _ v_t_kinds v_t_figures v_t_causeBits v_t_size v_t_lost v_t_guarded v_t_day p2 x_2 hc_2) (ci := 2) rfl (q0 := 0) rfl S hK hP hD hS hA [0, 1, 2, 3] [] [0, 1, 2, 3] rfl rfl rfl rfl rfl rfl rfl ⟨Nat.le_of_ble_eq_true rfl, Nat.le_of_ble_eq_true rfl⟩ ⟨Nat.le_refl 0, Nat.le_refl 0⟩ rfl hl.1 rfl (Nat.le_of_ble_eq_true rfl) rfl dX7_areTwins_7 (fun H locs hP hD hS => ?_)
  refine lv_icmp_ne (tgt := 30) hx hb dX7_areTwins_10 (by decide) (fun c_3 => ?_) (fun c_3 => ?_)
  · have h := (if_neg c_3).symm.trans h
    refine lv_iconst (v := 0) hx hb dX7_areTwins_30 (by decide) ?_
    obtain rfl := Option.some.inj h
    exact xk_zret rfl hx hb hr hlk hP hD hS (hQ _) dX7_areTwins_31
  · have h := (if_pos c_3).symm.trans h
    refine lv_aload_n hx hb dX7_areTwins_13 rfl (lv_at hl 0 rfl) ?_
    refine lv_iload_n hx hb dX7_areTwins_14 rfl (lv_at hl 1 rfl) ?_
    obtain ⟨x_4, hc_4, h⟩ := bd_some h
    refine xk_V (rest := []) (As := [.int p1]) (stk := [.int x_4]) (wn := (wX7 cA a_t a_t_kinds a_t_figures a_t_causeBits v_t_kinds v_t_figures v_t_causeBits v_t_size v_t_lost v_t_guarded v_t_day)) (v := (some (.int x_4))) (wr := []) gX7_areTwins_X7_causesOf rfl hdV_X7_causesOf rfl rfl (c_X7_causesOf l D cA sa sv a_t a_t_kinds a_t_figures a_t_causeBits _ v_t_kinds v_t_figures v_t_causeBits v_t_size v_t_lost v_t_guarded v_t_day p1 x_4 hc_4) (ci := 2) rfl (q0 := 0) rfl S hK hP hD hS hA [0, 1, 2, 3] [] [0, 1, 2, 3] rfl rfl rfl rfl rfl rfl rfl ⟨Nat.le_of_ble_eq_true rfl, Nat.le_of_ble_eq_true rfl⟩ ⟨Nat.le_refl 0, Nat.le_refl 0⟩ rfl hl.1 rfl (Nat.le_of_ble_eq_true rfl) rfl dX7_areTwins_15 (fun H locs hP hD hS => ?_)
    refine lv_aload_n hx hb dX7_areTwins_18 rfl (lv_at hl 0 rfl) ?_
    refine lv_iload_n hx hb dX7_areTwins_19 rfl (lv_at hl 2 rfl) ?_
    obtain ⟨x_5, hc_5, h⟩ := bd_some h
    refine xk_V (rest := [.int x_4]) (As := [.int p2]) (stk := [.int x_5, .int x_4]) (wn := (wX7 cA a_t a_t_kinds a_t_figures a_t_causeBits v_t_kinds v_t_figures v_t_causeBits v_t_size v_t_lost v_t_guarded v_t_day)) (v := (some (.int x_5))) (wr := []) gX7_areTwins_X7_causesOf rfl hdV_X7_causesOf rfl rfl (c_X7_causesOf l D cA sa sv a_t a_t_kinds a_t_figures a_t_causeBits _ v_t_kinds v_t_figures v_t_causeBits v_t_size v_t_lost v_t_guarded v_t_day p2 x_5 hc_5) (ci := 2) rfl (q0 := 0) rfl S hK hP hD hS hA [0, 1, 2, 3] [] [0, 1, 2, 3] rfl rfl rfl rfl rfl rfl rfl ⟨Nat.le_of_ble_eq_true rfl, Nat.le_of_ble_eq_true rfl⟩ ⟨Nat.le_refl 0, Nat.le_refl 0⟩ rfl hl.1 rfl (Nat.le_of_ble_eq_true rfl) rfl dX7_areTwins_20 (fun H locs hP hD hS => ?_)
    refine lv_icmp_ne (tgt := 30) hx hb dX7_areTwins_23 (by decide) (fun c_6 => ?_) (fun c_6 => ?_)
    · have h := (if_neg c_6).symm.trans h
      refine lv_iconst (v := 0) hx hb dX7_areTwins_30 (by decide) ?_
      obtain rfl := Option.some.inj h
      exact xk_zret rfl hx hb hr hlk hP hD hS (hQ _) dX7_areTwins_31
    · have h := (if_pos c_6).symm.trans h
      refine lv_iconst (v := 1) hx hb dX7_areTwins_26 (by decide) ?_
      refine lv_goto (tgt := 31) hx hb dX7_areTwins_27 (by decide) ?_
      obtain rfl := Option.some.inj h
      exact xk_zret rfl hx hb hr hlk hP hD hS (hQ _) dX7_areTwins_31
set_option maxHeartbeats 4000000 in
set_option maxRecDepth 100000 in
theorem c_X7_howManyTwins (l : Launch) (D : va_G) (cA : ClassId) (sa sv : Nat → Nat) (a_t a_t_kinds a_t_figures a_t_causeBits : Nat) (sz : Nat) (v_t_kinds : Nat → Int32) (v_t_figures : Nat → Int32) (v_t_causeBits : Nat → Int32) (v_t_size : Int32) (v_t_lost : Int32) (v_t_guarded : Int32) (v_t_day : Int32) (F : Nat) (res : Int32) (h : f_X7_howManyTwins F v_t_kinds v_t_causeBits v_t_size  = some res) : Met l yX7_howManyTwins wsX7_howManyTwins { frames := 3, cells := 0, slots := 0, locals := 64 } (xk_Pc D cA sa sv (wX7 cA a_t a_t_kinds a_t_figures a_t_causeBits v_t_kinds v_t_figures v_t_causeBits v_t_size v_t_lost v_t_guarded v_t_day) sz [.ref a_t]) (xk_Q D (va_A (wX7 cA a_t a_t_kinds a_t_figures a_t_causeBits v_t_kinds v_t_figures v_t_causeBits v_t_size v_t_lost v_t_guarded v_t_day) sz) (some (.int res)) (wX7 cA a_t a_t_kinds a_t_figures a_t_causeBits v_t_kinds v_t_figures v_t_causeBits v_t_size v_t_lost v_t_guarded v_t_day)) 0 0 (va_A (wX7 cA a_t a_t_kinds a_t_figures a_t_causeBits v_t_kinds v_t_figures v_t_causeBits v_t_size v_t_lost v_t_guarded v_t_day) sz) := by
  refine xk_met (fun res : Int32 => some (.int res)) (fun res : Int32 => (wX7 cA a_t a_t_kinds a_t_figures a_t_causeBits v_t_kinds v_t_figures v_t_causeBits v_t_size v_t_lost v_t_guarded v_t_day)) res (cc := cX7_howManyTwins) (maxL := 4) (ret := (some .int)) (by decide) rfl (Nat.le_of_ble_eq_true rfl) ?_
  intro p e s m args below meth c A Q ls hQ hx hb hr hlk hml hown hts hK hP hD hS hA hl
  have S : CallFix p m c cX7_howManyTwins 4 s args wsX7_howManyTwins RX7 := ⟨hx, hb, hml, hown, hts⟩
  have hl : lv_has ls 4 [(0, .ref a_t)] := hl
  have hinX7 : ∀ w ∈ u_ws RX7 TX7 7, w ∈ wsX7_howManyTwins := fun _ h => List.mem_cons_of_mem _ (List.mem_append_right _ (h))
  have k_0 := hts (.fieldLink RX7 21 "NailsWantTheKingdom$Realm" "size" "I") (List.mem_of_getElem? (i := 1) (by decide +kernel))
  have J_36 : ∀ (k_4r : Int32 → Int32 → Option (Int32)), (∀ (x1 : Int32) (x2 : Int32) (res : Int32), k_4r x1 x2 = some res → ∀ (H : Heap) (locs : List Loc) (ls : Array Slot), va_P D vwCl (wX7 cA a_t a_t_kinds a_t_figures a_t_causeBits v_t_kinds v_t_figures v_t_causeBits v_t_size v_t_lost v_t_guarded v_t_day) H → va_D A (wX7 cA a_t a_t_kinds a_t_figures a_t_causeBits v_t_kinds v_t_figures v_t_causeBits v_t_size v_t_lost v_t_guarded v_t_day) → va_S A s.heap H locs → lv_has ls 4 [(0, .ref a_t), (1, .int x1), (2, .int x2)] → W p l e { frames := 3, cells := 0, slots := 0, locals := 64 } s m args below meth c H locs 0 0 (Q res) (F0 m 4 ls [])) → ∀ (k_16r : Int32 → Int32 → Int32 → Option (Int32)), (∀ (x1 : Int32) (x2 : Int32) (x3 : Int32) (res : Int32), k_16r x1 x2 x3 = some res → ∀ (H : Heap) (locs : List Loc) (ls : Array Slot), va_P D vwCl (wX7 cA a_t a_t_kinds a_t_figures a_t_causeBits v_t_kinds v_t_figures v_t_causeBits v_t_size v_t_lost v_t_guarded v_t_day) H → va_D A (wX7 cA a_t a_t_kinds a_t_figures a_t_causeBits v_t_kinds v_t_figures v_t_causeBits v_t_size v_t_lost v_t_guarded v_t_day) → va_S A s.heap H locs → lv_has ls 4 [(0, .ref a_t), (1, .int x1), (2, .int x2), (3, .int x3)] → W p l e { frames := 3, cells := 0, slots := 0, locals := 64 } s m args below meth c H locs 0 0 (Q res) (F0 m 16 ls [])) → ∀ (x1 : Int32) (x2 : Int32) (x3 : Int32) (res : Int32), f_X7_howManyTwins_36 F v_t_kinds v_t_causeBits v_t_size k_4r k_16r x1 x2 x3 = some res → ∀ (H : Heap) (locs : List Loc) (ls : Array Slot), va_P D vwCl (wX7 cA a_t a_t_kinds a_t_figures a_t_causeBits v_t_kinds v_t_figures v_t_causeBits v_t_size v_t_lost v_t_guarded v_t_day) H → va_D A (wX7 cA a_t a_t_kinds a_t_figures a_t_causeBits v_t_kinds v_t_figures v_t_causeBits v_t_size v_t_lost v_t_guarded v_t_day) → va_S A s.heap H locs → lv_has ls 4 [(0, .ref a_t), (1, .int x1), (2, .int x2), (3, .int x3)] → W p l e { frames := 3, cells := 0, slots := 0, locals := 64 } s m args below meth c H locs 0 0 (Q res) (F0 m 36 ls []) := by
    intro k_4r hk_4r k_16r hk_16r x1 x2 x3 res h H locs ls hP hD hS hl
    unfold f_X7_howManyTwins_36 at h
    refine lv_iinc (v := (x3 + 1)) (lv' := [(3, .int (x3 + 1)), (0, .ref a_t), (1, .int x1), (2, .int x2)]) hx hb dX7_howManyTwins_36 hl (k := 3) rfl rfl (by decide) rfl (fun ls hl => ?_)
    refine lv_goto (tgt := 16) hx hb dX7_howManyTwins_39 (by decide) ?_
    exact hk_16r x1 x2 (x3 + 1) _ h _ _ _ hP hD hS (lv_sub hl [1, 2, 3, 0] rfl)
  have J_16 : ∀ (k_4r : Int32 → Int32 → Option (Int32)), (∀ (x1 : Int32) (x2 : Int32) (res : Int32), k_4r x1 x2 = some res → ∀ (H : Heap) (locs : List Loc) (ls : Array Slot), va_P D vwCl (wX7 cA a_t a_t_kinds a_t_figures a_t_causeBits v_t_kinds v_t_figures v_t_causeBits v_t_size v_t_lost v_t_guarded v_t_day) H → va_D A (wX7 cA a_t a_t_kinds a_t_figures a_t_causeBits v_t_kinds v_t_figures v_t_causeBits v_t_size v_t_lost v_t_guarded v_t_day) → va_S A s.heap H locs → lv_has ls 4 [(0, .ref a_t), (1, .int x1), (2, .int x2)] → W p l e { frames := 3, cells := 0, slots := 0, locals := 64 } s m args below meth c H locs 0 0 (Q res) (F0 m 4 ls [])) → ∀ (n : Nat) (x1 : Int32) (x2 : Int32) (x3 : Int32) (res : Int32), f_X7_howManyTwins_16 F v_t_kinds v_t_causeBits v_t_size k_4r n x1 x2 x3 = some res → ∀ (H : Heap) (locs : List Loc) (ls : Array Slot), va_P D vwCl (wX7 cA a_t a_t_kinds a_t_figures a_t_causeBits v_t_kinds v_t_figures v_t_causeBits v_t_size v_t_lost v_t_guarded v_t_day) H → va_D A (wX7 cA a_t a_t_kinds a_t_figures a_t_causeBits v_t_kinds v_t_figures v_t_causeBits v_t_size v_t_lost v_t_guarded v_t_day) → va_S A s.heap H locs → lv_has ls 4 [(0, .ref a_t), (1, .int x1), (2, .int x2), (3, .int x3)] → W p l e { frames := 3, cells := 0, slots := 0, locals := 64 } s m args below meth c H locs 0 0 (Q res) (F0 m 16 ls []) := by
    intro k_4r hk_4r n
    induction n with
    | zero => intro x1 x2 x3 res h; exact nomatch (show (none : Option (Int32)) = some res from h)
    | succ n ih =>
      intro x1 x2 x3 res h H locs ls hP hD hS hl
      rw [f_X7_howManyTwins_16] at h
      refine lv_iload_n hx hb dX7_howManyTwins_16 rfl (lv_at hl 3 rfl) ?_
      refine lv_aload_n hx hb dX7_howManyTwins_17 rfl (lv_at hl 0 rfl) ?_
      refine va_get (ci := 2) (v := .int v_t_size) (C := RX7) (T := TX7) (N := 7) hx hb hts hinX7 hown hK.1 hP 0 rfl rfl 3 (by decide) k_0 (fun _ h9 => h9) rfl dX7_howManyTwins_18 ?_
      refine lv_icmp_ge (tgt := 42) hx hb dX7_howManyTwins_21 (by decide) (fun c_2 => ?_) (fun c_2 => ?_)
      · have h := (if_pos c_2).symm.trans h
        refine lv_iinc (v := (x2 + 1)) (lv' := [(2, .int (x2 + 1)), (0, .ref a_t), (1, .int x1), (3, .int x3)]) hx hb dX7_howManyTwins_42 hl (k := 2) rfl rfl (by decide) rfl (fun ls hl => ?_)
        refine lv_goto (tgt := 4) hx hb dX7_howManyTwins_45 (by decide) ?_
        exact hk_4r x1 (x2 + 1) _ h _ _ _ hP hD hS (lv_sub hl [1, 2, 0] rfl)
      · have h := (if_neg c_2).symm.trans h
        refine lv_aload_n hx hb dX7_howManyTwins_24 rfl (lv_at hl 0 rfl) ?_
        refine lv_iload_n hx hb dX7_howManyTwins_25 rfl (lv_at hl 2 rfl) ?_
        refine lv_iload_n hx hb dX7_howManyTwins_26 rfl (lv_at hl 3 rfl) ?_
        obtain ⟨x_3, hc_3, h⟩ := bd_some h
        refine xk_V (rest := []) (As := [.int x2, .int x3]) (stk := [.int x_3]) (wn := (wX7 cA a_t a_t_kinds a_t_figures a_t_causeBits v_t_kinds v_t_figures v_t_causeBits v_t_size v_t_lost v_t_guarded v_t_day)) (v := (some (.int x_3))) (wr := []) gX7_howManyTwins_X7_areTwins rfl hdV_X7_areTwins rfl rfl (c_X7_areTwins l D cA sa sv a_t a_t_kinds a_t_figures a_t_causeBits _ v_t_kinds v_t_figures v_t_causeBits v_t_size v_t_lost v_t_guarded v_t_day x2 x3 x_3 hc_3) (ci := 2) rfl (q0 := 0) rfl S hK hP hD hS hA [0, 1, 2, 3] [] [0, 1, 2, 3] rfl rfl rfl rfl rfl rfl rfl ⟨Nat.le_of_ble_eq_true rfl, Nat.le_of_ble_eq_true rfl⟩ ⟨Nat.le_refl 0, Nat.le_refl 0⟩ rfl hl.1 rfl (Nat.le_of_ble_eq_true rfl) rfl dX7_howManyTwins_27 (fun H locs hP hD hS => ?_)
        refine lv_if_eq (tgt := 36) hx hb dX7_howManyTwins_30 (by decide) (fun c_4 => ?_) (fun c_4 => ?_)
        · have h := (if_pos c_4).symm.trans h
          exact J_36 k_4r hk_4r (f_X7_howManyTwins_16 F v_t_kinds v_t_causeBits v_t_size k_4r n) ih x1 x2 x3 _ h _ _ _ hP hD hS (lv_sub hl [0, 1, 2, 3] rfl)
        · have h := (if_neg c_4).symm.trans h
          refine lv_iinc (v := (x1 + 1)) (lv' := [(1, .int (x1 + 1)), (0, .ref a_t), (2, .int x2), (3, .int x3)]) hx hb dX7_howManyTwins_33 hl (k := 1) rfl rfl (by decide) rfl (fun ls hl => ?_)
          exact J_36 k_4r hk_4r (f_X7_howManyTwins_16 F v_t_kinds v_t_causeBits v_t_size k_4r n) ih (x1 + 1) x2 x3 _ h _ _ _ hP hD hS (lv_sub hl [1, 0, 2, 3] rfl)
  have J_4 : ∀ (n : Nat) (x1 : Int32) (x2 : Int32) (res : Int32), f_X7_howManyTwins_4 F v_t_kinds v_t_causeBits v_t_size n x1 x2 = some res → ∀ (H : Heap) (locs : List Loc) (ls : Array Slot), va_P D vwCl (wX7 cA a_t a_t_kinds a_t_figures a_t_causeBits v_t_kinds v_t_figures v_t_causeBits v_t_size v_t_lost v_t_guarded v_t_day) H → va_D A (wX7 cA a_t a_t_kinds a_t_figures a_t_causeBits v_t_kinds v_t_figures v_t_causeBits v_t_size v_t_lost v_t_guarded v_t_day) → va_S A s.heap H locs → lv_has ls 4 [(0, .ref a_t), (1, .int x1), (2, .int x2)] → W p l e { frames := 3, cells := 0, slots := 0, locals := 64 } s m args below meth c H locs 0 0 (Q res) (F0 m 4 ls []) := by
    intro n
    induction n with
    | zero => intro x1 x2 res h; exact nomatch (show (none : Option (Int32)) = some res from h)
    | succ n ih =>
      intro x1 x2 res h H locs ls hP hD hS hl
      rw [f_X7_howManyTwins_4] at h
      refine lv_iload_n hx hb dX7_howManyTwins_4 rfl (lv_at hl 2 rfl) ?_
      refine lv_aload_n hx hb dX7_howManyTwins_5 rfl (lv_at hl 0 rfl) ?_
      refine va_get (ci := 2) (v := .int v_t_size) (C := RX7) (T := TX7) (N := 7) hx hb hts hinX7 hown hK.1 hP 0 rfl rfl 3 (by decide) k_0 (fun _ h9 => h9) rfl dX7_howManyTwins_6 ?_
      refine lv_icmp_ge (tgt := 48) hx hb dX7_howManyTwins_9 (by decide) (fun c_1 => ?_) (fun c_1 => ?_)
      · have h := (if_pos c_1).symm.trans h
        refine lv_iload_n hx hb dX7_howManyTwins_48 rfl (lv_at hl 1 rfl) ?_
        obtain rfl := Option.some.inj h
        exact xk_iret hx hb hr hlk hP hD hS (hQ _) dX7_howManyTwins_49
      · have h := (if_neg c_1).symm.trans h
        refine lv_iload_n hx hb dX7_howManyTwins_12 rfl (lv_at hl 2 rfl) ?_
        refine lv_iconst (v := 1) hx hb dX7_howManyTwins_13 (by decide) ?_
        refine lv_iadd hx hb dX7_howManyTwins_14 ?_
        refine lv_istore_n (lv' := [(3, .int (x2 + 1)), (0, .ref a_t), (1, .int x1), (2, .int x2)]) hx hb dX7_howManyTwins_15 rfl hl (by decide) rfl (fun ls hl => ?_)
        exact J_16 (f_X7_howManyTwins_4 F v_t_kinds v_t_causeBits v_t_size n) ih F x1 x2 (x2 + 1) _ h _ _ _ hP hD hS (lv_sub hl [1, 2, 3, 0] rfl)
  unfold f_X7_howManyTwins at h
  refine lv_iconst (v := 0) hx hb dX7_howManyTwins_0 (by decide) ?_
  refine lv_istore_n (lv' := [(1, .int 0), (0, .ref a_t)]) hx hb dX7_howManyTwins_1 rfl hl (by decide) rfl (fun ls hl => ?_)
  refine lv_iconst (v := 0) hx hb dX7_howManyTwins_2 (by decide) ?_
  refine lv_istore_n (lv' := [(2, .int 0), (1, .int 0), (0, .ref a_t)]) hx hb dX7_howManyTwins_3 rfl hl (by decide) rfl (fun ls hl => ?_)
  exact J_4 F 0 0 _ h _ _ _ hP hD hS (lv_sub hl [2, 1, 0] rfl)
set_option maxHeartbeats 4000000 in
set_option maxRecDepth 100000 in
theorem c_X7_firstTwins (l : Launch) (D : va_G) (cA : ClassId) (sa sv : Nat → Nat) (a_t a_t_kinds a_t_figures a_t_causeBits : Nat) (sz : Nat) (v_t_kinds : Nat → Int32) (v_t_figures : Nat → Int32) (v_t_causeBits : Nat → Int32) (v_t_size : Int32) (v_t_lost : Int32) (v_t_guarded : Int32) (v_t_day : Int32) (F : Nat) (res : Int32) (h : f_X7_firstTwins F v_t_kinds v_t_causeBits v_t_size  = some res) : Met l yX7_firstTwins wsX7_firstTwins { frames := 3, cells := 0, slots := 0, locals := 64 } (xk_Pc D cA sa sv (wX7 cA a_t a_t_kinds a_t_figures a_t_causeBits v_t_kinds v_t_figures v_t_causeBits v_t_size v_t_lost v_t_guarded v_t_day) sz [.ref a_t]) (xk_Q D (va_A (wX7 cA a_t a_t_kinds a_t_figures a_t_causeBits v_t_kinds v_t_figures v_t_causeBits v_t_size v_t_lost v_t_guarded v_t_day) sz) (some (.int res)) (wX7 cA a_t a_t_kinds a_t_figures a_t_causeBits v_t_kinds v_t_figures v_t_causeBits v_t_size v_t_lost v_t_guarded v_t_day)) 0 0 (va_A (wX7 cA a_t a_t_kinds a_t_figures a_t_causeBits v_t_kinds v_t_figures v_t_causeBits v_t_size v_t_lost v_t_guarded v_t_day) sz) := by
  refine xk_met (fun res : Int32 => some (.int res)) (fun res : Int32 => (wX7 cA a_t a_t_kinds a_t_figures a_t_causeBits v_t_kinds v_t_figures v_t_causeBits v_t_size v_t_lost v_t_guarded v_t_day)) res (cc := cX7_firstTwins) (maxL := 3) (ret := (some .int)) (by decide) rfl (Nat.le_of_ble_eq_true rfl) ?_
  intro p e s m args below meth c A Q ls hQ hx hb hr hlk hml hown hts hK hP hD hS hA hl
  have S : CallFix p m c cX7_firstTwins 3 s args wsX7_firstTwins RX7 := ⟨hx, hb, hml, hown, hts⟩
  have hl : lv_has ls 3 [(0, .ref a_t)] := hl
  have hinX7 : ∀ w ∈ u_ws RX7 TX7 7, w ∈ wsX7_firstTwins := fun _ h => List.mem_cons_of_mem _ (List.mem_append_right _ (h))
  have k_0 := hts (.fieldLink RX7 21 "NailsWantTheKingdom$Realm" "size" "I") (List.mem_of_getElem? (i := 1) (by decide +kernel))
  have J_14 : ∀ (k_2r : Int32 → Option (Int32)), (∀ (x1 : Int32) (res : Int32), k_2r x1 = some res → ∀ (H : Heap) (locs : List Loc) (ls : Array Slot), va_P D vwCl (wX7 cA a_t a_t_kinds a_t_figures a_t_causeBits v_t_kinds v_t_figures v_t_causeBits v_t_size v_t_lost v_t_guarded v_t_day) H → va_D A (wX7 cA a_t a_t_kinds a_t_figures a_t_causeBits v_t_kinds v_t_figures v_t_causeBits v_t_size v_t_lost v_t_guarded v_t_day) → va_S A s.heap H locs → lv_has ls 3 [(0, .ref a_t), (1, .int x1)] → W p l e { frames := 3, cells := 0, slots := 0, locals := 64 } s m args below meth c H locs 0 0 (Q res) (F0 m 2 ls [])) → ∀ (n : Nat) (x1 : Int32) (x2 : Int32) (res : Int32), f_X7_firstTwins_14 F v_t_kinds v_t_causeBits v_t_size k_2r n x1 x2 = some res → ∀ (H : Heap) (locs : List Loc) (ls : Array Slot), va_P D vwCl (wX7 cA a_t a_t_kinds a_t_figures a_t_causeBits v_t_kinds v_t_figures v_t_causeBits v_t_size v_t_lost v_t_guarded v_t_day) H → va_D A (wX7 cA a_t a_t_kinds a_t_figures a_t_causeBits v_t_kinds v_t_figures v_t_causeBits v_t_size v_t_lost v_t_guarded v_t_day) → va_S A s.heap H locs → lv_has ls 3 [(0, .ref a_t), (1, .int x1), (2, .int x2)] → W p l e { frames := 3, cells := 0, slots := 0, locals := 64 } s m args below meth c H locs 0 0 (Q res) (F0 m 14 ls []) := by
    intro k_2r hk_2r n
    induction n with
    | zero => intro x1 x2 res h; exact nomatch (show (none : Option (Int32)) = some res from h)
    | succ n ih =>
      intro x1 x2 res h H locs ls hP hD hS hl
      rw [f_X7_firstTwins_14] at h
      refine lv_iload_n hx hb dX7_firstTwins_14 rfl (lv_at hl 2 rfl) ?_
      refine lv_aload_n hx hb dX7_firstTwins_15 rfl (lv_at hl 0 rfl) ?_
      refine va_get (ci := 2) (v := .int v_t_size) (C := RX7) (T := TX7) (N := 7) hx hb hts hinX7 hown hK.1 hP 0 rfl rfl 3 (by decide) k_0 (fun _ h9 => h9) rfl dX7_firstTwins_16 ?_
      refine lv_icmp_ge (tgt := 44) hx hb dX7_firstTwins_19 (by decide) (fun c_2 => ?_) (fun c_2 => ?_)
      · have h := (if_pos c_2).symm.trans h
        refine lv_iinc (v := (x1 + 1)) (lv' := [(1, .int (x1 + 1)), (0, .ref a_t), (2, .int x2)]) hx hb dX7_firstTwins_44 hl (k := 1) rfl rfl (by decide) rfl (fun ls hl => ?_)
        refine lv_goto (tgt := 2) hx hb dX7_firstTwins_47 (by decide) ?_
        exact hk_2r (x1 + 1) _ h _ _ _ hP hD hS (lv_sub hl [1, 0] rfl)
      · have h := (if_neg c_2).symm.trans h
        refine lv_aload_n hx hb dX7_firstTwins_22 rfl (lv_at hl 0 rfl) ?_
        refine lv_iload_n hx hb dX7_firstTwins_23 rfl (lv_at hl 1 rfl) ?_
        refine lv_iload_n hx hb dX7_firstTwins_24 rfl (lv_at hl 2 rfl) ?_
        obtain ⟨x_3, hc_3, h⟩ := bd_some h
        refine xk_V (rest := []) (As := [.int x1, .int x2]) (stk := [.int x_3]) (wn := (wX7 cA a_t a_t_kinds a_t_figures a_t_causeBits v_t_kinds v_t_figures v_t_causeBits v_t_size v_t_lost v_t_guarded v_t_day)) (v := (some (.int x_3))) (wr := []) gX7_firstTwins_X7_areTwins rfl hdV_X7_areTwins rfl rfl (c_X7_areTwins l D cA sa sv a_t a_t_kinds a_t_figures a_t_causeBits _ v_t_kinds v_t_figures v_t_causeBits v_t_size v_t_lost v_t_guarded v_t_day x1 x2 x_3 hc_3) (ci := 2) rfl (q0 := 0) rfl S hK hP hD hS hA [0, 1, 2, 3] [] [0, 1, 2, 3] rfl rfl rfl rfl rfl rfl rfl ⟨Nat.le_of_ble_eq_true rfl, Nat.le_of_ble_eq_true rfl⟩ ⟨Nat.le_refl 0, Nat.le_refl 0⟩ rfl hl.1 rfl (Nat.le_of_ble_eq_true rfl) rfl dX7_firstTwins_25 (fun H locs hP hD hS => ?_)
        refine lv_if_eq (tgt := 38) hx hb dX7_firstTwins_28 (by decide) (fun c_4 => ?_) (fun c_4 => ?_)
        · have h := (if_pos c_4).symm.trans h
          refine lv_iinc (v := (x2 + 1)) (lv' := [(2, .int (x2 + 1)), (0, .ref a_t), (1, .int x1)]) hx hb dX7_firstTwins_38 hl (k := 2) rfl rfl (by decide) rfl (fun ls hl => ?_)
          refine lv_goto (tgt := 14) hx hb dX7_firstTwins_41 (by decide) ?_
          exact ih x1 (x2 + 1) _ h _ _ _ hP hD hS (lv_sub hl [1, 2, 0] rfl)
        · have h := (if_neg c_4).symm.trans h
          refine lv_bipush (v := 10) hx hb dX7_firstTwins_31 (by decide) ?_
          refine lv_iload_n hx hb dX7_firstTwins_33 rfl (lv_at hl 1 rfl) ?_
          refine lv_imul hx hb dX7_firstTwins_34 ?_
          refine lv_iload_n hx hb dX7_firstTwins_35 rfl (lv_at hl 2 rfl) ?_
          refine lv_iadd hx hb dX7_firstTwins_36 ?_
          obtain rfl := Option.some.inj h
          exact xk_iret hx hb hr hlk hP hD hS (hQ _) dX7_firstTwins_37
  have J_2 : ∀ (n : Nat) (x1 : Int32) (res : Int32), f_X7_firstTwins_2 F v_t_kinds v_t_causeBits v_t_size n x1 = some res → ∀ (H : Heap) (locs : List Loc) (ls : Array Slot), va_P D vwCl (wX7 cA a_t a_t_kinds a_t_figures a_t_causeBits v_t_kinds v_t_figures v_t_causeBits v_t_size v_t_lost v_t_guarded v_t_day) H → va_D A (wX7 cA a_t a_t_kinds a_t_figures a_t_causeBits v_t_kinds v_t_figures v_t_causeBits v_t_size v_t_lost v_t_guarded v_t_day) → va_S A s.heap H locs → lv_has ls 3 [(0, .ref a_t), (1, .int x1)] → W p l e { frames := 3, cells := 0, slots := 0, locals := 64 } s m args below meth c H locs 0 0 (Q res) (F0 m 2 ls []) := by
    intro n
    induction n with
    | zero => intro x1 res h; exact nomatch (show (none : Option (Int32)) = some res from h)
    | succ n ih =>
      intro x1 res h H locs ls hP hD hS hl
      rw [f_X7_firstTwins_2] at h
      refine lv_iload_n hx hb dX7_firstTwins_2 rfl (lv_at hl 1 rfl) ?_
      refine lv_aload_n hx hb dX7_firstTwins_3 rfl (lv_at hl 0 rfl) ?_
      refine va_get (ci := 2) (v := .int v_t_size) (C := RX7) (T := TX7) (N := 7) hx hb hts hinX7 hown hK.1 hP 0 rfl rfl 3 (by decide) k_0 (fun _ h9 => h9) rfl dX7_firstTwins_4 ?_
      refine lv_icmp_ge (tgt := 50) hx hb dX7_firstTwins_7 (by decide) (fun c_1 => ?_) (fun c_1 => ?_)
      · have h := (if_pos c_1).symm.trans h
        refine lv_bipush (v := (-9)) hx hb dX7_firstTwins_50 (by decide) ?_
        obtain rfl := Option.some.inj h
        exact xk_iret hx hb hr hlk hP hD hS (hQ _) dX7_firstTwins_52
      · have h := (if_neg c_1).symm.trans h
        refine lv_iload_n hx hb dX7_firstTwins_10 rfl (lv_at hl 1 rfl) ?_
        refine lv_iconst (v := 1) hx hb dX7_firstTwins_11 (by decide) ?_
        refine lv_iadd hx hb dX7_firstTwins_12 ?_
        refine lv_istore_n (lv' := [(2, .int (x1 + 1)), (0, .ref a_t), (1, .int x1)]) hx hb dX7_firstTwins_13 rfl hl (by decide) rfl (fun ls hl => ?_)
        exact J_14 (f_X7_firstTwins_2 F v_t_kinds v_t_causeBits v_t_size n) ih F x1 (x1 + 1) _ h _ _ _ hP hD hS (lv_sub hl [1, 2, 0] rfl)
  unfold f_X7_firstTwins at h
  refine lv_iconst (v := 0) hx hb dX7_firstTwins_0 (by decide) ?_
  refine lv_istore_n (lv' := [(1, .int 0), (0, .ref a_t)]) hx hb dX7_firstTwins_1 rfl hl (by decide) rfl (fun ls hl => ?_)
  exact J_2 F 0 _ h _ _ _ hP hD hS (lv_sub hl [1, 0] rfl)
