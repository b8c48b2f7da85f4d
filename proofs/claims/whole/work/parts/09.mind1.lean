set_option maxHeartbeats 4000000 in
set_option maxRecDepth 100000 in
theorem c_X6_blaming (l : Launch) (D : va_G) (cA : ClassId) (sa sv : Nat → Nat) (a_o0 a_o0_kinds a_o0_figures a_o0_causeBits : Nat) (sz : Nat) (v_o0_kinds : Nat → Int32) (v_o0_figures : Nat → Int32) (v_o0_causeBits : Nat → Int32) (v_o0_size : Int32) (v_o0_lost : Int32) (v_o0_guarded : Int32) (v_o0_day : Int32) (p1 : Int32) (p2 : Int32) (F : Nat) (res : Int64) (h : f_X6_blaming F v_o0_kinds v_o0_figures v_o0_causeBits v_o0_size v_o0_day p1 p2 = some res) : Met l yX6_blaming wsX6_blaming { frames := 12, cells := 0, slots := 0, locals := 359 } (xk_Pc D cA sa sv (wX7 cA a_o0 a_o0_kinds a_o0_figures a_o0_causeBits v_o0_kinds v_o0_figures v_o0_causeBits v_o0_size v_o0_lost v_o0_guarded v_o0_day) sz [.ref a_o0, .int p1, .int p2]) (xk_Q D (va_A (wX7 cA a_o0 a_o0_kinds a_o0_figures a_o0_causeBits v_o0_kinds v_o0_figures v_o0_causeBits v_o0_size v_o0_lost v_o0_guarded v_o0_day) sz) (some (.long res)) (wX7 cA a_o0 a_o0_kinds a_o0_figures a_o0_causeBits v_o0_kinds v_o0_figures v_o0_causeBits v_o0_size v_o0_lost v_o0_guarded v_o0_day)) 0 0 (va_A (wX7 cA a_o0 a_o0_kinds a_o0_figures a_o0_causeBits v_o0_kinds v_o0_figures v_o0_causeBits v_o0_size v_o0_lost v_o0_guarded v_o0_day) sz) := by
  refine xk_met (fun res : Int64 => some (.long res)) (fun res : Int64 => (wX7 cA a_o0 a_o0_kinds a_o0_figures a_o0_causeBits v_o0_kinds v_o0_figures v_o0_causeBits v_o0_size v_o0_lost v_o0_guarded v_o0_day)) res (cc := cX6_blaming) (maxL := 3) (ret := (some .long)) (by decide) rfl (Nat.le_of_ble_eq_true rfl) ?_
  intro p e s m args below meth c A Q ls hQ hx hb hr hlk hml hown hts hK hP hD hS hA hl
  have S : CallFix p m c cX6_blaming 3 s args wsX6_blaming RX6 := ⟨hx, hb, hml, hown, hts⟩
  have hl : lv_has ls 3 [(0, .ref a_o0), (1, .int p1), (2, .int p2)] := hl
  unfold f_X6_blaming at h
  refine lv_aload_n hx hb dX6_blaming_0 rfl (lv_at hl 0 rfl) ?_
  refine lv_iload_n hx hb dX6_blaming_1 rfl (lv_at hl 1 rfl) ?_
  refine lv_iload_n hx hb dX6_blaming_2 rfl (lv_at hl 2 rfl) ?_
  refine lv_aload_n hx hb dX6_blaming_3 rfl (lv_at hl 0 rfl) ?_
  obtain ⟨x_1, hc_1, h⟩ := bd_some h
  refine xk_S (rest := [.int p2, .int p1, .ref a_o0]) (As := [.ref a_o0]) (stk := [.int x_1, .int p2, .int p1, .ref a_o0]) (wn := (wX7 cA a_o0 a_o0_kinds a_o0_figures a_o0_causeBits v_o0_kinds v_o0_figures v_o0_causeBits v_o0_size v_o0_lost v_o0_guarded v_o0_day)) (v := (some (.int x_1))) (wr := []) gX6_blaming_X6_firstNails rfl hdS_X6_firstNails rfl rfl (c_X6_firstNails l D cA sa sv a_o0 a_o0_kinds a_o0_figures a_o0_causeBits _ v_o0_kinds v_o0_figures v_o0_causeBits v_o0_size v_o0_lost v_o0_guarded v_o0_day F x_1 hc_1) S hK hP hD hS hA [0, 1, 2, 3] [] [0, 1, 2, 3] rfl rfl rfl rfl rfl rfl rfl ⟨Nat.le_of_ble_eq_true rfl, Nat.le_of_ble_eq_true rfl⟩ ⟨Nat.le_refl 0, Nat.le_refl 0⟩ rfl hl.1 rfl (Nat.le_of_ble_eq_true rfl) rfl dX6_blaming_4 (fun H locs hP hD hS => ?_)
  refine lv_iconst (v := 0) hx hb dX6_blaming_7 (by decide) ?_
  refine lv_iconst (v := 0) hx hb dX6_blaming_8 (by decide) ?_
  obtain ⟨x_2, hc_2, h⟩ := bd_some h
  refine xk_S (rest := []) (As := [.ref a_o0, .int p1, .int p2, .int x_1, .int 0, .int 0]) (stk := [.long x_2]) (wn := (wX7 cA a_o0 a_o0_kinds a_o0_figures a_o0_causeBits v_o0_kinds v_o0_figures v_o0_causeBits v_o0_size v_o0_lost v_o0_guarded v_o0_day)) (v := (some (.long x_2))) (wr := []) gX6_blaming_X6_blamingOf rfl hdS_X6_blamingOf rfl rfl (c_X6_blamingOf l D cA sa sv a_o0 a_o0_kinds a_o0_figures a_o0_causeBits _ v_o0_kinds v_o0_figures v_o0_causeBits v_o0_size v_o0_lost v_o0_guarded v_o0_day p1 p2 x_1 0 0 F x_2 hc_2) S hK hP hD hS hA [0, 1, 2, 3] [] [0, 1, 2, 3] rfl rfl rfl rfl rfl rfl rfl ⟨Nat.le_of_ble_eq_true rfl, Nat.le_of_ble_eq_true rfl⟩ ⟨Nat.le_refl 0, Nat.le_refl 0⟩ rfl hl.1 rfl (Nat.le_of_ble_eq_true rfl) rfl dX6_blaming_9 (fun H locs hP hD hS => ?_)
  obtain rfl := Option.some.inj h
  exact xk_lret hx hb hr hlk hP hD hS (hQ _) dX6_blaming_12
