set_option maxHeartbeats 4000000 in
set_option maxRecDepth 100000 in
theorem c_X0_lostByFinds (l : Launch) (D : va_G) (cA : ClassId) (sa sv : Nat → Nat) (a_o0 a_o0_kinds a_o0_figures a_o0_causeBits : Nat) (sz : Nat) (v_o0_kinds : Nat → Int32) (v_o0_figures : Nat → Int32) (v_o0_causeBits : Nat → Int32) (v_o0_size : Int32) (v_o0_lost : Int32) (v_o0_guarded : Int32) (v_o0_day : Int32) (p1 : Int32) (p2 : Int32) (p3 : Int32) (F : Nat) (res : Int32) (h : f_X0_lostByFinds F v_o0_kinds v_o0_figures v_o0_causeBits v_o0_size v_o0_lost v_o0_guarded v_o0_day p1 p2 p3 = some res) : Met l yX0_lostByFinds wsX0_lostByFinds { frames := 2, cells := 0, slots := 0, locals := 52 } (xk_Pc D cA sa sv (wX7 cA a_o0 a_o0_kinds a_o0_figures a_o0_causeBits v_o0_kinds v_o0_figures v_o0_causeBits v_o0_size v_o0_lost v_o0_guarded v_o0_day) sz [.ref a_o0, .int p1, .int p2, .int p3]) (xk_Q D (va_A (wX7 cA a_o0 a_o0_kinds a_o0_figures a_o0_causeBits v_o0_kinds v_o0_figures v_o0_causeBits v_o0_size v_o0_lost v_o0_guarded v_o0_day) sz) (some (.int res)) (wX7 cA a_o0 a_o0_kinds a_o0_figures a_o0_causeBits v_o0_kinds v_o0_figures v_o0_causeBits v_o0_size v_o0_lost v_o0_guarded v_o0_day)) 0 0 (va_A (wX7 cA a_o0 a_o0_kinds a_o0_figures a_o0_causeBits v_o0_kinds v_o0_figures v_o0_causeBits v_o0_size v_o0_lost v_o0_guarded v_o0_day) sz) := by
  refine xk_met (fun res : Int32 => some (.int res)) (fun res : Int32 => (wX7 cA a_o0 a_o0_kinds a_o0_figures a_o0_causeBits v_o0_kinds v_o0_figures v_o0_causeBits v_o0_size v_o0_lost v_o0_guarded v_o0_day)) res (cc := cX0_lostByFinds) (maxL := 6) (ret := (some .int)) (by decide) rfl (Nat.le_of_ble_eq_true rfl) ?_
  intro p e s m args below meth c A Q ls hQ hx hb hr hlk hml hown hts hK hP hD hS hA hl
  have S : CallFix p m c cX0_lostByFinds 6 s args wsX0_lostByFinds RX0 := ⟨hx, hb, hml, hown, hts⟩
  have hl : lv_has ls 6 [(0, .ref a_o0), (1, .int p1), (2, .int p2), (3, .int p3)] := hl
  have hinX7 : ∀ w ∈ u_ws RX7 TX7 7, w ∈ wsX0_lostByFinds := fun _ h => List.mem_cons_of_mem _ (List.mem_append_right _ (h))
  have J_32 : ∀ (k_9r : Int32 → Int32 → Option (Int32)), (∀ (x4 : Int32) (x5 : Int32) (res : Int32), k_9r x4 x5 = some res → ∀ (H : Heap) (locs : List Loc) (ls : Array Slot), va_P D vwCl (wX7 cA a_o0 a_o0_kinds a_o0_figures a_o0_causeBits v_o0_kinds v_o0_figures v_o0_causeBits v_o0_size v_o0_lost v_o0_guarded v_o0_day) H → va_D A (wX7 cA a_o0 a_o0_kinds a_o0_figures a_o0_causeBits v_o0_kinds v_o0_figures v_o0_causeBits v_o0_size v_o0_lost v_o0_guarded v_o0_day) → va_S A s.heap H locs → lv_has ls 6 [(0, .ref a_o0), (1, .int p1), (2, .int p2), (3, .int p3), (4, .int x4), (5, .int x5)] → W p l e { frames := 2, cells := 0, slots := 0, locals := 52 } s m args below meth c H locs 0 0 (Q res) (F0 m 9 ls [])) → ∀ (x4 : Int32) (x5 : Int32) (res : Int32), f_X0_lostByFinds_32 F v_o0_kinds v_o0_figures v_o0_causeBits v_o0_size v_o0_lost v_o0_guarded v_o0_day p1 p2 p3 k_9r x4 x5 = some res → ∀ (H : Heap) (locs : List Loc) (ls : Array Slot), va_P D vwCl (wX7 cA a_o0 a_o0_kinds a_o0_figures a_o0_causeBits v_o0_kinds v_o0_figures v_o0_causeBits v_o0_size v_o0_lost v_o0_guarded v_o0_day) H → va_D A (wX7 cA a_o0 a_o0_kinds a_o0_figures a_o0_causeBits v_o0_kinds v_o0_figures v_o0_causeBits v_o0_size v_o0_lost v_o0_guarded v_o0_day) → va_S A s.heap H locs → lv_has ls 6 [(0, .ref a_o0), (1, .int p1), (2, .int p2), (3, .int p3), (4, .int x4), (5, .int x5)] → W p l e { frames := 2, cells := 0, slots := 0, locals := 52 } s m args below meth c H locs 0 0 (Q res) (F0 m 32 ls []) := by
    intro k_9r hk_9r x4 x5 res h H locs ls hP hD hS hl
    unfold f_X0_lostByFinds_32 at h
    refine lv_aload_n hx hb dX0_lostByFinds_32 rfl (lv_at hl 0 rfl) ?_
    refine lv_iload hx hb dX0_lostByFinds_33 (lv_at hl 4 rfl) ?_
    refine lv_aload_n hx hb dX0_lostByFinds_35 rfl (lv_at hl 0 rfl) ?_
    refine va_getN (ci := 2) (v := .int v_o0_guarded) (C := RX7) (T := TX7) (N := 7) hx hb hts hinX7 hown hK.1 hP 0 rfl rfl 5 (by decide) (va_Nw.use rfl (hK.2.1 (.fieldLinkNest RX0 31 RX7 "guarded" "I" RX9) (List.mem_of_getElem? (i := 1) rfl))) (fun _ h9 => h9) rfl dX0_lostByFinds_36 ?_
    refine lv_aload_n hx hb dX0_lostByFinds_39 rfl (lv_at hl 0 rfl) ?_
    refine va_getN (ci := 2) (v := .int v_o0_day) (C := RX7) (T := TX7) (N := 7) hx hb hts hinX7 hown hK.1 hP 0 rfl rfl 6 (by decide) (va_Nw.use rfl (hK.2.1 (.fieldLinkNest RX0 34 RX7 "day" "I" RX9) (List.mem_of_getElem? (i := 2) rfl))) (fun _ h9 => h9) rfl dX0_lostByFinds_40 ?_
    refine lv_iload hx hb dX0_lostByFinds_43 (lv_at hl 5 rfl) ?_
    refine lv_iadd hx hb dX0_lostByFinds_45 ?_
    refine lv_iconst (v := 1) hx hb dX0_lostByFinds_46 (by decide) ?_
    refine lv_iadd hx hb dX0_lostByFinds_47 ?_
    obtain ⟨x_3, hc_3, h⟩ := bd_some h
    refine xk_V (rest := []) (As := [.int x4, .int v_o0_guarded, .int ((v_o0_day + x5) + 1)]) (stk := [.int x_3]) (wn := (wX7 cA a_o0 a_o0_kinds a_o0_figures a_o0_causeBits v_o0_kinds v_o0_figures v_o0_causeBits v_o0_size v_o0_lost v_o0_guarded v_o0_day)) (v := (some (.int x_3))) (wr := []) gX0_lostByFinds_X7_behindDay rfl hdV_X7_behindDay rfl rfl (c_X7_behindDay l D cA sa sv a_o0 a_o0_kinds a_o0_figures a_o0_causeBits _ v_o0_kinds v_o0_figures v_o0_causeBits v_o0_size v_o0_lost v_o0_guarded v_o0_day x4 v_o0_guarded ((v_o0_day + x5) + 1) F x_3 hc_3) (ci := 2) rfl (q0 := 0) rfl S hK hP hD hS hA [0, 1, 2, 3] [] [0, 1, 2, 3] rfl rfl rfl rfl rfl rfl rfl ⟨Nat.le_of_ble_eq_true rfl, Nat.le_of_ble_eq_true rfl⟩ ⟨Nat.le_refl 0, Nat.le_refl 0⟩ rfl hl.1 rfl (Nat.le_of_ble_eq_true rfl) rfl dX0_lostByFinds_48 (fun H locs hP hD hS => ?_)
    refine lv_istore (lv' := [(4, .int x_3), (0, .ref a_o0), (1, .int p1), (2, .int p2), (3, .int p3), (5, .int x5)]) hx hb dX0_lostByFinds_51 hl (by decide) rfl (fun ls hl => ?_)
    refine lv_iinc (v := (x5 + 1)) (lv' := [(5, .int (x5 + 1)), (4, .int x_3), (0, .ref a_o0), (1, .int p1), (2, .int p2), (3, .int p3)]) hx hb dX0_lostByFinds_53 hl (k := 5) rfl rfl (by decide) rfl (fun ls hl => ?_)
    refine lv_goto (tgt := 9) hx hb dX0_lostByFinds_56 (by decide) ?_
    exact hk_9r x_3 (x5 + 1) _ h _ _ _ hP hD hS (lv_sub hl [2, 3, 4, 5, 1, 0] rfl)
  have J_9 : ∀ (n : Nat) (x4 : Int32) (x5 : Int32) (res : Int32), f_X0_lostByFinds_9 F v_o0_kinds v_o0_figures v_o0_causeBits v_o0_size v_o0_lost v_o0_guarded v_o0_day p1 p2 p3 n x4 x5 = some res → ∀ (H : Heap) (locs : List Loc) (ls : Array Slot), va_P D vwCl (wX7 cA a_o0 a_o0_kinds a_o0_figures a_o0_causeBits v_o0_kinds v_o0_figures v_o0_causeBits v_o0_size v_o0_lost v_o0_guarded v_o0_day) H → va_D A (wX7 cA a_o0 a_o0_kinds a_o0_figures a_o0_causeBits v_o0_kinds v_o0_figures v_o0_causeBits v_o0_size v_o0_lost v_o0_guarded v_o0_day) → va_S A s.heap H locs → lv_has ls 6 [(0, .ref a_o0), (1, .int p1), (2, .int p2), (3, .int p3), (4, .int x4), (5, .int x5)] → W p l e { frames := 2, cells := 0, slots := 0, locals := 52 } s m args below meth c H locs 0 0 (Q res) (F0 m 9 ls []) := by
    intro n
    induction n with
    | zero => intro x4 x5 res h; exact nomatch (show (none : Option (Int32)) = some res from h)
    | succ n ih =>
      intro x4 x5 res h H locs ls hP hD hS hl
      rw [f_X0_lostByFinds_9] at h
      refine lv_iload hx hb dX0_lostByFinds_9 (lv_at hl 5 rfl) ?_
      refine lv_iload_n hx hb dX0_lostByFinds_11 rfl (lv_at hl 2 rfl) ?_
      refine lv_icmp_ge (tgt := 59) hx hb dX0_lostByFinds_12 (by decide) (fun c_1 => ?_) (fun c_1 => ?_)
      · have h := (if_pos c_1).symm.trans h
        refine lv_iload hx hb dX0_lostByFinds_59 (lv_at hl 4 rfl) ?_
        obtain rfl := Option.some.inj h
        exact xk_iret hx hb hr hlk hP hD hS (hQ _) dX0_lostByFinds_61
      · have h := (if_neg c_1).symm.trans h
        refine lv_iload_n hx hb dX0_lostByFinds_15 rfl (lv_at hl 3 rfl) ?_
        refine lv_iconst (v := 1) hx hb dX0_lostByFinds_16 (by decide) ?_
        refine lv_iload hx hb dX0_lostByFinds_17 (lv_at hl 5 rfl) ?_
        refine lv_ishl hx hb dX0_lostByFinds_19 ?_
        refine lv_iand hx hb dX0_lostByFinds_20 ?_
        refine lv_if_eq (tgt := 32) hx hb dX0_lostByFinds_21 (by decide) (fun c_2 => ?_) (fun c_2 => ?_)
        · have h := (if_pos c_2).symm.trans h
          exact J_32 (f_X0_lostByFinds_9 F v_o0_kinds v_o0_figures v_o0_causeBits v_o0_size v_o0_lost v_o0_guarded v_o0_day p1 p2 p3 n) ih x4 x5 _ h _ _ _ hP hD hS (lv_sub hl [0, 1, 2, 3, 4, 5] rfl)
        · have h := (if_neg c_2).symm.trans h
          refine lv_iload hx hb dX0_lostByFinds_24 (lv_at hl 4 rfl) ?_
          refine lv_iload_n hx hb dX0_lostByFinds_26 rfl (lv_at hl 1 rfl) ?_
          refine lv_iconst (v := (-1)) hx hb dX0_lostByFinds_27 (by decide) ?_
          refine lv_ixor hx hb dX0_lostByFinds_28 ?_
          refine lv_iand hx hb dX0_lostByFinds_29 ?_
          refine lv_istore (lv' := [(4, .int (x4 &&& (p1 ^^^ (-1)))), (0, .ref a_o0), (1, .int p1), (2, .int p2), (3, .int p3), (5, .int x5)]) hx hb dX0_lostByFinds_30 hl (by decide) rfl (fun ls hl => ?_)
          exact J_32 (f_X0_lostByFinds_9 F v_o0_kinds v_o0_figures v_o0_causeBits v_o0_size v_o0_lost v_o0_guarded v_o0_day p1 p2 p3 n) ih (x4 &&& (p1 ^^^ (-1))) x5 _ h _ _ _ hP hD hS (lv_sub hl [1, 2, 3, 4, 0, 5] rfl)
  unfold f_X0_lostByFinds at h
  refine lv_aload_n hx hb dX0_lostByFinds_0 rfl (lv_at hl 0 rfl) ?_
  refine va_getN (ci := 2) (v := .int v_o0_lost) (C := RX7) (T := TX7) (N := 7) hx hb hts hinX7 hown hK.1 hP 0 rfl rfl 4 (by decide) (va_Nw.use rfl (hK.2.1 (.fieldLinkNest RX0 25 RX7 "lost" "I" RX9) (List.mem_of_getElem? (i := 0) rfl))) (fun _ h9 => h9) rfl dX0_lostByFinds_1 ?_
  refine lv_istore (lv' := [(4, .int v_o0_lost), (0, .ref a_o0), (1, .int p1), (2, .int p2), (3, .int p3)]) hx hb dX0_lostByFinds_4 hl (by decide) rfl (fun ls hl => ?_)
  refine lv_iconst (v := 0) hx hb dX0_lostByFinds_6 (by decide) ?_
  refine lv_istore (lv' := [(5, .int 0), (4, .int v_o0_lost), (0, .ref a_o0), (1, .int p1), (2, .int p2), (3, .int p3)]) hx hb dX0_lostByFinds_7 hl (by decide) rfl (fun ls hl => ?_)
  exact J_9 F v_o0_lost 0 _ h _ _ _ hP hD hS (lv_sub hl [2, 3, 4, 5, 1, 0] rfl)
set_option maxHeartbeats 4000000 in
set_option maxRecDepth 100000 in
theorem c_X1_power (l : Launch) (D : va_G) (cA : ClassId) (sa sv : Nat → Nat) (sz : Nat) (p0 : Int32) (p1 : Int32) (F : Nat) (res : Int64) (h : f_X1_power F p0 p1 = some res) : Met l yX1_power wsX1_power { frames := 0, cells := 0, slots := 0, locals := 0 } (xk_Pc D cA sa sv ([] : va_W) sz [.int p0, .int p1]) (xk_Q D (va_A ([] : va_W) sz) (some (.long res)) ([] : va_W)) 0 0 (va_A ([] : va_W) sz) := by
  refine xk_met (fun res : Int64 => some (.long res)) (fun res : Int64 => ([] : va_W)) res (cc := cX1_power) (maxL := 5) (ret := (some .long)) (by decide) rfl (Nat.le_of_ble_eq_true rfl) ?_
  intro p e s m args below meth c A Q ls hQ hx hb hr hlk hml hown hts hK hP hD hS hA hl
  have S : CallFix p m c cX1_power 5 s args wsX1_power RX1 := ⟨hx, hb, hml, hown, hts⟩
  have hl : lv_has ls 5 [(0, .int p0), (1, .int p1)] := hl
  have J_5 : ∀ (n : Nat) (x2 : Int64) (x4 : Int32) (res : Int64), f_X1_power_5 F p0 p1 n x2 x4 = some res → ∀ (H : Heap) (locs : List Loc) (ls : Array Slot), va_P D vwCl ([] : va_W) H → va_D A ([] : va_W) → va_S A s.heap H locs → lv_has ls 5 [(0, .int p0), (1, .int p1), (2, .long x2), (4, .int x4)] → W p l e { frames := 0, cells := 0, slots := 0, locals := 0 } s m args below meth c H locs 0 0 (Q res) (F0 m 5 ls []) := by
    intro n
    induction n with
    | zero => intro x2 x4 res h; exact nomatch (show (none : Option (Int64)) = some res from h)
    | succ n ih =>
      intro x2 x4 res h H locs ls hP hD hS hl
      rw [f_X1_power_5] at h
      refine lv_iload hx hb dX1_power_5 (lv_at hl 3 rfl) ?_
      refine lv_iload_n hx hb dX1_power_7 rfl (lv_at hl 1 rfl) ?_
      refine lv_icmp_ge (tgt := 22) hx hb dX1_power_8 (by decide) (fun c_1 => ?_) (fun c_1 => ?_)
      · have h := (if_pos c_1).symm.trans h
        refine lv_lload_n hx hb dX1_power_22 rfl (lv_at hl 2 rfl) ?_
        obtain rfl := Option.some.inj h
        exact xk_lret hx hb hr hlk hP hD hS (hQ _) dX1_power_23
      · have h := (if_neg c_1).symm.trans h
        refine lv_lload_n hx hb dX1_power_11 rfl (lv_at hl 2 rfl) ?_
        refine lv_iload_n hx hb dX1_power_12 rfl (lv_at hl 0 rfl) ?_
        refine lv_i2l (v := (Int32.toInt64 p0)) hx hb dX1_power_13 rfl ?_
        refine lv_lmul hx hb dX1_power_14 ?_
        refine lv_lstore_n (lv' := [(2, .long (x2 * (Int32.toInt64 p0))), (0, .int p0), (1, .int p1), (4, .int x4)]) hx hb dX1_power_15 rfl hl (by decide) rfl (fun ls hl => ?_)
        refine lv_iinc (v := (x4 + 1)) (lv' := [(4, .int (x4 + 1)), (2, .long (x2 * (Int32.toInt64 p0))), (0, .int p0), (1, .int p1)]) hx hb dX1_power_16 hl (k := 3) rfl rfl (by decide) rfl (fun ls hl => ?_)
        refine lv_goto (tgt := 5) hx hb dX1_power_19 (by decide) ?_
        exact ih (x2 * (Int32.toInt64 p0)) (x4 + 1) _ h _ _ _ hP hD hS (lv_sub hl [2, 3, 1, 0] rfl)
  unfold f_X1_power at h
  refine lv_lconst (v := 1) hx hb dX1_power_0 (by decide) ?_
  refine lv_lstore_n (lv' := [(2, .long 1), (0, .int p0), (1, .int p1)]) hx hb dX1_power_1 rfl hl (by decide) rfl (fun ls hl => ?_)
  refine lv_iconst (v := 0) hx hb dX1_power_2 (by decide) ?_
  refine lv_istore (lv' := [(4, .int 0), (2, .long 1), (0, .int p0), (1, .int p1)]) hx hb dX1_power_3 hl (by decide) rfl (fun ls hl => ?_)
  exact J_5 F 1 0 _ h _ _ _ hP hD hS (lv_sub hl [2, 3, 1, 0] rfl)
set_option maxHeartbeats 4000000 in
set_option maxRecDepth 100000 in
theorem c_X0_waysToLose (l : Launch) (D : va_G) (cA : ClassId) (sa sv : Nat → Nat) (a_o0 a_o0_kinds a_o0_figures a_o0_causeBits : Nat) (sz : Nat) (v_o0_kinds : Nat → Int32) (v_o0_figures : Nat → Int32) (v_o0_causeBits : Nat → Int32) (v_o0_size : Int32) (v_o0_lost : Int32) (v_o0_guarded : Int32) (v_o0_day : Int32) (p1 : Int32) (p2 : Int32) (p3 : Int32) (p4 : Int32) (F : Nat) (res : Int64) (h : f_X0_waysToLose F v_o0_kinds v_o0_figures v_o0_causeBits v_o0_size v_o0_lost v_o0_guarded v_o0_day p1 p2 p3 p4 = some res) : Met l yX0_waysToLose wsX0_waysToLose { frames := 3, cells := 0, slots := 0, locals := 77 } (xk_Pc D cA sa sv (wX7 cA a_o0 a_o0_kinds a_o0_figures a_o0_causeBits v_o0_kinds v_o0_figures v_o0_causeBits v_o0_size v_o0_lost v_o0_guarded v_o0_day) sz [.ref a_o0, .int p1, .int p2, .int p3, .int p4]) (xk_Q D (va_A (wX7 cA a_o0 a_o0_kinds a_o0_figures a_o0_causeBits v_o0_kinds v_o0_figures v_o0_causeBits v_o0_size v_o0_lost v_o0_guarded v_o0_day) sz) (some (.long res)) (wX7 cA a_o0 a_o0_kinds a_o0_figures a_o0_causeBits v_o0_kinds v_o0_figures v_o0_causeBits v_o0_size v_o0_lost v_o0_guarded v_o0_day)) 0 0 (va_A (wX7 cA a_o0 a_o0_kinds a_o0_figures a_o0_causeBits v_o0_kinds v_o0_figures v_o0_causeBits v_o0_size v_o0_lost v_o0_guarded v_o0_day) sz) := by
  refine xk_met (fun res : Int64 => some (.long res)) (fun res : Int64 => (wX7 cA a_o0 a_o0_kinds a_o0_figures a_o0_causeBits v_o0_kinds v_o0_figures v_o0_causeBits v_o0_size v_o0_lost v_o0_guarded v_o0_day)) res (cc := cX0_waysToLose) (maxL := 8) (ret := (some .long)) (by decide) rfl (Nat.le_of_ble_eq_true rfl) ?_
  intro p e s m args below meth c A Q ls hQ hx hb hr hlk hml hown hts hK hP hD hS hA hl
  have S : CallFix p m c cX0_waysToLose 8 s args wsX0_waysToLose RX0 := ⟨hx, hb, hml, hown, hts⟩
  have hl : lv_has ls 8 [(0, .ref a_o0), (1, .int p1), (2, .int p2), (3, .int p3), (4, .int p4)] := hl
  have J_50 : ∀ (k_6r : Int64 → Int32 → Option (Int64)), (∀ (x5 : Int64) (x7 : Int32) (res : Int64), k_6r x5 x7 = some res → ∀ (H : Heap) (locs : List Loc) (ls : Array Slot), va_P D vwCl (wX7 cA a_o0 a_o0_kinds a_o0_figures a_o0_causeBits v_o0_kinds v_o0_figures v_o0_causeBits v_o0_size v_o0_lost v_o0_guarded v_o0_day) H → va_D A (wX7 cA a_o0 a_o0_kinds a_o0_figures a_o0_causeBits v_o0_kinds v_o0_figures v_o0_causeBits v_o0_size v_o0_lost v_o0_guarded v_o0_day) → va_S A s.heap H locs → lv_has ls 8 [(0, .ref a_o0), (1, .int p1), (2, .int p2), (3, .int p3), (4, .int p4), (5, .long x5), (7, .int x7)] → W p l e { frames := 3, cells := 0, slots := 0, locals := 77 } s m args below meth c H locs 0 0 (Q res) (F0 m 6 ls [])) → ∀ (x5 : Int64) (x7 : Int32) (res : Int64), f_X0_waysToLose_50 F v_o0_kinds v_o0_figures v_o0_causeBits v_o0_size v_o0_lost v_o0_guarded v_o0_day p1 p2 p3 p4 k_6r x5 x7 = some res → ∀ (H : Heap) (locs : List Loc) (ls : Array Slot), va_P D vwCl (wX7 cA a_o0 a_o0_kinds a_o0_figures a_o0_causeBits v_o0_kinds v_o0_figures v_o0_causeBits v_o0_size v_o0_lost v_o0_guarded v_o0_day) H → va_D A (wX7 cA a_o0 a_o0_kinds a_o0_figures a_o0_causeBits v_o0_kinds v_o0_figures v_o0_causeBits v_o0_size v_o0_lost v_o0_guarded v_o0_day) → va_S A s.heap H locs → lv_has ls 8 [(0, .ref a_o0), (1, .int p1), (2, .int p2), (3, .int p3), (4, .int p4), (5, .long x5), (7, .int x7)] → W p l e { frames := 3, cells := 0, slots := 0, locals := 77 } s m args below meth c H locs 0 0 (Q res) (F0 m 50 ls []) := by
    intro k_6r hk_6r x5 x7 res h H locs ls hP hD hS hl
    unfold f_X0_waysToLose_50 at h
    refine lv_iinc (v := (x7 + 1)) (lv' := [(7, .int (x7 + 1)), (0, .ref a_o0), (1, .int p1), (2, .int p2), (3, .int p3), (4, .int p4), (5, .long x5)]) hx hb dX0_waysToLose_50 hl (k := 6) rfl rfl (by decide) rfl (fun ls hl => ?_)
    refine lv_goto (tgt := 6) hx hb dX0_waysToLose_53 (by decide) ?_
    exact hk_6r x5 (x7 + 1) _ h _ _ _ hP hD hS (lv_sub hl [1, 2, 3, 4, 5, 6, 0] rfl)
  have J_6 : ∀ (n : Nat) (x5 : Int64) (x7 : Int32) (res : Int64), f_X0_waysToLose_6 F v_o0_kinds v_o0_figures v_o0_causeBits v_o0_size v_o0_lost v_o0_guarded v_o0_day p1 p2 p3 p4 n x5 x7 = some res → ∀ (H : Heap) (locs : List Loc) (ls : Array Slot), va_P D vwCl (wX7 cA a_o0 a_o0_kinds a_o0_figures a_o0_causeBits v_o0_kinds v_o0_figures v_o0_causeBits v_o0_size v_o0_lost v_o0_guarded v_o0_day) H → va_D A (wX7 cA a_o0 a_o0_kinds a_o0_figures a_o0_causeBits v_o0_kinds v_o0_figures v_o0_causeBits v_o0_size v_o0_lost v_o0_guarded v_o0_day) → va_S A s.heap H locs → lv_has ls 8 [(0, .ref a_o0), (1, .int p1), (2, .int p2), (3, .int p3), (4, .int p4), (5, .long x5), (7, .int x7)] → W p l e { frames := 3, cells := 0, slots := 0, locals := 77 } s m args below meth c H locs 0 0 (Q res) (F0 m 6 ls []) := by
    intro n
    induction n with
    | zero => intro x5 x7 res h; exact nomatch (show (none : Option (Int64)) = some res from h)
    | succ n ih =>
      intro x5 x7 res h H locs ls hP hD hS hl
      rw [f_X0_waysToLose_6] at h
      refine lv_iload hx hb dX0_waysToLose_6 (lv_at hl 6 rfl) ?_
      refine lv_iconst (v := 1) hx hb dX0_waysToLose_8 (by decide) ?_
      refine lv_iload_n hx hb dX0_waysToLose_9 rfl (lv_at hl 3 rfl) ?_
      refine lv_ishl hx hb dX0_waysToLose_10 ?_
      refine lv_icmp_ge (tgt := 56) hx hb dX0_waysToLose_11 (by decide) (fun c_1 => ?_) (fun c_1 => ?_)
      · have h := (if_pos c_1).symm.trans h
        refine lv_lload hx hb dX0_waysToLose_56 (lv_at hl 5 rfl) ?_
        obtain rfl := Option.some.inj h
        exact xk_lret hx hb hr hlk hP hD hS (hQ _) dX0_waysToLose_58
      · have h := (if_neg c_1).symm.trans h
        refine lv_aload_n hx hb dX0_waysToLose_14 rfl (lv_at hl 0 rfl) ?_
        refine lv_iconst (v := 1) hx hb dX0_waysToLose_15 (by decide) ?_
        refine lv_iload_n hx hb dX0_waysToLose_16 rfl (lv_at hl 1 rfl) ?_
        refine lv_ishl hx hb dX0_waysToLose_17 ?_
        refine lv_iload_n hx hb dX0_waysToLose_18 rfl (lv_at hl 3 rfl) ?_
        refine lv_iload hx hb dX0_waysToLose_19 (lv_at hl 6 rfl) ?_
        obtain ⟨x_2, hc_2, h⟩ := bd_some h
        refine xk_S (rest := []) (As := [.ref a_o0, .int (1 <<< (p1 &&& 31)), .int p3, .int x7]) (stk := [.int x_2]) (wn := (wX7 cA a_o0 a_o0_kinds a_o0_figures a_o0_causeBits v_o0_kinds v_o0_figures v_o0_causeBits v_o0_size v_o0_lost v_o0_guarded v_o0_day)) (v := (some (.int x_2))) (wr := []) gX0_waysToLose_X0_lostByFinds rfl hdS_X0_lostByFinds rfl rfl (c_X0_lostByFinds l D cA sa sv a_o0 a_o0_kinds a_o0_figures a_o0_causeBits _ v_o0_kinds v_o0_figures v_o0_causeBits v_o0_size v_o0_lost v_o0_guarded v_o0_day (1 <<< (p1 &&& 31)) p3 x7 F x_2 hc_2) S hK hP hD hS hA [0, 1, 2, 3] [] [0, 1, 2, 3] rfl rfl rfl rfl rfl rfl rfl ⟨Nat.le_of_ble_eq_true rfl, Nat.le_of_ble_eq_true rfl⟩ ⟨Nat.le_refl 0, Nat.le_refl 0⟩ rfl hl.1 rfl (Nat.le_of_ble_eq_true rfl) rfl dX0_waysToLose_21 (fun H locs hP hD hS => ?_)
        refine lv_iconst (v := 1) hx hb dX0_waysToLose_24 (by decide) ?_
        refine lv_iload_n hx hb dX0_waysToLose_25 rfl (lv_at hl 2 rfl) ?_
        refine lv_ishl hx hb dX0_waysToLose_26 ?_
        refine lv_iand hx hb dX0_waysToLose_27 ?_
        refine lv_if_eq (tgt := 50) hx hb dX0_waysToLose_28 (by decide) (fun c_3 => ?_) (fun c_3 => ?_)
        · have h := (if_pos c_3).symm.trans h
          exact J_50 (f_X0_waysToLose_6 F v_o0_kinds v_o0_figures v_o0_causeBits v_o0_size v_o0_lost v_o0_guarded v_o0_day p1 p2 p3 p4 n) ih x5 x7 _ h _ _ _ hP hD hS (lv_sub hl [0, 1, 2, 3, 4, 5, 6] rfl)
        · have h := (if_neg c_3).symm.trans h
          refine lv_lload hx hb dX0_waysToLose_31 (lv_at hl 5 rfl) ?_
          refine lv_iload hx hb dX0_waysToLose_33 (lv_at hl 4 rfl) ?_
          refine lv_iconst (v := 1) hx hb dX0_waysToLose_35 (by decide) ?_
          refine lv_isub hx hb dX0_waysToLose_36 ?_
          refine lv_iload_n hx hb dX0_waysToLose_37 rfl (lv_at hl 3 rfl) ?_
          refine lv_iload hx hb dX0_waysToLose_38 (lv_at hl 6 rfl) ?_
          obtain ⟨x_4, hc_4, h⟩ := bd_some h
          refine xk_S (rest := [.int p3, .int (p4 - 1), .long x5]) (As := [.int x7]) (stk := [.int x_4, .int p3, .int (p4 - 1), .long x5]) (wn := (wX7 cA a_o0 a_o0_kinds a_o0_figures a_o0_causeBits v_o0_kinds v_o0_figures v_o0_causeBits v_o0_size v_o0_lost v_o0_guarded v_o0_day)) (v := (some (.int x_4))) (wr := [(a_o0, .inr (2, [.ref a_o0_kinds, .ref a_o0_figures, .ref a_o0_causeBits, .int v_o0_size, .int v_o0_lost, .int v_o0_guarded, .int v_o0_day])), (a_o0_kinds, .inl (cA, 9, .inl v_o0_kinds)), (a_o0_figures, .inl (cA, 9, .inl v_o0_figures)), (a_o0_causeBits, .inl (cA, 9, .inl v_o0_causeBits))]) gX0_waysToLose_J6_bitCount_0f7a4 rfl hdS_J6_bitCount_0f7a4 rfl rfl (c_J6_bitCount_0f7a4 l D cA sa sv _ x7 x_4 hc_4) S hK hP hD hS hA [] [0, 1, 2, 3] [0, 1, 2, 3] rfl rfl rfl rfl rfl rfl rfl ⟨Nat.le_of_ble_eq_true rfl, Nat.le_of_ble_eq_true rfl⟩ ⟨Nat.le_refl 0, Nat.le_refl 0⟩ rfl hl.1 rfl (Nat.le_of_ble_eq_true rfl) rfl dX0_waysToLose_40 (fun H locs hP hD hS => ?_)
          refine lv_isub hx hb dX0_waysToLose_43 ?_
          obtain ⟨x_5, hc_5, h⟩ := bd_some h
          refine xk_S (rest := [.long x5]) (As := [.int (p4 - 1), .int (p3 - x_4)]) (stk := [.long x_5, .long x5]) (wn := (wX7 cA a_o0 a_o0_kinds a_o0_figures a_o0_causeBits v_o0_kinds v_o0_figures v_o0_causeBits v_o0_size v_o0_lost v_o0_guarded v_o0_day)) (v := (some (.long x_5))) (wr := [(a_o0, .inr (2, [.ref a_o0_kinds, .ref a_o0_figures, .ref a_o0_causeBits, .int v_o0_size, .int v_o0_lost, .int v_o0_guarded, .int v_o0_day])), (a_o0_kinds, .inl (cA, 9, .inl v_o0_kinds)), (a_o0_figures, .inl (cA, 9, .inl v_o0_figures)), (a_o0_causeBits, .inl (cA, 9, .inl v_o0_causeBits))]) gX0_waysToLose_X1_power rfl hdS_X1_power rfl rfl (c_X1_power l D cA sa sv _ (p4 - 1) (p3 - x_4) F x_5 hc_5) S hK hP hD hS hA [] [0, 1, 2, 3] [0, 1, 2, 3] rfl rfl rfl rfl rfl rfl rfl ⟨Nat.le_of_ble_eq_true rfl, Nat.le_of_ble_eq_true rfl⟩ ⟨Nat.le_refl 0, Nat.le_refl 0⟩ rfl hl.1 rfl (Nat.le_of_ble_eq_true rfl) rfl dX0_waysToLose_44 (fun H locs hP hD hS => ?_)
          refine lv_ladd hx hb dX0_waysToLose_47 ?_
          refine lv_lstore (lv' := [(5, .long (x5 + x_5)), (0, .ref a_o0), (1, .int p1), (2, .int p2), (3, .int p3), (4, .int p4), (7, .int x7)]) hx hb dX0_waysToLose_48 hl (by decide) rfl (fun ls hl => ?_)
          exact J_50 (f_X0_waysToLose_6 F v_o0_kinds v_o0_figures v_o0_causeBits v_o0_size v_o0_lost v_o0_guarded v_o0_day p1 p2 p3 p4 n) ih (x5 + x_5) x7 _ h _ _ _ hP hD hS (lv_sub hl [1, 2, 3, 4, 5, 0, 6] rfl)
  unfold f_X0_waysToLose at h
  refine lv_lconst (v := 0) hx hb dX0_waysToLose_0 (by decide) ?_
  refine lv_lstore (lv' := [(5, .long 0), (0, .ref a_o0), (1, .int p1), (2, .int p2), (3, .int p3), (4, .int p4)]) hx hb dX0_waysToLose_1 hl (by decide) rfl (fun ls hl => ?_)
  refine lv_iconst (v := 0) hx hb dX0_waysToLose_3 (by decide) ?_
  refine lv_istore (lv' := [(7, .int 0), (5, .long 0), (0, .ref a_o0), (1, .int p1), (2, .int p2), (3, .int p3), (4, .int p4)]) hx hb dX0_waysToLose_4 hl (by decide) rfl (fun ls hl => ?_)
  exact J_6 F 0 0 _ h _ _ _ hP hD hS (lv_sub hl [2, 3, 4, 5, 6, 1, 0] rfl)
set_option maxHeartbeats 4000000 in
set_option maxRecDepth 100000 in
theorem c_X1_greatestCommon (l : Launch) (D : va_G) (cA : ClassId) (sa sv : Nat → Nat) (sz : Nat) (p0 : Int64) (p2 : Int64) (F : Nat) (res : Int64) (h : f_X1_greatestCommon F p0 p2 = some res) : Met l yX1_greatestCommon wsX1_greatestCommon { frames := 0, cells := 0, slots := 0, locals := 0 } (xk_Pc D cA sa sv ([] : va_W) sz [.long p0, .long p2]) (xk_Q D (va_A ([] : va_W) sz) (some (.long res)) ([] : va_W)) 0 0 (va_A ([] : va_W) sz) := by
  refine xk_met (fun res : Int64 => some (.long res)) (fun res : Int64 => ([] : va_W)) res (cc := cX1_greatestCommon) (maxL := 11) (ret := (some .long)) (by decide) rfl (Nat.le_of_ble_eq_true rfl) ?_
  intro p e s m args below meth c A Q ls hQ hx hb hr hlk hml hown hts hK hP hD hS hA hl
  have S : CallFix p m c cX1_greatestCommon 11 s args wsX1_greatestCommon RX1 := ⟨hx, hb, hml, hown, hts⟩
  have hl : lv_has ls 11 [(0, .long p0), (2, .long p2)] := hl
  have J_9 : ∀ (n : Nat) (x4 : Int64) (x6 : Int64) (x8 : Int32) (res : Int64), f_X1_greatestCommon_9 F p0 p2 n x4 x6 x8 = some res → ∀ (H : Heap) (locs : List Loc) (ls : Array Slot), va_P D vwCl ([] : va_W) H → va_D A ([] : va_W) → va_S A s.heap H locs → lv_has ls 11 [(4, .long x4), (6, .long x6), (8, .int x8)] → W p l e { frames := 0, cells := 0, slots := 0, locals := 0 } s m args below meth c H locs 0 0 (Q res) (F0 m 9 ls []) := by
    intro n
    induction n with
    | zero => intro x4 x6 x8 res h; exact nomatch (show (none : Option (Int64)) = some res from h)
    | succ n ih =>
      intro x4 x6 x8 res h H locs ls hP hD hS hl
      rw [f_X1_greatestCommon_9] at h
      refine lv_iload hx hb dX1_greatestCommon_9 (lv_at hl 2 rfl) ?_
      refine lv_sipush (v := 200) hx hb dX1_greatestCommon_11 (by decide) ?_
      refine lv_icmp_ge (tgt := 45) hx hb dX1_greatestCommon_14 (by decide) (fun c_1 => ?_) (fun c_1 => ?_)
      · have h := (if_pos c_1).symm.trans h
        refine lv_lload hx hb dX1_greatestCommon_45 (lv_at hl 0 rfl) ?_
        obtain rfl := Option.some.inj h
        exact xk_lret hx hb hr hlk hP hD hS (hQ _) dX1_greatestCommon_47
      · have h := (if_neg c_1).symm.trans h
        refine lv_lload hx hb dX1_greatestCommon_17 (lv_at hl 1 rfl) ?_
        refine lv_lconst (v := 0) hx hb dX1_greatestCommon_19 (by decide) ?_
        refine W.lcmp hx hb dX1_greatestCommon_20 ?_
        refine lv_if_eq (tgt := 45) hx hb dX1_greatestCommon_21 (by decide) (fun c_2 => ?_) (fun c_2 => ?_)
        · have h := (if_pos c_2).symm.trans h
          refine lv_lload hx hb dX1_greatestCommon_45 (lv_at hl 0 rfl) ?_
          obtain rfl := Option.some.inj h
          exact xk_lret hx hb hr hlk hP hD hS (hQ _) dX1_greatestCommon_47
        · have h := (if_neg c_2).symm.trans h
          refine lv_lload hx hb dX1_greatestCommon_24 (lv_at hl 0 rfl) ?_
          refine lv_lload hx hb dX1_greatestCommon_26 (lv_at hl 1 rfl) ?_
          obtain ⟨z_3, h⟩ := xdl_some h
          refine lv_lrem hx hb dX1_greatestCommon_28 z_3 ?_
          refine lv_lstore (lv' := [(9, .long (x4 - x4 / x6 * x6)), (4, .long x4), (6, .long x6), (8, .int x8)]) hx hb dX1_greatestCommon_29 hl (by decide) rfl (fun ls hl => ?_)
          refine lv_lload hx hb dX1_greatestCommon_31 (lv_at hl 2 rfl) ?_
          refine lv_lstore (lv' := [(4, .long x6), (9, .long (x4 - x4 / x6 * x6)), (6, .long x6), (8, .int x8)]) hx hb dX1_greatestCommon_33 hl (by decide) rfl (fun ls hl => ?_)
          refine lv_lload hx hb dX1_greatestCommon_35 (lv_at hl 1 rfl) ?_
          refine lv_lstore (lv' := [(6, .long (x4 - x4 / x6 * x6)), (4, .long x6), (9, .long (x4 - x4 / x6 * x6)), (8, .int x8)]) hx hb dX1_greatestCommon_37 hl (by decide) rfl (fun ls hl => ?_)
          refine lv_iinc (v := (x8 + 1)) (lv' := [(8, .int (x8 + 1)), (6, .long (x4 - x4 / x6 * x6)), (4, .long x6), (9, .long (x4 - x4 / x6 * x6))]) hx hb dX1_greatestCommon_39 hl (k := 3) rfl rfl (by decide) rfl (fun ls hl => ?_)
          refine lv_goto (tgt := 9) hx hb dX1_greatestCommon_42 (by decide) ?_
          exact ih x6 (x4 - x4 / x6 * x6) (x8 + 1) _ h _ _ _ hP hD hS (lv_sub hl [2, 1, 0] rfl)
  unfold f_X1_greatestCommon at h
  refine lv_lload_n hx hb dX1_greatestCommon_0 rfl (lv_at hl 0 rfl) ?_
  refine lv_lstore (lv' := [(4, .long p0), (0, .long p0), (2, .long p2)]) hx hb dX1_greatestCommon_1 hl (by decide) rfl (fun ls hl => ?_)
  refine lv_lload_n hx hb dX1_greatestCommon_3 rfl (lv_at hl 2 rfl) ?_
  refine lv_lstore (lv' := [(6, .long p2), (4, .long p0), (0, .long p0), (2, .long p2)]) hx hb dX1_greatestCommon_4 hl (by decide) rfl (fun ls hl => ?_)
  refine lv_iconst (v := 0) hx hb dX1_greatestCommon_6 (by decide) ?_
  refine lv_istore (lv' := [(8, .int 0), (6, .long p2), (4, .long p0), (0, .long p0), (2, .long p2)]) hx hb dX1_greatestCommon_7 hl (by decide) rfl (fun ls hl => ?_)
  exact J_9 F p0 p2 0 _ h _ _ _ hP hD hS (lv_sub hl [2, 1, 0] rfl)
set_option maxHeartbeats 4000000 in
set_option maxRecDepth 100000 in
theorem c_X1_part (l : Launch) (D : va_G) (cA : ClassId) (sa sv : Nat → Nat) (sz : Nat) (p0 : Int64) (p2 : Int64) (p4 : Int32) (F : Nat) (res : Int64) (h : f_X1_part F p0 p2 p4 = some res) : Met l yX1_part wsX1_part { frames := 1, cells := 0, slots := 0, locals := 30 } (xk_Pc D cA sa sv ([] : va_W) sz [.long p0, .long p2, .int p4]) (xk_Q D (va_A ([] : va_W) sz) (some (.long res)) ([] : va_W)) 0 0 (va_A ([] : va_W) sz) := by
  refine xk_met (fun res : Int64 => some (.long res)) (fun res : Int64 => ([] : va_W)) res (cc := cX1_part) (maxL := 7) (ret := (some .long)) (by decide) rfl (Nat.le_of_ble_eq_true rfl) ?_
  intro p e s m args below meth c A Q ls hQ hx hb hr hlk hml hown hts hK hP hD hS hA hl
  have S : CallFix p m c cX1_part 7 s args wsX1_part RX1 := ⟨hx, hb, hml, hown, hts⟩
  have hl : lv_has ls 7 [(0, .long p0), (2, .long p2), (4, .int p4)] := hl
  unfold f_X1_part at h
  refine lv_lload_n hx hb dX1_part_0 rfl (lv_at hl 0 rfl) ?_
  refine lv_lload_n hx hb dX1_part_1 rfl (lv_at hl 1 rfl) ?_
  obtain ⟨x_1, hc_1, h⟩ := bd_some h
  refine xk_S (rest := []) (As := [.long p0, .long p2]) (stk := [.long x_1]) (wn := ([] : va_W)) (v := (some (.long x_1))) (wr := []) gX1_part_X1_greatestCommon rfl hdS_X1_greatestCommon rfl rfl (c_X1_greatestCommon l D cA sa sv _ p0 p2 F x_1 hc_1) S hK hP hD hS hA [] [] [] rfl rfl rfl rfl rfl rfl rfl ⟨Nat.le_of_ble_eq_true rfl, Nat.le_of_ble_eq_true rfl⟩ ⟨Nat.le_refl 0, Nat.le_refl 0⟩ rfl hl.1 rfl (Nat.le_of_ble_eq_true rfl) rfl dX1_part_2 (fun H locs hP hD hS => ?_)
  refine lv_lstore (lv' := [(5, .long x_1), (0, .long p0), (2, .long p2), (4, .int p4)]) hx hb dX1_part_5 hl (by decide) rfl (fun ls hl => ?_)
  refine lv_lload hx hb dX1_part_7 (lv_at hl 0 rfl) ?_
  refine lv_lconst (v := 0) hx hb dX1_part_9 (by decide) ?_
  refine W.lcmp hx hb dX1_part_10 ?_
  refine lv_if_ne (tgt := 25) hx hb dX1_part_11 (by decide) (fun c_2 => ?_) (fun c_2 => ?_)
  · have h := (if_neg c_2).symm.trans h
    refine lv_iload hx hb dX1_part_25 (lv_at hl 3 rfl) ?_
    refine lv_if_ne (tgt := 37) hx hb dX1_part_27 (by decide) (fun c_3 => ?_) (fun c_3 => ?_)
    · have h := (if_neg c_3).symm.trans h
      refine lv_lload_n hx hb dX1_part_37 rfl (lv_at hl 2 rfl) ?_
      refine lv_lload hx hb dX1_part_38 (lv_at hl 0 rfl) ?_
      obtain ⟨z_4, h⟩ := xdl_some h
      refine lv_ldiv hx hb dX1_part_40 z_4 ?_
      obtain rfl := Option.some.inj h
      exact xk_lret hx hb hr hlk hP hD hS (hQ _) dX1_part_41
    · have h := (if_pos c_3).symm.trans h
      refine lv_lload_n hx hb dX1_part_30 rfl (lv_at hl 1 rfl) ?_
      refine lv_lload hx hb dX1_part_31 (lv_at hl 0 rfl) ?_
      obtain ⟨z_5, h⟩ := xdl_some h
      refine lv_ldiv hx hb dX1_part_33 z_5 ?_
      refine lv_goto (tgt := 41) hx hb dX1_part_34 (by decide) ?_
      obtain rfl := Option.some.inj h
      exact xk_lret hx hb hr hlk hP hD hS (hQ _) dX1_part_41
  · have h := (if_pos c_2).symm.trans h
    refine lv_iload hx hb dX1_part_14 (lv_at hl 3 rfl) ?_
    refine lv_if_ne (tgt := 23) hx hb dX1_part_16 (by decide) (fun c_6 => ?_) (fun c_6 => ?_)
    · have h := (if_neg c_6).symm.trans h
      refine lv_lconst (v := 1) hx hb dX1_part_23 (by decide) ?_
      obtain rfl := Option.some.inj h
      exact xk_lret hx hb hr hlk hP hD hS (hQ _) dX1_part_24
    · have h := (if_pos c_6).symm.trans h
      refine lv_lconst (v := 0) hx hb dX1_part_19 (by decide) ?_
      refine lv_goto (tgt := 24) hx hb dX1_part_20 (by decide) ?_
      obtain rfl := Option.some.inj h
      exact xk_lret hx hb hr hlk hP hD hS (hQ _) dX1_part_24
set_option maxHeartbeats 4000000 in
set_option maxRecDepth 100000 in
theorem c_X2_lostBy (l : Launch) (D : va_G) (cA : ClassId) (sa sv : Nat → Nat) (a_o0 a_o0_kinds a_o0_figures a_o0_causeBits : Nat) (sz : Nat) (v_o0_kinds : Nat → Int32) (v_o0_figures : Nat → Int32) (v_o0_causeBits : Nat → Int32) (v_o0_size : Int32) (v_o0_lost : Int32) (v_o0_guarded : Int32) (v_o0_day : Int32) (p1 : Int32) (p2 : Int32) (p3 : Int32) (F : Nat) (res : Int32) (h : f_X2_lostBy F v_o0_kinds v_o0_figures v_o0_causeBits v_o0_size v_o0_lost v_o0_guarded v_o0_day p1 p2 p3 = some res) : Met l yX2_lostBy wsX2_lostBy { frames := 3, cells := 0, slots := 0, locals := 80 } (xk_Pc D cA sa sv (wX7 cA a_o0 a_o0_kinds a_o0_figures a_o0_causeBits v_o0_kinds v_o0_figures v_o0_causeBits v_o0_size v_o0_lost v_o0_guarded v_o0_day) sz [.ref a_o0, .int p1, .int p2, .int p3]) (xk_Q D (va_A (wX7 cA a_o0 a_o0_kinds a_o0_figures a_o0_causeBits v_o0_kinds v_o0_figures v_o0_causeBits v_o0_size v_o0_lost v_o0_guarded v_o0_day) sz) (some (.int res)) (wX7 cA a_o0 a_o0_kinds a_o0_figures a_o0_causeBits v_o0_kinds v_o0_figures v_o0_causeBits v_o0_size v_o0_lost v_o0_guarded v_o0_day)) 0 0 (va_A (wX7 cA a_o0 a_o0_kinds a_o0_figures a_o0_causeBits v_o0_kinds v_o0_figures v_o0_causeBits v_o0_size v_o0_lost v_o0_guarded v_o0_day) sz) := by
  refine xk_met (fun res : Int32 => some (.int res)) (fun res : Int32 => (wX7 cA a_o0 a_o0_kinds a_o0_figures a_o0_causeBits v_o0_kinds v_o0_figures v_o0_causeBits v_o0_size v_o0_lost v_o0_guarded v_o0_day)) res (cc := cX2_lostBy) (maxL := 4) (ret := (some .int)) (by decide) rfl (Nat.le_of_ble_eq_true rfl) ?_
  intro p e s m args below meth c A Q ls hQ hx hb hr hlk hml hown hts hK hP hD hS hA hl
  have S : CallFix p m c cX2_lostBy 4 s args wsX2_lostBy RX2 := ⟨hx, hb, hml, hown, hts⟩
  have hl : lv_has ls 4 [(0, .ref a_o0), (1, .int p1), (2, .int p2), (3, .int p3)] := hl
  have hinX7 : ∀ w ∈ u_ws RX7 TX7 7, w ∈ wsX2_lostBy := fun _ h => List.mem_cons_of_mem _ (List.mem_append_right _ (h))
  unfold f_X2_lostBy at h
  refine lv_aload_n hx hb dX2_lostBy_0 rfl (lv_at hl 0 rfl) ?_
  refine lv_aload_n hx hb dX2_lostBy_1 rfl (lv_at hl 0 rfl) ?_
  refine va_getN (ci := 2) (v := .int v_o0_lost) (C := RX7) (T := TX7) (N := 7) hx hb hts hinX7 hown hK.1 hP 0 rfl rfl 4 (by decide) (va_Nw.use rfl (hK.2.1 (.fieldLinkNest RX2 23 RX7 "lost" "I" RX9) (List.mem_of_getElem? (i := 3) rfl))) (fun _ h9 => h9) rfl dX2_lostBy_2 ?_
  refine lv_iload_n hx hb dX2_lostBy_5 rfl (lv_at hl 1 rfl) ?_
  refine lv_ior hx hb dX2_lostBy_6 ?_
  refine lv_iload_n hx hb dX2_lostBy_7 rfl (lv_at hl 2 rfl) ?_
  refine lv_ior hx hb dX2_lostBy_8 ?_
  refine lv_aload_n hx hb dX2_lostBy_9 rfl (lv_at hl 0 rfl) ?_
  refine va_getN (ci := 2) (v := .int v_o0_guarded) (C := RX7) (T := TX7) (N := 7) hx hb hts hinX7 hown hK.1 hP 0 rfl rfl 5 (by decide) (va_Nw.use rfl (hK.2.1 (.fieldLinkNest RX2 29 RX7 "guarded" "I" RX9) (List.mem_of_getElem? (i := 4) rfl))) (fun _ h9 => h9) rfl dX2_lostBy_10 ?_
  refine lv_aload_n hx hb dX2_lostBy_13 rfl (lv_at hl 0 rfl) ?_
  refine va_getN (ci := 2) (v := .int v_o0_day) (C := RX7) (T := TX7) (N := 7) hx hb hts hinX7 hown hK.1 hP 0 rfl rfl 6 (by decide) (va_Nw.use rfl (hK.2.1 (.fieldLinkNest RX2 32 RX7 "day" "I" RX9) (List.mem_of_getElem? (i := 5) rfl))) (fun _ h9 => h9) rfl dX2_lostBy_14 ?_
  refine lv_iload_n hx hb dX2_lostBy_17 rfl (lv_at hl 3 rfl) ?_
  obtain ⟨x_1, hc_1, h⟩ := bd_some h
  refine xk_V (rest := []) (As := [.int ((v_o0_lost ||| p1) ||| p2), .int v_o0_guarded, .int v_o0_day, .int p3]) (stk := [.int x_1]) (wn := (wX7 cA a_o0 a_o0_kinds a_o0_figures a_o0_causeBits v_o0_kinds v_o0_figures v_o0_causeBits v_o0_size v_o0_lost v_o0_guarded v_o0_day)) (v := (some (.int x_1))) (wr := []) gX2_lostBy_X7_behindDays rfl hdV_X7_behindDays rfl rfl (c_X7_behindDays l D cA sa sv a_o0 a_o0_kinds a_o0_figures a_o0_causeBits _ v_o0_kinds v_o0_figures v_o0_causeBits v_o0_size v_o0_lost v_o0_guarded v_o0_day ((v_o0_lost ||| p1) ||| p2) v_o0_guarded v_o0_day p3 F x_1 hc_1) (ci := 2) rfl (q0 := 0) rfl S hK hP hD hS hA [0, 1, 2, 3] [] [0, 1, 2, 3] rfl rfl rfl rfl rfl rfl rfl ⟨Nat.le_of_ble_eq_true rfl, Nat.le_of_ble_eq_true rfl⟩ ⟨Nat.le_refl 0, Nat.le_refl 0⟩ rfl hl.1 rfl (Nat.le_of_ble_eq_true rfl) rfl dX2_lostBy_18 (fun H locs hP hD hS => ?_)
  obtain ⟨x_2, hc_2, h⟩ := bd_some h
  refine xk_S (rest := []) (As := [.int x_1]) (stk := [.int x_2]) (wn := (wX7 cA a_o0 a_o0_kinds a_o0_figures a_o0_causeBits v_o0_kinds v_o0_figures v_o0_causeBits v_o0_size v_o0_lost v_o0_guarded v_o0_day)) (v := (some (.int x_2))) (wr := [(a_o0, .inr (2, [.ref a_o0_kinds, .ref a_o0_figures, .ref a_o0_causeBits, .int v_o0_size, .int v_o0_lost, .int v_o0_guarded, .int v_o0_day])), (a_o0_kinds, .inl (cA, 9, .inl v_o0_kinds)), (a_o0_figures, .inl (cA, 9, .inl v_o0_figures)), (a_o0_causeBits, .inl (cA, 9, .inl v_o0_causeBits))]) gX2_lostBy_J6_bitCount_0f7a4 rfl hdS_J6_bitCount_0f7a4 rfl rfl (c_J6_bitCount_0f7a4 l D cA sa sv _ x_1 x_2 hc_2) S hK hP hD hS hA [] [0, 1, 2, 3] [0, 1, 2, 3] rfl rfl rfl rfl rfl rfl rfl ⟨Nat.le_of_ble_eq_true rfl, Nat.le_of_ble_eq_true rfl⟩ ⟨Nat.le_refl 0, Nat.le_refl 0⟩ rfl hl.1 rfl (Nat.le_of_ble_eq_true rfl) rfl dX2_lostBy_21 (fun H locs hP hD hS => ?_)
  obtain rfl := Option.some.inj h
  exact xk_iret hx hb hr hlk hP hD hS (hQ _) dX2_lostBy_24
set_option maxHeartbeats 4000000 in
set_option maxRecDepth 100000 in
theorem c_X2_price (l : Launch) (D : va_G) (cA : ClassId) (sa sv : Nat → Nat) (sz : Nat) (p0 : Int32) (res : Int32) (h : f_X2_price  p0 = some res) : Met l yX2_price wsX2_price { frames := 0, cells := 0, slots := 0, locals := 0 } (xk_Pc D cA sa sv ([] : va_W) sz [.int p0]) (xk_Q D (va_A ([] : va_W) sz) (some (.int res)) ([] : va_W)) 0 0 (va_A ([] : va_W) sz) := by
  refine xk_met (fun res : Int32 => some (.int res)) (fun res : Int32 => ([] : va_W)) res (cc := cX2_price) (maxL := 1) (ret := (some .int)) (by decide) rfl (Nat.le_of_ble_eq_true rfl) ?_
  intro p e s m args below meth c A Q ls hQ hx hb hr hlk hml hown hts hK hP hD hS hA hl
  have S : CallFix p m c cX2_price 1 s args wsX2_price RX2 := ⟨hx, hb, hml, hown, hts⟩
  have hl : lv_has ls 1 [(0, .int p0)] := hl
  unfold f_X2_price at h
  refine lv_iload_n hx hb dX2_price_0 rfl (lv_at hl 0 rfl) ?_
  refine lv_if_ne (tgt := 8) hx hb dX2_price_1 (by decide) (fun c_1 => ?_) (fun c_1 => ?_)
  · have h := (if_neg c_1).symm.trans h
    refine lv_iconst (v := 2) hx hb dX2_price_8 (by decide) ?_
    obtain rfl := Option.some.inj h
    exact xk_iret hx hb hr hlk hP hD hS (hQ _) dX2_price_9
  · have h := (if_pos c_1).symm.trans h
    refine lv_iconst (v := 0) hx hb dX2_price_4 (by decide) ?_
    refine lv_goto (tgt := 9) hx hb dX2_price_5 (by decide) ?_
    obtain rfl := Option.some.inj h
    exact xk_iret hx hb hr hlk hP hD hS (hQ _) dX2_price_9
set_option maxHeartbeats 4000000 in
set_option maxRecDepth 100000 in
theorem c_X2_isSettled (l : Launch) (D : va_G) (cA : ClassId) (sa sv : Nat → Nat) (a_o0 a_o0_kinds a_o0_figures a_o0_causeBits : Nat) (sz : Nat) (v_o0_kinds : Nat → Int32) (v_o0_figures : Nat → Int32) (v_o0_causeBits : Nat → Int32) (v_o0_size : Int32) (v_o0_lost : Int32) (v_o0_guarded : Int32) (v_o0_day : Int32) (p1 : Int32) (p2 : Int32) (p3 : Int32) (p4 : Int32) (p5 : Int32) (F : Nat) (res : Int32) (h : f_X2_isSettled F v_o0_kinds v_o0_figures v_o0_causeBits v_o0_size v_o0_lost v_o0_guarded v_o0_day p1 p2 p3 p4 p5 = some res) : Met l yX2_isSettled wsX2_isSettled { frames := 4, cells := 0, slots := 0, locals := 103 } (xk_Pc D cA sa sv (wX7 cA a_o0 a_o0_kinds a_o0_figures a_o0_causeBits v_o0_kinds v_o0_figures v_o0_causeBits v_o0_size v_o0_lost v_o0_guarded v_o0_day) sz [.ref a_o0, .int p1, .int p2, .int p3, .int p4, .int p5]) (xk_Q D (va_A (wX7 cA a_o0 a_o0_kinds a_o0_figures a_o0_causeBits v_o0_kinds v_o0_figures v_o0_causeBits v_o0_size v_o0_lost v_o0_guarded v_o0_day) sz) (some (.int res)) (wX7 cA a_o0 a_o0_kinds a_o0_figures a_o0_causeBits v_o0_kinds v_o0_figures v_o0_causeBits v_o0_size v_o0_lost v_o0_guarded v_o0_day)) 0 0 (va_A (wX7 cA a_o0 a_o0_kinds a_o0_figures a_o0_causeBits v_o0_kinds v_o0_figures v_o0_causeBits v_o0_size v_o0_lost v_o0_guarded v_o0_day) sz) := by
  refine xk_met (fun res : Int32 => some (.int res)) (fun res : Int32 => (wX7 cA a_o0 a_o0_kinds a_o0_figures a_o0_causeBits v_o0_kinds v_o0_figures v_o0_causeBits v_o0_size v_o0_lost v_o0_guarded v_o0_day)) res (cc := cX2_isSettled) (maxL := 11) (ret := (some .boolean)) (by decide) rfl (Nat.le_of_ble_eq_true rfl) ?_
  intro p e s m args below meth c A Q ls hQ hx hb hr hlk hml hown hts hK hP hD hS hA hl
  have S : CallFix p m c cX2_isSettled 11 s args wsX2_isSettled RX2 := ⟨hx, hb, hml, hown, hts⟩
  have hl : lv_has ls 11 [(0, .ref a_o0), (1, .int p1), (2, .int p2), (3, .int p3), (4, .int p4), (5, .int p5)] := hl
  have J_83 : ∀ (s0 : Int32) (x9 : Int32) (res : Int32), f_X2_isSettled_83 F v_o0_kinds v_o0_figures v_o0_causeBits v_o0_size v_o0_lost v_o0_guarded v_o0_day p1 p2 p3 p4 p5 s0 x9 = some res → ∀ (H : Heap) (locs : List Loc) (ls : Array Slot), va_P D vwCl (wX7 cA a_o0 a_o0_kinds a_o0_figures a_o0_causeBits v_o0_kinds v_o0_figures v_o0_causeBits v_o0_size v_o0_lost v_o0_guarded v_o0_day) H → va_D A (wX7 cA a_o0 a_o0_kinds a_o0_figures a_o0_causeBits v_o0_kinds v_o0_figures v_o0_causeBits v_o0_size v_o0_lost v_o0_guarded v_o0_day) → va_S A s.heap H locs → lv_has ls 11 [(9, .int x9)] → W p l e { frames := 4, cells := 0, slots := 0, locals := 103 } s m args below meth c H locs 0 0 (Q res) (F0 m 83 ls [.int s0]) := by
    intro s0 x9 res h H locs ls hP hD hS hl
    unfold f_X2_isSettled_83 at h
    refine lv_istore (lv' := [(10, .int s0), (9, .int x9)]) hx hb dX2_isSettled_83 hl (by decide) rfl (fun ls hl => ?_)
    refine lv_iload hx hb dX2_isSettled_85 (lv_at hl 1 rfl) ?_
    refine lv_if_eq (tgt := 99) hx hb dX2_isSettled_87 (by decide) (fun c_10 => ?_) (fun c_10 => ?_)
    · have h := (if_pos c_10).symm.trans h
      refine lv_iconst (v := 0) hx hb dX2_isSettled_99 (by decide) ?_
      obtain rfl := Option.some.inj h
      exact xk_zret rfl hx hb hr hlk hP hD hS (hQ _) dX2_isSettled_100
    · have h := (if_neg c_10).symm.trans h
      refine lv_iload hx hb dX2_isSettled_90 (lv_at hl 0 rfl) ?_
      refine lv_if_eq (tgt := 99) hx hb dX2_isSettled_92 (by decide) (fun c_11 => ?_) (fun c_11 => ?_)
      · have h := (if_pos c_11).symm.trans h
        refine lv_iconst (v := 0) hx hb dX2_isSettled_99 (by decide) ?_
        obtain rfl := Option.some.inj h
        exact xk_zret rfl hx hb hr hlk hP hD hS (hQ _) dX2_isSettled_100
      · have h := (if_neg c_11).symm.trans h
        refine lv_iconst (v := 1) hx hb dX2_isSettled_95 (by decide) ?_
        refine lv_goto (tgt := 100) hx hb dX2_isSettled_96 (by decide) ?_
        obtain rfl := Option.some.inj h
        exact xk_zret rfl hx hb hr hlk hP hD hS (hQ _) dX2_isSettled_100
  have J_51 : ∀ (s0 : Int32) (x7 : Int32) (x8 : Int32) (res : Int32), f_X2_isSettled_51 F v_o0_kinds v_o0_figures v_o0_causeBits v_o0_size v_o0_lost v_o0_guarded v_o0_day p1 p2 p3 p4 p5 s0 x7 x8 = some res → ∀ (H : Heap) (locs : List Loc) (ls : Array Slot), va_P D vwCl (wX7 cA a_o0 a_o0_kinds a_o0_figures a_o0_causeBits v_o0_kinds v_o0_figures v_o0_causeBits v_o0_size v_o0_lost v_o0_guarded v_o0_day) H → va_D A (wX7 cA a_o0 a_o0_kinds a_o0_figures a_o0_causeBits v_o0_kinds v_o0_figures v_o0_causeBits v_o0_size v_o0_lost v_o0_guarded v_o0_day) → va_S A s.heap H locs → lv_has ls 11 [(0, .ref a_o0), (1, .int p1), (2, .int p2), (5, .int p5), (7, .int x7), (8, .int x8)] → W p l e { frames := 4, cells := 0, slots := 0, locals := 103 } s m args below meth c H locs 0 0 (Q res) (F0 m 51 ls [.int s0]) := by
    intro s0 x7 x8 res h H locs ls hP hD hS hl
    unfold f_X2_isSettled_51 at h
    refine lv_istore (lv' := [(9, .int s0), (0, .ref a_o0), (1, .int p1), (2, .int p2), (5, .int p5), (7, .int x7), (8, .int x8)]) hx hb dX2_isSettled_51 hl (by decide) rfl (fun ls hl => ?_)
    refine lv_iload hx hb dX2_isSettled_53 (lv_at hl 6 rfl) ?_
    refine lv_iload_n hx hb dX2_isSettled_55 rfl (lv_at hl 3 rfl) ?_
    obtain ⟨x_6, hc_6, h⟩ := bd_some h
    refine xk_S (rest := [.int x8]) (As := [.int p2]) (stk := [.int x_6, .int x8]) (wn := (wX7 cA a_o0 a_o0_kinds a_o0_figures a_o0_causeBits v_o0_kinds v_o0_figures v_o0_causeBits v_o0_size v_o0_lost v_o0_guarded v_o0_day)) (v := (some (.int x_6))) (wr := [(a_o0, .inr (2, [.ref a_o0_kinds, .ref a_o0_figures, .ref a_o0_causeBits, .int v_o0_size, .int v_o0_lost, .int v_o0_guarded, .int v_o0_day])), (a_o0_kinds, .inl (cA, 9, .inl v_o0_kinds)), (a_o0_figures, .inl (cA, 9, .inl v_o0_figures)), (a_o0_causeBits, .inl (cA, 9, .inl v_o0_causeBits))]) gX2_isSettled_X2_price rfl hdS_X2_price rfl rfl (c_X2_price l D cA sa sv _ p2 x_6 hc_6) S hK hP hD hS hA [] [0, 1, 2, 3] [0, 1, 2, 3] rfl rfl rfl rfl rfl rfl rfl ⟨Nat.le_of_ble_eq_true rfl, Nat.le_of_ble_eq_true rfl⟩ ⟨Nat.le_refl 0, Nat.le_refl 0⟩ rfl hl.1 rfl (Nat.le_of_ble_eq_true rfl) rfl dX2_isSettled_56 (fun H locs hP hD hS => ?_)
    refine lv_iadd hx hb dX2_isSettled_59 ?_
    refine lv_aload_n hx hb dX2_isSettled_60 rfl (lv_at hl 1 rfl) ?_
    refine lv_iload_n hx hb dX2_isSettled_61 rfl (lv_at hl 2 rfl) ?_
    refine lv_iload hx hb dX2_isSettled_62 (lv_at hl 5 rfl) ?_
    refine lv_iload hx hb dX2_isSettled_64 (lv_at hl 4 rfl) ?_
    obtain ⟨x_7, hc_7, h⟩ := bd_some h
    refine xk_S (rest := [.int (x8 + x_6)]) (As := [.ref a_o0, .int p1, .int x7, .int p5]) (stk := [.int x_7, .int (x8 + x_6)]) (wn := (wX7 cA a_o0 a_o0_kinds a_o0_figures a_o0_causeBits v_o0_kinds v_o0_figures v_o0_causeBits v_o0_size v_o0_lost v_o0_guarded v_o0_day)) (v := (some (.int x_7))) (wr := []) gX2_isSettled_X2_lostBy rfl hdS_X2_lostBy rfl rfl (c_X2_lostBy l D cA sa sv a_o0 a_o0_kinds a_o0_figures a_o0_causeBits _ v_o0_kinds v_o0_figures v_o0_causeBits v_o0_size v_o0_lost v_o0_guarded v_o0_day p1 x7 p5 F x_7 hc_7) S hK hP hD hS hA [0, 1, 2, 3] [] [0, 1, 2, 3] rfl rfl rfl rfl rfl rfl rfl ⟨Nat.le_of_ble_eq_true rfl, Nat.le_of_ble_eq_true rfl⟩ ⟨Nat.le_refl 0, Nat.le_refl 0⟩ rfl hl.1 rfl (Nat.le_of_ble_eq_true rfl) rfl dX2_isSettled_66 (fun H locs hP hD hS => ?_)
    refine lv_iload hx hb dX2_isSettled_69 (lv_at hl 5 rfl) ?_
    obtain ⟨x_8, hc_8, h⟩ := bd_some h
    refine xk_S (rest := [.int x_7, .int (x8 + x_6)]) (As := [.int x7]) (stk := [.int x_8, .int x_7, .int (x8 + x_6)]) (wn := (wX7 cA a_o0 a_o0_kinds a_o0_figures a_o0_causeBits v_o0_kinds v_o0_figures v_o0_causeBits v_o0_size v_o0_lost v_o0_guarded v_o0_day)) (v := (some (.int x_8))) (wr := [(a_o0, .inr (2, [.ref a_o0_kinds, .ref a_o0_figures, .ref a_o0_causeBits, .int v_o0_size, .int v_o0_lost, .int v_o0_guarded, .int v_o0_day])), (a_o0_kinds, .inl (cA, 9, .inl v_o0_kinds)), (a_o0_figures, .inl (cA, 9, .inl v_o0_figures)), (a_o0_causeBits, .inl (cA, 9, .inl v_o0_causeBits))]) gX2_isSettled_X2_price rfl hdS_X2_price rfl rfl (c_X2_price l D cA sa sv _ x7 x_8 hc_8) S hK hP hD hS hA [] [0, 1, 2, 3] [0, 1, 2, 3] rfl rfl rfl rfl rfl rfl rfl ⟨Nat.le_of_ble_eq_true rfl, Nat.le_of_ble_eq_true rfl⟩ ⟨Nat.le_refl 0, Nat.le_refl 0⟩ rfl hl.1 rfl (Nat.le_of_ble_eq_true rfl) rfl dX2_isSettled_71 (fun H locs hP hD hS => ?_)
    refine lv_iadd hx hb dX2_isSettled_74 ?_
    refine lv_icmp_gt (tgt := 82) hx hb dX2_isSettled_75 (by decide) (fun c_9 => ?_) (fun c_9 => ?_)
    · have h := (if_pos c_9).symm.trans h
      refine lv_iconst (v := 0) hx hb dX2_isSettled_82 (by decide) ?_
      exact J_83 0 s0 _ h _ _ _ hP hD hS (lv_sub hl [0] rfl)
    · have h := (if_neg c_9).symm.trans h
      refine lv_iconst (v := 1) hx hb dX2_isSettled_78 (by decide) ?_
      refine lv_goto (tgt := 83) hx hb dX2_isSettled_79 (by decide) ?_
      exact J_83 1 s0 _ h _ _ _ hP hD hS (lv_sub hl [0] rfl)
  unfold f_X2_isSettled at h
  refine lv_iload_n hx hb dX2_isSettled_0 rfl (lv_at hl 1 rfl) ?_
  refine lv_iload_n hx hb dX2_isSettled_1 rfl (lv_at hl 3 rfl) ?_
  refine lv_ixor hx hb dX2_isSettled_2 ?_
  refine lv_istore (lv' := [(6, .int (p1 ^^^ p3)), (0, .ref a_o0), (1, .int p1), (2, .int p2), (3, .int p3), (4, .int p4), (5, .int p5)]) hx hb dX2_isSettled_3 hl (by decide) rfl (fun ls hl => ?_)
  refine lv_iload_n hx hb dX2_isSettled_5 rfl (lv_at hl 3 rfl) ?_
  refine lv_iload hx hb dX2_isSettled_6 (lv_at hl 5 rfl) ?_
  refine lv_ixor hx hb dX2_isSettled_8 ?_
  refine lv_istore (lv' := [(7, .int (p2 ^^^ p4)), (6, .int (p1 ^^^ p3)), (0, .ref a_o0), (1, .int p1), (2, .int p2), (3, .int p3), (4, .int p4), (5, .int p5)]) hx hb dX2_isSettled_9 hl (by decide) rfl (fun ls hl => ?_)
  refine lv_aload_n hx hb dX2_isSettled_11 rfl (lv_at hl 2 rfl) ?_
  refine lv_iload_n hx hb dX2_isSettled_12 rfl (lv_at hl 3 rfl) ?_
  refine lv_iload_n hx hb dX2_isSettled_13 rfl (lv_at hl 4 rfl) ?_
  refine lv_iload hx hb dX2_isSettled_14 (lv_at hl 7 rfl) ?_
  obtain ⟨x_1, hc_1, h⟩ := bd_some h
  refine xk_S (rest := []) (As := [.ref a_o0, .int p1, .int p2, .int p5]) (stk := [.int x_1]) (wn := (wX7 cA a_o0 a_o0_kinds a_o0_figures a_o0_causeBits v_o0_kinds v_o0_figures v_o0_causeBits v_o0_size v_o0_lost v_o0_guarded v_o0_day)) (v := (some (.int x_1))) (wr := []) gX2_isSettled_X2_lostBy rfl hdS_X2_lostBy rfl rfl (c_X2_lostBy l D cA sa sv a_o0 a_o0_kinds a_o0_figures a_o0_causeBits _ v_o0_kinds v_o0_figures v_o0_causeBits v_o0_size v_o0_lost v_o0_guarded v_o0_day p1 p2 p5 F x_1 hc_1) S hK hP hD hS hA [0, 1, 2, 3] [] [0, 1, 2, 3] rfl rfl rfl rfl rfl rfl rfl ⟨Nat.le_of_ble_eq_true rfl, Nat.le_of_ble_eq_true rfl⟩ ⟨Nat.le_refl 0, Nat.le_refl 0⟩ rfl hl.1 rfl (Nat.le_of_ble_eq_true rfl) rfl dX2_isSettled_16 (fun H locs hP hD hS => ?_)
  refine lv_istore (lv' := [(8, .int x_1), (7, .int (p2 ^^^ p4)), (6, .int (p1 ^^^ p3)), (0, .ref a_o0), (1, .int p1), (2, .int p2), (3, .int p3), (4, .int p4), (5, .int p5)]) hx hb dX2_isSettled_19 hl (by decide) rfl (fun ls hl => ?_)
  refine lv_iload hx hb dX2_isSettled_21 (lv_at hl 0 rfl) ?_
  refine lv_iload_n hx hb dX2_isSettled_23 rfl (lv_at hl 4 rfl) ?_
  obtain ⟨x_2, hc_2, h⟩ := bd_some h
  refine xk_S (rest := [.int x_1]) (As := [.int p1]) (stk := [.int x_2, .int x_1]) (wn := (wX7 cA a_o0 a_o0_kinds a_o0_figures a_o0_causeBits v_o0_kinds v_o0_figures v_o0_causeBits v_o0_size v_o0_lost v_o0_guarded v_o0_day)) (v := (some (.int x_2))) (wr := [(a_o0, .inr (2, [.ref a_o0_kinds, .ref a_o0_figures, .ref a_o0_causeBits, .int v_o0_size, .int v_o0_lost, .int v_o0_guarded, .int v_o0_day])), (a_o0_kinds, .inl (cA, 9, .inl v_o0_kinds)), (a_o0_figures, .inl (cA, 9, .inl v_o0_figures)), (a_o0_causeBits, .inl (cA, 9, .inl v_o0_causeBits))]) gX2_isSettled_X2_price rfl hdS_X2_price rfl rfl (c_X2_price l D cA sa sv _ p1 x_2 hc_2) S hK hP hD hS hA [] [0, 1, 2, 3] [0, 1, 2, 3] rfl rfl rfl rfl rfl rfl rfl ⟨Nat.le_of_ble_eq_true rfl, Nat.le_of_ble_eq_true rfl⟩ ⟨Nat.le_refl 0, Nat.le_refl 0⟩ rfl hl.1 rfl (Nat.le_of_ble_eq_true rfl) rfl dX2_isSettled_24 (fun H locs hP hD hS => ?_)
  refine lv_isub hx hb dX2_isSettled_27 ?_
  refine lv_aload_n hx hb dX2_isSettled_28 rfl (lv_at hl 3 rfl) ?_
  refine lv_iload hx hb dX2_isSettled_29 (lv_at hl 2 rfl) ?_
  refine lv_iload_n hx hb dX2_isSettled_31 rfl (lv_at hl 5 rfl) ?_
  refine lv_iload hx hb dX2_isSettled_32 (lv_at hl 8 rfl) ?_
  obtain ⟨x_3, hc_3, h⟩ := bd_some h
  refine xk_S (rest := [.int (x_1 - x_2)]) (As := [.ref a_o0, .int (p1 ^^^ p3), .int p2, .int p5]) (stk := [.int x_3, .int (x_1 - x_2)]) (wn := (wX7 cA a_o0 a_o0_kinds a_o0_figures a_o0_causeBits v_o0_kinds v_o0_figures v_o0_causeBits v_o0_size v_o0_lost v_o0_guarded v_o0_day)) (v := (some (.int x_3))) (wr := []) gX2_isSettled_X2_lostBy rfl hdS_X2_lostBy rfl rfl (c_X2_lostBy l D cA sa sv a_o0 a_o0_kinds a_o0_figures a_o0_causeBits _ v_o0_kinds v_o0_figures v_o0_causeBits v_o0_size v_o0_lost v_o0_guarded v_o0_day (p1 ^^^ p3) p2 p5 F x_3 hc_3) S hK hP hD hS hA [0, 1, 2, 3] [] [0, 1, 2, 3] rfl rfl rfl rfl rfl rfl rfl ⟨Nat.le_of_ble_eq_true rfl, Nat.le_of_ble_eq_true rfl⟩ ⟨Nat.le_refl 0, Nat.le_refl 0⟩ rfl hl.1 rfl (Nat.le_of_ble_eq_true rfl) rfl dX2_isSettled_34 (fun H locs hP hD hS => ?_)
  refine lv_iload hx hb dX2_isSettled_37 (lv_at hl 2 rfl) ?_
  obtain ⟨x_4, hc_4, h⟩ := bd_some h
  refine xk_S (rest := [.int x_3, .int (x_1 - x_2)]) (As := [.int (p1 ^^^ p3)]) (stk := [.int x_4, .int x_3, .int (x_1 - x_2)]) (wn := (wX7 cA a_o0 a_o0_kinds a_o0_figures a_o0_causeBits v_o0_kinds v_o0_figures v_o0_causeBits v_o0_size v_o0_lost v_o0_guarded v_o0_day)) (v := (some (.int x_4))) (wr := [(a_o0, .inr (2, [.ref a_o0_kinds, .ref a_o0_figures, .ref a_o0_causeBits, .int v_o0_size, .int v_o0_lost, .int v_o0_guarded, .int v_o0_day])), (a_o0_kinds, .inl (cA, 9, .inl v_o0_kinds)), (a_o0_figures, .inl (cA, 9, .inl v_o0_figures)), (a_o0_causeBits, .inl (cA, 9, .inl v_o0_causeBits))]) gX2_isSettled_X2_price rfl hdS_X2_price rfl rfl (c_X2_price l D cA sa sv _ (p1 ^^^ p3) x_4 hc_4) S hK hP hD hS hA [] [0, 1, 2, 3] [0, 1, 2, 3] rfl rfl rfl rfl rfl rfl rfl ⟨Nat.le_of_ble_eq_true rfl, Nat.le_of_ble_eq_true rfl⟩ ⟨Nat.le_refl 0, Nat.le_refl 0⟩ rfl hl.1 rfl (Nat.le_of_ble_eq_true rfl) rfl dX2_isSettled_39 (fun H locs hP hD hS => ?_)
  refine lv_isub hx hb dX2_isSettled_42 ?_
  refine lv_icmp_lt (tgt := 50) hx hb dX2_isSettled_43 (by decide) (fun c_5 => ?_) (fun c_5 => ?_)
  · have h := (if_pos c_5).symm.trans h
    refine lv_iconst (v := 0) hx hb dX2_isSettled_50 (by decide) ?_
    exact J_51 0 (p2 ^^^ p4) x_1 _ h _ _ _ hP hD hS (lv_sub hl [3, 4, 5, 8, 1, 0] rfl)
  · have h := (if_neg c_5).symm.trans h
    refine lv_iconst (v := 1) hx hb dX2_isSettled_46 (by decide) ?_
    refine lv_goto (tgt := 51) hx hb dX2_isSettled_47 (by decide) ?_
    exact J_51 1 (p2 ^^^ p4) x_1 _ h _ _ _ hP hD hS (lv_sub hl [3, 4, 5, 8, 1, 0] rfl)
set_option maxHeartbeats 4000000 in
set_option maxRecDepth 100000 in
theorem c_X2_firstSettled (l : Launch) (D : va_G) (cA : ClassId) (sa sv : Nat → Nat) (a_o0 a_o0_kinds a_o0_figures a_o0_causeBits : Nat) (sz : Nat) (v_o0_kinds : Nat → Int32) (v_o0_figures : Nat → Int32) (v_o0_causeBits : Nat → Int32) (v_o0_size : Int32) (v_o0_lost : Int32) (v_o0_guarded : Int32) (v_o0_day : Int32) (p1 : Int32) (p2 : Int32) (p3 : Int32) (F : Nat) (res : Int32) (h : f_X2_firstSettled F v_o0_kinds v_o0_figures v_o0_causeBits v_o0_size v_o0_lost v_o0_guarded v_o0_day p1 p2 p3 = some res) : Met l yX2_firstSettled wsX2_firstSettled { frames := 5, cells := 0, slots := 0, locals := 133 } (xk_Pc D cA sa sv (wX7 cA a_o0 a_o0_kinds a_o0_figures a_o0_causeBits v_o0_kinds v_o0_figures v_o0_causeBits v_o0_size v_o0_lost v_o0_guarded v_o0_day) sz [.ref a_o0, .int p1, .int p2, .int p3]) (xk_Q D (va_A (wX7 cA a_o0 a_o0_kinds a_o0_figures a_o0_causeBits v_o0_kinds v_o0_figures v_o0_causeBits v_o0_size v_o0_lost v_o0_guarded v_o0_day) sz) (some (.int res)) (wX7 cA a_o0 a_o0_kinds a_o0_figures a_o0_causeBits v_o0_kinds v_o0_figures v_o0_causeBits v_o0_size v_o0_lost v_o0_guarded v_o0_day)) 0 0 (va_A (wX7 cA a_o0 a_o0_kinds a_o0_figures a_o0_causeBits v_o0_kinds v_o0_figures v_o0_causeBits v_o0_size v_o0_lost v_o0_guarded v_o0_day) sz) := by
  refine xk_met (fun res : Int32 => some (.int res)) (fun res : Int32 => (wX7 cA a_o0 a_o0_kinds a_o0_figures a_o0_causeBits v_o0_kinds v_o0_figures v_o0_causeBits v_o0_size v_o0_lost v_o0_guarded v_o0_day)) res (cc := cX2_firstSettled) (maxL := 6) (ret := (some .int)) (by decide) rfl (Nat.le_of_ble_eq_true rfl) ?_
  intro p e s m args below meth c A Q ls hQ hx hb hr hlk hml hown hts hK hP hD hS hA hl
  have S : CallFix p m c cX2_firstSettled 6 s args wsX2_firstSettled RX2 := ⟨hx, hb, hml, hown, hts⟩
  have hl : lv_has ls 6 [(0, .ref a_o0), (1, .int p1), (2, .int p2), (3, .int p3)] := hl
  have J_12 : ∀ (k_3r : Int32 → Option (Int32)), (∀ (x4 : Int32) (res : Int32), k_3r x4 = some res → ∀ (H : Heap) (locs : List Loc) (ls : Array Slot), va_P D vwCl (wX7 cA a_o0 a_o0_kinds a_o0_figures a_o0_causeBits v_o0_kinds v_o0_figures v_o0_causeBits v_o0_size v_o0_lost v_o0_guarded v_o0_day) H → va_D A (wX7 cA a_o0 a_o0_kinds a_o0_figures a_o0_causeBits v_o0_kinds v_o0_figures v_o0_causeBits v_o0_size v_o0_lost v_o0_guarded v_o0_day) → va_S A s.heap H locs → lv_has ls 6 [(0, .ref a_o0), (1, .int p1), (2, .int p2), (3, .int p3), (4, .int x4)] → W p l e { frames := 5, cells := 0, slots := 0, locals := 133 } s m args below meth c H locs 0 0 (Q res) (F0 m 3 ls [])) → ∀ (n : Nat) (x4 : Int32) (x5 : Int32) (res : Int32), f_X2_firstSettled_12 F v_o0_kinds v_o0_figures v_o0_causeBits v_o0_size v_o0_lost v_o0_guarded v_o0_day p1 p2 p3 k_3r n x4 x5 = some res → ∀ (H : Heap) (locs : List Loc) (ls : Array Slot), va_P D vwCl (wX7 cA a_o0 a_o0_kinds a_o0_figures a_o0_causeBits v_o0_kinds v_o0_figures v_o0_causeBits v_o0_size v_o0_lost v_o0_guarded v_o0_day) H → va_D A (wX7 cA a_o0 a_o0_kinds a_o0_figures a_o0_causeBits v_o0_kinds v_o0_figures v_o0_causeBits v_o0_size v_o0_lost v_o0_guarded v_o0_day) → va_S A s.heap H locs → lv_has ls 6 [(0, .ref a_o0), (1, .int p1), (2, .int p2), (3, .int p3), (4, .int x4), (5, .int x5)] → W p l e { frames := 5, cells := 0, slots := 0, locals := 133 } s m args below meth c H locs 0 0 (Q res) (F0 m 12 ls []) := by
    intro k_3r hk_3r n
    induction n with
    | zero => intro x4 x5 res h; exact nomatch (show (none : Option (Int32)) = some res from h)
    | succ n ih =>
      intro x4 x5 res h H locs ls hP hD hS hl
      rw [f_X2_firstSettled_12] at h
      refine lv_iload hx hb dX2_firstSettled_12 (lv_at hl 5 rfl) ?_
      refine lv_iconst (v := 1) hx hb dX2_firstSettled_14 (by decide) ?_
      refine lv_icmp_gt (tgt := 55) hx hb dX2_firstSettled_15 (by decide) (fun c_2 => ?_) (fun c_2 => ?_)
      · have h := (if_pos c_2).symm.trans h
        refine lv_iinc (v := (x4 + 1)) (lv' := [(4, .int (x4 + 1)), (0, .ref a_o0), (1, .int p1), (2, .int p2), (3, .int p3), (5, .int x5)]) hx hb dX2_firstSettled_55 hl (k := 4) rfl rfl (by decide) rfl (fun ls hl => ?_)
        refine lv_goto (tgt := 3) hx hb dX2_firstSettled_58 (by decide) ?_
        exact hk_3r (x4 + 1) _ h _ _ _ hP hD hS (lv_sub hl [1, 2, 3, 4, 0] rfl)
      · have h := (if_neg c_2).symm.trans h
        refine lv_aload_n hx hb dX2_firstSettled_18 rfl (lv_at hl 0 rfl) ?_
        refine lv_iload hx hb dX2_firstSettled_19 (lv_at hl 4 rfl) ?_
        refine lv_iload_n hx hb dX2_firstSettled_21 rfl (lv_at hl 1 rfl) ?_
        refine lv_ishl hx hb dX2_firstSettled_22 ?_
        refine lv_iload hx hb dX2_firstSettled_23 (lv_at hl 5 rfl) ?_
        refine lv_iload_n hx hb dX2_firstSettled_25 rfl (lv_at hl 2 rfl) ?_
        refine lv_ishl hx hb dX2_firstSettled_26 ?_
        refine lv_iconst (v := 1) hx hb dX2_firstSettled_27 (by decide) ?_
        refine lv_iload_n hx hb dX2_firstSettled_28 rfl (lv_at hl 1 rfl) ?_
        refine lv_ishl hx hb dX2_firstSettled_29 ?_
        refine lv_iconst (v := 1) hx hb dX2_firstSettled_30 (by decide) ?_
        refine lv_iload_n hx hb dX2_firstSettled_31 rfl (lv_at hl 2 rfl) ?_
        refine lv_ishl hx hb dX2_firstSettled_32 ?_
        refine lv_iload_n hx hb dX2_firstSettled_33 rfl (lv_at hl 3 rfl) ?_
        obtain ⟨x_3, hc_3, h⟩ := bd_some h
        refine xk_S (rest := []) (As := [.ref a_o0, .int (x4 <<< (p1 &&& 31)), .int (x5 <<< (p2 &&& 31)), .int (1 <<< (p1 &&& 31)), .int (1 <<< (p2 &&& 31)), .int p3]) (stk := [.int x_3]) (wn := (wX7 cA a_o0 a_o0_kinds a_o0_figures a_o0_causeBits v_o0_kinds v_o0_figures v_o0_causeBits v_o0_size v_o0_lost v_o0_guarded v_o0_day)) (v := (some (.int x_3))) (wr := []) gX2_firstSettled_X2_isSettled rfl hdS_X2_isSettled rfl rfl (c_X2_isSettled l D cA sa sv a_o0 a_o0_kinds a_o0_figures a_o0_causeBits _ v_o0_kinds v_o0_figures v_o0_causeBits v_o0_size v_o0_lost v_o0_guarded v_o0_day (x4 <<< (p1 &&& 31)) (x5 <<< (p2 &&& 31)) (1 <<< (p1 &&& 31)) (1 <<< (p2 &&& 31)) p3 F x_3 hc_3) S hK hP hD hS hA [0, 1, 2, 3] [] [0, 1, 2, 3] rfl rfl rfl rfl rfl rfl rfl ⟨Nat.le_of_ble_eq_true rfl, Nat.le_of_ble_eq_true rfl⟩ ⟨Nat.le_refl 0, Nat.le_refl 0⟩ rfl hl.1 rfl (Nat.le_of_ble_eq_true rfl) rfl dX2_firstSettled_34 (fun H locs hP hD hS => ?_)
        refine lv_if_eq (tgt := 49) hx hb dX2_firstSettled_37 (by decide) (fun c_4 => ?_) (fun c_4 => ?_)
        · have h := (if_pos c_4).symm.trans h
          refine lv_iinc (v := (x5 + 1)) (lv' := [(5, .int (x5 + 1)), (0, .ref a_o0), (1, .int p1), (2, .int p2), (3, .int p3), (4, .int x4)]) hx hb dX2_firstSettled_49 hl (k := 5) rfl rfl (by decide) rfl (fun ls hl => ?_)
          refine lv_goto (tgt := 12) hx hb dX2_firstSettled_52 (by decide) ?_
          exact ih x4 (x5 + 1) _ h _ _ _ hP hD hS (lv_sub hl [1, 2, 3, 4, 5, 0] rfl)
        · have h := (if_neg c_4).symm.trans h
          refine lv_bipush (v := 10) hx hb dX2_firstSettled_40 (by decide) ?_
          refine lv_iload hx hb dX2_firstSettled_42 (lv_at hl 4 rfl) ?_
          refine lv_imul hx hb dX2_firstSettled_44 ?_
          refine lv_iload hx hb dX2_firstSettled_45 (lv_at hl 5 rfl) ?_
          refine lv_iadd hx hb dX2_firstSettled_47 ?_
          obtain rfl := Option.some.inj h
          exact xk_iret hx hb hr hlk hP hD hS (hQ _) dX2_firstSettled_48
  have J_3 : ∀ (n : Nat) (x4 : Int32) (res : Int32), f_X2_firstSettled_3 F v_o0_kinds v_o0_figures v_o0_causeBits v_o0_size v_o0_lost v_o0_guarded v_o0_day p1 p2 p3 n x4 = some res → ∀ (H : Heap) (locs : List Loc) (ls : Array Slot), va_P D vwCl (wX7 cA a_o0 a_o0_kinds a_o0_figures a_o0_causeBits v_o0_kinds v_o0_figures v_o0_causeBits v_o0_size v_o0_lost v_o0_guarded v_o0_day) H → va_D A (wX7 cA a_o0 a_o0_kinds a_o0_figures a_o0_causeBits v_o0_kinds v_o0_figures v_o0_causeBits v_o0_size v_o0_lost v_o0_guarded v_o0_day) → va_S A s.heap H locs → lv_has ls 6 [(0, .ref a_o0), (1, .int p1), (2, .int p2), (3, .int p3), (4, .int x4)] → W p l e { frames := 5, cells := 0, slots := 0, locals := 133 } s m args below meth c H locs 0 0 (Q res) (F0 m 3 ls []) := by
    intro n
    induction n with
    | zero => intro x4 res h; exact nomatch (show (none : Option (Int32)) = some res from h)
    | succ n ih =>
      intro x4 res h H locs ls hP hD hS hl
      rw [f_X2_firstSettled_3] at h
      refine lv_iload hx hb dX2_firstSettled_3 (lv_at hl 4 rfl) ?_
      refine lv_iconst (v := 1) hx hb dX2_firstSettled_5 (by decide) ?_
      refine lv_icmp_gt (tgt := 61) hx hb dX2_firstSettled_6 (by decide) (fun c_1 => ?_) (fun c_1 => ?_)
      · have h := (if_pos c_1).symm.trans h
        refine lv_bipush (v := (-9)) hx hb dX2_firstSettled_61 (by decide) ?_
        obtain rfl := Option.some.inj h
        exact xk_iret hx hb hr hlk hP hD hS (hQ _) dX2_firstSettled_63
      · have h := (if_neg c_1).symm.trans h
        refine lv_iconst (v := 0) hx hb dX2_firstSettled_9 (by decide) ?_
        refine lv_istore (lv' := [(5, .int 0), (0, .ref a_o0), (1, .int p1), (2, .int p2), (3, .int p3), (4, .int x4)]) hx hb dX2_firstSettled_10 hl (by decide) rfl (fun ls hl => ?_)
        exact J_12 (f_X2_firstSettled_3 F v_o0_kinds v_o0_figures v_o0_causeBits v_o0_size v_o0_lost v_o0_guarded v_o0_day p1 p2 p3 n) ih F x4 0 _ h _ _ _ hP hD hS (lv_sub hl [1, 2, 3, 4, 5, 0] rfl)
  unfold f_X2_firstSettled at h
  refine lv_iconst (v := 0) hx hb dX2_firstSettled_0 (by decide) ?_
  refine lv_istore (lv' := [(4, .int 0), (0, .ref a_o0), (1, .int p1), (2, .int p2), (3, .int p3)]) hx hb dX2_firstSettled_1 hl (by decide) rfl (fun ls hl => ?_)
  exact J_3 F 0 _ h _ _ _ hP hD hS (lv_sub hl [1, 2, 3, 4, 0] rfl)
set_option maxHeartbeats 4000000 in
set_option maxRecDepth 100000 in
theorem c_X3_drawBelow (l : Launch) (D : va_G) (cA : ClassId) (sa sv : Nat → Nat) (a_t : Nat) (sz : Nat) (v_t_z : Int32) (p1 : Int32) (res : Int32 × Int32) (h : f_X3_drawBelow v_t_z p1 = some res) : Met l yX3_drawBelow wsX3_drawBelow { frames := 0, cells := 0, slots := 0, locals := 0 } (xk_Pc D cA sa sv (wX3 cA a_t v_t_z) sz [.ref a_t, .int p1]) (xk_Q D (va_A (wX3 cA a_t v_t_z) sz) (some (.int res.1)) (wX3 cA a_t res.2)) 0 0 (va_A (wX3 cA a_t v_t_z) sz) := by
  refine xk_met (fun res : Int32 × Int32 => some (.int res.1)) (fun res : Int32 × Int32 => (wX3 cA a_t res.2)) res (cc := cX3_drawBelow) (maxL := 2) (ret := (some .int)) (by decide) rfl (Nat.le_of_ble_eq_true rfl) ?_
  intro p e s m args below meth c A Q ls hQ hx hb hr hlk hml hown hts hK hP hD hS hA hl
  have S : CallFix p m c cX3_drawBelow 2 s args wsX3_drawBelow RX3 := ⟨hx, hb, hml, hown, hts⟩
  have hl : lv_has ls 2 [(0, .ref a_t), (1, .int p1)] := hl
  have hinX3 : ∀ w ∈ u_ws RX3 TX3 1, w ∈ wsX3_drawBelow := fun _ h => List.mem_cons_of_mem _ (List.mem_append_right _ (h))
  have k_0 := hts (.fieldLink RX3 7 "NailsWantTheKingdom$Lot" "z" "I") (List.mem_of_getElem? (i := 1) (by decide +kernel))
  have k_1 := hts (.constant RX3 44 (1664525)) (List.mem_of_getElem? (i := 2) (by decide +kernel))
  have k_2 := hts (.constant RX3 45 (1013904223)) (List.mem_of_getElem? (i := 3) (by decide +kernel))
  have k_3 := hts (.constant RX3 46 (2147483647)) (List.mem_of_getElem? (i := 4) (by decide +kernel))
  unfold f_X3_drawBelow at h
  refine lv_aload_n hx hb dX3_drawBelow_0 rfl (lv_at hl 0 rfl) ?_
  refine lv_aload_n hx hb dX3_drawBelow_1 rfl (lv_at hl 0 rfl) ?_
  refine va_get (ci := 0) (v := .int v_t_z) (C := RX3) (T := TX3) (N := 1) hx hb hts hinX3 hown hK.1 hP 0 rfl rfl 0 (by decide) k_0 (fun _ h9 => h9) rfl dX3_drawBelow_2 ?_
  refine lv_ldc (v := 1664525) hx hb hown k_1 dX3_drawBelow_5 ?_
  refine lv_imul hx hb dX3_drawBelow_7 ?_
  refine lv_ldc (v := 1013904223) hx hb hown k_2 dX3_drawBelow_8 ?_
  refine lv_iadd hx hb dX3_drawBelow_10 ?_
  refine va_put (ci := 0) (v := .int ((v_t_z * 1664525) + 1013904223)) (ty := tyX3 0) (C := RX3) (T := TX3) (N := 1) hx hb hts hinX3 tyX3 tyX3_ok nmX3 hown hK.1 hP hD hS 0 rfl rfl 0 (by decide) k_0 (fun _ h9 => h9) rfl (tyX3_ok 0 (by decide)) rfl rfl (Nat.le_of_ble_eq_true rfl) dX3_drawBelow_11 (fun H locs hP hD hS => ?_)
  have hP : va_P D vwCl (wX3 cA a_t ((v_t_z * 1664525) + 1013904223)) H := hP
  have hD : va_D A (wX3 cA a_t ((v_t_z * 1664525) + 1013904223)) := hD
  refine lv_iload_n hx hb dX3_drawBelow_14 rfl (lv_at hl 1 rfl) ?_
  refine lv_if_le (tgt := 34) hx hb dX3_drawBelow_15 (by decide) (fun c_1 => ?_) (fun c_1 => ?_)
  · have h := (if_pos c_1).symm.trans h
    refine lv_iconst (v := 0) hx hb dX3_drawBelow_34 (by decide) ?_
    obtain rfl := Option.some.inj h
    exact xk_iret hx hb hr hlk hP hD hS (hQ _) dX3_drawBelow_35
  · have h := (if_neg c_1).symm.trans h
    refine lv_aload_n hx hb dX3_drawBelow_18 rfl (lv_at hl 0 rfl) ?_
    refine va_get (ci := 0) (v := .int ((v_t_z * 1664525) + 1013904223)) (C := RX3) (T := TX3) (N := 1) hx hb hts hinX3 hown hK.1 hP 0 rfl rfl 0 (by decide) k_0 (fun _ h9 => h9) rfl dX3_drawBelow_19 ?_
    refine lv_ldc (v := 2147483647) hx hb hown k_3 dX3_drawBelow_22 ?_
    refine lv_iand hx hb dX3_drawBelow_24 ?_
    refine lv_sipush (v := 256) hx hb dX3_drawBelow_25 (by decide) ?_
    refine lv_idiv hx hb dX3_drawBelow_28 (by decide) ?_
    refine lv_iload_n hx hb dX3_drawBelow_29 rfl (lv_at hl 1 rfl) ?_
    obtain ⟨z_3, h⟩ := xd_some h
    refine lv_irem hx hb dX3_drawBelow_30 z_3 ?_
    refine lv_goto (tgt := 35) hx hb dX3_drawBelow_31 (by decide) ?_
    obtain rfl := Option.some.inj h
    exact xk_iret hx hb hr hlk hP hD hS (hQ _) dX3_drawBelow_35
set_option maxHeartbeats 4000000 in
set_option maxRecDepth 100000 in
theorem c_X3_drawNails (l : Launch) (D : va_G) (cA : ClassId) (sa sv : Nat → Nat) (a_t a_o1 a_o1_kinds a_o1_figures a_o1_causeBits : Nat) (sz : Nat) (v_t_z : Int32) (v_o1_kinds : Nat → Int32) (v_o1_figures : Nat → Int32) (v_o1_causeBits : Nat → Int32) (v_o1_size : Int32) (v_o1_lost : Int32) (v_o1_guarded : Int32) (v_o1_day : Int32) (F : Nat) (res : Int32 × Int32) (h : f_X3_drawNails F v_t_z v_o1_causeBits v_o1_size v_o1_lost  = some res) : Met l yX3_drawNails wsX3_drawNails { frames := 3, cells := 0, slots := 0, locals := 64 } (xk_Pc D cA sa sv (wX3 cA a_t v_t_z ++ wX7 cA a_o1 a_o1_kinds a_o1_figures a_o1_causeBits v_o1_kinds v_o1_figures v_o1_causeBits v_o1_size v_o1_lost v_o1_guarded v_o1_day) sz [.ref a_t, .ref a_o1]) (xk_Q D (va_A (wX3 cA a_t v_t_z ++ wX7 cA a_o1 a_o1_kinds a_o1_figures a_o1_causeBits v_o1_kinds v_o1_figures v_o1_causeBits v_o1_size v_o1_lost v_o1_guarded v_o1_day) sz) (some (.int res.1)) (wX3 cA a_t res.2 ++ wX7 cA a_o1 a_o1_kinds a_o1_figures a_o1_causeBits v_o1_kinds v_o1_figures v_o1_causeBits v_o1_size v_o1_lost v_o1_guarded v_o1_day)) 0 0 (va_A (wX3 cA a_t v_t_z ++ wX7 cA a_o1 a_o1_kinds a_o1_figures a_o1_causeBits v_o1_kinds v_o1_figures v_o1_causeBits v_o1_size v_o1_lost v_o1_guarded v_o1_day) sz) := by
  refine xk_met (fun res : Int32 × Int32 => some (.int res.1)) (fun res : Int32 × Int32 => (wX3 cA a_t res.2 ++ wX7 cA a_o1 a_o1_kinds a_o1_figures a_o1_causeBits v_o1_kinds v_o1_figures v_o1_causeBits v_o1_size v_o1_lost v_o1_guarded v_o1_day)) res (cc := cX3_drawNails) (maxL := 5) (ret := (some .int)) (by decide) rfl (Nat.le_of_ble_eq_true rfl) ?_
  intro p e s m args below meth c A Q ls hQ hx hb hr hlk hml hown hts hK hP hD hS hA hl
  have S : CallFix p m c cX3_drawNails 5 s args wsX3_drawNails RX3 := ⟨hx, hb, hml, hown, hts⟩
  have hl : lv_has ls 5 [(0, .ref a_t), (1, .ref a_o1)] := hl
  have hinX7 : ∀ w ∈ u_ws RX7 TX7 7, w ∈ wsX3_drawNails := fun _ h => List.mem_cons_of_mem _ (List.mem_append_left _ (List.mem_append_right _ (h)))
  have J_50 : ∀ (k_17r : Int32 → Int32 → Int32 → Int32 → Option (Int32 × Int32)), (∀ (x2 : Int32) (x3 : Int32) (x4 : Int32) (v_t_z : Int32) (res : Int32 × Int32), k_17r x2 x3 x4 v_t_z = some res → ∀ (H : Heap) (locs : List Loc) (ls : Array Slot), va_P D vwCl (wX3 cA a_t v_t_z ++ wX7 cA a_o1 a_o1_kinds a_o1_figures a_o1_causeBits v_o1_kinds v_o1_figures v_o1_causeBits v_o1_size v_o1_lost v_o1_guarded v_o1_day) H → va_D A (wX3 cA a_t v_t_z ++ wX7 cA a_o1 a_o1_kinds a_o1_figures a_o1_causeBits v_o1_kinds v_o1_figures v_o1_causeBits v_o1_size v_o1_lost v_o1_guarded v_o1_day) → va_S A s.heap H locs → lv_has ls 5 [(0, .ref a_t), (1, .ref a_o1), (2, .int x2), (3, .int x3), (4, .int x4)] → W p l e { frames := 3, cells := 0, slots := 0, locals := 64 } s m args below meth c H locs 0 0 (Q res) (F0 m 17 ls [])) → ∀ (x2 : Int32) (x3 : Int32) (x4 : Int32) (v_t_z : Int32) (res : Int32 × Int32), f_X3_drawNails_50 F v_o1_causeBits v_o1_size v_o1_lost k_17r x2 x3 x4 v_t_z = some res → ∀ (H : Heap) (locs : List Loc) (ls : Array Slot), va_P D vwCl (wX3 cA a_t v_t_z ++ wX7 cA a_o1 a_o1_kinds a_o1_figures a_o1_causeBits v_o1_kinds v_o1_figures v_o1_causeBits v_o1_size v_o1_lost v_o1_guarded v_o1_day) H → va_D A (wX3 cA a_t v_t_z ++ wX7 cA a_o1 a_o1_kinds a_o1_figures a_o1_causeBits v_o1_kinds v_o1_figures v_o1_causeBits v_o1_size v_o1_lost v_o1_guarded v_o1_day) → va_S A s.heap H locs → lv_has ls 5 [(0, .ref a_t), (1, .ref a_o1), (2, .int x2), (3, .int x3), (4, .int x4)] → W p l e { frames := 3, cells := 0, slots := 0, locals := 64 } s m args below meth c H locs 0 0 (Q res) (F0 m 50 ls []) := by
    intro k_17r hk_17r x2 x3 x4 v_t_z res h H locs ls hP hD hS hl
    unfold f_X3_drawNails_50 at h
    refine lv_iinc (v := (x4 + 1)) (lv' := [(4, .int (x4 + 1)), (0, .ref a_t), (1, .ref a_o1), (2, .int x2), (3, .int x3)]) hx hb dX3_drawNails_50 hl (k := 4) rfl rfl (by decide) rfl (fun ls hl => ?_)
    refine lv_goto (tgt := 17) hx hb dX3_drawNails_53 (by decide) ?_
    exact hk_17r x2 x3 (x4 + 1) v_t_z _ h _ _ _ hP hD hS (lv_sub hl [1, 2, 3, 4, 0] rfl)
  have J_17 : ∀ (n : Nat) (x2 : Int32) (x3 : Int32) (x4 : Int32) (v_t_z : Int32) (res : Int32 × Int32), f_X3_drawNails_17 F v_o1_causeBits v_o1_size v_o1_lost n x2 x3 x4 v_t_z = some res → ∀ (H : Heap) (locs : List Loc) (ls : Array Slot), va_P D vwCl (wX3 cA a_t v_t_z ++ wX7 cA a_o1 a_o1_kinds a_o1_figures a_o1_causeBits v_o1_kinds v_o1_figures v_o1_causeBits v_o1_size v_o1_lost v_o1_guarded v_o1_day) H → va_D A (wX3 cA a_t v_t_z ++ wX7 cA a_o1 a_o1_kinds a_o1_figures a_o1_causeBits v_o1_kinds v_o1_figures v_o1_causeBits v_o1_size v_o1_lost v_o1_guarded v_o1_day) → va_S A s.heap H locs → lv_has ls 5 [(0, .ref a_t), (1, .ref a_o1), (2, .int x2), (3, .int x3), (4, .int x4)] → W p l e { frames := 3, cells := 0, slots := 0, locals := 64 } s m args below meth c H locs 0 0 (Q res) (F0 m 17 ls []) := by
    intro n
    induction n with
    | zero => intro x2 x3 x4 v_t_z res h; exact nomatch (show (none : Option (Int32 × Int32)) = some res from h)
    | succ n ih =>
      intro x2 x3 x4 v_t_z res h H locs ls hP hD hS hl
      rw [f_X3_drawNails_17] at h
      refine lv_iload hx hb dX3_drawNails_17 (lv_at hl 4 rfl) ?_
      refine lv_aload_n hx hb dX3_drawNails_19 rfl (lv_at hl 1 rfl) ?_
      refine va_getN (ci := 2) (v := .int v_o1_size) (C := RX7) (T := TX7) (N := 7) hx hb hts hinX7 hown hK.1 hP 1 rfl rfl 3 (by decide) (va_Nw.use rfl (hK.2.1 (.fieldLinkNest RX3 38 RX7 "size" "I" RX9) (List.mem_of_getElem? (i := 7) rfl))) (fun _ h9 => h9) rfl dX3_drawNails_20 ?_
      refine lv_icmp_ge (tgt := 56) hx hb dX3_drawNails_23 (by decide) (fun c_2 => ?_) (fun c_2 => ?_)
      · have h := (if_pos c_2).symm.trans h
        refine lv_iload_n hx hb dX3_drawNails_56 rfl (lv_at hl 3 rfl) ?_
        obtain rfl := Option.some.inj h
        exact xk_iret hx hb hr hlk hP hD hS (hQ _) dX3_drawNails_57
      · have h := (if_neg c_2).symm.trans h
        refine lv_iload_n hx hb dX3_drawNails_26 rfl (lv_at hl 2 rfl) ?_
        refine lv_iconst (v := 1) hx hb dX3_drawNails_27 (by decide) ?_
        refine lv_iload hx hb dX3_drawNails_28 (lv_at hl 4 rfl) ?_
        refine lv_ishl hx hb dX3_drawNails_30 ?_
        refine lv_iand hx hb dX3_drawNails_31 ?_
        refine lv_if_eq (tgt := 50) hx hb dX3_drawNails_32 (by decide) (fun c_3 => ?_) (fun c_3 => ?_)
        · have h := (if_pos c_3).symm.trans h
          exact J_50 (f_X3_drawNails_17 F v_o1_causeBits v_o1_size v_o1_lost n) ih x2 x3 x4 v_t_z _ h _ _ _ hP hD hS (lv_sub hl [0, 1, 2, 3, 4] rfl)
        · have h := (if_neg c_3).symm.trans h
          refine lv_aload_n hx hb dX3_drawNails_35 rfl (lv_at hl 0 rfl) ?_
          refine lv_iconst (v := 3) hx hb dX3_drawNails_36 (by decide) ?_
          obtain ⟨x_4, hc_4, h⟩ := bd_some h
          refine xk_V (rest := []) (As := [.int 3]) (stk := [.int x_4.1]) (wn := (wX3 cA a_t x_4.2 ++ wX7 cA a_o1 a_o1_kinds a_o1_figures a_o1_causeBits v_o1_kinds v_o1_figures v_o1_causeBits v_o1_size v_o1_lost v_o1_guarded v_o1_day)) (v := (some (.int x_4.1))) (wr := [(a_o1, .inr (2, [.ref a_o1_kinds, .ref a_o1_figures, .ref a_o1_causeBits, .int v_o1_size, .int v_o1_lost, .int v_o1_guarded, .int v_o1_day])), (a_o1_kinds, .inl (cA, 9, .inl v_o1_kinds)), (a_o1_figures, .inl (cA, 9, .inl v_o1_figures)), (a_o1_causeBits, .inl (cA, 9, .inl v_o1_causeBits))]) gX3_drawNails_X3_drawBelow rfl hdV_X3_drawBelow rfl rfl (c_X3_drawBelow l D cA sa sv a_t _ v_t_z 3 x_4 hc_4) (ci := 0) rfl (q0 := 0) rfl S hK hP hD hS hA [0] [1, 2, 3, 4] [4, 0, 1, 2, 3] rfl rfl rfl rfl rfl rfl rfl ⟨Nat.le_of_ble_eq_true rfl, Nat.le_of_ble_eq_true rfl⟩ ⟨Nat.le_refl 0, Nat.le_refl 0⟩ rfl hl.1 rfl (Nat.le_of_ble_eq_true rfl) rfl dX3_drawNails_37 (fun H locs hP hD hS => ?_)
          refine lv_if_ne (tgt := 50) hx hb dX3_drawNails_40 (by decide) (fun c_5 => ?_) (fun c_5 => ?_)
          · have h := (if_neg c_5).symm.trans h
            exact J_50 (f_X3_drawNails_17 F v_o1_causeBits v_o1_size v_o1_lost n) ih x2 x3 x4 x_4.2 _ h _ _ _ hP hD hS (lv_sub hl [0, 1, 2, 3, 4] rfl)
          · have h := (if_pos c_5).symm.trans h
            refine lv_iload_n hx hb dX3_drawNails_43 rfl (lv_at hl 3 rfl) ?_
            refine lv_iconst (v := 1) hx hb dX3_drawNails_44 (by decide) ?_
            refine lv_iload hx hb dX3_drawNails_45 (lv_at hl 4 rfl) ?_
            refine lv_ishl hx hb dX3_drawNails_47 ?_
            refine lv_ior hx hb dX3_drawNails_48 ?_
            refine lv_istore_n (lv' := [(3, .int (x3 ||| (1 <<< (x4 &&& 31)))), (0, .ref a_t), (1, .ref a_o1), (2, .int x2), (4, .int x4)]) hx hb dX3_drawNails_49 rfl hl (by decide) rfl (fun ls hl => ?_)
            exact J_50 (f_X3_drawNails_17 F v_o1_causeBits v_o1_size v_o1_lost n) ih x2 (x3 ||| (1 <<< (x4 &&& 31))) x4 x_4.2 _ h _ _ _ hP hD hS (lv_sub hl [1, 2, 3, 0, 4] rfl)
  unfold f_X3_drawNails at h
  refine lv_aload_n hx hb dX3_drawNails_0 rfl (lv_at hl 1 rfl) ?_
  obtain ⟨x_1, hc_1, h⟩ := bd_some h
  refine xk_V (rest := []) (As := []) (stk := [.int x_1]) (wn := (wX3 cA a_t v_t_z ++ wX7 cA a_o1 a_o1_kinds a_o1_figures a_o1_causeBits v_o1_kinds v_o1_figures v_o1_causeBits v_o1_size v_o1_lost v_o1_guarded v_o1_day)) (v := (some (.int x_1))) (wr := [(a_t, .inr (0, [.int v_t_z]))]) gX3_drawNails_X7_withoutCauses rfl hdV_X7_withoutCauses rfl rfl (c_X7_withoutCauses l D cA sa sv a_o1 a_o1_kinds a_o1_figures a_o1_causeBits _ v_o1_kinds v_o1_figures v_o1_causeBits v_o1_size v_o1_lost v_o1_guarded v_o1_day F x_1 hc_1) (ci := 2) rfl (q0 := 0) rfl S hK hP hD hS hA [1, 2, 3, 4] [0] [0, 1, 2, 3, 4] rfl rfl rfl rfl rfl rfl rfl ⟨Nat.le_of_ble_eq_true rfl, Nat.le_of_ble_eq_true rfl⟩ ⟨Nat.le_refl 0, Nat.le_refl 0⟩ rfl hl.1 rfl (Nat.le_of_ble_eq_true rfl) rfl dX3_drawNails_1 (fun H locs hP hD hS => ?_)
  refine lv_istore_n (lv' := [(2, .int x_1), (0, .ref a_t), (1, .ref a_o1)]) hx hb dX3_drawNails_4 rfl hl (by decide) rfl (fun ls hl => ?_)
  refine lv_aload_n hx hb dX3_drawNails_5 rfl (lv_at hl 2 rfl) ?_
  refine va_getN (ci := 2) (v := .int v_o1_lost) (C := RX7) (T := TX7) (N := 7) hx hb hts hinX7 hown hK.1 hP 1 rfl rfl 4 (by decide) (va_Nw.use rfl (hK.2.1 (.fieldLinkNest RX3 35 RX7 "lost" "I" RX9) (List.mem_of_getElem? (i := 6) rfl))) (fun _ h9 => h9) rfl dX3_drawNails_6 ?_
  refine lv_iload_n hx hb dX3_drawNails_9 rfl (lv_at hl 0 rfl) ?_
  refine lv_iconst (v := (-1)) hx hb dX3_drawNails_10 (by decide) ?_
  refine lv_ixor hx hb dX3_drawNails_11 ?_
  refine lv_iand hx hb dX3_drawNails_12 ?_
  refine lv_istore_n (lv' := [(3, .int (v_o1_lost &&& (x_1 ^^^ (-1)))), (2, .int x_1), (0, .ref a_t), (1, .ref a_o1)]) hx hb dX3_drawNails_13 rfl hl (by decide) rfl (fun ls hl => ?_)
  refine lv_iconst (v := 0) hx hb dX3_drawNails_14 (by decide) ?_
  refine lv_istore (lv' := [(4, .int 0), (3, .int (v_o1_lost &&& (x_1 ^^^ (-1)))), (2, .int x_1), (0, .ref a_t), (1, .ref a_o1)]) hx hb dX3_drawNails_15 hl (by decide) rfl (fun ls hl => ?_)
  exact J_17 F x_1 (v_o1_lost &&& (x_1 ^^^ (-1))) 0 v_t_z _ h _ _ _ hP hD hS (lv_sub hl [3, 4, 2, 1, 0] rfl)
set_option maxHeartbeats 4000000 in
set_option maxRecDepth 100000 in
theorem c_X4_lostBehind (l : Launch) (D : va_G) (cA : ClassId) (sa sv : Nat → Nat) (a_o0 a_o0_kinds a_o0_figures a_o0_causeBits : Nat) (sz : Nat) (v_o0_kinds : Nat → Int32) (v_o0_figures : Nat → Int32) (v_o0_causeBits : Nat → Int32) (v_o0_size : Int32) (v_o0_lost : Int32) (v_o0_guarded : Int32) (v_o0_day : Int32) (p1 : Int32) (p2 : Int32) (F : Nat) (res : Int32) (h : f_X4_lostBehind F v_o0_kinds v_o0_figures v_o0_causeBits v_o0_size v_o0_guarded v_o0_day p1 p2 = some res) : Met l yX4_lostBehind wsX4_lostBehind { frames := 3, cells := 0, slots := 0, locals := 80 } (xk_Pc D cA sa sv (wX7 cA a_o0 a_o0_kinds a_o0_figures a_o0_causeBits v_o0_kinds v_o0_figures v_o0_causeBits v_o0_size v_o0_lost v_o0_guarded v_o0_day) sz [.ref a_o0, .int p1, .int p2]) (xk_Q D (va_A (wX7 cA a_o0 a_o0_kinds a_o0_figures a_o0_causeBits v_o0_kinds v_o0_figures v_o0_causeBits v_o0_size v_o0_lost v_o0_guarded v_o0_day) sz) (some (.int res)) (wX7 cA a_o0 a_o0_kinds a_o0_figures a_o0_causeBits v_o0_kinds v_o0_figures v_o0_causeBits v_o0_size v_o0_lost v_o0_guarded v_o0_day)) 0 0 (va_A (wX7 cA a_o0 a_o0_kinds a_o0_figures a_o0_causeBits v_o0_kinds v_o0_figures v_o0_causeBits v_o0_size v_o0_lost v_o0_guarded v_o0_day) sz) := by
  refine xk_met (fun res : Int32 => some (.int res)) (fun res : Int32 => (wX7 cA a_o0 a_o0_kinds a_o0_figures a_o0_causeBits v_o0_kinds v_o0_figures v_o0_causeBits v_o0_size v_o0_lost v_o0_guarded v_o0_day)) res (cc := cX4_lostBehind) (maxL := 3) (ret := (some .int)) (by decide) rfl (Nat.le_of_ble_eq_true rfl) ?_
  intro p e s m args below meth c A Q ls hQ hx hb hr hlk hml hown hts hK hP hD hS hA hl
  have S : CallFix p m c cX4_lostBehind 3 s args wsX4_lostBehind RX4 := ⟨hx, hb, hml, hown, hts⟩
  have hl : lv_has ls 3 [(0, .ref a_o0), (1, .int p1), (2, .int p2)] := hl
  have hinX7 : ∀ w ∈ u_ws RX7 TX7 7, w ∈ wsX4_lostBehind := fun _ h => List.mem_cons_of_mem _ (List.mem_append_right _ (h))
  unfold f_X4_lostBehind at h
  refine lv_aload_n hx hb dX4_lostBehind_0 rfl (lv_at hl 0 rfl) ?_
  refine lv_iload_n hx hb dX4_lostBehind_1 rfl (lv_at hl 1 rfl) ?_
  refine lv_aload_n hx hb dX4_lostBehind_2 rfl (lv_at hl 0 rfl) ?_
  refine va_getN (ci := 2) (v := .int v_o0_guarded) (C := RX7) (T := TX7) (N := 7) hx hb hts hinX7 hown hK.1 hP 0 rfl rfl 5 (by decide) (va_Nw.use rfl (hK.2.1 (.fieldLinkNest RX4 9 RX7 "guarded" "I" RX9) (List.mem_of_getElem? (i := 8) rfl))) (fun _ h9 => h9) rfl dX4_lostBehind_3 ?_
  refine lv_aload_n hx hb dX4_lostBehind_6 rfl (lv_at hl 0 rfl) ?_
  refine va_getN (ci := 2) (v := .int v_o0_day) (C := RX7) (T := TX7) (N := 7) hx hb hts hinX7 hown hK.1 hP 0 rfl rfl 6 (by decide) (va_Nw.use rfl (hK.2.1 (.fieldLinkNest RX4 15 RX7 "day" "I" RX9) (List.mem_of_getElem? (i := 9) rfl))) (fun _ h9 => h9) rfl dX4_lostBehind_7 ?_
  refine lv_iload_n hx hb dX4_lostBehind_10 rfl (lv_at hl 2 rfl) ?_
  obtain ⟨x_1, hc_1, h⟩ := bd_some h
  refine xk_V (rest := []) (As := [.int p1, .int v_o0_guarded, .int v_o0_day, .int p2]) (stk := [.int x_1]) (wn := (wX7 cA a_o0 a_o0_kinds a_o0_figures a_o0_causeBits v_o0_kinds v_o0_figures v_o0_causeBits v_o0_size v_o0_lost v_o0_guarded v_o0_day)) (v := (some (.int x_1))) (wr := []) gX4_lostBehind_X7_behindDays rfl hdV_X7_behindDays rfl rfl (c_X7_behindDays l D cA sa sv a_o0 a_o0_kinds a_o0_figures a_o0_causeBits _ v_o0_kinds v_o0_figures v_o0_causeBits v_o0_size v_o0_lost v_o0_guarded v_o0_day p1 v_o0_guarded v_o0_day p2 F x_1 hc_1) (ci := 2) rfl (q0 := 0) rfl S hK hP hD hS hA [0, 1, 2, 3] [] [0, 1, 2, 3] rfl rfl rfl rfl rfl rfl rfl ⟨Nat.le_of_ble_eq_true rfl, Nat.le_of_ble_eq_true rfl⟩ ⟨Nat.le_refl 0, Nat.le_refl 0⟩ rfl hl.1 rfl (Nat.le_of_ble_eq_true rfl) rfl dX4_lostBehind_11 (fun H locs hP hD hS => ?_)
  obtain rfl := Option.some.inj h
  exact xk_iret hx hb hr hlk hP hD hS (hQ _) dX4_lostBehind_14
set_option maxHeartbeats 4000000 in
set_option maxRecDepth 100000 in
theorem c_X3_lostInWars (l : Launch) (D : va_G) (cA : ClassId) (sa sv : Nat → Nat) (a_t a_o1 a_o1_kinds a_o1_figures a_o1_causeBits : Nat) (sz : Nat) (v_t_z : Int32) (v_o1_kinds : Nat → Int32) (v_o1_figures : Nat → Int32) (v_o1_causeBits : Nat → Int32) (v_o1_size : Int32) (v_o1_lost : Int32) (v_o1_guarded : Int32) (v_o1_day : Int32) (p2 : Int32) (p3 : Int32) (p4 : Int32) (F : Nat) (res : Int32 × Int32) (h : f_X3_lostInWars F v_t_z v_o1_kinds v_o1_figures v_o1_causeBits v_o1_size v_o1_lost v_o1_guarded v_o1_day p2 p3 p4 = some res) : Met l yX3_lostInWars wsX3_lostInWars { frames := 4, cells := 0, slots := 0, locals := 102 } (xk_Pc D cA sa sv (wX3 cA a_t v_t_z ++ wX7 cA a_o1 a_o1_kinds a_o1_figures a_o1_causeBits v_o1_kinds v_o1_figures v_o1_causeBits v_o1_size v_o1_lost v_o1_guarded v_o1_day) sz [.ref a_t, .ref a_o1, .int p2, .int p3, .int p4]) (xk_Q D (va_A (wX3 cA a_t v_t_z ++ wX7 cA a_o1 a_o1_kinds a_o1_figures a_o1_causeBits v_o1_kinds v_o1_figures v_o1_causeBits v_o1_size v_o1_lost v_o1_guarded v_o1_day) sz) (some (.int res.1)) (wX3 cA a_t res.2 ++ wX7 cA a_o1 a_o1_kinds a_o1_figures a_o1_causeBits v_o1_kinds v_o1_figures v_o1_causeBits v_o1_size v_o1_lost v_o1_guarded v_o1_day)) 0 0 (va_A (wX3 cA a_t v_t_z ++ wX7 cA a_o1 a_o1_kinds a_o1_figures a_o1_causeBits v_o1_kinds v_o1_figures v_o1_causeBits v_o1_size v_o1_lost v_o1_guarded v_o1_day) sz) := by
  refine xk_met (fun res : Int32 × Int32 => some (.int res.1)) (fun res : Int32 × Int32 => (wX3 cA a_t res.2 ++ wX7 cA a_o1 a_o1_kinds a_o1_figures a_o1_causeBits v_o1_kinds v_o1_figures v_o1_causeBits v_o1_size v_o1_lost v_o1_guarded v_o1_day)) res (cc := cX3_lostInWars) (maxL := 8) (ret := (some .int)) (by decide) rfl (Nat.le_of_ble_eq_true rfl) ?_
  intro p e s m args below meth c A Q ls hQ hx hb hr hlk hml hown hts hK hP hD hS hA hl
  have S : CallFix p m c cX3_lostInWars 8 s args wsX3_lostInWars RX3 := ⟨hx, hb, hml, hown, hts⟩
  have hl : lv_has ls 8 [(0, .ref a_t), (1, .ref a_o1), (2, .int p2), (3, .int p3), (4, .int p4)] := hl
  have hinX3 : ∀ w ∈ u_ws RX3 TX3 1, w ∈ wsX3_lostInWars := fun _ h => List.mem_cons_of_mem _ (List.mem_append_left _ (List.mem_append_right _ (h)))
  have k_0 := hts (.fieldLink RX3 7 "NailsWantTheKingdom$Lot" "z" "I") (List.mem_of_getElem? (i := 1) (by decide +kernel))
  have J_11 : ∀ (n : Nat) (x5 : Int32) (x6 : Int32) (v_t_z : Int32) (res : Int32 × Int32), f_X3_lostInWars_11 F v_o1_kinds v_o1_figures v_o1_causeBits v_o1_size v_o1_lost v_o1_guarded v_o1_day p2 p3 p4 n x5 x6 v_t_z = some res → ∀ (H : Heap) (locs : List Loc) (ls : Array Slot), va_P D vwCl (wX3 cA a_t v_t_z ++ wX7 cA a_o1 a_o1_kinds a_o1_figures a_o1_causeBits v_o1_kinds v_o1_figures v_o1_causeBits v_o1_size v_o1_lost v_o1_guarded v_o1_day) H → va_D A (wX3 cA a_t v_t_z ++ wX7 cA a_o1 a_o1_kinds a_o1_figures a_o1_causeBits v_o1_kinds v_o1_figures v_o1_causeBits v_o1_size v_o1_lost v_o1_guarded v_o1_day) → va_S A s.heap H locs → lv_has ls 8 [(0, .ref a_t), (1, .ref a_o1), (2, .int p2), (4, .int p4), (5, .int x5), (6, .int x6)] → W p l e { frames := 4, cells := 0, slots := 0, locals := 102 } s m args below meth c H locs 0 0 (Q res) (F0 m 11 ls []) := by
    intro n
    induction n with
    | zero => intro x5 x6 v_t_z res h; exact nomatch (show (none : Option (Int32 × Int32)) = some res from h)
    | succ n ih =>
      intro x5 x6 v_t_z res h H locs ls hP hD hS hl
      rw [f_X3_lostInWars_11] at h
      refine lv_iload hx hb dX3_lostInWars_11 (lv_at hl 5 rfl) ?_
      refine lv_iload_n hx hb dX3_lostInWars_13 rfl (lv_at hl 2 rfl) ?_
      refine lv_icmp_ge (tgt := 49) hx hb dX3_lostInWars_14 (by decide) (fun c_1 => ?_) (fun c_1 => ?_)
      · have h := (if_pos c_1).symm.trans h
        refine lv_iload hx hb dX3_lostInWars_49 (lv_at hl 4 rfl) ?_
        obtain rfl := Option.some.inj h
        exact xk_iret hx hb hr hlk hP hD hS (hQ _) dX3_lostInWars_51
      · have h := (if_neg c_1).symm.trans h
        refine lv_aload_n hx hb dX3_lostInWars_17 rfl (lv_at hl 0 rfl) ?_
        refine lv_aload_n hx hb dX3_lostInWars_18 rfl (lv_at hl 1 rfl) ?_
        obtain ⟨x_2, hc_2, h⟩ := bd_some h
        refine xk_V (rest := []) (As := [.ref a_o1]) (stk := [.int x_2.1]) (wn := (wX3 cA a_t x_2.2 ++ wX7 cA a_o1 a_o1_kinds a_o1_figures a_o1_causeBits v_o1_kinds v_o1_figures v_o1_causeBits v_o1_size v_o1_lost v_o1_guarded v_o1_day)) (v := (some (.int x_2.1))) (wr := []) gX3_lostInWars_X3_drawNails rfl hdV_X3_drawNails rfl rfl (c_X3_drawNails l D cA sa sv a_t a_o1 a_o1_kinds a_o1_figures a_o1_causeBits _ v_t_z v_o1_kinds v_o1_figures v_o1_causeBits v_o1_size v_o1_lost v_o1_guarded v_o1_day F x_2 hc_2) (ci := 0) rfl (q0 := 0) rfl S hK hP hD hS hA [0, 1, 2, 3, 4] [] [0, 1, 2, 3, 4] rfl rfl rfl rfl rfl rfl rfl ⟨Nat.le_of_ble_eq_true rfl, Nat.le_of_ble_eq_true rfl⟩ ⟨Nat.le_refl 0, Nat.le_refl 0⟩ rfl hl.1 rfl (Nat.le_of_ble_eq_true rfl) rfl dX3_lostInWars_19 (fun H locs hP hD hS => ?_)
        refine lv_istore (lv' := [(7, .int x_2.1), (0, .ref a_t), (1, .ref a_o1), (2, .int p2), (4, .int p4), (5, .int x5), (6, .int x6)]) hx hb dX3_lostInWars_22 hl (by decide) rfl (fun ls hl => ?_)
        refine lv_iload hx hb dX3_lostInWars_24 (lv_at hl 5 rfl) ?_
        refine lv_aload_n hx hb dX3_lostInWars_26 rfl (lv_at hl 2 rfl) ?_
        refine lv_iload hx hb dX3_lostInWars_27 (lv_at hl 0 rfl) ?_
        refine lv_bipush (v := 15) hx hb dX3_lostInWars_29 (by decide) ?_
        obtain ⟨x_3, hc_3, h⟩ := bd_some h
        refine xk_S (rest := [.int x5]) (As := [.ref a_o1, .int x_2.1, .int 15]) (stk := [.int x_3, .int x5]) (wn := (wX3 cA a_t x_2.2 ++ wX7 cA a_o1 a_o1_kinds a_o1_figures a_o1_causeBits v_o1_kinds v_o1_figures v_o1_causeBits v_o1_size v_o1_lost v_o1_guarded v_o1_day)) (v := (some (.int x_3))) (wr := [(a_t, .inr (0, [.int x_2.2]))]) gX3_lostInWars_X4_lostBehind rfl hdS_X4_lostBehind rfl rfl (c_X4_lostBehind l D cA sa sv a_o1 a_o1_kinds a_o1_figures a_o1_causeBits _ v_o1_kinds v_o1_figures v_o1_causeBits v_o1_size v_o1_lost v_o1_guarded v_o1_day x_2.1 15 F x_3 hc_3) S hK hP hD hS hA [1, 2, 3, 4] [0] [0, 1, 2, 3, 4] rfl rfl rfl rfl rfl rfl rfl ⟨Nat.le_of_ble_eq_true rfl, Nat.le_of_ble_eq_true rfl⟩ ⟨Nat.le_refl 0, Nat.le_refl 0⟩ rfl hl.1 rfl (Nat.le_of_ble_eq_true rfl) rfl dX3_lostInWars_31 (fun H locs hP hD hS => ?_)
        refine lv_iload hx hb dX3_lostInWars_34 (lv_at hl 4 rfl) ?_
        refine lv_iand hx hb dX3_lostInWars_36 ?_
        obtain ⟨x_4, hc_4, h⟩ := bd_some h
        refine xk_S (rest := [.int x5]) (As := [.int (x_3 &&& p4)]) (stk := [.int x_4, .int x5]) (wn := (wX3 cA a_t x_2.2 ++ wX7 cA a_o1 a_o1_kinds a_o1_figures a_o1_causeBits v_o1_kinds v_o1_figures v_o1_causeBits v_o1_size v_o1_lost v_o1_guarded v_o1_day)) (v := (some (.int x_4))) (wr := [(a_t, .inr (0, [.int x_2.2])), (a_o1, .inr (2, [.ref a_o1_kinds, .ref a_o1_figures, .ref a_o1_causeBits, .int v_o1_size, .int v_o1_lost, .int v_o1_guarded, .int v_o1_day])), (a_o1_kinds, .inl (cA, 9, .inl v_o1_kinds)), (a_o1_figures, .inl (cA, 9, .inl v_o1_figures)), (a_o1_causeBits, .inl (cA, 9, .inl v_o1_causeBits))]) gX3_lostInWars_J6_bitCount_0f7a4 rfl hdS_J6_bitCount_0f7a4 rfl rfl (c_J6_bitCount_0f7a4 l D cA sa sv _ (x_3 &&& p4) x_4 hc_4) S hK hP hD hS hA [] [0, 1, 2, 3, 4] [0, 1, 2, 3, 4] rfl rfl rfl rfl rfl rfl rfl ⟨Nat.le_of_ble_eq_true rfl, Nat.le_of_ble_eq_true rfl⟩ ⟨Nat.le_refl 0, Nat.le_refl 0⟩ rfl hl.1 rfl (Nat.le_of_ble_eq_true rfl) rfl dX3_lostInWars_37 (fun H locs hP hD hS => ?_)
        refine lv_iadd hx hb dX3_lostInWars_40 ?_
        refine lv_istore (lv' := [(5, .int (x5 + x_4)), (7, .int x_2.1), (0, .ref a_t), (1, .ref a_o1), (2, .int p2), (4, .int p4), (6, .int x6)]) hx hb dX3_lostInWars_41 hl (by decide) rfl (fun ls hl => ?_)
        refine lv_iinc (v := (x6 + 1)) (lv' := [(6, .int (x6 + 1)), (5, .int (x5 + x_4)), (7, .int x_2.1), (0, .ref a_t), (1, .ref a_o1), (2, .int p2), (4, .int p4)]) hx hb dX3_lostInWars_43 hl (k := 6) rfl rfl (by decide) rfl (fun ls hl => ?_)
        refine lv_goto (tgt := 11) hx hb dX3_lostInWars_46 (by decide) ?_
        exact ih (x5 + x_4) (x6 + 1) x_2.2 _ h _ _ _ hP hD hS (lv_sub hl [3, 4, 5, 6, 1, 0] rfl)
  unfold f_X3_lostInWars at h
  refine lv_aload_n hx hb dX3_lostInWars_0 rfl (lv_at hl 0 rfl) ?_
  refine lv_iload_n hx hb dX3_lostInWars_1 rfl (lv_at hl 3 rfl) ?_
  refine va_put (ci := 0) (v := .int p3) (ty := tyX3 0) (C := RX3) (T := TX3) (N := 1) hx hb hts hinX3 tyX3 tyX3_ok nmX3 hown hK.1 hP hD hS 0 rfl rfl 0 (by decide) k_0 (fun _ h9 => h9) rfl (tyX3_ok 0 (by decide)) rfl rfl (Nat.le_of_ble_eq_true rfl) dX3_lostInWars_2 (fun H locs hP hD hS => ?_)
  have hP : va_P D vwCl (wX3 cA a_t p3 ++ wX7 cA a_o1 a_o1_kinds a_o1_figures a_o1_causeBits v_o1_kinds v_o1_figures v_o1_causeBits v_o1_size v_o1_lost v_o1_guarded v_o1_day) H := hP
  have hD : va_D A (wX3 cA a_t p3 ++ wX7 cA a_o1 a_o1_kinds a_o1_figures a_o1_causeBits v_o1_kinds v_o1_figures v_o1_causeBits v_o1_size v_o1_lost v_o1_guarded v_o1_day) := hD
  refine lv_iconst (v := 0) hx hb dX3_lostInWars_5 (by decide) ?_
  refine lv_istore (lv' := [(5, .int 0), (0, .ref a_t), (1, .ref a_o1), (2, .int p2), (3, .int p3), (4, .int p4)]) hx hb dX3_lostInWars_6 hl (by decide) rfl (fun ls hl => ?_)
  refine lv_iconst (v := 0) hx hb dX3_lostInWars_8 (by decide) ?_
  refine lv_istore (lv' := [(6, .int 0), (5, .int 0), (0, .ref a_t), (1, .ref a_o1), (2, .int p2), (3, .int p3), (4, .int p4)]) hx hb dX3_lostInWars_9 hl (by decide) rfl (fun ls hl => ?_)
  exact J_11 F 0 0 p3 _ h _ _ _ hP hD hS (lv_sub hl [2, 3, 4, 6, 1, 0] rfl)
set_option maxHeartbeats 4000000 in
set_option maxRecDepth 100000 in
theorem c_X4_daysUntilLost (l : Launch) (D : va_G) (cA : ClassId) (sa sv : Nat → Nat) (a_o0 a_o0_kinds a_o0_figures a_o0_causeBits : Nat) (sz : Nat) (v_o0_kinds : Nat → Int32) (v_o0_figures : Nat → Int32) (v_o0_causeBits : Nat → Int32) (v_o0_size : Int32) (v_o0_lost : Int32) (v_o0_guarded : Int32) (v_o0_day : Int32) (p1 : Int32) (p2 : Int32) (F : Nat) (res : Int32) (h : f_X4_daysUntilLost F v_o0_kinds v_o0_figures v_o0_causeBits v_o0_size v_o0_guarded v_o0_day p1 p2 = some res) : Met l yX4_daysUntilLost wsX4_daysUntilLost { frames := 2, cells := 0, slots := 0, locals := 52 } (xk_Pc D cA sa sv (wX7 cA a_o0 a_o0_kinds a_o0_figures a_o0_causeBits v_o0_kinds v_o0_figures v_o0_causeBits v_o0_size v_o0_lost v_o0_guarded v_o0_day) sz [.ref a_o0, .int p1, .int p2]) (xk_Q D (va_A (wX7 cA a_o0 a_o0_kinds a_o0_figures a_o0_causeBits v_o0_kinds v_o0_figures v_o0_causeBits v_o0_size v_o0_lost v_o0_guarded v_o0_day) sz) (some (.int res)) (wX7 cA a_o0 a_o0_kinds a_o0_figures a_o0_causeBits v_o0_kinds v_o0_figures v_o0_causeBits v_o0_size v_o0_lost v_o0_guarded v_o0_day)) 0 0 (va_A (wX7 cA a_o0 a_o0_kinds a_o0_figures a_o0_causeBits v_o0_kinds v_o0_figures v_o0_causeBits v_o0_size v_o0_lost v_o0_guarded v_o0_day) sz) := by
  refine xk_met (fun res : Int32 => some (.int res)) (fun res : Int32 => (wX7 cA a_o0 a_o0_kinds a_o0_figures a_o0_causeBits v_o0_kinds v_o0_figures v_o0_causeBits v_o0_size v_o0_lost v_o0_guarded v_o0_day)) res (cc := cX4_daysUntilLost) (maxL := 8) (ret := (some .int)) (by decide) rfl (Nat.le_of_ble_eq_true rfl) ?_
  intro p e s m args below meth c A Q ls hQ hx hb hr hlk hml hown hts hK hP hD hS hA hl
  have S : CallFix p m c cX4_daysUntilLost 8 s args wsX4_daysUntilLost RX4 := ⟨hx, hb, hml, hown, hts⟩
  have hl : lv_has ls 8 [(0, .ref a_o0), (1, .int p1), (2, .int p2)] := hl
  have hinX7 : ∀ w ∈ u_ws RX7 TX7 7, w ∈ wsX4_daysUntilLost := fun _ h => List.mem_cons_of_mem _ (List.mem_append_right _ (h))
  have J_73 : ∀ (k_13r : Int32 → Int32 → Int32 → Int32 → Option (Int32)), (∀ (x3 : Int32) (x4 : Int32) (x5 : Int32) (x6 : Int32) (res : Int32), k_13r x3 x4 x5 x6 = some res → ∀ (H : Heap) (locs : List Loc) (ls : Array Slot), va_P D vwCl (wX7 cA a_o0 a_o0_kinds a_o0_figures a_o0_causeBits v_o0_kinds v_o0_figures v_o0_causeBits v_o0_size v_o0_lost v_o0_guarded v_o0_day) H → va_D A (wX7 cA a_o0 a_o0_kinds a_o0_figures a_o0_causeBits v_o0_kinds v_o0_figures v_o0_causeBits v_o0_size v_o0_lost v_o0_guarded v_o0_day) → va_S A s.heap H locs → lv_has ls 8 [(0, .ref a_o0), (3, .int x3), (4, .int x4), (5, .int x5), (6, .int x6)] → W p l e { frames := 2, cells := 0, slots := 0, locals := 52 } s m args below meth c H locs 0 0 (Q res) (F0 m 13 ls [])) → ∀ (s0 : Int32) (x3 : Int32) (x6 : Int32) (x7 : Int32) (res : Int32), f_X4_daysUntilLost_73 F v_o0_kinds v_o0_figures v_o0_causeBits v_o0_size v_o0_guarded v_o0_day p1 p2 k_13r s0 x3 x6 x7 = some res → ∀ (H : Heap) (locs : List Loc) (ls : Array Slot), va_P D vwCl (wX7 cA a_o0 a_o0_kinds a_o0_figures a_o0_causeBits v_o0_kinds v_o0_figures v_o0_causeBits v_o0_size v_o0_lost v_o0_guarded v_o0_day) H → va_D A (wX7 cA a_o0 a_o0_kinds a_o0_figures a_o0_causeBits v_o0_kinds v_o0_figures v_o0_causeBits v_o0_size v_o0_lost v_o0_guarded v_o0_day) → va_S A s.heap H locs → lv_has ls 8 [(0, .ref a_o0), (3, .int x3), (6, .int x6), (7, .int x7)] → W p l e { frames := 2, cells := 0, slots := 0, locals := 52 } s m args below meth c H locs 0 0 (Q res) (F0 m 73 ls [.int s0]) := by
    intro k_13r hk_13r s0 x3 x6 x7 res h H locs ls hP hD hS hl
    unfold f_X4_daysUntilLost_73 at h
    refine lv_istore (lv' := [(5, .int s0), (0, .ref a_o0), (3, .int x3), (6, .int x6), (7, .int x7)]) hx hb dX4_daysUntilLost_73 hl (by decide) rfl (fun ls hl => ?_)
    refine lv_iload hx hb dX4_daysUntilLost_75 (lv_at hl 4 rfl) ?_
    refine lv_istore (lv' := [(4, .int x7), (5, .int s0), (0, .ref a_o0), (3, .int x3), (6, .int x6), (7, .int x7)]) hx hb dX4_daysUntilLost_77 hl (by decide) rfl (fun ls hl => ?_)
    refine lv_iinc (v := (x6 + 1)) (lv' := [(6, .int (x6 + 1)), (4, .int x7), (5, .int s0), (0, .ref a_o0), (3, .int x3), (7, .int x7)]) hx hb dX4_daysUntilLost_79 hl (k := 4) rfl rfl (by decide) rfl (fun ls hl => ?_)
    refine lv_goto (tgt := 13) hx hb dX4_daysUntilLost_82 (by decide) ?_
    exact hk_13r x3 x7 s0 (x6 + 1) _ h _ _ _ hP hD hS (lv_sub hl [3, 4, 1, 2, 0] rfl)
  have J_13 : ∀ (n : Nat) (x3 : Int32) (x4 : Int32) (x5 : Int32) (x6 : Int32) (res : Int32), f_X4_daysUntilLost_13 F v_o0_kinds v_o0_figures v_o0_causeBits v_o0_size v_o0_guarded v_o0_day p1 p2 n x3 x4 x5 x6 = some res → ∀ (H : Heap) (locs : List Loc) (ls : Array Slot), va_P D vwCl (wX7 cA a_o0 a_o0_kinds a_o0_figures a_o0_causeBits v_o0_kinds v_o0_figures v_o0_causeBits v_o0_size v_o0_lost v_o0_guarded v_o0_day) H → va_D A (wX7 cA a_o0 a_o0_kinds a_o0_figures a_o0_causeBits v_o0_kinds v_o0_figures v_o0_causeBits v_o0_size v_o0_lost v_o0_guarded v_o0_day) → va_S A s.heap H locs → lv_has ls 8 [(0, .ref a_o0), (3, .int x3), (4, .int x4), (5, .int x5), (6, .int x6)] → W p l e { frames := 2, cells := 0, slots := 0, locals := 52 } s m args below meth c H locs 0 0 (Q res) (F0 m 13 ls []) := by
    intro n
    induction n with
    | zero => intro x3 x4 x5 x6 res h; exact nomatch (show (none : Option (Int32)) = some res from h)
    | succ n ih =>
      intro x3 x4 x5 x6 res h H locs ls hP hD hS hl
      rw [f_X4_daysUntilLost_13] at h
      refine lv_iload hx hb dX4_daysUntilLost_13 (lv_at hl 4 rfl) ?_
      refine lv_bipush (v := 60) hx hb dX4_daysUntilLost_15 (by decide) ?_
      refine lv_icmp_gt (tgt := 85) hx hb dX4_daysUntilLost_17 (by decide) (fun c_1 => ?_) (fun c_1 => ?_)
      · have h := (if_pos c_1).symm.trans h
        refine lv_bipush (v := (-9)) hx hb dX4_daysUntilLost_85 (by decide) ?_
        obtain rfl := Option.some.inj h
        exact xk_iret hx hb hr hlk hP hD hS (hQ _) dX4_daysUntilLost_87
      · have h := (if_neg c_1).symm.trans h
        refine lv_iload hx hb dX4_daysUntilLost_20 (lv_at hl 3 rfl) ?_
        refine lv_bipush (v := 10) hx hb dX4_daysUntilLost_22 (by decide) ?_
        refine lv_icmp_ge (tgt := 85) hx hb dX4_daysUntilLost_24 (by decide) (fun c_2 => ?_) (fun c_2 => ?_)
        · have h := (if_pos c_2).symm.trans h
          refine lv_bipush (v := (-9)) hx hb dX4_daysUntilLost_85 (by decide) ?_
          obtain rfl := Option.some.inj h
          exact xk_iret hx hb hr hlk hP hD hS (hQ _) dX4_daysUntilLost_87
        · have h := (if_neg c_2).symm.trans h
          refine lv_iload hx hb dX4_daysUntilLost_27 (lv_at hl 2 rfl) ?_
          refine lv_iload_n hx hb dX4_daysUntilLost_29 rfl (lv_at hl 1 rfl) ?_
          refine lv_iand hx hb dX4_daysUntilLost_30 ?_
          refine lv_if_eq (tgt := 37) hx hb dX4_daysUntilLost_31 (by decide) (fun c_3 => ?_) (fun c_3 => ?_)
          · have h := (if_pos c_3).symm.trans h
            refine lv_aload_n hx hb dX4_daysUntilLost_37 rfl (lv_at hl 0 rfl) ?_
            refine lv_iload hx hb dX4_daysUntilLost_38 (lv_at hl 2 rfl) ?_
            refine lv_aload_n hx hb dX4_daysUntilLost_40 rfl (lv_at hl 0 rfl) ?_
            refine va_getN (ci := 2) (v := .int v_o0_guarded) (C := RX7) (T := TX7) (N := 7) hx hb hts hinX7 hown hK.1 hP 0 rfl rfl 5 (by decide) (va_Nw.use rfl (hK.2.1 (.fieldLinkNest RX4 9 RX7 "guarded" "I" RX9) (List.mem_of_getElem? (i := 8) rfl))) (fun _ h9 => h9) rfl dX4_daysUntilLost_41 ?_
            refine lv_aload_n hx hb dX4_daysUntilLost_44 rfl (lv_at hl 0 rfl) ?_
            refine va_getN (ci := 2) (v := .int v_o0_day) (C := RX7) (T := TX7) (N := 7) hx hb hts hinX7 hown hK.1 hP 0 rfl rfl 6 (by decide) (va_Nw.use rfl (hK.2.1 (.fieldLinkNest RX4 15 RX7 "day" "I" RX9) (List.mem_of_getElem? (i := 9) rfl))) (fun _ h9 => h9) rfl dX4_daysUntilLost_45 ?_
            refine lv_iload hx hb dX4_daysUntilLost_48 (lv_at hl 4 rfl) ?_
            refine lv_iadd hx hb dX4_daysUntilLost_50 ?_
            refine lv_iconst (v := 1) hx hb dX4_daysUntilLost_51 (by decide) ?_
            refine lv_iadd hx hb dX4_daysUntilLost_52 ?_
            obtain ⟨x_4, hc_4, h⟩ := bd_some h
            refine xk_V (rest := []) (As := [.int x4, .int v_o0_guarded, .int ((v_o0_day + x6) + 1)]) (stk := [.int x_4]) (wn := (wX7 cA a_o0 a_o0_kinds a_o0_figures a_o0_causeBits v_o0_kinds v_o0_figures v_o0_causeBits v_o0_size v_o0_lost v_o0_guarded v_o0_day)) (v := (some (.int x_4))) (wr := []) gX4_daysUntilLost_X7_behindDay rfl hdV_X7_behindDay rfl rfl (c_X7_behindDay l D cA sa sv a_o0 a_o0_kinds a_o0_figures a_o0_causeBits _ v_o0_kinds v_o0_figures v_o0_causeBits v_o0_size v_o0_lost v_o0_guarded v_o0_day x4 v_o0_guarded ((v_o0_day + x6) + 1) F x_4 hc_4) (ci := 2) rfl (q0 := 0) rfl S hK hP hD hS hA [0, 1, 2, 3] [] [0, 1, 2, 3] rfl rfl rfl rfl rfl rfl rfl ⟨Nat.le_of_ble_eq_true rfl, Nat.le_of_ble_eq_true rfl⟩ ⟨Nat.le_refl 0, Nat.le_refl 0⟩ rfl hl.1 rfl (Nat.le_of_ble_eq_true rfl) rfl dX4_daysUntilLost_53 (fun H locs hP hD hS => ?_)
            refine lv_istore (lv' := [(7, .int x_4), (0, .ref a_o0), (3, .int x3), (4, .int x4), (5, .int x5), (6, .int x6)]) hx hb dX4_daysUntilLost_56 hl (by decide) rfl (fun ls hl => ?_)
            refine lv_iload hx hb dX4_daysUntilLost_58 (lv_at hl 0 rfl) ?_
            refine lv_iload hx hb dX4_daysUntilLost_60 (lv_at hl 3 rfl) ?_
            refine lv_icmp_ne (tgt := 72) hx hb dX4_daysUntilLost_62 (by decide) (fun c_5 => ?_) (fun c_5 => ?_)
            · have h := (if_neg c_5).symm.trans h
              refine lv_iconst (v := 0) hx hb dX4_daysUntilLost_72 (by decide) ?_
              exact J_73 (f_X4_daysUntilLost_13 F v_o0_kinds v_o0_figures v_o0_causeBits v_o0_size v_o0_guarded v_o0_day p1 p2 n) ih 0 x3 x6 x_4 _ h _ _ _ hP hD hS (lv_sub hl [1, 2, 5, 0] rfl)
            · have h := (if_pos c_5).symm.trans h
              refine lv_iload hx hb dX4_daysUntilLost_65 (lv_at hl 4 rfl) ?_
              refine lv_iconst (v := 1) hx hb dX4_daysUntilLost_67 (by decide) ?_
              refine lv_iadd hx hb dX4_daysUntilLost_68 ?_
              refine lv_goto (tgt := 73) hx hb dX4_daysUntilLost_69 (by decide) ?_
              exact J_73 (f_X4_daysUntilLost_13 F v_o0_kinds v_o0_figures v_o0_causeBits v_o0_size v_o0_guarded v_o0_day p1 p2 n) ih (x5 + 1) x3 x6 x_4 _ h _ _ _ hP hD hS (lv_sub hl [1, 2, 5, 0] rfl)
          · have h := (if_neg c_3).symm.trans h
            refine lv_iload hx hb dX4_daysUntilLost_34 (lv_at hl 4 rfl) ?_
            obtain rfl := Option.some.inj h
            exact xk_iret hx hb hr hlk hP hD hS (hQ _) dX4_daysUntilLost_36
  unfold f_X4_daysUntilLost at h
  refine lv_iconst (v := 1) hx hb dX4_daysUntilLost_0 (by decide) ?_
  refine lv_iload_n hx hb dX4_daysUntilLost_1 rfl (lv_at hl 1 rfl) ?_
  refine lv_ishl hx hb dX4_daysUntilLost_2 ?_
  refine lv_istore_n (lv' := [(3, .int (1 <<< (p1 &&& 31))), (0, .ref a_o0), (1, .int p1), (2, .int p2)]) hx hb dX4_daysUntilLost_3 rfl hl (by decide) rfl (fun ls hl => ?_)
  refine lv_iload_n hx hb dX4_daysUntilLost_4 rfl (lv_at hl 3 rfl) ?_
  refine lv_istore (lv' := [(4, .int p2), (3, .int (1 <<< (p1 &&& 31))), (0, .ref a_o0), (1, .int p1), (2, .int p2)]) hx hb dX4_daysUntilLost_5 hl (by decide) rfl (fun ls hl => ?_)
  refine lv_iconst (v := 0) hx hb dX4_daysUntilLost_7 (by decide) ?_
  refine lv_istore (lv' := [(5, .int 0), (4, .int p2), (3, .int (1 <<< (p1 &&& 31))), (0, .ref a_o0), (1, .int p1), (2, .int p2)]) hx hb dX4_daysUntilLost_8 hl (by decide) rfl (fun ls hl => ?_)
  refine lv_iconst (v := 0) hx hb dX4_daysUntilLost_10 (by decide) ?_
  refine lv_istore (lv' := [(6, .int 0), (5, .int 0), (4, .int p2), (3, .int (1 <<< (p1 &&& 31))), (0, .ref a_o0), (1, .int p1), (2, .int p2)]) hx hb dX4_daysUntilLost_11 hl (by decide) rfl (fun ls hl => ?_)
  exact J_13 F (1 <<< (p1 &&& 31)) p2 0 0 _ h _ _ _ hP hD hS (lv_sub hl [4, 3, 2, 1, 0] rfl)
set_option maxHeartbeats 4000000 in
set_option maxRecDepth 100000 in
theorem c_X4_firstToFall (l : Launch) (D : va_G) (cA : ClassId) (sa sv : Nat → Nat) (a_o0 a_o0_kinds a_o0_figures a_o0_causeBits : Nat) (sz : Nat) (v_o0_kinds : Nat → Int32) (v_o0_figures : Nat → Int32) (v_o0_causeBits : Nat → Int32) (v_o0_size : Int32) (v_o0_lost : Int32) (v_o0_guarded : Int32) (v_o0_day : Int32) (F : Nat) (res : Int32) (h : f_X4_firstToFall F v_o0_kinds v_o0_figures v_o0_causeBits v_o0_size v_o0_lost v_o0_guarded v_o0_day  = some res) : Met l yX4_firstToFall wsX4_firstToFall { frames := 2, cells := 0, slots := 0, locals := 52 } (xk_Pc D cA sa sv (wX7 cA a_o0 a_o0_kinds a_o0_figures a_o0_causeBits v_o0_kinds v_o0_figures v_o0_causeBits v_o0_size v_o0_lost v_o0_guarded v_o0_day) sz [.ref a_o0]) (xk_Q D (va_A (wX7 cA a_o0 a_o0_kinds a_o0_figures a_o0_causeBits v_o0_kinds v_o0_figures v_o0_causeBits v_o0_size v_o0_lost v_o0_guarded v_o0_day) sz) (some (.int res)) (wX7 cA a_o0 a_o0_kinds a_o0_figures a_o0_causeBits v_o0_kinds v_o0_figures v_o0_causeBits v_o0_size v_o0_lost v_o0_guarded v_o0_day)) 0 0 (va_A (wX7 cA a_o0 a_o0_kinds a_o0_figures a_o0_causeBits v_o0_kinds v_o0_figures v_o0_causeBits v_o0_size v_o0_lost v_o0_guarded v_o0_day) sz) := by
  refine xk_met (fun res : Int32 => some (.int res)) (fun res : Int32 => (wX7 cA a_o0 a_o0_kinds a_o0_figures a_o0_causeBits v_o0_kinds v_o0_figures v_o0_causeBits v_o0_size v_o0_lost v_o0_guarded v_o0_day)) res (cc := cX4_firstToFall) (maxL := 3) (ret := (some .int)) (by decide) rfl (Nat.le_of_ble_eq_true rfl) ?_
  intro p e s m args below meth c A Q ls hQ hx hb hr hlk hml hown hts hK hP hD hS hA hl
  have S : CallFix p m c cX4_firstToFall 3 s args wsX4_firstToFall RX4 := ⟨hx, hb, hml, hown, hts⟩
  have hl : lv_has ls 3 [(0, .ref a_o0)] := hl
  have hinX7 : ∀ w ∈ u_ws RX7 TX7 7, w ∈ wsX4_firstToFall := fun _ h => List.mem_cons_of_mem _ (List.mem_append_right _ (h))
  have J_7 : ∀ (n : Nat) (x1 : Int32) (x2 : Int32) (res : Int32), f_X4_firstToFall_7 F v_o0_kinds v_o0_figures v_o0_causeBits v_o0_size v_o0_lost v_o0_guarded v_o0_day n x1 x2 = some res → ∀ (H : Heap) (locs : List Loc) (ls : Array Slot), va_P D vwCl (wX7 cA a_o0 a_o0_kinds a_o0_figures a_o0_causeBits v_o0_kinds v_o0_figures v_o0_causeBits v_o0_size v_o0_lost v_o0_guarded v_o0_day) H → va_D A (wX7 cA a_o0 a_o0_kinds a_o0_figures a_o0_causeBits v_o0_kinds v_o0_figures v_o0_causeBits v_o0_size v_o0_lost v_o0_guarded v_o0_day) → va_S A s.heap H locs → lv_has ls 3 [(0, .ref a_o0), (1, .int x1), (2, .int x2)] → W p l e { frames := 2, cells := 0, slots := 0, locals := 52 } s m args below meth c H locs 0 0 (Q res) (F0 m 7 ls []) := by
    intro n
    induction n with
    | zero => intro x1 x2 res h; exact nomatch (show (none : Option (Int32)) = some res from h)
    | succ n ih =>
      intro x1 x2 res h H locs ls hP hD hS hl
      rw [f_X4_firstToFall_7] at h
      refine lv_iload_n hx hb dX4_firstToFall_7 rfl (lv_at hl 2 rfl) ?_
      refine lv_bipush (v := 60) hx hb dX4_firstToFall_8 (by decide) ?_
      refine lv_icmp_gt (tgt := 55) hx hb dX4_firstToFall_10 (by decide) (fun c_1 => ?_) (fun c_1 => ?_)
      · have h := (if_pos c_1).symm.trans h
        refine lv_bipush (v := (-9)) hx hb dX4_firstToFall_55 (by decide) ?_
        obtain rfl := Option.some.inj h
        exact xk_iret hx hb hr hlk hP hD hS (hQ _) dX4_firstToFall_57
      · have h := (if_neg c_1).symm.trans h
        refine lv_aload_n hx hb dX4_firstToFall_13 rfl (lv_at hl 0 rfl) ?_
        refine lv_iload_n hx hb dX4_firstToFall_14 rfl (lv_at hl 1 rfl) ?_
        refine lv_aload_n hx hb dX4_firstToFall_15 rfl (lv_at hl 0 rfl) ?_
        refine va_getN (ci := 2) (v := .int v_o0_guarded) (C := RX7) (T := TX7) (N := 7) hx hb hts hinX7 hown hK.1 hP 0 rfl rfl 5 (by decide) (va_Nw.use rfl (hK.2.1 (.fieldLinkNest RX4 9 RX7 "guarded" "I" RX9) (List.mem_of_getElem? (i := 8) rfl))) (fun _ h9 => h9) rfl dX4_firstToFall_16 ?_
        refine lv_aload_n hx hb dX4_firstToFall_19 rfl (lv_at hl 0 rfl) ?_
        refine va_getN (ci := 2) (v := .int v_o0_day) (C := RX7) (T := TX7) (N := 7) hx hb hts hinX7 hown hK.1 hP 0 rfl rfl 6 (by decide) (va_Nw.use rfl (hK.2.1 (.fieldLinkNest RX4 15 RX7 "day" "I" RX9) (List.mem_of_getElem? (i := 9) rfl))) (fun _ h9 => h9) rfl dX4_firstToFall_20 ?_
        refine lv_iload_n hx hb dX4_firstToFall_23 rfl (lv_at hl 2 rfl) ?_
        refine lv_iadd hx hb dX4_firstToFall_24 ?_
        obtain ⟨x_2, hc_2, h⟩ := bd_some h
        refine xk_V (rest := []) (As := [.int x1, .int v_o0_guarded, .int (v_o0_day + x2)]) (stk := [.int x_2]) (wn := (wX7 cA a_o0 a_o0_kinds a_o0_figures a_o0_causeBits v_o0_kinds v_o0_figures v_o0_causeBits v_o0_size v_o0_lost v_o0_guarded v_o0_day)) (v := (some (.int x_2))) (wr := []) gX4_firstToFall_X7_behindDay rfl hdV_X7_behindDay rfl rfl (c_X7_behindDay l D cA sa sv a_o0 a_o0_kinds a_o0_figures a_o0_causeBits _ v_o0_kinds v_o0_figures v_o0_causeBits v_o0_size v_o0_lost v_o0_guarded v_o0_day x1 v_o0_guarded (v_o0_day + x2) F x_2 hc_2) (ci := 2) rfl (q0 := 0) rfl S hK hP hD hS hA [0, 1, 2, 3] [] [0, 1, 2, 3] rfl rfl rfl rfl rfl rfl rfl ⟨Nat.le_of_ble_eq_true rfl, Nat.le_of_ble_eq_true rfl⟩ ⟨Nat.le_refl 0, Nat.le_refl 0⟩ rfl hl.1 rfl (Nat.le_of_ble_eq_true rfl) rfl dX4_firstToFall_25 (fun H locs hP hD hS => ?_)
        refine lv_istore_n (lv' := [(1, .int x_2), (0, .ref a_o0), (2, .int x2)]) hx hb dX4_firstToFall_28 rfl hl (by decide) rfl (fun ls hl => ?_)
        refine lv_iload_n hx hb dX4_firstToFall_29 rfl (lv_at hl 0 rfl) ?_
        refine lv_aload_n hx hb dX4_firstToFall_30 rfl (lv_at hl 1 rfl) ?_
        refine va_getN (ci := 2) (v := .int v_o0_lost) (C := RX7) (T := TX7) (N := 7) hx hb hts hinX7 hown hK.1 hP 0 rfl rfl 4 (by decide) (va_Nw.use rfl (hK.2.1 (.fieldLinkNest RX4 26 RX7 "lost" "I" RX9) (List.mem_of_getElem? (i := 10) rfl))) (fun _ h9 => h9) rfl dX4_firstToFall_31 ?_
        refine lv_icmp_eq (tgt := 49) hx hb dX4_firstToFall_34 (by decide) (fun c_3 => ?_) (fun c_3 => ?_)
        · have h := (if_pos c_3).symm.trans h
          refine lv_iinc (v := (x2 + 1)) (lv' := [(2, .int (x2 + 1)), (1, .int x_2), (0, .ref a_o0)]) hx hb dX4_firstToFall_49 hl (k := 2) rfl rfl (by decide) rfl (fun ls hl => ?_)
          refine lv_goto (tgt := 7) hx hb dX4_firstToFall_52 (by decide) ?_
          exact ih x_2 (x2 + 1) _ h _ _ _ hP hD hS (lv_sub hl [2, 1, 0] rfl)
        · have h := (if_neg c_3).symm.trans h
          refine lv_iload_n hx hb dX4_firstToFall_37 rfl (lv_at hl 0 rfl) ?_
          refine lv_aload_n hx hb dX4_firstToFall_38 rfl (lv_at hl 1 rfl) ?_
          refine va_getN (ci := 2) (v := .int v_o0_lost) (C := RX7) (T := TX7) (N := 7) hx hb hts hinX7 hown hK.1 hP 0 rfl rfl 4 (by decide) (va_Nw.use rfl (hK.2.1 (.fieldLinkNest RX4 26 RX7 "lost" "I" RX9) (List.mem_of_getElem? (i := 10) rfl))) (fun _ h9 => h9) rfl dX4_firstToFall_39 ?_
          refine lv_iconst (v := (-1)) hx hb dX4_firstToFall_42 (by decide) ?_
          refine lv_ixor hx hb dX4_firstToFall_43 ?_
          refine lv_iand hx hb dX4_firstToFall_44 ?_
          obtain ⟨x_4, hc_4, h⟩ := bd_some h
          refine xk_S (rest := []) (As := [.int (x_2 &&& (v_o0_lost ^^^ (-1)))]) (stk := [.int x_4]) (wn := (wX7 cA a_o0 a_o0_kinds a_o0_figures a_o0_causeBits v_o0_kinds v_o0_figures v_o0_causeBits v_o0_size v_o0_lost v_o0_guarded v_o0_day)) (v := (some (.int x_4))) (wr := [(a_o0, .inr (2, [.ref a_o0_kinds, .ref a_o0_figures, .ref a_o0_causeBits, .int v_o0_size, .int v_o0_lost, .int v_o0_guarded, .int v_o0_day])), (a_o0_kinds, .inl (cA, 9, .inl v_o0_kinds)), (a_o0_figures, .inl (cA, 9, .inl v_o0_figures)), (a_o0_causeBits, .inl (cA, 9, .inl v_o0_causeBits))]) gX4_firstToFall_J6_numberOfTrailingZeros_0f7a4 rfl hdS_J6_numberOfTrailingZeros_0f7a4 rfl rfl (c_J6_numberOfTrailingZeros_0f7a4 l D cA sa sv _ (x_2 &&& (v_o0_lost ^^^ (-1))) x_4 hc_4) S hK hP hD hS hA [] [0, 1, 2, 3] [0, 1, 2, 3] rfl rfl rfl rfl rfl rfl rfl ⟨Nat.le_of_ble_eq_true rfl, Nat.le_of_ble_eq_true rfl⟩ ⟨Nat.le_refl 0, Nat.le_refl 0⟩ rfl hl.1 rfl (Nat.le_of_ble_eq_true rfl) rfl dX4_firstToFall_45 (fun H locs hP hD hS => ?_)
          obtain rfl := Option.some.inj h
          exact xk_iret hx hb hr hlk hP hD hS (hQ _) dX4_firstToFall_48
  unfold f_X4_firstToFall at h
  refine lv_aload_n hx hb dX4_firstToFall_0 rfl (lv_at hl 0 rfl) ?_
  refine va_getN (ci := 2) (v := .int v_o0_lost) (C := RX7) (T := TX7) (N := 7) hx hb hts hinX7 hown hK.1 hP 0 rfl rfl 4 (by decide) (va_Nw.use rfl (hK.2.1 (.fieldLinkNest RX4 26 RX7 "lost" "I" RX9) (List.mem_of_getElem? (i := 10) rfl))) (fun _ h9 => h9) rfl dX4_firstToFall_1 ?_
  refine lv_istore_n (lv' := [(1, .int v_o0_lost), (0, .ref a_o0)]) hx hb dX4_firstToFall_4 rfl hl (by decide) rfl (fun ls hl => ?_)
  refine lv_iconst (v := 1) hx hb dX4_firstToFall_5 (by decide) ?_
  refine lv_istore_n (lv' := [(2, .int 1), (1, .int v_o0_lost), (0, .ref a_o0)]) hx hb dX4_firstToFall_6 rfl hl (by decide) rfl (fun ls hl => ?_)
  exact J_7 F v_o0_lost 1 _ h _ _ _ hP hD hS (lv_sub hl [2, 1, 0] rfl)
set_option maxHeartbeats 4000000 in
set_option maxRecDepth 100000 in
theorem c_X4_daysUntilStill (l : Launch) (D : va_G) (cA : ClassId) (sa sv : Nat → Nat) (a_o0 a_o0_kinds a_o0_figures a_o0_causeBits : Nat) (sz : Nat) (v_o0_kinds : Nat → Int32) (v_o0_figures : Nat → Int32) (v_o0_causeBits : Nat → Int32) (v_o0_size : Int32) (v_o0_lost : Int32) (v_o0_guarded : Int32) (v_o0_day : Int32) (F : Nat) (res : Int32) (h : f_X4_daysUntilStill F v_o0_kinds v_o0_figures v_o0_causeBits v_o0_size v_o0_lost v_o0_guarded v_o0_day  = some res) : Met l yX4_daysUntilStill wsX4_daysUntilStill { frames := 3, cells := 0, slots := 0, locals := 80 } (xk_Pc D cA sa sv (wX7 cA a_o0 a_o0_kinds a_o0_figures a_o0_causeBits v_o0_kinds v_o0_figures v_o0_causeBits v_o0_size v_o0_lost v_o0_guarded v_o0_day) sz [.ref a_o0]) (xk_Q D (va_A (wX7 cA a_o0 a_o0_kinds a_o0_figures a_o0_causeBits v_o0_kinds v_o0_figures v_o0_causeBits v_o0_size v_o0_lost v_o0_guarded v_o0_day) sz) (some (.int res)) (wX7 cA a_o0 a_o0_kinds a_o0_figures a_o0_causeBits v_o0_kinds v_o0_figures v_o0_causeBits v_o0_size v_o0_lost v_o0_guarded v_o0_day)) 0 0 (va_A (wX7 cA a_o0 a_o0_kinds a_o0_figures a_o0_causeBits v_o0_kinds v_o0_figures v_o0_causeBits v_o0_size v_o0_lost v_o0_guarded v_o0_day) sz) := by
  refine xk_met (fun res : Int32 => some (.int res)) (fun res : Int32 => (wX7 cA a_o0 a_o0_kinds a_o0_figures a_o0_causeBits v_o0_kinds v_o0_figures v_o0_causeBits v_o0_size v_o0_lost v_o0_guarded v_o0_day)) res (cc := cX4_daysUntilStill) (maxL := 3) (ret := (some .int)) (by decide) rfl (Nat.le_of_ble_eq_true rfl) ?_
  intro p e s m args below meth c A Q ls hQ hx hb hr hlk hml hown hts hK hP hD hS hA hl
  have S : CallFix p m c cX4_daysUntilStill 3 s args wsX4_daysUntilStill RX4 := ⟨hx, hb, hml, hown, hts⟩
  have hl : lv_has ls 3 [(0, .ref a_o0)] := hl
  have hinX7 : ∀ w ∈ u_ws RX7 TX7 7, w ∈ wsX4_daysUntilStill := fun _ h => List.mem_cons_of_mem _ (List.mem_append_right _ (h))
  have J_7 : ∀ (n : Nat) (x1 : Int32) (x2 : Int32) (res : Int32), f_X4_daysUntilStill_7 F v_o0_kinds v_o0_figures v_o0_causeBits v_o0_size v_o0_lost v_o0_guarded v_o0_day n x1 x2 = some res → ∀ (H : Heap) (locs : List Loc) (ls : Array Slot), va_P D vwCl (wX7 cA a_o0 a_o0_kinds a_o0_figures a_o0_causeBits v_o0_kinds v_o0_figures v_o0_causeBits v_o0_size v_o0_lost v_o0_guarded v_o0_day) H → va_D A (wX7 cA a_o0 a_o0_kinds a_o0_figures a_o0_causeBits v_o0_kinds v_o0_figures v_o0_causeBits v_o0_size v_o0_lost v_o0_guarded v_o0_day) → va_S A s.heap H locs → lv_has ls 3 [(0, .ref a_o0), (1, .int x1), (2, .int x2)] → W p l e { frames := 3, cells := 0, slots := 0, locals := 80 } s m args below meth c H locs 0 0 (Q res) (F0 m 7 ls []) := by
    intro n
    induction n with
    | zero => intro x1 x2 res h; exact nomatch (show (none : Option (Int32)) = some res from h)
    | succ n ih =>
      intro x1 x2 res h H locs ls hP hD hS hl
      rw [f_X4_daysUntilStill_7] at h
      refine lv_iload_n hx hb dX4_daysUntilStill_7 rfl (lv_at hl 2 rfl) ?_
      refine lv_bipush (v := 60) hx hb dX4_daysUntilStill_8 (by decide) ?_
      refine lv_icmp_gt (tgt := 60) hx hb dX4_daysUntilStill_10 (by decide) (fun c_1 => ?_) (fun c_1 => ?_)
      · have h := (if_pos c_1).symm.trans h
        refine lv_bipush (v := (-9)) hx hb dX4_daysUntilStill_60 (by decide) ?_
        obtain rfl := Option.some.inj h
        exact xk_iret hx hb hr hlk hP hD hS (hQ _) dX4_daysUntilStill_62
      · have h := (if_neg c_1).symm.trans h
        refine lv_aload_n hx hb dX4_daysUntilStill_13 rfl (lv_at hl 0 rfl) ?_
        refine lv_iload_n hx hb dX4_daysUntilStill_14 rfl (lv_at hl 1 rfl) ?_
        refine lv_aload_n hx hb dX4_daysUntilStill_15 rfl (lv_at hl 0 rfl) ?_
        refine va_getN (ci := 2) (v := .int v_o0_guarded) (C := RX7) (T := TX7) (N := 7) hx hb hts hinX7 hown hK.1 hP 0 rfl rfl 5 (by decide) (va_Nw.use rfl (hK.2.1 (.fieldLinkNest RX4 9 RX7 "guarded" "I" RX9) (List.mem_of_getElem? (i := 8) rfl))) (fun _ h9 => h9) rfl dX4_daysUntilStill_16 ?_
        refine lv_aload_n hx hb dX4_daysUntilStill_19 rfl (lv_at hl 0 rfl) ?_
        refine va_getN (ci := 2) (v := .int v_o0_day) (C := RX7) (T := TX7) (N := 7) hx hb hts hinX7 hown hK.1 hP 0 rfl rfl 6 (by decide) (va_Nw.use rfl (hK.2.1 (.fieldLinkNest RX4 15 RX7 "day" "I" RX9) (List.mem_of_getElem? (i := 9) rfl))) (fun _ h9 => h9) rfl dX4_daysUntilStill_20 ?_
        refine lv_iload_n hx hb dX4_daysUntilStill_23 rfl (lv_at hl 2 rfl) ?_
        refine lv_iadd hx hb dX4_daysUntilStill_24 ?_
        refine lv_bipush (v := 12) hx hb dX4_daysUntilStill_25 (by decide) ?_
        obtain ⟨x_2, hc_2, h⟩ := bd_some h
        refine xk_V (rest := []) (As := [.int x1, .int v_o0_guarded, .int (v_o0_day + x2), .int 12]) (stk := [.int x_2]) (wn := (wX7 cA a_o0 a_o0_kinds a_o0_figures a_o0_causeBits v_o0_kinds v_o0_figures v_o0_causeBits v_o0_size v_o0_lost v_o0_guarded v_o0_day)) (v := (some (.int x_2))) (wr := []) gX4_daysUntilStill_X7_behindDays rfl hdV_X7_behindDays rfl rfl (c_X7_behindDays l D cA sa sv a_o0 a_o0_kinds a_o0_figures a_o0_causeBits _ v_o0_kinds v_o0_figures v_o0_causeBits v_o0_size v_o0_lost v_o0_guarded v_o0_day x1 v_o0_guarded (v_o0_day + x2) 12 F x_2 hc_2) (ci := 2) rfl (q0 := 0) rfl S hK hP hD hS hA [0, 1, 2, 3] [] [0, 1, 2, 3] rfl rfl rfl rfl rfl rfl rfl ⟨Nat.le_of_ble_eq_true rfl, Nat.le_of_ble_eq_true rfl⟩ ⟨Nat.le_refl 0, Nat.le_refl 0⟩ rfl hl.1 rfl (Nat.le_of_ble_eq_true rfl) rfl dX4_daysUntilStill_27 (fun H locs hP hD hS => ?_)
        refine lv_iload_n hx hb dX4_daysUntilStill_30 rfl (lv_at hl 1 rfl) ?_
        refine lv_icmp_ne (tgt := 36) hx hb dX4_daysUntilStill_31 (by decide) (fun c_3 => ?_) (fun c_3 => ?_)
        · have h := (if_neg c_3).symm.trans h
          refine lv_aload_n hx hb dX4_daysUntilStill_36 rfl (lv_at hl 0 rfl) ?_
          refine lv_iload_n hx hb dX4_daysUntilStill_37 rfl (lv_at hl 1 rfl) ?_
          refine lv_aload_n hx hb dX4_daysUntilStill_38 rfl (lv_at hl 0 rfl) ?_
          refine va_getN (ci := 2) (v := .int v_o0_guarded) (C := RX7) (T := TX7) (N := 7) hx hb hts hinX7 hown hK.1 hP 0 rfl rfl 5 (by decide) (va_Nw.use rfl (hK.2.1 (.fieldLinkNest RX4 9 RX7 "guarded" "I" RX9) (List.mem_of_getElem? (i := 8) rfl))) (fun _ h9 => h9) rfl dX4_daysUntilStill_39 ?_
          refine lv_aload_n hx hb dX4_daysUntilStill_42 rfl (lv_at hl 0 rfl) ?_
          refine va_getN (ci := 2) (v := .int v_o0_day) (C := RX7) (T := TX7) (N := 7) hx hb hts hinX7 hown hK.1 hP 0 rfl rfl 6 (by decide) (va_Nw.use rfl (hK.2.1 (.fieldLinkNest RX4 15 RX7 "day" "I" RX9) (List.mem_of_getElem? (i := 9) rfl))) (fun _ h9 => h9) rfl dX4_daysUntilStill_43 ?_
          refine lv_iload_n hx hb dX4_daysUntilStill_46 rfl (lv_at hl 2 rfl) ?_
          refine lv_iadd hx hb dX4_daysUntilStill_47 ?_
          refine lv_iconst (v := 1) hx hb dX4_daysUntilStill_48 (by decide) ?_
          refine lv_iadd hx hb dX4_daysUntilStill_49 ?_
          obtain ⟨x_4, hc_4, h⟩ := bd_some h
          refine xk_V (rest := []) (As := [.int x1, .int v_o0_guarded, .int ((v_o0_day + x2) + 1)]) (stk := [.int x_4]) (wn := (wX7 cA a_o0 a_o0_kinds a_o0_figures a_o0_causeBits v_o0_kinds v_o0_figures v_o0_causeBits v_o0_size v_o0_lost v_o0_guarded v_o0_day)) (v := (some (.int x_4))) (wr := []) gX4_daysUntilStill_X7_behindDay rfl hdV_X7_behindDay rfl rfl (c_X7_behindDay l D cA sa sv a_o0 a_o0_kinds a_o0_figures a_o0_causeBits _ v_o0_kinds v_o0_figures v_o0_causeBits v_o0_size v_o0_lost v_o0_guarded v_o0_day x1 v_o0_guarded ((v_o0_day + x2) + 1) F x_4 hc_4) (ci := 2) rfl (q0 := 0) rfl S hK hP hD hS hA [0, 1, 2, 3] [] [0, 1, 2, 3] rfl rfl rfl rfl rfl rfl rfl ⟨Nat.le_of_ble_eq_true rfl, Nat.le_of_ble_eq_true rfl⟩ ⟨Nat.le_refl 0, Nat.le_refl 0⟩ rfl hl.1 rfl (Nat.le_of_ble_eq_true rfl) rfl dX4_daysUntilStill_50 (fun H locs hP hD hS => ?_)
          refine lv_istore_n (lv' := [(1, .int x_4), (0, .ref a_o0), (2, .int x2)]) hx hb dX4_daysUntilStill_53 rfl hl (by decide) rfl (fun ls hl => ?_)
          refine lv_iinc (v := (x2 + 1)) (lv' := [(2, .int (x2 + 1)), (1, .int x_4), (0, .ref a_o0)]) hx hb dX4_daysUntilStill_54 hl (k := 2) rfl rfl (by decide) rfl (fun ls hl => ?_)
          refine lv_goto (tgt := 7) hx hb dX4_daysUntilStill_57 (by decide) ?_
          exact ih x_4 (x2 + 1) _ h _ _ _ hP hD hS (lv_sub hl [2, 1, 0] rfl)
        · have h := (if_pos c_3).symm.trans h
          refine lv_iload_n hx hb dX4_daysUntilStill_34 rfl (lv_at hl 2 rfl) ?_
          obtain rfl := Option.some.inj h
          exact xk_iret hx hb hr hlk hP hD hS (hQ _) dX4_daysUntilStill_35
  unfold f_X4_daysUntilStill at h
  refine lv_aload_n hx hb dX4_daysUntilStill_0 rfl (lv_at hl 0 rfl) ?_
  refine va_getN (ci := 2) (v := .int v_o0_lost) (C := RX7) (T := TX7) (N := 7) hx hb hts hinX7 hown hK.1 hP 0 rfl rfl 4 (by decide) (va_Nw.use rfl (hK.2.1 (.fieldLinkNest RX4 26 RX7 "lost" "I" RX9) (List.mem_of_getElem? (i := 10) rfl))) (fun _ h9 => h9) rfl dX4_daysUntilStill_1 ?_
  refine lv_istore_n (lv' := [(1, .int v_o0_lost), (0, .ref a_o0)]) hx hb dX4_daysUntilStill_4 rfl hl (by decide) rfl (fun ls hl => ?_)
  refine lv_iconst (v := 0) hx hb dX4_daysUntilStill_5 (by decide) ?_
  refine lv_istore_n (lv' := [(2, .int 0), (1, .int v_o0_lost), (0, .ref a_o0)]) hx hb dX4_daysUntilStill_6 rfl hl (by decide) rfl (fun ls hl => ?_)
  exact J_7 F v_o0_lost 0 _ h _ _ _ hP hD hS (lv_sub hl [2, 1, 0] rfl)
set_option maxHeartbeats 4000000 in
set_option maxRecDepth 100000 in
theorem c_X4_lostIfGuarded (l : Launch) (D : va_G) (cA : ClassId) (sa sv : Nat → Nat) (a_o0 a_o0_kinds a_o0_figures a_o0_causeBits : Nat) (sz : Nat) (v_o0_kinds : Nat → Int32) (v_o0_figures : Nat → Int32) (v_o0_causeBits : Nat → Int32) (v_o0_size : Int32) (v_o0_lost : Int32) (v_o0_guarded : Int32) (v_o0_day : Int32) (p1 : Int32) (p2 : Int32) (F : Nat) (res : Int32) (h : f_X4_lostIfGuarded F v_o0_kinds v_o0_figures v_o0_causeBits v_o0_size v_o0_lost v_o0_guarded v_o0_day p1 p2 = some res) : Met l yX4_lostIfGuarded wsX4_lostIfGuarded { frames := 3, cells := 0, slots := 0, locals := 80 } (xk_Pc D cA sa sv (wX7 cA a_o0 a_o0_kinds a_o0_figures a_o0_causeBits v_o0_kinds v_o0_figures v_o0_causeBits v_o0_size v_o0_lost v_o0_guarded v_o0_day) sz [.ref a_o0, .int p1, .int p2]) (xk_Q D (va_A (wX7 cA a_o0 a_o0_kinds a_o0_figures a_o0_causeBits v_o0_kinds v_o0_figures v_o0_causeBits v_o0_size v_o0_lost v_o0_guarded v_o0_day) sz) (some (.int res)) (wX7 cA a_o0 a_o0_kinds a_o0_figures a_o0_causeBits v_o0_kinds v_o0_figures v_o0_causeBits v_o0_size v_o0_lost v_o0_guarded v_o0_day)) 0 0 (va_A (wX7 cA a_o0 a_o0_kinds a_o0_figures a_o0_causeBits v_o0_kinds v_o0_figures v_o0_causeBits v_o0_size v_o0_lost v_o0_guarded v_o0_day) sz) := by
  refine xk_met (fun res : Int32 => some (.int res)) (fun res : Int32 => (wX7 cA a_o0 a_o0_kinds a_o0_figures a_o0_causeBits v_o0_kinds v_o0_figures v_o0_causeBits v_o0_size v_o0_lost v_o0_guarded v_o0_day)) res (cc := cX4_lostIfGuarded) (maxL := 3) (ret := (some .int)) (by decide) rfl (Nat.le_of_ble_eq_true rfl) ?_
  intro p e s m args below meth c A Q ls hQ hx hb hr hlk hml hown hts hK hP hD hS hA hl
  have S : CallFix p m c cX4_lostIfGuarded 3 s args wsX4_lostIfGuarded RX4 := ⟨hx, hb, hml, hown, hts⟩
  have hl : lv_has ls 3 [(0, .ref a_o0), (1, .int p1), (2, .int p2)] := hl
  have hinX7 : ∀ w ∈ u_ws RX7 TX7 7, w ∈ wsX4_lostIfGuarded := fun _ h => List.mem_cons_of_mem _ (List.mem_append_right _ (h))
  unfold f_X4_lostIfGuarded at h
  refine lv_aload_n hx hb dX4_lostIfGuarded_0 rfl (lv_at hl 0 rfl) ?_
  refine lv_aload_n hx hb dX4_lostIfGuarded_1 rfl (lv_at hl 0 rfl) ?_
  refine va_getN (ci := 2) (v := .int v_o0_lost) (C := RX7) (T := TX7) (N := 7) hx hb hts hinX7 hown hK.1 hP 0 rfl rfl 4 (by decide) (va_Nw.use rfl (hK.2.1 (.fieldLinkNest RX4 26 RX7 "lost" "I" RX9) (List.mem_of_getElem? (i := 10) rfl))) (fun _ h9 => h9) rfl dX4_lostIfGuarded_2 ?_
  refine lv_aload_n hx hb dX4_lostIfGuarded_5 rfl (lv_at hl 0 rfl) ?_
  refine va_getN (ci := 2) (v := .int v_o0_guarded) (C := RX7) (T := TX7) (N := 7) hx hb hts hinX7 hown hK.1 hP 0 rfl rfl 5 (by decide) (va_Nw.use rfl (hK.2.1 (.fieldLinkNest RX4 9 RX7 "guarded" "I" RX9) (List.mem_of_getElem? (i := 8) rfl))) (fun _ h9 => h9) rfl dX4_lostIfGuarded_6 ?_
  refine lv_iload_n hx hb dX4_lostIfGuarded_9 rfl (lv_at hl 1 rfl) ?_
  refine lv_ior hx hb dX4_lostIfGuarded_10 ?_
  refine lv_aload_n hx hb dX4_lostIfGuarded_11 rfl (lv_at hl 0 rfl) ?_
  refine va_getN (ci := 2) (v := .int v_o0_day) (C := RX7) (T := TX7) (N := 7) hx hb hts hinX7 hown hK.1 hP 0 rfl rfl 6 (by decide) (va_Nw.use rfl (hK.2.1 (.fieldLinkNest RX4 15 RX7 "day" "I" RX9) (List.mem_of_getElem? (i := 9) rfl))) (fun _ h9 => h9) rfl dX4_lostIfGuarded_12 ?_
  refine lv_iload_n hx hb dX4_lostIfGuarded_15 rfl (lv_at hl 2 rfl) ?_
  obtain ⟨x_1, hc_1, h⟩ := bd_some h
  refine xk_V (rest := []) (As := [.int v_o0_lost, .int (v_o0_guarded ||| p1), .int v_o0_day, .int p2]) (stk := [.int x_1]) (wn := (wX7 cA a_o0 a_o0_kinds a_o0_figures a_o0_causeBits v_o0_kinds v_o0_figures v_o0_causeBits v_o0_size v_o0_lost v_o0_guarded v_o0_day)) (v := (some (.int x_1))) (wr := []) gX4_lostIfGuarded_X7_behindDays rfl hdV_X7_behindDays rfl rfl (c_X7_behindDays l D cA sa sv a_o0 a_o0_kinds a_o0_figures a_o0_causeBits _ v_o0_kinds v_o0_figures v_o0_causeBits v_o0_size v_o0_lost v_o0_guarded v_o0_day v_o0_lost (v_o0_guarded ||| p1) v_o0_day p2 F x_1 hc_1) (ci := 2) rfl (q0 := 0) rfl S hK hP hD hS hA [0, 1, 2, 3] [] [0, 1, 2, 3] rfl rfl rfl rfl rfl rfl rfl ⟨Nat.le_of_ble_eq_true rfl, Nat.le_of_ble_eq_true rfl⟩ ⟨Nat.le_refl 0, Nat.le_refl 0⟩ rfl hl.1 rfl (Nat.le_of_ble_eq_true rfl) rfl dX4_lostIfGuarded_16 (fun H locs hP hD hS => ?_)
  obtain rfl := Option.some.inj h
  exact xk_iret hx hb hr hlk hP hD hS (hQ _) dX4_lostIfGuarded_19
set_option maxHeartbeats 4000000 in
set_option maxRecDepth 100000 in
theorem c_X4_fewestToGuard (l : Launch) (D : va_G) (cA : ClassId) (sa sv : Nat → Nat) (a_o0 a_o0_kinds a_o0_figures a_o0_causeBits : Nat) (sz : Nat) (v_o0_kinds : Nat → Int32) (v_o0_figures : Nat → Int32) (v_o0_causeBits : Nat → Int32) (v_o0_size : Int32) (v_o0_lost : Int32) (v_o0_guarded : Int32) (v_o0_day : Int32) (p1 : Int32) (p2 : Int32) (F : Nat) (res : Int32) (h : f_X4_fewestToGuard F v_o0_kinds v_o0_figures v_o0_causeBits v_o0_size v_o0_lost v_o0_guarded v_o0_day p1 p2 = some res) : Met l yX4_fewestToGuard wsX4_fewestToGuard { frames := 4, cells := 0, slots := 0, locals := 102 } (xk_Pc D cA sa sv (wX7 cA a_o0 a_o0_kinds a_o0_figures a_o0_causeBits v_o0_kinds v_o0_figures v_o0_causeBits v_o0_size v_o0_lost v_o0_guarded v_o0_day) sz [.ref a_o0, .int p1, .int p2]) (xk_Q D (va_A (wX7 cA a_o0 a_o0_kinds a_o0_figures a_o0_causeBits v_o0_kinds v_o0_figures v_o0_causeBits v_o0_size v_o0_lost v_o0_guarded v_o0_day) sz) (some (.int res)) (wX7 cA a_o0 a_o0_kinds a_o0_figures a_o0_causeBits v_o0_kinds v_o0_figures v_o0_causeBits v_o0_size v_o0_lost v_o0_guarded v_o0_day)) 0 0 (va_A (wX7 cA a_o0 a_o0_kinds a_o0_figures a_o0_causeBits v_o0_kinds v_o0_figures v_o0_causeBits v_o0_size v_o0_lost v_o0_guarded v_o0_day) sz) := by
  refine xk_met (fun res : Int32 => some (.int res)) (fun res : Int32 => (wX7 cA a_o0 a_o0_kinds a_o0_figures a_o0_causeBits v_o0_kinds v_o0_figures v_o0_causeBits v_o0_size v_o0_lost v_o0_guarded v_o0_day)) res (cc := cX4_fewestToGuard) (maxL := 6) (ret := (some .int)) (by decide) rfl (Nat.le_of_ble_eq_true rfl) ?_
  intro p e s m args below meth c A Q ls hQ hx hb hr hlk hml hown hts hK hP hD hS hA hl
  have S : CallFix p m c cX4_fewestToGuard 6 s args wsX4_fewestToGuard RX4 := ⟨hx, hb, hml, hown, hts⟩
  have hl : lv_has ls 6 [(0, .ref a_o0), (1, .int p1), (2, .int p2)] := hl
  have hinX7 : ∀ w ∈ u_ws RX7 TX7 7, w ∈ wsX4_fewestToGuard := fun _ h => List.mem_cons_of_mem _ (List.mem_append_right _ (h))
  have J_74 : ∀ (k_34r : Int32 → Int32 → Option (Int32)), (∀ (x3 : Int32) (x4 : Int32) (res : Int32), k_34r x3 x4 = some res → ∀ (H : Heap) (locs : List Loc) (ls : Array Slot), va_P D vwCl (wX7 cA a_o0 a_o0_kinds a_o0_figures a_o0_causeBits v_o0_kinds v_o0_figures v_o0_causeBits v_o0_size v_o0_lost v_o0_guarded v_o0_day) H → va_D A (wX7 cA a_o0 a_o0_kinds a_o0_figures a_o0_causeBits v_o0_kinds v_o0_figures v_o0_causeBits v_o0_size v_o0_lost v_o0_guarded v_o0_day) → va_S A s.heap H locs → lv_has ls 6 [(0, .ref a_o0), (2, .int p2), (3, .int x3), (4, .int x4)] → W p l e { frames := 4, cells := 0, slots := 0, locals := 102 } s m args below meth c H locs 0 0 (Q res) (F0 m 34 ls [])) → ∀ (x3 : Int32) (x4 : Int32) (res : Int32), f_X4_fewestToGuard_74 F v_o0_kinds v_o0_figures v_o0_causeBits v_o0_size v_o0_lost v_o0_guarded v_o0_day p1 p2 k_34r x3 x4 = some res → ∀ (H : Heap) (locs : List Loc) (ls : Array Slot), va_P D vwCl (wX7 cA a_o0 a_o0_kinds a_o0_figures a_o0_causeBits v_o0_kinds v_o0_figures v_o0_causeBits v_o0_size v_o0_lost v_o0_guarded v_o0_day) H → va_D A (wX7 cA a_o0 a_o0_kinds a_o0_figures a_o0_causeBits v_o0_kinds v_o0_figures v_o0_causeBits v_o0_size v_o0_lost v_o0_guarded v_o0_day) → va_S A s.heap H locs → lv_has ls 6 [(0, .ref a_o0), (2, .int p2), (3, .int x3), (4, .int x4)] → W p l e { frames := 4, cells := 0, slots := 0, locals := 102 } s m args below meth c H locs 0 0 (Q res) (F0 m 74 ls []) := by
    intro k_34r hk_34r x3 x4 res h H locs ls hP hD hS hl
    unfold f_X4_fewestToGuard_74 at h
    refine lv_iinc (v := (x4 + 1)) (lv' := [(4, .int (x4 + 1)), (0, .ref a_o0), (2, .int p2), (3, .int x3)]) hx hb dX4_fewestToGuard_74 hl (k := 3) rfl rfl (by decide) rfl (fun ls hl => ?_)
    refine lv_goto (tgt := 34) hx hb dX4_fewestToGuard_77 (by decide) ?_
    exact hk_34r x3 (x4 + 1) _ h _ _ _ hP hD hS (lv_sub hl [1, 2, 3, 0] rfl)
  have J_34 : ∀ (n : Nat) (x3 : Int32) (x4 : Int32) (res : Int32), f_X4_fewestToGuard_34 F v_o0_kinds v_o0_figures v_o0_causeBits v_o0_size v_o0_lost v_o0_guarded v_o0_day p1 p2 n x3 x4 = some res → ∀ (H : Heap) (locs : List Loc) (ls : Array Slot), va_P D vwCl (wX7 cA a_o0 a_o0_kinds a_o0_figures a_o0_causeBits v_o0_kinds v_o0_figures v_o0_causeBits v_o0_size v_o0_lost v_o0_guarded v_o0_day) H → va_D A (wX7 cA a_o0 a_o0_kinds a_o0_figures a_o0_causeBits v_o0_kinds v_o0_figures v_o0_causeBits v_o0_size v_o0_lost v_o0_guarded v_o0_day) → va_S A s.heap H locs → lv_has ls 6 [(0, .ref a_o0), (2, .int p2), (3, .int x3), (4, .int x4)] → W p l e { frames := 4, cells := 0, slots := 0, locals := 102 } s m args below meth c H locs 0 0 (Q res) (F0 m 34 ls []) := by
    intro n
    induction n with
    | zero => intro x3 x4 res h; exact nomatch (show (none : Option (Int32)) = some res from h)
    | succ n ih =>
      intro x3 x4 res h H locs ls hP hD hS hl
      rw [f_X4_fewestToGuard_34] at h
      refine lv_iload hx hb dX4_fewestToGuard_34 (lv_at hl 3 rfl) ?_
      refine lv_aload_n hx hb dX4_fewestToGuard_36 rfl (lv_at hl 0 rfl) ?_
      refine va_getN (ci := 2) (v := .int v_o0_size) (C := RX7) (T := TX7) (N := 7) hx hb hts hinX7 hown hK.1 hP 0 rfl rfl 3 (by decide) (va_Nw.use rfl (hK.2.1 (.fieldLinkNest RX4 45 RX7 "size" "I" RX9) (List.mem_of_getElem? (i := 11) rfl))) (fun _ h9 => h9) rfl dX4_fewestToGuard_37 ?_
      refine lv_icmp_ge (tgt := 80) hx hb dX4_fewestToGuard_40 (by decide) (fun c_5 => ?_) (fun c_5 => ?_)
      · have h := (if_pos c_5).symm.trans h
        refine lv_bipush (v := (-9)) hx hb dX4_fewestToGuard_80 (by decide) ?_
        obtain rfl := Option.some.inj h
        exact xk_iret hx hb hr hlk hP hD hS (hQ _) dX4_fewestToGuard_82
      · have h := (if_neg c_5).symm.trans h
        refine lv_iconst (v := 1) hx hb dX4_fewestToGuard_43 (by decide) ?_
        refine lv_iload hx hb dX4_fewestToGuard_44 (lv_at hl 3 rfl) ?_
        refine lv_ishl hx hb dX4_fewestToGuard_46 ?_
        refine lv_istore (lv' := [(5, .int (1 <<< (x4 &&& 31))), (0, .ref a_o0), (2, .int p2), (3, .int x3), (4, .int x4)]) hx hb dX4_fewestToGuard_47 hl (by decide) rfl (fun ls hl => ?_)
        refine lv_aload_n hx hb dX4_fewestToGuard_49 rfl (lv_at hl 1 rfl) ?_
        obtain ⟨x_6, hc_6, h⟩ := bd_some h
        refine xk_V (rest := []) (As := []) (stk := [.int x_6]) (wn := (wX7 cA a_o0 a_o0_kinds a_o0_figures a_o0_causeBits v_o0_kinds v_o0_figures v_o0_causeBits v_o0_size v_o0_lost v_o0_guarded v_o0_day)) (v := (some (.int x_6))) (wr := []) gX4_fewestToGuard_X7_open rfl hdV_X7_open rfl rfl (c_X7_open l D cA sa sv a_o0 a_o0_kinds a_o0_figures a_o0_causeBits _ v_o0_kinds v_o0_figures v_o0_causeBits v_o0_size v_o0_lost v_o0_guarded v_o0_day x_6 hc_6) (ci := 2) rfl (q0 := 0) rfl S hK hP hD hS hA [0, 1, 2, 3] [] [0, 1, 2, 3] rfl rfl rfl rfl rfl rfl rfl ⟨Nat.le_of_ble_eq_true rfl, Nat.le_of_ble_eq_true rfl⟩ ⟨Nat.le_refl 0, Nat.le_refl 0⟩ rfl hl.1 rfl (Nat.le_of_ble_eq_true rfl) rfl dX4_fewestToGuard_50 (fun H locs hP hD hS => ?_)
        refine lv_iload hx hb dX4_fewestToGuard_53 (lv_at hl 0 rfl) ?_
        refine lv_iand hx hb dX4_fewestToGuard_55 ?_
        refine lv_if_eq (tgt := 74) hx hb dX4_fewestToGuard_56 (by decide) (fun c_7 => ?_) (fun c_7 => ?_)
        · have h := (if_pos c_7).symm.trans h
          exact J_74 (f_X4_fewestToGuard_34 F v_o0_kinds v_o0_figures v_o0_causeBits v_o0_size v_o0_lost v_o0_guarded v_o0_day p1 p2 n) ih x3 x4 _ h _ _ _ hP hD hS (lv_sub hl [1, 2, 3, 4] rfl)
        · have h := (if_neg c_7).symm.trans h
          refine lv_aload_n hx hb dX4_fewestToGuard_59 rfl (lv_at hl 1 rfl) ?_
          refine lv_iload hx hb dX4_fewestToGuard_60 (lv_at hl 0 rfl) ?_
          refine lv_iload_n hx hb dX4_fewestToGuard_62 rfl (lv_at hl 2 rfl) ?_
          obtain ⟨x_8, hc_8, h⟩ := bd_some h
          refine xk_S (rest := []) (As := [.ref a_o0, .int (1 <<< (x4 &&& 31)), .int p2]) (stk := [.int x_8]) (wn := (wX7 cA a_o0 a_o0_kinds a_o0_figures a_o0_causeBits v_o0_kinds v_o0_figures v_o0_causeBits v_o0_size v_o0_lost v_o0_guarded v_o0_day)) (v := (some (.int x_8))) (wr := []) gX4_fewestToGuard_X4_lostIfGuarded rfl hdS_X4_lostIfGuarded rfl rfl (c_X4_lostIfGuarded l D cA sa sv a_o0 a_o0_kinds a_o0_figures a_o0_causeBits _ v_o0_kinds v_o0_figures v_o0_causeBits v_o0_size v_o0_lost v_o0_guarded v_o0_day (1 <<< (x4 &&& 31)) p2 F x_8 hc_8) S hK hP hD hS hA [0, 1, 2, 3] [] [0, 1, 2, 3] rfl rfl rfl rfl rfl rfl rfl ⟨Nat.le_of_ble_eq_true rfl, Nat.le_of_ble_eq_true rfl⟩ ⟨Nat.le_refl 0, Nat.le_refl 0⟩ rfl hl.1 rfl (Nat.le_of_ble_eq_true rfl) rfl dX4_fewestToGuard_63 (fun H locs hP hD hS => ?_)
          refine lv_iload_n hx hb dX4_fewestToGuard_66 rfl (lv_at hl 3 rfl) ?_
          refine lv_iand hx hb dX4_fewestToGuard_67 ?_
          refine lv_if_ne (tgt := 74) hx hb dX4_fewestToGuard_68 (by decide) (fun c_9 => ?_) (fun c_9 => ?_)
          · have h := (if_neg c_9).symm.trans h
            exact J_74 (f_X4_fewestToGuard_34 F v_o0_kinds v_o0_figures v_o0_causeBits v_o0_size v_o0_lost v_o0_guarded v_o0_day p1 p2 n) ih x3 x4 _ h _ _ _ hP hD hS (lv_sub hl [1, 2, 3, 4] rfl)
          · have h := (if_pos c_9).symm.trans h
            refine lv_iload hx hb dX4_fewestToGuard_71 (lv_at hl 0 rfl) ?_
            obtain rfl := Option.some.inj h
            exact xk_iret hx hb hr hlk hP hD hS (hQ _) dX4_fewestToGuard_73
  unfold f_X4_fewestToGuard at h
  refine lv_iconst (v := 1) hx hb dX4_fewestToGuard_0 (by decide) ?_
  refine lv_iload_n hx hb dX4_fewestToGuard_1 rfl (lv_at hl 1 rfl) ?_
  refine lv_ishl hx hb dX4_fewestToGuard_2 ?_
  refine lv_istore_n (lv' := [(3, .int (1 <<< (p1 &&& 31))), (0, .ref a_o0), (1, .int p1), (2, .int p2)]) hx hb dX4_fewestToGuard_3 rfl hl (by decide) rfl (fun ls hl => ?_)
  refine lv_aload_n hx hb dX4_fewestToGuard_4 rfl (lv_at hl 1 rfl) ?_
  refine lv_iload_n hx hb dX4_fewestToGuard_5 rfl (lv_at hl 2 rfl) ?_
  obtain ⟨x_1, hc_1, h⟩ := bd_some h
  refine xk_V (rest := []) (As := [.int p1]) (stk := [.int x_1]) (wn := (wX7 cA a_o0 a_o0_kinds a_o0_figures a_o0_causeBits v_o0_kinds v_o0_figures v_o0_causeBits v_o0_size v_o0_lost v_o0_guarded v_o0_day)) (v := (some (.int x_1))) (wr := []) gX4_fewestToGuard_X7_isLost rfl hdV_X7_isLost rfl rfl (c_X7_isLost l D cA sa sv a_o0 a_o0_kinds a_o0_figures a_o0_causeBits _ v_o0_kinds v_o0_figures v_o0_causeBits v_o0_size v_o0_lost v_o0_guarded v_o0_day p1 x_1 hc_1) (ci := 2) rfl (q0 := 0) rfl S hK hP hD hS hA [0, 1, 2, 3] [] [0, 1, 2, 3] rfl rfl rfl rfl rfl rfl rfl ⟨Nat.le_of_ble_eq_true rfl, Nat.le_of_ble_eq_true rfl⟩ ⟨Nat.le_refl 0, Nat.le_refl 0⟩ rfl hl.1 rfl (Nat.le_of_ble_eq_true rfl) rfl dX4_fewestToGuard_6 (fun H locs hP hD hS => ?_)
  refine lv_if_eq (tgt := 15) hx hb dX4_fewestToGuard_9 (by decide) (fun c_2 => ?_) (fun c_2 => ?_)
  · have h := (if_pos c_2).symm.trans h
    refine lv_aload_n hx hb dX4_fewestToGuard_15 rfl (lv_at hl 1 rfl) ?_
    refine lv_aload_n hx hb dX4_fewestToGuard_16 rfl (lv_at hl 1 rfl) ?_
    refine va_getN (ci := 2) (v := .int v_o0_lost) (C := RX7) (T := TX7) (N := 7) hx hb hts hinX7 hown hK.1 hP 0 rfl rfl 4 (by decide) (va_Nw.use rfl (hK.2.1 (.fieldLinkNest RX4 26 RX7 "lost" "I" RX9) (List.mem_of_getElem? (i := 10) rfl))) (fun _ h9 => h9) rfl dX4_fewestToGuard_17 ?_
    refine lv_iload_n hx hb dX4_fewestToGuard_20 rfl (lv_at hl 3 rfl) ?_
    obtain ⟨x_3, hc_3, h⟩ := bd_some h
    refine xk_S (rest := []) (As := [.ref a_o0, .int v_o0_lost, .int p2]) (stk := [.int x_3]) (wn := (wX7 cA a_o0 a_o0_kinds a_o0_figures a_o0_causeBits v_o0_kinds v_o0_figures v_o0_causeBits v_o0_size v_o0_lost v_o0_guarded v_o0_day)) (v := (some (.int x_3))) (wr := []) gX4_fewestToGuard_X4_lostBehind rfl hdS_X4_lostBehind rfl rfl (c_X4_lostBehind l D cA sa sv a_o0 a_o0_kinds a_o0_figures a_o0_causeBits _ v_o0_kinds v_o0_figures v_o0_causeBits v_o0_size v_o0_lost v_o0_guarded v_o0_day v_o0_lost p2 F x_3 hc_3) S hK hP hD hS hA [0, 1, 2, 3] [] [0, 1, 2, 3] rfl rfl rfl rfl rfl rfl rfl ⟨Nat.le_of_ble_eq_true rfl, Nat.le_of_ble_eq_true rfl⟩ ⟨Nat.le_refl 0, Nat.le_refl 0⟩ rfl hl.1 rfl (Nat.le_of_ble_eq_true rfl) rfl dX4_fewestToGuard_21 (fun H locs hP hD hS => ?_)
    refine lv_iload_n hx hb dX4_fewestToGuard_24 rfl (lv_at hl 0 rfl) ?_
    refine lv_iand hx hb dX4_fewestToGuard_25 ?_
    refine lv_if_ne (tgt := 31) hx hb dX4_fewestToGuard_26 (by decide) (fun c_4 => ?_) (fun c_4 => ?_)
    · have h := (if_neg c_4).symm.trans h
      refine lv_iconst (v := 0) hx hb dX4_fewestToGuard_31 (by decide) ?_
      refine lv_istore (lv' := [(4, .int 0), (3, .int (1 <<< (p1 &&& 31))), (0, .ref a_o0), (1, .int p1), (2, .int p2)]) hx hb dX4_fewestToGuard_32 hl (by decide) rfl (fun ls hl => ?_)
      exact J_34 F (1 <<< (p1 &&& 31)) 0 _ h _ _ _ hP hD hS (lv_sub hl [2, 4, 1, 0] rfl)
    · have h := (if_pos c_4).symm.trans h
      refine lv_iconst (v := 0) hx hb dX4_fewestToGuard_29 (by decide) ?_
      obtain rfl := Option.some.inj h
      exact xk_iret hx hb hr hlk hP hD hS (hQ _) dX4_fewestToGuard_30
  · have h := (if_neg c_2).symm.trans h
    refine lv_bipush (v := (-9)) hx hb dX4_fewestToGuard_12 (by decide) ?_
    obtain rfl := Option.some.inj h
    exact xk_iret hx hb hr hlk hP hD hS (hQ _) dX4_fewestToGuard_14
set_option maxHeartbeats 4000000 in
set_option maxRecDepth 100000 in
theorem c_X4_bestToGuard (l : Launch) (D : va_G) (cA : ClassId) (sa sv : Nat → Nat) (a_o0 a_o0_kinds a_o0_figures a_o0_causeBits : Nat) (sz : Nat) (v_o0_kinds : Nat → Int32) (v_o0_figures : Nat → Int32) (v_o0_causeBits : Nat → Int32) (v_o0_size : Int32) (v_o0_lost : Int32) (v_o0_guarded : Int32) (v_o0_day : Int32) (p1 : Int32) (F : Nat) (res : Int32) (h : f_X4_bestToGuard F v_o0_kinds v_o0_figures v_o0_causeBits v_o0_size v_o0_lost v_o0_guarded v_o0_day p1 = some res) : Met l yX4_bestToGuard wsX4_bestToGuard { frames := 4, cells := 0, slots := 0, locals := 102 } (xk_Pc D cA sa sv (wX7 cA a_o0 a_o0_kinds a_o0_figures a_o0_causeBits v_o0_kinds v_o0_figures v_o0_causeBits v_o0_size v_o0_lost v_o0_guarded v_o0_day) sz [.ref a_o0, .int p1]) (xk_Q D (va_A (wX7 cA a_o0 a_o0_kinds a_o0_figures a_o0_causeBits v_o0_kinds v_o0_figures v_o0_causeBits v_o0_size v_o0_lost v_o0_guarded v_o0_day) sz) (some (.int res)) (wX7 cA a_o0 a_o0_kinds a_o0_figures a_o0_causeBits v_o0_kinds v_o0_figures v_o0_causeBits v_o0_size v_o0_lost v_o0_guarded v_o0_day)) 0 0 (va_A (wX7 cA a_o0 a_o0_kinds a_o0_figures a_o0_causeBits v_o0_kinds v_o0_figures v_o0_causeBits v_o0_size v_o0_lost v_o0_guarded v_o0_day) sz) := by
  refine xk_met (fun res : Int32 => some (.int res)) (fun res : Int32 => (wX7 cA a_o0 a_o0_kinds a_o0_figures a_o0_causeBits v_o0_kinds v_o0_figures v_o0_causeBits v_o0_size v_o0_lost v_o0_guarded v_o0_day)) res (cc := cX4_bestToGuard) (maxL := 7) (ret := (some .int)) (by decide) rfl (Nat.le_of_ble_eq_true rfl) ?_
  intro p e s m args below meth c A Q ls hQ hx hb hr hlk hml hown hts hK hP hD hS hA hl
  have S : CallFix p m c cX4_bestToGuard 7 s args wsX4_bestToGuard RX4 := ⟨hx, hb, hml, hown, hts⟩
  have hl : lv_has ls 7 [(0, .ref a_o0), (1, .int p1)] := hl
  have hinX7 : ∀ w ∈ u_ws RX7 TX7 7, w ∈ wsX4_bestToGuard := fun _ h => List.mem_cons_of_mem _ (List.mem_append_right _ (h))
  have J_68 : ∀ (k_19r : Int32 → Int32 → Int32 → Option (Int32)), (∀ (x2 : Int32) (x3 : Int32) (x4 : Int32) (res : Int32), k_19r x2 x3 x4 = some res → ∀ (H : Heap) (locs : List Loc) (ls : Array Slot), va_P D vwCl (wX7 cA a_o0 a_o0_kinds a_o0_figures a_o0_causeBits v_o0_kinds v_o0_figures v_o0_causeBits v_o0_size v_o0_lost v_o0_guarded v_o0_day) H → va_D A (wX7 cA a_o0 a_o0_kinds a_o0_figures a_o0_causeBits v_o0_kinds v_o0_figures v_o0_causeBits v_o0_size v_o0_lost v_o0_guarded v_o0_day) → va_S A s.heap H locs → lv_has ls 7 [(0, .ref a_o0), (1, .int p1), (2, .int x2), (3, .int x3), (4, .int x4)] → W p l e { frames := 4, cells := 0, slots := 0, locals := 102 } s m args below meth c H locs 0 0 (Q res) (F0 m 19 ls [])) → ∀ (x2 : Int32) (x3 : Int32) (x4 : Int32) (res : Int32), f_X4_bestToGuard_68 F v_o0_kinds v_o0_figures v_o0_causeBits v_o0_size v_o0_lost v_o0_guarded v_o0_day p1 k_19r x2 x3 x4 = some res → ∀ (H : Heap) (locs : List Loc) (ls : Array Slot), va_P D vwCl (wX7 cA a_o0 a_o0_kinds a_o0_figures a_o0_causeBits v_o0_kinds v_o0_figures v_o0_causeBits v_o0_size v_o0_lost v_o0_guarded v_o0_day) H → va_D A (wX7 cA a_o0 a_o0_kinds a_o0_figures a_o0_causeBits v_o0_kinds v_o0_figures v_o0_causeBits v_o0_size v_o0_lost v_o0_guarded v_o0_day) → va_S A s.heap H locs → lv_has ls 7 [(0, .ref a_o0), (1, .int p1), (2, .int x2), (3, .int x3), (4, .int x4)] → W p l e { frames := 4, cells := 0, slots := 0, locals := 102 } s m args below meth c H locs 0 0 (Q res) (F0 m 68 ls []) := by
    intro k_19r hk_19r x2 x3 x4 res h H locs ls hP hD hS hl
    unfold f_X4_bestToGuard_68 at h
    refine lv_iinc (v := (x4 + 1)) (lv' := [(4, .int (x4 + 1)), (0, .ref a_o0), (1, .int p1), (2, .int x2), (3, .int x3)]) hx hb dX4_bestToGuard_68 hl (k := 4) rfl rfl (by decide) rfl (fun ls hl => ?_)
    refine lv_goto (tgt := 19) hx hb dX4_bestToGuard_71 (by decide) ?_
    exact hk_19r x2 x3 (x4 + 1) _ h _ _ _ hP hD hS (lv_sub hl [1, 2, 3, 4, 0] rfl)
  have J_19 : ∀ (n : Nat) (x2 : Int32) (x3 : Int32) (x4 : Int32) (res : Int32), f_X4_bestToGuard_19 F v_o0_kinds v_o0_figures v_o0_causeBits v_o0_size v_o0_lost v_o0_guarded v_o0_day p1 n x2 x3 x4 = some res → ∀ (H : Heap) (locs : List Loc) (ls : Array Slot), va_P D vwCl (wX7 cA a_o0 a_o0_kinds a_o0_figures a_o0_causeBits v_o0_kinds v_o0_figures v_o0_causeBits v_o0_size v_o0_lost v_o0_guarded v_o0_day) H → va_D A (wX7 cA a_o0 a_o0_kinds a_o0_figures a_o0_causeBits v_o0_kinds v_o0_figures v_o0_causeBits v_o0_size v_o0_lost v_o0_guarded v_o0_day) → va_S A s.heap H locs → lv_has ls 7 [(0, .ref a_o0), (1, .int p1), (2, .int x2), (3, .int x3), (4, .int x4)] → W p l e { frames := 4, cells := 0, slots := 0, locals := 102 } s m args below meth c H locs 0 0 (Q res) (F0 m 19 ls []) := by
    intro n
    induction n with
    | zero => intro x2 x3 x4 res h; exact nomatch (show (none : Option (Int32)) = some res from h)
    | succ n ih =>
      intro x2 x3 x4 res h H locs ls hP hD hS hl
      rw [f_X4_bestToGuard_19] at h
      refine lv_iload hx hb dX4_bestToGuard_19 (lv_at hl 4 rfl) ?_
      refine lv_aload_n hx hb dX4_bestToGuard_21 rfl (lv_at hl 0 rfl) ?_
      refine va_getN (ci := 2) (v := .int v_o0_size) (C := RX7) (T := TX7) (N := 7) hx hb hts hinX7 hown hK.1 hP 0 rfl rfl 3 (by decide) (va_Nw.use rfl (hK.2.1 (.fieldLinkNest RX4 45 RX7 "size" "I" RX9) (List.mem_of_getElem? (i := 11) rfl))) (fun _ h9 => h9) rfl dX4_bestToGuard_22 ?_
      refine lv_icmp_ge (tgt := 74) hx hb dX4_bestToGuard_25 (by decide) (fun c_3 => ?_) (fun c_3 => ?_)
      · have h := (if_pos c_3).symm.trans h
        refine lv_iload_n hx hb dX4_bestToGuard_74 rfl (lv_at hl 2 rfl) ?_
        obtain rfl := Option.some.inj h
        exact xk_iret hx hb hr hlk hP hD hS (hQ _) dX4_bestToGuard_75
      · have h := (if_neg c_3).symm.trans h
        refine lv_iconst (v := 1) hx hb dX4_bestToGuard_28 (by decide) ?_
        refine lv_iload hx hb dX4_bestToGuard_29 (lv_at hl 4 rfl) ?_
        refine lv_ishl hx hb dX4_bestToGuard_31 ?_
        refine lv_istore (lv' := [(5, .int (1 <<< (x4 &&& 31))), (0, .ref a_o0), (1, .int p1), (2, .int x2), (3, .int x3), (4, .int x4)]) hx hb dX4_bestToGuard_32 hl (by decide) rfl (fun ls hl => ?_)
        refine lv_aload_n hx hb dX4_bestToGuard_34 rfl (lv_at hl 1 rfl) ?_
        obtain ⟨x_4, hc_4, h⟩ := bd_some h
        refine xk_V (rest := []) (As := []) (stk := [.int x_4]) (wn := (wX7 cA a_o0 a_o0_kinds a_o0_figures a_o0_causeBits v_o0_kinds v_o0_figures v_o0_causeBits v_o0_size v_o0_lost v_o0_guarded v_o0_day)) (v := (some (.int x_4))) (wr := []) gX4_bestToGuard_X7_open rfl hdV_X7_open rfl rfl (c_X7_open l D cA sa sv a_o0 a_o0_kinds a_o0_figures a_o0_causeBits _ v_o0_kinds v_o0_figures v_o0_causeBits v_o0_size v_o0_lost v_o0_guarded v_o0_day x_4 hc_4) (ci := 2) rfl (q0 := 0) rfl S hK hP hD hS hA [0, 1, 2, 3] [] [0, 1, 2, 3] rfl rfl rfl rfl rfl rfl rfl ⟨Nat.le_of_ble_eq_true rfl, Nat.le_of_ble_eq_true rfl⟩ ⟨Nat.le_refl 0, Nat.le_refl 0⟩ rfl hl.1 rfl (Nat.le_of_ble_eq_true rfl) rfl dX4_bestToGuard_35 (fun H locs hP hD hS => ?_)
        refine lv_iload hx hb dX4_bestToGuard_38 (lv_at hl 0 rfl) ?_
        refine lv_iand hx hb dX4_bestToGuard_40 ?_
        refine lv_if_eq (tgt := 68) hx hb dX4_bestToGuard_41 (by decide) (fun c_5 => ?_) (fun c_5 => ?_)
        · have h := (if_pos c_5).symm.trans h
          exact J_68 (f_X4_bestToGuard_19 F v_o0_kinds v_o0_figures v_o0_causeBits v_o0_size v_o0_lost v_o0_guarded v_o0_day p1 n) ih x2 x3 x4 _ h _ _ _ hP hD hS (lv_sub hl [1, 2, 3, 4, 5] rfl)
        · have h := (if_neg c_5).symm.trans h
          refine lv_aload_n hx hb dX4_bestToGuard_44 rfl (lv_at hl 1 rfl) ?_
          refine lv_iload hx hb dX4_bestToGuard_45 (lv_at hl 0 rfl) ?_
          refine lv_iload_n hx hb dX4_bestToGuard_47 rfl (lv_at hl 2 rfl) ?_
          obtain ⟨x_6, hc_6, h⟩ := bd_some h
          refine xk_S (rest := []) (As := [.ref a_o0, .int (1 <<< (x4 &&& 31)), .int p1]) (stk := [.int x_6]) (wn := (wX7 cA a_o0 a_o0_kinds a_o0_figures a_o0_causeBits v_o0_kinds v_o0_figures v_o0_causeBits v_o0_size v_o0_lost v_o0_guarded v_o0_day)) (v := (some (.int x_6))) (wr := []) gX4_bestToGuard_X4_lostIfGuarded rfl hdS_X4_lostIfGuarded rfl rfl (c_X4_lostIfGuarded l D cA sa sv a_o0 a_o0_kinds a_o0_figures a_o0_causeBits _ v_o0_kinds v_o0_figures v_o0_causeBits v_o0_size v_o0_lost v_o0_guarded v_o0_day (1 <<< (x4 &&& 31)) p1 F x_6 hc_6) S hK hP hD hS hA [0, 1, 2, 3] [] [0, 1, 2, 3] rfl rfl rfl rfl rfl rfl rfl ⟨Nat.le_of_ble_eq_true rfl, Nat.le_of_ble_eq_true rfl⟩ ⟨Nat.le_refl 0, Nat.le_refl 0⟩ rfl hl.1 rfl (Nat.le_of_ble_eq_true rfl) rfl dX4_bestToGuard_48 (fun H locs hP hD hS => ?_)
          obtain ⟨x_7, hc_7, h⟩ := bd_some h
          refine xk_S (rest := []) (As := [.int x_6]) (stk := [.int x_7]) (wn := (wX7 cA a_o0 a_o0_kinds a_o0_figures a_o0_causeBits v_o0_kinds v_o0_figures v_o0_causeBits v_o0_size v_o0_lost v_o0_guarded v_o0_day)) (v := (some (.int x_7))) (wr := [(a_o0, .inr (2, [.ref a_o0_kinds, .ref a_o0_figures, .ref a_o0_causeBits, .int v_o0_size, .int v_o0_lost, .int v_o0_guarded, .int v_o0_day])), (a_o0_kinds, .inl (cA, 9, .inl v_o0_kinds)), (a_o0_figures, .inl (cA, 9, .inl v_o0_figures)), (a_o0_causeBits, .inl (cA, 9, .inl v_o0_causeBits))]) gX4_bestToGuard_J6_bitCount_0f7a4 rfl hdS_J6_bitCount_0f7a4 rfl rfl (c_J6_bitCount_0f7a4 l D cA sa sv _ x_6 x_7 hc_7) S hK hP hD hS hA [] [0, 1, 2, 3] [0, 1, 2, 3] rfl rfl rfl rfl rfl rfl rfl ⟨Nat.le_of_ble_eq_true rfl, Nat.le_of_ble_eq_true rfl⟩ ⟨Nat.le_refl 0, Nat.le_refl 0⟩ rfl hl.1 rfl (Nat.le_of_ble_eq_true rfl) rfl dX4_bestToGuard_51 (fun H locs hP hD hS => ?_)
          refine lv_istore (lv' := [(6, .int x_7), (5, .int (1 <<< (x4 &&& 31))), (0, .ref a_o0), (1, .int p1), (2, .int x2), (3, .int x3), (4, .int x4)]) hx hb dX4_bestToGuard_54 hl (by decide) rfl (fun ls hl => ?_)
          refine lv_iload hx hb dX4_bestToGuard_56 (lv_at hl 0 rfl) ?_
          refine lv_iload_n hx hb dX4_bestToGuard_58 rfl (lv_at hl 5 rfl) ?_
          refine lv_icmp_ge (tgt := 68) hx hb dX4_bestToGuard_59 (by decide) (fun c_8 => ?_) (fun c_8 => ?_)
          · have h := (if_pos c_8).symm.trans h
            exact J_68 (f_X4_bestToGuard_19 F v_o0_kinds v_o0_figures v_o0_causeBits v_o0_size v_o0_lost v_o0_guarded v_o0_day p1 n) ih x2 x3 x4 _ h _ _ _ hP hD hS (lv_sub hl [2, 3, 4, 5, 6] rfl)
          · have h := (if_neg c_8).symm.trans h
            refine lv_iload hx hb dX4_bestToGuard_62 (lv_at hl 0 rfl) ?_
            refine lv_istore_n (lv' := [(3, .int x_7), (6, .int x_7), (5, .int (1 <<< (x4 &&& 31))), (0, .ref a_o0), (1, .int p1), (2, .int x2), (4, .int x4)]) hx hb dX4_bestToGuard_64 rfl hl (by decide) rfl (fun ls hl => ?_)
            refine lv_iload hx hb dX4_bestToGuard_65 (lv_at hl 6 rfl) ?_
            refine lv_istore_n (lv' := [(2, .int x4), (3, .int x_7), (6, .int x_7), (5, .int (1 <<< (x4 &&& 31))), (0, .ref a_o0), (1, .int p1), (4, .int x4)]) hx hb dX4_bestToGuard_67 rfl hl (by decide) rfl (fun ls hl => ?_)
            exact J_68 (f_X4_bestToGuard_19 F v_o0_kinds v_o0_figures v_o0_causeBits v_o0_size v_o0_lost v_o0_guarded v_o0_day p1 n) ih x4 x_7 x4 _ h _ _ _ hP hD hS (lv_sub hl [4, 5, 0, 1, 6] rfl)
  unfold f_X4_bestToGuard at h
  refine lv_bipush (v := (-9)) hx hb dX4_bestToGuard_0 (by decide) ?_
  refine lv_istore_n (lv' := [(2, .int (-9)), (0, .ref a_o0), (1, .int p1)]) hx hb dX4_bestToGuard_2 rfl hl (by decide) rfl (fun ls hl => ?_)
  refine lv_aload_n hx hb dX4_bestToGuard_3 rfl (lv_at hl 1 rfl) ?_
  refine lv_aload_n hx hb dX4_bestToGuard_4 rfl (lv_at hl 1 rfl) ?_
  refine va_getN (ci := 2) (v := .int v_o0_lost) (C := RX7) (T := TX7) (N := 7) hx hb hts hinX7 hown hK.1 hP 0 rfl rfl 4 (by decide) (va_Nw.use rfl (hK.2.1 (.fieldLinkNest RX4 26 RX7 "lost" "I" RX9) (List.mem_of_getElem? (i := 10) rfl))) (fun _ h9 => h9) rfl dX4_bestToGuard_5 ?_
  refine lv_iload_n hx hb dX4_bestToGuard_8 rfl (lv_at hl 2 rfl) ?_
  obtain ⟨x_1, hc_1, h⟩ := bd_some h
  refine xk_S (rest := []) (As := [.ref a_o0, .int v_o0_lost, .int p1]) (stk := [.int x_1]) (wn := (wX7 cA a_o0 a_o0_kinds a_o0_figures a_o0_causeBits v_o0_kinds v_o0_figures v_o0_causeBits v_o0_size v_o0_lost v_o0_guarded v_o0_day)) (v := (some (.int x_1))) (wr := []) gX4_bestToGuard_X4_lostBehind rfl hdS_X4_lostBehind rfl rfl (c_X4_lostBehind l D cA sa sv a_o0 a_o0_kinds a_o0_figures a_o0_causeBits _ v_o0_kinds v_o0_figures v_o0_causeBits v_o0_size v_o0_lost v_o0_guarded v_o0_day v_o0_lost p1 F x_1 hc_1) S hK hP hD hS hA [0, 1, 2, 3] [] [0, 1, 2, 3] rfl rfl rfl rfl rfl rfl rfl ⟨Nat.le_of_ble_eq_true rfl, Nat.le_of_ble_eq_true rfl⟩ ⟨Nat.le_refl 0, Nat.le_refl 0⟩ rfl hl.1 rfl (Nat.le_of_ble_eq_true rfl) rfl dX4_bestToGuard_9 (fun H locs hP hD hS => ?_)
  obtain ⟨x_2, hc_2, h⟩ := bd_some h
  refine xk_S (rest := []) (As := [.int x_1]) (stk := [.int x_2]) (wn := (wX7 cA a_o0 a_o0_kinds a_o0_figures a_o0_causeBits v_o0_kinds v_o0_figures v_o0_causeBits v_o0_size v_o0_lost v_o0_guarded v_o0_day)) (v := (some (.int x_2))) (wr := [(a_o0, .inr (2, [.ref a_o0_kinds, .ref a_o0_figures, .ref a_o0_causeBits, .int v_o0_size, .int v_o0_lost, .int v_o0_guarded, .int v_o0_day])), (a_o0_kinds, .inl (cA, 9, .inl v_o0_kinds)), (a_o0_figures, .inl (cA, 9, .inl v_o0_figures)), (a_o0_causeBits, .inl (cA, 9, .inl v_o0_causeBits))]) gX4_bestToGuard_J6_bitCount_0f7a4 rfl hdS_J6_bitCount_0f7a4 rfl rfl (c_J6_bitCount_0f7a4 l D cA sa sv _ x_1 x_2 hc_2) S hK hP hD hS hA [] [0, 1, 2, 3] [0, 1, 2, 3] rfl rfl rfl rfl rfl rfl rfl ⟨Nat.le_of_ble_eq_true rfl, Nat.le_of_ble_eq_true rfl⟩ ⟨Nat.le_refl 0, Nat.le_refl 0⟩ rfl hl.1 rfl (Nat.le_of_ble_eq_true rfl) rfl dX4_bestToGuard_12 (fun H locs hP hD hS => ?_)
  refine lv_istore_n (lv' := [(3, .int x_2), (2, .int (-9)), (0, .ref a_o0), (1, .int p1)]) hx hb dX4_bestToGuard_15 rfl hl (by decide) rfl (fun ls hl => ?_)
  refine lv_iconst (v := 0) hx hb dX4_bestToGuard_16 (by decide) ?_
  refine lv_istore (lv' := [(4, .int 0), (3, .int x_2), (2, .int (-9)), (0, .ref a_o0), (1, .int p1)]) hx hb dX4_bestToGuard_17 hl (by decide) rfl (fun ls hl => ?_)
  exact J_19 F (-9) x_2 0 _ h _ _ _ hP hD hS (lv_sub hl [3, 4, 2, 1, 0] rfl)
set_option maxHeartbeats 4000000 in
set_option maxRecDepth 100000 in
theorem c_X4_soonestNail (l : Launch) (D : va_G) (cA : ClassId) (sa sv : Nat → Nat) (a_o0 a_o0_kinds a_o0_figures a_o0_causeBits : Nat) (sz : Nat) (v_o0_kinds : Nat → Int32) (v_o0_figures : Nat → Int32) (v_o0_causeBits : Nat → Int32) (v_o0_size : Int32) (v_o0_lost : Int32) (v_o0_guarded : Int32) (v_o0_day : Int32) (p1 : Int32) (F : Nat) (res : Int32) (h : f_X4_soonestNail F v_o0_kinds v_o0_figures v_o0_causeBits v_o0_size v_o0_lost v_o0_guarded v_o0_day p1 = some res) : Met l yX4_soonestNail wsX4_soonestNail { frames := 4, cells := 0, slots := 0, locals := 84 } (xk_Pc D cA sa sv (wX7 cA a_o0 a_o0_kinds a_o0_figures a_o0_causeBits v_o0_kinds v_o0_figures v_o0_causeBits v_o0_size v_o0_lost v_o0_guarded v_o0_day) sz [.ref a_o0, .int p1]) (xk_Q D (va_A (wX7 cA a_o0 a_o0_kinds a_o0_figures a_o0_causeBits v_o0_kinds v_o0_figures v_o0_causeBits v_o0_size v_o0_lost v_o0_guarded v_o0_day) sz) (some (.int res)) (wX7 cA a_o0 a_o0_kinds a_o0_figures a_o0_causeBits v_o0_kinds v_o0_figures v_o0_causeBits v_o0_size v_o0_lost v_o0_guarded v_o0_day)) 0 0 (va_A (wX7 cA a_o0 a_o0_kinds a_o0_figures a_o0_causeBits v_o0_kinds v_o0_figures v_o0_causeBits v_o0_size v_o0_lost v_o0_guarded v_o0_day) sz) := by
  refine xk_met (fun res : Int32 => some (.int res)) (fun res : Int32 => (wX7 cA a_o0 a_o0_kinds a_o0_figures a_o0_causeBits v_o0_kinds v_o0_figures v_o0_causeBits v_o0_size v_o0_lost v_o0_guarded v_o0_day)) res (cc := cX4_soonestNail) (maxL := 7) (ret := (some .int)) (by decide) rfl (Nat.le_of_ble_eq_true rfl) ?_
  intro p e s m args below meth c A Q ls hQ hx hb hr hlk hml hown hts hK hP hD hS hA hl
  have S : CallFix p m c cX4_soonestNail 7 s args wsX4_soonestNail RX4 := ⟨hx, hb, hml, hown, hts⟩
  have hl : lv_has ls 7 [(0, .ref a_o0), (1, .int p1)] := hl
  have hinX7 : ∀ w ∈ u_ws RX7 TX7 7, w ∈ wsX4_soonestNail := fun _ h => List.mem_cons_of_mem _ (List.mem_append_right _ (h))
  have J_82 : ∀ (k_22r : Int32 → Int32 → Int32 → Int32 → Option (Int32)), (∀ (x2 : Int32) (x3 : Int32) (x4 : Int32) (x5 : Int32) (res : Int32), k_22r x2 x3 x4 x5 = some res → ∀ (H : Heap) (locs : List Loc) (ls : Array Slot), va_P D vwCl (wX7 cA a_o0 a_o0_kinds a_o0_figures a_o0_causeBits v_o0_kinds v_o0_figures v_o0_causeBits v_o0_size v_o0_lost v_o0_guarded v_o0_day) H → va_D A (wX7 cA a_o0 a_o0_kinds a_o0_figures a_o0_causeBits v_o0_kinds v_o0_figures v_o0_causeBits v_o0_size v_o0_lost v_o0_guarded v_o0_day) → va_S A s.heap H locs → lv_has ls 7 [(0, .ref a_o0), (1, .int p1), (2, .int x2), (3, .int x3), (4, .int x4), (5, .int x5)] → W p l e { frames := 4, cells := 0, slots := 0, locals := 84 } s m args below meth c H locs 0 0 (Q res) (F0 m 22 ls [])) → ∀ (x2 : Int32) (x3 : Int32) (x4 : Int32) (x5 : Int32) (res : Int32), f_X4_soonestNail_82 F v_o0_kinds v_o0_figures v_o0_causeBits v_o0_size v_o0_lost v_o0_guarded v_o0_day p1 k_22r x2 x3 x4 x5 = some res → ∀ (H : Heap) (locs : List Loc) (ls : Array Slot), va_P D vwCl (wX7 cA a_o0 a_o0_kinds a_o0_figures a_o0_causeBits v_o0_kinds v_o0_figures v_o0_causeBits v_o0_size v_o0_lost v_o0_guarded v_o0_day) H → va_D A (wX7 cA a_o0 a_o0_kinds a_o0_figures a_o0_causeBits v_o0_kinds v_o0_figures v_o0_causeBits v_o0_size v_o0_lost v_o0_guarded v_o0_day) → va_S A s.heap H locs → lv_has ls 7 [(0, .ref a_o0), (1, .int p1), (2, .int x2), (3, .int x3), (4, .int x4), (5, .int x5)] → W p l e { frames := 4, cells := 0, slots := 0, locals := 84 } s m args below meth c H locs 0 0 (Q res) (F0 m 82 ls []) := by
    intro k_22r hk_22r x2 x3 x4 x5 res h H locs ls hP hD hS hl
    unfold f_X4_soonestNail_82 at h
    refine lv_iinc (v := (x5 + 1)) (lv' := [(5, .int (x5 + 1)), (0, .ref a_o0), (1, .int p1), (2, .int x2), (3, .int x3), (4, .int x4)]) hx hb dX4_soonestNail_82 hl (k := 5) rfl rfl (by decide) rfl (fun ls hl => ?_)
    refine lv_goto (tgt := 22) hx hb dX4_soonestNail_85 (by decide) ?_
    exact hk_22r x2 x3 x4 (x5 + 1) _ h _ _ _ hP hD hS (lv_sub hl [1, 2, 3, 4, 5, 0] rfl)
  have J_76 : ∀ (k_22r : Int32 → Int32 → Int32 → Int32 → Option (Int32)), (∀ (x2 : Int32) (x3 : Int32) (x4 : Int32) (x5 : Int32) (res : Int32), k_22r x2 x3 x4 x5 = some res → ∀ (H : Heap) (locs : List Loc) (ls : Array Slot), va_P D vwCl (wX7 cA a_o0 a_o0_kinds a_o0_figures a_o0_causeBits v_o0_kinds v_o0_figures v_o0_causeBits v_o0_size v_o0_lost v_o0_guarded v_o0_day) H → va_D A (wX7 cA a_o0 a_o0_kinds a_o0_figures a_o0_causeBits v_o0_kinds v_o0_figures v_o0_causeBits v_o0_size v_o0_lost v_o0_guarded v_o0_day) → va_S A s.heap H locs → lv_has ls 7 [(0, .ref a_o0), (1, .int p1), (2, .int x2), (3, .int x3), (4, .int x4), (5, .int x5)] → W p l e { frames := 4, cells := 0, slots := 0, locals := 84 } s m args below meth c H locs 0 0 (Q res) (F0 m 22 ls [])) → ∀ (x4 : Int32) (x5 : Int32) (x6 : Int32) (res : Int32), f_X4_soonestNail_76 F v_o0_kinds v_o0_figures v_o0_causeBits v_o0_size v_o0_lost v_o0_guarded v_o0_day p1 k_22r x4 x5 x6 = some res → ∀ (H : Heap) (locs : List Loc) (ls : Array Slot), va_P D vwCl (wX7 cA a_o0 a_o0_kinds a_o0_figures a_o0_causeBits v_o0_kinds v_o0_figures v_o0_causeBits v_o0_size v_o0_lost v_o0_guarded v_o0_day) H → va_D A (wX7 cA a_o0 a_o0_kinds a_o0_figures a_o0_causeBits v_o0_kinds v_o0_figures v_o0_causeBits v_o0_size v_o0_lost v_o0_guarded v_o0_day) → va_S A s.heap H locs → lv_has ls 7 [(0, .ref a_o0), (1, .int p1), (4, .int x4), (5, .int x5), (6, .int x6)] → W p l e { frames := 4, cells := 0, slots := 0, locals := 84 } s m args below meth c H locs 0 0 (Q res) (F0 m 76 ls []) := by
    intro k_22r hk_22r x4 x5 x6 res h H locs ls hP hD hS hl
    unfold f_X4_soonestNail_76 at h
    refine lv_iload hx hb dX4_soonestNail_76 (lv_at hl 4 rfl) ?_
    refine lv_istore_n (lv' := [(3, .int x6), (0, .ref a_o0), (1, .int p1), (4, .int x4), (5, .int x5), (6, .int x6)]) hx hb dX4_soonestNail_78 rfl hl (by decide) rfl (fun ls hl => ?_)
    refine lv_iload hx hb dX4_soonestNail_79 (lv_at hl 4 rfl) ?_
    refine lv_istore_n (lv' := [(2, .int x5), (3, .int x6), (0, .ref a_o0), (1, .int p1), (4, .int x4), (5, .int x5), (6, .int x6)]) hx hb dX4_soonestNail_81 rfl hl (by decide) rfl (fun ls hl => ?_)
    exact J_82 k_22r hk_22r x5 x6 x4 x5 _ h _ _ _ hP hD hS (lv_sub hl [2, 3, 0, 1, 4, 5] rfl)
  have J_22 : ∀ (n : Nat) (x2 : Int32) (x3 : Int32) (x4 : Int32) (x5 : Int32) (res : Int32), f_X4_soonestNail_22 F v_o0_kinds v_o0_figures v_o0_causeBits v_o0_size v_o0_lost v_o0_guarded v_o0_day p1 n x2 x3 x4 x5 = some res → ∀ (H : Heap) (locs : List Loc) (ls : Array Slot), va_P D vwCl (wX7 cA a_o0 a_o0_kinds a_o0_figures a_o0_causeBits v_o0_kinds v_o0_figures v_o0_causeBits v_o0_size v_o0_lost v_o0_guarded v_o0_day) H → va_D A (wX7 cA a_o0 a_o0_kinds a_o0_figures a_o0_causeBits v_o0_kinds v_o0_figures v_o0_causeBits v_o0_size v_o0_lost v_o0_guarded v_o0_day) → va_S A s.heap H locs → lv_has ls 7 [(0, .ref a_o0), (1, .int p1), (2, .int x2), (3, .int x3), (4, .int x4), (5, .int x5)] → W p l e { frames := 4, cells := 0, slots := 0, locals := 84 } s m args below meth c H locs 0 0 (Q res) (F0 m 22 ls []) := by
    intro n
    induction n with
    | zero => intro x2 x3 x4 x5 res h; exact nomatch (show (none : Option (Int32)) = some res from h)
    | succ n ih =>
      intro x2 x3 x4 x5 res h H locs ls hP hD hS hl
      rw [f_X4_soonestNail_22] at h
      refine lv_iload hx hb dX4_soonestNail_22 (lv_at hl 5 rfl) ?_
      refine lv_aload_n hx hb dX4_soonestNail_24 rfl (lv_at hl 0 rfl) ?_
      refine va_getN (ci := 2) (v := .int v_o0_size) (C := RX7) (T := TX7) (N := 7) hx hb hts hinX7 hown hK.1 hP 0 rfl rfl 3 (by decide) (va_Nw.use rfl (hK.2.1 (.fieldLinkNest RX4 45 RX7 "size" "I" RX9) (List.mem_of_getElem? (i := 11) rfl))) (fun _ h9 => h9) rfl dX4_soonestNail_25 ?_
      refine lv_icmp_ge (tgt := 88) hx hb dX4_soonestNail_28 (by decide) (fun c_3 => ?_) (fun c_3 => ?_)
      · have h := (if_pos c_3).symm.trans h
        refine lv_iload_n hx hb dX4_soonestNail_88 rfl (lv_at hl 2 rfl) ?_
        obtain rfl := Option.some.inj h
        exact xk_iret hx hb hr hlk hP hD hS (hQ _) dX4_soonestNail_89
      · have h := (if_neg c_3).symm.trans h
        refine lv_iload hx hb dX4_soonestNail_31 (lv_at hl 4 rfl) ?_
        refine lv_iconst (v := 1) hx hb dX4_soonestNail_33 (by decide) ?_
        refine lv_iload hx hb dX4_soonestNail_34 (lv_at hl 5 rfl) ?_
        refine lv_ishl hx hb dX4_soonestNail_36 ?_
        refine lv_iand hx hb dX4_soonestNail_37 ?_
        refine lv_if_eq (tgt := 82) hx hb dX4_soonestNail_38 (by decide) (fun c_4 => ?_) (fun c_4 => ?_)
        · have h := (if_pos c_4).symm.trans h
          exact J_82 (f_X4_soonestNail_22 F v_o0_kinds v_o0_figures v_o0_causeBits v_o0_size v_o0_lost v_o0_guarded v_o0_day p1 n) ih x2 x3 x4 x5 _ h _ _ _ hP hD hS (lv_sub hl [0, 1, 2, 3, 4, 5] rfl)
        · have h := (if_neg c_4).symm.trans h
          refine lv_aload_n hx hb dX4_soonestNail_41 rfl (lv_at hl 0 rfl) ?_
          refine lv_iload_n hx hb dX4_soonestNail_42 rfl (lv_at hl 1 rfl) ?_
          refine lv_aload_n hx hb dX4_soonestNail_43 rfl (lv_at hl 0 rfl) ?_
          refine va_getN (ci := 2) (v := .int v_o0_lost) (C := RX7) (T := TX7) (N := 7) hx hb hts hinX7 hown hK.1 hP 0 rfl rfl 4 (by decide) (va_Nw.use rfl (hK.2.1 (.fieldLinkNest RX4 26 RX7 "lost" "I" RX9) (List.mem_of_getElem? (i := 10) rfl))) (fun _ h9 => h9) rfl dX4_soonestNail_44 ?_
          refine lv_iconst (v := 1) hx hb dX4_soonestNail_47 (by decide) ?_
          refine lv_iload hx hb dX4_soonestNail_48 (lv_at hl 5 rfl) ?_
          refine lv_ishl hx hb dX4_soonestNail_50 ?_
          refine lv_ior hx hb dX4_soonestNail_51 ?_
          obtain ⟨x_5, hc_5, h⟩ := bd_some h
          refine xk_S (rest := []) (As := [.ref a_o0, .int p1, .int (v_o0_lost ||| (1 <<< (x5 &&& 31)))]) (stk := [.int x_5]) (wn := (wX7 cA a_o0 a_o0_kinds a_o0_figures a_o0_causeBits v_o0_kinds v_o0_figures v_o0_causeBits v_o0_size v_o0_lost v_o0_guarded v_o0_day)) (v := (some (.int x_5))) (wr := []) gX4_soonestNail_X4_daysUntilLost rfl hdS_X4_daysUntilLost rfl rfl (c_X4_daysUntilLost l D cA sa sv a_o0 a_o0_kinds a_o0_figures a_o0_causeBits _ v_o0_kinds v_o0_figures v_o0_causeBits v_o0_size v_o0_lost v_o0_guarded v_o0_day p1 (v_o0_lost ||| (1 <<< (x5 &&& 31))) F x_5 hc_5) S hK hP hD hS hA [0, 1, 2, 3] [] [0, 1, 2, 3] rfl rfl rfl rfl rfl rfl rfl ⟨Nat.le_of_ble_eq_true rfl, Nat.le_of_ble_eq_true rfl⟩ ⟨Nat.le_refl 0, Nat.le_refl 0⟩ rfl hl.1 rfl (Nat.le_of_ble_eq_true rfl) rfl dX4_soonestNail_52 (fun H locs hP hD hS => ?_)
          refine lv_istore (lv' := [(6, .int x_5), (0, .ref a_o0), (1, .int p1), (2, .int x2), (3, .int x3), (4, .int x4), (5, .int x5)]) hx hb dX4_soonestNail_55 hl (by decide) rfl (fun ls hl => ?_)
          refine lv_iload hx hb dX4_soonestNail_57 (lv_at hl 0 rfl) ?_
          refine lv_bipush (v := (-9)) hx hb dX4_soonestNail_59 (by decide) ?_
          refine lv_icmp_eq (tgt := 82) hx hb dX4_soonestNail_61 (by decide) (fun c_6 => ?_) (fun c_6 => ?_)
          · have h := (if_pos c_6).symm.trans h
            exact J_82 (f_X4_soonestNail_22 F v_o0_kinds v_o0_figures v_o0_causeBits v_o0_size v_o0_lost v_o0_guarded v_o0_day p1 n) ih x2 x3 x4 x5 _ h _ _ _ hP hD hS (lv_sub hl [1, 2, 3, 4, 5, 6] rfl)
          · have h := (if_neg c_6).symm.trans h
            refine lv_iload_n hx hb dX4_soonestNail_64 rfl (lv_at hl 4 rfl) ?_
            refine lv_bipush (v := (-9)) hx hb dX4_soonestNail_65 (by decide) ?_
            refine lv_icmp_eq (tgt := 76) hx hb dX4_soonestNail_67 (by decide) (fun c_7 => ?_) (fun c_7 => ?_)
            · have h := (if_pos c_7).symm.trans h
              exact J_76 (f_X4_soonestNail_22 F v_o0_kinds v_o0_figures v_o0_causeBits v_o0_size v_o0_lost v_o0_guarded v_o0_day p1 n) ih x4 x5 x_5 _ h _ _ _ hP hD hS (lv_sub hl [1, 2, 5, 6, 0] rfl)
            · have h := (if_neg c_7).symm.trans h
              refine lv_iload hx hb dX4_soonestNail_70 (lv_at hl 0 rfl) ?_
              refine lv_iload_n hx hb dX4_soonestNail_72 rfl (lv_at hl 4 rfl) ?_
              refine lv_icmp_ge (tgt := 82) hx hb dX4_soonestNail_73 (by decide) (fun c_8 => ?_) (fun c_8 => ?_)
              · have h := (if_pos c_8).symm.trans h
                exact J_82 (f_X4_soonestNail_22 F v_o0_kinds v_o0_figures v_o0_causeBits v_o0_size v_o0_lost v_o0_guarded v_o0_day p1 n) ih x2 x3 x4 x5 _ h _ _ _ hP hD hS (lv_sub hl [1, 2, 3, 4, 5, 6] rfl)
              · have h := (if_neg c_8).symm.trans h
                exact J_76 (f_X4_soonestNail_22 F v_o0_kinds v_o0_figures v_o0_causeBits v_o0_size v_o0_lost v_o0_guarded v_o0_day p1 n) ih x4 x5 x_5 _ h _ _ _ hP hD hS (lv_sub hl [1, 2, 5, 6, 0] rfl)
  unfold f_X4_soonestNail at h
  refine lv_bipush (v := (-9)) hx hb dX4_soonestNail_0 (by decide) ?_
  refine lv_istore_n (lv' := [(2, .int (-9)), (0, .ref a_o0), (1, .int p1)]) hx hb dX4_soonestNail_2 rfl hl (by decide) rfl (fun ls hl => ?_)
  refine lv_aload_n hx hb dX4_soonestNail_3 rfl (lv_at hl 1 rfl) ?_
  refine lv_iload_n hx hb dX4_soonestNail_4 rfl (lv_at hl 2 rfl) ?_
  refine lv_aload_n hx hb dX4_soonestNail_5 rfl (lv_at hl 1 rfl) ?_
  refine va_getN (ci := 2) (v := .int v_o0_lost) (C := RX7) (T := TX7) (N := 7) hx hb hts hinX7 hown hK.1 hP 0 rfl rfl 4 (by decide) (va_Nw.use rfl (hK.2.1 (.fieldLinkNest RX4 26 RX7 "lost" "I" RX9) (List.mem_of_getElem? (i := 10) rfl))) (fun _ h9 => h9) rfl dX4_soonestNail_6 ?_
  obtain ⟨x_1, hc_1, h⟩ := bd_some h
  refine xk_S (rest := []) (As := [.ref a_o0, .int p1, .int v_o0_lost]) (stk := [.int x_1]) (wn := (wX7 cA a_o0 a_o0_kinds a_o0_figures a_o0_causeBits v_o0_kinds v_o0_figures v_o0_causeBits v_o0_size v_o0_lost v_o0_guarded v_o0_day)) (v := (some (.int x_1))) (wr := []) gX4_soonestNail_X4_daysUntilLost rfl hdS_X4_daysUntilLost rfl rfl (c_X4_daysUntilLost l D cA sa sv a_o0 a_o0_kinds a_o0_figures a_o0_causeBits _ v_o0_kinds v_o0_figures v_o0_causeBits v_o0_size v_o0_lost v_o0_guarded v_o0_day p1 v_o0_lost F x_1 hc_1) S hK hP hD hS hA [0, 1, 2, 3] [] [0, 1, 2, 3] rfl rfl rfl rfl rfl rfl rfl ⟨Nat.le_of_ble_eq_true rfl, Nat.le_of_ble_eq_true rfl⟩ ⟨Nat.le_refl 0, Nat.le_refl 0⟩ rfl hl.1 rfl (Nat.le_of_ble_eq_true rfl) rfl dX4_soonestNail_9 (fun H locs hP hD hS => ?_)
  refine lv_istore_n (lv' := [(3, .int x_1), (2, .int (-9)), (0, .ref a_o0), (1, .int p1)]) hx hb dX4_soonestNail_12 rfl hl (by decide) rfl (fun ls hl => ?_)
  refine lv_aload_n hx hb dX4_soonestNail_13 rfl (lv_at hl 2 rfl) ?_
  obtain ⟨x_2, hc_2, h⟩ := bd_some h
  refine xk_V (rest := []) (As := []) (stk := [.int x_2]) (wn := (wX7 cA a_o0 a_o0_kinds a_o0_figures a_o0_causeBits v_o0_kinds v_o0_figures v_o0_causeBits v_o0_size v_o0_lost v_o0_guarded v_o0_day)) (v := (some (.int x_2))) (wr := []) gX4_soonestNail_X7_openNails rfl hdV_X7_openNails rfl rfl (c_X7_openNails l D cA sa sv a_o0 a_o0_kinds a_o0_figures a_o0_causeBits _ v_o0_kinds v_o0_figures v_o0_causeBits v_o0_size v_o0_lost v_o0_guarded v_o0_day F x_2 hc_2) (ci := 2) rfl (q0 := 0) rfl S hK hP hD hS hA [0, 1, 2, 3] [] [0, 1, 2, 3] rfl rfl rfl rfl rfl rfl rfl ⟨Nat.le_of_ble_eq_true rfl, Nat.le_of_ble_eq_true rfl⟩ ⟨Nat.le_refl 0, Nat.le_refl 0⟩ rfl hl.1 rfl (Nat.le_of_ble_eq_true rfl) rfl dX4_soonestNail_14 (fun H locs hP hD hS => ?_)
  refine lv_istore (lv' := [(4, .int x_2), (3, .int x_1), (2, .int (-9)), (0, .ref a_o0), (1, .int p1)]) hx hb dX4_soonestNail_17 hl (by decide) rfl (fun ls hl => ?_)
  refine lv_iconst (v := 0) hx hb dX4_soonestNail_19 (by decide) ?_
  refine lv_istore (lv' := [(5, .int 0), (4, .int x_2), (3, .int x_1), (2, .int (-9)), (0, .ref a_o0), (1, .int p1)]) hx hb dX4_soonestNail_20 hl (by decide) rfl (fun ls hl => ?_)
  exact J_22 F (-9) x_1 x_2 0 _ h _ _ _ hP hD hS (lv_sub hl [4, 5, 3, 2, 1, 0] rfl)
set_option maxHeartbeats 4000000 in
set_option maxRecDepth 100000 in
theorem c_X4_worstNail (l : Launch) (D : va_G) (cA : ClassId) (sa sv : Nat → Nat) (a_o0 a_o0_kinds a_o0_figures a_o0_causeBits : Nat) (sz : Nat) (v_o0_kinds : Nat → Int32) (v_o0_figures : Nat → Int32) (v_o0_causeBits : Nat → Int32) (v_o0_size : Int32) (v_o0_lost : Int32) (v_o0_guarded : Int32) (v_o0_day : Int32) (p1 : Int32) (F : Nat) (res : Int32) (h : f_X4_worstNail F v_o0_kinds v_o0_figures v_o0_causeBits v_o0_size v_o0_lost v_o0_guarded v_o0_day p1 = some res) : Met l yX4_worstNail wsX4_worstNail { frames := 4, cells := 0, slots := 0, locals := 102 } (xk_Pc D cA sa sv (wX7 cA a_o0 a_o0_kinds a_o0_figures a_o0_causeBits v_o0_kinds v_o0_figures v_o0_causeBits v_o0_size v_o0_lost v_o0_guarded v_o0_day) sz [.ref a_o0, .int p1]) (xk_Q D (va_A (wX7 cA a_o0 a_o0_kinds a_o0_figures a_o0_causeBits v_o0_kinds v_o0_figures v_o0_causeBits v_o0_size v_o0_lost v_o0_guarded v_o0_day) sz) (some (.int res)) (wX7 cA a_o0 a_o0_kinds a_o0_figures a_o0_causeBits v_o0_kinds v_o0_figures v_o0_causeBits v_o0_size v_o0_lost v_o0_guarded v_o0_day)) 0 0 (va_A (wX7 cA a_o0 a_o0_kinds a_o0_figures a_o0_causeBits v_o0_kinds v_o0_figures v_o0_causeBits v_o0_size v_o0_lost v_o0_guarded v_o0_day) sz) := by
  refine xk_met (fun res : Int32 => some (.int res)) (fun res : Int32 => (wX7 cA a_o0 a_o0_kinds a_o0_figures a_o0_causeBits v_o0_kinds v_o0_figures v_o0_causeBits v_o0_size v_o0_lost v_o0_guarded v_o0_day)) res (cc := cX4_worstNail) (maxL := 7) (ret := (some .int)) (by decide) rfl (Nat.le_of_ble_eq_true rfl) ?_
  intro p e s m args below meth c A Q ls hQ hx hb hr hlk hml hown hts hK hP hD hS hA hl
  have S : CallFix p m c cX4_worstNail 7 s args wsX4_worstNail RX4 := ⟨hx, hb, hml, hown, hts⟩
  have hl : lv_has ls 7 [(0, .ref a_o0), (1, .int p1)] := hl
  have hinX7 : ∀ w ∈ u_ws RX7 TX7 7, w ∈ wsX4_worstNail := fun _ h => List.mem_cons_of_mem _ (List.mem_append_right _ (h))
  have J_75 : ∀ (k_25r : Int32 → Int32 → Int32 → Int32 → Option (Int32)), (∀ (x2 : Int32) (x3 : Int32) (x4 : Int32) (x5 : Int32) (res : Int32), k_25r x2 x3 x4 x5 = some res → ∀ (H : Heap) (locs : List Loc) (ls : Array Slot), va_P D vwCl (wX7 cA a_o0 a_o0_kinds a_o0_figures a_o0_causeBits v_o0_kinds v_o0_figures v_o0_causeBits v_o0_size v_o0_lost v_o0_guarded v_o0_day) H → va_D A (wX7 cA a_o0 a_o0_kinds a_o0_figures a_o0_causeBits v_o0_kinds v_o0_figures v_o0_causeBits v_o0_size v_o0_lost v_o0_guarded v_o0_day) → va_S A s.heap H locs → lv_has ls 7 [(0, .ref a_o0), (1, .int p1), (2, .int x2), (3, .int x3), (4, .int x4), (5, .int x5)] → W p l e { frames := 4, cells := 0, slots := 0, locals := 102 } s m args below meth c H locs 0 0 (Q res) (F0 m 25 ls [])) → ∀ (x2 : Int32) (x3 : Int32) (x4 : Int32) (x5 : Int32) (res : Int32), f_X4_worstNail_75 F v_o0_kinds v_o0_figures v_o0_causeBits v_o0_size v_o0_lost v_o0_guarded v_o0_day p1 k_25r x2 x3 x4 x5 = some res → ∀ (H : Heap) (locs : List Loc) (ls : Array Slot), va_P D vwCl (wX7 cA a_o0 a_o0_kinds a_o0_figures a_o0_causeBits v_o0_kinds v_o0_figures v_o0_causeBits v_o0_size v_o0_lost v_o0_guarded v_o0_day) H → va_D A (wX7 cA a_o0 a_o0_kinds a_o0_figures a_o0_causeBits v_o0_kinds v_o0_figures v_o0_causeBits v_o0_size v_o0_lost v_o0_guarded v_o0_day) → va_S A s.heap H locs → lv_has ls 7 [(0, .ref a_o0), (1, .int p1), (2, .int x2), (3, .int x3), (4, .int x4), (5, .int x5)] → W p l e { frames := 4, cells := 0, slots := 0, locals := 102 } s m args below meth c H locs 0 0 (Q res) (F0 m 75 ls []) := by
    intro k_25r hk_25r x2 x3 x4 x5 res h H locs ls hP hD hS hl
    unfold f_X4_worstNail_75 at h
    refine lv_iinc (v := (x5 + 1)) (lv' := [(5, .int (x5 + 1)), (0, .ref a_o0), (1, .int p1), (2, .int x2), (3, .int x3), (4, .int x4)]) hx hb dX4_worstNail_75 hl (k := 5) rfl rfl (by decide) rfl (fun ls hl => ?_)
    refine lv_goto (tgt := 25) hx hb dX4_worstNail_78 (by decide) ?_
    exact hk_25r x2 x3 x4 (x5 + 1) _ h _ _ _ hP hD hS (lv_sub hl [1, 2, 3, 4, 5, 0] rfl)
  have J_25 : ∀ (n : Nat) (x2 : Int32) (x3 : Int32) (x4 : Int32) (x5 : Int32) (res : Int32), f_X4_worstNail_25 F v_o0_kinds v_o0_figures v_o0_causeBits v_o0_size v_o0_lost v_o0_guarded v_o0_day p1 n x2 x3 x4 x5 = some res → ∀ (H : Heap) (locs : List Loc) (ls : Array Slot), va_P D vwCl (wX7 cA a_o0 a_o0_kinds a_o0_figures a_o0_causeBits v_o0_kinds v_o0_figures v_o0_causeBits v_o0_size v_o0_lost v_o0_guarded v_o0_day) H → va_D A (wX7 cA a_o0 a_o0_kinds a_o0_figures a_o0_causeBits v_o0_kinds v_o0_figures v_o0_causeBits v_o0_size v_o0_lost v_o0_guarded v_o0_day) → va_S A s.heap H locs → lv_has ls 7 [(0, .ref a_o0), (1, .int p1), (2, .int x2), (3, .int x3), (4, .int x4), (5, .int x5)] → W p l e { frames := 4, cells := 0, slots := 0, locals := 102 } s m args below meth c H locs 0 0 (Q res) (F0 m 25 ls []) := by
    intro n
    induction n with
    | zero => intro x2 x3 x4 x5 res h; exact nomatch (show (none : Option (Int32)) = some res from h)
    | succ n ih =>
      intro x2 x3 x4 x5 res h H locs ls hP hD hS hl
      rw [f_X4_worstNail_25] at h
      refine lv_iload hx hb dX4_worstNail_25 (lv_at hl 5 rfl) ?_
      refine lv_aload_n hx hb dX4_worstNail_27 rfl (lv_at hl 0 rfl) ?_
      refine va_getN (ci := 2) (v := .int v_o0_size) (C := RX7) (T := TX7) (N := 7) hx hb hts hinX7 hown hK.1 hP 0 rfl rfl 3 (by decide) (va_Nw.use rfl (hK.2.1 (.fieldLinkNest RX4 45 RX7 "size" "I" RX9) (List.mem_of_getElem? (i := 11) rfl))) (fun _ h9 => h9) rfl dX4_worstNail_28 ?_
      refine lv_icmp_ge (tgt := 81) hx hb dX4_worstNail_31 (by decide) (fun c_4 => ?_) (fun c_4 => ?_)
      · have h := (if_pos c_4).symm.trans h
        refine lv_iload_n hx hb dX4_worstNail_81 rfl (lv_at hl 2 rfl) ?_
        obtain rfl := Option.some.inj h
        exact xk_iret hx hb hr hlk hP hD hS (hQ _) dX4_worstNail_82
      · have h := (if_neg c_4).symm.trans h
        refine lv_iload hx hb dX4_worstNail_34 (lv_at hl 4 rfl) ?_
        refine lv_iconst (v := 1) hx hb dX4_worstNail_36 (by decide) ?_
        refine lv_iload hx hb dX4_worstNail_37 (lv_at hl 5 rfl) ?_
        refine lv_ishl hx hb dX4_worstNail_39 ?_
        refine lv_iand hx hb dX4_worstNail_40 ?_
        refine lv_if_eq (tgt := 75) hx hb dX4_worstNail_41 (by decide) (fun c_5 => ?_) (fun c_5 => ?_)
        · have h := (if_pos c_5).symm.trans h
          exact J_75 (f_X4_worstNail_25 F v_o0_kinds v_o0_figures v_o0_causeBits v_o0_size v_o0_lost v_o0_guarded v_o0_day p1 n) ih x2 x3 x4 x5 _ h _ _ _ hP hD hS (lv_sub hl [0, 1, 2, 3, 4, 5] rfl)
        · have h := (if_neg c_5).symm.trans h
          refine lv_aload_n hx hb dX4_worstNail_44 rfl (lv_at hl 0 rfl) ?_
          refine lv_aload_n hx hb dX4_worstNail_45 rfl (lv_at hl 0 rfl) ?_
          refine va_getN (ci := 2) (v := .int v_o0_lost) (C := RX7) (T := TX7) (N := 7) hx hb hts hinX7 hown hK.1 hP 0 rfl rfl 4 (by decide) (va_Nw.use rfl (hK.2.1 (.fieldLinkNest RX4 26 RX7 "lost" "I" RX9) (List.mem_of_getElem? (i := 10) rfl))) (fun _ h9 => h9) rfl dX4_worstNail_46 ?_
          refine lv_iconst (v := 1) hx hb dX4_worstNail_49 (by decide) ?_
          refine lv_iload hx hb dX4_worstNail_50 (lv_at hl 5 rfl) ?_
          refine lv_ishl hx hb dX4_worstNail_52 ?_
          refine lv_ior hx hb dX4_worstNail_53 ?_
          refine lv_iload_n hx hb dX4_worstNail_54 rfl (lv_at hl 1 rfl) ?_
          obtain ⟨x_6, hc_6, h⟩ := bd_some h
          refine xk_S (rest := []) (As := [.ref a_o0, .int (v_o0_lost ||| (1 <<< (x5 &&& 31))), .int p1]) (stk := [.int x_6]) (wn := (wX7 cA a_o0 a_o0_kinds a_o0_figures a_o0_causeBits v_o0_kinds v_o0_figures v_o0_causeBits v_o0_size v_o0_lost v_o0_guarded v_o0_day)) (v := (some (.int x_6))) (wr := []) gX4_worstNail_X4_lostBehind rfl hdS_X4_lostBehind rfl rfl (c_X4_lostBehind l D cA sa sv a_o0 a_o0_kinds a_o0_figures a_o0_causeBits _ v_o0_kinds v_o0_figures v_o0_causeBits v_o0_size v_o0_lost v_o0_guarded v_o0_day (v_o0_lost ||| (1 <<< (x5 &&& 31))) p1 F x_6 hc_6) S hK hP hD hS hA [0, 1, 2, 3] [] [0, 1, 2, 3] rfl rfl rfl rfl rfl rfl rfl ⟨Nat.le_of_ble_eq_true rfl, Nat.le_of_ble_eq_true rfl⟩ ⟨Nat.le_refl 0, Nat.le_refl 0⟩ rfl hl.1 rfl (Nat.le_of_ble_eq_true rfl) rfl dX4_worstNail_55 (fun H locs hP hD hS => ?_)
          obtain ⟨x_7, hc_7, h⟩ := bd_some h
          refine xk_S (rest := []) (As := [.int x_6]) (stk := [.int x_7]) (wn := (wX7 cA a_o0 a_o0_kinds a_o0_figures a_o0_causeBits v_o0_kinds v_o0_figures v_o0_causeBits v_o0_size v_o0_lost v_o0_guarded v_o0_day)) (v := (some (.int x_7))) (wr := [(a_o0, .inr (2, [.ref a_o0_kinds, .ref a_o0_figures, .ref a_o0_causeBits, .int v_o0_size, .int v_o0_lost, .int v_o0_guarded, .int v_o0_day])), (a_o0_kinds, .inl (cA, 9, .inl v_o0_kinds)), (a_o0_figures, .inl (cA, 9, .inl v_o0_figures)), (a_o0_causeBits, .inl (cA, 9, .inl v_o0_causeBits))]) gX4_worstNail_J6_bitCount_0f7a4 rfl hdS_J6_bitCount_0f7a4 rfl rfl (c_J6_bitCount_0f7a4 l D cA sa sv _ x_6 x_7 hc_7) S hK hP hD hS hA [] [0, 1, 2, 3] [0, 1, 2, 3] rfl rfl rfl rfl rfl rfl rfl ⟨Nat.le_of_ble_eq_true rfl, Nat.le_of_ble_eq_true rfl⟩ ⟨Nat.le_refl 0, Nat.le_refl 0⟩ rfl hl.1 rfl (Nat.le_of_ble_eq_true rfl) rfl dX4_worstNail_58 (fun H locs hP hD hS => ?_)
          refine lv_istore (lv' := [(6, .int x_7), (0, .ref a_o0), (1, .int p1), (2, .int x2), (3, .int x3), (4, .int x4), (5, .int x5)]) hx hb dX4_worstNail_61 hl (by decide) rfl (fun ls hl => ?_)
          refine lv_iload hx hb dX4_worstNail_63 (lv_at hl 0 rfl) ?_
          refine lv_iload_n hx hb dX4_worstNail_65 rfl (lv_at hl 4 rfl) ?_
          refine lv_icmp_le (tgt := 75) hx hb dX4_worstNail_66 (by decide) (fun c_8 => ?_) (fun c_8 => ?_)
          · have h := (if_pos c_8).symm.trans h
            exact J_75 (f_X4_worstNail_25 F v_o0_kinds v_o0_figures v_o0_causeBits v_o0_size v_o0_lost v_o0_guarded v_o0_day p1 n) ih x2 x3 x4 x5 _ h _ _ _ hP hD hS (lv_sub hl [1, 2, 3, 4, 5, 6] rfl)
          · have h := (if_neg c_8).symm.trans h
            refine lv_iload hx hb dX4_worstNail_69 (lv_at hl 0 rfl) ?_
            refine lv_istore_n (lv' := [(3, .int x_7), (6, .int x_7), (0, .ref a_o0), (1, .int p1), (2, .int x2), (4, .int x4), (5, .int x5)]) hx hb dX4_worstNail_71 rfl hl (by decide) rfl (fun ls hl => ?_)
            refine lv_iload hx hb dX4_worstNail_72 (lv_at hl 6 rfl) ?_
            refine lv_istore_n (lv' := [(2, .int x5), (3, .int x_7), (6, .int x_7), (0, .ref a_o0), (1, .int p1), (4, .int x4), (5, .int x5)]) hx hb dX4_worstNail_74 rfl hl (by decide) rfl (fun ls hl => ?_)
            exact J_75 (f_X4_worstNail_25 F v_o0_kinds v_o0_figures v_o0_causeBits v_o0_size v_o0_lost v_o0_guarded v_o0_day p1 n) ih x5 x_7 x4 x5 _ h _ _ _ hP hD hS (lv_sub hl [3, 4, 0, 1, 5, 6] rfl)
  unfold f_X4_worstNail at h
  refine lv_bipush (v := (-9)) hx hb dX4_worstNail_0 (by decide) ?_
  refine lv_istore_n (lv' := [(2, .int (-9)), (0, .ref a_o0), (1, .int p1)]) hx hb dX4_worstNail_2 rfl hl (by decide) rfl (fun ls hl => ?_)
  refine lv_aload_n hx hb dX4_worstNail_3 rfl (lv_at hl 1 rfl) ?_
  refine lv_aload_n hx hb dX4_worstNail_4 rfl (lv_at hl 1 rfl) ?_
  refine va_getN (ci := 2) (v := .int v_o0_lost) (C := RX7) (T := TX7) (N := 7) hx hb hts hinX7 hown hK.1 hP 0 rfl rfl 4 (by decide) (va_Nw.use rfl (hK.2.1 (.fieldLinkNest RX4 26 RX7 "lost" "I" RX9) (List.mem_of_getElem? (i := 10) rfl))) (fun _ h9 => h9) rfl dX4_worstNail_5 ?_
  refine lv_iload_n hx hb dX4_worstNail_8 rfl (lv_at hl 2 rfl) ?_
  obtain ⟨x_1, hc_1, h⟩ := bd_some h
  refine xk_S (rest := []) (As := [.ref a_o0, .int v_o0_lost, .int p1]) (stk := [.int x_1]) (wn := (wX7 cA a_o0 a_o0_kinds a_o0_figures a_o0_causeBits v_o0_kinds v_o0_figures v_o0_causeBits v_o0_size v_o0_lost v_o0_guarded v_o0_day)) (v := (some (.int x_1))) (wr := []) gX4_worstNail_X4_lostBehind rfl hdS_X4_lostBehind rfl rfl (c_X4_lostBehind l D cA sa sv a_o0 a_o0_kinds a_o0_figures a_o0_causeBits _ v_o0_kinds v_o0_figures v_o0_causeBits v_o0_size v_o0_lost v_o0_guarded v_o0_day v_o0_lost p1 F x_1 hc_1) S hK hP hD hS hA [0, 1, 2, 3] [] [0, 1, 2, 3] rfl rfl rfl rfl rfl rfl rfl ⟨Nat.le_of_ble_eq_true rfl, Nat.le_of_ble_eq_true rfl⟩ ⟨Nat.le_refl 0, Nat.le_refl 0⟩ rfl hl.1 rfl (Nat.le_of_ble_eq_true rfl) rfl dX4_worstNail_9 (fun H locs hP hD hS => ?_)
  obtain ⟨x_2, hc_2, h⟩ := bd_some h
  refine xk_S (rest := []) (As := [.int x_1]) (stk := [.int x_2]) (wn := (wX7 cA a_o0 a_o0_kinds a_o0_figures a_o0_causeBits v_o0_kinds v_o0_figures v_o0_causeBits v_o0_size v_o0_lost v_o0_guarded v_o0_day)) (v := (some (.int x_2))) (wr := [(a_o0, .inr (2, [.ref a_o0_kinds, .ref a_o0_figures, .ref a_o0_causeBits, .int v_o0_size, .int v_o0_lost, .int v_o0_guarded, .int v_o0_day])), (a_o0_kinds, .inl (cA, 9, .inl v_o0_kinds)), (a_o0_figures, .inl (cA, 9, .inl v_o0_figures)), (a_o0_causeBits, .inl (cA, 9, .inl v_o0_causeBits))]) gX4_worstNail_J6_bitCount_0f7a4 rfl hdS_J6_bitCount_0f7a4 rfl rfl (c_J6_bitCount_0f7a4 l D cA sa sv _ x_1 x_2 hc_2) S hK hP hD hS hA [] [0, 1, 2, 3] [0, 1, 2, 3] rfl rfl rfl rfl rfl rfl rfl ⟨Nat.le_of_ble_eq_true rfl, Nat.le_of_ble_eq_true rfl⟩ ⟨Nat.le_refl 0, Nat.le_refl 0⟩ rfl hl.1 rfl (Nat.le_of_ble_eq_true rfl) rfl dX4_worstNail_12 (fun H locs hP hD hS => ?_)
  refine lv_istore_n (lv' := [(3, .int x_2), (2, .int (-9)), (0, .ref a_o0), (1, .int p1)]) hx hb dX4_worstNail_15 rfl hl (by decide) rfl (fun ls hl => ?_)
  refine lv_aload_n hx hb dX4_worstNail_16 rfl (lv_at hl 2 rfl) ?_
  obtain ⟨x_3, hc_3, h⟩ := bd_some h
  refine xk_V (rest := []) (As := []) (stk := [.int x_3]) (wn := (wX7 cA a_o0 a_o0_kinds a_o0_figures a_o0_causeBits v_o0_kinds v_o0_figures v_o0_causeBits v_o0_size v_o0_lost v_o0_guarded v_o0_day)) (v := (some (.int x_3))) (wr := []) gX4_worstNail_X7_openNails rfl hdV_X7_openNails rfl rfl (c_X7_openNails l D cA sa sv a_o0 a_o0_kinds a_o0_figures a_o0_causeBits _ v_o0_kinds v_o0_figures v_o0_causeBits v_o0_size v_o0_lost v_o0_guarded v_o0_day F x_3 hc_3) (ci := 2) rfl (q0 := 0) rfl S hK hP hD hS hA [0, 1, 2, 3] [] [0, 1, 2, 3] rfl rfl rfl rfl rfl rfl rfl ⟨Nat.le_of_ble_eq_true rfl, Nat.le_of_ble_eq_true rfl⟩ ⟨Nat.le_refl 0, Nat.le_refl 0⟩ rfl hl.1 rfl (Nat.le_of_ble_eq_true rfl) rfl dX4_worstNail_17 (fun H locs hP hD hS => ?_)
  refine lv_istore (lv' := [(4, .int x_3), (3, .int x_2), (2, .int (-9)), (0, .ref a_o0), (1, .int p1)]) hx hb dX4_worstNail_20 hl (by decide) rfl (fun ls hl => ?_)
  refine lv_iconst (v := 0) hx hb dX4_worstNail_22 (by decide) ?_
  refine lv_istore (lv' := [(5, .int 0), (4, .int x_3), (3, .int x_2), (2, .int (-9)), (0, .ref a_o0), (1, .int p1)]) hx hb dX4_worstNail_23 hl (by decide) rfl (fun ls hl => ?_)
  exact J_25 F (-9) x_2 x_3 0 _ h _ _ _ hP hD hS (lv_sub hl [4, 5, 3, 2, 1, 0] rfl)
set_option maxHeartbeats 4000000 in
set_option maxRecDepth 100000 in
theorem c_X4_fewestToLose (l : Launch) (D : va_G) (cA : ClassId) (sa sv : Nat → Nat) (a_o0 a_o0_kinds a_o0_figures a_o0_causeBits : Nat) (sz : Nat) (v_o0_kinds : Nat → Int32) (v_o0_figures : Nat → Int32) (v_o0_causeBits : Nat → Int32) (v_o0_size : Int32) (v_o0_lost : Int32) (v_o0_guarded : Int32) (v_o0_day : Int32) (p1 : Int32) (F : Nat) (res : Int32) (h : f_X4_fewestToLose F v_o0_kinds v_o0_figures v_o0_causeBits v_o0_size v_o0_lost v_o0_guarded v_o0_day p1 = some res) : Met l yX4_fewestToLose wsX4_fewestToLose { frames := 4, cells := 0, slots := 0, locals := 84 } (xk_Pc D cA sa sv (wX7 cA a_o0 a_o0_kinds a_o0_figures a_o0_causeBits v_o0_kinds v_o0_figures v_o0_causeBits v_o0_size v_o0_lost v_o0_guarded v_o0_day) sz [.ref a_o0, .int p1]) (xk_Q D (va_A (wX7 cA a_o0 a_o0_kinds a_o0_figures a_o0_causeBits v_o0_kinds v_o0_figures v_o0_causeBits v_o0_size v_o0_lost v_o0_guarded v_o0_day) sz) (some (.int res)) (wX7 cA a_o0 a_o0_kinds a_o0_figures a_o0_causeBits v_o0_kinds v_o0_figures v_o0_causeBits v_o0_size v_o0_lost v_o0_guarded v_o0_day)) 0 0 (va_A (wX7 cA a_o0 a_o0_kinds a_o0_figures a_o0_causeBits v_o0_kinds v_o0_figures v_o0_causeBits v_o0_size v_o0_lost v_o0_guarded v_o0_day) sz) := by
  refine xk_met (fun res : Int32 => some (.int res)) (fun res : Int32 => (wX7 cA a_o0 a_o0_kinds a_o0_figures a_o0_causeBits v_o0_kinds v_o0_figures v_o0_causeBits v_o0_size v_o0_lost v_o0_guarded v_o0_day)) res (cc := cX4_fewestToLose) (maxL := 7) (ret := (some .int)) (by decide) rfl (Nat.le_of_ble_eq_true rfl) ?_
  intro p e s m args below meth c A Q ls hQ hx hb hr hlk hml hown hts hK hP hD hS hA hl
  have S : CallFix p m c cX4_fewestToLose 7 s args wsX4_fewestToLose RX4 := ⟨hx, hb, hml, hown, hts⟩
  have hl : lv_has ls 7 [(0, .ref a_o0), (1, .int p1)] := hl
  have hinX7 : ∀ w ∈ u_ws RX7 TX7 7, w ∈ wsX4_fewestToLose := fun _ h => List.mem_cons_of_mem _ (List.mem_append_right _ (h))
  have J_81 : ∀ (k_15r : Int32 → Int32 → Int32 → Int32 → Option (Int32)), (∀ (x2 : Int32) (x3 : Int32) (x4 : Int32) (x5 : Int32) (res : Int32), k_15r x2 x3 x4 x5 = some res → ∀ (H : Heap) (locs : List Loc) (ls : Array Slot), va_P D vwCl (wX7 cA a_o0 a_o0_kinds a_o0_figures a_o0_causeBits v_o0_kinds v_o0_figures v_o0_causeBits v_o0_size v_o0_lost v_o0_guarded v_o0_day) H → va_D A (wX7 cA a_o0 a_o0_kinds a_o0_figures a_o0_causeBits v_o0_kinds v_o0_figures v_o0_causeBits v_o0_size v_o0_lost v_o0_guarded v_o0_day) → va_S A s.heap H locs → lv_has ls 7 [(0, .ref a_o0), (1, .int p1), (2, .int x2), (3, .int x3), (4, .int x4), (5, .int x5)] → W p l e { frames := 4, cells := 0, slots := 0, locals := 84 } s m args below meth c H locs 0 0 (Q res) (F0 m 15 ls [])) → ∀ (x2 : Int32) (x3 : Int32) (x4 : Int32) (x5 : Int32) (res : Int32), f_X4_fewestToLose_81 F v_o0_kinds v_o0_figures v_o0_causeBits v_o0_size v_o0_lost v_o0_guarded v_o0_day p1 k_15r x2 x3 x4 x5 = some res → ∀ (H : Heap) (locs : List Loc) (ls : Array Slot), va_P D vwCl (wX7 cA a_o0 a_o0_kinds a_o0_figures a_o0_causeBits v_o0_kinds v_o0_figures v_o0_causeBits v_o0_size v_o0_lost v_o0_guarded v_o0_day) H → va_D A (wX7 cA a_o0 a_o0_kinds a_o0_figures a_o0_causeBits v_o0_kinds v_o0_figures v_o0_causeBits v_o0_size v_o0_lost v_o0_guarded v_o0_day) → va_S A s.heap H locs → lv_has ls 7 [(0, .ref a_o0), (1, .int p1), (2, .int x2), (3, .int x3), (4, .int x4), (5, .int x5)] → W p l e { frames := 4, cells := 0, slots := 0, locals := 84 } s m args below meth c H locs 0 0 (Q res) (F0 m 81 ls []) := by
    intro k_15r hk_15r x2 x3 x4 x5 res h H locs ls hP hD hS hl
    unfold f_X4_fewestToLose_81 at h
    refine lv_iinc (v := (x5 + 1)) (lv' := [(5, .int (x5 + 1)), (0, .ref a_o0), (1, .int p1), (2, .int x2), (3, .int x3), (4, .int x4)]) hx hb dX4_fewestToLose_81 hl (k := 5) rfl rfl (by decide) rfl (fun ls hl => ?_)
    refine lv_goto (tgt := 15) hx hb dX4_fewestToLose_84 (by decide) ?_
    exact hk_15r x2 x3 x4 (x5 + 1) _ h _ _ _ hP hD hS (lv_sub hl [1, 2, 3, 4, 5, 0] rfl)
  have J_48 : ∀ (k_15r : Int32 → Int32 → Int32 → Int32 → Option (Int32)), (∀ (x2 : Int32) (x3 : Int32) (x4 : Int32) (x5 : Int32) (res : Int32), k_15r x2 x3 x4 x5 = some res → ∀ (H : Heap) (locs : List Loc) (ls : Array Slot), va_P D vwCl (wX7 cA a_o0 a_o0_kinds a_o0_figures a_o0_causeBits v_o0_kinds v_o0_figures v_o0_causeBits v_o0_size v_o0_lost v_o0_guarded v_o0_day) H → va_D A (wX7 cA a_o0 a_o0_kinds a_o0_figures a_o0_causeBits v_o0_kinds v_o0_figures v_o0_causeBits v_o0_size v_o0_lost v_o0_guarded v_o0_day) → va_S A s.heap H locs → lv_has ls 7 [(0, .ref a_o0), (1, .int p1), (2, .int x2), (3, .int x3), (4, .int x4), (5, .int x5)] → W p l e { frames := 4, cells := 0, slots := 0, locals := 84 } s m args below meth c H locs 0 0 (Q res) (F0 m 15 ls [])) → ∀ (s0 : Int32) (x2 : Int32) (x3 : Int32) (x4 : Int32) (x5 : Int32) (res : Int32), f_X4_fewestToLose_48 F v_o0_kinds v_o0_figures v_o0_causeBits v_o0_size v_o0_lost v_o0_guarded v_o0_day p1 k_15r s0 x2 x3 x4 x5 = some res → ∀ (H : Heap) (locs : List Loc) (ls : Array Slot), va_P D vwCl (wX7 cA a_o0 a_o0_kinds a_o0_figures a_o0_causeBits v_o0_kinds v_o0_figures v_o0_causeBits v_o0_size v_o0_lost v_o0_guarded v_o0_day) H → va_D A (wX7 cA a_o0 a_o0_kinds a_o0_figures a_o0_causeBits v_o0_kinds v_o0_figures v_o0_causeBits v_o0_size v_o0_lost v_o0_guarded v_o0_day) → va_S A s.heap H locs → lv_has ls 7 [(0, .ref a_o0), (1, .int p1), (2, .int x2), (3, .int x3), (4, .int x4), (5, .int x5)] → W p l e { frames := 4, cells := 0, slots := 0, locals := 84 } s m args below meth c H locs 0 0 (Q res) (F0 m 48 ls [.int s0]) := by
    intro k_15r hk_15r s0 x2 x3 x4 x5 res h H locs ls hP hD hS hl
    unfold f_X4_fewestToLose_48 at h
    refine lv_istore (lv' := [(6, .int s0), (0, .ref a_o0), (1, .int p1), (2, .int x2), (3, .int x3), (4, .int x4), (5, .int x5)]) hx hb dX4_fewestToLose_48 hl (by decide) rfl (fun ls hl => ?_)
    refine lv_iload hx hb dX4_fewestToLose_50 (lv_at hl 0 rfl) ?_
    refine lv_if_eq (tgt := 81) hx hb dX4_fewestToLose_52 (by decide) (fun c_5 => ?_) (fun c_5 => ?_)
    · have h := (if_pos c_5).symm.trans h
      exact J_81 k_15r hk_15r x2 x3 x4 x5 _ h _ _ _ hP hD hS (lv_sub hl [1, 2, 3, 4, 5, 6] rfl)
    · have h := (if_neg c_5).symm.trans h
      refine lv_aload_n hx hb dX4_fewestToLose_55 rfl (lv_at hl 1 rfl) ?_
      refine lv_iload_n hx hb dX4_fewestToLose_56 rfl (lv_at hl 2 rfl) ?_
      refine lv_aload_n hx hb dX4_fewestToLose_57 rfl (lv_at hl 1 rfl) ?_
      refine va_getN (ci := 2) (v := .int v_o0_lost) (C := RX7) (T := TX7) (N := 7) hx hb hts hinX7 hown hK.1 hP 0 rfl rfl 4 (by decide) (va_Nw.use rfl (hK.2.1 (.fieldLinkNest RX4 26 RX7 "lost" "I" RX9) (List.mem_of_getElem? (i := 10) rfl))) (fun _ h9 => h9) rfl dX4_fewestToLose_58 ?_
      refine lv_iload hx hb dX4_fewestToLose_61 (lv_at hl 6 rfl) ?_
      refine lv_ior hx hb dX4_fewestToLose_63 ?_
      obtain ⟨x_6, hc_6, h⟩ := bd_some h
      refine xk_S (rest := []) (As := [.ref a_o0, .int p1, .int (v_o0_lost ||| x5)]) (stk := [.int x_6]) (wn := (wX7 cA a_o0 a_o0_kinds a_o0_figures a_o0_causeBits v_o0_kinds v_o0_figures v_o0_causeBits v_o0_size v_o0_lost v_o0_guarded v_o0_day)) (v := (some (.int x_6))) (wr := []) gX4_fewestToLose_X4_daysUntilLost rfl hdS_X4_daysUntilLost rfl rfl (c_X4_daysUntilLost l D cA sa sv a_o0 a_o0_kinds a_o0_figures a_o0_causeBits _ v_o0_kinds v_o0_figures v_o0_causeBits v_o0_size v_o0_lost v_o0_guarded v_o0_day p1 (v_o0_lost ||| x5) F x_6 hc_6) S hK hP hD hS hA [0, 1, 2, 3] [] [0, 1, 2, 3] rfl rfl rfl rfl rfl rfl rfl ⟨Nat.le_of_ble_eq_true rfl, Nat.le_of_ble_eq_true rfl⟩ ⟨Nat.le_refl 0, Nat.le_refl 0⟩ rfl hl.1 rfl (Nat.le_of_ble_eq_true rfl) rfl dX4_fewestToLose_64 (fun H locs hP hD hS => ?_)
      refine lv_bipush (v := (-9)) hx hb dX4_fewestToLose_67 (by decide) ?_
      refine lv_icmp_eq (tgt := 81) hx hb dX4_fewestToLose_69 (by decide) (fun c_7 => ?_) (fun c_7 => ?_)
      · have h := (if_pos c_7).symm.trans h
        exact J_81 k_15r hk_15r x2 x3 x4 x5 _ h _ _ _ hP hD hS (lv_sub hl [1, 2, 3, 4, 5, 6] rfl)
      · have h := (if_neg c_7).symm.trans h
        refine lv_iload hx hb dX4_fewestToLose_72 (lv_at hl 6 rfl) ?_
        refine lv_istore_n (lv' := [(2, .int x5), (6, .int s0), (0, .ref a_o0), (1, .int p1), (3, .int x3), (4, .int x4), (5, .int x5)]) hx hb dX4_fewestToLose_74 rfl hl (by decide) rfl (fun ls hl => ?_)
        refine lv_iload hx hb dX4_fewestToLose_75 (lv_at hl 6 rfl) ?_
        obtain ⟨x_8, hc_8, h⟩ := bd_some h
        refine xk_S (rest := []) (As := [.int x5]) (stk := [.int x_8]) (wn := (wX7 cA a_o0 a_o0_kinds a_o0_figures a_o0_causeBits v_o0_kinds v_o0_figures v_o0_causeBits v_o0_size v_o0_lost v_o0_guarded v_o0_day)) (v := (some (.int x_8))) (wr := [(a_o0, .inr (2, [.ref a_o0_kinds, .ref a_o0_figures, .ref a_o0_causeBits, .int v_o0_size, .int v_o0_lost, .int v_o0_guarded, .int v_o0_day])), (a_o0_kinds, .inl (cA, 9, .inl v_o0_kinds)), (a_o0_figures, .inl (cA, 9, .inl v_o0_figures)), (a_o0_causeBits, .inl (cA, 9, .inl v_o0_causeBits))]) gX4_fewestToLose_J6_bitCount_0f7a4 rfl hdS_J6_bitCount_0f7a4 rfl rfl (c_J6_bitCount_0f7a4 l D cA sa sv _ x5 x_8 hc_8) S hK hP hD hS hA [] [0, 1, 2, 3] [0, 1, 2, 3] rfl rfl rfl rfl rfl rfl rfl ⟨Nat.le_of_ble_eq_true rfl, Nat.le_of_ble_eq_true rfl⟩ ⟨Nat.le_refl 0, Nat.le_refl 0⟩ rfl hl.1 rfl (Nat.le_of_ble_eq_true rfl) rfl dX4_fewestToLose_77 (fun H locs hP hD hS => ?_)
        refine lv_istore_n (lv' := [(3, .int x_8), (2, .int x5), (6, .int s0), (0, .ref a_o0), (1, .int p1), (4, .int x4), (5, .int x5)]) hx hb dX4_fewestToLose_80 rfl hl (by decide) rfl (fun ls hl => ?_)
        exact J_81 k_15r hk_15r x5 x_8 x4 x5 _ h _ _ _ hP hD hS (lv_sub hl [3, 4, 1, 0, 5, 6] rfl)
  have J_47 : ∀ (k_15r : Int32 → Int32 → Int32 → Int32 → Option (Int32)), (∀ (x2 : Int32) (x3 : Int32) (x4 : Int32) (x5 : Int32) (res : Int32), k_15r x2 x3 x4 x5 = some res → ∀ (H : Heap) (locs : List Loc) (ls : Array Slot), va_P D vwCl (wX7 cA a_o0 a_o0_kinds a_o0_figures a_o0_causeBits v_o0_kinds v_o0_figures v_o0_causeBits v_o0_size v_o0_lost v_o0_guarded v_o0_day) H → va_D A (wX7 cA a_o0 a_o0_kinds a_o0_figures a_o0_causeBits v_o0_kinds v_o0_figures v_o0_causeBits v_o0_size v_o0_lost v_o0_guarded v_o0_day) → va_S A s.heap H locs → lv_has ls 7 [(0, .ref a_o0), (1, .int p1), (2, .int x2), (3, .int x3), (4, .int x4), (5, .int x5)] → W p l e { frames := 4, cells := 0, slots := 0, locals := 84 } s m args below meth c H locs 0 0 (Q res) (F0 m 15 ls [])) → ∀ (x2 : Int32) (x3 : Int32) (x4 : Int32) (x5 : Int32) (res : Int32), f_X4_fewestToLose_47 F v_o0_kinds v_o0_figures v_o0_causeBits v_o0_size v_o0_lost v_o0_guarded v_o0_day p1 k_15r x2 x3 x4 x5 = some res → ∀ (H : Heap) (locs : List Loc) (ls : Array Slot), va_P D vwCl (wX7 cA a_o0 a_o0_kinds a_o0_figures a_o0_causeBits v_o0_kinds v_o0_figures v_o0_causeBits v_o0_size v_o0_lost v_o0_guarded v_o0_day) H → va_D A (wX7 cA a_o0 a_o0_kinds a_o0_figures a_o0_causeBits v_o0_kinds v_o0_figures v_o0_causeBits v_o0_size v_o0_lost v_o0_guarded v_o0_day) → va_S A s.heap H locs → lv_has ls 7 [(0, .ref a_o0), (1, .int p1), (2, .int x2), (3, .int x3), (4, .int x4), (5, .int x5)] → W p l e { frames := 4, cells := 0, slots := 0, locals := 84 } s m args below meth c H locs 0 0 (Q res) (F0 m 47 ls []) := by
    intro k_15r hk_15r x2 x3 x4 x5 res h H locs ls hP hD hS hl
    unfold f_X4_fewestToLose_47 at h
    refine lv_iconst (v := 0) hx hb dX4_fewestToLose_47 (by decide) ?_
    exact J_48 k_15r hk_15r 0 x2 x3 x4 x5 _ h _ _ _ hP hD hS (lv_sub hl [0, 1, 2, 3, 4, 5] rfl)
  have J_15 : ∀ (n : Nat) (x2 : Int32) (x3 : Int32) (x4 : Int32) (x5 : Int32) (res : Int32), f_X4_fewestToLose_15 F v_o0_kinds v_o0_figures v_o0_causeBits v_o0_size v_o0_lost v_o0_guarded v_o0_day p1 n x2 x3 x4 x5 = some res → ∀ (H : Heap) (locs : List Loc) (ls : Array Slot), va_P D vwCl (wX7 cA a_o0 a_o0_kinds a_o0_figures a_o0_causeBits v_o0_kinds v_o0_figures v_o0_causeBits v_o0_size v_o0_lost v_o0_guarded v_o0_day) H → va_D A (wX7 cA a_o0 a_o0_kinds a_o0_figures a_o0_causeBits v_o0_kinds v_o0_figures v_o0_causeBits v_o0_size v_o0_lost v_o0_guarded v_o0_day) → va_S A s.heap H locs → lv_has ls 7 [(0, .ref a_o0), (1, .int p1), (2, .int x2), (3, .int x3), (4, .int x4), (5, .int x5)] → W p l e { frames := 4, cells := 0, slots := 0, locals := 84 } s m args below meth c H locs 0 0 (Q res) (F0 m 15 ls []) := by
    intro n
    induction n with
    | zero => intro x2 x3 x4 x5 res h; exact nomatch (show (none : Option (Int32)) = some res from h)
    | succ n ih =>
      intro x2 x3 x4 x5 res h H locs ls hP hD hS hl
      rw [f_X4_fewestToLose_15] at h
      refine lv_iload hx hb dX4_fewestToLose_15 (lv_at hl 5 rfl) ?_
      refine lv_aload_n hx hb dX4_fewestToLose_17 rfl (lv_at hl 0 rfl) ?_
      obtain ⟨x_2, hc_2, h⟩ := bd_some h
      refine xk_V (rest := [.int x5]) (As := []) (stk := [.int x_2, .int x5]) (wn := (wX7 cA a_o0 a_o0_kinds a_o0_figures a_o0_causeBits v_o0_kinds v_o0_figures v_o0_causeBits v_o0_size v_o0_lost v_o0_guarded v_o0_day)) (v := (some (.int x_2))) (wr := []) gX4_fewestToLose_X7_all rfl hdV_X7_all rfl rfl (c_X7_all l D cA sa sv a_o0 a_o0_kinds a_o0_figures a_o0_causeBits _ v_o0_kinds v_o0_figures v_o0_causeBits v_o0_size v_o0_lost v_o0_guarded v_o0_day x_2 hc_2) (ci := 2) rfl (q0 := 0) rfl S hK hP hD hS hA [0, 1, 2, 3] [] [0, 1, 2, 3] rfl rfl rfl rfl rfl rfl rfl ⟨Nat.le_of_ble_eq_true rfl, Nat.le_of_ble_eq_true rfl⟩ ⟨Nat.le_refl 0, Nat.le_refl 0⟩ rfl hl.1 rfl (Nat.le_of_ble_eq_true rfl) rfl dX4_fewestToLose_18 (fun H locs hP hD hS => ?_)
      refine lv_icmp_gt (tgt := 87) hx hb dX4_fewestToLose_21 (by decide) (fun c_3 => ?_) (fun c_3 => ?_)
      · have h := (if_pos c_3).symm.trans h
        refine lv_iload_n hx hb dX4_fewestToLose_87 rfl (lv_at hl 2 rfl) ?_
        obtain rfl := Option.some.inj h
        exact xk_iret hx hb hr hlk hP hD hS (hQ _) dX4_fewestToLose_88
      · have h := (if_neg c_3).symm.trans h
        refine lv_iload hx hb dX4_fewestToLose_24 (lv_at hl 5 rfl) ?_
        refine lv_iload hx hb dX4_fewestToLose_26 (lv_at hl 4 rfl) ?_
        refine lv_iconst (v := (-1)) hx hb dX4_fewestToLose_28 (by decide) ?_
        refine lv_ixor hx hb dX4_fewestToLose_29 ?_
        refine lv_iand hx hb dX4_fewestToLose_30 ?_
        refine lv_if_ne (tgt := 47) hx hb dX4_fewestToLose_31 (by decide) (fun c_4 => ?_) (fun c_4 => ?_)
        · have h := (if_neg c_4).symm.trans h
          exact J_47 (f_X4_fewestToLose_15 F v_o0_kinds v_o0_figures v_o0_causeBits v_o0_size v_o0_lost v_o0_guarded v_o0_day p1 n) ih x2 x3 x4 x5 _ h _ _ _ hP hD hS (lv_sub hl [0, 1, 2, 3, 4, 5] rfl)
        · have h := (if_pos c_4).symm.trans h
          refine lv_iload hx hb dX4_fewestToLose_34 (lv_at hl 5 rfl) ?_
          obtain ⟨x_9, hc_9, h⟩ := bd_some h
          refine xk_S (rest := []) (As := [.int x5]) (stk := [.int x_9]) (wn := (wX7 cA a_o0 a_o0_kinds a_o0_figures a_o0_causeBits v_o0_kinds v_o0_figures v_o0_causeBits v_o0_size v_o0_lost v_o0_guarded v_o0_day)) (v := (some (.int x_9))) (wr := [(a_o0, .inr (2, [.ref a_o0_kinds, .ref a_o0_figures, .ref a_o0_causeBits, .int v_o0_size, .int v_o0_lost, .int v_o0_guarded, .int v_o0_day])), (a_o0_kinds, .inl (cA, 9, .inl v_o0_kinds)), (a_o0_figures, .inl (cA, 9, .inl v_o0_figures)), (a_o0_causeBits, .inl (cA, 9, .inl v_o0_causeBits))]) gX4_fewestToLose_J6_bitCount_0f7a4 rfl hdS_J6_bitCount_0f7a4 rfl rfl (c_J6_bitCount_0f7a4 l D cA sa sv _ x5 x_9 hc_9) S hK hP hD hS hA [] [0, 1, 2, 3] [0, 1, 2, 3] rfl rfl rfl rfl rfl rfl rfl ⟨Nat.le_of_ble_eq_true rfl, Nat.le_of_ble_eq_true rfl⟩ ⟨Nat.le_refl 0, Nat.le_refl 0⟩ rfl hl.1 rfl (Nat.le_of_ble_eq_true rfl) rfl dX4_fewestToLose_36 (fun H locs hP hD hS => ?_)
          refine lv_iload_n hx hb dX4_fewestToLose_39 rfl (lv_at hl 3 rfl) ?_
          refine lv_icmp_ge (tgt := 47) hx hb dX4_fewestToLose_40 (by decide) (fun c_10 => ?_) (fun c_10 => ?_)
          · have h := (if_pos c_10).symm.trans h
            exact J_47 (f_X4_fewestToLose_15 F v_o0_kinds v_o0_figures v_o0_causeBits v_o0_size v_o0_lost v_o0_guarded v_o0_day p1 n) ih x2 x3 x4 x5 _ h _ _ _ hP hD hS (lv_sub hl [0, 1, 2, 3, 4, 5] rfl)
          · have h := (if_neg c_10).symm.trans h
            refine lv_iconst (v := 1) hx hb dX4_fewestToLose_43 (by decide) ?_
            refine lv_goto (tgt := 48) hx hb dX4_fewestToLose_44 (by decide) ?_
            exact J_48 (f_X4_fewestToLose_15 F v_o0_kinds v_o0_figures v_o0_causeBits v_o0_size v_o0_lost v_o0_guarded v_o0_day p1 n) ih 1 x2 x3 x4 x5 _ h _ _ _ hP hD hS (lv_sub hl [0, 1, 2, 3, 4, 5] rfl)
  unfold f_X4_fewestToLose at h
  refine lv_bipush (v := (-9)) hx hb dX4_fewestToLose_0 (by decide) ?_
  refine lv_istore_n (lv' := [(2, .int (-9)), (0, .ref a_o0), (1, .int p1)]) hx hb dX4_fewestToLose_2 rfl hl (by decide) rfl (fun ls hl => ?_)
  refine lv_bipush (v := 10) hx hb dX4_fewestToLose_3 (by decide) ?_
  refine lv_istore_n (lv' := [(3, .int 10), (2, .int (-9)), (0, .ref a_o0), (1, .int p1)]) hx hb dX4_fewestToLose_5 rfl hl (by decide) rfl (fun ls hl => ?_)
  refine lv_aload_n hx hb dX4_fewestToLose_6 rfl (lv_at hl 2 rfl) ?_
  obtain ⟨x_1, hc_1, h⟩ := bd_some h
  refine xk_V (rest := []) (As := []) (stk := [.int x_1]) (wn := (wX7 cA a_o0 a_o0_kinds a_o0_figures a_o0_causeBits v_o0_kinds v_o0_figures v_o0_causeBits v_o0_size v_o0_lost v_o0_guarded v_o0_day)) (v := (some (.int x_1))) (wr := []) gX4_fewestToLose_X7_openNails rfl hdV_X7_openNails rfl rfl (c_X7_openNails l D cA sa sv a_o0 a_o0_kinds a_o0_figures a_o0_causeBits _ v_o0_kinds v_o0_figures v_o0_causeBits v_o0_size v_o0_lost v_o0_guarded v_o0_day F x_1 hc_1) (ci := 2) rfl (q0 := 0) rfl S hK hP hD hS hA [0, 1, 2, 3] [] [0, 1, 2, 3] rfl rfl rfl rfl rfl rfl rfl ⟨Nat.le_of_ble_eq_true rfl, Nat.le_of_ble_eq_true rfl⟩ ⟨Nat.le_refl 0, Nat.le_refl 0⟩ rfl hl.1 rfl (Nat.le_of_ble_eq_true rfl) rfl dX4_fewestToLose_7 (fun H locs hP hD hS => ?_)
  refine lv_istore (lv' := [(4, .int x_1), (3, .int 10), (2, .int (-9)), (0, .ref a_o0), (1, .int p1)]) hx hb dX4_fewestToLose_10 hl (by decide) rfl (fun ls hl => ?_)
  refine lv_iconst (v := 0) hx hb dX4_fewestToLose_12 (by decide) ?_
  refine lv_istore (lv' := [(5, .int 0), (4, .int x_1), (3, .int 10), (2, .int (-9)), (0, .ref a_o0), (1, .int p1)]) hx hb dX4_fewestToLose_13 hl (by decide) rfl (fun ls hl => ?_)
  exact J_15 F (-9) 10 x_1 0 _ h _ _ _ hP hD hS (lv_sub hl [4, 5, 3, 2, 1, 0] rfl)
set_option maxHeartbeats 4000000 in
set_option maxRecDepth 100000 in
theorem c_X4_savedBy (l : Launch) (D : va_G) (cA : ClassId) (sa sv : Nat → Nat) (a_o0 a_o0_kinds a_o0_figures a_o0_causeBits : Nat) (sz : Nat) (v_o0_kinds : Nat → Int32) (v_o0_figures : Nat → Int32) (v_o0_causeBits : Nat → Int32) (v_o0_size : Int32) (v_o0_lost : Int32) (v_o0_guarded : Int32) (v_o0_day : Int32) (p1 : Int32) (p2 : Int32) (F : Nat) (res : Int32) (h : f_X4_savedBy F v_o0_kinds v_o0_figures v_o0_causeBits v_o0_size v_o0_lost v_o0_guarded v_o0_day p1 p2 = some res) : Met l yX4_savedBy wsX4_savedBy { frames := 4, cells := 0, slots := 0, locals := 102 } (xk_Pc D cA sa sv (wX7 cA a_o0 a_o0_kinds a_o0_figures a_o0_causeBits v_o0_kinds v_o0_figures v_o0_causeBits v_o0_size v_o0_lost v_o0_guarded v_o0_day) sz [.ref a_o0, .int p1, .int p2]) (xk_Q D (va_A (wX7 cA a_o0 a_o0_kinds a_o0_figures a_o0_causeBits v_o0_kinds v_o0_figures v_o0_causeBits v_o0_size v_o0_lost v_o0_guarded v_o0_day) sz) (some (.int res)) (wX7 cA a_o0 a_o0_kinds a_o0_figures a_o0_causeBits v_o0_kinds v_o0_figures v_o0_causeBits v_o0_size v_o0_lost v_o0_guarded v_o0_day)) 0 0 (va_A (wX7 cA a_o0 a_o0_kinds a_o0_figures a_o0_causeBits v_o0_kinds v_o0_figures v_o0_causeBits v_o0_size v_o0_lost v_o0_guarded v_o0_day) sz) := by
  refine xk_met (fun res : Int32 => some (.int res)) (fun res : Int32 => (wX7 cA a_o0 a_o0_kinds a_o0_figures a_o0_causeBits v_o0_kinds v_o0_figures v_o0_causeBits v_o0_size v_o0_lost v_o0_guarded v_o0_day)) res (cc := cX4_savedBy) (maxL := 5) (ret := (some .int)) (by decide) rfl (Nat.le_of_ble_eq_true rfl) ?_
  intro p e s m args below meth c A Q ls hQ hx hb hr hlk hml hown hts hK hP hD hS hA hl
  have S : CallFix p m c cX4_savedBy 5 s args wsX4_savedBy RX4 := ⟨hx, hb, hml, hown, hts⟩
  have hl : lv_has ls 5 [(0, .ref a_o0), (1, .int p1), (2, .int p2)] := hl
  have hinX7 : ∀ w ∈ u_ws RX7 TX7 7, w ∈ wsX4_savedBy := fun _ h => List.mem_cons_of_mem _ (List.mem_append_right _ (h))
  unfold f_X4_savedBy at h
  refine lv_aload_n hx hb dX4_savedBy_0 rfl (lv_at hl 0 rfl) ?_
  refine lv_aload_n hx hb dX4_savedBy_1 rfl (lv_at hl 0 rfl) ?_
  refine va_getN (ci := 2) (v := .int v_o0_lost) (C := RX7) (T := TX7) (N := 7) hx hb hts hinX7 hown hK.1 hP 0 rfl rfl 4 (by decide) (va_Nw.use rfl (hK.2.1 (.fieldLinkNest RX4 26 RX7 "lost" "I" RX9) (List.mem_of_getElem? (i := 10) rfl))) (fun _ h9 => h9) rfl dX4_savedBy_2 ?_
  refine lv_iload_n hx hb dX4_savedBy_5 rfl (lv_at hl 2 rfl) ?_
  obtain ⟨x_1, hc_1, h⟩ := bd_some h
  refine xk_S (rest := []) (As := [.ref a_o0, .int v_o0_lost, .int p2]) (stk := [.int x_1]) (wn := (wX7 cA a_o0 a_o0_kinds a_o0_figures a_o0_causeBits v_o0_kinds v_o0_figures v_o0_causeBits v_o0_size v_o0_lost v_o0_guarded v_o0_day)) (v := (some (.int x_1))) (wr := []) gX4_savedBy_X4_lostBehind rfl hdS_X4_lostBehind rfl rfl (c_X4_lostBehind l D cA sa sv a_o0 a_o0_kinds a_o0_figures a_o0_causeBits _ v_o0_kinds v_o0_figures v_o0_causeBits v_o0_size v_o0_lost v_o0_guarded v_o0_day v_o0_lost p2 F x_1 hc_1) S hK hP hD hS hA [0, 1, 2, 3] [] [0, 1, 2, 3] rfl rfl rfl rfl rfl rfl rfl ⟨Nat.le_of_ble_eq_true rfl, Nat.le_of_ble_eq_true rfl⟩ ⟨Nat.le_refl 0, Nat.le_refl 0⟩ rfl hl.1 rfl (Nat.le_of_ble_eq_true rfl) rfl dX4_savedBy_6 (fun H locs hP hD hS => ?_)
  refine lv_istore_n (lv' := [(3, .int x_1), (0, .ref a_o0), (1, .int p1), (2, .int p2)]) hx hb dX4_savedBy_9 rfl hl (by decide) rfl (fun ls hl => ?_)
  refine lv_aload_n hx hb dX4_savedBy_10 rfl (lv_at hl 1 rfl) ?_
  refine lv_aload_n hx hb dX4_savedBy_11 rfl (lv_at hl 1 rfl) ?_
  refine va_getN (ci := 2) (v := .int v_o0_lost) (C := RX7) (T := TX7) (N := 7) hx hb hts hinX7 hown hK.1 hP 0 rfl rfl 4 (by decide) (va_Nw.use rfl (hK.2.1 (.fieldLinkNest RX4 26 RX7 "lost" "I" RX9) (List.mem_of_getElem? (i := 10) rfl))) (fun _ h9 => h9) rfl dX4_savedBy_12 ?_
  refine lv_iconst (v := 1) hx hb dX4_savedBy_15 (by decide) ?_
  refine lv_iload_n hx hb dX4_savedBy_16 rfl (lv_at hl 2 rfl) ?_
  refine lv_ishl hx hb dX4_savedBy_17 ?_
  refine lv_iconst (v := (-1)) hx hb dX4_savedBy_18 (by decide) ?_
  refine lv_ixor hx hb dX4_savedBy_19 ?_
  refine lv_iand hx hb dX4_savedBy_20 ?_
  refine lv_iload_n hx hb dX4_savedBy_21 rfl (lv_at hl 3 rfl) ?_
  obtain ⟨x_2, hc_2, h⟩ := bd_some h
  refine xk_S (rest := []) (As := [.ref a_o0, .int (v_o0_lost &&& ((1 <<< (p1 &&& 31)) ^^^ (-1))), .int p2]) (stk := [.int x_2]) (wn := (wX7 cA a_o0 a_o0_kinds a_o0_figures a_o0_causeBits v_o0_kinds v_o0_figures v_o0_causeBits v_o0_size v_o0_lost v_o0_guarded v_o0_day)) (v := (some (.int x_2))) (wr := []) gX4_savedBy_X4_lostBehind rfl hdS_X4_lostBehind rfl rfl (c_X4_lostBehind l D cA sa sv a_o0 a_o0_kinds a_o0_figures a_o0_causeBits _ v_o0_kinds v_o0_figures v_o0_causeBits v_o0_size v_o0_lost v_o0_guarded v_o0_day (v_o0_lost &&& ((1 <<< (p1 &&& 31)) ^^^ (-1))) p2 F x_2 hc_2) S hK hP hD hS hA [0, 1, 2, 3] [] [0, 1, 2, 3] rfl rfl rfl rfl rfl rfl rfl ⟨Nat.le_of_ble_eq_true rfl, Nat.le_of_ble_eq_true rfl⟩ ⟨Nat.le_refl 0, Nat.le_refl 0⟩ rfl hl.1 rfl (Nat.le_of_ble_eq_true rfl) rfl dX4_savedBy_22 (fun H locs hP hD hS => ?_)
  refine lv_istore (lv' := [(4, .int x_2), (3, .int x_1), (0, .ref a_o0), (1, .int p1), (2, .int p2)]) hx hb dX4_savedBy_25 hl (by decide) rfl (fun ls hl => ?_)
  refine lv_iload_n hx hb dX4_savedBy_27 rfl (lv_at hl 1 rfl) ?_
  obtain ⟨x_3, hc_3, h⟩ := bd_some h
  refine xk_S (rest := []) (As := [.int x_1]) (stk := [.int x_3]) (wn := (wX7 cA a_o0 a_o0_kinds a_o0_figures a_o0_causeBits v_o0_kinds v_o0_figures v_o0_causeBits v_o0_size v_o0_lost v_o0_guarded v_o0_day)) (v := (some (.int x_3))) (wr := [(a_o0, .inr (2, [.ref a_o0_kinds, .ref a_o0_figures, .ref a_o0_causeBits, .int v_o0_size, .int v_o0_lost, .int v_o0_guarded, .int v_o0_day])), (a_o0_kinds, .inl (cA, 9, .inl v_o0_kinds)), (a_o0_figures, .inl (cA, 9, .inl v_o0_figures)), (a_o0_causeBits, .inl (cA, 9, .inl v_o0_causeBits))]) gX4_savedBy_J6_bitCount_0f7a4 rfl hdS_J6_bitCount_0f7a4 rfl rfl (c_J6_bitCount_0f7a4 l D cA sa sv _ x_1 x_3 hc_3) S hK hP hD hS hA [] [0, 1, 2, 3] [0, 1, 2, 3] rfl rfl rfl rfl rfl rfl rfl ⟨Nat.le_of_ble_eq_true rfl, Nat.le_of_ble_eq_true rfl⟩ ⟨Nat.le_refl 0, Nat.le_refl 0⟩ rfl hl.1 rfl (Nat.le_of_ble_eq_true rfl) rfl dX4_savedBy_28 (fun H locs hP hD hS => ?_)
  refine lv_iload hx hb dX4_savedBy_31 (lv_at hl 0 rfl) ?_
  obtain ⟨x_4, hc_4, h⟩ := bd_some h
  refine xk_S (rest := [.int x_3]) (As := [.int x_2]) (stk := [.int x_4, .int x_3]) (wn := (wX7 cA a_o0 a_o0_kinds a_o0_figures a_o0_causeBits v_o0_kinds v_o0_figures v_o0_causeBits v_o0_size v_o0_lost v_o0_guarded v_o0_day)) (v := (some (.int x_4))) (wr := [(a_o0, .inr (2, [.ref a_o0_kinds, .ref a_o0_figures, .ref a_o0_causeBits, .int v_o0_size, .int v_o0_lost, .int v_o0_guarded, .int v_o0_day])), (a_o0_kinds, .inl (cA, 9, .inl v_o0_kinds)), (a_o0_figures, .inl (cA, 9, .inl v_o0_figures)), (a_o0_causeBits, .inl (cA, 9, .inl v_o0_causeBits))]) gX4_savedBy_J6_bitCount_0f7a4 rfl hdS_J6_bitCount_0f7a4 rfl rfl (c_J6_bitCount_0f7a4 l D cA sa sv _ x_2 x_4 hc_4) S hK hP hD hS hA [] [0, 1, 2, 3] [0, 1, 2, 3] rfl rfl rfl rfl rfl rfl rfl ⟨Nat.le_of_ble_eq_true rfl, Nat.le_of_ble_eq_true rfl⟩ ⟨Nat.le_refl 0, Nat.le_refl 0⟩ rfl hl.1 rfl (Nat.le_of_ble_eq_true rfl) rfl dX4_savedBy_33 (fun H locs hP hD hS => ?_)
  refine lv_isub hx hb dX4_savedBy_36 ?_
  obtain rfl := Option.some.inj h
  exact xk_iret hx hb hr hlk hP hD hS (hQ _) dX4_savedBy_37
set_option maxHeartbeats 4000000 in
set_option maxRecDepth 100000 in
theorem c_X5_isFull (l : Launch) (D : va_G) (cA : ClassId) (sa sv : Nat → Nat) (a_t a_t_values : Nat) (sz : Nat) (v_t_values : Nat → Int32) (v_t_size : Int32) (res : Int32) (h : f_X5_isFull v_t_size  = some res) : Met l yX5_isFull wsX5_isFull { frames := 0, cells := 0, slots := 0, locals := 0 } (xk_Pc D cA sa sv (wX5 cA a_t a_t_values v_t_values v_t_size) sz [.ref a_t]) (xk_Q D (va_A (wX5 cA a_t a_t_values v_t_values v_t_size) sz) (some (.int res)) (wX5 cA a_t a_t_values v_t_values v_t_size)) 0 0 (va_A (wX5 cA a_t a_t_values v_t_values v_t_size) sz) := by
  refine xk_met (fun res : Int32 => some (.int res)) (fun res : Int32 => (wX5 cA a_t a_t_values v_t_values v_t_size)) res (cc := cX5_isFull) (maxL := 1) (ret := (some .boolean)) (by decide) rfl (Nat.le_of_ble_eq_true rfl) ?_
  intro p e s m args below meth c A Q ls hQ hx hb hr hlk hml hown hts hK hP hD hS hA hl
  have S : CallFix p m c cX5_isFull 1 s args wsX5_isFull RX5 := ⟨hx, hb, hml, hown, hts⟩
  have hl : lv_has ls 1 [(0, .ref a_t)] := hl
  have hinX5 : ∀ w ∈ u_ws RX5 TX5 2, w ∈ wsX5_isFull := fun _ h => List.mem_cons_of_mem _ (List.mem_append_right _ (h))
  have k_0 := hts (.fieldLink RX5 15 "NailsWantTheKingdom$Numbers" "size" "I") (List.mem_of_getElem? (i := 1) (by decide +kernel))
  unfold f_X5_isFull at h
  refine lv_aload_n hx hb dX5_isFull_0 rfl (lv_at hl 0 rfl) ?_
  refine va_get (ci := 1) (v := .int v_t_size) (C := RX5) (T := TX5) (N := 2) hx hb hts hinX5 hown hK.1 hP 0 rfl rfl 1 (by decide) k_0 (fun _ h9 => h9) rfl dX5_isFull_1 ?_
  refine lv_bipush (v := 16) hx hb dX5_isFull_4 (by decide) ?_
  refine lv_icmp_lt (tgt := 13) hx hb dX5_isFull_6 (by decide) (fun c_1 => ?_) (fun c_1 => ?_)
  · have h := (if_pos c_1).symm.trans h
    refine lv_iconst (v := 0) hx hb dX5_isFull_13 (by decide) ?_
    obtain rfl := Option.some.inj h
    exact xk_zret rfl hx hb hr hlk hP hD hS (hQ _) dX5_isFull_14
  · have h := (if_neg c_1).symm.trans h
    refine lv_iconst (v := 1) hx hb dX5_isFull_9 (by decide) ?_
    refine lv_goto (tgt := 14) hx hb dX5_isFull_10 (by decide) ?_
    obtain rfl := Option.some.inj h
    exact xk_zret rfl hx hb hr hlk hP hD hS (hQ _) dX5_isFull_14
set_option maxHeartbeats 4000000 in
set_option maxRecDepth 100000 in
theorem c_X5_add (l : Launch) (D : va_G) (cA : ClassId) (sa sv : Nat → Nat) (a_t a_t_values : Nat) (sz : Nat) (v_t_values : Nat → Int32) (v_t_size : Int32) (p1 : Int32) (res : Int32 × (Nat → Int32) × Int32) (h : f_X5_add v_t_values v_t_size p1 = some res) : Met l yX5_add wsX5_add { frames := 1, cells := 0, slots := 0, locals := 20 } (xk_Pc D cA sa sv (wX5 cA a_t a_t_values v_t_values v_t_size) sz [.ref a_t, .int p1]) (xk_Q D (va_A (wX5 cA a_t a_t_values v_t_values v_t_size) sz) (some (.int res.1)) (wX5 cA a_t a_t_values res.2.1 res.2.2)) 0 0 (va_A (wX5 cA a_t a_t_values v_t_values v_t_size) sz) := by
  refine xk_met (fun res : Int32 × (Nat → Int32) × Int32 => some (.int res.1)) (fun res : Int32 × (Nat → Int32) × Int32 => (wX5 cA a_t a_t_values res.2.1 res.2.2)) res (cc := cX5_add) (maxL := 2) (ret := (some .int)) (by decide) rfl (Nat.le_of_ble_eq_true rfl) ?_
  intro p e s m args below meth c A Q ls hQ hx hb hr hlk hml hown hts hK hP hD hS hA hl
  have S : CallFix p m c cX5_add 2 s args wsX5_add RX5 := ⟨hx, hb, hml, hown, hts⟩
  have hl : lv_has ls 2 [(0, .ref a_t), (1, .int p1)] := hl
  have hinX5 : ∀ w ∈ u_ws RX5 TX5 2, w ∈ wsX5_add := fun _ h => List.mem_cons_of_mem _ (List.mem_append_right _ (h))
  have k_0 := hts (.fieldLink RX5 15 "NailsWantTheKingdom$Numbers" "size" "I") (List.mem_of_getElem? (i := 2) (by decide +kernel))
  have k_1 := hts (.fieldLink RX5 11 "NailsWantTheKingdom$Numbers" "values" "[I") (List.mem_of_getElem? (i := 1) (by decide +kernel))
  unfold f_X5_add at h
  refine lv_aload_n hx hb dX5_add_0 rfl (lv_at hl 0 rfl) ?_
  obtain ⟨x_1, hc_1, h⟩ := bd_some h
  refine xk_V (rest := []) (As := []) (stk := [.int x_1]) (wn := (wX5 cA a_t a_t_values v_t_values v_t_size)) (v := (some (.int x_1))) (wr := []) gX5_add_X5_isFull rfl hdV_X5_isFull rfl rfl (c_X5_isFull l D cA sa sv a_t a_t_values _ v_t_values v_t_size x_1 hc_1) (ci := 1) rfl (q0 := 0) rfl S hK hP hD hS hA [0, 1] [] [0, 1] rfl rfl rfl rfl rfl rfl rfl ⟨Nat.le_of_ble_eq_true rfl, Nat.le_of_ble_eq_true rfl⟩ ⟨Nat.le_refl 0, Nat.le_refl 0⟩ rfl hl.1 rfl (Nat.le_of_ble_eq_true rfl) rfl dX5_add_1 (fun H locs hP hD hS => ?_)
  refine lv_if_ne (tgt := 27) hx hb dX5_add_4 (by decide) (fun c_2 => ?_) (fun c_2 => ?_)
  · have h := (if_neg c_2).symm.trans h
    refine lv_aload_n hx hb dX5_add_27 rfl (lv_at hl 0 rfl) ?_
    refine va_get (ci := 1) (v := .int v_t_size) (C := RX5) (T := TX5) (N := 2) hx hb hts hinX5 hown hK.1 hP 0 rfl rfl 1 (by decide) k_0 (fun _ h9 => h9) rfl dX5_add_28 ?_
    obtain rfl := Option.some.inj h
    exact xk_iret hx hb hr hlk hP hD hS (hQ _) dX5_add_31
  · have h := (if_pos c_2).symm.trans h
    refine lv_aload_n hx hb dX5_add_7 rfl (lv_at hl 0 rfl) ?_
    refine va_get (ci := 1) (v := .ref a_t_values) (C := RX5) (T := TX5) (N := 2) hx hb hts hinX5 hown hK.1 hP 0 rfl rfl 0 (by decide) k_1 (fun _ h9 => h9) rfl dX5_add_8 ?_
    refine lv_aload_n hx hb dX5_add_11 rfl (lv_at hl 0 rfl) ?_
    refine va_get (ci := 1) (v := .int v_t_size) (C := RX5) (T := TX5) (N := 2) hx hb hts hinX5 hown hK.1 hP 0 rfl rfl 1 (by decide) k_0 (fun _ h9 => h9) rfl dX5_add_12 ?_
    refine lv_iload_n hx hb dX5_add_15 rfl (lv_at hl 1 rfl) ?_
    obtain ⟨i_3, h⟩ := xa_some h
    refine va_iast hx hb hK.1 hP hD hS 1 0 rfl rfl i_3 dX5_add_16 (fun H locs hP hD hS => ?_)
    have hP : va_P D vwCl (wX5 cA a_t a_t_values (upd v_t_values (Int32.toNatClampNeg v_t_size) p1) v_t_size) H := hP
    have hD : va_D A (wX5 cA a_t a_t_values (upd v_t_values (Int32.toNatClampNeg v_t_size) p1) v_t_size) := hD
    refine lv_aload_n hx hb dX5_add_17 rfl (lv_at hl 0 rfl) ?_
    refine lv_dup hx hb dX5_add_18 rfl ?_
    refine va_get (ci := 1) (v := .int v_t_size) (C := RX5) (T := TX5) (N := 2) hx hb hts hinX5 hown hK.1 hP 0 rfl rfl 1 (by decide) k_0 (fun _ h9 => h9) rfl dX5_add_19 ?_
    refine lv_iconst (v := 1) hx hb dX5_add_22 (by decide) ?_
    refine lv_iadd hx hb dX5_add_23 ?_
    refine va_put (ci := 1) (v := .int (v_t_size + 1)) (ty := tyX5 1) (C := RX5) (T := TX5) (N := 2) hx hb hts hinX5 tyX5 tyX5_ok nmX5 hown hK.1 hP hD hS 0 rfl rfl 1 (by decide) k_0 (fun _ h9 => h9) rfl (tyX5_ok 1 (by decide)) rfl rfl (Nat.le_of_ble_eq_true rfl) dX5_add_24 (fun H locs hP hD hS => ?_)
    have hP : va_P D vwCl (wX5 cA a_t a_t_values (upd v_t_values (Int32.toNatClampNeg v_t_size) p1) (v_t_size + 1)) H := hP
    have hD : va_D A (wX5 cA a_t a_t_values (upd v_t_values (Int32.toNatClampNeg v_t_size) p1) (v_t_size + 1)) := hD
    refine lv_aload_n hx hb dX5_add_27 rfl (lv_at hl 0 rfl) ?_
    refine va_get (ci := 1) (v := .int (v_t_size + 1)) (C := RX5) (T := TX5) (N := 2) hx hb hts hinX5 hown hK.1 hP 0 rfl rfl 1 (by decide) k_0 (fun _ h9 => h9) rfl dX5_add_28 ?_
    obtain rfl := Option.some.inj h
    exact xk_iret hx hb hr hlk hP hD hS (hQ _) dX5_add_31
set_option maxHeartbeats 4000000 in
set_option maxRecDepth 100000 in
theorem c_X5_forget (l : Launch) (D : va_G) (cA : ClassId) (sa sv : Nat → Nat) (a_t a_t_values : Nat) (sz : Nat) (v_t_values : Nat → Int32) (v_t_size : Int32) (res : Int32) (h : f_X5_forget v_t_size  = some res) : Met l yX5_forget wsX5_forget { frames := 0, cells := 0, slots := 0, locals := 0 } (xk_Pc D cA sa sv (wX5 cA a_t a_t_values v_t_values v_t_size) sz [.ref a_t]) (xk_Q D (va_A (wX5 cA a_t a_t_values v_t_values v_t_size) sz) (none) (wX5 cA a_t a_t_values v_t_values res)) 0 0 (va_A (wX5 cA a_t a_t_values v_t_values v_t_size) sz) := by
  refine xk_met (fun res : Int32 => none) (fun res : Int32 => (wX5 cA a_t a_t_values v_t_values res)) res (cc := cX5_forget) (maxL := 1) (ret := none) (by decide) rfl (Nat.le_of_ble_eq_true rfl) ?_
  intro p e s m args below meth c A Q ls hQ hx hb hr hlk hml hown hts hK hP hD hS hA hl
  have S : CallFix p m c cX5_forget 1 s args wsX5_forget RX5 := ⟨hx, hb, hml, hown, hts⟩
  have hl : lv_has ls 1 [(0, .ref a_t)] := hl
  have hinX5 : ∀ w ∈ u_ws RX5 TX5 2, w ∈ wsX5_forget := fun _ h => List.mem_cons_of_mem _ (List.mem_append_right _ (h))
  have k_0 := hts (.fieldLink RX5 15 "NailsWantTheKingdom$Numbers" "size" "I") (List.mem_of_getElem? (i := 1) (by decide +kernel))
  unfold f_X5_forget at h
  refine lv_aload_n hx hb dX5_forget_0 rfl (lv_at hl 0 rfl) ?_
  refine lv_iconst (v := 0) hx hb dX5_forget_1 (by decide) ?_
  refine va_put (ci := 1) (v := .int 0) (ty := tyX5 1) (C := RX5) (T := TX5) (N := 2) hx hb hts hinX5 tyX5 tyX5_ok nmX5 hown hK.1 hP hD hS 0 rfl rfl 1 (by decide) k_0 (fun _ h9 => h9) rfl (tyX5_ok 1 (by decide)) rfl rfl (Nat.le_of_ble_eq_true rfl) dX5_forget_2 (fun H locs hP hD hS => ?_)
  have hP : va_P D vwCl (wX5 cA a_t a_t_values v_t_values 0) H := hP
  have hD : va_D A (wX5 cA a_t a_t_values v_t_values 0) := hD
  obtain rfl := Option.some.inj h
  exact xk_vret hx hb hr hlk hP hD hS (hQ _) dX5_forget_5
set_option maxHeartbeats 4000000 in
set_option maxRecDepth 100000 in
theorem c_X5_at (l : Launch) (D : va_G) (cA : ClassId) (sa sv : Nat → Nat) (a_t a_t_values : Nat) (sz : Nat) (v_t_values : Nat → Int32) (v_t_size : Int32) (p1 : Int32) (res : Int32) (h : f_X5_at v_t_values v_t_size p1 = some res) : Met l yX5_at wsX5_at { frames := 0, cells := 0, slots := 0, locals := 0 } (xk_Pc D cA sa sv (wX5 cA a_t a_t_values v_t_values v_t_size) sz [.ref a_t, .int p1]) (xk_Q D (va_A (wX5 cA a_t a_t_values v_t_values v_t_size) sz) (some (.int res)) (wX5 cA a_t a_t_values v_t_values v_t_size)) 0 0 (va_A (wX5 cA a_t a_t_values v_t_values v_t_size) sz) := by
  refine xk_met (fun res : Int32 => some (.int res)) (fun res : Int32 => (wX5 cA a_t a_t_values v_t_values v_t_size)) res (cc := cX5_at) (maxL := 2) (ret := (some .int)) (by decide) rfl (Nat.le_of_ble_eq_true rfl) ?_
  intro p e s m args below meth c A Q ls hQ hx hb hr hlk hml hown hts hK hP hD hS hA hl
  have S : CallFix p m c cX5_at 2 s args wsX5_at RX5 := ⟨hx, hb, hml, hown, hts⟩
  have hl : lv_has ls 2 [(0, .ref a_t), (1, .int p1)] := hl
  have hinX5 : ∀ w ∈ u_ws RX5 TX5 2, w ∈ wsX5_at := fun _ h => List.mem_cons_of_mem _ (List.mem_append_right _ (h))
  have k_0 := hts (.fieldLink RX5 15 "NailsWantTheKingdom$Numbers" "size" "I") (List.mem_of_getElem? (i := 1) (by decide +kernel))
  have k_1 := hts (.fieldLink RX5 11 "NailsWantTheKingdom$Numbers" "values" "[I") (List.mem_of_getElem? (i := 2) (by decide +kernel))
  unfold f_X5_at at h
  refine lv_iload_n hx hb dX5_at_0 rfl (lv_at hl 1 rfl) ?_
  refine lv_if_lt (tgt := 27) hx hb dX5_at_1 (by decide) (fun c_1 => ?_) (fun c_1 => ?_)
  · have h := (if_pos c_1).symm.trans h
    refine lv_bipush (v := (-9)) hx hb dX5_at_27 (by decide) ?_
    obtain rfl := Option.some.inj h
    exact xk_iret hx hb hr hlk hP hD hS (hQ _) dX5_at_29
  · have h := (if_neg c_1).symm.trans h
    refine lv_iload_n hx hb dX5_at_4 rfl (lv_at hl 1 rfl) ?_
    refine lv_aload_n hx hb dX5_at_5 rfl (lv_at hl 0 rfl) ?_
    refine va_get (ci := 1) (v := .int v_t_size) (C := RX5) (T := TX5) (N := 2) hx hb hts hinX5 hown hK.1 hP 0 rfl rfl 1 (by decide) k_0 (fun _ h9 => h9) rfl dX5_at_6 ?_
    refine lv_icmp_ge (tgt := 27) hx hb dX5_at_9 (by decide) (fun c_2 => ?_) (fun c_2 => ?_)
    · have h := (if_pos c_2).symm.trans h
      refine lv_bipush (v := (-9)) hx hb dX5_at_27 (by decide) ?_
      obtain rfl := Option.some.inj h
      exact xk_iret hx hb hr hlk hP hD hS (hQ _) dX5_at_29
    · have h := (if_neg c_2).symm.trans h
      refine lv_iload_n hx hb dX5_at_12 rfl (lv_at hl 1 rfl) ?_
      refine lv_bipush (v := 16) hx hb dX5_at_13 (by decide) ?_
      refine lv_icmp_ge (tgt := 27) hx hb dX5_at_15 (by decide) (fun c_3 => ?_) (fun c_3 => ?_)
      · have h := (if_pos c_3).symm.trans h
        refine lv_bipush (v := (-9)) hx hb dX5_at_27 (by decide) ?_
        obtain rfl := Option.some.inj h
        exact xk_iret hx hb hr hlk hP hD hS (hQ _) dX5_at_29
      · have h := (if_neg c_3).symm.trans h
        refine lv_aload_n hx hb dX5_at_18 rfl (lv_at hl 0 rfl) ?_
        refine va_get (ci := 1) (v := .ref a_t_values) (C := RX5) (T := TX5) (N := 2) hx hb hts hinX5 hown hK.1 hP 0 rfl rfl 0 (by decide) k_1 (fun _ h9 => h9) rfl dX5_at_19 ?_
        refine lv_iload_n hx hb dX5_at_22 rfl (lv_at hl 1 rfl) ?_
        obtain ⟨i_4, h⟩ := xa_some h
        refine va_iald hx hb hK.1 hP 1 0 rfl rfl i_4 dX5_at_23 ?_
        refine lv_goto (tgt := 29) hx hb dX5_at_24 (by decide) ?_
        obtain rfl := Option.some.inj h
        exact xk_iret hx hb hr hlk hP hD hS (hQ _) dX5_at_29
set_option maxHeartbeats 4000000 in
set_option maxRecDepth 100000 in
theorem c_X5_tellLosses (l : Launch) (D : va_G) (cA : ClassId) (sa sv : Nat → Nat) (a_t a_t_values a_o1 a_o1_kinds a_o1_figures a_o1_causeBits : Nat) (sz : Nat) (v_t_values : Nat → Int32) (v_t_size : Int32) (v_o1_kinds : Nat → Int32) (v_o1_figures : Nat → Int32) (v_o1_causeBits : Nat → Int32) (v_o1_size : Int32) (v_o1_lost : Int32) (v_o1_guarded : Int32) (v_o1_day : Int32) (F : Nat) (res : Int32) (h : f_X5_tellLosses F v_t_values v_t_size v_o1_kinds v_o1_figures v_o1_causeBits v_o1_size v_o1_lost v_o1_guarded v_o1_day  = some res) : Met l yX5_tellLosses wsX5_tellLosses { frames := 2, cells := 0, slots := 0, locals := 52 } (xk_Pc D cA sa sv (wX5 cA a_t a_t_values v_t_values v_t_size ++ wX7 cA a_o1 a_o1_kinds a_o1_figures a_o1_causeBits v_o1_kinds v_o1_figures v_o1_causeBits v_o1_size v_o1_lost v_o1_guarded v_o1_day) sz [.ref a_t, .ref a_o1]) (xk_Q D (va_A (wX5 cA a_t a_t_values v_t_values v_t_size ++ wX7 cA a_o1 a_o1_kinds a_o1_figures a_o1_causeBits v_o1_kinds v_o1_figures v_o1_causeBits v_o1_size v_o1_lost v_o1_guarded v_o1_day) sz) (some (.int res)) (wX5 cA a_t a_t_values v_t_values v_t_size ++ wX7 cA a_o1 a_o1_kinds a_o1_figures a_o1_causeBits v_o1_kinds v_o1_figures v_o1_causeBits v_o1_size v_o1_lost v_o1_guarded v_o1_day)) 0 0 (va_A (wX5 cA a_t a_t_values v_t_values v_t_size ++ wX7 cA a_o1 a_o1_kinds a_o1_figures a_o1_causeBits v_o1_kinds v_o1_figures v_o1_causeBits v_o1_size v_o1_lost v_o1_guarded v_o1_day) sz) := by
  refine xk_met (fun res : Int32 => some (.int res)) (fun res : Int32 => (wX5 cA a_t a_t_values v_t_values v_t_size ++ wX7 cA a_o1 a_o1_kinds a_o1_figures a_o1_causeBits v_o1_kinds v_o1_figures v_o1_causeBits v_o1_size v_o1_lost v_o1_guarded v_o1_day)) res (cc := cX5_tellLosses) (maxL := 4) (ret := (some .boolean)) (by decide) rfl (Nat.le_of_ble_eq_true rfl) ?_
  intro p e s m args below meth c A Q ls hQ hx hb hr hlk hml hown hts hK hP hD hS hA hl
  have S : CallFix p m c cX5_tellLosses 4 s args wsX5_tellLosses RX5 := ⟨hx, hb, hml, hown, hts⟩
  have hl : lv_has ls 4 [(0, .ref a_t), (1, .ref a_o1)] := hl
  have hinX7 : ∀ w ∈ u_ws RX7 TX7 7, w ∈ wsX5_tellLosses := fun _ h => List.mem_cons_of_mem _ (List.mem_append_left _ (List.mem_append_right _ (h)))
  have hinX5 : ∀ w ∈ u_ws RX5 TX5 2, w ∈ wsX5_tellLosses := fun _ h => List.mem_cons_of_mem _ (List.mem_append_right _ (h))
  have k_0 := hts (.fieldLink RX5 15 "NailsWantTheKingdom$Numbers" "size" "I") (List.mem_of_getElem? (i := 1) (by decide +kernel))
  have J_35 : ∀ (k_7r : Int32 → Int32 → Option (Int32)), (∀ (x2 : Int32) (x3 : Int32) (res : Int32), k_7r x2 x3 = some res → ∀ (H : Heap) (locs : List Loc) (ls : Array Slot), va_P D vwCl (wX5 cA a_t a_t_values v_t_values v_t_size ++ wX7 cA a_o1 a_o1_kinds a_o1_figures a_o1_causeBits v_o1_kinds v_o1_figures v_o1_causeBits v_o1_size v_o1_lost v_o1_guarded v_o1_day) H → va_D A (wX5 cA a_t a_t_values v_t_values v_t_size ++ wX7 cA a_o1 a_o1_kinds a_o1_figures a_o1_causeBits v_o1_kinds v_o1_figures v_o1_causeBits v_o1_size v_o1_lost v_o1_guarded v_o1_day) → va_S A s.heap H locs → lv_has ls 4 [(0, .ref a_t), (1, .ref a_o1), (2, .int x2), (3, .int x3)] → W p l e { frames := 2, cells := 0, slots := 0, locals := 52 } s m args below meth c H locs 0 0 (Q res) (F0 m 7 ls [])) → ∀ (x2 : Int32) (x3 : Int32) (res : Int32), f_X5_tellLosses_35 F v_t_values v_t_size v_o1_kinds v_o1_figures v_o1_causeBits v_o1_size v_o1_lost v_o1_guarded v_o1_day k_7r x2 x3 = some res → ∀ (H : Heap) (locs : List Loc) (ls : Array Slot), va_P D vwCl (wX5 cA a_t a_t_values v_t_values v_t_size ++ wX7 cA a_o1 a_o1_kinds a_o1_figures a_o1_causeBits v_o1_kinds v_o1_figures v_o1_causeBits v_o1_size v_o1_lost v_o1_guarded v_o1_day) H → va_D A (wX5 cA a_t a_t_values v_t_values v_t_size ++ wX7 cA a_o1 a_o1_kinds a_o1_figures a_o1_causeBits v_o1_kinds v_o1_figures v_o1_causeBits v_o1_size v_o1_lost v_o1_guarded v_o1_day) → va_S A s.heap H locs → lv_has ls 4 [(0, .ref a_t), (1, .ref a_o1), (2, .int x2), (3, .int x3)] → W p l e { frames := 2, cells := 0, slots := 0, locals := 52 } s m args below meth c H locs 0 0 (Q res) (F0 m 35 ls []) := by
    intro k_7r hk_7r x2 x3 res h H locs ls hP hD hS hl
    unfold f_X5_tellLosses_35 at h
    refine lv_aload_n hx hb dX5_tellLosses_35 rfl (lv_at hl 0 rfl) ?_
    refine lv_iload_n hx hb dX5_tellLosses_36 rfl (lv_at hl 3 rfl) ?_
    obtain ⟨x_3, hc_3, h⟩ := bd_some h
    refine xk_V (rest := []) (As := [.int x3]) (stk := [.int x_3]) (wn := (wX5 cA a_t a_t_values v_t_values v_t_size ++ wX7 cA a_o1 a_o1_kinds a_o1_figures a_o1_causeBits v_o1_kinds v_o1_figures v_o1_causeBits v_o1_size v_o1_lost v_o1_guarded v_o1_day)) (v := (some (.int x_3))) (wr := [(a_o1, .inr (2, [.ref a_o1_kinds, .ref a_o1_figures, .ref a_o1_causeBits, .int v_o1_size, .int v_o1_lost, .int v_o1_guarded, .int v_o1_day])), (a_o1_kinds, .inl (cA, 9, .inl v_o1_kinds)), (a_o1_figures, .inl (cA, 9, .inl v_o1_figures)), (a_o1_causeBits, .inl (cA, 9, .inl v_o1_causeBits))]) gX5_tellLosses_X5_at rfl hdV_X5_at rfl rfl (c_X5_at l D cA sa sv a_t a_t_values _ v_t_values v_t_size x3 x_3 hc_3) (ci := 1) rfl (q0 := 0) rfl S hK hP hD hS hA [0, 1] [2, 3, 4, 5] [4, 5, 0, 1, 2, 3] rfl rfl rfl rfl rfl rfl rfl ⟨Nat.le_of_ble_eq_true rfl, Nat.le_of_ble_eq_true rfl⟩ ⟨Nat.le_refl 0, Nat.le_refl 0⟩ rfl hl.1 rfl (Nat.le_of_ble_eq_true rfl) rfl dX5_tellLosses_37 (fun H locs hP hD hS => ?_)
    refine lv_iload_n hx hb dX5_tellLosses_40 rfl (lv_at hl 2 rfl) ?_
    obtain ⟨x_4, hc_4, h⟩ := bd_some h
    refine xk_S (rest := [.int x_3]) (As := [.int x2]) (stk := [.int x_4, .int x_3]) (wn := (wX5 cA a_t a_t_values v_t_values v_t_size ++ wX7 cA a_o1 a_o1_kinds a_o1_figures a_o1_causeBits v_o1_kinds v_o1_figures v_o1_causeBits v_o1_size v_o1_lost v_o1_guarded v_o1_day)) (v := (some (.int x_4))) (wr := [(a_t, .inr (1, [.ref a_t_values, .int v_t_size])), (a_t_values, .inl (cA, 16, .inl v_t_values)), (a_o1, .inr (2, [.ref a_o1_kinds, .ref a_o1_figures, .ref a_o1_causeBits, .int v_o1_size, .int v_o1_lost, .int v_o1_guarded, .int v_o1_day])), (a_o1_kinds, .inl (cA, 9, .inl v_o1_kinds)), (a_o1_figures, .inl (cA, 9, .inl v_o1_figures)), (a_o1_causeBits, .inl (cA, 9, .inl v_o1_causeBits))]) gX5_tellLosses_J6_bitCount_0f7a4 rfl hdS_J6_bitCount_0f7a4 rfl rfl (c_J6_bitCount_0f7a4 l D cA sa sv _ x2 x_4 hc_4) S hK hP hD hS hA [] [0, 1, 2, 3, 4, 5] [0, 1, 2, 3, 4, 5] rfl rfl rfl rfl rfl rfl rfl ⟨Nat.le_of_ble_eq_true rfl, Nat.le_of_ble_eq_true rfl⟩ ⟨Nat.le_refl 0, Nat.le_refl 0⟩ rfl hl.1 rfl (Nat.le_of_ble_eq_true rfl) rfl dX5_tellLosses_41 (fun H locs hP hD hS => ?_)
    refine lv_icmp_eq (tgt := 49) hx hb dX5_tellLosses_44 (by decide) (fun c_5 => ?_) (fun c_5 => ?_)
    · have h := (if_pos c_5).symm.trans h
      refine lv_iinc (v := (x3 + 1)) (lv' := [(3, .int (x3 + 1)), (0, .ref a_t), (1, .ref a_o1), (2, .int x2)]) hx hb dX5_tellLosses_49 hl (k := 3) rfl rfl (by decide) rfl (fun ls hl => ?_)
      refine lv_goto (tgt := 7) hx hb dX5_tellLosses_52 (by decide) ?_
      exact hk_7r x2 (x3 + 1) _ h _ _ _ hP hD hS (lv_sub hl [1, 2, 3, 0] rfl)
    · have h := (if_neg c_5).symm.trans h
      refine lv_iconst (v := 0) hx hb dX5_tellLosses_47 (by decide) ?_
      obtain rfl := Option.some.inj h
      exact xk_zret rfl hx hb hr hlk hP hD hS (hQ _) dX5_tellLosses_48
  have J_7 : ∀ (n : Nat) (x2 : Int32) (x3 : Int32) (res : Int32), f_X5_tellLosses_7 F v_t_values v_t_size v_o1_kinds v_o1_figures v_o1_causeBits v_o1_size v_o1_lost v_o1_guarded v_o1_day n x2 x3 = some res → ∀ (H : Heap) (locs : List Loc) (ls : Array Slot), va_P D vwCl (wX5 cA a_t a_t_values v_t_values v_t_size ++ wX7 cA a_o1 a_o1_kinds a_o1_figures a_o1_causeBits v_o1_kinds v_o1_figures v_o1_causeBits v_o1_size v_o1_lost v_o1_guarded v_o1_day) H → va_D A (wX5 cA a_t a_t_values v_t_values v_t_size ++ wX7 cA a_o1 a_o1_kinds a_o1_figures a_o1_causeBits v_o1_kinds v_o1_figures v_o1_causeBits v_o1_size v_o1_lost v_o1_guarded v_o1_day) → va_S A s.heap H locs → lv_has ls 4 [(0, .ref a_t), (1, .ref a_o1), (2, .int x2), (3, .int x3)] → W p l e { frames := 2, cells := 0, slots := 0, locals := 52 } s m args below meth c H locs 0 0 (Q res) (F0 m 7 ls []) := by
    intro n
    induction n with
    | zero => intro x2 x3 res h; exact nomatch (show (none : Option (Int32)) = some res from h)
    | succ n ih =>
      intro x2 x3 res h H locs ls hP hD hS hl
      rw [f_X5_tellLosses_7] at h
      refine lv_iload_n hx hb dX5_tellLosses_7 rfl (lv_at hl 3 rfl) ?_
      refine lv_aload_n hx hb dX5_tellLosses_8 rfl (lv_at hl 0 rfl) ?_
      refine va_get (ci := 1) (v := .int v_t_size) (C := RX5) (T := TX5) (N := 2) hx hb hts hinX5 hown hK.1 hP 0 rfl rfl 1 (by decide) k_0 (fun _ h9 => h9) rfl dX5_tellLosses_9 ?_
      refine lv_icmp_ge (tgt := 55) hx hb dX5_tellLosses_12 (by decide) (fun c_1 => ?_) (fun c_1 => ?_)
      · have h := (if_pos c_1).symm.trans h
        refine lv_iconst (v := 1) hx hb dX5_tellLosses_55 (by decide) ?_
        obtain rfl := Option.some.inj h
        exact xk_zret rfl hx hb hr hlk hP hD hS (hQ _) dX5_tellLosses_56
      · have h := (if_neg c_1).symm.trans h
        refine lv_iload_n hx hb dX5_tellLosses_15 rfl (lv_at hl 3 rfl) ?_
        refine lv_if_le (tgt := 35) hx hb dX5_tellLosses_16 (by decide) (fun c_2 => ?_) (fun c_2 => ?_)
        · have h := (if_pos c_2).symm.trans h
          exact J_35 (f_X5_tellLosses_7 F v_t_values v_t_size v_o1_kinds v_o1_figures v_o1_causeBits v_o1_size v_o1_lost v_o1_guarded v_o1_day n) ih x2 x3 _ h _ _ _ hP hD hS (lv_sub hl [0, 1, 2, 3] rfl)
        · have h := (if_neg c_2).symm.trans h
          refine lv_aload_n hx hb dX5_tellLosses_19 rfl (lv_at hl 1 rfl) ?_
          refine lv_iload_n hx hb dX5_tellLosses_20 rfl (lv_at hl 2 rfl) ?_
          refine lv_aload_n hx hb dX5_tellLosses_21 rfl (lv_at hl 1 rfl) ?_
          refine va_getN (ci := 2) (v := .int v_o1_guarded) (C := RX7) (T := TX7) (N := 7) hx hb hts hinX7 hown hK.1 hP 2 rfl rfl 5 (by decide) (va_Nw.use rfl (hK.2.1 (.fieldLinkNest RX5 28 RX7 "guarded" "I" RX9) (List.mem_of_getElem? (i := 13) rfl))) (fun _ h9 => h9) rfl dX5_tellLosses_22 ?_
          refine lv_aload_n hx hb dX5_tellLosses_25 rfl (lv_at hl 1 rfl) ?_
          refine va_getN (ci := 2) (v := .int v_o1_day) (C := RX7) (T := TX7) (N := 7) hx hb hts hinX7 hown hK.1 hP 2 rfl rfl 6 (by decide) (va_Nw.use rfl (hK.2.1 (.fieldLinkNest RX5 31 RX7 "day" "I" RX9) (List.mem_of_getElem? (i := 14) rfl))) (fun _ h9 => h9) rfl dX5_tellLosses_26 ?_
          refine lv_iload_n hx hb dX5_tellLosses_29 rfl (lv_at hl 3 rfl) ?_
          refine lv_iadd hx hb dX5_tellLosses_30 ?_
          obtain ⟨x_6, hc_6, h⟩ := bd_some h
          refine xk_V (rest := []) (As := [.int x2, .int v_o1_guarded, .int (v_o1_day + x3)]) (stk := [.int x_6]) (wn := (wX5 cA a_t a_t_values v_t_values v_t_size ++ wX7 cA a_o1 a_o1_kinds a_o1_figures a_o1_causeBits v_o1_kinds v_o1_figures v_o1_causeBits v_o1_size v_o1_lost v_o1_guarded v_o1_day)) (v := (some (.int x_6))) (wr := [(a_t, .inr (1, [.ref a_t_values, .int v_t_size])), (a_t_values, .inl (cA, 16, .inl v_t_values))]) gX5_tellLosses_X7_behindDay rfl hdV_X7_behindDay rfl rfl (c_X7_behindDay l D cA sa sv a_o1 a_o1_kinds a_o1_figures a_o1_causeBits _ v_o1_kinds v_o1_figures v_o1_causeBits v_o1_size v_o1_lost v_o1_guarded v_o1_day x2 v_o1_guarded (v_o1_day + x3) F x_6 hc_6) (ci := 2) rfl (q0 := 0) rfl S hK hP hD hS hA [2, 3, 4, 5] [0, 1] [0, 1, 2, 3, 4, 5] rfl rfl rfl rfl rfl rfl rfl ⟨Nat.le_of_ble_eq_true rfl, Nat.le_of_ble_eq_true rfl⟩ ⟨Nat.le_refl 0, Nat.le_refl 0⟩ rfl hl.1 rfl (Nat.le_of_ble_eq_true rfl) rfl dX5_tellLosses_31 (fun H locs hP hD hS => ?_)
          refine lv_istore_n (lv' := [(2, .int x_6), (0, .ref a_t), (1, .ref a_o1), (3, .int x3)]) hx hb dX5_tellLosses_34 rfl hl (by decide) rfl (fun ls hl => ?_)
          exact J_35 (f_X5_tellLosses_7 F v_t_values v_t_size v_o1_kinds v_o1_figures v_o1_causeBits v_o1_size v_o1_lost v_o1_guarded v_o1_day n) ih x_6 x3 _ h _ _ _ hP hD hS (lv_sub hl [1, 2, 0, 3] rfl)
  unfold f_X5_tellLosses at h
  refine lv_aload_n hx hb dX5_tellLosses_0 rfl (lv_at hl 1 rfl) ?_
  refine va_getN (ci := 2) (v := .int v_o1_lost) (C := RX7) (T := TX7) (N := 7) hx hb hts hinX7 hown hK.1 hP 2 rfl rfl 4 (by decide) (va_Nw.use rfl (hK.2.1 (.fieldLinkNest RX5 23 RX7 "lost" "I" RX9) (List.mem_of_getElem? (i := 12) rfl))) (fun _ h9 => h9) rfl dX5_tellLosses_1 ?_
  refine lv_istore_n (lv' := [(2, .int v_o1_lost), (0, .ref a_t), (1, .ref a_o1)]) hx hb dX5_tellLosses_4 rfl hl (by decide) rfl (fun ls hl => ?_)
  refine lv_iconst (v := 0) hx hb dX5_tellLosses_5 (by decide) ?_
  refine lv_istore_n (lv' := [(3, .int 0), (2, .int v_o1_lost), (0, .ref a_t), (1, .ref a_o1)]) hx hb dX5_tellLosses_6 rfl hl (by decide) rfl (fun ls hl => ?_)
  exact J_7 F v_o1_lost 0 _ h _ _ _ hP hD hS (lv_sub hl [2, 3, 1, 0] rfl)
set_option maxHeartbeats 4000000 in
set_option maxRecDepth 100000 in
theorem c_X6_firstNails (l : Launch) (D : va_G) (cA : ClassId) (sa sv : Nat → Nat) (a_o0 a_o0_kinds a_o0_figures a_o0_causeBits : Nat) (sz : Nat) (v_o0_kinds : Nat → Int32) (v_o0_figures : Nat → Int32) (v_o0_causeBits : Nat → Int32) (v_o0_size : Int32) (v_o0_lost : Int32) (v_o0_guarded : Int32) (v_o0_day : Int32) (F : Nat) (res : Int32) (h : f_X6_firstNails F v_o0_causeBits v_o0_size  = some res) : Met l yX6_firstNails wsX6_firstNails { frames := 3, cells := 0, slots := 0, locals := 64 } (xk_Pc D cA sa sv (wX7 cA a_o0 a_o0_kinds a_o0_figures a_o0_causeBits v_o0_kinds v_o0_figures v_o0_causeBits v_o0_size v_o0_lost v_o0_guarded v_o0_day) sz [.ref a_o0]) (xk_Q D (va_A (wX7 cA a_o0 a_o0_kinds a_o0_figures a_o0_causeBits v_o0_kinds v_o0_figures v_o0_causeBits v_o0_size v_o0_lost v_o0_guarded v_o0_day) sz) (some (.int res)) (wX7 cA a_o0 a_o0_kinds a_o0_figures a_o0_causeBits v_o0_kinds v_o0_figures v_o0_causeBits v_o0_size v_o0_lost v_o0_guarded v_o0_day)) 0 0 (va_A (wX7 cA a_o0 a_o0_kinds a_o0_figures a_o0_causeBits v_o0_kinds v_o0_figures v_o0_causeBits v_o0_size v_o0_lost v_o0_guarded v_o0_day) sz) := by
  refine xk_met (fun res : Int32 => some (.int res)) (fun res : Int32 => (wX7 cA a_o0 a_o0_kinds a_o0_figures a_o0_causeBits v_o0_kinds v_o0_figures v_o0_causeBits v_o0_size v_o0_lost v_o0_guarded v_o0_day)) res (cc := cX6_firstNails) (maxL := 4) (ret := (some .int)) (by decide) rfl (Nat.le_of_ble_eq_true rfl) ?_
  intro p e s m args below meth c A Q ls hQ hx hb hr hlk hml hown hts hK hP hD hS hA hl
  have S : CallFix p m c cX6_firstNails 4 s args wsX6_firstNails RX6 := ⟨hx, hb, hml, hown, hts⟩
  have hl : lv_has ls 4 [(0, .ref a_o0)] := hl
  have hinX7 : ∀ w ∈ u_ws RX7 TX7 7, w ∈ wsX6_firstNails := fun _ h => List.mem_cons_of_mem _ (List.mem_append_right _ (h))
  have J_9 : ∀ (n : Nat) (x1 : Int32) (x2 : Int32) (x3 : Int32) (res : Int32), f_X6_firstNails_9 F v_o0_causeBits v_o0_size n x1 x2 x3 = some res → ∀ (H : Heap) (locs : List Loc) (ls : Array Slot), va_P D vwCl (wX7 cA a_o0 a_o0_kinds a_o0_figures a_o0_causeBits v_o0_kinds v_o0_figures v_o0_causeBits v_o0_size v_o0_lost v_o0_guarded v_o0_day) H → va_D A (wX7 cA a_o0 a_o0_kinds a_o0_figures a_o0_causeBits v_o0_kinds v_o0_figures v_o0_causeBits v_o0_size v_o0_lost v_o0_guarded v_o0_day) → va_S A s.heap H locs → lv_has ls 4 [(0, .ref a_o0), (1, .int x1), (2, .int x2), (3, .int x3)] → W p l e { frames := 3, cells := 0, slots := 0, locals := 64 } s m args below meth c H locs 0 0 (Q res) (F0 m 9 ls []) := by
    intro n
    induction n with
    | zero => intro x1 x2 x3 res h; exact nomatch (show (none : Option (Int32)) = some res from h)
    | succ n ih =>
      intro x1 x2 x3 res h H locs ls hP hD hS hl
      rw [f_X6_firstNails_9] at h
      refine lv_iload_n hx hb dX6_firstNails_9 rfl (lv_at hl 3 rfl) ?_
      refine lv_aload_n hx hb dX6_firstNails_10 rfl (lv_at hl 0 rfl) ?_
      refine va_getN (ci := 2) (v := .int v_o0_size) (C := RX7) (T := TX7) (N := 7) hx hb hts hinX7 hown hK.1 hP 0 rfl rfl 3 (by decide) (va_Nw.use rfl (hK.2.1 (.fieldLinkNest RX6 13 RX7 "size" "I" RX9) (List.mem_of_getElem? (i := 15) rfl))) (fun _ h9 => h9) rfl dX6_firstNails_11 ?_
      refine lv_icmp_ge (tgt := 39) hx hb dX6_firstNails_14 (by decide) (fun c_2 => ?_) (fun c_2 => ?_)
      · have h := (if_pos c_2).symm.trans h
        refine lv_iload_n hx hb dX6_firstNails_39 rfl (lv_at hl 2 rfl) ?_
        obtain rfl := Option.some.inj h
        exact xk_iret hx hb hr hlk hP hD hS (hQ _) dX6_firstNails_40
      · have h := (if_neg c_2).symm.trans h
        refine lv_iload_n hx hb dX6_firstNails_17 rfl (lv_at hl 2 rfl) ?_
        obtain ⟨x_3, hc_3, h⟩ := bd_some h
        refine xk_S (rest := []) (As := [.int x2]) (stk := [.int x_3]) (wn := (wX7 cA a_o0 a_o0_kinds a_o0_figures a_o0_causeBits v_o0_kinds v_o0_figures v_o0_causeBits v_o0_size v_o0_lost v_o0_guarded v_o0_day)) (v := (some (.int x_3))) (wr := [(a_o0, .inr (2, [.ref a_o0_kinds, .ref a_o0_figures, .ref a_o0_causeBits, .int v_o0_size, .int v_o0_lost, .int v_o0_guarded, .int v_o0_day])), (a_o0_kinds, .inl (cA, 9, .inl v_o0_kinds)), (a_o0_figures, .inl (cA, 9, .inl v_o0_figures)), (a_o0_causeBits, .inl (cA, 9, .inl v_o0_causeBits))]) gX6_firstNails_J6_bitCount_0f7a4 rfl hdS_J6_bitCount_0f7a4 rfl rfl (c_J6_bitCount_0f7a4 l D cA sa sv _ x2 x_3 hc_3) S hK hP hD hS hA [] [0, 1, 2, 3] [0, 1, 2, 3] rfl rfl rfl rfl rfl rfl rfl ⟨Nat.le_of_ble_eq_true rfl, Nat.le_of_ble_eq_true rfl⟩ ⟨Nat.le_refl 0, Nat.le_refl 0⟩ rfl hl.1 rfl (Nat.le_of_ble_eq_true rfl) rfl dX6_firstNails_18 (fun H locs hP hD hS => ?_)
        refine lv_iconst (v := 5) hx hb dX6_firstNails_21 (by decide) ?_
        refine lv_icmp_ge (tgt := 39) hx hb dX6_firstNails_22 (by decide) (fun c_4 => ?_) (fun c_4 => ?_)
        · have h := (if_pos c_4).symm.trans h
          refine lv_iload_n hx hb dX6_firstNails_39 rfl (lv_at hl 2 rfl) ?_
          obtain rfl := Option.some.inj h
          exact xk_iret hx hb hr hlk hP hD hS (hQ _) dX6_firstNails_40
        · have h := (if_neg c_4).symm.trans h
          refine lv_iload_n hx hb dX6_firstNails_25 rfl (lv_at hl 2 rfl) ?_
          refine lv_iload_n hx hb dX6_firstNails_26 rfl (lv_at hl 1 rfl) ?_
          refine lv_iconst (v := 1) hx hb dX6_firstNails_27 (by decide) ?_
          refine lv_iload_n hx hb dX6_firstNails_28 rfl (lv_at hl 3 rfl) ?_
          refine lv_ishl hx hb dX6_firstNails_29 ?_
          refine lv_iand hx hb dX6_firstNails_30 ?_
          refine lv_ior hx hb dX6_firstNails_31 ?_
          refine lv_istore_n (lv' := [(2, .int (x2 ||| (x1 &&& (1 <<< (x3 &&& 31))))), (0, .ref a_o0), (1, .int x1), (3, .int x3)]) hx hb dX6_firstNails_32 rfl hl (by decide) rfl (fun ls hl => ?_)
          refine lv_iinc (v := (x3 + 1)) (lv' := [(3, .int (x3 + 1)), (2, .int (x2 ||| (x1 &&& (1 <<< (x3 &&& 31))))), (0, .ref a_o0), (1, .int x1)]) hx hb dX6_firstNails_33 hl (k := 3) rfl rfl (by decide) rfl (fun ls hl => ?_)
          refine lv_goto (tgt := 9) hx hb dX6_firstNails_36 (by decide) ?_
          exact ih x1 (x2 ||| (x1 &&& (1 <<< (x3 &&& 31)))) (x3 + 1) _ h _ _ _ hP hD hS (lv_sub hl [2, 3, 1, 0] rfl)
  unfold f_X6_firstNails at h
  refine lv_aload_n hx hb dX6_firstNails_0 rfl (lv_at hl 0 rfl) ?_
  obtain ⟨x_1, hc_1, h⟩ := bd_some h
  refine xk_V (rest := []) (As := []) (stk := [.int x_1]) (wn := (wX7 cA a_o0 a_o0_kinds a_o0_figures a_o0_causeBits v_o0_kinds v_o0_figures v_o0_causeBits v_o0_size v_o0_lost v_o0_guarded v_o0_day)) (v := (some (.int x_1))) (wr := []) gX6_firstNails_X7_withoutCauses rfl hdV_X7_withoutCauses rfl rfl (c_X7_withoutCauses l D cA sa sv a_o0 a_o0_kinds a_o0_figures a_o0_causeBits _ v_o0_kinds v_o0_figures v_o0_causeBits v_o0_size v_o0_lost v_o0_guarded v_o0_day F x_1 hc_1) (ci := 2) rfl (q0 := 0) rfl S hK hP hD hS hA [0, 1, 2, 3] [] [0, 1, 2, 3] rfl rfl rfl rfl rfl rfl rfl ⟨Nat.le_of_ble_eq_true rfl, Nat.le_of_ble_eq_true rfl⟩ ⟨Nat.le_refl 0, Nat.le_refl 0⟩ rfl hl.1 rfl (Nat.le_of_ble_eq_true rfl) rfl dX6_firstNails_1 (fun H locs hP hD hS => ?_)
  refine lv_istore_n (lv' := [(1, .int x_1), (0, .ref a_o0)]) hx hb dX6_firstNails_4 rfl hl (by decide) rfl (fun ls hl => ?_)
  refine lv_iconst (v := 0) hx hb dX6_firstNails_5 (by decide) ?_
  refine lv_istore_n (lv' := [(2, .int 0), (1, .int x_1), (0, .ref a_o0)]) hx hb dX6_firstNails_6 rfl hl (by decide) rfl (fun ls hl => ?_)
  refine lv_iconst (v := 0) hx hb dX6_firstNails_7 (by decide) ?_
  refine lv_istore_n (lv' := [(3, .int 0), (2, .int 0), (1, .int x_1), (0, .ref a_o0)]) hx hb dX6_firstNails_8 rfl hl (by decide) rfl (fun ls hl => ?_)
  exact J_9 F x_1 0 0 _ h _ _ _ hP hD hS (lv_sub hl [3, 2, 1, 0] rfl)
set_option maxHeartbeats 4000000 in
set_option maxRecDepth 100000 in
theorem c_X6_ofThese (l : Launch) (D : va_G) (cA : ClassId) (sa sv : Nat → Nat) (sz : Nat) (p0 : Int32) (F : Nat) (res : Int64) (h : f_X6_ofThese F p0 = some res) : Met l yX6_ofThese wsX6_ofThese { frames := 0, cells := 0, slots := 0, locals := 0 } (xk_Pc D cA sa sv ([] : va_W) sz [.int p0]) (xk_Q D (va_A ([] : va_W) sz) (some (.long res)) ([] : va_W)) 0 0 (va_A ([] : va_W) sz) := by
  refine xk_met (fun res : Int64 => some (.long res)) (fun res : Int64 => ([] : va_W)) res (cc := cX6_ofThese) (maxL := 4) (ret := (some .long)) (by decide) rfl (Nat.le_of_ble_eq_true rfl) ?_
  intro p e s m args below meth c A Q ls hQ hx hb hr hlk hml hown hts hK hP hD hS hA hl
  have S : CallFix p m c cX6_ofThese 4 s args wsX6_ofThese RX6 := ⟨hx, hb, hml, hown, hts⟩
  have hl : lv_has ls 4 [(0, .int p0)] := hl
  have J_4 : ∀ (n : Nat) (x1 : Int64) (x3 : Int32) (res : Int64), f_X6_ofThese_4 F p0 n x1 x3 = some res → ∀ (H : Heap) (locs : List Loc) (ls : Array Slot), va_P D vwCl ([] : va_W) H → va_D A ([] : va_W) → va_S A s.heap H locs → lv_has ls 4 [(0, .int p0), (1, .long x1), (3, .int x3)] → W p l e { frames := 0, cells := 0, slots := 0, locals := 0 } s m args below meth c H locs 0 0 (Q res) (F0 m 4 ls []) := by
    intro n
    induction n with
    | zero => intro x1 x3 res h; exact nomatch (show (none : Option (Int64)) = some res from h)
    | succ n ih =>
      intro x1 x3 res h H locs ls hP hD hS hl
      rw [f_X6_ofThese_4] at h
      refine lv_iload_n hx hb dX6_ofThese_4 rfl (lv_at hl 2 rfl) ?_
      refine lv_iload_n hx hb dX6_ofThese_5 rfl (lv_at hl 0 rfl) ?_
      refine lv_icmp_gt (tgt := 20) hx hb dX6_ofThese_6 (by decide) (fun c_1 => ?_) (fun c_1 => ?_)
      · have h := (if_pos c_1).symm.trans h
        refine lv_lload_n hx hb dX6_ofThese_20 rfl (lv_at hl 1 rfl) ?_
        obtain rfl := Option.some.inj h
        exact xk_lret hx hb hr hlk hP hD hS (hQ _) dX6_ofThese_21
      · have h := (if_neg c_1).symm.trans h
        refine lv_lload_n hx hb dX6_ofThese_9 rfl (lv_at hl 1 rfl) ?_
        refine lv_iload_n hx hb dX6_ofThese_10 rfl (lv_at hl 2 rfl) ?_
        refine lv_i2l (v := (Int32.toInt64 x3)) hx hb dX6_ofThese_11 rfl ?_
        refine lv_lmul hx hb dX6_ofThese_12 ?_
        refine lv_lstore_n (lv' := [(1, .long (x1 * (Int32.toInt64 x3))), (0, .int p0), (3, .int x3)]) hx hb dX6_ofThese_13 rfl hl (by decide) rfl (fun ls hl => ?_)
        refine lv_iinc (v := (x3 + 1)) (lv' := [(3, .int (x3 + 1)), (1, .long (x1 * (Int32.toInt64 x3))), (0, .int p0)]) hx hb dX6_ofThese_14 hl (k := 2) rfl rfl (by decide) rfl (fun ls hl => ?_)
        refine lv_goto (tgt := 4) hx hb dX6_ofThese_17 (by decide) ?_
        exact ih (x1 * (Int32.toInt64 x3)) (x3 + 1) _ h _ _ _ hP hD hS (lv_sub hl [2, 1, 0] rfl)
  unfold f_X6_ofThese at h
  refine lv_lconst (v := 1) hx hb dX6_ofThese_0 (by decide) ?_
  refine lv_lstore_n (lv' := [(1, .long 1), (0, .int p0)]) hx hb dX6_ofThese_1 rfl hl (by decide) rfl (fun ls hl => ?_)
  refine lv_iconst (v := 2) hx hb dX6_ofThese_2 (by decide) ?_
  refine lv_istore_n (lv' := [(3, .int 2), (1, .long 1), (0, .int p0)]) hx hb dX6_ofThese_3 rfl hl (by decide) rfl (fun ls hl => ?_)
  exact J_4 F 1 2 _ h _ _ _ hP hD hS (lv_sub hl [2, 1, 0] rfl)
set_option maxHeartbeats 4000000 in
set_option maxRecDepth 100000 in
theorem cr_X6_blamingOf (l : Launch) (D : va_G) (cA : ClassId) (sa sv : Nat → Nat) (a_o0 a_o0_kinds a_o0_figures a_o0_causeBits : Nat) (v_o0_kinds : Nat → Int32) (v_o0_figures : Nat → Int32) (v_o0_causeBits : Nat → Int32) (v_o0_size : Int32) (v_o0_lost : Int32) (v_o0_guarded : Int32) (v_o0_day : Int32) (F : Nat) : ∀ (G : Nat) (p1 : Int32) (p2 : Int32) (p3 : Int32) (p4 : Int32) (p5 : Int32) (res : Int64) (sz : Nat), f_X6_blamingOf F v_o0_kinds v_o0_figures v_o0_causeBits v_o0_size v_o0_day G p1 p2 p3 p4 p5 = some res → Met l yX6_blamingOf wsX6_blamingOf { frames := 3 + G, cells := 0, slots := 0, locals := 80 + 31 * G } (xk_Pc D cA sa sv (wX7 cA a_o0 a_o0_kinds a_o0_figures a_o0_causeBits v_o0_kinds v_o0_figures v_o0_causeBits v_o0_size v_o0_lost v_o0_guarded v_o0_day) sz [.ref a_o0, .int p1, .int p2, .int p3, .int p4, .int p5]) (xk_Q D (va_A (wX7 cA a_o0 a_o0_kinds a_o0_figures a_o0_causeBits v_o0_kinds v_o0_figures v_o0_causeBits v_o0_size v_o0_lost v_o0_guarded v_o0_day) sz) (some (.long res)) (wX7 cA a_o0 a_o0_kinds a_o0_figures a_o0_causeBits v_o0_kinds v_o0_figures v_o0_causeBits v_o0_size v_o0_lost v_o0_guarded v_o0_day)) 0 0 (va_A (wX7 cA a_o0 a_o0_kinds a_o0_figures a_o0_causeBits v_o0_kinds v_o0_figures v_o0_causeBits v_o0_size v_o0_lost v_o0_guarded v_o0_day) sz) := by
  intro G
  induction G with
  | zero => intro p1 p2 p3 p4 p5 res sz h; exact nomatch (show (none : Option (Int64)) = some res from h)
  | succ G hself =>
    intro p1 p2 p3 p4 p5 res sz h
    refine xk_met (fun res : Int64 => some (.long res)) (fun res : Int64 => (wX7 cA a_o0 a_o0_kinds a_o0_figures a_o0_causeBits v_o0_kinds v_o0_figures v_o0_causeBits v_o0_size v_o0_lost v_o0_guarded v_o0_day)) res (cc := cX6_blamingOf) (maxL := 12) (ret := (some .long)) (by decide) rfl (Nat.le_of_ble_eq_true rfl) ?_
    intro p e s m args below meth c A Q ls hQ hx hb hr hlk hml hown hts hK hP hD hS hA hl
    have S : CallFix p m c cX6_blamingOf 12 s args wsX6_blamingOf RX6 := ⟨hx, hb, hml, hown, hts⟩
    have hl : lv_has ls 12 [(0, .ref a_o0), (1, .int p1), (2, .int p2), (3, .int p3), (4, .int p4), (5, .int p5)] := hl
    have hinX7 : ∀ w ∈ u_ws RX7 TX7 7, w ∈ wsX6_blamingOf := fun _ h => List.mem_cons_of_mem _ (List.mem_append_right _ (h))
    rw [f_X6_blamingOf] at h
    generalize (f_X6_blamingOf F v_o0_kinds v_o0_figures v_o0_causeBits v_o0_size v_o0_day G) = self at h hself
    have J_123 : ∀ (k_18r : Int64 → Int32 → Option (Int64)), (∀ (x6 : Int64) (x8 : Int32) (res : Int64), k_18r x6 x8 = some res → ∀ (H : Heap) (locs : List Loc) (ls : Array Slot), va_P D vwCl (wX7 cA a_o0 a_o0_kinds a_o0_figures a_o0_causeBits v_o0_kinds v_o0_figures v_o0_causeBits v_o0_size v_o0_lost v_o0_guarded v_o0_day) H → va_D A (wX7 cA a_o0 a_o0_kinds a_o0_figures a_o0_causeBits v_o0_kinds v_o0_figures v_o0_causeBits v_o0_size v_o0_lost v_o0_guarded v_o0_day) → va_S A s.heap H locs → lv_has ls 12 [(0, .ref a_o0), (1, .int p1), (2, .int p2), (3, .int p3), (4, .int p4), (5, .int p5), (6, .long x6), (8, .int x8)] → W p l e { frames := 3 + (G + 1), cells := 0, slots := 0, locals := 80 + 31 * (G + 1) } s m args below meth c H locs 0 0 (Q res) (F0 m 18 ls [])) → ∀ (x6 : Int64) (x8 : Int32) (res : Int64), f_X6_blamingOf_123 F self v_o0_kinds v_o0_figures v_o0_causeBits v_o0_size v_o0_day p1 p2 p3 p4 p5 k_18r x6 x8 = some res → ∀ (H : Heap) (locs : List Loc) (ls : Array Slot), va_P D vwCl (wX7 cA a_o0 a_o0_kinds a_o0_figures a_o0_causeBits v_o0_kinds v_o0_figures v_o0_causeBits v_o0_size v_o0_lost v_o0_guarded v_o0_day) H → va_D A (wX7 cA a_o0 a_o0_kinds a_o0_figures a_o0_causeBits v_o0_kinds v_o0_figures v_o0_causeBits v_o0_size v_o0_lost v_o0_guarded v_o0_day) → va_S A s.heap H locs → lv_has ls 12 [(0, .ref a_o0), (1, .int p1), (2, .int p2), (3, .int p3), (4, .int p4), (5, .int p5), (6, .long x6), (8, .int x8)] → W p l e { frames := 3 + (G + 1), cells := 0, slots := 0, locals := 80 + 31 * (G + 1) } s m args below meth c H locs 0 0 (Q res) (F0 m 123 ls []) := by
      intro k_18r hk_18r x6 x8 res h H locs ls hP hD hS hl
      unfold f_X6_blamingOf_123 at h
      refine lv_iinc (v := (x8 + 1)) (lv' := [(8, .int (x8 + 1)), (0, .ref a_o0), (1, .int p1), (2, .int p2), (3, .int p3), (4, .int p4), (5, .int p5), (6, .long x6)]) hx hb dX6_blamingOf_123 hl (k := 7) rfl rfl (by decide) rfl (fun ls hl => ?_)
      refine lv_goto (tgt := 18) hx hb dX6_blamingOf_126 (by decide) ?_
      exact hk_18r x6 (x8 + 1) _ h _ _ _ hP hD hS (lv_sub hl [1, 2, 3, 4, 5, 6, 7, 0] rfl)
    have J_18 : ∀ (n : Nat) (x6 : Int64) (x8 : Int32) (res : Int64), f_X6_blamingOf_18 F self v_o0_kinds v_o0_figures v_o0_causeBits v_o0_size v_o0_day p1 p2 p3 p4 p5 n x6 x8 = some res → ∀ (H : Heap) (locs : List Loc) (ls : Array Slot), va_P D vwCl (wX7 cA a_o0 a_o0_kinds a_o0_figures a_o0_causeBits v_o0_kinds v_o0_figures v_o0_causeBits v_o0_size v_o0_lost v_o0_guarded v_o0_day) H → va_D A (wX7 cA a_o0 a_o0_kinds a_o0_figures a_o0_causeBits v_o0_kinds v_o0_figures v_o0_causeBits v_o0_size v_o0_lost v_o0_guarded v_o0_day) → va_S A s.heap H locs → lv_has ls 12 [(0, .ref a_o0), (1, .int p1), (2, .int p2), (3, .int p3), (4, .int p4), (5, .int p5), (6, .long x6), (8, .int x8)] → W p l e { frames := 3 + (G + 1), cells := 0, slots := 0, locals := 80 + 31 * (G + 1) } s m args below meth c H locs 0 0 (Q res) (F0 m 18 ls []) := by
      intro n
      induction n with
      | zero => intro x6 x8 res h; exact nomatch (show (none : Option (Int64)) = some res from h)
      | succ n ih =>
        intro x6 x8 res h H locs ls hP hD hS hl
        rw [f_X6_blamingOf_18] at h
        refine lv_iload hx hb dX6_blamingOf_18 (lv_at hl 7 rfl) ?_
        refine lv_aload_n hx hb dX6_blamingOf_20 rfl (lv_at hl 0 rfl) ?_
        refine va_getN (ci := 2) (v := .int v_o0_size) (C := RX7) (T := TX7) (N := 7) hx hb hts hinX7 hown hK.1 hP 0 rfl rfl 3 (by decide) (va_Nw.use rfl (hK.2.1 (.fieldLinkNest RX6 13 RX7 "size" "I" RX9) (List.mem_of_getElem? (i := 15) rfl))) (fun _ h9 => h9) rfl dX6_blamingOf_21 ?_
        refine lv_icmp_ge (tgt := 129) hx hb dX6_blamingOf_24 (by decide) (fun c_3 => ?_) (fun c_3 => ?_)
        · have h := (if_pos c_3).symm.trans h
          refine lv_lload hx hb dX6_blamingOf_129 (lv_at hl 6 rfl) ?_
          obtain rfl := Option.some.inj h
          exact xk_lret hx hb hr hlk hP hD hS (hQ _) dX6_blamingOf_131
        · have h := (if_neg c_3).symm.trans h
          refine lv_iconst (v := 1) hx hb dX6_blamingOf_27 (by decide) ?_
          refine lv_iload hx hb dX6_blamingOf_28 (lv_at hl 7 rfl) ?_
          refine lv_ishl hx hb dX6_blamingOf_30 ?_
          refine lv_istore (lv' := [(9, .int (1 <<< (x8 &&& 31))), (0, .ref a_o0), (1, .int p1), (2, .int p2), (3, .int p3), (4, .int p4), (5, .int p5), (6, .long x6), (8, .int x8)]) hx hb dX6_blamingOf_31 hl (by decide) rfl (fun ls hl => ?_)
          refine lv_iload_n hx hb dX6_blamingOf_33 rfl (lv_at hl 4 rfl) ?_
          refine lv_iload hx hb dX6_blamingOf_34 (lv_at hl 0 rfl) ?_
          refine lv_iand hx hb dX6_blamingOf_36 ?_
          refine lv_if_eq (tgt := 123) hx hb dX6_blamingOf_37 (by decide) (fun c_4 => ?_) (fun c_4 => ?_)
          · have h := (if_pos c_4).symm.trans h
            exact J_123 (f_X6_blamingOf_18 F self v_o0_kinds v_o0_figures v_o0_causeBits v_o0_size v_o0_day p1 p2 p3 p4 p5 n) ih x6 x8 _ h _ _ _ hP hD hS (lv_sub hl [1, 2, 3, 4, 5, 6, 7, 8] rfl)
          · have h := (if_neg c_4).symm.trans h
            refine lv_aload_n hx hb dX6_blamingOf_40 rfl (lv_at hl 1 rfl) ?_
            refine va_getN (ci := 2) (v := .int v_o0_day) (C := RX7) (T := TX7) (N := 7) hx hb hts hinX7 hown hK.1 hP 0 rfl rfl 6 (by decide) (va_Nw.use rfl (hK.2.1 (.fieldLinkNest RX6 33 RX7 "day" "I" RX9) (List.mem_of_getElem? (i := 16) rfl))) (fun _ h9 => h9) rfl dX6_blamingOf_41 ?_
            refine lv_bipush (v := 10) hx hb dX6_blamingOf_44 (by decide) ?_
            refine lv_iload hx hb dX6_blamingOf_46 (lv_at hl 6 rfl) ?_
            refine lv_imul hx hb dX6_blamingOf_48 ?_
            refine lv_iadd hx hb dX6_blamingOf_49 ?_
            refine lv_istore (lv' := [(10, .int (v_o0_day + (10 * p5))), (9, .int (1 <<< (x8 &&& 31))), (0, .ref a_o0), (1, .int p1), (2, .int p2), (3, .int p3), (4, .int p4), (5, .int p5), (6, .long x6), (8, .int x8)]) hx hb dX6_blamingOf_50 hl (by decide) rfl (fun ls hl => ?_)
            refine lv_aload_n hx hb dX6_blamingOf_52 rfl (lv_at hl 2 rfl) ?_
            refine lv_iload hx hb dX6_blamingOf_53 (lv_at hl 6 rfl) ?_
            refine lv_iload hx hb dX6_blamingOf_55 (lv_at hl 1 rfl) ?_
            refine lv_ior hx hb dX6_blamingOf_57 ?_
            refine lv_iconst (v := 0) hx hb dX6_blamingOf_58 (by decide) ?_
            refine lv_iload hx hb dX6_blamingOf_59 (lv_at hl 0 rfl) ?_
            refine lv_bipush (v := 10) hx hb dX6_blamingOf_61 (by decide) ?_
            obtain ⟨x_5, hc_5, h⟩ := bd_some h
            refine xk_V (rest := []) (As := [.int (p4 ||| (1 <<< (x8 &&& 31))), .int 0, .int (v_o0_day + (10 * p5)), .int 10]) (stk := [.int x_5]) (wn := (wX7 cA a_o0 a_o0_kinds a_o0_figures a_o0_causeBits v_o0_kinds v_o0_figures v_o0_causeBits v_o0_size v_o0_lost v_o0_guarded v_o0_day)) (v := (some (.int x_5))) (wr := []) gX6_blamingOf_X7_behindDays rfl hdV_X7_behindDays rfl rfl (c_X7_behindDays l D cA sa sv a_o0 a_o0_kinds a_o0_figures a_o0_causeBits _ v_o0_kinds v_o0_figures v_o0_causeBits v_o0_size v_o0_lost v_o0_guarded v_o0_day (p4 ||| (1 <<< (x8 &&& 31))) 0 (v_o0_day + (10 * p5)) 10 F x_5 hc_5) (ci := 2) rfl (q0 := 0) rfl S hK hP hD hS hA [0, 1, 2, 3] [] [0, 1, 2, 3] rfl rfl rfl rfl rfl rfl rfl ⟨by dsimp only; omega, by dsimp only; omega⟩ ⟨Nat.le_refl 0, Nat.le_refl 0⟩ rfl hl.1 rfl (Nat.le_of_ble_eq_true rfl) rfl dX6_blamingOf_63 (fun H locs hP hD hS => ?_)
            refine lv_istore (lv' := [(11, .int x_5), (10, .int (v_o0_day + (10 * p5))), (9, .int (1 <<< (x8 &&& 31))), (0, .ref a_o0), (1, .int p1), (2, .int p2), (3, .int p3), (4, .int p4), (5, .int p5), (6, .long x6), (8, .int x8)]) hx hb dX6_blamingOf_66 hl (by decide) rfl (fun ls hl => ?_)
            refine lv_iload hx hb dX6_blamingOf_68 (lv_at hl 0 rfl) ?_
            refine lv_iconst (v := 1) hx hb dX6_blamingOf_70 (by decide) ?_
            refine lv_iload_n hx hb dX6_blamingOf_71 rfl (lv_at hl 5 rfl) ?_
            refine lv_ishl hx hb dX6_blamingOf_72 ?_
            refine lv_iand hx hb dX6_blamingOf_73 ?_
            refine lv_if_ne (tgt := 103) hx hb dX6_blamingOf_74 (by decide) (fun c_6 => ?_) (fun c_6 => ?_)
            · have h := (if_neg c_6).symm.trans h
              refine lv_iload hx hb dX6_blamingOf_103 (lv_at hl 10 rfl) ?_
              refine lv_iload_n hx hb dX6_blamingOf_105 rfl (lv_at hl 4 rfl) ?_
              refine lv_icmp_ne (tgt := 123) hx hb dX6_blamingOf_106 (by decide) (fun c_7 => ?_) (fun c_7 => ?_)
              · have h := (if_neg c_7).symm.trans h
                exact J_123 (f_X6_blamingOf_18 F self v_o0_kinds v_o0_figures v_o0_causeBits v_o0_size v_o0_day p1 p2 p3 p4 p5 n) ih x6 x8 _ h _ _ _ hP hD hS (lv_sub hl [3, 4, 5, 6, 7, 8, 9, 10] rfl)
              · have h := (if_pos c_7).symm.trans h
                refine lv_lload hx hb dX6_blamingOf_109 (lv_at hl 9 rfl) ?_
                refine lv_iload_n hx hb dX6_blamingOf_111 rfl (lv_at hl 6 rfl) ?_
                obtain ⟨x_8, hc_8, h⟩ := bd_some h
                refine xk_S (rest := [.long x6]) (As := [.int p3]) (stk := [.int x_8, .long x6]) (wn := (wX7 cA a_o0 a_o0_kinds a_o0_figures a_o0_causeBits v_o0_kinds v_o0_figures v_o0_causeBits v_o0_size v_o0_lost v_o0_guarded v_o0_day)) (v := (some (.int x_8))) (wr := [(a_o0, .inr (2, [.ref a_o0_kinds, .ref a_o0_figures, .ref a_o0_causeBits, .int v_o0_size, .int v_o0_lost, .int v_o0_guarded, .int v_o0_day])), (a_o0_kinds, .inl (cA, 9, .inl v_o0_kinds)), (a_o0_figures, .inl (cA, 9, .inl v_o0_figures)), (a_o0_causeBits, .inl (cA, 9, .inl v_o0_causeBits))]) gX6_blamingOf_J6_bitCount_0f7a4 rfl hdS_J6_bitCount_0f7a4 rfl rfl (c_J6_bitCount_0f7a4 l D cA sa sv _ p3 x_8 hc_8) S hK hP hD hS hA [] [0, 1, 2, 3] [0, 1, 2, 3] rfl rfl rfl rfl rfl rfl rfl ⟨by dsimp only; omega, by dsimp only; omega⟩ ⟨Nat.le_refl 0, Nat.le_refl 0⟩ rfl hl.1 rfl (Nat.le_of_ble_eq_true rfl) rfl dX6_blamingOf_112 (fun H locs hP hD hS => ?_)
                refine lv_iconst (v := 1) hx hb dX6_blamingOf_115 (by decide) ?_
                refine lv_isub hx hb dX6_blamingOf_116 ?_
                obtain ⟨x_9, hc_9, h⟩ := bd_some h
                refine xk_S (rest := [.long x6]) (As := [.int (x_8 - 1)]) (stk := [.long x_9, .long x6]) (wn := (wX7 cA a_o0 a_o0_kinds a_o0_figures a_o0_causeBits v_o0_kinds v_o0_figures v_o0_causeBits v_o0_size v_o0_lost v_o0_guarded v_o0_day)) (v := (some (.long x_9))) (wr := [(a_o0, .inr (2, [.ref a_o0_kinds, .ref a_o0_figures, .ref a_o0_causeBits, .int v_o0_size, .int v_o0_lost, .int v_o0_guarded, .int v_o0_day])), (a_o0_kinds, .inl (cA, 9, .inl v_o0_kinds)), (a_o0_figures, .inl (cA, 9, .inl v_o0_figures)), (a_o0_causeBits, .inl (cA, 9, .inl v_o0_causeBits))]) gX6_blamingOf_X6_ofThese rfl hdS_X6_ofThese rfl rfl (c_X6_ofThese l D cA sa sv _ (x_8 - 1) F x_9 hc_9) S hK hP hD hS hA [] [0, 1, 2, 3] [0, 1, 2, 3] rfl rfl rfl rfl rfl rfl rfl ⟨by dsimp only; omega, by dsimp only; omega⟩ ⟨Nat.le_refl 0, Nat.le_refl 0⟩ rfl hl.1 rfl (Nat.le_of_ble_eq_true rfl) rfl dX6_blamingOf_117 (fun H locs hP hD hS => ?_)
                refine lv_ladd hx hb dX6_blamingOf_120 ?_
                refine lv_lstore (lv' := [(6, .long (x6 + x_9)), (11, .int x_5), (10, .int (v_o0_day + (10 * p5))), (9, .int (1 <<< (x8 &&& 31))), (0, .ref a_o0), (1, .int p1), (2, .int p2), (3, .int p3), (4, .int p4), (5, .int p5), (8, .int x8)]) hx hb dX6_blamingOf_121 hl (by decide) rfl (fun ls hl => ?_)
                exact J_123 (f_X6_blamingOf_18 F self v_o0_kinds v_o0_figures v_o0_causeBits v_o0_size v_o0_day p1 p2 p3 p4 p5 n) ih (x6 + x_9) x8 _ h _ _ _ hP hD hS (lv_sub hl [4, 5, 6, 7, 8, 9, 0, 10] rfl)
            · have h := (if_pos c_6).symm.trans h
              refine lv_lload hx hb dX6_blamingOf_77 (lv_at hl 9 rfl) ?_
              refine lv_aload_n hx hb dX6_blamingOf_79 rfl (lv_at hl 3 rfl) ?_
              refine lv_iload_n hx hb dX6_blamingOf_80 rfl (lv_at hl 4 rfl) ?_
              refine lv_iload_n hx hb dX6_blamingOf_81 rfl (lv_at hl 5 rfl) ?_
              refine lv_iload_n hx hb dX6_blamingOf_82 rfl (lv_at hl 6 rfl) ?_
              refine lv_iload hx hb dX6_blamingOf_83 (lv_at hl 2 rfl) ?_
              refine lv_iconst (v := (-1)) hx hb dX6_blamingOf_85 (by decide) ?_
              refine lv_ixor hx hb dX6_blamingOf_86 ?_
              refine lv_iand hx hb dX6_blamingOf_87 ?_
              refine lv_iload hx hb dX6_blamingOf_88 (lv_at hl 0 rfl) ?_
              refine lv_iload hx hb dX6_blamingOf_90 (lv_at hl 8 rfl) ?_
              refine lv_iconst (v := 1) hx hb dX6_blamingOf_92 (by decide) ?_
              refine lv_iadd hx hb dX6_blamingOf_93 ?_
              obtain ⟨x_10, hc_10, h⟩ := bd_some h
              refine xk_S (rest := [.long x6]) (As := [.ref a_o0, .int p1, .int p2, .int (p3 &&& ((1 <<< (x8 &&& 31)) ^^^ (-1))), .int x_5, .int (p5 + 1)]) (stk := [.long x_10, .long x6]) (wn := (wX7 cA a_o0 a_o0_kinds a_o0_figures a_o0_causeBits v_o0_kinds v_o0_figures v_o0_causeBits v_o0_size v_o0_lost v_o0_guarded v_o0_day)) (v := (some (.long x_10))) (wr := []) gX6_blamingOf_X6_blamingOf rfl hdS_X6_blamingOf rfl rfl (hself p1 p2 (p3 &&& ((1 <<< (x8 &&& 31)) ^^^ (-1))) x_5 (p5 + 1) x_10 _ hc_10) S hK hP hD hS hA [0, 1, 2, 3] [] [0, 1, 2, 3] rfl rfl rfl rfl rfl rfl rfl ⟨by dsimp only; omega, by dsimp only; omega⟩ ⟨Nat.le_refl 0, Nat.le_refl 0⟩ rfl hl.1 rfl (Nat.le_of_ble_eq_true rfl) rfl dX6_blamingOf_94 (fun H locs hP hD hS => ?_)
              refine lv_ladd hx hb dX6_blamingOf_97 ?_
              refine lv_lstore (lv' := [(6, .long (x6 + x_10)), (11, .int x_5), (10, .int (v_o0_day + (10 * p5))), (9, .int (1 <<< (x8 &&& 31))), (0, .ref a_o0), (1, .int p1), (2, .int p2), (3, .int p3), (4, .int p4), (5, .int p5), (8, .int x8)]) hx hb dX6_blamingOf_98 hl (by decide) rfl (fun ls hl => ?_)
              refine lv_goto (tgt := 123) hx hb dX6_blamingOf_100 (by decide) ?_
              exact J_123 (f_X6_blamingOf_18 F self v_o0_kinds v_o0_figures v_o0_causeBits v_o0_size v_o0_day p1 p2 p3 p4 p5 n) ih (x6 + x_10) x8 _ h _ _ _ hP hD hS (lv_sub hl [4, 5, 6, 7, 8, 9, 0, 10] rfl)
    refine lv_iload_n hx hb dX6_blamingOf_0 rfl (lv_at hl 3 rfl) ?_
    refine lv_if_eq (tgt := 10) hx hb dX6_blamingOf_1 (by decide) (fun c_1 => ?_) (fun c_1 => ?_)
    · have h := (if_pos c_1).symm.trans h
      refine lv_lconst (v := 0) hx hb dX6_blamingOf_10 (by decide) ?_
      obtain rfl := Option.some.inj h
      exact xk_lret hx hb hr hlk hP hD hS (hQ _) dX6_blamingOf_11
    · have h := (if_neg c_1).symm.trans h
      refine lv_iload hx hb dX6_blamingOf_4 (lv_at hl 5 rfl) ?_
      refine lv_iconst (v := 5) hx hb dX6_blamingOf_6 (by decide) ?_
      refine lv_icmp_lt (tgt := 12) hx hb dX6_blamingOf_7 (by decide) (fun c_2 => ?_) (fun c_2 => ?_)
      · have h := (if_pos c_2).symm.trans h
        refine lv_lconst (v := 0) hx hb dX6_blamingOf_12 (by decide) ?_
        refine lv_lstore (lv' := [(6, .long 0), (0, .ref a_o0), (1, .int p1), (2, .int p2), (3, .int p3), (4, .int p4), (5, .int p5)]) hx hb dX6_blamingOf_13 hl (by decide) rfl (fun ls hl => ?_)
        refine lv_iconst (v := 0) hx hb dX6_blamingOf_15 (by decide) ?_
        refine lv_istore (lv' := [(8, .int 0), (6, .long 0), (0, .ref a_o0), (1, .int p1), (2, .int p2), (3, .int p3), (4, .int p4), (5, .int p5)]) hx hb dX6_blamingOf_16 hl (by decide) rfl (fun ls hl => ?_)
        exact J_18 F 0 0 _ h _ _ _ hP hD hS (lv_sub hl [2, 3, 4, 5, 6, 7, 1, 0] rfl)
      · have h := (if_neg c_2).symm.trans h
        refine lv_lconst (v := 0) hx hb dX6_blamingOf_10 (by decide) ?_
        obtain rfl := Option.some.inj h
        exact xk_lret hx hb hr hlk hP hD hS (hQ _) dX6_blamingOf_11
theorem c_X6_blamingOf (l : Launch) (D : va_G) (cA : ClassId) (sa sv : Nat → Nat) (a_o0 a_o0_kinds a_o0_figures a_o0_causeBits : Nat) (sz : Nat) (v_o0_kinds : Nat → Int32) (v_o0_figures : Nat → Int32) (v_o0_causeBits : Nat → Int32) (v_o0_size : Int32) (v_o0_lost : Int32) (v_o0_guarded : Int32) (v_o0_day : Int32) (p1 : Int32) (p2 : Int32) (p3 : Int32) (p4 : Int32) (p5 : Int32) (F : Nat) (res : Int64) (h : f_X6_blamingOf_top F v_o0_kinds v_o0_figures v_o0_causeBits v_o0_size v_o0_day p1 p2 p3 p4 p5 = some res) : Met l yX6_blamingOf wsX6_blamingOf { frames := 3 + 8, cells := 0, slots := 0, locals := 80 + 31 * 8 } (xk_Pc D cA sa sv (wX7 cA a_o0 a_o0_kinds a_o0_figures a_o0_causeBits v_o0_kinds v_o0_figures v_o0_causeBits v_o0_size v_o0_lost v_o0_guarded v_o0_day) sz [.ref a_o0, .int p1, .int p2, .int p3, .int p4, .int p5]) (xk_Q D (va_A (wX7 cA a_o0 a_o0_kinds a_o0_figures a_o0_causeBits v_o0_kinds v_o0_figures v_o0_causeBits v_o0_size v_o0_lost v_o0_guarded v_o0_day) sz) (some (.long res)) (wX7 cA a_o0 a_o0_kinds a_o0_figures a_o0_causeBits v_o0_kinds v_o0_figures v_o0_causeBits v_o0_size v_o0_lost v_o0_guarded v_o0_day)) 0 0 (va_A (wX7 cA a_o0 a_o0_kinds a_o0_figures a_o0_causeBits v_o0_kinds v_o0_figures v_o0_causeBits v_o0_size v_o0_lost v_o0_guarded v_o0_day) sz) :=
  cr_X6_blamingOf l D cA sa sv a_o0 a_o0_kinds a_o0_figures a_o0_causeBits v_o0_kinds v_o0_figures v_o0_causeBits v_o0_size v_o0_lost v_o0_guarded v_o0_day F 8 p1 p2 p3 p4 p5 res sz h
