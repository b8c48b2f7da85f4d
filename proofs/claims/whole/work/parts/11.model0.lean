set_option maxHeartbeats 4000000 in
set_option maxRecDepth 100000 in
theorem c_X10_no (l : Launch) (D : va_G) (cA : ClassId) (sa sv : Nat → Nat) (a_t a_t_refused a_t_kind a_t_figure a_t_cause a_t_tape a_t_letter a_t_letterAt a_t_told a_t_kept a_t_deep a_t_many a_t_row : Nat) (sz : Nat) (v_t_refused : Nat → Int32) (v_t_kind : Nat → Int32) (v_t_figure : Nat → Int32) (v_t_cause : Nat → Int32) (v_t_things : Int32) (v_t_day : Int32) (v_t_lost : Int32) (v_t_guarded : Int32) (v_t_tape : Nat → Int32) (v_t_letter : Nat → Int32) (v_t_letterAt : Nat → Int32) (v_t_told : Nat → Int32) (v_t_taped : Int32) (v_t_at : Int32) (v_t_statements : Int32) (v_t_kept : Nat → Int32) (v_t_hasImage : Int32) (v_t_isKeeping : Int32) (v_t_cursor : Int32) (v_t_deep : Nat → Int32) (v_t_nextWhen : Int32) (v_t_many : Nat → Int32) (v_t_row : Nat → Int32) (v_t_rowMany : Int32) (v_t_lots : Int32) (p1 : Int32) (res : Int32 × (Nat → Int32)) (h : f_X10_no v_t_refused p1 = some res) : Met l yX10_no wsX10_no { frames := 0, cells := 0, slots := 0, locals := 0 } (xk_Pc D cA sa sv (wX10 cA a_t a_t_refused a_t_kind a_t_figure a_t_cause a_t_tape a_t_letter a_t_letterAt a_t_told a_t_kept a_t_deep a_t_many a_t_row v_t_refused v_t_kind v_t_figure v_t_cause v_t_things v_t_day v_t_lost v_t_guarded v_t_tape v_t_letter v_t_letterAt v_t_told v_t_taped v_t_at v_t_statements v_t_kept v_t_hasImage v_t_isKeeping v_t_cursor v_t_deep v_t_nextWhen v_t_many v_t_row v_t_rowMany v_t_lots) sz [.ref a_t, .int p1]) (xk_Q D (va_A (wX10 cA a_t a_t_refused a_t_kind a_t_figure a_t_cause a_t_tape a_t_letter a_t_letterAt a_t_told a_t_kept a_t_deep a_t_many a_t_row v_t_refused v_t_kind v_t_figure v_t_cause v_t_things v_t_day v_t_lost v_t_guarded v_t_tape v_t_letter v_t_letterAt v_t_told v_t_taped v_t_at v_t_statements v_t_kept v_t_hasImage v_t_isKeeping v_t_cursor v_t_deep v_t_nextWhen v_t_many v_t_row v_t_rowMany v_t_lots) sz) (some (.int res.1)) (wX10 cA a_t a_t_refused a_t_kind a_t_figure a_t_cause a_t_tape a_t_letter a_t_letterAt a_t_told a_t_kept a_t_deep a_t_many a_t_row res.2 v_t_kind v_t_figure v_t_cause v_t_things v_t_day v_t_lost v_t_guarded v_t_tape v_t_letter v_t_letterAt v_t_told v_t_taped v_t_at v_t_statements v_t_kept v_t_hasImage v_t_isKeeping v_t_cursor v_t_deep v_t_nextWhen v_t_many v_t_row v_t_rowMany v_t_lots)) 0 0 (va_A (wX10 cA a_t a_t_refused a_t_kind a_t_figure a_t_cause a_t_tape a_t_letter a_t_letterAt a_t_told a_t_kept a_t_deep a_t_many a_t_row v_t_refused v_t_kind v_t_figure v_t_cause v_t_things v_t_day v_t_lost v_t_guarded v_t_tape v_t_letter v_t_letterAt v_t_told v_t_taped v_t_at v_t_statements v_t_kept v_t_hasImage v_t_isKeeping v_t_cursor v_t_deep v_t_nextWhen v_t_many v_t_row v_t_rowMany v_t_lots) sz) := by
  refine xk_met (fun res : Int32 × (Nat → Int32) => some (.int res.1)) (fun res : Int32 × (Nat → Int32) => (wX10 cA a_t a_t_refused a_t_kind a_t_figure a_t_cause a_t_tape a_t_letter a_t_letterAt a_t_told a_t_kept a_t_deep a_t_many a_t_row res.2 v_t_kind v_t_figure v_t_cause v_t_things v_t_day v_t_lost v_t_guarded v_t_tape v_t_letter v_t_letterAt v_t_told v_t_taped v_t_at v_t_statements v_t_kept v_t_hasImage v_t_isKeeping v_t_cursor v_t_deep v_t_nextWhen v_t_many v_t_row v_t_rowMany v_t_lots)) res (cc := cX10_no) (maxL := 2) (ret := (some .int)) (by decide) rfl (Nat.le_of_ble_eq_true rfl) ?_
  intro p e s m args below meth c A Q ls hQ hx hb hr hlk hml hown hts hK hP hD hS hA hl
  have S : CallFix p m c cX10_no 2 s args wsX10_no RX10 := ⟨hx, hb, hml, hown, hts⟩
  have hl : lv_has ls 2 [(0, .ref a_t), (1, .int p1)] := hl
  have hinX10 : ∀ w ∈ u_ws RX10 TX10 25, w ∈ wsX10_no := fun _ h => List.mem_cons_of_mem _ (List.mem_append_right _ (h))
  have k_0 := hts (.fieldLink RX10 7 "NailsWantTheKingdomModel" "refused" "[I") (List.mem_of_getElem? (i := 1) (by decide +kernel))
  unfold f_X10_no at h
  refine lv_aload_n hx hb dX10_no_0 rfl (lv_at hl 0 rfl) ?_
  refine va_get (ci := 5) (v := .ref a_t_refused) (C := RX10) (T := TX10) (N := 25) hx hb hts hinX10 hown hK.1 hP 0 rfl rfl 0 (by decide) k_0 (fun _ h9 => h9) rfl dX10_no_1 ?_
  refine lv_iload_n hx hb dX10_no_4 rfl (lv_at hl 1 rfl) ?_
  refine lv_ineg hx hb dX10_no_5 ?_
  refine lv_dup2_11 hx hb dX10_no_6 rfl rfl ?_
  obtain ⟨i_1, h⟩ := xa_some h
  refine va_iald hx hb hK.1 hP 1 0 rfl rfl i_1 dX10_no_7 ?_
  refine lv_iconst (v := 1) hx hb dX10_no_8 (by decide) ?_
  refine lv_iadd hx hb dX10_no_9 ?_
  obtain ⟨i_2, h⟩ := xa_some h
  refine va_iast hx hb hK.1 hP hD hS 1 0 rfl rfl i_2 dX10_no_10 (fun H locs hP hD hS => ?_)
  have hP : va_P D vwCl (wX10 cA a_t a_t_refused a_t_kind a_t_figure a_t_cause a_t_tape a_t_letter a_t_letterAt a_t_told a_t_kept a_t_deep a_t_many a_t_row (upd v_t_refused (Int32.toNatClampNeg (-p1)) ((v_t_refused (Int32.toNatClampNeg (-p1))) + 1)) v_t_kind v_t_figure v_t_cause v_t_things v_t_day v_t_lost v_t_guarded v_t_tape v_t_letter v_t_letterAt v_t_told v_t_taped v_t_at v_t_statements v_t_kept v_t_hasImage v_t_isKeeping v_t_cursor v_t_deep v_t_nextWhen v_t_many v_t_row v_t_rowMany v_t_lots) H := hP
  have hD : va_D A (wX10 cA a_t a_t_refused a_t_kind a_t_figure a_t_cause a_t_tape a_t_letter a_t_letterAt a_t_told a_t_kept a_t_deep a_t_many a_t_row (upd v_t_refused (Int32.toNatClampNeg (-p1)) ((v_t_refused (Int32.toNatClampNeg (-p1))) + 1)) v_t_kind v_t_figure v_t_cause v_t_things v_t_day v_t_lost v_t_guarded v_t_tape v_t_letter v_t_letterAt v_t_told v_t_taped v_t_at v_t_statements v_t_kept v_t_hasImage v_t_isKeeping v_t_cursor v_t_deep v_t_nextWhen v_t_many v_t_row v_t_rowMany v_t_lots) := hD
  refine lv_iload_n hx hb dX10_no_11 rfl (lv_at hl 1 rfl) ?_
  obtain rfl := Option.some.inj h
  exact xk_iret hx hb hr hlk hP hD hS (hQ _) dX10_no_12
set_option maxHeartbeats 4000000 in
set_option maxRecDepth 100000 in
theorem c_X10_lowestOf (l : Launch) (D : va_G) (cA : ClassId) (sa sv : Nat → Nat) (a_t a_t_refused a_t_kind a_t_figure a_t_cause a_t_tape a_t_letter a_t_letterAt a_t_told a_t_kept a_t_deep a_t_many a_t_row : Nat) (sz : Nat) (v_t_refused : Nat → Int32) (v_t_kind : Nat → Int32) (v_t_figure : Nat → Int32) (v_t_cause : Nat → Int32) (v_t_things : Int32) (v_t_day : Int32) (v_t_lost : Int32) (v_t_guarded : Int32) (v_t_tape : Nat → Int32) (v_t_letter : Nat → Int32) (v_t_letterAt : Nat → Int32) (v_t_told : Nat → Int32) (v_t_taped : Int32) (v_t_at : Int32) (v_t_statements : Int32) (v_t_kept : Nat → Int32) (v_t_hasImage : Int32) (v_t_isKeeping : Int32) (v_t_cursor : Int32) (v_t_deep : Nat → Int32) (v_t_nextWhen : Int32) (v_t_many : Nat → Int32) (v_t_row : Nat → Int32) (v_t_rowMany : Int32) (v_t_lots : Int32) (p1 : Int32) (res : Int64 × (Nat → Int32)) (h : f_X10_lowestOf v_t_refused p1 = some res) : Met l yX10_lowestOf wsX10_lowestOf { frames := 0, cells := 0, slots := 0, locals := 0 } (xk_Pc D cA sa sv (wX10 cA a_t a_t_refused a_t_kind a_t_figure a_t_cause a_t_tape a_t_letter a_t_letterAt a_t_told a_t_kept a_t_deep a_t_many a_t_row v_t_refused v_t_kind v_t_figure v_t_cause v_t_things v_t_day v_t_lost v_t_guarded v_t_tape v_t_letter v_t_letterAt v_t_told v_t_taped v_t_at v_t_statements v_t_kept v_t_hasImage v_t_isKeeping v_t_cursor v_t_deep v_t_nextWhen v_t_many v_t_row v_t_rowMany v_t_lots) sz [.ref a_t, .int p1]) (xk_Q D (va_A (wX10 cA a_t a_t_refused a_t_kind a_t_figure a_t_cause a_t_tape a_t_letter a_t_letterAt a_t_told a_t_kept a_t_deep a_t_many a_t_row v_t_refused v_t_kind v_t_figure v_t_cause v_t_things v_t_day v_t_lost v_t_guarded v_t_tape v_t_letter v_t_letterAt v_t_told v_t_taped v_t_at v_t_statements v_t_kept v_t_hasImage v_t_isKeeping v_t_cursor v_t_deep v_t_nextWhen v_t_many v_t_row v_t_rowMany v_t_lots) sz) (some (.long res.1)) (wX10 cA a_t a_t_refused a_t_kind a_t_figure a_t_cause a_t_tape a_t_letter a_t_letterAt a_t_told a_t_kept a_t_deep a_t_many a_t_row res.2 v_t_kind v_t_figure v_t_cause v_t_things v_t_day v_t_lost v_t_guarded v_t_tape v_t_letter v_t_letterAt v_t_told v_t_taped v_t_at v_t_statements v_t_kept v_t_hasImage v_t_isKeeping v_t_cursor v_t_deep v_t_nextWhen v_t_many v_t_row v_t_rowMany v_t_lots)) 0 0 (va_A (wX10 cA a_t a_t_refused a_t_kind a_t_figure a_t_cause a_t_tape a_t_letter a_t_letterAt a_t_told a_t_kept a_t_deep a_t_many a_t_row v_t_refused v_t_kind v_t_figure v_t_cause v_t_things v_t_day v_t_lost v_t_guarded v_t_tape v_t_letter v_t_letterAt v_t_told v_t_taped v_t_at v_t_statements v_t_kept v_t_hasImage v_t_isKeeping v_t_cursor v_t_deep v_t_nextWhen v_t_many v_t_row v_t_rowMany v_t_lots) sz) := by
  refine xk_met (fun res : Int64 × (Nat → Int32) => some (.long res.1)) (fun res : Int64 × (Nat → Int32) => (wX10 cA a_t a_t_refused a_t_kind a_t_figure a_t_cause a_t_tape a_t_letter a_t_letterAt a_t_told a_t_kept a_t_deep a_t_many a_t_row res.2 v_t_kind v_t_figure v_t_cause v_t_things v_t_day v_t_lost v_t_guarded v_t_tape v_t_letter v_t_letterAt v_t_told v_t_taped v_t_at v_t_statements v_t_kept v_t_hasImage v_t_isKeeping v_t_cursor v_t_deep v_t_nextWhen v_t_many v_t_row v_t_rowMany v_t_lots)) res (cc := cX10_lowestOf) (maxL := 2) (ret := (some .long)) (by decide) rfl (Nat.le_of_ble_eq_true rfl) ?_
  intro p e s m args below meth c A Q ls hQ hx hb hr hlk hml hown hts hK hP hD hS hA hl
  have S : CallFix p m c cX10_lowestOf 2 s args wsX10_lowestOf RX10 := ⟨hx, hb, hml, hown, hts⟩
  have hl : lv_has ls 2 [(0, .ref a_t), (1, .int p1)] := hl
  have hinX10 : ∀ w ∈ u_ws RX10 TX10 25, w ∈ wsX10_lowestOf := fun _ h => List.mem_cons_of_mem _ (List.mem_append_right _ (h))
  have k_0 := hts (.fieldLink RX10 7 "NailsWantTheKingdomModel" "refused" "[I") (List.mem_of_getElem? (i := 1) (by decide +kernel))
  have k_1 := hts (.constantLong RX10 50 (4000000000000000000)) (List.mem_of_getElem? (i := 2) (by decide +kernel))
  unfold f_X10_lowestOf at h
  refine lv_aload_n hx hb dX10_lowestOf_0 rfl (lv_at hl 0 rfl) ?_
  refine va_get (ci := 5) (v := .ref a_t_refused) (C := RX10) (T := TX10) (N := 25) hx hb hts hinX10 hown hK.1 hP 0 rfl rfl 0 (by decide) k_0 (fun _ h9 => h9) rfl dX10_lowestOf_1 ?_
  refine lv_iload_n hx hb dX10_lowestOf_4 rfl (lv_at hl 1 rfl) ?_
  refine lv_ineg hx hb dX10_lowestOf_5 ?_
  refine lv_dup2_11 hx hb dX10_lowestOf_6 rfl rfl ?_
  obtain ⟨i_1, h⟩ := xa_some h
  refine va_iald hx hb hK.1 hP 1 0 rfl rfl i_1 dX10_lowestOf_7 ?_
  refine lv_iconst (v := 1) hx hb dX10_lowestOf_8 (by decide) ?_
  refine lv_iadd hx hb dX10_lowestOf_9 ?_
  obtain ⟨i_2, h⟩ := xa_some h
  refine va_iast hx hb hK.1 hP hD hS 1 0 rfl rfl i_2 dX10_lowestOf_10 (fun H locs hP hD hS => ?_)
  have hP : va_P D vwCl (wX10 cA a_t a_t_refused a_t_kind a_t_figure a_t_cause a_t_tape a_t_letter a_t_letterAt a_t_told a_t_kept a_t_deep a_t_many a_t_row (upd v_t_refused (Int32.toNatClampNeg (-p1)) ((v_t_refused (Int32.toNatClampNeg (-p1))) + 1)) v_t_kind v_t_figure v_t_cause v_t_things v_t_day v_t_lost v_t_guarded v_t_tape v_t_letter v_t_letterAt v_t_told v_t_taped v_t_at v_t_statements v_t_kept v_t_hasImage v_t_isKeeping v_t_cursor v_t_deep v_t_nextWhen v_t_many v_t_row v_t_rowMany v_t_lots) H := hP
  have hD : va_D A (wX10 cA a_t a_t_refused a_t_kind a_t_figure a_t_cause a_t_tape a_t_letter a_t_letterAt a_t_told a_t_kept a_t_deep a_t_many a_t_row (upd v_t_refused (Int32.toNatClampNeg (-p1)) ((v_t_refused (Int32.toNatClampNeg (-p1))) + 1)) v_t_kind v_t_figure v_t_cause v_t_things v_t_day v_t_lost v_t_guarded v_t_tape v_t_letter v_t_letterAt v_t_told v_t_taped v_t_at v_t_statements v_t_kept v_t_hasImage v_t_isKeeping v_t_cursor v_t_deep v_t_nextWhen v_t_many v_t_row v_t_rowMany v_t_lots) := hD
  refine lv_ldc2 (v := 4000000000000000000) hx hb hown k_1 dX10_lowestOf_11 ?_
  refine lv_iload_n hx hb dX10_lowestOf_14 rfl (lv_at hl 1 rfl) ?_
  refine lv_i2l (v := (Int32.toInt64 p1)) hx hb dX10_lowestOf_15 rfl ?_
  refine lv_lsub hx hb dX10_lowestOf_16 ?_
  obtain rfl := Option.some.inj h
  exact xk_lret hx hb hr hlk hP hD hS (hQ _) dX10_lowestOf_17
set_option maxHeartbeats 4000000 in
set_option maxRecDepth 100000 in
theorem c_X10_isIn (l : Launch) (D : va_G) (cA : ClassId) (sa sv : Nat → Nat) (sz : Nat) (p0 : Int32) (p1 : Int32) (p2 : Int32) (res : Int32) (h : f_X10_isIn  p0 p1 p2 = some res) : Met l yX10_isIn wsX10_isIn { frames := 0, cells := 0, slots := 0, locals := 0 } (xk_Pc D cA sa sv ([] : va_W) sz [.int p0, .int p1, .int p2]) (xk_Q D (va_A ([] : va_W) sz) (some (.int res)) ([] : va_W)) 0 0 (va_A ([] : va_W) sz) := by
  refine xk_met (fun res : Int32 => some (.int res)) (fun res : Int32 => ([] : va_W)) res (cc := cX10_isIn) (maxL := 3) (ret := (some .boolean)) (by decide) rfl (Nat.le_of_ble_eq_true rfl) ?_
  intro p e s m args below meth c A Q ls hQ hx hb hr hlk hml hown hts hK hP hD hS hA hl
  have S : CallFix p m c cX10_isIn 3 s args wsX10_isIn RX10 := ⟨hx, hb, hml, hown, hts⟩
  have hl : lv_has ls 3 [(0, .int p0), (1, .int p1), (2, .int p2)] := hl
  unfold f_X10_isIn at h
  refine lv_iload_n hx hb dX10_isIn_0 rfl (lv_at hl 0 rfl) ?_
  refine lv_iload_n hx hb dX10_isIn_1 rfl (lv_at hl 1 rfl) ?_
  refine lv_icmp_lt (tgt := 14) hx hb dX10_isIn_2 (by decide) (fun c_1 => ?_) (fun c_1 => ?_)
  · have h := (if_pos c_1).symm.trans h
    refine lv_iconst (v := 0) hx hb dX10_isIn_14 (by decide) ?_
    obtain rfl := Option.some.inj h
    exact xk_zret rfl hx hb hr hlk hP hD hS (hQ _) dX10_isIn_15
  · have h := (if_neg c_1).symm.trans h
    refine lv_iload_n hx hb dX10_isIn_5 rfl (lv_at hl 0 rfl) ?_
    refine lv_iload_n hx hb dX10_isIn_6 rfl (lv_at hl 2 rfl) ?_
    refine lv_icmp_gt (tgt := 14) hx hb dX10_isIn_7 (by decide) (fun c_2 => ?_) (fun c_2 => ?_)
    · have h := (if_pos c_2).symm.trans h
      refine lv_iconst (v := 0) hx hb dX10_isIn_14 (by decide) ?_
      obtain rfl := Option.some.inj h
      exact xk_zret rfl hx hb hr hlk hP hD hS (hQ _) dX10_isIn_15
    · have h := (if_neg c_2).symm.trans h
      refine lv_iconst (v := 1) hx hb dX10_isIn_10 (by decide) ?_
      refine lv_goto (tgt := 15) hx hb dX10_isIn_11 (by decide) ?_
      obtain rfl := Option.some.inj h
      exact xk_zret rfl hx hb hr hlk hP hD hS (hQ _) dX10_isIn_15
set_option maxHeartbeats 4000000 in
set_option maxRecDepth 100000 in
theorem c_X10_bound (l : Launch) (D : va_G) (cA : ClassId) (sa sv : Nat → Nat) (sz : Nat) (p0 : Int32) (p1 : Int32) (p2 : Int32) (res : Int32) (h : f_X10_bound  p0 p1 p2 = some res) : Met l yX10_bound wsX10_bound { frames := 0, cells := 0, slots := 0, locals := 0 } (xk_Pc D cA sa sv ([] : va_W) sz [.int p0, .int p1, .int p2]) (xk_Q D (va_A ([] : va_W) sz) (some (.int res)) ([] : va_W)) 0 0 (va_A ([] : va_W) sz) := by
  refine xk_met (fun res : Int32 => some (.int res)) (fun res : Int32 => ([] : va_W)) res (cc := cX10_bound) (maxL := 3) (ret := (some .int)) (by decide) rfl (Nat.le_of_ble_eq_true rfl) ?_
  intro p e s m args below meth c A Q ls hQ hx hb hr hlk hml hown hts hK hP hD hS hA hl
  have S : CallFix p m c cX10_bound 3 s args wsX10_bound RX10 := ⟨hx, hb, hml, hown, hts⟩
  have hl : lv_has ls 3 [(0, .int p0), (1, .int p1), (2, .int p2)] := hl
  unfold f_X10_bound at h
  refine lv_iload_n hx hb dX10_bound_0 rfl (lv_at hl 0 rfl) ?_
  refine lv_iload_n hx hb dX10_bound_1 rfl (lv_at hl 1 rfl) ?_
  refine lv_icmp_ge (tgt := 10) hx hb dX10_bound_2 (by decide) (fun c_1 => ?_) (fun c_1 => ?_)
  · have h := (if_pos c_1).symm.trans h
    refine lv_iload_n hx hb dX10_bound_10 rfl (lv_at hl 0 rfl) ?_
    refine lv_iload_n hx hb dX10_bound_11 rfl (lv_at hl 2 rfl) ?_
    refine lv_icmp_le (tgt := 20) hx hb dX10_bound_12 (by decide) (fun c_2 => ?_) (fun c_2 => ?_)
    · have h := (if_pos c_2).symm.trans h
      refine lv_iconst (v := 0) hx hb dX10_bound_20 (by decide) ?_
      obtain rfl := Option.some.inj h
      exact xk_iret hx hb hr hlk hP hD hS (hQ _) dX10_bound_21
    · have h := (if_neg c_2).symm.trans h
      refine lv_bipush (v := (-6)) hx hb dX10_bound_15 (by decide) ?_
      refine lv_goto (tgt := 21) hx hb dX10_bound_17 (by decide) ?_
      obtain rfl := Option.some.inj h
      exact xk_iret hx hb hr hlk hP hD hS (hQ _) dX10_bound_21
  · have h := (if_neg c_1).symm.trans h
    refine lv_bipush (v := (-4)) hx hb dX10_bound_5 (by decide) ?_
    refine lv_goto (tgt := 21) hx hb dX10_bound_7 (by decide) ?_
    obtain rfl := Option.some.inj h
    exact xk_iret hx hb hr hlk hP hD hS (hQ _) dX10_bound_21
set_option maxHeartbeats 4000000 in
set_option maxRecDepth 100000 in
theorem c_X10_has (l : Launch) (D : va_G) (cA : ClassId) (sa sv : Nat → Nat) (sz : Nat) (p0 : Int32) (p1 : Int32) (res : Int32) (h : f_X10_has  p0 p1 = some res) : Met l yX10_has wsX10_has { frames := 0, cells := 0, slots := 0, locals := 0 } (xk_Pc D cA sa sv ([] : va_W) sz [.int p0, .int p1]) (xk_Q D (va_A ([] : va_W) sz) (some (.int res)) ([] : va_W)) 0 0 (va_A ([] : va_W) sz) := by
  refine xk_met (fun res : Int32 => some (.int res)) (fun res : Int32 => ([] : va_W)) res (cc := cX10_has) (maxL := 2) (ret := (some .boolean)) (by decide) rfl (Nat.le_of_ble_eq_true rfl) ?_
  intro p e s m args below meth c A Q ls hQ hx hb hr hlk hml hown hts hK hP hD hS hA hl
  have S : CallFix p m c cX10_has 2 s args wsX10_has RX10 := ⟨hx, hb, hml, hown, hts⟩
  have hl : lv_has ls 2 [(0, .int p0), (1, .int p1)] := hl
  unfold f_X10_has at h
  refine lv_iload_n hx hb dX10_has_0 rfl (lv_at hl 0 rfl) ?_
  refine lv_iload_n hx hb dX10_has_1 rfl (lv_at hl 1 rfl) ?_
  refine lv_ishr hx hb dX10_has_2 ?_
  refine lv_iconst (v := 1) hx hb dX10_has_3 (by decide) ?_
  refine lv_iand hx hb dX10_has_4 ?_
  refine lv_iconst (v := 1) hx hb dX10_has_5 (by decide) ?_
  refine lv_icmp_ne (tgt := 13) hx hb dX10_has_6 (by decide) (fun c_1 => ?_) (fun c_1 => ?_)
  · have h := (if_neg c_1).symm.trans h
    refine lv_iconst (v := 0) hx hb dX10_has_13 (by decide) ?_
    obtain rfl := Option.some.inj h
    exact xk_zret rfl hx hb hr hlk hP hD hS (hQ _) dX10_has_14
  · have h := (if_pos c_1).symm.trans h
    refine lv_iconst (v := 1) hx hb dX10_has_9 (by decide) ?_
    refine lv_goto (tgt := 14) hx hb dX10_has_10 (by decide) ?_
    obtain rfl := Option.some.inj h
    exact xk_zret rfl hx hb hr hlk hP hD hS (hQ _) dX10_has_14
set_option maxHeartbeats 4000000 in
set_option maxRecDepth 100000 in
theorem c_X10_bits (l : Launch) (D : va_G) (cA : ClassId) (sa sv : Nat → Nat) (sz : Nat) (p0 : Int32) (F : Nat) (res : Int32) (h : f_X10_bits F p0 = some res) : Met l yX10_bits wsX10_bits { frames := 0, cells := 0, slots := 0, locals := 0 } (xk_Pc D cA sa sv ([] : va_W) sz [.int p0]) (xk_Q D (va_A ([] : va_W) sz) (some (.int res)) ([] : va_W)) 0 0 (va_A ([] : va_W) sz) := by
  refine xk_met (fun res : Int32 => some (.int res)) (fun res : Int32 => ([] : va_W)) res (cc := cX10_bits) (maxL := 3) (ret := (some .int)) (by decide) rfl (Nat.le_of_ble_eq_true rfl) ?_
  intro p e s m args below meth c A Q ls hQ hx hb hr hlk hml hown hts hK hP hD hS hA hl
  have S : CallFix p m c cX10_bits 3 s args wsX10_bits RX10 := ⟨hx, hb, hml, hown, hts⟩
  have hl : lv_has ls 3 [(0, .int p0)] := hl
  have J_4 : ∀ (n : Nat) (x1 : Int32) (x2 : Int32) (res : Int32), f_X10_bits_4 F p0 n x1 x2 = some res → ∀ (H : Heap) (locs : List Loc) (ls : Array Slot), va_P D vwCl ([] : va_W) H → va_D A ([] : va_W) → va_S A s.heap H locs → lv_has ls 3 [(0, .int p0), (1, .int x1), (2, .int x2)] → W p l e { frames := 0, cells := 0, slots := 0, locals := 0 } s m args below meth c H locs 0 0 (Q res) (F0 m 4 ls []) := by
    intro n
    induction n with
    | zero => intro x1 x2 res h; exact nomatch (show (none : Option (Int32)) = some res from h)
    | succ n ih =>
      intro x1 x2 res h H locs ls hP hD hS hl
      rw [f_X10_bits_4] at h
      refine lv_iload_n hx hb dX10_bits_4 rfl (lv_at hl 2 rfl) ?_
      refine lv_bipush (v := 31) hx hb dX10_bits_5 (by decide) ?_
      refine lv_icmp_ge (tgt := 24) hx hb dX10_bits_7 (by decide) (fun c_1 => ?_) (fun c_1 => ?_)
      · have h := (if_pos c_1).symm.trans h
        refine lv_iload_n hx hb dX10_bits_24 rfl (lv_at hl 1 rfl) ?_
        obtain rfl := Option.some.inj h
        exact xk_iret hx hb hr hlk hP hD hS (hQ _) dX10_bits_25
      · have h := (if_neg c_1).symm.trans h
        refine lv_iload_n hx hb dX10_bits_10 rfl (lv_at hl 1 rfl) ?_
        refine lv_iload_n hx hb dX10_bits_11 rfl (lv_at hl 0 rfl) ?_
        refine lv_iload_n hx hb dX10_bits_12 rfl (lv_at hl 2 rfl) ?_
        refine lv_ishr hx hb dX10_bits_13 ?_
        refine lv_iconst (v := 1) hx hb dX10_bits_14 (by decide) ?_
        refine lv_iand hx hb dX10_bits_15 ?_
        refine lv_iadd hx hb dX10_bits_16 ?_
        refine lv_istore_n (lv' := [(1, .int (x1 + ((p0 >>> (x2 &&& 31)) &&& 1))), (0, .int p0), (2, .int x2)]) hx hb dX10_bits_17 rfl hl (by decide) rfl (fun ls hl => ?_)
        refine lv_iinc (v := (x2 + 1)) (lv' := [(2, .int (x2 + 1)), (1, .int (x1 + ((p0 >>> (x2 &&& 31)) &&& 1))), (0, .int p0)]) hx hb dX10_bits_18 hl (k := 2) rfl rfl (by decide) rfl (fun ls hl => ?_)
        refine lv_goto (tgt := 4) hx hb dX10_bits_21 (by decide) ?_
        exact ih (x1 + ((p0 >>> (x2 &&& 31)) &&& 1)) (x2 + 1) _ h _ _ _ hP hD hS (lv_sub hl [2, 1, 0] rfl)
  unfold f_X10_bits at h
  refine lv_iconst (v := 0) hx hb dX10_bits_0 (by decide) ?_
  refine lv_istore_n (lv' := [(1, .int 0), (0, .int p0)]) hx hb dX10_bits_1 rfl hl (by decide) rfl (fun ls hl => ?_)
  refine lv_iconst (v := 0) hx hb dX10_bits_2 (by decide) ?_
  refine lv_istore_n (lv' := [(2, .int 0), (1, .int 0), (0, .int p0)]) hx hb dX10_bits_3 rfl hl (by decide) rfl (fun ls hl => ?_)
  exact J_4 F 0 0 _ h _ _ _ hP hD hS (lv_sub hl [2, 1, 0] rfl)
set_option maxHeartbeats 4000000 in
set_option maxRecDepth 100000 in
theorem c_X10_nth (l : Launch) (D : va_G) (cA : ClassId) (sa sv : Nat → Nat) (sz : Nat) (p0 : Int32) (p1 : Int32) (F : Nat) (res : Int32) (h : f_X10_nth F p0 p1 = some res) : Met l yX10_nth wsX10_nth { frames := 1, cells := 0, slots := 0, locals := 21 } (xk_Pc D cA sa sv ([] : va_W) sz [.int p0, .int p1]) (xk_Q D (va_A ([] : va_W) sz) (some (.int res)) ([] : va_W)) 0 0 (va_A ([] : va_W) sz) := by
  refine xk_met (fun res : Int32 => some (.int res)) (fun res : Int32 => ([] : va_W)) res (cc := cX10_nth) (maxL := 4) (ret := (some .int)) (by decide) rfl (Nat.le_of_ble_eq_true rfl) ?_
  intro p e s m args below meth c A Q ls hQ hx hb hr hlk hml hown hts hK hP hD hS hA hl
  have S : CallFix p m c cX10_nth 4 s args wsX10_nth RX10 := ⟨hx, hb, hml, hown, hts⟩
  have hl : lv_has ls 4 [(0, .int p0), (1, .int p1)] := hl
  have J_30 : ∀ (k_4r : Int32 → Int32 → Option (Int32)), (∀ (x2 : Int32) (x3 : Int32) (res : Int32), k_4r x2 x3 = some res → ∀ (H : Heap) (locs : List Loc) (ls : Array Slot), va_P D vwCl ([] : va_W) H → va_D A ([] : va_W) → va_S A s.heap H locs → lv_has ls 4 [(0, .int p0), (2, .int x2), (3, .int x3)] → W p l e { frames := 1, cells := 0, slots := 0, locals := 21 } s m args below meth c H locs 0 0 (Q res) (F0 m 4 ls [])) → ∀ (s0 : Int32) (s1 : Int32) (x3 : Int32) (res : Int32), f_X10_nth_30 F p0 p1 k_4r s0 s1 x3 = some res → ∀ (H : Heap) (locs : List Loc) (ls : Array Slot), va_P D vwCl ([] : va_W) H → va_D A ([] : va_W) → va_S A s.heap H locs → lv_has ls 4 [(0, .int p0), (3, .int x3)] → W p l e { frames := 1, cells := 0, slots := 0, locals := 21 } s m args below meth c H locs 0 0 (Q res) (F0 m 30 ls [.int s1, .int s0]) := by
    intro k_4r hk_4r s0 s1 x3 res h H locs ls hP hD hS hl
    unfold f_X10_nth_30 at h
    refine lv_isub hx hb dX10_nth_30 ?_
    refine lv_istore_n (lv' := [(2, .int (s0 - s1)), (0, .int p0), (3, .int x3)]) hx hb dX10_nth_31 rfl hl (by decide) rfl (fun ls hl => ?_)
    refine lv_iinc (v := (x3 + 1)) (lv' := [(3, .int (x3 + 1)), (2, .int (s0 - s1)), (0, .int p0)]) hx hb dX10_nth_32 hl (k := 2) rfl rfl (by decide) rfl (fun ls hl => ?_)
    refine lv_goto (tgt := 4) hx hb dX10_nth_35 (by decide) ?_
    exact hk_4r (s0 - s1) (x3 + 1) _ h _ _ _ hP hD hS (lv_sub hl [2, 1, 0] rfl)
  have J_16 : ∀ (k_4r : Int32 → Int32 → Option (Int32)), (∀ (x2 : Int32) (x3 : Int32) (res : Int32), k_4r x2 x3 = some res → ∀ (H : Heap) (locs : List Loc) (ls : Array Slot), va_P D vwCl ([] : va_W) H → va_D A ([] : va_W) → va_S A s.heap H locs → lv_has ls 4 [(0, .int p0), (2, .int x2), (3, .int x3)] → W p l e { frames := 1, cells := 0, slots := 0, locals := 21 } s m args below meth c H locs 0 0 (Q res) (F0 m 4 ls [])) → ∀ (x2 : Int32) (x3 : Int32) (res : Int32), f_X10_nth_16 F p0 p1 k_4r x2 x3 = some res → ∀ (H : Heap) (locs : List Loc) (ls : Array Slot), va_P D vwCl ([] : va_W) H → va_D A ([] : va_W) → va_S A s.heap H locs → lv_has ls 4 [(0, .int p0), (2, .int x2), (3, .int x3)] → W p l e { frames := 1, cells := 0, slots := 0, locals := 21 } s m args below meth c H locs 0 0 (Q res) (F0 m 16 ls []) := by
    intro k_4r hk_4r x2 x3 res h H locs ls hP hD hS hl
    unfold f_X10_nth_16 at h
    refine lv_iload_n hx hb dX10_nth_16 rfl (lv_at hl 1 rfl) ?_
    refine lv_iload_n hx hb dX10_nth_17 rfl (lv_at hl 0 rfl) ?_
    refine lv_iload_n hx hb dX10_nth_18 rfl (lv_at hl 2 rfl) ?_
    obtain ⟨x_3, hc_3, h⟩ := bd_some h
    refine xk_S (rest := [.int x2]) (As := [.int p0, .int x3]) (stk := [.int x_3, .int x2]) (wn := ([] : va_W)) (v := (some (.int x_3))) (wr := []) gX10_nth_X10_has rfl hdS_X10_has rfl rfl (c_X10_has l D cA sa sv _ p0 x3 x_3 hc_3) S hK hP hD hS hA [] [] [] rfl rfl rfl rfl rfl rfl rfl ⟨Nat.le_of_ble_eq_true rfl, Nat.le_of_ble_eq_true rfl⟩ ⟨Nat.le_refl 0, Nat.le_refl 0⟩ rfl hl.1 rfl (Nat.le_of_ble_eq_true rfl) rfl dX10_nth_19 (fun H locs hP hD hS => ?_)
    refine lv_if_eq (tgt := 29) hx hb dX10_nth_22 (by decide) (fun c_4 => ?_) (fun c_4 => ?_)
    · have h := (if_pos c_4).symm.trans h
      refine lv_iconst (v := 0) hx hb dX10_nth_29 (by decide) ?_
      exact J_30 k_4r hk_4r x2 0 x3 _ h _ _ _ hP hD hS (lv_sub hl [0, 2] rfl)
    · have h := (if_neg c_4).symm.trans h
      refine lv_iconst (v := 1) hx hb dX10_nth_25 (by decide) ?_
      refine lv_goto (tgt := 30) hx hb dX10_nth_26 (by decide) ?_
      exact J_30 k_4r hk_4r x2 1 x3 _ h _ _ _ hP hD hS (lv_sub hl [0, 2] rfl)
  have J_4 : ∀ (n : Nat) (x2 : Int32) (x3 : Int32) (res : Int32), f_X10_nth_4 F p0 p1 n x2 x3 = some res → ∀ (H : Heap) (locs : List Loc) (ls : Array Slot), va_P D vwCl ([] : va_W) H → va_D A ([] : va_W) → va_S A s.heap H locs → lv_has ls 4 [(0, .int p0), (2, .int x2), (3, .int x3)] → W p l e { frames := 1, cells := 0, slots := 0, locals := 21 } s m args below meth c H locs 0 0 (Q res) (F0 m 4 ls []) := by
    intro n
    induction n with
    | zero => intro x2 x3 res h; exact nomatch (show (none : Option (Int32)) = some res from h)
    | succ n ih =>
      intro x2 x3 res h H locs ls hP hD hS hl
      rw [f_X10_nth_4] at h
      refine lv_iload_n hx hb dX10_nth_4 rfl (lv_at hl 0 rfl) ?_
      refine lv_iload_n hx hb dX10_nth_5 rfl (lv_at hl 2 rfl) ?_
      obtain ⟨x_1, hc_1, h⟩ := bd_some h
      refine xk_S (rest := []) (As := [.int p0, .int x3]) (stk := [.int x_1]) (wn := ([] : va_W)) (v := (some (.int x_1))) (wr := []) gX10_nth_X10_has rfl hdS_X10_has rfl rfl (c_X10_has l D cA sa sv _ p0 x3 x_1 hc_1) S hK hP hD hS hA [] [] [] rfl rfl rfl rfl rfl rfl rfl ⟨Nat.le_of_ble_eq_true rfl, Nat.le_of_ble_eq_true rfl⟩ ⟨Nat.le_refl 0, Nat.le_refl 0⟩ rfl hl.1 rfl (Nat.le_of_ble_eq_true rfl) rfl dX10_nth_6 (fun H locs hP hD hS => ?_)
      refine lv_if_eq (tgt := 16) hx hb dX10_nth_9 (by decide) (fun c_2 => ?_) (fun c_2 => ?_)
      · have h := (if_pos c_2).symm.trans h
        exact J_16 (f_X10_nth_4 F p0 p1 n) ih x2 x3 _ h _ _ _ hP hD hS (lv_sub hl [0, 1, 2] rfl)
      · have h := (if_neg c_2).symm.trans h
        refine lv_iload_n hx hb dX10_nth_12 rfl (lv_at hl 1 rfl) ?_
        refine lv_if_le (tgt := 38) hx hb dX10_nth_13 (by decide) (fun c_5 => ?_) (fun c_5 => ?_)
        · have h := (if_pos c_5).symm.trans h
          refine lv_iload_n hx hb dX10_nth_38 rfl (lv_at hl 2 rfl) ?_
          obtain rfl := Option.some.inj h
          exact xk_iret hx hb hr hlk hP hD hS (hQ _) dX10_nth_39
        · have h := (if_neg c_5).symm.trans h
          exact J_16 (f_X10_nth_4 F p0 p1 n) ih x2 x3 _ h _ _ _ hP hD hS (lv_sub hl [0, 1, 2] rfl)
  unfold f_X10_nth at h
  refine lv_iload_n hx hb dX10_nth_0 rfl (lv_at hl 1 rfl) ?_
  refine lv_istore_n (lv' := [(2, .int p1), (0, .int p0), (1, .int p1)]) hx hb dX10_nth_1 rfl hl (by decide) rfl (fun ls hl => ?_)
  refine lv_iconst (v := 0) hx hb dX10_nth_2 (by decide) ?_
  refine lv_istore_n (lv' := [(3, .int 0), (2, .int p1), (0, .int p0), (1, .int p1)]) hx hb dX10_nth_3 rfl hl (by decide) rfl (fun ls hl => ?_)
  exact J_4 F p1 0 _ h _ _ _ hP hD hS (lv_sub hl [2, 1, 0] rfl)
set_option maxHeartbeats 4000000 in
set_option maxRecDepth 100000 in
theorem c_X10_isThing (l : Launch) (D : va_G) (cA : ClassId) (sa sv : Nat → Nat) (a_t a_t_refused a_t_kind a_t_figure a_t_cause a_t_tape a_t_letter a_t_letterAt a_t_told a_t_kept a_t_deep a_t_many a_t_row : Nat) (sz : Nat) (v_t_refused : Nat → Int32) (v_t_kind : Nat → Int32) (v_t_figure : Nat → Int32) (v_t_cause : Nat → Int32) (v_t_things : Int32) (v_t_day : Int32) (v_t_lost : Int32) (v_t_guarded : Int32) (v_t_tape : Nat → Int32) (v_t_letter : Nat → Int32) (v_t_letterAt : Nat → Int32) (v_t_told : Nat → Int32) (v_t_taped : Int32) (v_t_at : Int32) (v_t_statements : Int32) (v_t_kept : Nat → Int32) (v_t_hasImage : Int32) (v_t_isKeeping : Int32) (v_t_cursor : Int32) (v_t_deep : Nat → Int32) (v_t_nextWhen : Int32) (v_t_many : Nat → Int32) (v_t_row : Nat → Int32) (v_t_rowMany : Int32) (v_t_lots : Int32) (p1 : Int32) (res : Int32) (h : f_X10_isThing v_t_things p1 = some res) : Met l yX10_isThing wsX10_isThing { frames := 0, cells := 0, slots := 0, locals := 0 } (xk_Pc D cA sa sv (wX10 cA a_t a_t_refused a_t_kind a_t_figure a_t_cause a_t_tape a_t_letter a_t_letterAt a_t_told a_t_kept a_t_deep a_t_many a_t_row v_t_refused v_t_kind v_t_figure v_t_cause v_t_things v_t_day v_t_lost v_t_guarded v_t_tape v_t_letter v_t_letterAt v_t_told v_t_taped v_t_at v_t_statements v_t_kept v_t_hasImage v_t_isKeeping v_t_cursor v_t_deep v_t_nextWhen v_t_many v_t_row v_t_rowMany v_t_lots) sz [.ref a_t, .int p1]) (xk_Q D (va_A (wX10 cA a_t a_t_refused a_t_kind a_t_figure a_t_cause a_t_tape a_t_letter a_t_letterAt a_t_told a_t_kept a_t_deep a_t_many a_t_row v_t_refused v_t_kind v_t_figure v_t_cause v_t_things v_t_day v_t_lost v_t_guarded v_t_tape v_t_letter v_t_letterAt v_t_told v_t_taped v_t_at v_t_statements v_t_kept v_t_hasImage v_t_isKeeping v_t_cursor v_t_deep v_t_nextWhen v_t_many v_t_row v_t_rowMany v_t_lots) sz) (some (.int res)) (wX10 cA a_t a_t_refused a_t_kind a_t_figure a_t_cause a_t_tape a_t_letter a_t_letterAt a_t_told a_t_kept a_t_deep a_t_many a_t_row v_t_refused v_t_kind v_t_figure v_t_cause v_t_things v_t_day v_t_lost v_t_guarded v_t_tape v_t_letter v_t_letterAt v_t_told v_t_taped v_t_at v_t_statements v_t_kept v_t_hasImage v_t_isKeeping v_t_cursor v_t_deep v_t_nextWhen v_t_many v_t_row v_t_rowMany v_t_lots)) 0 0 (va_A (wX10 cA a_t a_t_refused a_t_kind a_t_figure a_t_cause a_t_tape a_t_letter a_t_letterAt a_t_told a_t_kept a_t_deep a_t_many a_t_row v_t_refused v_t_kind v_t_figure v_t_cause v_t_things v_t_day v_t_lost v_t_guarded v_t_tape v_t_letter v_t_letterAt v_t_told v_t_taped v_t_at v_t_statements v_t_kept v_t_hasImage v_t_isKeeping v_t_cursor v_t_deep v_t_nextWhen v_t_many v_t_row v_t_rowMany v_t_lots) sz) := by
  refine xk_met (fun res : Int32 => some (.int res)) (fun res : Int32 => (wX10 cA a_t a_t_refused a_t_kind a_t_figure a_t_cause a_t_tape a_t_letter a_t_letterAt a_t_told a_t_kept a_t_deep a_t_many a_t_row v_t_refused v_t_kind v_t_figure v_t_cause v_t_things v_t_day v_t_lost v_t_guarded v_t_tape v_t_letter v_t_letterAt v_t_told v_t_taped v_t_at v_t_statements v_t_kept v_t_hasImage v_t_isKeeping v_t_cursor v_t_deep v_t_nextWhen v_t_many v_t_row v_t_rowMany v_t_lots)) res (cc := cX10_isThing) (maxL := 2) (ret := (some .boolean)) (by decide) rfl (Nat.le_of_ble_eq_true rfl) ?_
  intro p e s m args below meth c A Q ls hQ hx hb hr hlk hml hown hts hK hP hD hS hA hl
  have S : CallFix p m c cX10_isThing 2 s args wsX10_isThing RX10 := ⟨hx, hb, hml, hown, hts⟩
  have hl : lv_has ls 2 [(0, .ref a_t), (1, .int p1)] := hl
  have hinX10 : ∀ w ∈ u_ws RX10 TX10 25, w ∈ wsX10_isThing := fun _ h => List.mem_cons_of_mem _ (List.mem_append_right _ (h))
  have k_0 := hts (.fieldLink RX10 46 "NailsWantTheKingdomModel" "things" "I") (List.mem_of_getElem? (i := 1) (by decide +kernel))
  unfold f_X10_isThing at h
  refine lv_iload_n hx hb dX10_isThing_0 rfl (lv_at hl 1 rfl) ?_
  refine lv_if_lt (tgt := 16) hx hb dX10_isThing_1 (by decide) (fun c_1 => ?_) (fun c_1 => ?_)
  · have h := (if_pos c_1).symm.trans h
    refine lv_iconst (v := 0) hx hb dX10_isThing_16 (by decide) ?_
    obtain rfl := Option.some.inj h
    exact xk_zret rfl hx hb hr hlk hP hD hS (hQ _) dX10_isThing_17
  · have h := (if_neg c_1).symm.trans h
    refine lv_iload_n hx hb dX10_isThing_4 rfl (lv_at hl 1 rfl) ?_
    refine lv_aload_n hx hb dX10_isThing_5 rfl (lv_at hl 0 rfl) ?_
    refine va_get (ci := 5) (v := .int v_t_things) (C := RX10) (T := TX10) (N := 25) hx hb hts hinX10 hown hK.1 hP 0 rfl rfl 4 (by decide) k_0 (fun _ h9 => h9) rfl dX10_isThing_6 ?_
    refine lv_icmp_ge (tgt := 16) hx hb dX10_isThing_9 (by decide) (fun c_2 => ?_) (fun c_2 => ?_)
    · have h := (if_pos c_2).symm.trans h
      refine lv_iconst (v := 0) hx hb dX10_isThing_16 (by decide) ?_
      obtain rfl := Option.some.inj h
      exact xk_zret rfl hx hb hr hlk hP hD hS (hQ _) dX10_isThing_17
    · have h := (if_neg c_2).symm.trans h
      refine lv_iconst (v := 1) hx hb dX10_isThing_12 (by decide) ?_
      refine lv_goto (tgt := 17) hx hb dX10_isThing_13 (by decide) ?_
      obtain rfl := Option.some.inj h
      exact xk_zret rfl hx hb hr hlk hP hD hS (hQ _) dX10_isThing_17
set_option maxHeartbeats 4000000 in
set_option maxRecDepth 100000 in
theorem c_X10_all (l : Launch) (D : va_G) (cA : ClassId) (sa sv : Nat → Nat) (a_t a_t_refused a_t_kind a_t_figure a_t_cause a_t_tape a_t_letter a_t_letterAt a_t_told a_t_kept a_t_deep a_t_many a_t_row : Nat) (sz : Nat) (v_t_refused : Nat → Int32) (v_t_kind : Nat → Int32) (v_t_figure : Nat → Int32) (v_t_cause : Nat → Int32) (v_t_things : Int32) (v_t_day : Int32) (v_t_lost : Int32) (v_t_guarded : Int32) (v_t_tape : Nat → Int32) (v_t_letter : Nat → Int32) (v_t_letterAt : Nat → Int32) (v_t_told : Nat → Int32) (v_t_taped : Int32) (v_t_at : Int32) (v_t_statements : Int32) (v_t_kept : Nat → Int32) (v_t_hasImage : Int32) (v_t_isKeeping : Int32) (v_t_cursor : Int32) (v_t_deep : Nat → Int32) (v_t_nextWhen : Int32) (v_t_many : Nat → Int32) (v_t_row : Nat → Int32) (v_t_rowMany : Int32) (v_t_lots : Int32) (res : Int32) (h : f_X10_all v_t_things  = some res) : Met l yX10_all wsX10_all { frames := 0, cells := 0, slots := 0, locals := 0 } (xk_Pc D cA sa sv (wX10 cA a_t a_t_refused a_t_kind a_t_figure a_t_cause a_t_tape a_t_letter a_t_letterAt a_t_told a_t_kept a_t_deep a_t_many a_t_row v_t_refused v_t_kind v_t_figure v_t_cause v_t_things v_t_day v_t_lost v_t_guarded v_t_tape v_t_letter v_t_letterAt v_t_told v_t_taped v_t_at v_t_statements v_t_kept v_t_hasImage v_t_isKeeping v_t_cursor v_t_deep v_t_nextWhen v_t_many v_t_row v_t_rowMany v_t_lots) sz [.ref a_t]) (xk_Q D (va_A (wX10 cA a_t a_t_refused a_t_kind a_t_figure a_t_cause a_t_tape a_t_letter a_t_letterAt a_t_told a_t_kept a_t_deep a_t_many a_t_row v_t_refused v_t_kind v_t_figure v_t_cause v_t_things v_t_day v_t_lost v_t_guarded v_t_tape v_t_letter v_t_letterAt v_t_told v_t_taped v_t_at v_t_statements v_t_kept v_t_hasImage v_t_isKeeping v_t_cursor v_t_deep v_t_nextWhen v_t_many v_t_row v_t_rowMany v_t_lots) sz) (some (.int res)) (wX10 cA a_t a_t_refused a_t_kind a_t_figure a_t_cause a_t_tape a_t_letter a_t_letterAt a_t_told a_t_kept a_t_deep a_t_many a_t_row v_t_refused v_t_kind v_t_figure v_t_cause v_t_things v_t_day v_t_lost v_t_guarded v_t_tape v_t_letter v_t_letterAt v_t_told v_t_taped v_t_at v_t_statements v_t_kept v_t_hasImage v_t_isKeeping v_t_cursor v_t_deep v_t_nextWhen v_t_many v_t_row v_t_rowMany v_t_lots)) 0 0 (va_A (wX10 cA a_t a_t_refused a_t_kind a_t_figure a_t_cause a_t_tape a_t_letter a_t_letterAt a_t_told a_t_kept a_t_deep a_t_many a_t_row v_t_refused v_t_kind v_t_figure v_t_cause v_t_things v_t_day v_t_lost v_t_guarded v_t_tape v_t_letter v_t_letterAt v_t_told v_t_taped v_t_at v_t_statements v_t_kept v_t_hasImage v_t_isKeeping v_t_cursor v_t_deep v_t_nextWhen v_t_many v_t_row v_t_rowMany v_t_lots) sz) := by
  refine xk_met (fun res : Int32 => some (.int res)) (fun res : Int32 => (wX10 cA a_t a_t_refused a_t_kind a_t_figure a_t_cause a_t_tape a_t_letter a_t_letterAt a_t_told a_t_kept a_t_deep a_t_many a_t_row v_t_refused v_t_kind v_t_figure v_t_cause v_t_things v_t_day v_t_lost v_t_guarded v_t_tape v_t_letter v_t_letterAt v_t_told v_t_taped v_t_at v_t_statements v_t_kept v_t_hasImage v_t_isKeeping v_t_cursor v_t_deep v_t_nextWhen v_t_many v_t_row v_t_rowMany v_t_lots)) res (cc := cX10_all) (maxL := 1) (ret := (some .int)) (by decide) rfl (Nat.le_of_ble_eq_true rfl) ?_
  intro p e s m args below meth c A Q ls hQ hx hb hr hlk hml hown hts hK hP hD hS hA hl
  have S : CallFix p m c cX10_all 1 s args wsX10_all RX10 := ⟨hx, hb, hml, hown, hts⟩
  have hl : lv_has ls 1 [(0, .ref a_t)] := hl
  have hinX10 : ∀ w ∈ u_ws RX10 TX10 25, w ∈ wsX10_all := fun _ h => List.mem_cons_of_mem _ (List.mem_append_right _ (h))
  have k_0 := hts (.fieldLink RX10 46 "NailsWantTheKingdomModel" "things" "I") (List.mem_of_getElem? (i := 1) (by decide +kernel))
  unfold f_X10_all at h
  refine lv_iconst (v := 1) hx hb dX10_all_0 (by decide) ?_
  refine lv_aload_n hx hb dX10_all_1 rfl (lv_at hl 0 rfl) ?_
  refine va_get (ci := 5) (v := .int v_t_things) (C := RX10) (T := TX10) (N := 25) hx hb hts hinX10 hown hK.1 hP 0 rfl rfl 4 (by decide) k_0 (fun _ h9 => h9) rfl dX10_all_2 ?_
  refine lv_ishl hx hb dX10_all_5 ?_
  refine lv_iconst (v := 1) hx hb dX10_all_6 (by decide) ?_
  refine lv_isub hx hb dX10_all_7 ?_
  obtain rfl := Option.some.inj h
  exact xk_iret hx hb hr hlk hP hD hS (hQ _) dX10_all_8
set_option maxHeartbeats 4000000 in
set_option maxRecDepth 100000 in
theorem c_X10_letter (l : Launch) (D : va_G) (cA : ClassId) (sa sv : Nat → Nat) (a_t a_t_refused a_t_kind a_t_figure a_t_cause a_t_tape a_t_letter a_t_letterAt a_t_told a_t_kept a_t_deep a_t_many a_t_row : Nat) (sz : Nat) (v_t_refused : Nat → Int32) (v_t_kind : Nat → Int32) (v_t_figure : Nat → Int32) (v_t_cause : Nat → Int32) (v_t_things : Int32) (v_t_day : Int32) (v_t_lost : Int32) (v_t_guarded : Int32) (v_t_tape : Nat → Int32) (v_t_letter : Nat → Int32) (v_t_letterAt : Nat → Int32) (v_t_told : Nat → Int32) (v_t_taped : Int32) (v_t_at : Int32) (v_t_statements : Int32) (v_t_kept : Nat → Int32) (v_t_hasImage : Int32) (v_t_isKeeping : Int32) (v_t_cursor : Int32) (v_t_deep : Nat → Int32) (v_t_nextWhen : Int32) (v_t_many : Nat → Int32) (v_t_row : Nat → Int32) (v_t_rowMany : Int32) (v_t_lots : Int32) (p1 : Int32) (res : Int32 × (Nat → Int32) × (Nat → Int32) × Int32) (h : f_X10_letter v_t_refused v_t_tape v_t_taped p1 = some res) : Met l yX10_letter wsX10_letter { frames := 1, cells := 0, slots := 0, locals := 22 } (xk_Pc D cA sa sv (wX10 cA a_t a_t_refused a_t_kind a_t_figure a_t_cause a_t_tape a_t_letter a_t_letterAt a_t_told a_t_kept a_t_deep a_t_many a_t_row v_t_refused v_t_kind v_t_figure v_t_cause v_t_things v_t_day v_t_lost v_t_guarded v_t_tape v_t_letter v_t_letterAt v_t_told v_t_taped v_t_at v_t_statements v_t_kept v_t_hasImage v_t_isKeeping v_t_cursor v_t_deep v_t_nextWhen v_t_many v_t_row v_t_rowMany v_t_lots) sz [.ref a_t, .int p1]) (xk_Q D (va_A (wX10 cA a_t a_t_refused a_t_kind a_t_figure a_t_cause a_t_tape a_t_letter a_t_letterAt a_t_told a_t_kept a_t_deep a_t_many a_t_row v_t_refused v_t_kind v_t_figure v_t_cause v_t_things v_t_day v_t_lost v_t_guarded v_t_tape v_t_letter v_t_letterAt v_t_told v_t_taped v_t_at v_t_statements v_t_kept v_t_hasImage v_t_isKeeping v_t_cursor v_t_deep v_t_nextWhen v_t_many v_t_row v_t_rowMany v_t_lots) sz) (some (.int res.1)) (wX10 cA a_t a_t_refused a_t_kind a_t_figure a_t_cause a_t_tape a_t_letter a_t_letterAt a_t_told a_t_kept a_t_deep a_t_many a_t_row res.2.1 v_t_kind v_t_figure v_t_cause v_t_things v_t_day v_t_lost v_t_guarded res.2.2.1 v_t_letter v_t_letterAt v_t_told res.2.2.2 v_t_at v_t_statements v_t_kept v_t_hasImage v_t_isKeeping v_t_cursor v_t_deep v_t_nextWhen v_t_many v_t_row v_t_rowMany v_t_lots)) 0 0 (va_A (wX10 cA a_t a_t_refused a_t_kind a_t_figure a_t_cause a_t_tape a_t_letter a_t_letterAt a_t_told a_t_kept a_t_deep a_t_many a_t_row v_t_refused v_t_kind v_t_figure v_t_cause v_t_things v_t_day v_t_lost v_t_guarded v_t_tape v_t_letter v_t_letterAt v_t_told v_t_taped v_t_at v_t_statements v_t_kept v_t_hasImage v_t_isKeeping v_t_cursor v_t_deep v_t_nextWhen v_t_many v_t_row v_t_rowMany v_t_lots) sz) := by
  refine xk_met (fun res : Int32 × (Nat → Int32) × (Nat → Int32) × Int32 => some (.int res.1)) (fun res : Int32 × (Nat → Int32) × (Nat → Int32) × Int32 => (wX10 cA a_t a_t_refused a_t_kind a_t_figure a_t_cause a_t_tape a_t_letter a_t_letterAt a_t_told a_t_kept a_t_deep a_t_many a_t_row res.2.1 v_t_kind v_t_figure v_t_cause v_t_things v_t_day v_t_lost v_t_guarded res.2.2.1 v_t_letter v_t_letterAt v_t_told res.2.2.2 v_t_at v_t_statements v_t_kept v_t_hasImage v_t_isKeeping v_t_cursor v_t_deep v_t_nextWhen v_t_many v_t_row v_t_rowMany v_t_lots)) res (cc := cX10_letter) (maxL := 3) (ret := (some .int)) (by decide) rfl (Nat.le_of_ble_eq_true rfl) ?_
  intro p e s m args below meth c A Q ls hQ hx hb hr hlk hml hown hts hK hP hD hS hA hl
  have S : CallFix p m c cX10_letter 3 s args wsX10_letter RX10 := ⟨hx, hb, hml, hown, hts⟩
  have hl : lv_has ls 3 [(0, .ref a_t), (1, .int p1)] := hl
  have hinX10 : ∀ w ∈ u_ws RX10 TX10 25, w ∈ wsX10_letter := fun _ h => List.mem_cons_of_mem _ (List.mem_append_right _ (h))
  have k_0 := hts (.fieldLink RX10 22 "NailsWantTheKingdomModel" "tape" "[I") (List.mem_of_getElem? (i := 2) (by decide +kernel))
  have k_1 := hts (.fieldLink RX10 60 "NailsWantTheKingdomModel" "taped" "I") (List.mem_of_getElem? (i := 1) (by decide +kernel))
  have J_25 : ∀ (x2 : Int32) (v_t_refused : Nat → Int32) (v_t_tape : Nat → Int32) (v_t_taped : Int32) (res : Int32 × (Nat → Int32) × (Nat → Int32) × Int32), f_X10_letter_25 p1 x2 v_t_refused v_t_tape v_t_taped = some res → ∀ (H : Heap) (locs : List Loc) (ls : Array Slot), va_P D vwCl (wX10 cA a_t a_t_refused a_t_kind a_t_figure a_t_cause a_t_tape a_t_letter a_t_letterAt a_t_told a_t_kept a_t_deep a_t_many a_t_row v_t_refused v_t_kind v_t_figure v_t_cause v_t_things v_t_day v_t_lost v_t_guarded v_t_tape v_t_letter v_t_letterAt v_t_told v_t_taped v_t_at v_t_statements v_t_kept v_t_hasImage v_t_isKeeping v_t_cursor v_t_deep v_t_nextWhen v_t_many v_t_row v_t_rowMany v_t_lots) H → va_D A (wX10 cA a_t a_t_refused a_t_kind a_t_figure a_t_cause a_t_tape a_t_letter a_t_letterAt a_t_told a_t_kept a_t_deep a_t_many a_t_row v_t_refused v_t_kind v_t_figure v_t_cause v_t_things v_t_day v_t_lost v_t_guarded v_t_tape v_t_letter v_t_letterAt v_t_told v_t_taped v_t_at v_t_statements v_t_kept v_t_hasImage v_t_isKeeping v_t_cursor v_t_deep v_t_nextWhen v_t_many v_t_row v_t_rowMany v_t_lots) → va_S A s.heap H locs → lv_has ls 3 [(0, .ref a_t), (1, .int p1), (2, .int x2)] → W p l e { frames := 1, cells := 0, slots := 0, locals := 22 } s m args below meth c H locs 0 0 (Q res) (F0 m 25 ls []) := by
    intro x2 v_t_refused v_t_tape v_t_taped res h H locs ls hP hD hS hl
    unfold f_X10_letter_25 at h
    refine lv_iload_n hx hb dX10_letter_25 rfl (lv_at hl 2 rfl) ?_
    refine lv_if_eq (tgt := 35) hx hb dX10_letter_26 (by decide) (fun c_3 => ?_) (fun c_3 => ?_)
    · have h := (if_pos c_3).symm.trans h
      refine lv_aload_n hx hb dX10_letter_35 rfl (lv_at hl 0 rfl) ?_
      refine va_get (ci := 5) (v := .ref a_t_tape) (C := RX10) (T := TX10) (N := 25) hx hb hts hinX10 hown hK.1 hP 0 rfl rfl 8 (by decide) k_0 (fun _ h9 => h9) rfl dX10_letter_36 ?_
      refine lv_aload_n hx hb dX10_letter_39 rfl (lv_at hl 0 rfl) ?_
      refine va_get (ci := 5) (v := .int v_t_taped) (C := RX10) (T := TX10) (N := 25) hx hb hts hinX10 hown hK.1 hP 0 rfl rfl 12 (by decide) k_1 (fun _ h9 => h9) rfl dX10_letter_40 ?_
      refine lv_iload_n hx hb dX10_letter_43 rfl (lv_at hl 1 rfl) ?_
      obtain ⟨i_4, h⟩ := xa_some h
      refine va_iast hx hb hK.1 hP hD hS 5 0 rfl rfl i_4 dX10_letter_44 (fun H locs hP hD hS => ?_)
      have hP : va_P D vwCl (wX10 cA a_t a_t_refused a_t_kind a_t_figure a_t_cause a_t_tape a_t_letter a_t_letterAt a_t_told a_t_kept a_t_deep a_t_many a_t_row v_t_refused v_t_kind v_t_figure v_t_cause v_t_things v_t_day v_t_lost v_t_guarded (upd v_t_tape (Int32.toNatClampNeg v_t_taped) p1) v_t_letter v_t_letterAt v_t_told v_t_taped v_t_at v_t_statements v_t_kept v_t_hasImage v_t_isKeeping v_t_cursor v_t_deep v_t_nextWhen v_t_many v_t_row v_t_rowMany v_t_lots) H := hP
      have hD : va_D A (wX10 cA a_t a_t_refused a_t_kind a_t_figure a_t_cause a_t_tape a_t_letter a_t_letterAt a_t_told a_t_kept a_t_deep a_t_many a_t_row v_t_refused v_t_kind v_t_figure v_t_cause v_t_things v_t_day v_t_lost v_t_guarded (upd v_t_tape (Int32.toNatClampNeg v_t_taped) p1) v_t_letter v_t_letterAt v_t_told v_t_taped v_t_at v_t_statements v_t_kept v_t_hasImage v_t_isKeeping v_t_cursor v_t_deep v_t_nextWhen v_t_many v_t_row v_t_rowMany v_t_lots) := hD
      refine lv_aload_n hx hb dX10_letter_45 rfl (lv_at hl 0 rfl) ?_
      refine lv_dup hx hb dX10_letter_46 rfl ?_
      refine va_get (ci := 5) (v := .int v_t_taped) (C := RX10) (T := TX10) (N := 25) hx hb hts hinX10 hown hK.1 hP 0 rfl rfl 12 (by decide) k_1 (fun _ h9 => h9) rfl dX10_letter_47 ?_
      refine lv_iconst (v := 1) hx hb dX10_letter_50 (by decide) ?_
      refine lv_iadd hx hb dX10_letter_51 ?_
      refine va_put (ci := 5) (v := .int (v_t_taped + 1)) (ty := tyX10 12) (C := RX10) (T := TX10) (N := 25) hx hb hts hinX10 tyX10 tyX10_ok nmX10 hown hK.1 hP hD hS 0 rfl rfl 12 (by decide) k_1 (fun _ h9 => h9) rfl (tyX10_ok 12 (by decide)) rfl rfl (Nat.le_of_ble_eq_true rfl) dX10_letter_52 (fun H locs hP hD hS => ?_)
      have hP : va_P D vwCl (wX10 cA a_t a_t_refused a_t_kind a_t_figure a_t_cause a_t_tape a_t_letter a_t_letterAt a_t_told a_t_kept a_t_deep a_t_many a_t_row v_t_refused v_t_kind v_t_figure v_t_cause v_t_things v_t_day v_t_lost v_t_guarded (upd v_t_tape (Int32.toNatClampNeg v_t_taped) p1) v_t_letter v_t_letterAt v_t_told (v_t_taped + 1) v_t_at v_t_statements v_t_kept v_t_hasImage v_t_isKeeping v_t_cursor v_t_deep v_t_nextWhen v_t_many v_t_row v_t_rowMany v_t_lots) H := hP
      have hD : va_D A (wX10 cA a_t a_t_refused a_t_kind a_t_figure a_t_cause a_t_tape a_t_letter a_t_letterAt a_t_told a_t_kept a_t_deep a_t_many a_t_row v_t_refused v_t_kind v_t_figure v_t_cause v_t_things v_t_day v_t_lost v_t_guarded (upd v_t_tape (Int32.toNatClampNeg v_t_taped) p1) v_t_letter v_t_letterAt v_t_told (v_t_taped + 1) v_t_at v_t_statements v_t_kept v_t_hasImage v_t_isKeeping v_t_cursor v_t_deep v_t_nextWhen v_t_many v_t_row v_t_rowMany v_t_lots) := hD
      refine lv_aload_n hx hb dX10_letter_55 rfl (lv_at hl 0 rfl) ?_
      refine va_get (ci := 5) (v := .int (v_t_taped + 1)) (C := RX10) (T := TX10) (N := 25) hx hb hts hinX10 hown hK.1 hP 0 rfl rfl 12 (by decide) k_1 (fun _ h9 => h9) rfl dX10_letter_56 ?_
      obtain rfl := Option.some.inj h
      exact xk_iret hx hb hr hlk hP hD hS (hQ _) dX10_letter_59
    · have h := (if_neg c_3).symm.trans h
      refine lv_aload_n hx hb dX10_letter_29 rfl (lv_at hl 0 rfl) ?_
      refine lv_iload_n hx hb dX10_letter_30 rfl (lv_at hl 2 rfl) ?_
      obtain ⟨x_5, hc_5, h⟩ := bd_some h
      refine xk_V (rest := []) (As := [.int x2]) (stk := [.int x_5.1]) (wn := (wX10 cA a_t a_t_refused a_t_kind a_t_figure a_t_cause a_t_tape a_t_letter a_t_letterAt a_t_told a_t_kept a_t_deep a_t_many a_t_row x_5.2 v_t_kind v_t_figure v_t_cause v_t_things v_t_day v_t_lost v_t_guarded v_t_tape v_t_letter v_t_letterAt v_t_told v_t_taped v_t_at v_t_statements v_t_kept v_t_hasImage v_t_isKeeping v_t_cursor v_t_deep v_t_nextWhen v_t_many v_t_row v_t_rowMany v_t_lots)) (v := (some (.int x_5.1))) (wr := []) gX10_letter_X10_no rfl hdV_X10_no rfl rfl (c_X10_no l D cA sa sv a_t a_t_refused a_t_kind a_t_figure a_t_cause a_t_tape a_t_letter a_t_letterAt a_t_told a_t_kept a_t_deep a_t_many a_t_row _ v_t_refused v_t_kind v_t_figure v_t_cause v_t_things v_t_day v_t_lost v_t_guarded v_t_tape v_t_letter v_t_letterAt v_t_told v_t_taped v_t_at v_t_statements v_t_kept v_t_hasImage v_t_isKeeping v_t_cursor v_t_deep v_t_nextWhen v_t_many v_t_row v_t_rowMany v_t_lots x2 x_5 hc_5) (ci := 5) rfl (q0 := 0) rfl S hK hP hD hS hA [0, 1, 2, 3, 4, 5, 6, 7, 8, 9, 10, 11, 12] [] [0, 1, 2, 3, 4, 5, 6, 7, 8, 9, 10, 11, 12] rfl rfl rfl rfl rfl rfl rfl ⟨Nat.le_of_ble_eq_true rfl, Nat.le_of_ble_eq_true rfl⟩ ⟨Nat.le_refl 0, Nat.le_refl 0⟩ rfl hl.1 rfl (Nat.le_of_ble_eq_true rfl) rfl dX10_letter_31 (fun H locs hP hD hS => ?_)
      obtain rfl := Option.some.inj h
      exact xk_iret hx hb hr hlk hP hD hS (hQ _) dX10_letter_34
  unfold f_X10_letter at h
  refine lv_iload_n hx hb dX10_letter_0 rfl (lv_at hl 1 rfl) ?_
  refine lv_iconst (v := 0) hx hb dX10_letter_1 (by decide) ?_
  refine lv_sipush (v := 255) hx hb dX10_letter_2 (by decide) ?_
  obtain ⟨x_1, hc_1, h⟩ := bd_some h
  refine xk_S (rest := []) (As := [.int p1, .int 0, .int 255]) (stk := [.int x_1]) (wn := (wX10 cA a_t a_t_refused a_t_kind a_t_figure a_t_cause a_t_tape a_t_letter a_t_letterAt a_t_told a_t_kept a_t_deep a_t_many a_t_row v_t_refused v_t_kind v_t_figure v_t_cause v_t_things v_t_day v_t_lost v_t_guarded v_t_tape v_t_letter v_t_letterAt v_t_told v_t_taped v_t_at v_t_statements v_t_kept v_t_hasImage v_t_isKeeping v_t_cursor v_t_deep v_t_nextWhen v_t_many v_t_row v_t_rowMany v_t_lots)) (v := (some (.int x_1))) (wr := [(a_t, .inr (5, [.ref a_t_refused, .ref a_t_kind, .ref a_t_figure, .ref a_t_cause, .int v_t_things, .int v_t_day, .int v_t_lost, .int v_t_guarded, .ref a_t_tape, .ref a_t_letter, .ref a_t_letterAt, .ref a_t_told, .int v_t_taped, .int v_t_at, .int v_t_statements, .ref a_t_kept, .int v_t_hasImage, .int v_t_isKeeping, .int v_t_cursor, .ref a_t_deep, .int v_t_nextWhen, .ref a_t_many, .ref a_t_row, .int v_t_rowMany, .int v_t_lots])), (a_t_refused, .inl (cA, 7, .inl v_t_refused)), (a_t_kind, .inl (cA, 9, .inl v_t_kind)), (a_t_figure, .inl (cA, 9, .inl v_t_figure)), (a_t_cause, .inl (cA, 9, .inl v_t_cause)), (a_t_tape, .inl (cA, 96, .inl v_t_tape)), (a_t_letter, .inl (cA, 48, .inl v_t_letter)), (a_t_letterAt, .inl (cA, 48, .inl v_t_letterAt)), (a_t_told, .inl (cA, 96, .inl v_t_told)), (a_t_kept, .inl (cA, 93, .inl v_t_kept)), (a_t_deep, .inl (cA, 9, .inl v_t_deep)), (a_t_many, .inl (cA, 4, .inl v_t_many)), (a_t_row, .inl (cA, 16, .inl v_t_row))]) gX10_letter_X10_bound rfl hdS_X10_bound rfl rfl (c_X10_bound l D cA sa sv _ p1 0 255 x_1 hc_1) S hK hP hD hS hA [] [0, 1, 2, 3, 4, 5, 6, 7, 8, 9, 10, 11, 12] [0, 1, 2, 3, 4, 5, 6, 7, 8, 9, 10, 11, 12] rfl rfl rfl rfl rfl rfl rfl ⟨Nat.le_of_ble_eq_true rfl, Nat.le_of_ble_eq_true rfl⟩ ⟨Nat.le_refl 0, Nat.le_refl 0⟩ rfl hl.1 rfl (Nat.le_of_ble_eq_true rfl) rfl dX10_letter_5 (fun H locs hP hD hS => ?_)
  refine lv_istore_n (lv' := [(2, .int x_1), (0, .ref a_t), (1, .int p1)]) hx hb dX10_letter_8 rfl hl (by decide) rfl (fun ls hl => ?_)
  refine lv_iload_n hx hb dX10_letter_9 rfl (lv_at hl 0 rfl) ?_
  refine lv_if_ne (tgt := 25) hx hb dX10_letter_10 (by decide) (fun c_2 => ?_) (fun c_2 => ?_)
  · have h := (if_neg c_2).symm.trans h
    exact J_25 x_1 v_t_refused v_t_tape v_t_taped _ h _ _ _ hP hD hS (lv_sub hl [1, 2, 0] rfl)
  · have h := (if_pos c_2).symm.trans h
    refine lv_aload_n hx hb dX10_letter_13 rfl (lv_at hl 1 rfl) ?_
    refine va_get (ci := 5) (v := .int v_t_taped) (C := RX10) (T := TX10) (N := 25) hx hb hts hinX10 hown hK.1 hP 0 rfl rfl 12 (by decide) k_1 (fun _ h9 => h9) rfl dX10_letter_14 ?_
    refine lv_bipush (v := 96) hx hb dX10_letter_17 (by decide) ?_
    refine lv_icmp_ne (tgt := 25) hx hb dX10_letter_19 (by decide) (fun c_6 => ?_) (fun c_6 => ?_)
    · have h := (if_neg c_6).symm.trans h
      exact J_25 x_1 v_t_refused v_t_tape v_t_taped _ h _ _ _ hP hD hS (lv_sub hl [1, 2, 0] rfl)
    · have h := (if_pos c_6).symm.trans h
      refine lv_bipush (v := (-6)) hx hb dX10_letter_22 (by decide) ?_
      refine lv_istore_n (lv' := [(2, .int (-6)), (0, .ref a_t), (1, .int p1)]) hx hb dX10_letter_24 rfl hl (by decide) rfl (fun ls hl => ?_)
      exact J_25 (-6) v_t_refused v_t_tape v_t_taped _ h _ _ _ hP hD hS (lv_sub hl [1, 2, 0] rfl)
set_option maxHeartbeats 4000000 in
set_option maxRecDepth 100000 in
theorem c_X10_next (l : Launch) (D : va_G) (cA : ClassId) (sa sv : Nat → Nat) (a_t a_t_refused a_t_kind a_t_figure a_t_cause a_t_tape a_t_letter a_t_letterAt a_t_told a_t_kept a_t_deep a_t_many a_t_row : Nat) (sz : Nat) (v_t_refused : Nat → Int32) (v_t_kind : Nat → Int32) (v_t_figure : Nat → Int32) (v_t_cause : Nat → Int32) (v_t_things : Int32) (v_t_day : Int32) (v_t_lost : Int32) (v_t_guarded : Int32) (v_t_tape : Nat → Int32) (v_t_letter : Nat → Int32) (v_t_letterAt : Nat → Int32) (v_t_told : Nat → Int32) (v_t_taped : Int32) (v_t_at : Int32) (v_t_statements : Int32) (v_t_kept : Nat → Int32) (v_t_hasImage : Int32) (v_t_isKeeping : Int32) (v_t_cursor : Int32) (v_t_deep : Nat → Int32) (v_t_nextWhen : Int32) (v_t_many : Nat → Int32) (v_t_row : Nat → Int32) (v_t_rowMany : Int32) (v_t_lots : Int32) (res : Int32) (h : f_X10_next v_t_tape v_t_taped v_t_at  = some res) : Met l yX10_next wsX10_next { frames := 0, cells := 0, slots := 0, locals := 0 } (xk_Pc D cA sa sv (wX10 cA a_t a_t_refused a_t_kind a_t_figure a_t_cause a_t_tape a_t_letter a_t_letterAt a_t_told a_t_kept a_t_deep a_t_many a_t_row v_t_refused v_t_kind v_t_figure v_t_cause v_t_things v_t_day v_t_lost v_t_guarded v_t_tape v_t_letter v_t_letterAt v_t_told v_t_taped v_t_at v_t_statements v_t_kept v_t_hasImage v_t_isKeeping v_t_cursor v_t_deep v_t_nextWhen v_t_many v_t_row v_t_rowMany v_t_lots) sz [.ref a_t]) (xk_Q D (va_A (wX10 cA a_t a_t_refused a_t_kind a_t_figure a_t_cause a_t_tape a_t_letter a_t_letterAt a_t_told a_t_kept a_t_deep a_t_many a_t_row v_t_refused v_t_kind v_t_figure v_t_cause v_t_things v_t_day v_t_lost v_t_guarded v_t_tape v_t_letter v_t_letterAt v_t_told v_t_taped v_t_at v_t_statements v_t_kept v_t_hasImage v_t_isKeeping v_t_cursor v_t_deep v_t_nextWhen v_t_many v_t_row v_t_rowMany v_t_lots) sz) (some (.int res)) (wX10 cA a_t a_t_refused a_t_kind a_t_figure a_t_cause a_t_tape a_t_letter a_t_letterAt a_t_told a_t_kept a_t_deep a_t_many a_t_row v_t_refused v_t_kind v_t_figure v_t_cause v_t_things v_t_day v_t_lost v_t_guarded v_t_tape v_t_letter v_t_letterAt v_t_told v_t_taped v_t_at v_t_statements v_t_kept v_t_hasImage v_t_isKeeping v_t_cursor v_t_deep v_t_nextWhen v_t_many v_t_row v_t_rowMany v_t_lots)) 0 0 (va_A (wX10 cA a_t a_t_refused a_t_kind a_t_figure a_t_cause a_t_tape a_t_letter a_t_letterAt a_t_told a_t_kept a_t_deep a_t_many a_t_row v_t_refused v_t_kind v_t_figure v_t_cause v_t_things v_t_day v_t_lost v_t_guarded v_t_tape v_t_letter v_t_letterAt v_t_told v_t_taped v_t_at v_t_statements v_t_kept v_t_hasImage v_t_isKeeping v_t_cursor v_t_deep v_t_nextWhen v_t_many v_t_row v_t_rowMany v_t_lots) sz) := by
  refine xk_met (fun res : Int32 => some (.int res)) (fun res : Int32 => (wX10 cA a_t a_t_refused a_t_kind a_t_figure a_t_cause a_t_tape a_t_letter a_t_letterAt a_t_told a_t_kept a_t_deep a_t_many a_t_row v_t_refused v_t_kind v_t_figure v_t_cause v_t_things v_t_day v_t_lost v_t_guarded v_t_tape v_t_letter v_t_letterAt v_t_told v_t_taped v_t_at v_t_statements v_t_kept v_t_hasImage v_t_isKeeping v_t_cursor v_t_deep v_t_nextWhen v_t_many v_t_row v_t_rowMany v_t_lots)) res (cc := cX10_next) (maxL := 1) (ret := (some .int)) (by decide) rfl (Nat.le_of_ble_eq_true rfl) ?_
  intro p e s m args below meth c A Q ls hQ hx hb hr hlk hml hown hts hK hP hD hS hA hl
  have S : CallFix p m c cX10_next 1 s args wsX10_next RX10 := ⟨hx, hb, hml, hown, hts⟩
  have hl : lv_has ls 1 [(0, .ref a_t)] := hl
  have hinX10 : ∀ w ∈ u_ws RX10 TX10 25, w ∈ wsX10_next := fun _ h => List.mem_cons_of_mem _ (List.mem_append_right _ (h))
  have k_0 := hts (.fieldLink RX10 67 "NailsWantTheKingdomModel" "at" "I") (List.mem_of_getElem? (i := 1) (by decide +kernel))
  have k_1 := hts (.fieldLink RX10 60 "NailsWantTheKingdomModel" "taped" "I") (List.mem_of_getElem? (i := 2) (by decide +kernel))
  have k_2 := hts (.fieldLink RX10 22 "NailsWantTheKingdomModel" "tape" "[I") (List.mem_of_getElem? (i := 3) (by decide +kernel))
  unfold f_X10_next at h
  refine lv_aload_n hx hb dX10_next_0 rfl (lv_at hl 0 rfl) ?_
  refine va_get (ci := 5) (v := .int v_t_at) (C := RX10) (T := TX10) (N := 25) hx hb hts hinX10 hown hK.1 hP 0 rfl rfl 13 (by decide) k_0 (fun _ h9 => h9) rfl dX10_next_1 ?_
  refine lv_aload_n hx hb dX10_next_4 rfl (lv_at hl 0 rfl) ?_
  refine va_get (ci := 5) (v := .int v_t_taped) (C := RX10) (T := TX10) (N := 25) hx hb hts hinX10 hown hK.1 hP 0 rfl rfl 12 (by decide) k_1 (fun _ h9 => h9) rfl dX10_next_5 ?_
  refine lv_icmp_ge (tgt := 23) hx hb dX10_next_8 (by decide) (fun c_1 => ?_) (fun c_1 => ?_)
  · have h := (if_pos c_1).symm.trans h
    refine lv_iconst (v := (-1)) hx hb dX10_next_23 (by decide) ?_
    obtain rfl := Option.some.inj h
    exact xk_iret hx hb hr hlk hP hD hS (hQ _) dX10_next_24
  · have h := (if_neg c_1).symm.trans h
    refine lv_aload_n hx hb dX10_next_11 rfl (lv_at hl 0 rfl) ?_
    refine va_get (ci := 5) (v := .ref a_t_tape) (C := RX10) (T := TX10) (N := 25) hx hb hts hinX10 hown hK.1 hP 0 rfl rfl 8 (by decide) k_2 (fun _ h9 => h9) rfl dX10_next_12 ?_
    refine lv_aload_n hx hb dX10_next_15 rfl (lv_at hl 0 rfl) ?_
    refine va_get (ci := 5) (v := .int v_t_at) (C := RX10) (T := TX10) (N := 25) hx hb hts hinX10 hown hK.1 hP 0 rfl rfl 13 (by decide) k_0 (fun _ h9 => h9) rfl dX10_next_16 ?_
    obtain ⟨i_2, h⟩ := xa_some h
    refine va_iald hx hb hK.1 hP 5 0 rfl rfl i_2 dX10_next_19 ?_
    refine lv_goto (tgt := 24) hx hb dX10_next_20 (by decide) ?_
    obtain rfl := Option.some.inj h
    exact xk_iret hx hb hr hlk hP hD hS (hQ _) dX10_next_24
set_option maxHeartbeats 4000000 in
set_option maxRecDepth 100000 in
theorem c_X10_readsDigits (l : Launch) (D : va_G) (cA : ClassId) (sa sv : Nat → Nat) (a_t a_t_refused a_t_kind a_t_figure a_t_cause a_t_tape a_t_letter a_t_letterAt a_t_told a_t_kept a_t_deep a_t_many a_t_row : Nat) (sz : Nat) (v_t_refused : Nat → Int32) (v_t_kind : Nat → Int32) (v_t_figure : Nat → Int32) (v_t_cause : Nat → Int32) (v_t_things : Int32) (v_t_day : Int32) (v_t_lost : Int32) (v_t_guarded : Int32) (v_t_tape : Nat → Int32) (v_t_letter : Nat → Int32) (v_t_letterAt : Nat → Int32) (v_t_told : Nat → Int32) (v_t_taped : Int32) (v_t_at : Int32) (v_t_statements : Int32) (v_t_kept : Nat → Int32) (v_t_hasImage : Int32) (v_t_isKeeping : Int32) (v_t_cursor : Int32) (v_t_deep : Nat → Int32) (v_t_nextWhen : Int32) (v_t_many : Nat → Int32) (v_t_row : Nat → Int32) (v_t_rowMany : Int32) (v_t_lots : Int32) (p1 : Int32) (p2 : Int32) (F : Nat) (res : Int32 × (Nat → Int32) × Int32) (h : f_X10_readsDigits F v_t_tape v_t_told v_t_taped v_t_at p1 p2 = some res) : Met l yX10_readsDigits wsX10_readsDigits { frames := 1, cells := 0, slots := 0, locals := 22 } (xk_Pc D cA sa sv (wX10 cA a_t a_t_refused a_t_kind a_t_figure a_t_cause a_t_tape a_t_letter a_t_letterAt a_t_told a_t_kept a_t_deep a_t_many a_t_row v_t_refused v_t_kind v_t_figure v_t_cause v_t_things v_t_day v_t_lost v_t_guarded v_t_tape v_t_letter v_t_letterAt v_t_told v_t_taped v_t_at v_t_statements v_t_kept v_t_hasImage v_t_isKeeping v_t_cursor v_t_deep v_t_nextWhen v_t_many v_t_row v_t_rowMany v_t_lots) sz [.ref a_t, .int p1, .int p2]) (xk_Q D (va_A (wX10 cA a_t a_t_refused a_t_kind a_t_figure a_t_cause a_t_tape a_t_letter a_t_letterAt a_t_told a_t_kept a_t_deep a_t_many a_t_row v_t_refused v_t_kind v_t_figure v_t_cause v_t_things v_t_day v_t_lost v_t_guarded v_t_tape v_t_letter v_t_letterAt v_t_told v_t_taped v_t_at v_t_statements v_t_kept v_t_hasImage v_t_isKeeping v_t_cursor v_t_deep v_t_nextWhen v_t_many v_t_row v_t_rowMany v_t_lots) sz) (some (.int res.1)) (wX10 cA a_t a_t_refused a_t_kind a_t_figure a_t_cause a_t_tape a_t_letter a_t_letterAt a_t_told a_t_kept a_t_deep a_t_many a_t_row v_t_refused v_t_kind v_t_figure v_t_cause v_t_things v_t_day v_t_lost v_t_guarded v_t_tape v_t_letter v_t_letterAt res.2.1 v_t_taped res.2.2 v_t_statements v_t_kept v_t_hasImage v_t_isKeeping v_t_cursor v_t_deep v_t_nextWhen v_t_many v_t_row v_t_rowMany v_t_lots)) 0 0 (va_A (wX10 cA a_t a_t_refused a_t_kind a_t_figure a_t_cause a_t_tape a_t_letter a_t_letterAt a_t_told a_t_kept a_t_deep a_t_many a_t_row v_t_refused v_t_kind v_t_figure v_t_cause v_t_things v_t_day v_t_lost v_t_guarded v_t_tape v_t_letter v_t_letterAt v_t_told v_t_taped v_t_at v_t_statements v_t_kept v_t_hasImage v_t_isKeeping v_t_cursor v_t_deep v_t_nextWhen v_t_many v_t_row v_t_rowMany v_t_lots) sz) := by
  refine xk_met (fun res : Int32 × (Nat → Int32) × Int32 => some (.int res.1)) (fun res : Int32 × (Nat → Int32) × Int32 => (wX10 cA a_t a_t_refused a_t_kind a_t_figure a_t_cause a_t_tape a_t_letter a_t_letterAt a_t_told a_t_kept a_t_deep a_t_many a_t_row v_t_refused v_t_kind v_t_figure v_t_cause v_t_things v_t_day v_t_lost v_t_guarded v_t_tape v_t_letter v_t_letterAt res.2.1 v_t_taped res.2.2 v_t_statements v_t_kept v_t_hasImage v_t_isKeeping v_t_cursor v_t_deep v_t_nextWhen v_t_many v_t_row v_t_rowMany v_t_lots)) res (cc := cX10_readsDigits) (maxL := 5) (ret := (some .boolean)) (by decide) rfl (Nat.le_of_ble_eq_true rfl) ?_
  intro p e s m args below meth c A Q ls hQ hx hb hr hlk hml hown hts hK hP hD hS hA hl
  have S : CallFix p m c cX10_readsDigits 5 s args wsX10_readsDigits RX10 := ⟨hx, hb, hml, hown, hts⟩
  have hl : lv_has ls 5 [(0, .ref a_t), (1, .int p1), (2, .int p2)] := hl
  have hinX10 : ∀ w ∈ u_ws RX10 TX10 25, w ∈ wsX10_readsDigits := fun _ h => List.mem_cons_of_mem _ (List.mem_append_right _ (h))
  have k_0 := hts (.fieldLink RX10 31 "NailsWantTheKingdomModel" "told" "[I") (List.mem_of_getElem? (i := 2) (by decide +kernel))
  have k_1 := hts (.fieldLink RX10 67 "NailsWantTheKingdomModel" "at" "I") (List.mem_of_getElem? (i := 1) (by decide +kernel))
  have J_5 : ∀ (n : Nat) (x3 : Int32) (x4 : Int32) (v_t_told : Nat → Int32) (v_t_at : Int32) (res : Int32 × (Nat → Int32) × Int32), f_X10_readsDigits_5 F v_t_tape v_t_taped p1 p2 n x3 x4 v_t_told v_t_at = some res → ∀ (H : Heap) (locs : List Loc) (ls : Array Slot), va_P D vwCl (wX10 cA a_t a_t_refused a_t_kind a_t_figure a_t_cause a_t_tape a_t_letter a_t_letterAt a_t_told a_t_kept a_t_deep a_t_many a_t_row v_t_refused v_t_kind v_t_figure v_t_cause v_t_things v_t_day v_t_lost v_t_guarded v_t_tape v_t_letter v_t_letterAt v_t_told v_t_taped v_t_at v_t_statements v_t_kept v_t_hasImage v_t_isKeeping v_t_cursor v_t_deep v_t_nextWhen v_t_many v_t_row v_t_rowMany v_t_lots) H → va_D A (wX10 cA a_t a_t_refused a_t_kind a_t_figure a_t_cause a_t_tape a_t_letter a_t_letterAt a_t_told a_t_kept a_t_deep a_t_many a_t_row v_t_refused v_t_kind v_t_figure v_t_cause v_t_things v_t_day v_t_lost v_t_guarded v_t_tape v_t_letter v_t_letterAt v_t_told v_t_taped v_t_at v_t_statements v_t_kept v_t_hasImage v_t_isKeeping v_t_cursor v_t_deep v_t_nextWhen v_t_many v_t_row v_t_rowMany v_t_lots) → va_S A s.heap H locs → lv_has ls 5 [(0, .ref a_t), (1, .int p1), (2, .int p2), (3, .int x3), (4, .int x4)] → W p l e { frames := 1, cells := 0, slots := 0, locals := 22 } s m args below meth c H locs 0 0 (Q res) (F0 m 5 ls []) := by
    intro n
    induction n with
    | zero => intro x3 x4 v_t_told v_t_at res h; exact nomatch (show (none : Option (Int32 × (Nat → Int32) × Int32)) = some res from h)
    | succ n ih =>
      intro x3 x4 v_t_told v_t_at res h H locs ls hP hD hS hl
      rw [f_X10_readsDigits_5] at h
      refine lv_iload hx hb dX10_readsDigits_5 (lv_at hl 4 rfl) ?_
      refine lv_iload_n hx hb dX10_readsDigits_7 rfl (lv_at hl 2 rfl) ?_
      refine lv_icmp_ge (tgt := 56) hx hb dX10_readsDigits_8 (by decide) (fun c_1 => ?_) (fun c_1 => ?_)
      · have h := (if_pos c_1).symm.trans h
        refine lv_aload_n hx hb dX10_readsDigits_56 rfl (lv_at hl 0 rfl) ?_
        refine va_get (ci := 5) (v := .ref a_t_told) (C := RX10) (T := TX10) (N := 25) hx hb hts hinX10 hown hK.1 hP 0 rfl rfl 11 (by decide) k_0 (fun _ h9 => h9) rfl dX10_readsDigits_57 ?_
        refine lv_iload_n hx hb dX10_readsDigits_60 rfl (lv_at hl 1 rfl) ?_
        refine lv_iload_n hx hb dX10_readsDigits_61 rfl (lv_at hl 3 rfl) ?_
        obtain ⟨i_2, h⟩ := xa_some h
        refine va_iast hx hb hK.1 hP hD hS 8 0 rfl rfl i_2 dX10_readsDigits_62 (fun H locs hP hD hS => ?_)
        have hP : va_P D vwCl (wX10 cA a_t a_t_refused a_t_kind a_t_figure a_t_cause a_t_tape a_t_letter a_t_letterAt a_t_told a_t_kept a_t_deep a_t_many a_t_row v_t_refused v_t_kind v_t_figure v_t_cause v_t_things v_t_day v_t_lost v_t_guarded v_t_tape v_t_letter v_t_letterAt (upd v_t_told (Int32.toNatClampNeg p1) x3) v_t_taped v_t_at v_t_statements v_t_kept v_t_hasImage v_t_isKeeping v_t_cursor v_t_deep v_t_nextWhen v_t_many v_t_row v_t_rowMany v_t_lots) H := hP
        have hD : va_D A (wX10 cA a_t a_t_refused a_t_kind a_t_figure a_t_cause a_t_tape a_t_letter a_t_letterAt a_t_told a_t_kept a_t_deep a_t_many a_t_row v_t_refused v_t_kind v_t_figure v_t_cause v_t_things v_t_day v_t_lost v_t_guarded v_t_tape v_t_letter v_t_letterAt (upd v_t_told (Int32.toNatClampNeg p1) x3) v_t_taped v_t_at v_t_statements v_t_kept v_t_hasImage v_t_isKeeping v_t_cursor v_t_deep v_t_nextWhen v_t_many v_t_row v_t_rowMany v_t_lots) := hD
        refine lv_iconst (v := 1) hx hb dX10_readsDigits_63 (by decide) ?_
        obtain rfl := Option.some.inj h
        exact xk_zret rfl hx hb hr hlk hP hD hS (hQ _) dX10_readsDigits_64
      · have h := (if_neg c_1).symm.trans h
        refine lv_aload_n hx hb dX10_readsDigits_11 rfl (lv_at hl 0 rfl) ?_
        obtain ⟨x_3, hc_3, h⟩ := bd_some h
        refine xk_V (rest := []) (As := []) (stk := [.int x_3]) (wn := (wX10 cA a_t a_t_refused a_t_kind a_t_figure a_t_cause a_t_tape a_t_letter a_t_letterAt a_t_told a_t_kept a_t_deep a_t_many a_t_row v_t_refused v_t_kind v_t_figure v_t_cause v_t_things v_t_day v_t_lost v_t_guarded v_t_tape v_t_letter v_t_letterAt v_t_told v_t_taped v_t_at v_t_statements v_t_kept v_t_hasImage v_t_isKeeping v_t_cursor v_t_deep v_t_nextWhen v_t_many v_t_row v_t_rowMany v_t_lots)) (v := (some (.int x_3))) (wr := []) gX10_readsDigits_X10_next rfl hdV_X10_next rfl rfl (c_X10_next l D cA sa sv a_t a_t_refused a_t_kind a_t_figure a_t_cause a_t_tape a_t_letter a_t_letterAt a_t_told a_t_kept a_t_deep a_t_many a_t_row _ v_t_refused v_t_kind v_t_figure v_t_cause v_t_things v_t_day v_t_lost v_t_guarded v_t_tape v_t_letter v_t_letterAt v_t_told v_t_taped v_t_at v_t_statements v_t_kept v_t_hasImage v_t_isKeeping v_t_cursor v_t_deep v_t_nextWhen v_t_many v_t_row v_t_rowMany v_t_lots x_3 hc_3) (ci := 5) rfl (q0 := 0) rfl S hK hP hD hS hA [0, 1, 2, 3, 4, 5, 6, 7, 8, 9, 10, 11, 12] [] [0, 1, 2, 3, 4, 5, 6, 7, 8, 9, 10, 11, 12] rfl rfl rfl rfl rfl rfl rfl ⟨Nat.le_of_ble_eq_true rfl, Nat.le_of_ble_eq_true rfl⟩ ⟨Nat.le_refl 0, Nat.le_refl 0⟩ rfl hl.1 rfl (Nat.le_of_ble_eq_true rfl) rfl dX10_readsDigits_12 (fun H locs hP hD hS => ?_)
        refine lv_bipush (v := 48) hx hb dX10_readsDigits_15 (by decide) ?_
        refine lv_bipush (v := 57) hx hb dX10_readsDigits_17 (by decide) ?_
        obtain ⟨x_4, hc_4, h⟩ := bd_some h
        refine xk_S (rest := []) (As := [.int x_3, .int 48, .int 57]) (stk := [.int x_4]) (wn := (wX10 cA a_t a_t_refused a_t_kind a_t_figure a_t_cause a_t_tape a_t_letter a_t_letterAt a_t_told a_t_kept a_t_deep a_t_many a_t_row v_t_refused v_t_kind v_t_figure v_t_cause v_t_things v_t_day v_t_lost v_t_guarded v_t_tape v_t_letter v_t_letterAt v_t_told v_t_taped v_t_at v_t_statements v_t_kept v_t_hasImage v_t_isKeeping v_t_cursor v_t_deep v_t_nextWhen v_t_many v_t_row v_t_rowMany v_t_lots)) (v := (some (.int x_4))) (wr := [(a_t, .inr (5, [.ref a_t_refused, .ref a_t_kind, .ref a_t_figure, .ref a_t_cause, .int v_t_things, .int v_t_day, .int v_t_lost, .int v_t_guarded, .ref a_t_tape, .ref a_t_letter, .ref a_t_letterAt, .ref a_t_told, .int v_t_taped, .int v_t_at, .int v_t_statements, .ref a_t_kept, .int v_t_hasImage, .int v_t_isKeeping, .int v_t_cursor, .ref a_t_deep, .int v_t_nextWhen, .ref a_t_many, .ref a_t_row, .int v_t_rowMany, .int v_t_lots])), (a_t_refused, .inl (cA, 7, .inl v_t_refused)), (a_t_kind, .inl (cA, 9, .inl v_t_kind)), (a_t_figure, .inl (cA, 9, .inl v_t_figure)), (a_t_cause, .inl (cA, 9, .inl v_t_cause)), (a_t_tape, .inl (cA, 96, .inl v_t_tape)), (a_t_letter, .inl (cA, 48, .inl v_t_letter)), (a_t_letterAt, .inl (cA, 48, .inl v_t_letterAt)), (a_t_told, .inl (cA, 96, .inl v_t_told)), (a_t_kept, .inl (cA, 93, .inl v_t_kept)), (a_t_deep, .inl (cA, 9, .inl v_t_deep)), (a_t_many, .inl (cA, 4, .inl v_t_many)), (a_t_row, .inl (cA, 16, .inl v_t_row))]) gX10_readsDigits_X10_isIn rfl hdS_X10_isIn rfl rfl (c_X10_isIn l D cA sa sv _ x_3 48 57 x_4 hc_4) S hK hP hD hS hA [] [0, 1, 2, 3, 4, 5, 6, 7, 8, 9, 10, 11, 12] [0, 1, 2, 3, 4, 5, 6, 7, 8, 9, 10, 11, 12] rfl rfl rfl rfl rfl rfl rfl ⟨Nat.le_of_ble_eq_true rfl, Nat.le_of_ble_eq_true rfl⟩ ⟨Nat.le_refl 0, Nat.le_refl 0⟩ rfl hl.1 rfl (Nat.le_of_ble_eq_true rfl) rfl dX10_readsDigits_19 (fun H locs hP hD hS => ?_)
        refine lv_if_ne (tgt := 27) hx hb dX10_readsDigits_22 (by decide) (fun c_5 => ?_) (fun c_5 => ?_)
        · have h := (if_neg c_5).symm.trans h
          refine lv_bipush (v := 10) hx hb dX10_readsDigits_27 (by decide) ?_
          refine lv_iload_n hx hb dX10_readsDigits_29 rfl (lv_at hl 3 rfl) ?_
          refine lv_imul hx hb dX10_readsDigits_30 ?_
          refine lv_aload_n hx hb dX10_readsDigits_31 rfl (lv_at hl 0 rfl) ?_
          obtain ⟨x_6, hc_6, h⟩ := bd_some h
          refine xk_V (rest := [.int (10 * x3)]) (As := []) (stk := [.int x_6, .int (10 * x3)]) (wn := (wX10 cA a_t a_t_refused a_t_kind a_t_figure a_t_cause a_t_tape a_t_letter a_t_letterAt a_t_told a_t_kept a_t_deep a_t_many a_t_row v_t_refused v_t_kind v_t_figure v_t_cause v_t_things v_t_day v_t_lost v_t_guarded v_t_tape v_t_letter v_t_letterAt v_t_told v_t_taped v_t_at v_t_statements v_t_kept v_t_hasImage v_t_isKeeping v_t_cursor v_t_deep v_t_nextWhen v_t_many v_t_row v_t_rowMany v_t_lots)) (v := (some (.int x_6))) (wr := []) gX10_readsDigits_X10_next rfl hdV_X10_next rfl rfl (c_X10_next l D cA sa sv a_t a_t_refused a_t_kind a_t_figure a_t_cause a_t_tape a_t_letter a_t_letterAt a_t_told a_t_kept a_t_deep a_t_many a_t_row _ v_t_refused v_t_kind v_t_figure v_t_cause v_t_things v_t_day v_t_lost v_t_guarded v_t_tape v_t_letter v_t_letterAt v_t_told v_t_taped v_t_at v_t_statements v_t_kept v_t_hasImage v_t_isKeeping v_t_cursor v_t_deep v_t_nextWhen v_t_many v_t_row v_t_rowMany v_t_lots x_6 hc_6) (ci := 5) rfl (q0 := 0) rfl S hK hP hD hS hA [0, 1, 2, 3, 4, 5, 6, 7, 8, 9, 10, 11, 12] [] [0, 1, 2, 3, 4, 5, 6, 7, 8, 9, 10, 11, 12] rfl rfl rfl rfl rfl rfl rfl ⟨Nat.le_of_ble_eq_true rfl, Nat.le_of_ble_eq_true rfl⟩ ⟨Nat.le_refl 0, Nat.le_refl 0⟩ rfl hl.1 rfl (Nat.le_of_ble_eq_true rfl) rfl dX10_readsDigits_32 (fun H locs hP hD hS => ?_)
          refine lv_iadd hx hb dX10_readsDigits_35 ?_
          refine lv_bipush (v := 48) hx hb dX10_readsDigits_36 (by decide) ?_
          refine lv_isub hx hb dX10_readsDigits_38 ?_
          refine lv_istore_n (lv' := [(3, .int (((10 * x3) + x_6) - 48)), (0, .ref a_t), (1, .int p1), (2, .int p2), (4, .int x4)]) hx hb dX10_readsDigits_39 rfl hl (by decide) rfl (fun ls hl => ?_)
          refine lv_aload_n hx hb dX10_readsDigits_40 rfl (lv_at hl 1 rfl) ?_
          refine lv_dup hx hb dX10_readsDigits_41 rfl ?_
          refine va_get (ci := 5) (v := .int v_t_at) (C := RX10) (T := TX10) (N := 25) hx hb hts hinX10 hown hK.1 hP 0 rfl rfl 13 (by decide) k_1 (fun _ h9 => h9) rfl dX10_readsDigits_42 ?_
          refine lv_iconst (v := 1) hx hb dX10_readsDigits_45 (by decide) ?_
          refine lv_iadd hx hb dX10_readsDigits_46 ?_
          refine va_put (ci := 5) (v := .int (v_t_at + 1)) (ty := tyX10 13) (C := RX10) (T := TX10) (N := 25) hx hb hts hinX10 tyX10 tyX10_ok nmX10 hown hK.1 hP hD hS 0 rfl rfl 13 (by decide) k_1 (fun _ h9 => h9) rfl (tyX10_ok 13 (by decide)) rfl rfl (Nat.le_of_ble_eq_true rfl) dX10_readsDigits_47 (fun H locs hP hD hS => ?_)
          have hP : va_P D vwCl (wX10 cA a_t a_t_refused a_t_kind a_t_figure a_t_cause a_t_tape a_t_letter a_t_letterAt a_t_told a_t_kept a_t_deep a_t_many a_t_row v_t_refused v_t_kind v_t_figure v_t_cause v_t_things v_t_day v_t_lost v_t_guarded v_t_tape v_t_letter v_t_letterAt v_t_told v_t_taped (v_t_at + 1) v_t_statements v_t_kept v_t_hasImage v_t_isKeeping v_t_cursor v_t_deep v_t_nextWhen v_t_many v_t_row v_t_rowMany v_t_lots) H := hP
          have hD : va_D A (wX10 cA a_t a_t_refused a_t_kind a_t_figure a_t_cause a_t_tape a_t_letter a_t_letterAt a_t_told a_t_kept a_t_deep a_t_many a_t_row v_t_refused v_t_kind v_t_figure v_t_cause v_t_things v_t_day v_t_lost v_t_guarded v_t_tape v_t_letter v_t_letterAt v_t_told v_t_taped (v_t_at + 1) v_t_statements v_t_kept v_t_hasImage v_t_isKeeping v_t_cursor v_t_deep v_t_nextWhen v_t_many v_t_row v_t_rowMany v_t_lots) := hD
          refine lv_iinc (v := (x4 + 1)) (lv' := [(4, .int (x4 + 1)), (3, .int (((10 * x3) + x_6) - 48)), (0, .ref a_t), (1, .int p1), (2, .int p2)]) hx hb dX10_readsDigits_50 hl (k := 4) rfl rfl (by decide) rfl (fun ls hl => ?_)
          refine lv_goto (tgt := 5) hx hb dX10_readsDigits_53 (by decide) ?_
          exact ih (((10 * x3) + x_6) - 48) (x4 + 1) v_t_told (v_t_at + 1) _ h _ _ _ hP hD hS (lv_sub hl [2, 3, 4, 1, 0] rfl)
        · have h := (if_pos c_5).symm.trans h
          refine lv_iconst (v := 0) hx hb dX10_readsDigits_25 (by decide) ?_
          obtain rfl := Option.some.inj h
          exact xk_zret rfl hx hb hr hlk hP hD hS (hQ _) dX10_readsDigits_26
  unfold f_X10_readsDigits at h
  refine lv_iconst (v := 0) hx hb dX10_readsDigits_0 (by decide) ?_
  refine lv_istore_n (lv' := [(3, .int 0), (0, .ref a_t), (1, .int p1), (2, .int p2)]) hx hb dX10_readsDigits_1 rfl hl (by decide) rfl (fun ls hl => ?_)
  refine lv_iconst (v := 0) hx hb dX10_readsDigits_2 (by decide) ?_
  refine lv_istore (lv' := [(4, .int 0), (3, .int 0), (0, .ref a_t), (1, .int p1), (2, .int p2)]) hx hb dX10_readsDigits_3 hl (by decide) rfl (fun ls hl => ?_)
  exact J_5 F 0 0 v_t_told v_t_at _ h _ _ _ hP hD hS (lv_sub hl [2, 3, 4, 1, 0] rfl)
set_option maxHeartbeats 4000000 in
set_option maxRecDepth 100000 in
theorem c_X10_kindOf (l : Launch) (D : va_G) (cA : ClassId) (sa sv : Nat → Nat) (sz : Nat) (p0 : Int32) (res : Int32) (h : f_X10_kindOf  p0 = some res) : Met l yX10_kindOf wsX10_kindOf { frames := 0, cells := 0, slots := 0, locals := 0 } (xk_Pc D cA sa sv ([] : va_W) sz [.int p0]) (xk_Q D (va_A ([] : va_W) sz) (some (.int res)) ([] : va_W)) 0 0 (va_A ([] : va_W) sz) := by
  refine xk_met (fun res : Int32 => some (.int res)) (fun res : Int32 => ([] : va_W)) res (cc := cX10_kindOf) (maxL := 1) (ret := (some .int)) (by decide) rfl (Nat.le_of_ble_eq_true rfl) ?_
  intro p e s m args below meth c A Q ls hQ hx hb hr hlk hml hown hts hK hP hD hS hA hl
  have S : CallFix p m c cX10_kindOf 1 s args wsX10_kindOf RX10 := ⟨hx, hb, hml, hown, hts⟩
  have hl : lv_has ls 1 [(0, .int p0)] := hl
  unfold f_X10_kindOf at h
  refine lv_iload_n hx hb dX10_kindOf_0 rfl (lv_at hl 0 rfl) ?_
  refine lv_bipush (v := 110) hx hb dX10_kindOf_1 (by decide) ?_
  refine lv_icmp_ne (tgt := 10) hx hb dX10_kindOf_3 (by decide) (fun c_1 => ?_) (fun c_1 => ?_)
  · have h := (if_neg c_1).symm.trans h
    refine lv_iload_n hx hb dX10_kindOf_10 rfl (lv_at hl 0 rfl) ?_
    refine lv_bipush (v := 115) hx hb dX10_kindOf_11 (by decide) ?_
    refine lv_icmp_ne (tgt := 20) hx hb dX10_kindOf_13 (by decide) (fun c_2 => ?_) (fun c_2 => ?_)
    · have h := (if_neg c_2).symm.trans h
      refine lv_iload_n hx hb dX10_kindOf_20 rfl (lv_at hl 0 rfl) ?_
      refine lv_bipush (v := 104) hx hb dX10_kindOf_21 (by decide) ?_
      refine lv_icmp_ne (tgt := 30) hx hb dX10_kindOf_23 (by decide) (fun c_3 => ?_) (fun c_3 => ?_)
      · have h := (if_neg c_3).symm.trans h
        refine lv_iload_n hx hb dX10_kindOf_30 rfl (lv_at hl 0 rfl) ?_
        refine lv_bipush (v := 98) hx hb dX10_kindOf_31 (by decide) ?_
        refine lv_icmp_ne (tgt := 40) hx hb dX10_kindOf_33 (by decide) (fun c_4 => ?_) (fun c_4 => ?_)
        · have h := (if_neg c_4).symm.trans h
          refine lv_iload_n hx hb dX10_kindOf_40 rfl (lv_at hl 0 rfl) ?_
          refine lv_bipush (v := 107) hx hb dX10_kindOf_41 (by decide) ?_
          refine lv_icmp_ne (tgt := 50) hx hb dX10_kindOf_43 (by decide) (fun c_5 => ?_) (fun c_5 => ?_)
          · have h := (if_neg c_5).symm.trans h
            refine lv_iload_n hx hb dX10_kindOf_50 rfl (lv_at hl 0 rfl) ?_
            refine lv_bipush (v := 119) hx hb dX10_kindOf_51 (by decide) ?_
            refine lv_icmp_ne (tgt := 60) hx hb dX10_kindOf_53 (by decide) (fun c_6 => ?_) (fun c_6 => ?_)
            · have h := (if_neg c_6).symm.trans h
              refine lv_iconst (v := (-1)) hx hb dX10_kindOf_60 (by decide) ?_
              obtain rfl := Option.some.inj h
              exact xk_iret hx hb hr hlk hP hD hS (hQ _) dX10_kindOf_61
            · have h := (if_pos c_6).symm.trans h
              refine lv_iconst (v := 5) hx hb dX10_kindOf_56 (by decide) ?_
              refine lv_goto (tgt := 61) hx hb dX10_kindOf_57 (by decide) ?_
              obtain rfl := Option.some.inj h
              exact xk_iret hx hb hr hlk hP hD hS (hQ _) dX10_kindOf_61
          · have h := (if_pos c_5).symm.trans h
            refine lv_iconst (v := 4) hx hb dX10_kindOf_46 (by decide) ?_
            refine lv_goto (tgt := 61) hx hb dX10_kindOf_47 (by decide) ?_
            obtain rfl := Option.some.inj h
            exact xk_iret hx hb hr hlk hP hD hS (hQ _) dX10_kindOf_61
        · have h := (if_pos c_4).symm.trans h
          refine lv_iconst (v := 3) hx hb dX10_kindOf_36 (by decide) ?_
          refine lv_goto (tgt := 61) hx hb dX10_kindOf_37 (by decide) ?_
          obtain rfl := Option.some.inj h
          exact xk_iret hx hb hr hlk hP hD hS (hQ _) dX10_kindOf_61
      · have h := (if_pos c_3).symm.trans h
        refine lv_iconst (v := 2) hx hb dX10_kindOf_26 (by decide) ?_
        refine lv_goto (tgt := 61) hx hb dX10_kindOf_27 (by decide) ?_
        obtain rfl := Option.some.inj h
        exact xk_iret hx hb hr hlk hP hD hS (hQ _) dX10_kindOf_61
    · have h := (if_pos c_2).symm.trans h
      refine lv_iconst (v := 1) hx hb dX10_kindOf_16 (by decide) ?_
      refine lv_goto (tgt := 61) hx hb dX10_kindOf_17 (by decide) ?_
      obtain rfl := Option.some.inj h
      exact xk_iret hx hb hr hlk hP hD hS (hQ _) dX10_kindOf_61
  · have h := (if_pos c_1).symm.trans h
    refine lv_iconst (v := 0) hx hb dX10_kindOf_6 (by decide) ?_
    refine lv_goto (tgt := 61) hx hb dX10_kindOf_7 (by decide) ?_
    obtain rfl := Option.some.inj h
    exact xk_iret hx hb hr hlk hP hD hS (hQ _) dX10_kindOf_61
set_option maxHeartbeats 4000000 in
set_option maxRecDepth 100000 in
theorem c_X10_readsThing (l : Launch) (D : va_G) (cA : ClassId) (sa sv : Nat → Nat) (a_t a_t_refused a_t_kind a_t_figure a_t_cause a_t_tape a_t_letter a_t_letterAt a_t_told a_t_kept a_t_deep a_t_many a_t_row : Nat) (sz : Nat) (v_t_refused : Nat → Int32) (v_t_kind : Nat → Int32) (v_t_figure : Nat → Int32) (v_t_cause : Nat → Int32) (v_t_things : Int32) (v_t_day : Int32) (v_t_lost : Int32) (v_t_guarded : Int32) (v_t_tape : Nat → Int32) (v_t_letter : Nat → Int32) (v_t_letterAt : Nat → Int32) (v_t_told : Nat → Int32) (v_t_taped : Int32) (v_t_at : Int32) (v_t_statements : Int32) (v_t_kept : Nat → Int32) (v_t_hasImage : Int32) (v_t_isKeeping : Int32) (v_t_cursor : Int32) (v_t_deep : Nat → Int32) (v_t_nextWhen : Int32) (v_t_many : Nat → Int32) (v_t_row : Nat → Int32) (v_t_rowMany : Int32) (v_t_lots : Int32) (p1 : Int32) (F : Nat) (res : Int32 × (Nat → Int32) × Int32) (h : f_X10_readsThing F v_t_tape v_t_told v_t_taped v_t_at p1 = some res) : Met l yX10_readsThing wsX10_readsThing { frames := 2, cells := 0, slots := 0, locals := 46 } (xk_Pc D cA sa sv (wX10 cA a_t a_t_refused a_t_kind a_t_figure a_t_cause a_t_tape a_t_letter a_t_letterAt a_t_told a_t_kept a_t_deep a_t_many a_t_row v_t_refused v_t_kind v_t_figure v_t_cause v_t_things v_t_day v_t_lost v_t_guarded v_t_tape v_t_letter v_t_letterAt v_t_told v_t_taped v_t_at v_t_statements v_t_kept v_t_hasImage v_t_isKeeping v_t_cursor v_t_deep v_t_nextWhen v_t_many v_t_row v_t_rowMany v_t_lots) sz [.ref a_t, .int p1]) (xk_Q D (va_A (wX10 cA a_t a_t_refused a_t_kind a_t_figure a_t_cause a_t_tape a_t_letter a_t_letterAt a_t_told a_t_kept a_t_deep a_t_many a_t_row v_t_refused v_t_kind v_t_figure v_t_cause v_t_things v_t_day v_t_lost v_t_guarded v_t_tape v_t_letter v_t_letterAt v_t_told v_t_taped v_t_at v_t_statements v_t_kept v_t_hasImage v_t_isKeeping v_t_cursor v_t_deep v_t_nextWhen v_t_many v_t_row v_t_rowMany v_t_lots) sz) (some (.int res.1)) (wX10 cA a_t a_t_refused a_t_kind a_t_figure a_t_cause a_t_tape a_t_letter a_t_letterAt a_t_told a_t_kept a_t_deep a_t_many a_t_row v_t_refused v_t_kind v_t_figure v_t_cause v_t_things v_t_day v_t_lost v_t_guarded v_t_tape v_t_letter v_t_letterAt res.2.1 v_t_taped res.2.2 v_t_statements v_t_kept v_t_hasImage v_t_isKeeping v_t_cursor v_t_deep v_t_nextWhen v_t_many v_t_row v_t_rowMany v_t_lots)) 0 0 (va_A (wX10 cA a_t a_t_refused a_t_kind a_t_figure a_t_cause a_t_tape a_t_letter a_t_letterAt a_t_told a_t_kept a_t_deep a_t_many a_t_row v_t_refused v_t_kind v_t_figure v_t_cause v_t_things v_t_day v_t_lost v_t_guarded v_t_tape v_t_letter v_t_letterAt v_t_told v_t_taped v_t_at v_t_statements v_t_kept v_t_hasImage v_t_isKeeping v_t_cursor v_t_deep v_t_nextWhen v_t_many v_t_row v_t_rowMany v_t_lots) sz) := by
  refine xk_met (fun res : Int32 × (Nat → Int32) × Int32 => some (.int res.1)) (fun res : Int32 × (Nat → Int32) × Int32 => (wX10 cA a_t a_t_refused a_t_kind a_t_figure a_t_cause a_t_tape a_t_letter a_t_letterAt a_t_told a_t_kept a_t_deep a_t_many a_t_row v_t_refused v_t_kind v_t_figure v_t_cause v_t_things v_t_day v_t_lost v_t_guarded v_t_tape v_t_letter v_t_letterAt res.2.1 v_t_taped res.2.2 v_t_statements v_t_kept v_t_hasImage v_t_isKeeping v_t_cursor v_t_deep v_t_nextWhen v_t_many v_t_row v_t_rowMany v_t_lots)) res (cc := cX10_readsThing) (maxL := 2) (ret := (some .boolean)) (by decide) rfl (Nat.le_of_ble_eq_true rfl) ?_
  intro p e s m args below meth c A Q ls hQ hx hb hr hlk hml hown hts hK hP hD hS hA hl
  have S : CallFix p m c cX10_readsThing 2 s args wsX10_readsThing RX10 := ⟨hx, hb, hml, hown, hts⟩
  have hl : lv_has ls 2 [(0, .ref a_t), (1, .int p1)] := hl
  have hinX10 : ∀ w ∈ u_ws RX10 TX10 25, w ∈ wsX10_readsThing := fun _ h => List.mem_cons_of_mem _ (List.mem_append_right _ (h))
  have k_0 := hts (.fieldLink RX10 31 "NailsWantTheKingdomModel" "told" "[I") (List.mem_of_getElem? (i := 1) (by decide +kernel))
  have k_1 := hts (.fieldLink RX10 67 "NailsWantTheKingdomModel" "at" "I") (List.mem_of_getElem? (i := 2) (by decide +kernel))
  unfold f_X10_readsThing at h
  refine lv_aload_n hx hb dX10_readsThing_0 rfl (lv_at hl 0 rfl) ?_
  refine va_get (ci := 5) (v := .ref a_t_told) (C := RX10) (T := TX10) (N := 25) hx hb hts hinX10 hown hK.1 hP 0 rfl rfl 11 (by decide) k_0 (fun _ h9 => h9) rfl dX10_readsThing_1 ?_
  refine lv_iload_n hx hb dX10_readsThing_4 rfl (lv_at hl 1 rfl) ?_
  refine lv_aload_n hx hb dX10_readsThing_5 rfl (lv_at hl 0 rfl) ?_
  obtain ⟨x_1, hc_1, h⟩ := bd_some h
  refine xk_V (rest := [.int p1, .ref a_t_told]) (As := []) (stk := [.int x_1, .int p1, .ref a_t_told]) (wn := (wX10 cA a_t a_t_refused a_t_kind a_t_figure a_t_cause a_t_tape a_t_letter a_t_letterAt a_t_told a_t_kept a_t_deep a_t_many a_t_row v_t_refused v_t_kind v_t_figure v_t_cause v_t_things v_t_day v_t_lost v_t_guarded v_t_tape v_t_letter v_t_letterAt v_t_told v_t_taped v_t_at v_t_statements v_t_kept v_t_hasImage v_t_isKeeping v_t_cursor v_t_deep v_t_nextWhen v_t_many v_t_row v_t_rowMany v_t_lots)) (v := (some (.int x_1))) (wr := []) gX10_readsThing_X10_next rfl hdV_X10_next rfl rfl (c_X10_next l D cA sa sv a_t a_t_refused a_t_kind a_t_figure a_t_cause a_t_tape a_t_letter a_t_letterAt a_t_told a_t_kept a_t_deep a_t_many a_t_row _ v_t_refused v_t_kind v_t_figure v_t_cause v_t_things v_t_day v_t_lost v_t_guarded v_t_tape v_t_letter v_t_letterAt v_t_told v_t_taped v_t_at v_t_statements v_t_kept v_t_hasImage v_t_isKeeping v_t_cursor v_t_deep v_t_nextWhen v_t_many v_t_row v_t_rowMany v_t_lots x_1 hc_1) (ci := 5) rfl (q0 := 0) rfl S hK hP hD hS hA [0, 1, 2, 3, 4, 5, 6, 7, 8, 9, 10, 11, 12] [] [0, 1, 2, 3, 4, 5, 6, 7, 8, 9, 10, 11, 12] rfl rfl rfl rfl rfl rfl rfl ⟨Nat.le_of_ble_eq_true rfl, Nat.le_of_ble_eq_true rfl⟩ ⟨Nat.le_refl 0, Nat.le_refl 0⟩ rfl hl.1 rfl (Nat.le_of_ble_eq_true rfl) rfl dX10_readsThing_6 (fun H locs hP hD hS => ?_)
  obtain ⟨x_2, hc_2, h⟩ := bd_some h
  refine xk_S (rest := [.int p1, .ref a_t_told]) (As := [.int x_1]) (stk := [.int x_2, .int p1, .ref a_t_told]) (wn := (wX10 cA a_t a_t_refused a_t_kind a_t_figure a_t_cause a_t_tape a_t_letter a_t_letterAt a_t_told a_t_kept a_t_deep a_t_many a_t_row v_t_refused v_t_kind v_t_figure v_t_cause v_t_things v_t_day v_t_lost v_t_guarded v_t_tape v_t_letter v_t_letterAt v_t_told v_t_taped v_t_at v_t_statements v_t_kept v_t_hasImage v_t_isKeeping v_t_cursor v_t_deep v_t_nextWhen v_t_many v_t_row v_t_rowMany v_t_lots)) (v := (some (.int x_2))) (wr := [(a_t, .inr (5, [.ref a_t_refused, .ref a_t_kind, .ref a_t_figure, .ref a_t_cause, .int v_t_things, .int v_t_day, .int v_t_lost, .int v_t_guarded, .ref a_t_tape, .ref a_t_letter, .ref a_t_letterAt, .ref a_t_told, .int v_t_taped, .int v_t_at, .int v_t_statements, .ref a_t_kept, .int v_t_hasImage, .int v_t_isKeeping, .int v_t_cursor, .ref a_t_deep, .int v_t_nextWhen, .ref a_t_many, .ref a_t_row, .int v_t_rowMany, .int v_t_lots])), (a_t_refused, .inl (cA, 7, .inl v_t_refused)), (a_t_kind, .inl (cA, 9, .inl v_t_kind)), (a_t_figure, .inl (cA, 9, .inl v_t_figure)), (a_t_cause, .inl (cA, 9, .inl v_t_cause)), (a_t_tape, .inl (cA, 96, .inl v_t_tape)), (a_t_letter, .inl (cA, 48, .inl v_t_letter)), (a_t_letterAt, .inl (cA, 48, .inl v_t_letterAt)), (a_t_told, .inl (cA, 96, .inl v_t_told)), (a_t_kept, .inl (cA, 93, .inl v_t_kept)), (a_t_deep, .inl (cA, 9, .inl v_t_deep)), (a_t_many, .inl (cA, 4, .inl v_t_many)), (a_t_row, .inl (cA, 16, .inl v_t_row))]) gX10_readsThing_X10_kindOf rfl hdS_X10_kindOf rfl rfl (c_X10_kindOf l D cA sa sv _ x_1 x_2 hc_2) S hK hP hD hS hA [] [0, 1, 2, 3, 4, 5, 6, 7, 8, 9, 10, 11, 12] [0, 1, 2, 3, 4, 5, 6, 7, 8, 9, 10, 11, 12] rfl rfl rfl rfl rfl rfl rfl ⟨Nat.le_of_ble_eq_true rfl, Nat.le_of_ble_eq_true rfl⟩ ⟨Nat.le_refl 0, Nat.le_refl 0⟩ rfl hl.1 rfl (Nat.le_of_ble_eq_true rfl) rfl dX10_readsThing_9 (fun H locs hP hD hS => ?_)
  obtain ⟨i_3, h⟩ := xa_some h
  refine va_iast hx hb hK.1 hP hD hS 8 0 rfl rfl i_3 dX10_readsThing_12 (fun H locs hP hD hS => ?_)
  have hP : va_P D vwCl (wX10 cA a_t a_t_refused a_t_kind a_t_figure a_t_cause a_t_tape a_t_letter a_t_letterAt a_t_told a_t_kept a_t_deep a_t_many a_t_row v_t_refused v_t_kind v_t_figure v_t_cause v_t_things v_t_day v_t_lost v_t_guarded v_t_tape v_t_letter v_t_letterAt (upd v_t_told (Int32.toNatClampNeg p1) x_2) v_t_taped v_t_at v_t_statements v_t_kept v_t_hasImage v_t_isKeeping v_t_cursor v_t_deep v_t_nextWhen v_t_many v_t_row v_t_rowMany v_t_lots) H := hP
  have hD : va_D A (wX10 cA a_t a_t_refused a_t_kind a_t_figure a_t_cause a_t_tape a_t_letter a_t_letterAt a_t_told a_t_kept a_t_deep a_t_many a_t_row v_t_refused v_t_kind v_t_figure v_t_cause v_t_things v_t_day v_t_lost v_t_guarded v_t_tape v_t_letter v_t_letterAt (upd v_t_told (Int32.toNatClampNeg p1) x_2) v_t_taped v_t_at v_t_statements v_t_kept v_t_hasImage v_t_isKeeping v_t_cursor v_t_deep v_t_nextWhen v_t_many v_t_row v_t_rowMany v_t_lots) := hD
  refine lv_aload_n hx hb dX10_readsThing_13 rfl (lv_at hl 0 rfl) ?_
  refine va_get (ci := 5) (v := .ref a_t_told) (C := RX10) (T := TX10) (N := 25) hx hb hts hinX10 hown hK.1 hP 0 rfl rfl 11 (by decide) k_0 (fun _ h9 => h9) rfl dX10_readsThing_14 ?_
  refine lv_iload_n hx hb dX10_readsThing_17 rfl (lv_at hl 1 rfl) ?_
  obtain ⟨i_4, h⟩ := xa_some h
  refine va_iald hx hb hK.1 hP 8 0 rfl rfl i_4 dX10_readsThing_18 ?_
  refine lv_if_ge (tgt := 24) hx hb dX10_readsThing_19 (by decide) (fun c_5 => ?_) (fun c_5 => ?_)
  · have h := (if_pos c_5).symm.trans h
    refine lv_aload_n hx hb dX10_readsThing_24 rfl (lv_at hl 0 rfl) ?_
    refine lv_dup hx hb dX10_readsThing_25 rfl ?_
    refine va_get (ci := 5) (v := .int v_t_at) (C := RX10) (T := TX10) (N := 25) hx hb hts hinX10 hown hK.1 hP 0 rfl rfl 13 (by decide) k_1 (fun _ h9 => h9) rfl dX10_readsThing_26 ?_
    refine lv_iconst (v := 1) hx hb dX10_readsThing_29 (by decide) ?_
    refine lv_iadd hx hb dX10_readsThing_30 ?_
    refine va_put (ci := 5) (v := .int (v_t_at + 1)) (ty := tyX10 13) (C := RX10) (T := TX10) (N := 25) hx hb hts hinX10 tyX10 tyX10_ok nmX10 hown hK.1 hP hD hS 0 rfl rfl 13 (by decide) k_1 (fun _ h9 => h9) rfl (tyX10_ok 13 (by decide)) rfl rfl (Nat.le_of_ble_eq_true rfl) dX10_readsThing_31 (fun H locs hP hD hS => ?_)
    have hP : va_P D vwCl (wX10 cA a_t a_t_refused a_t_kind a_t_figure a_t_cause a_t_tape a_t_letter a_t_letterAt a_t_told a_t_kept a_t_deep a_t_many a_t_row v_t_refused v_t_kind v_t_figure v_t_cause v_t_things v_t_day v_t_lost v_t_guarded v_t_tape v_t_letter v_t_letterAt (upd v_t_told (Int32.toNatClampNeg p1) x_2) v_t_taped (v_t_at + 1) v_t_statements v_t_kept v_t_hasImage v_t_isKeeping v_t_cursor v_t_deep v_t_nextWhen v_t_many v_t_row v_t_rowMany v_t_lots) H := hP
    have hD : va_D A (wX10 cA a_t a_t_refused a_t_kind a_t_figure a_t_cause a_t_tape a_t_letter a_t_letterAt a_t_told a_t_kept a_t_deep a_t_many a_t_row v_t_refused v_t_kind v_t_figure v_t_cause v_t_things v_t_day v_t_lost v_t_guarded v_t_tape v_t_letter v_t_letterAt (upd v_t_told (Int32.toNatClampNeg p1) x_2) v_t_taped (v_t_at + 1) v_t_statements v_t_kept v_t_hasImage v_t_isKeeping v_t_cursor v_t_deep v_t_nextWhen v_t_many v_t_row v_t_rowMany v_t_lots) := hD
    refine lv_aload_n hx hb dX10_readsThing_34 rfl (lv_at hl 0 rfl) ?_
    refine lv_iload_n hx hb dX10_readsThing_35 rfl (lv_at hl 1 rfl) ?_
    refine lv_iconst (v := 1) hx hb dX10_readsThing_36 (by decide) ?_
    refine lv_iadd hx hb dX10_readsThing_37 ?_
    refine lv_iconst (v := 1) hx hb dX10_readsThing_38 (by decide) ?_
    obtain ⟨x_6, hc_6, h⟩ := bd_some h
    refine xk_V (rest := []) (As := [.int (p1 + 1), .int 1]) (stk := [.int x_6.1]) (wn := (wX10 cA a_t a_t_refused a_t_kind a_t_figure a_t_cause a_t_tape a_t_letter a_t_letterAt a_t_told a_t_kept a_t_deep a_t_many a_t_row v_t_refused v_t_kind v_t_figure v_t_cause v_t_things v_t_day v_t_lost v_t_guarded v_t_tape v_t_letter v_t_letterAt x_6.2.1 v_t_taped x_6.2.2 v_t_statements v_t_kept v_t_hasImage v_t_isKeeping v_t_cursor v_t_deep v_t_nextWhen v_t_many v_t_row v_t_rowMany v_t_lots)) (v := (some (.int x_6.1))) (wr := []) gX10_readsThing_X10_readsDigits rfl hdV_X10_readsDigits rfl rfl (c_X10_readsDigits l D cA sa sv a_t a_t_refused a_t_kind a_t_figure a_t_cause a_t_tape a_t_letter a_t_letterAt a_t_told a_t_kept a_t_deep a_t_many a_t_row _ v_t_refused v_t_kind v_t_figure v_t_cause v_t_things v_t_day v_t_lost v_t_guarded v_t_tape v_t_letter v_t_letterAt (upd v_t_told (Int32.toNatClampNeg p1) x_2) v_t_taped (v_t_at + 1) v_t_statements v_t_kept v_t_hasImage v_t_isKeeping v_t_cursor v_t_deep v_t_nextWhen v_t_many v_t_row v_t_rowMany v_t_lots (p1 + 1) 1 F x_6 hc_6) (ci := 5) rfl (q0 := 0) rfl S hK hP hD hS hA [0, 1, 2, 3, 4, 5, 6, 7, 8, 9, 10, 11, 12] [] [0, 1, 2, 3, 4, 5, 6, 7, 8, 9, 10, 11, 12] rfl rfl rfl rfl rfl rfl rfl ⟨Nat.le_of_ble_eq_true rfl, Nat.le_of_ble_eq_true rfl⟩ ⟨Nat.le_refl 0, Nat.le_refl 0⟩ rfl hl.1 rfl (Nat.le_of_ble_eq_true rfl) rfl dX10_readsThing_39 (fun H locs hP hD hS => ?_)
    obtain ⟨z_7, h⟩ := xz_some h
    obtain rfl := Option.some.inj h
    exact xk_zret (xk_bool z_7).1 hx hb hr hlk hP hD hS (hQ _) dX10_readsThing_42
  · have h := (if_neg c_5).symm.trans h
    refine lv_iconst (v := 0) hx hb dX10_readsThing_22 (by decide) ?_
    obtain rfl := Option.some.inj h
    exact xk_zret rfl hx hb hr hlk hP hD hS (hQ _) dX10_readsThing_23
set_option maxHeartbeats 4000000 in
set_option maxRecDepth 100000 in
theorem c_X10_readsAll (l : Launch) (D : va_G) (cA : ClassId) (sa sv : Nat → Nat) (a_t a_t_refused a_t_kind a_t_figure a_t_cause a_t_tape a_t_letter a_t_letterAt a_t_told a_t_kept a_t_deep a_t_many a_t_row : Nat) (sz : Nat) (v_t_refused : Nat → Int32) (v_t_kind : Nat → Int32) (v_t_figure : Nat → Int32) (v_t_cause : Nat → Int32) (v_t_things : Int32) (v_t_day : Int32) (v_t_lost : Int32) (v_t_guarded : Int32) (v_t_tape : Nat → Int32) (v_t_letter : Nat → Int32) (v_t_letterAt : Nat → Int32) (v_t_told : Nat → Int32) (v_t_taped : Int32) (v_t_at : Int32) (v_t_statements : Int32) (v_t_kept : Nat → Int32) (v_t_hasImage : Int32) (v_t_isKeeping : Int32) (v_t_cursor : Int32) (v_t_deep : Nat → Int32) (v_t_nextWhen : Int32) (v_t_many : Nat → Int32) (v_t_row : Nat → Int32) (v_t_rowMany : Int32) (v_t_lots : Int32) (p1 : Int32) (p2 : Int32) (F : Nat) (res : Int32 × (Nat → Int32) × Int32) (h : f_X10_readsAll F v_t_tape v_t_told v_t_taped v_t_at p1 p2 = some res) : Met l yX10_readsAll wsX10_readsAll { frames := 3, cells := 0, slots := 0, locals := 67 } (xk_Pc D cA sa sv (wX10 cA a_t a_t_refused a_t_kind a_t_figure a_t_cause a_t_tape a_t_letter a_t_letterAt a_t_told a_t_kept a_t_deep a_t_many a_t_row v_t_refused v_t_kind v_t_figure v_t_cause v_t_things v_t_day v_t_lost v_t_guarded v_t_tape v_t_letter v_t_letterAt v_t_told v_t_taped v_t_at v_t_statements v_t_kept v_t_hasImage v_t_isKeeping v_t_cursor v_t_deep v_t_nextWhen v_t_many v_t_row v_t_rowMany v_t_lots) sz [.ref a_t, .int p1, .int p2]) (xk_Q D (va_A (wX10 cA a_t a_t_refused a_t_kind a_t_figure a_t_cause a_t_tape a_t_letter a_t_letterAt a_t_told a_t_kept a_t_deep a_t_many a_t_row v_t_refused v_t_kind v_t_figure v_t_cause v_t_things v_t_day v_t_lost v_t_guarded v_t_tape v_t_letter v_t_letterAt v_t_told v_t_taped v_t_at v_t_statements v_t_kept v_t_hasImage v_t_isKeeping v_t_cursor v_t_deep v_t_nextWhen v_t_many v_t_row v_t_rowMany v_t_lots) sz) (some (.int res.1)) (wX10 cA a_t a_t_refused a_t_kind a_t_figure a_t_cause a_t_tape a_t_letter a_t_letterAt a_t_told a_t_kept a_t_deep a_t_many a_t_row v_t_refused v_t_kind v_t_figure v_t_cause v_t_things v_t_day v_t_lost v_t_guarded v_t_tape v_t_letter v_t_letterAt res.2.1 v_t_taped res.2.2 v_t_statements v_t_kept v_t_hasImage v_t_isKeeping v_t_cursor v_t_deep v_t_nextWhen v_t_many v_t_row v_t_rowMany v_t_lots)) 0 0 (va_A (wX10 cA a_t a_t_refused a_t_kind a_t_figure a_t_cause a_t_tape a_t_letter a_t_letterAt a_t_told a_t_kept a_t_deep a_t_many a_t_row v_t_refused v_t_kind v_t_figure v_t_cause v_t_things v_t_day v_t_lost v_t_guarded v_t_tape v_t_letter v_t_letterAt v_t_told v_t_taped v_t_at v_t_statements v_t_kept v_t_hasImage v_t_isKeeping v_t_cursor v_t_deep v_t_nextWhen v_t_many v_t_row v_t_rowMany v_t_lots) sz) := by
  refine xk_met (fun res : Int32 × (Nat → Int32) × Int32 => some (.int res.1)) (fun res : Int32 × (Nat → Int32) × Int32 => (wX10 cA a_t a_t_refused a_t_kind a_t_figure a_t_cause a_t_tape a_t_letter a_t_letterAt a_t_told a_t_kept a_t_deep a_t_many a_t_row v_t_refused v_t_kind v_t_figure v_t_cause v_t_things v_t_day v_t_lost v_t_guarded v_t_tape v_t_letter v_t_letterAt res.2.1 v_t_taped res.2.2 v_t_statements v_t_kept v_t_hasImage v_t_isKeeping v_t_cursor v_t_deep v_t_nextWhen v_t_many v_t_row v_t_rowMany v_t_lots)) res (cc := cX10_readsAll) (maxL := 3) (ret := (some .boolean)) (by decide) rfl (Nat.le_of_ble_eq_true rfl) ?_
  intro p e s m args below meth c A Q ls hQ hx hb hr hlk hml hown hts hK hP hD hS hA hl
  have S : CallFix p m c cX10_readsAll 3 s args wsX10_readsAll RX10 := ⟨hx, hb, hml, hown, hts⟩
  have hl : lv_has ls 3 [(0, .ref a_t), (1, .int p1), (2, .int p2)] := hl
  unfold f_X10_readsAll at h
  refine lv_iload_n hx hb dX10_readsAll_0 rfl (lv_at hl 1 rfl) ?_
  by_cases c_1 : p1 = 99
  · have h := (if_pos c_1).symm.trans h
    refine lv_lookup (tgt := 42) (off := 41) hx hb dX10_readsAll_1 rfl (by rw [c_1]; rfl) (by decide) ?_
    refine lv_aload_n hx hb dX10_readsAll_42 rfl (lv_at hl 0 rfl) ?_
    refine lv_iload_n hx hb dX10_readsAll_43 rfl (lv_at hl 2 rfl) ?_
    refine lv_iconst (v := 1) hx hb dX10_readsAll_44 (by decide) ?_
    obtain ⟨x_2, hc_2, h⟩ := bd_some h
    refine xk_V (rest := []) (As := [.int p2, .int 1]) (stk := [.int x_2.1]) (wn := (wX10 cA a_t a_t_refused a_t_kind a_t_figure a_t_cause a_t_tape a_t_letter a_t_letterAt a_t_told a_t_kept a_t_deep a_t_many a_t_row v_t_refused v_t_kind v_t_figure v_t_cause v_t_things v_t_day v_t_lost v_t_guarded v_t_tape v_t_letter v_t_letterAt x_2.2.1 v_t_taped x_2.2.2 v_t_statements v_t_kept v_t_hasImage v_t_isKeeping v_t_cursor v_t_deep v_t_nextWhen v_t_many v_t_row v_t_rowMany v_t_lots)) (v := (some (.int x_2.1))) (wr := []) gX10_readsAll_X10_readsDigits rfl hdV_X10_readsDigits rfl rfl (c_X10_readsDigits l D cA sa sv a_t a_t_refused a_t_kind a_t_figure a_t_cause a_t_tape a_t_letter a_t_letterAt a_t_told a_t_kept a_t_deep a_t_many a_t_row _ v_t_refused v_t_kind v_t_figure v_t_cause v_t_things v_t_day v_t_lost v_t_guarded v_t_tape v_t_letter v_t_letterAt v_t_told v_t_taped v_t_at v_t_statements v_t_kept v_t_hasImage v_t_isKeeping v_t_cursor v_t_deep v_t_nextWhen v_t_many v_t_row v_t_rowMany v_t_lots p2 1 F x_2 hc_2) (ci := 5) rfl (q0 := 0) rfl S hK hP hD hS hA [0, 1, 2, 3, 4, 5, 6, 7, 8, 9, 10, 11, 12] [] [0, 1, 2, 3, 4, 5, 6, 7, 8, 9, 10, 11, 12] rfl rfl rfl rfl rfl rfl rfl ⟨Nat.le_of_ble_eq_true rfl, Nat.le_of_ble_eq_true rfl⟩ ⟨Nat.le_refl 0, Nat.le_refl 0⟩ rfl hl.1 rfl (Nat.le_of_ble_eq_true rfl) rfl dX10_readsAll_45 (fun H locs hP hD hS => ?_)
    refine lv_if_eq (tgt := 66) hx hb dX10_readsAll_48 (by decide) (fun c_3 => ?_) (fun c_3 => ?_)
    · have h := (if_pos c_3).symm.trans h
      refine lv_iconst (v := 0) hx hb dX10_readsAll_66 (by decide) ?_
      obtain rfl := Option.some.inj h
      exact xk_zret rfl hx hb hr hlk hP hD hS (hQ _) dX10_readsAll_67
    · have h := (if_neg c_3).symm.trans h
      refine lv_aload_n hx hb dX10_readsAll_51 rfl (lv_at hl 0 rfl) ?_
      refine lv_iload_n hx hb dX10_readsAll_52 rfl (lv_at hl 2 rfl) ?_
      refine lv_iconst (v := 1) hx hb dX10_readsAll_53 (by decide) ?_
      refine lv_iadd hx hb dX10_readsAll_54 ?_
      refine lv_iconst (v := 1) hx hb dX10_readsAll_55 (by decide) ?_
      obtain ⟨x_4, hc_4, h⟩ := bd_some h
      refine xk_V (rest := []) (As := [.int (p2 + 1), .int 1]) (stk := [.int x_4.1]) (wn := (wX10 cA a_t a_t_refused a_t_kind a_t_figure a_t_cause a_t_tape a_t_letter a_t_letterAt a_t_told a_t_kept a_t_deep a_t_many a_t_row v_t_refused v_t_kind v_t_figure v_t_cause v_t_things v_t_day v_t_lost v_t_guarded v_t_tape v_t_letter v_t_letterAt x_4.2.1 v_t_taped x_4.2.2 v_t_statements v_t_kept v_t_hasImage v_t_isKeeping v_t_cursor v_t_deep v_t_nextWhen v_t_many v_t_row v_t_rowMany v_t_lots)) (v := (some (.int x_4.1))) (wr := []) gX10_readsAll_X10_readsDigits rfl hdV_X10_readsDigits rfl rfl (c_X10_readsDigits l D cA sa sv a_t a_t_refused a_t_kind a_t_figure a_t_cause a_t_tape a_t_letter a_t_letterAt a_t_told a_t_kept a_t_deep a_t_many a_t_row _ v_t_refused v_t_kind v_t_figure v_t_cause v_t_things v_t_day v_t_lost v_t_guarded v_t_tape v_t_letter v_t_letterAt x_2.2.1 v_t_taped x_2.2.2 v_t_statements v_t_kept v_t_hasImage v_t_isKeeping v_t_cursor v_t_deep v_t_nextWhen v_t_many v_t_row v_t_rowMany v_t_lots (p2 + 1) 1 F x_4 hc_4) (ci := 5) rfl (q0 := 0) rfl S hK hP hD hS hA [0, 1, 2, 3, 4, 5, 6, 7, 8, 9, 10, 11, 12] [] [0, 1, 2, 3, 4, 5, 6, 7, 8, 9, 10, 11, 12] rfl rfl rfl rfl rfl rfl rfl ⟨Nat.le_of_ble_eq_true rfl, Nat.le_of_ble_eq_true rfl⟩ ⟨Nat.le_refl 0, Nat.le_refl 0⟩ rfl hl.1 rfl (Nat.le_of_ble_eq_true rfl) rfl dX10_readsAll_56 (fun H locs hP hD hS => ?_)
      refine lv_if_eq (tgt := 66) hx hb dX10_readsAll_59 (by decide) (fun c_5 => ?_) (fun c_5 => ?_)
      · have h := (if_pos c_5).symm.trans h
        refine lv_iconst (v := 0) hx hb dX10_readsAll_66 (by decide) ?_
        obtain rfl := Option.some.inj h
        exact xk_zret rfl hx hb hr hlk hP hD hS (hQ _) dX10_readsAll_67
      · have h := (if_neg c_5).symm.trans h
        refine lv_iconst (v := 1) hx hb dX10_readsAll_62 (by decide) ?_
        refine lv_goto (tgt := 67) hx hb dX10_readsAll_63 (by decide) ?_
        obtain rfl := Option.some.inj h
        exact xk_zret rfl hx hb hr hlk hP hD hS (hQ _) dX10_readsAll_67
  have h := (if_neg c_1).symm.trans h
  by_cases c_6 : p1 = 100
  · have h := (if_pos c_6).symm.trans h
    refine lv_lookup (tgt := 68) (off := 67) hx hb dX10_readsAll_1 rfl (by rw [c_6]; rfl) (by decide) ?_
    refine lv_aload_n hx hb dX10_readsAll_68 rfl (lv_at hl 0 rfl) ?_
    refine lv_iload_n hx hb dX10_readsAll_69 rfl (lv_at hl 2 rfl) ?_
    refine lv_iconst (v := 2) hx hb dX10_readsAll_70 (by decide) ?_
    obtain ⟨x_7, hc_7, h⟩ := bd_some h
    refine xk_V (rest := []) (As := [.int p2, .int 2]) (stk := [.int x_7.1]) (wn := (wX10 cA a_t a_t_refused a_t_kind a_t_figure a_t_cause a_t_tape a_t_letter a_t_letterAt a_t_told a_t_kept a_t_deep a_t_many a_t_row v_t_refused v_t_kind v_t_figure v_t_cause v_t_things v_t_day v_t_lost v_t_guarded v_t_tape v_t_letter v_t_letterAt x_7.2.1 v_t_taped x_7.2.2 v_t_statements v_t_kept v_t_hasImage v_t_isKeeping v_t_cursor v_t_deep v_t_nextWhen v_t_many v_t_row v_t_rowMany v_t_lots)) (v := (some (.int x_7.1))) (wr := []) gX10_readsAll_X10_readsDigits rfl hdV_X10_readsDigits rfl rfl (c_X10_readsDigits l D cA sa sv a_t a_t_refused a_t_kind a_t_figure a_t_cause a_t_tape a_t_letter a_t_letterAt a_t_told a_t_kept a_t_deep a_t_many a_t_row _ v_t_refused v_t_kind v_t_figure v_t_cause v_t_things v_t_day v_t_lost v_t_guarded v_t_tape v_t_letter v_t_letterAt v_t_told v_t_taped v_t_at v_t_statements v_t_kept v_t_hasImage v_t_isKeeping v_t_cursor v_t_deep v_t_nextWhen v_t_many v_t_row v_t_rowMany v_t_lots p2 2 F x_7 hc_7) (ci := 5) rfl (q0 := 0) rfl S hK hP hD hS hA [0, 1, 2, 3, 4, 5, 6, 7, 8, 9, 10, 11, 12] [] [0, 1, 2, 3, 4, 5, 6, 7, 8, 9, 10, 11, 12] rfl rfl rfl rfl rfl rfl rfl ⟨Nat.le_of_ble_eq_true rfl, Nat.le_of_ble_eq_true rfl⟩ ⟨Nat.le_refl 0, Nat.le_refl 0⟩ rfl hl.1 rfl (Nat.le_of_ble_eq_true rfl) rfl dX10_readsAll_71 (fun H locs hP hD hS => ?_)
    obtain ⟨z_8, h⟩ := xz_some h
    obtain rfl := Option.some.inj h
    exact xk_zret (xk_bool z_8).1 hx hb hr hlk hP hD hS (hQ _) dX10_readsAll_74
  have h := (if_neg c_6).symm.trans h
  by_cases c_9 : p1 = 116
  · have h := (if_pos c_9).symm.trans h
    refine lv_lookup (tgt := 36) (off := 35) hx hb dX10_readsAll_1 rfl (by rw [c_9]; rfl) (by decide) ?_
    refine lv_aload_n hx hb dX10_readsAll_36 rfl (lv_at hl 0 rfl) ?_
    refine lv_iload_n hx hb dX10_readsAll_37 rfl (lv_at hl 2 rfl) ?_
    obtain ⟨x_10, hc_10, h⟩ := bd_some h
    refine xk_V (rest := []) (As := [.int p2]) (stk := [.int x_10.1]) (wn := (wX10 cA a_t a_t_refused a_t_kind a_t_figure a_t_cause a_t_tape a_t_letter a_t_letterAt a_t_told a_t_kept a_t_deep a_t_many a_t_row v_t_refused v_t_kind v_t_figure v_t_cause v_t_things v_t_day v_t_lost v_t_guarded v_t_tape v_t_letter v_t_letterAt x_10.2.1 v_t_taped x_10.2.2 v_t_statements v_t_kept v_t_hasImage v_t_isKeeping v_t_cursor v_t_deep v_t_nextWhen v_t_many v_t_row v_t_rowMany v_t_lots)) (v := (some (.int x_10.1))) (wr := []) gX10_readsAll_X10_readsThing rfl hdV_X10_readsThing rfl rfl (c_X10_readsThing l D cA sa sv a_t a_t_refused a_t_kind a_t_figure a_t_cause a_t_tape a_t_letter a_t_letterAt a_t_told a_t_kept a_t_deep a_t_many a_t_row _ v_t_refused v_t_kind v_t_figure v_t_cause v_t_things v_t_day v_t_lost v_t_guarded v_t_tape v_t_letter v_t_letterAt v_t_told v_t_taped v_t_at v_t_statements v_t_kept v_t_hasImage v_t_isKeeping v_t_cursor v_t_deep v_t_nextWhen v_t_many v_t_row v_t_rowMany v_t_lots p2 F x_10 hc_10) (ci := 5) rfl (q0 := 0) rfl S hK hP hD hS hA [0, 1, 2, 3, 4, 5, 6, 7, 8, 9, 10, 11, 12] [] [0, 1, 2, 3, 4, 5, 6, 7, 8, 9, 10, 11, 12] rfl rfl rfl rfl rfl rfl rfl ⟨Nat.le_of_ble_eq_true rfl, Nat.le_of_ble_eq_true rfl⟩ ⟨Nat.le_refl 0, Nat.le_refl 0⟩ rfl hl.1 rfl (Nat.le_of_ble_eq_true rfl) rfl dX10_readsAll_38 (fun H locs hP hD hS => ?_)
    obtain ⟨z_11, h⟩ := xz_some h
    obtain rfl := Option.some.inj h
    exact xk_zret (xk_bool z_11).1 hx hb hr hlk hP hD hS (hQ _) dX10_readsAll_41
  have h := (if_neg c_9).symm.trans h
  refine lv_lookup (tgt := 75) (off := 74) hx hb dX10_readsAll_1 rfl ((lv_osw (k := 99) c_1 rfl).trans ((lv_osw (k := 100) c_6 rfl).trans ((lv_osw (k := 116) c_9 rfl).trans rfl))) (by decide) ?_
  refine lv_aload_n hx hb dX10_readsAll_75 rfl (lv_at hl 0 rfl) ?_
  refine lv_iload_n hx hb dX10_readsAll_76 rfl (lv_at hl 2 rfl) ?_
  refine lv_iconst (v := 1) hx hb dX10_readsAll_77 (by decide) ?_
  obtain ⟨x_12, hc_12, h⟩ := bd_some h
  refine xk_V (rest := []) (As := [.int p2, .int 1]) (stk := [.int x_12.1]) (wn := (wX10 cA a_t a_t_refused a_t_kind a_t_figure a_t_cause a_t_tape a_t_letter a_t_letterAt a_t_told a_t_kept a_t_deep a_t_many a_t_row v_t_refused v_t_kind v_t_figure v_t_cause v_t_things v_t_day v_t_lost v_t_guarded v_t_tape v_t_letter v_t_letterAt x_12.2.1 v_t_taped x_12.2.2 v_t_statements v_t_kept v_t_hasImage v_t_isKeeping v_t_cursor v_t_deep v_t_nextWhen v_t_many v_t_row v_t_rowMany v_t_lots)) (v := (some (.int x_12.1))) (wr := []) gX10_readsAll_X10_readsDigits rfl hdV_X10_readsDigits rfl rfl (c_X10_readsDigits l D cA sa sv a_t a_t_refused a_t_kind a_t_figure a_t_cause a_t_tape a_t_letter a_t_letterAt a_t_told a_t_kept a_t_deep a_t_many a_t_row _ v_t_refused v_t_kind v_t_figure v_t_cause v_t_things v_t_day v_t_lost v_t_guarded v_t_tape v_t_letter v_t_letterAt v_t_told v_t_taped v_t_at v_t_statements v_t_kept v_t_hasImage v_t_isKeeping v_t_cursor v_t_deep v_t_nextWhen v_t_many v_t_row v_t_rowMany v_t_lots p2 1 F x_12 hc_12) (ci := 5) rfl (q0 := 0) rfl S hK hP hD hS hA [0, 1, 2, 3, 4, 5, 6, 7, 8, 9, 10, 11, 12] [] [0, 1, 2, 3, 4, 5, 6, 7, 8, 9, 10, 11, 12] rfl rfl rfl rfl rfl rfl rfl ⟨Nat.le_of_ble_eq_true rfl, Nat.le_of_ble_eq_true rfl⟩ ⟨Nat.le_refl 0, Nat.le_refl 0⟩ rfl hl.1 rfl (Nat.le_of_ble_eq_true rfl) rfl dX10_readsAll_78 (fun H locs hP hD hS => ?_)
  obtain ⟨z_13, h⟩ := xz_some h
  obtain rfl := Option.some.inj h
  exact xk_zret (xk_bool z_13).1 hx hb hr hlk hP hD hS (hQ _) dX10_readsAll_81
set_option maxHeartbeats 4000000 in
set_option maxRecDepth 100000 in
theorem c_X10_statement (l : Launch) (D : va_G) (cA : ClassId) (sa sv : Nat → Nat) (a_t a_t_refused a_t_kind a_t_figure a_t_cause a_t_tape a_t_letter a_t_letterAt a_t_told a_t_kept a_t_deep a_t_many a_t_row : Nat) (sz : Nat) (v_t_refused : Nat → Int32) (v_t_kind : Nat → Int32) (v_t_figure : Nat → Int32) (v_t_cause : Nat → Int32) (v_t_things : Int32) (v_t_day : Int32) (v_t_lost : Int32) (v_t_guarded : Int32) (v_t_tape : Nat → Int32) (v_t_letter : Nat → Int32) (v_t_letterAt : Nat → Int32) (v_t_told : Nat → Int32) (v_t_taped : Int32) (v_t_at : Int32) (v_t_statements : Int32) (v_t_kept : Nat → Int32) (v_t_hasImage : Int32) (v_t_isKeeping : Int32) (v_t_cursor : Int32) (v_t_deep : Nat → Int32) (v_t_nextWhen : Int32) (v_t_many : Nat → Int32) (v_t_row : Nat → Int32) (v_t_rowMany : Int32) (v_t_lots : Int32) (F : Nat) (res : Int32 × (Nat → Int32) × (Nat → Int32) × (Nat → Int32) × Int32) (h : f_X10_statement F v_t_tape v_t_letter v_t_letterAt v_t_told v_t_taped v_t_at v_t_statements  = some res) : Met l yX10_statement wsX10_statement { frames := 4, cells := 0, slots := 0, locals := 89 } (xk_Pc D cA sa sv (wX10 cA a_t a_t_refused a_t_kind a_t_figure a_t_cause a_t_tape a_t_letter a_t_letterAt a_t_told a_t_kept a_t_deep a_t_many a_t_row v_t_refused v_t_kind v_t_figure v_t_cause v_t_things v_t_day v_t_lost v_t_guarded v_t_tape v_t_letter v_t_letterAt v_t_told v_t_taped v_t_at v_t_statements v_t_kept v_t_hasImage v_t_isKeeping v_t_cursor v_t_deep v_t_nextWhen v_t_many v_t_row v_t_rowMany v_t_lots) sz [.ref a_t]) (xk_Q D (va_A (wX10 cA a_t a_t_refused a_t_kind a_t_figure a_t_cause a_t_tape a_t_letter a_t_letterAt a_t_told a_t_kept a_t_deep a_t_many a_t_row v_t_refused v_t_kind v_t_figure v_t_cause v_t_things v_t_day v_t_lost v_t_guarded v_t_tape v_t_letter v_t_letterAt v_t_told v_t_taped v_t_at v_t_statements v_t_kept v_t_hasImage v_t_isKeeping v_t_cursor v_t_deep v_t_nextWhen v_t_many v_t_row v_t_rowMany v_t_lots) sz) (some (.int res.1)) (wX10 cA a_t a_t_refused a_t_kind a_t_figure a_t_cause a_t_tape a_t_letter a_t_letterAt a_t_told a_t_kept a_t_deep a_t_many a_t_row v_t_refused v_t_kind v_t_figure v_t_cause v_t_things v_t_day v_t_lost v_t_guarded v_t_tape res.2.1 res.2.2.1 res.2.2.2.1 v_t_taped res.2.2.2.2 v_t_statements v_t_kept v_t_hasImage v_t_isKeeping v_t_cursor v_t_deep v_t_nextWhen v_t_many v_t_row v_t_rowMany v_t_lots)) 0 0 (va_A (wX10 cA a_t a_t_refused a_t_kind a_t_figure a_t_cause a_t_tape a_t_letter a_t_letterAt a_t_told a_t_kept a_t_deep a_t_many a_t_row v_t_refused v_t_kind v_t_figure v_t_cause v_t_things v_t_day v_t_lost v_t_guarded v_t_tape v_t_letter v_t_letterAt v_t_told v_t_taped v_t_at v_t_statements v_t_kept v_t_hasImage v_t_isKeeping v_t_cursor v_t_deep v_t_nextWhen v_t_many v_t_row v_t_rowMany v_t_lots) sz) := by
  refine xk_met (fun res : Int32 × (Nat → Int32) × (Nat → Int32) × (Nat → Int32) × Int32 => some (.int res.1)) (fun res : Int32 × (Nat → Int32) × (Nat → Int32) × (Nat → Int32) × Int32 => (wX10 cA a_t a_t_refused a_t_kind a_t_figure a_t_cause a_t_tape a_t_letter a_t_letterAt a_t_told a_t_kept a_t_deep a_t_many a_t_row v_t_refused v_t_kind v_t_figure v_t_cause v_t_things v_t_day v_t_lost v_t_guarded v_t_tape res.2.1 res.2.2.1 res.2.2.2.1 v_t_taped res.2.2.2.2 v_t_statements v_t_kept v_t_hasImage v_t_isKeeping v_t_cursor v_t_deep v_t_nextWhen v_t_many v_t_row v_t_rowMany v_t_lots)) res (cc := cX10_statement) (maxL := 2) (ret := (some .boolean)) (by decide) rfl (Nat.le_of_ble_eq_true rfl) ?_
  intro p e s m args below meth c A Q ls hQ hx hb hr hlk hml hown hts hK hP hD hS hA hl
  have S : CallFix p m c cX10_statement 2 s args wsX10_statement RX10 := ⟨hx, hb, hml, hown, hts⟩
  have hl : lv_has ls 2 [(0, .ref a_t)] := hl
  have hinX10 : ∀ w ∈ u_ws RX10 TX10 25, w ∈ wsX10_statement := fun _ h => List.mem_cons_of_mem _ (List.mem_append_right _ (h))
  have k_0 := hts (.fieldLink RX10 25 "NailsWantTheKingdomModel" "letter" "[I") (List.mem_of_getElem? (i := 1) (by decide +kernel))
  have k_1 := hts (.fieldLink RX10 88 "NailsWantTheKingdomModel" "statements" "I") (List.mem_of_getElem? (i := 2) (by decide +kernel))
  have k_2 := hts (.fieldLink RX10 28 "NailsWantTheKingdomModel" "letterAt" "[I") (List.mem_of_getElem? (i := 3) (by decide +kernel))
  have k_3 := hts (.fieldLink RX10 67 "NailsWantTheKingdomModel" "at" "I") (List.mem_of_getElem? (i := 4) (by decide +kernel))
  have J_43 : ∀ (x1 : Int32) (v_t_letter : Nat → Int32) (v_t_letterAt : Nat → Int32) (v_t_told : Nat → Int32) (v_t_at : Int32) (res : Int32 × (Nat → Int32) × (Nat → Int32) × (Nat → Int32) × Int32), f_X10_statement_43 F v_t_tape v_t_taped v_t_statements x1 v_t_letter v_t_letterAt v_t_told v_t_at = some res → ∀ (H : Heap) (locs : List Loc) (ls : Array Slot), va_P D vwCl (wX10 cA a_t a_t_refused a_t_kind a_t_figure a_t_cause a_t_tape a_t_letter a_t_letterAt a_t_told a_t_kept a_t_deep a_t_many a_t_row v_t_refused v_t_kind v_t_figure v_t_cause v_t_things v_t_day v_t_lost v_t_guarded v_t_tape v_t_letter v_t_letterAt v_t_told v_t_taped v_t_at v_t_statements v_t_kept v_t_hasImage v_t_isKeeping v_t_cursor v_t_deep v_t_nextWhen v_t_many v_t_row v_t_rowMany v_t_lots) H → va_D A (wX10 cA a_t a_t_refused a_t_kind a_t_figure a_t_cause a_t_tape a_t_letter a_t_letterAt a_t_told a_t_kept a_t_deep a_t_many a_t_row v_t_refused v_t_kind v_t_figure v_t_cause v_t_things v_t_day v_t_lost v_t_guarded v_t_tape v_t_letter v_t_letterAt v_t_told v_t_taped v_t_at v_t_statements v_t_kept v_t_hasImage v_t_isKeeping v_t_cursor v_t_deep v_t_nextWhen v_t_many v_t_row v_t_rowMany v_t_lots) → va_S A s.heap H locs → lv_has ls 2 [(0, .ref a_t), (1, .int x1)] → W p l e { frames := 4, cells := 0, slots := 0, locals := 89 } s m args below meth c H locs 0 0 (Q res) (F0 m 43 ls []) := by
    intro x1 v_t_letter v_t_letterAt v_t_told v_t_at res h H locs ls hP hD hS hl
    unfold f_X10_statement_43 at h
    refine lv_aload_n hx hb dX10_statement_43 rfl (lv_at hl 0 rfl) ?_
    refine va_get (ci := 5) (v := .ref a_t_letter) (C := RX10) (T := TX10) (N := 25) hx hb hts hinX10 hown hK.1 hP 0 rfl rfl 9 (by decide) k_0 (fun _ h9 => h9) rfl dX10_statement_44 ?_
    refine lv_aload_n hx hb dX10_statement_47 rfl (lv_at hl 0 rfl) ?_
    refine va_get (ci := 5) (v := .int v_t_statements) (C := RX10) (T := TX10) (N := 25) hx hb hts hinX10 hown hK.1 hP 0 rfl rfl 14 (by decide) k_1 (fun _ h9 => h9) rfl dX10_statement_48 ?_
    refine lv_iload_n hx hb dX10_statement_51 rfl (lv_at hl 1 rfl) ?_
    obtain ⟨i_3, h⟩ := xa_some h
    refine va_iast hx hb hK.1 hP hD hS 6 0 rfl rfl i_3 dX10_statement_52 (fun H locs hP hD hS => ?_)
    have hP : va_P D vwCl (wX10 cA a_t a_t_refused a_t_kind a_t_figure a_t_cause a_t_tape a_t_letter a_t_letterAt a_t_told a_t_kept a_t_deep a_t_many a_t_row v_t_refused v_t_kind v_t_figure v_t_cause v_t_things v_t_day v_t_lost v_t_guarded v_t_tape (upd v_t_letter (Int32.toNatClampNeg v_t_statements) x1) v_t_letterAt v_t_told v_t_taped v_t_at v_t_statements v_t_kept v_t_hasImage v_t_isKeeping v_t_cursor v_t_deep v_t_nextWhen v_t_many v_t_row v_t_rowMany v_t_lots) H := hP
    have hD : va_D A (wX10 cA a_t a_t_refused a_t_kind a_t_figure a_t_cause a_t_tape a_t_letter a_t_letterAt a_t_told a_t_kept a_t_deep a_t_many a_t_row v_t_refused v_t_kind v_t_figure v_t_cause v_t_things v_t_day v_t_lost v_t_guarded v_t_tape (upd v_t_letter (Int32.toNatClampNeg v_t_statements) x1) v_t_letterAt v_t_told v_t_taped v_t_at v_t_statements v_t_kept v_t_hasImage v_t_isKeeping v_t_cursor v_t_deep v_t_nextWhen v_t_many v_t_row v_t_rowMany v_t_lots) := hD
    refine lv_aload_n hx hb dX10_statement_53 rfl (lv_at hl 0 rfl) ?_
    refine va_get (ci := 5) (v := .ref a_t_letterAt) (C := RX10) (T := TX10) (N := 25) hx hb hts hinX10 hown hK.1 hP 0 rfl rfl 10 (by decide) k_2 (fun _ h9 => h9) rfl dX10_statement_54 ?_
    refine lv_aload_n hx hb dX10_statement_57 rfl (lv_at hl 0 rfl) ?_
    refine va_get (ci := 5) (v := .int v_t_statements) (C := RX10) (T := TX10) (N := 25) hx hb hts hinX10 hown hK.1 hP 0 rfl rfl 14 (by decide) k_1 (fun _ h9 => h9) rfl dX10_statement_58 ?_
    refine lv_aload_n hx hb dX10_statement_61 rfl (lv_at hl 0 rfl) ?_
    refine va_get (ci := 5) (v := .int v_t_at) (C := RX10) (T := TX10) (N := 25) hx hb hts hinX10 hown hK.1 hP 0 rfl rfl 13 (by decide) k_3 (fun _ h9 => h9) rfl dX10_statement_62 ?_
    obtain ⟨i_4, h⟩ := xa_some h
    refine va_iast hx hb hK.1 hP hD hS 7 0 rfl rfl i_4 dX10_statement_65 (fun H locs hP hD hS => ?_)
    have hP : va_P D vwCl (wX10 cA a_t a_t_refused a_t_kind a_t_figure a_t_cause a_t_tape a_t_letter a_t_letterAt a_t_told a_t_kept a_t_deep a_t_many a_t_row v_t_refused v_t_kind v_t_figure v_t_cause v_t_things v_t_day v_t_lost v_t_guarded v_t_tape (upd v_t_letter (Int32.toNatClampNeg v_t_statements) x1) (upd v_t_letterAt (Int32.toNatClampNeg v_t_statements) v_t_at) v_t_told v_t_taped v_t_at v_t_statements v_t_kept v_t_hasImage v_t_isKeeping v_t_cursor v_t_deep v_t_nextWhen v_t_many v_t_row v_t_rowMany v_t_lots) H := hP
    have hD : va_D A (wX10 cA a_t a_t_refused a_t_kind a_t_figure a_t_cause a_t_tape a_t_letter a_t_letterAt a_t_told a_t_kept a_t_deep a_t_many a_t_row v_t_refused v_t_kind v_t_figure v_t_cause v_t_things v_t_day v_t_lost v_t_guarded v_t_tape (upd v_t_letter (Int32.toNatClampNeg v_t_statements) x1) (upd v_t_letterAt (Int32.toNatClampNeg v_t_statements) v_t_at) v_t_told v_t_taped v_t_at v_t_statements v_t_kept v_t_hasImage v_t_isKeeping v_t_cursor v_t_deep v_t_nextWhen v_t_many v_t_row v_t_rowMany v_t_lots) := hD
    refine lv_aload_n hx hb dX10_statement_66 rfl (lv_at hl 0 rfl) ?_
    refine lv_dup hx hb dX10_statement_67 rfl ?_
    refine va_get (ci := 5) (v := .int v_t_at) (C := RX10) (T := TX10) (N := 25) hx hb hts hinX10 hown hK.1 hP 0 rfl rfl 13 (by decide) k_3 (fun _ h9 => h9) rfl dX10_statement_68 ?_
    refine lv_iconst (v := 1) hx hb dX10_statement_71 (by decide) ?_
    refine lv_iadd hx hb dX10_statement_72 ?_
    refine va_put (ci := 5) (v := .int (v_t_at + 1)) (ty := tyX10 13) (C := RX10) (T := TX10) (N := 25) hx hb hts hinX10 tyX10 tyX10_ok nmX10 hown hK.1 hP hD hS 0 rfl rfl 13 (by decide) k_3 (fun _ h9 => h9) rfl (tyX10_ok 13 (by decide)) rfl rfl (Nat.le_of_ble_eq_true rfl) dX10_statement_73 (fun H locs hP hD hS => ?_)
    have hP : va_P D vwCl (wX10 cA a_t a_t_refused a_t_kind a_t_figure a_t_cause a_t_tape a_t_letter a_t_letterAt a_t_told a_t_kept a_t_deep a_t_many a_t_row v_t_refused v_t_kind v_t_figure v_t_cause v_t_things v_t_day v_t_lost v_t_guarded v_t_tape (upd v_t_letter (Int32.toNatClampNeg v_t_statements) x1) (upd v_t_letterAt (Int32.toNatClampNeg v_t_statements) v_t_at) v_t_told v_t_taped (v_t_at + 1) v_t_statements v_t_kept v_t_hasImage v_t_isKeeping v_t_cursor v_t_deep v_t_nextWhen v_t_many v_t_row v_t_rowMany v_t_lots) H := hP
    have hD : va_D A (wX10 cA a_t a_t_refused a_t_kind a_t_figure a_t_cause a_t_tape a_t_letter a_t_letterAt a_t_told a_t_kept a_t_deep a_t_many a_t_row v_t_refused v_t_kind v_t_figure v_t_cause v_t_things v_t_day v_t_lost v_t_guarded v_t_tape (upd v_t_letter (Int32.toNatClampNeg v_t_statements) x1) (upd v_t_letterAt (Int32.toNatClampNeg v_t_statements) v_t_at) v_t_told v_t_taped (v_t_at + 1) v_t_statements v_t_kept v_t_hasImage v_t_isKeeping v_t_cursor v_t_deep v_t_nextWhen v_t_many v_t_row v_t_rowMany v_t_lots) := hD
    refine lv_aload_n hx hb dX10_statement_76 rfl (lv_at hl 0 rfl) ?_
    refine lv_iload_n hx hb dX10_statement_77 rfl (lv_at hl 1 rfl) ?_
    refine lv_iconst (v := 2) hx hb dX10_statement_78 (by decide) ?_
    refine lv_aload_n hx hb dX10_statement_79 rfl (lv_at hl 0 rfl) ?_
    refine va_get (ci := 5) (v := .int v_t_statements) (C := RX10) (T := TX10) (N := 25) hx hb hts hinX10 hown hK.1 hP 0 rfl rfl 14 (by decide) k_1 (fun _ h9 => h9) rfl dX10_statement_80 ?_
    refine lv_imul hx hb dX10_statement_83 ?_
    obtain ⟨x_5, hc_5, h⟩ := bd_some h
    refine xk_V (rest := []) (As := [.int x1, .int (2 * v_t_statements)]) (stk := [.int x_5.1]) (wn := (wX10 cA a_t a_t_refused a_t_kind a_t_figure a_t_cause a_t_tape a_t_letter a_t_letterAt a_t_told a_t_kept a_t_deep a_t_many a_t_row v_t_refused v_t_kind v_t_figure v_t_cause v_t_things v_t_day v_t_lost v_t_guarded v_t_tape (upd v_t_letter (Int32.toNatClampNeg v_t_statements) x1) (upd v_t_letterAt (Int32.toNatClampNeg v_t_statements) v_t_at) x_5.2.1 v_t_taped x_5.2.2 v_t_statements v_t_kept v_t_hasImage v_t_isKeeping v_t_cursor v_t_deep v_t_nextWhen v_t_many v_t_row v_t_rowMany v_t_lots)) (v := (some (.int x_5.1))) (wr := []) gX10_statement_X10_readsAll rfl hdV_X10_readsAll rfl rfl (c_X10_readsAll l D cA sa sv a_t a_t_refused a_t_kind a_t_figure a_t_cause a_t_tape a_t_letter a_t_letterAt a_t_told a_t_kept a_t_deep a_t_many a_t_row _ v_t_refused v_t_kind v_t_figure v_t_cause v_t_things v_t_day v_t_lost v_t_guarded v_t_tape (upd v_t_letter (Int32.toNatClampNeg v_t_statements) x1) (upd v_t_letterAt (Int32.toNatClampNeg v_t_statements) v_t_at) v_t_told v_t_taped (v_t_at + 1) v_t_statements v_t_kept v_t_hasImage v_t_isKeeping v_t_cursor v_t_deep v_t_nextWhen v_t_many v_t_row v_t_rowMany v_t_lots x1 (2 * v_t_statements) F x_5 hc_5) (ci := 5) rfl (q0 := 0) rfl S hK hP hD hS hA [0, 1, 2, 3, 4, 5, 6, 7, 8, 9, 10, 11, 12] [] [0, 1, 2, 3, 4, 5, 6, 7, 8, 9, 10, 11, 12] rfl rfl rfl rfl rfl rfl rfl ⟨Nat.le_of_ble_eq_true rfl, Nat.le_of_ble_eq_true rfl⟩ ⟨Nat.le_refl 0, Nat.le_refl 0⟩ rfl hl.1 rfl (Nat.le_of_ble_eq_true rfl) rfl dX10_statement_84 (fun H locs hP hD hS => ?_)
    refine lv_if_eq (tgt := 99) hx hb dX10_statement_87 (by decide) (fun c_6 => ?_) (fun c_6 => ?_)
    · have h := (if_pos c_6).symm.trans h
      refine lv_iconst (v := 0) hx hb dX10_statement_99 (by decide) ?_
      obtain rfl := Option.some.inj h
      exact xk_zret rfl hx hb hr hlk hP hD hS (hQ _) dX10_statement_100
    · have h := (if_neg c_6).symm.trans h
      refine lv_aload_n hx hb dX10_statement_90 rfl (lv_at hl 0 rfl) ?_
      obtain ⟨x_7, hc_7, h⟩ := bd_some h
      refine xk_V (rest := []) (As := []) (stk := [.int x_7]) (wn := (wX10 cA a_t a_t_refused a_t_kind a_t_figure a_t_cause a_t_tape a_t_letter a_t_letterAt a_t_told a_t_kept a_t_deep a_t_many a_t_row v_t_refused v_t_kind v_t_figure v_t_cause v_t_things v_t_day v_t_lost v_t_guarded v_t_tape (upd v_t_letter (Int32.toNatClampNeg v_t_statements) x1) (upd v_t_letterAt (Int32.toNatClampNeg v_t_statements) v_t_at) x_5.2.1 v_t_taped x_5.2.2 v_t_statements v_t_kept v_t_hasImage v_t_isKeeping v_t_cursor v_t_deep v_t_nextWhen v_t_many v_t_row v_t_rowMany v_t_lots)) (v := (some (.int x_7))) (wr := []) gX10_statement_X10_next rfl hdV_X10_next rfl rfl (c_X10_next l D cA sa sv a_t a_t_refused a_t_kind a_t_figure a_t_cause a_t_tape a_t_letter a_t_letterAt a_t_told a_t_kept a_t_deep a_t_many a_t_row _ v_t_refused v_t_kind v_t_figure v_t_cause v_t_things v_t_day v_t_lost v_t_guarded v_t_tape (upd v_t_letter (Int32.toNatClampNeg v_t_statements) x1) (upd v_t_letterAt (Int32.toNatClampNeg v_t_statements) v_t_at) x_5.2.1 v_t_taped x_5.2.2 v_t_statements v_t_kept v_t_hasImage v_t_isKeeping v_t_cursor v_t_deep v_t_nextWhen v_t_many v_t_row v_t_rowMany v_t_lots x_7 hc_7) (ci := 5) rfl (q0 := 0) rfl S hK hP hD hS hA [0, 1, 2, 3, 4, 5, 6, 7, 8, 9, 10, 11, 12] [] [0, 1, 2, 3, 4, 5, 6, 7, 8, 9, 10, 11, 12] rfl rfl rfl rfl rfl rfl rfl ⟨Nat.le_of_ble_eq_true rfl, Nat.le_of_ble_eq_true rfl⟩ ⟨Nat.le_refl 0, Nat.le_refl 0⟩ rfl hl.1 rfl (Nat.le_of_ble_eq_true rfl) rfl dX10_statement_91 (fun H locs hP hD hS => ?_)
      refine lv_bipush (v := 59) hx hb dX10_statement_94 (by decide) ?_
      refine lv_icmp_eq (tgt := 101) hx hb dX10_statement_96 (by decide) (fun c_8 => ?_) (fun c_8 => ?_)
      · have h := (if_pos c_8).symm.trans h
        refine lv_aload_n hx hb dX10_statement_101 rfl (lv_at hl 0 rfl) ?_
        refine lv_dup hx hb dX10_statement_102 rfl ?_
        refine va_get (ci := 5) (v := .int x_5.2.2) (C := RX10) (T := TX10) (N := 25) hx hb hts hinX10 hown hK.1 hP 0 rfl rfl 13 (by decide) k_3 (fun _ h9 => h9) rfl dX10_statement_103 ?_
        refine lv_iconst (v := 1) hx hb dX10_statement_106 (by decide) ?_
        refine lv_iadd hx hb dX10_statement_107 ?_
        refine va_put (ci := 5) (v := .int (x_5.2.2 + 1)) (ty := tyX10 13) (C := RX10) (T := TX10) (N := 25) hx hb hts hinX10 tyX10 tyX10_ok nmX10 hown hK.1 hP hD hS 0 rfl rfl 13 (by decide) k_3 (fun _ h9 => h9) rfl (tyX10_ok 13 (by decide)) rfl rfl (Nat.le_of_ble_eq_true rfl) dX10_statement_108 (fun H locs hP hD hS => ?_)
        have hP : va_P D vwCl (wX10 cA a_t a_t_refused a_t_kind a_t_figure a_t_cause a_t_tape a_t_letter a_t_letterAt a_t_told a_t_kept a_t_deep a_t_many a_t_row v_t_refused v_t_kind v_t_figure v_t_cause v_t_things v_t_day v_t_lost v_t_guarded v_t_tape (upd v_t_letter (Int32.toNatClampNeg v_t_statements) x1) (upd v_t_letterAt (Int32.toNatClampNeg v_t_statements) v_t_at) x_5.2.1 v_t_taped (x_5.2.2 + 1) v_t_statements v_t_kept v_t_hasImage v_t_isKeeping v_t_cursor v_t_deep v_t_nextWhen v_t_many v_t_row v_t_rowMany v_t_lots) H := hP
        have hD : va_D A (wX10 cA a_t a_t_refused a_t_kind a_t_figure a_t_cause a_t_tape a_t_letter a_t_letterAt a_t_told a_t_kept a_t_deep a_t_many a_t_row v_t_refused v_t_kind v_t_figure v_t_cause v_t_things v_t_day v_t_lost v_t_guarded v_t_tape (upd v_t_letter (Int32.toNatClampNeg v_t_statements) x1) (upd v_t_letterAt (Int32.toNatClampNeg v_t_statements) v_t_at) x_5.2.1 v_t_taped (x_5.2.2 + 1) v_t_statements v_t_kept v_t_hasImage v_t_isKeeping v_t_cursor v_t_deep v_t_nextWhen v_t_many v_t_row v_t_rowMany v_t_lots) := hD
        refine lv_iconst (v := 1) hx hb dX10_statement_111 (by decide) ?_
        obtain rfl := Option.some.inj h
        exact xk_zret rfl hx hb hr hlk hP hD hS (hQ _) dX10_statement_112
      · have h := (if_neg c_8).symm.trans h
        refine lv_iconst (v := 0) hx hb dX10_statement_99 (by decide) ?_
        obtain rfl := Option.some.inj h
        exact xk_zret rfl hx hb hr hlk hP hD hS (hQ _) dX10_statement_100
  unfold f_X10_statement at h
  refine lv_aload_n hx hb dX10_statement_0 rfl (lv_at hl 0 rfl) ?_
  obtain ⟨x_1, hc_1, h⟩ := bd_some h
  refine xk_V (rest := []) (As := []) (stk := [.int x_1]) (wn := (wX10 cA a_t a_t_refused a_t_kind a_t_figure a_t_cause a_t_tape a_t_letter a_t_letterAt a_t_told a_t_kept a_t_deep a_t_many a_t_row v_t_refused v_t_kind v_t_figure v_t_cause v_t_things v_t_day v_t_lost v_t_guarded v_t_tape v_t_letter v_t_letterAt v_t_told v_t_taped v_t_at v_t_statements v_t_kept v_t_hasImage v_t_isKeeping v_t_cursor v_t_deep v_t_nextWhen v_t_many v_t_row v_t_rowMany v_t_lots)) (v := (some (.int x_1))) (wr := []) gX10_statement_X10_next rfl hdV_X10_next rfl rfl (c_X10_next l D cA sa sv a_t a_t_refused a_t_kind a_t_figure a_t_cause a_t_tape a_t_letter a_t_letterAt a_t_told a_t_kept a_t_deep a_t_many a_t_row _ v_t_refused v_t_kind v_t_figure v_t_cause v_t_things v_t_day v_t_lost v_t_guarded v_t_tape v_t_letter v_t_letterAt v_t_told v_t_taped v_t_at v_t_statements v_t_kept v_t_hasImage v_t_isKeeping v_t_cursor v_t_deep v_t_nextWhen v_t_many v_t_row v_t_rowMany v_t_lots x_1 hc_1) (ci := 5) rfl (q0 := 0) rfl S hK hP hD hS hA [0, 1, 2, 3, 4, 5, 6, 7, 8, 9, 10, 11, 12] [] [0, 1, 2, 3, 4, 5, 6, 7, 8, 9, 10, 11, 12] rfl rfl rfl rfl rfl rfl rfl ⟨Nat.le_of_ble_eq_true rfl, Nat.le_of_ble_eq_true rfl⟩ ⟨Nat.le_refl 0, Nat.le_refl 0⟩ rfl hl.1 rfl (Nat.le_of_ble_eq_true rfl) rfl dX10_statement_1 (fun H locs hP hD hS => ?_)
  refine lv_istore_n (lv' := [(1, .int x_1), (0, .ref a_t)]) hx hb dX10_statement_4 rfl hl (by decide) rfl (fun ls hl => ?_)
  refine lv_iload_n hx hb dX10_statement_5 rfl (lv_at hl 0 rfl) ?_
  refine lv_bipush (v := 116) hx hb dX10_statement_6 (by decide) ?_
  refine lv_icmp_eq (tgt := 43) hx hb dX10_statement_8 (by decide) (fun c_2 => ?_) (fun c_2 => ?_)
  · have h := (if_pos c_2).symm.trans h
    exact J_43 x_1 v_t_letter v_t_letterAt v_t_told v_t_at _ h _ _ _ hP hD hS (lv_sub hl [1, 0] rfl)
  · have h := (if_neg c_2).symm.trans h
    refine lv_iload_n hx hb dX10_statement_11 rfl (lv_at hl 0 rfl) ?_
    refine lv_bipush (v := 99) hx hb dX10_statement_12 (by decide) ?_
    refine lv_icmp_eq (tgt := 43) hx hb dX10_statement_14 (by decide) (fun c_9 => ?_) (fun c_9 => ?_)
    · have h := (if_pos c_9).symm.trans h
      exact J_43 x_1 v_t_letter v_t_letterAt v_t_told v_t_at _ h _ _ _ hP hD hS (lv_sub hl [1, 0] rfl)
    · have h := (if_neg c_9).symm.trans h
      refine lv_iload_n hx hb dX10_statement_17 rfl (lv_at hl 0 rfl) ?_
      refine lv_bipush (v := 108) hx hb dX10_statement_18 (by decide) ?_
      refine lv_icmp_eq (tgt := 43) hx hb dX10_statement_20 (by decide) (fun c_10 => ?_) (fun c_10 => ?_)
      · have h := (if_pos c_10).symm.trans h
        exact J_43 x_1 v_t_letter v_t_letterAt v_t_told v_t_at _ h _ _ _ hP hD hS (lv_sub hl [1, 0] rfl)
      · have h := (if_neg c_10).symm.trans h
        refine lv_iload_n hx hb dX10_statement_23 rfl (lv_at hl 0 rfl) ?_
        refine lv_bipush (v := 109) hx hb dX10_statement_24 (by decide) ?_
        refine lv_icmp_eq (tgt := 43) hx hb dX10_statement_26 (by decide) (fun c_11 => ?_) (fun c_11 => ?_)
        · have h := (if_pos c_11).symm.trans h
          exact J_43 x_1 v_t_letter v_t_letterAt v_t_told v_t_at _ h _ _ _ hP hD hS (lv_sub hl [1, 0] rfl)
        · have h := (if_neg c_11).symm.trans h
          refine lv_iload_n hx hb dX10_statement_29 rfl (lv_at hl 0 rfl) ?_
          refine lv_bipush (v := 103) hx hb dX10_statement_30 (by decide) ?_
          refine lv_icmp_eq (tgt := 43) hx hb dX10_statement_32 (by decide) (fun c_12 => ?_) (fun c_12 => ?_)
          · have h := (if_pos c_12).symm.trans h
            exact J_43 x_1 v_t_letter v_t_letterAt v_t_told v_t_at _ h _ _ _ hP hD hS (lv_sub hl [1, 0] rfl)
          · have h := (if_neg c_12).symm.trans h
            refine lv_iload_n hx hb dX10_statement_35 rfl (lv_at hl 0 rfl) ?_
            refine lv_bipush (v := 100) hx hb dX10_statement_36 (by decide) ?_
            refine lv_icmp_eq (tgt := 43) hx hb dX10_statement_38 (by decide) (fun c_13 => ?_) (fun c_13 => ?_)
            · have h := (if_pos c_13).symm.trans h
              exact J_43 x_1 v_t_letter v_t_letterAt v_t_told v_t_at _ h _ _ _ hP hD hS (lv_sub hl [1, 0] rfl)
            · have h := (if_neg c_13).symm.trans h
              refine lv_iconst (v := 0) hx hb dX10_statement_41 (by decide) ?_
              obtain rfl := Option.some.inj h
              exact xk_zret rfl hx hb hr hlk hP hD hS (hQ _) dX10_statement_42
set_option maxHeartbeats 4000000 in
set_option maxRecDepth 100000 in
theorem c_X10_comesThing (l : Launch) (D : va_G) (cA : ClassId) (sa sv : Nat → Nat) (a_t a_t_refused a_t_kind a_t_figure a_t_cause a_t_tape a_t_letter a_t_letterAt a_t_told a_t_kept a_t_deep a_t_many a_t_row : Nat) (sz : Nat) (v_t_refused : Nat → Int32) (v_t_kind : Nat → Int32) (v_t_figure : Nat → Int32) (v_t_cause : Nat → Int32) (v_t_things : Int32) (v_t_day : Int32) (v_t_lost : Int32) (v_t_guarded : Int32) (v_t_tape : Nat → Int32) (v_t_letter : Nat → Int32) (v_t_letterAt : Nat → Int32) (v_t_told : Nat → Int32) (v_t_taped : Int32) (v_t_at : Int32) (v_t_statements : Int32) (v_t_kept : Nat → Int32) (v_t_hasImage : Int32) (v_t_isKeeping : Int32) (v_t_cursor : Int32) (v_t_deep : Nat → Int32) (v_t_nextWhen : Int32) (v_t_many : Nat → Int32) (v_t_row : Nat → Int32) (v_t_rowMany : Int32) (v_t_lots : Int32) (p1 : Int32) (p2 : Int32) (res : Int32 × (Nat → Int32) × (Nat → Int32) × (Nat → Int32) × Int32 × Int32 × Int32) (h : f_X10_comesThing v_t_kind v_t_figure v_t_cause v_t_things v_t_lost v_t_guarded p1 p2 = some res) : Met l yX10_comesThing wsX10_comesThing { frames := 0, cells := 0, slots := 0, locals := 0 } (xk_Pc D cA sa sv (wX10 cA a_t a_t_refused a_t_kind a_t_figure a_t_cause a_t_tape a_t_letter a_t_letterAt a_t_told a_t_kept a_t_deep a_t_many a_t_row v_t_refused v_t_kind v_t_figure v_t_cause v_t_things v_t_day v_t_lost v_t_guarded v_t_tape v_t_letter v_t_letterAt v_t_told v_t_taped v_t_at v_t_statements v_t_kept v_t_hasImage v_t_isKeeping v_t_cursor v_t_deep v_t_nextWhen v_t_many v_t_row v_t_rowMany v_t_lots) sz [.ref a_t, .int p1, .int p2]) (xk_Q D (va_A (wX10 cA a_t a_t_refused a_t_kind a_t_figure a_t_cause a_t_tape a_t_letter a_t_letterAt a_t_told a_t_kept a_t_deep a_t_many a_t_row v_t_refused v_t_kind v_t_figure v_t_cause v_t_things v_t_day v_t_lost v_t_guarded v_t_tape v_t_letter v_t_letterAt v_t_told v_t_taped v_t_at v_t_statements v_t_kept v_t_hasImage v_t_isKeeping v_t_cursor v_t_deep v_t_nextWhen v_t_many v_t_row v_t_rowMany v_t_lots) sz) (some (.int res.1)) (wX10 cA a_t a_t_refused a_t_kind a_t_figure a_t_cause a_t_tape a_t_letter a_t_letterAt a_t_told a_t_kept a_t_deep a_t_many a_t_row v_t_refused res.2.1 res.2.2.1 res.2.2.2.1 res.2.2.2.2.1 v_t_day res.2.2.2.2.2.1 res.2.2.2.2.2.2 v_t_tape v_t_letter v_t_letterAt v_t_told v_t_taped v_t_at v_t_statements v_t_kept v_t_hasImage v_t_isKeeping v_t_cursor v_t_deep v_t_nextWhen v_t_many v_t_row v_t_rowMany v_t_lots)) 0 0 (va_A (wX10 cA a_t a_t_refused a_t_kind a_t_figure a_t_cause a_t_tape a_t_letter a_t_letterAt a_t_told a_t_kept a_t_deep a_t_many a_t_row v_t_refused v_t_kind v_t_figure v_t_cause v_t_things v_t_day v_t_lost v_t_guarded v_t_tape v_t_letter v_t_letterAt v_t_told v_t_taped v_t_at v_t_statements v_t_kept v_t_hasImage v_t_isKeeping v_t_cursor v_t_deep v_t_nextWhen v_t_many v_t_row v_t_rowMany v_t_lots) sz) := by
  refine xk_met (fun res : Int32 × (Nat → Int32) × (Nat → Int32) × (Nat → Int32) × Int32 × Int32 × Int32 => some (.int res.1)) (fun res : Int32 × (Nat → Int32) × (Nat → Int32) × (Nat → Int32) × Int32 × Int32 × Int32 => (wX10 cA a_t a_t_refused a_t_kind a_t_figure a_t_cause a_t_tape a_t_letter a_t_letterAt a_t_told a_t_kept a_t_deep a_t_many a_t_row v_t_refused res.2.1 res.2.2.1 res.2.2.2.1 res.2.2.2.2.1 v_t_day res.2.2.2.2.2.1 res.2.2.2.2.2.2 v_t_tape v_t_letter v_t_letterAt v_t_told v_t_taped v_t_at v_t_statements v_t_kept v_t_hasImage v_t_isKeeping v_t_cursor v_t_deep v_t_nextWhen v_t_many v_t_row v_t_rowMany v_t_lots)) res (cc := cX10_comesThing) (maxL := 3) (ret := (some .boolean)) (by decide) rfl (Nat.le_of_ble_eq_true rfl) ?_
  intro p e s m args below meth c A Q ls hQ hx hb hr hlk hml hown hts hK hP hD hS hA hl
  have S : CallFix p m c cX10_comesThing 3 s args wsX10_comesThing RX10 := ⟨hx, hb, hml, hown, hts⟩
  have hl : lv_has ls 3 [(0, .ref a_t), (1, .int p1), (2, .int p2)] := hl
  have hinX10 : ∀ w ∈ u_ws RX10 TX10 25, w ∈ wsX10_comesThing := fun _ h => List.mem_cons_of_mem _ (List.mem_append_right _ (h))
  have k_0 := hts (.fieldLink RX10 46 "NailsWantTheKingdomModel" "things" "I") (List.mem_of_getElem? (i := 1) (by decide +kernel))
  have k_1 := hts (.fieldLink RX10 13 "NailsWantTheKingdomModel" "kind" "[I") (List.mem_of_getElem? (i := 2) (by decide +kernel))
  have k_2 := hts (.fieldLink RX10 16 "NailsWantTheKingdomModel" "figure" "[I") (List.mem_of_getElem? (i := 3) (by decide +kernel))
  have k_3 := hts (.fieldLink RX10 19 "NailsWantTheKingdomModel" "cause" "[I") (List.mem_of_getElem? (i := 4) (by decide +kernel))
  have k_4 := hts (.fieldLink RX10 94 "NailsWantTheKingdomModel" "lost" "I") (List.mem_of_getElem? (i := 5) (by decide +kernel))
  have k_5 := hts (.fieldLink RX10 97 "NailsWantTheKingdomModel" "guarded" "I") (List.mem_of_getElem? (i := 6) (by decide +kernel))
  unfold f_X10_comesThing at h
  refine lv_aload_n hx hb dX10_comesThing_0 rfl (lv_at hl 0 rfl) ?_
  refine va_get (ci := 5) (v := .int v_t_things) (C := RX10) (T := TX10) (N := 25) hx hb hts hinX10 hown hK.1 hP 0 rfl rfl 4 (by decide) k_0 (fun _ h9 => h9) rfl dX10_comesThing_1 ?_
  refine lv_bipush (v := 9) hx hb dX10_comesThing_4 (by decide) ?_
  refine lv_icmp_ne (tgt := 11) hx hb dX10_comesThing_6 (by decide) (fun c_1 => ?_) (fun c_1 => ?_)
  · have h := (if_neg c_1).symm.trans h
    refine lv_aload_n hx hb dX10_comesThing_11 rfl (lv_at hl 0 rfl) ?_
    refine va_get (ci := 5) (v := .ref a_t_kind) (C := RX10) (T := TX10) (N := 25) hx hb hts hinX10 hown hK.1 hP 0 rfl rfl 1 (by decide) k_1 (fun _ h9 => h9) rfl dX10_comesThing_12 ?_
    refine lv_aload_n hx hb dX10_comesThing_15 rfl (lv_at hl 0 rfl) ?_
    refine va_get (ci := 5) (v := .int v_t_things) (C := RX10) (T := TX10) (N := 25) hx hb hts hinX10 hown hK.1 hP 0 rfl rfl 4 (by decide) k_0 (fun _ h9 => h9) rfl dX10_comesThing_16 ?_
    refine lv_iload_n hx hb dX10_comesThing_19 rfl (lv_at hl 1 rfl) ?_
    obtain ⟨i_2, h⟩ := xa_some h
    refine va_iast hx hb hK.1 hP hD hS 2 0 rfl rfl i_2 dX10_comesThing_20 (fun H locs hP hD hS => ?_)
    have hP : va_P D vwCl (wX10 cA a_t a_t_refused a_t_kind a_t_figure a_t_cause a_t_tape a_t_letter a_t_letterAt a_t_told a_t_kept a_t_deep a_t_many a_t_row v_t_refused (upd v_t_kind (Int32.toNatClampNeg v_t_things) p1) v_t_figure v_t_cause v_t_things v_t_day v_t_lost v_t_guarded v_t_tape v_t_letter v_t_letterAt v_t_told v_t_taped v_t_at v_t_statements v_t_kept v_t_hasImage v_t_isKeeping v_t_cursor v_t_deep v_t_nextWhen v_t_many v_t_row v_t_rowMany v_t_lots) H := hP
    have hD : va_D A (wX10 cA a_t a_t_refused a_t_kind a_t_figure a_t_cause a_t_tape a_t_letter a_t_letterAt a_t_told a_t_kept a_t_deep a_t_many a_t_row v_t_refused (upd v_t_kind (Int32.toNatClampNeg v_t_things) p1) v_t_figure v_t_cause v_t_things v_t_day v_t_lost v_t_guarded v_t_tape v_t_letter v_t_letterAt v_t_told v_t_taped v_t_at v_t_statements v_t_kept v_t_hasImage v_t_isKeeping v_t_cursor v_t_deep v_t_nextWhen v_t_many v_t_row v_t_rowMany v_t_lots) := hD
    refine lv_aload_n hx hb dX10_comesThing_21 rfl (lv_at hl 0 rfl) ?_
    refine va_get (ci := 5) (v := .ref a_t_figure) (C := RX10) (T := TX10) (N := 25) hx hb hts hinX10 hown hK.1 hP 0 rfl rfl 2 (by decide) k_2 (fun _ h9 => h9) rfl dX10_comesThing_22 ?_
    refine lv_aload_n hx hb dX10_comesThing_25 rfl (lv_at hl 0 rfl) ?_
    refine va_get (ci := 5) (v := .int v_t_things) (C := RX10) (T := TX10) (N := 25) hx hb hts hinX10 hown hK.1 hP 0 rfl rfl 4 (by decide) k_0 (fun _ h9 => h9) rfl dX10_comesThing_26 ?_
    refine lv_iload_n hx hb dX10_comesThing_29 rfl (lv_at hl 2 rfl) ?_
    obtain ⟨i_3, h⟩ := xa_some h
    refine va_iast hx hb hK.1 hP hD hS 3 0 rfl rfl i_3 dX10_comesThing_30 (fun H locs hP hD hS => ?_)
    have hP : va_P D vwCl (wX10 cA a_t a_t_refused a_t_kind a_t_figure a_t_cause a_t_tape a_t_letter a_t_letterAt a_t_told a_t_kept a_t_deep a_t_many a_t_row v_t_refused (upd v_t_kind (Int32.toNatClampNeg v_t_things) p1) (upd v_t_figure (Int32.toNatClampNeg v_t_things) p2) v_t_cause v_t_things v_t_day v_t_lost v_t_guarded v_t_tape v_t_letter v_t_letterAt v_t_told v_t_taped v_t_at v_t_statements v_t_kept v_t_hasImage v_t_isKeeping v_t_cursor v_t_deep v_t_nextWhen v_t_many v_t_row v_t_rowMany v_t_lots) H := hP
    have hD : va_D A (wX10 cA a_t a_t_refused a_t_kind a_t_figure a_t_cause a_t_tape a_t_letter a_t_letterAt a_t_told a_t_kept a_t_deep a_t_many a_t_row v_t_refused (upd v_t_kind (Int32.toNatClampNeg v_t_things) p1) (upd v_t_figure (Int32.toNatClampNeg v_t_things) p2) v_t_cause v_t_things v_t_day v_t_lost v_t_guarded v_t_tape v_t_letter v_t_letterAt v_t_told v_t_taped v_t_at v_t_statements v_t_kept v_t_hasImage v_t_isKeeping v_t_cursor v_t_deep v_t_nextWhen v_t_many v_t_row v_t_rowMany v_t_lots) := hD
    refine lv_aload_n hx hb dX10_comesThing_31 rfl (lv_at hl 0 rfl) ?_
    refine va_get (ci := 5) (v := .ref a_t_cause) (C := RX10) (T := TX10) (N := 25) hx hb hts hinX10 hown hK.1 hP 0 rfl rfl 3 (by decide) k_3 (fun _ h9 => h9) rfl dX10_comesThing_32 ?_
    refine lv_aload_n hx hb dX10_comesThing_35 rfl (lv_at hl 0 rfl) ?_
    refine va_get (ci := 5) (v := .int v_t_things) (C := RX10) (T := TX10) (N := 25) hx hb hts hinX10 hown hK.1 hP 0 rfl rfl 4 (by decide) k_0 (fun _ h9 => h9) rfl dX10_comesThing_36 ?_
    refine lv_iconst (v := 0) hx hb dX10_comesThing_39 (by decide) ?_
    obtain ⟨i_4, h⟩ := xa_some h
    refine va_iast hx hb hK.1 hP hD hS 4 0 rfl rfl i_4 dX10_comesThing_40 (fun H locs hP hD hS => ?_)
    have hP : va_P D vwCl (wX10 cA a_t a_t_refused a_t_kind a_t_figure a_t_cause a_t_tape a_t_letter a_t_letterAt a_t_told a_t_kept a_t_deep a_t_many a_t_row v_t_refused (upd v_t_kind (Int32.toNatClampNeg v_t_things) p1) (upd v_t_figure (Int32.toNatClampNeg v_t_things) p2) (upd v_t_cause (Int32.toNatClampNeg v_t_things) 0) v_t_things v_t_day v_t_lost v_t_guarded v_t_tape v_t_letter v_t_letterAt v_t_told v_t_taped v_t_at v_t_statements v_t_kept v_t_hasImage v_t_isKeeping v_t_cursor v_t_deep v_t_nextWhen v_t_many v_t_row v_t_rowMany v_t_lots) H := hP
    have hD : va_D A (wX10 cA a_t a_t_refused a_t_kind a_t_figure a_t_cause a_t_tape a_t_letter a_t_letterAt a_t_told a_t_kept a_t_deep a_t_many a_t_row v_t_refused (upd v_t_kind (Int32.toNatClampNeg v_t_things) p1) (upd v_t_figure (Int32.toNatClampNeg v_t_things) p2) (upd v_t_cause (Int32.toNatClampNeg v_t_things) 0) v_t_things v_t_day v_t_lost v_t_guarded v_t_tape v_t_letter v_t_letterAt v_t_told v_t_taped v_t_at v_t_statements v_t_kept v_t_hasImage v_t_isKeeping v_t_cursor v_t_deep v_t_nextWhen v_t_many v_t_row v_t_rowMany v_t_lots) := hD
    refine lv_aload_n hx hb dX10_comesThing_41 rfl (lv_at hl 0 rfl) ?_
    refine lv_dup hx hb dX10_comesThing_42 rfl ?_
    refine va_get (ci := 5) (v := .int v_t_lost) (C := RX10) (T := TX10) (N := 25) hx hb hts hinX10 hown hK.1 hP 0 rfl rfl 6 (by decide) k_4 (fun _ h9 => h9) rfl dX10_comesThing_43 ?_
    refine lv_iconst (v := 1) hx hb dX10_comesThing_46 (by decide) ?_
    refine lv_aload_n hx hb dX10_comesThing_47 rfl (lv_at hl 0 rfl) ?_
    refine va_get (ci := 5) (v := .int v_t_things) (C := RX10) (T := TX10) (N := 25) hx hb hts hinX10 hown hK.1 hP 0 rfl rfl 4 (by decide) k_0 (fun _ h9 => h9) rfl dX10_comesThing_48 ?_
    refine lv_ishl hx hb dX10_comesThing_51 ?_
    refine lv_iconst (v := (-1)) hx hb dX10_comesThing_52 (by decide) ?_
    refine lv_ixor hx hb dX10_comesThing_53 ?_
    refine lv_iand hx hb dX10_comesThing_54 ?_
    refine va_put (ci := 5) (v := .int (v_t_lost &&& ((1 <<< (v_t_things &&& 31)) ^^^ (-1)))) (ty := tyX10 6) (C := RX10) (T := TX10) (N := 25) hx hb hts hinX10 tyX10 tyX10_ok nmX10 hown hK.1 hP hD hS 0 rfl rfl 6 (by decide) k_4 (fun _ h9 => h9) rfl (tyX10_ok 6 (by decide)) rfl rfl (Nat.le_of_ble_eq_true rfl) dX10_comesThing_55 (fun H locs hP hD hS => ?_)
    have hP : va_P D vwCl (wX10 cA a_t a_t_refused a_t_kind a_t_figure a_t_cause a_t_tape a_t_letter a_t_letterAt a_t_told a_t_kept a_t_deep a_t_many a_t_row v_t_refused (upd v_t_kind (Int32.toNatClampNeg v_t_things) p1) (upd v_t_figure (Int32.toNatClampNeg v_t_things) p2) (upd v_t_cause (Int32.toNatClampNeg v_t_things) 0) v_t_things v_t_day (v_t_lost &&& ((1 <<< (v_t_things &&& 31)) ^^^ (-1))) v_t_guarded v_t_tape v_t_letter v_t_letterAt v_t_told v_t_taped v_t_at v_t_statements v_t_kept v_t_hasImage v_t_isKeeping v_t_cursor v_t_deep v_t_nextWhen v_t_many v_t_row v_t_rowMany v_t_lots) H := hP
    have hD : va_D A (wX10 cA a_t a_t_refused a_t_kind a_t_figure a_t_cause a_t_tape a_t_letter a_t_letterAt a_t_told a_t_kept a_t_deep a_t_many a_t_row v_t_refused (upd v_t_kind (Int32.toNatClampNeg v_t_things) p1) (upd v_t_figure (Int32.toNatClampNeg v_t_things) p2) (upd v_t_cause (Int32.toNatClampNeg v_t_things) 0) v_t_things v_t_day (v_t_lost &&& ((1 <<< (v_t_things &&& 31)) ^^^ (-1))) v_t_guarded v_t_tape v_t_letter v_t_letterAt v_t_told v_t_taped v_t_at v_t_statements v_t_kept v_t_hasImage v_t_isKeeping v_t_cursor v_t_deep v_t_nextWhen v_t_many v_t_row v_t_rowMany v_t_lots) := hD
    refine lv_aload_n hx hb dX10_comesThing_58 rfl (lv_at hl 0 rfl) ?_
    refine lv_dup hx hb dX10_comesThing_59 rfl ?_
    refine va_get (ci := 5) (v := .int v_t_guarded) (C := RX10) (T := TX10) (N := 25) hx hb hts hinX10 hown hK.1 hP 0 rfl rfl 7 (by decide) k_5 (fun _ h9 => h9) rfl dX10_comesThing_60 ?_
    refine lv_iconst (v := 1) hx hb dX10_comesThing_63 (by decide) ?_
    refine lv_aload_n hx hb dX10_comesThing_64 rfl (lv_at hl 0 rfl) ?_
    refine va_get (ci := 5) (v := .int v_t_things) (C := RX10) (T := TX10) (N := 25) hx hb hts hinX10 hown hK.1 hP 0 rfl rfl 4 (by decide) k_0 (fun _ h9 => h9) rfl dX10_comesThing_65 ?_
    refine lv_ishl hx hb dX10_comesThing_68 ?_
    refine lv_iconst (v := (-1)) hx hb dX10_comesThing_69 (by decide) ?_
    refine lv_ixor hx hb dX10_comesThing_70 ?_
    refine lv_iand hx hb dX10_comesThing_71 ?_
    refine va_put (ci := 5) (v := .int (v_t_guarded &&& ((1 <<< (v_t_things &&& 31)) ^^^ (-1)))) (ty := tyX10 7) (C := RX10) (T := TX10) (N := 25) hx hb hts hinX10 tyX10 tyX10_ok nmX10 hown hK.1 hP hD hS 0 rfl rfl 7 (by decide) k_5 (fun _ h9 => h9) rfl (tyX10_ok 7 (by decide)) rfl rfl (Nat.le_of_ble_eq_true rfl) dX10_comesThing_72 (fun H locs hP hD hS => ?_)
    have hP : va_P D vwCl (wX10 cA a_t a_t_refused a_t_kind a_t_figure a_t_cause a_t_tape a_t_letter a_t_letterAt a_t_told a_t_kept a_t_deep a_t_many a_t_row v_t_refused (upd v_t_kind (Int32.toNatClampNeg v_t_things) p1) (upd v_t_figure (Int32.toNatClampNeg v_t_things) p2) (upd v_t_cause (Int32.toNatClampNeg v_t_things) 0) v_t_things v_t_day (v_t_lost &&& ((1 <<< (v_t_things &&& 31)) ^^^ (-1))) (v_t_guarded &&& ((1 <<< (v_t_things &&& 31)) ^^^ (-1))) v_t_tape v_t_letter v_t_letterAt v_t_told v_t_taped v_t_at v_t_statements v_t_kept v_t_hasImage v_t_isKeeping v_t_cursor v_t_deep v_t_nextWhen v_t_many v_t_row v_t_rowMany v_t_lots) H := hP
    have hD : va_D A (wX10 cA a_t a_t_refused a_t_kind a_t_figure a_t_cause a_t_tape a_t_letter a_t_letterAt a_t_told a_t_kept a_t_deep a_t_many a_t_row v_t_refused (upd v_t_kind (Int32.toNatClampNeg v_t_things) p1) (upd v_t_figure (Int32.toNatClampNeg v_t_things) p2) (upd v_t_cause (Int32.toNatClampNeg v_t_things) 0) v_t_things v_t_day (v_t_lost &&& ((1 <<< (v_t_things &&& 31)) ^^^ (-1))) (v_t_guarded &&& ((1 <<< (v_t_things &&& 31)) ^^^ (-1))) v_t_tape v_t_letter v_t_letterAt v_t_told v_t_taped v_t_at v_t_statements v_t_kept v_t_hasImage v_t_isKeeping v_t_cursor v_t_deep v_t_nextWhen v_t_many v_t_row v_t_rowMany v_t_lots) := hD
    refine lv_aload_n hx hb dX10_comesThing_75 rfl (lv_at hl 0 rfl) ?_
    refine lv_dup hx hb dX10_comesThing_76 rfl ?_
    refine va_get (ci := 5) (v := .int v_t_things) (C := RX10) (T := TX10) (N := 25) hx hb hts hinX10 hown hK.1 hP 0 rfl rfl 4 (by decide) k_0 (fun _ h9 => h9) rfl dX10_comesThing_77 ?_
    refine lv_iconst (v := 1) hx hb dX10_comesThing_80 (by decide) ?_
    refine lv_iadd hx hb dX10_comesThing_81 ?_
    refine va_put (ci := 5) (v := .int (v_t_things + 1)) (ty := tyX10 4) (C := RX10) (T := TX10) (N := 25) hx hb hts hinX10 tyX10 tyX10_ok nmX10 hown hK.1 hP hD hS 0 rfl rfl 4 (by decide) k_0 (fun _ h9 => h9) rfl (tyX10_ok 4 (by decide)) rfl rfl (Nat.le_of_ble_eq_true rfl) dX10_comesThing_82 (fun H locs hP hD hS => ?_)
    have hP : va_P D vwCl (wX10 cA a_t a_t_refused a_t_kind a_t_figure a_t_cause a_t_tape a_t_letter a_t_letterAt a_t_told a_t_kept a_t_deep a_t_many a_t_row v_t_refused (upd v_t_kind (Int32.toNatClampNeg v_t_things) p1) (upd v_t_figure (Int32.toNatClampNeg v_t_things) p2) (upd v_t_cause (Int32.toNatClampNeg v_t_things) 0) (v_t_things + 1) v_t_day (v_t_lost &&& ((1 <<< (v_t_things &&& 31)) ^^^ (-1))) (v_t_guarded &&& ((1 <<< (v_t_things &&& 31)) ^^^ (-1))) v_t_tape v_t_letter v_t_letterAt v_t_told v_t_taped v_t_at v_t_statements v_t_kept v_t_hasImage v_t_isKeeping v_t_cursor v_t_deep v_t_nextWhen v_t_many v_t_row v_t_rowMany v_t_lots) H := hP
    have hD : va_D A (wX10 cA a_t a_t_refused a_t_kind a_t_figure a_t_cause a_t_tape a_t_letter a_t_letterAt a_t_told a_t_kept a_t_deep a_t_many a_t_row v_t_refused (upd v_t_kind (Int32.toNatClampNeg v_t_things) p1) (upd v_t_figure (Int32.toNatClampNeg v_t_things) p2) (upd v_t_cause (Int32.toNatClampNeg v_t_things) 0) (v_t_things + 1) v_t_day (v_t_lost &&& ((1 <<< (v_t_things &&& 31)) ^^^ (-1))) (v_t_guarded &&& ((1 <<< (v_t_things &&& 31)) ^^^ (-1))) v_t_tape v_t_letter v_t_letterAt v_t_told v_t_taped v_t_at v_t_statements v_t_kept v_t_hasImage v_t_isKeeping v_t_cursor v_t_deep v_t_nextWhen v_t_many v_t_row v_t_rowMany v_t_lots) := hD
    refine lv_iconst (v := 1) hx hb dX10_comesThing_85 (by decide) ?_
    obtain rfl := Option.some.inj h
    exact xk_zret rfl hx hb hr hlk hP hD hS (hQ _) dX10_comesThing_86
  · have h := (if_pos c_1).symm.trans h
    refine lv_iconst (v := 0) hx hb dX10_comesThing_9 (by decide) ?_
    obtain rfl := Option.some.inj h
    exact xk_zret rfl hx hb hr hlk hP hD hS (hQ _) dX10_comesThing_10
set_option maxHeartbeats 4000000 in
set_option maxRecDepth 100000 in
theorem c_X10_comesCause (l : Launch) (D : va_G) (cA : ClassId) (sa sv : Nat → Nat) (a_t a_t_refused a_t_kind a_t_figure a_t_cause a_t_tape a_t_letter a_t_letterAt a_t_told a_t_kept a_t_deep a_t_many a_t_row : Nat) (sz : Nat) (v_t_refused : Nat → Int32) (v_t_kind : Nat → Int32) (v_t_figure : Nat → Int32) (v_t_cause : Nat → Int32) (v_t_things : Int32) (v_t_day : Int32) (v_t_lost : Int32) (v_t_guarded : Int32) (v_t_tape : Nat → Int32) (v_t_letter : Nat → Int32) (v_t_letterAt : Nat → Int32) (v_t_told : Nat → Int32) (v_t_taped : Int32) (v_t_at : Int32) (v_t_statements : Int32) (v_t_kept : Nat → Int32) (v_t_hasImage : Int32) (v_t_isKeeping : Int32) (v_t_cursor : Int32) (v_t_deep : Nat → Int32) (v_t_nextWhen : Int32) (v_t_many : Nat → Int32) (v_t_row : Nat → Int32) (v_t_rowMany : Int32) (v_t_lots : Int32) (p1 : Int32) (p2 : Int32) (res : Int32 × (Nat → Int32)) (h : f_X10_comesCause v_t_cause v_t_things p1 p2 = some res) : Met l yX10_comesCause wsX10_comesCause { frames := 1, cells := 0, slots := 0, locals := 21 } (xk_Pc D cA sa sv (wX10 cA a_t a_t_refused a_t_kind a_t_figure a_t_cause a_t_tape a_t_letter a_t_letterAt a_t_told a_t_kept a_t_deep a_t_many a_t_row v_t_refused v_t_kind v_t_figure v_t_cause v_t_things v_t_day v_t_lost v_t_guarded v_t_tape v_t_letter v_t_letterAt v_t_told v_t_taped v_t_at v_t_statements v_t_kept v_t_hasImage v_t_isKeeping v_t_cursor v_t_deep v_t_nextWhen v_t_many v_t_row v_t_rowMany v_t_lots) sz [.ref a_t, .int p1, .int p2]) (xk_Q D (va_A (wX10 cA a_t a_t_refused a_t_kind a_t_figure a_t_cause a_t_tape a_t_letter a_t_letterAt a_t_told a_t_kept a_t_deep a_t_many a_t_row v_t_refused v_t_kind v_t_figure v_t_cause v_t_things v_t_day v_t_lost v_t_guarded v_t_tape v_t_letter v_t_letterAt v_t_told v_t_taped v_t_at v_t_statements v_t_kept v_t_hasImage v_t_isKeeping v_t_cursor v_t_deep v_t_nextWhen v_t_many v_t_row v_t_rowMany v_t_lots) sz) (some (.int res.1)) (wX10 cA a_t a_t_refused a_t_kind a_t_figure a_t_cause a_t_tape a_t_letter a_t_letterAt a_t_told a_t_kept a_t_deep a_t_many a_t_row v_t_refused v_t_kind v_t_figure res.2 v_t_things v_t_day v_t_lost v_t_guarded v_t_tape v_t_letter v_t_letterAt v_t_told v_t_taped v_t_at v_t_statements v_t_kept v_t_hasImage v_t_isKeeping v_t_cursor v_t_deep v_t_nextWhen v_t_many v_t_row v_t_rowMany v_t_lots)) 0 0 (va_A (wX10 cA a_t a_t_refused a_t_kind a_t_figure a_t_cause a_t_tape a_t_letter a_t_letterAt a_t_told a_t_kept a_t_deep a_t_many a_t_row v_t_refused v_t_kind v_t_figure v_t_cause v_t_things v_t_day v_t_lost v_t_guarded v_t_tape v_t_letter v_t_letterAt v_t_told v_t_taped v_t_at v_t_statements v_t_kept v_t_hasImage v_t_isKeeping v_t_cursor v_t_deep v_t_nextWhen v_t_many v_t_row v_t_rowMany v_t_lots) sz) := by
  refine xk_met (fun res : Int32 × (Nat → Int32) => some (.int res.1)) (fun res : Int32 × (Nat → Int32) => (wX10 cA a_t a_t_refused a_t_kind a_t_figure a_t_cause a_t_tape a_t_letter a_t_letterAt a_t_told a_t_kept a_t_deep a_t_many a_t_row v_t_refused v_t_kind v_t_figure res.2 v_t_things v_t_day v_t_lost v_t_guarded v_t_tape v_t_letter v_t_letterAt v_t_told v_t_taped v_t_at v_t_statements v_t_kept v_t_hasImage v_t_isKeeping v_t_cursor v_t_deep v_t_nextWhen v_t_many v_t_row v_t_rowMany v_t_lots)) res (cc := cX10_comesCause) (maxL := 3) (ret := (some .boolean)) (by decide) rfl (Nat.le_of_ble_eq_true rfl) ?_
  intro p e s m args below meth c A Q ls hQ hx hb hr hlk hml hown hts hK hP hD hS hA hl
  have S : CallFix p m c cX10_comesCause 3 s args wsX10_comesCause RX10 := ⟨hx, hb, hml, hown, hts⟩
  have hl : lv_has ls 3 [(0, .ref a_t), (1, .int p1), (2, .int p2)] := hl
  have hinX10 : ∀ w ∈ u_ws RX10 TX10 25, w ∈ wsX10_comesCause := fun _ h => List.mem_cons_of_mem _ (List.mem_append_right _ (h))
  have k_0 := hts (.fieldLink RX10 19 "NailsWantTheKingdomModel" "cause" "[I") (List.mem_of_getElem? (i := 1) (by decide +kernel))
  unfold f_X10_comesCause at h
  refine lv_aload_n hx hb dX10_comesCause_0 rfl (lv_at hl 0 rfl) ?_
  refine lv_iload_n hx hb dX10_comesCause_1 rfl (lv_at hl 1 rfl) ?_
  obtain ⟨x_1, hc_1, h⟩ := bd_some h
  refine xk_V (rest := []) (As := [.int p1]) (stk := [.int x_1]) (wn := (wX10 cA a_t a_t_refused a_t_kind a_t_figure a_t_cause a_t_tape a_t_letter a_t_letterAt a_t_told a_t_kept a_t_deep a_t_many a_t_row v_t_refused v_t_kind v_t_figure v_t_cause v_t_things v_t_day v_t_lost v_t_guarded v_t_tape v_t_letter v_t_letterAt v_t_told v_t_taped v_t_at v_t_statements v_t_kept v_t_hasImage v_t_isKeeping v_t_cursor v_t_deep v_t_nextWhen v_t_many v_t_row v_t_rowMany v_t_lots)) (v := (some (.int x_1))) (wr := []) gX10_comesCause_X10_isThing rfl hdV_X10_isThing rfl rfl (c_X10_isThing l D cA sa sv a_t a_t_refused a_t_kind a_t_figure a_t_cause a_t_tape a_t_letter a_t_letterAt a_t_told a_t_kept a_t_deep a_t_many a_t_row _ v_t_refused v_t_kind v_t_figure v_t_cause v_t_things v_t_day v_t_lost v_t_guarded v_t_tape v_t_letter v_t_letterAt v_t_told v_t_taped v_t_at v_t_statements v_t_kept v_t_hasImage v_t_isKeeping v_t_cursor v_t_deep v_t_nextWhen v_t_many v_t_row v_t_rowMany v_t_lots p1 x_1 hc_1) (ci := 5) rfl (q0 := 0) rfl S hK hP hD hS hA [0, 1, 2, 3, 4, 5, 6, 7, 8, 9, 10, 11, 12] [] [0, 1, 2, 3, 4, 5, 6, 7, 8, 9, 10, 11, 12] rfl rfl rfl rfl rfl rfl rfl ⟨Nat.le_of_ble_eq_true rfl, Nat.le_of_ble_eq_true rfl⟩ ⟨Nat.le_refl 0, Nat.le_refl 0⟩ rfl hl.1 rfl (Nat.le_of_ble_eq_true rfl) rfl dX10_comesCause_2 (fun H locs hP hD hS => ?_)
  refine lv_if_eq (tgt := 13) hx hb dX10_comesCause_5 (by decide) (fun c_2 => ?_) (fun c_2 => ?_)
  · have h := (if_pos c_2).symm.trans h
    refine lv_iconst (v := 0) hx hb dX10_comesCause_13 (by decide) ?_
    obtain rfl := Option.some.inj h
    exact xk_zret rfl hx hb hr hlk hP hD hS (hQ _) dX10_comesCause_14
  · have h := (if_neg c_2).symm.trans h
    refine lv_iload_n hx hb dX10_comesCause_8 rfl (lv_at hl 2 rfl) ?_
    refine lv_iload_n hx hb dX10_comesCause_9 rfl (lv_at hl 1 rfl) ?_
    refine lv_icmp_lt (tgt := 15) hx hb dX10_comesCause_10 (by decide) (fun c_3 => ?_) (fun c_3 => ?_)
    · have h := (if_pos c_3).symm.trans h
      refine lv_aload_n hx hb dX10_comesCause_15 rfl (lv_at hl 0 rfl) ?_
      refine va_get (ci := 5) (v := .ref a_t_cause) (C := RX10) (T := TX10) (N := 25) hx hb hts hinX10 hown hK.1 hP 0 rfl rfl 3 (by decide) k_0 (fun _ h9 => h9) rfl dX10_comesCause_16 ?_
      refine lv_iload_n hx hb dX10_comesCause_19 rfl (lv_at hl 1 rfl) ?_
      refine lv_dup2_11 hx hb dX10_comesCause_20 rfl rfl ?_
      obtain ⟨i_4, h⟩ := xa_some h
      refine va_iald hx hb hK.1 hP 4 0 rfl rfl i_4 dX10_comesCause_21 ?_
      refine lv_iconst (v := 1) hx hb dX10_comesCause_22 (by decide) ?_
      refine lv_iload_n hx hb dX10_comesCause_23 rfl (lv_at hl 2 rfl) ?_
      refine lv_ishl hx hb dX10_comesCause_24 ?_
      refine lv_ixor hx hb dX10_comesCause_25 ?_
      obtain ⟨i_5, h⟩ := xa_some h
      refine va_iast hx hb hK.1 hP hD hS 4 0 rfl rfl i_5 dX10_comesCause_26 (fun H locs hP hD hS => ?_)
      have hP : va_P D vwCl (wX10 cA a_t a_t_refused a_t_kind a_t_figure a_t_cause a_t_tape a_t_letter a_t_letterAt a_t_told a_t_kept a_t_deep a_t_many a_t_row v_t_refused v_t_kind v_t_figure (upd v_t_cause (Int32.toNatClampNeg p1) ((v_t_cause (Int32.toNatClampNeg p1)) ^^^ (1 <<< (p2 &&& 31)))) v_t_things v_t_day v_t_lost v_t_guarded v_t_tape v_t_letter v_t_letterAt v_t_told v_t_taped v_t_at v_t_statements v_t_kept v_t_hasImage v_t_isKeeping v_t_cursor v_t_deep v_t_nextWhen v_t_many v_t_row v_t_rowMany v_t_lots) H := hP
      have hD : va_D A (wX10 cA a_t a_t_refused a_t_kind a_t_figure a_t_cause a_t_tape a_t_letter a_t_letterAt a_t_told a_t_kept a_t_deep a_t_many a_t_row v_t_refused v_t_kind v_t_figure (upd v_t_cause (Int32.toNatClampNeg p1) ((v_t_cause (Int32.toNatClampNeg p1)) ^^^ (1 <<< (p2 &&& 31)))) v_t_things v_t_day v_t_lost v_t_guarded v_t_tape v_t_letter v_t_letterAt v_t_told v_t_taped v_t_at v_t_statements v_t_kept v_t_hasImage v_t_isKeeping v_t_cursor v_t_deep v_t_nextWhen v_t_many v_t_row v_t_rowMany v_t_lots) := hD
      refine lv_iconst (v := 1) hx hb dX10_comesCause_27 (by decide) ?_
      obtain rfl := Option.some.inj h
      exact xk_zret rfl hx hb hr hlk hP hD hS (hQ _) dX10_comesCause_28
    · have h := (if_neg c_3).symm.trans h
      refine lv_iconst (v := 0) hx hb dX10_comesCause_13 (by decide) ?_
      obtain rfl := Option.some.inj h
      exact xk_zret rfl hx hb hr hlk hP hD hS (hQ _) dX10_comesCause_14
set_option maxHeartbeats 4000000 in
set_option maxRecDepth 100000 in
theorem c_X10_comesOf (l : Launch) (D : va_G) (cA : ClassId) (sa sv : Nat → Nat) (a_t a_t_refused a_t_kind a_t_figure a_t_cause a_t_tape a_t_letter a_t_letterAt a_t_told a_t_kept a_t_deep a_t_many a_t_row : Nat) (sz : Nat) (v_t_refused : Nat → Int32) (v_t_kind : Nat → Int32) (v_t_figure : Nat → Int32) (v_t_cause : Nat → Int32) (v_t_things : Int32) (v_t_day : Int32) (v_t_lost : Int32) (v_t_guarded : Int32) (v_t_tape : Nat → Int32) (v_t_letter : Nat → Int32) (v_t_letterAt : Nat → Int32) (v_t_told : Nat → Int32) (v_t_taped : Int32) (v_t_at : Int32) (v_t_statements : Int32) (v_t_kept : Nat → Int32) (v_t_hasImage : Int32) (v_t_isKeeping : Int32) (v_t_cursor : Int32) (v_t_deep : Nat → Int32) (v_t_nextWhen : Int32) (v_t_many : Nat → Int32) (v_t_row : Nat → Int32) (v_t_rowMany : Int32) (v_t_lots : Int32) (p1 : Int32) (p2 : Int32) (res : Int32 × Int32 × Int32) (h : f_X10_comesOf v_t_things v_t_lost v_t_guarded p1 p2 = some res) : Met l yX10_comesOf wsX10_comesOf { frames := 1, cells := 0, slots := 0, locals := 21 } (xk_Pc D cA sa sv (wX10 cA a_t a_t_refused a_t_kind a_t_figure a_t_cause a_t_tape a_t_letter a_t_letterAt a_t_told a_t_kept a_t_deep a_t_many a_t_row v_t_refused v_t_kind v_t_figure v_t_cause v_t_things v_t_day v_t_lost v_t_guarded v_t_tape v_t_letter v_t_letterAt v_t_told v_t_taped v_t_at v_t_statements v_t_kept v_t_hasImage v_t_isKeeping v_t_cursor v_t_deep v_t_nextWhen v_t_many v_t_row v_t_rowMany v_t_lots) sz [.ref a_t, .int p1, .int p2]) (xk_Q D (va_A (wX10 cA a_t a_t_refused a_t_kind a_t_figure a_t_cause a_t_tape a_t_letter a_t_letterAt a_t_told a_t_kept a_t_deep a_t_many a_t_row v_t_refused v_t_kind v_t_figure v_t_cause v_t_things v_t_day v_t_lost v_t_guarded v_t_tape v_t_letter v_t_letterAt v_t_told v_t_taped v_t_at v_t_statements v_t_kept v_t_hasImage v_t_isKeeping v_t_cursor v_t_deep v_t_nextWhen v_t_many v_t_row v_t_rowMany v_t_lots) sz) (some (.int res.1)) (wX10 cA a_t a_t_refused a_t_kind a_t_figure a_t_cause a_t_tape a_t_letter a_t_letterAt a_t_told a_t_kept a_t_deep a_t_many a_t_row v_t_refused v_t_kind v_t_figure v_t_cause v_t_things v_t_day res.2.1 res.2.2 v_t_tape v_t_letter v_t_letterAt v_t_told v_t_taped v_t_at v_t_statements v_t_kept v_t_hasImage v_t_isKeeping v_t_cursor v_t_deep v_t_nextWhen v_t_many v_t_row v_t_rowMany v_t_lots)) 0 0 (va_A (wX10 cA a_t a_t_refused a_t_kind a_t_figure a_t_cause a_t_tape a_t_letter a_t_letterAt a_t_told a_t_kept a_t_deep a_t_many a_t_row v_t_refused v_t_kind v_t_figure v_t_cause v_t_things v_t_day v_t_lost v_t_guarded v_t_tape v_t_letter v_t_letterAt v_t_told v_t_taped v_t_at v_t_statements v_t_kept v_t_hasImage v_t_isKeeping v_t_cursor v_t_deep v_t_nextWhen v_t_many v_t_row v_t_rowMany v_t_lots) sz) := by
  refine xk_met (fun res : Int32 × Int32 × Int32 => some (.int res.1)) (fun res : Int32 × Int32 × Int32 => (wX10 cA a_t a_t_refused a_t_kind a_t_figure a_t_cause a_t_tape a_t_letter a_t_letterAt a_t_told a_t_kept a_t_deep a_t_many a_t_row v_t_refused v_t_kind v_t_figure v_t_cause v_t_things v_t_day res.2.1 res.2.2 v_t_tape v_t_letter v_t_letterAt v_t_told v_t_taped v_t_at v_t_statements v_t_kept v_t_hasImage v_t_isKeeping v_t_cursor v_t_deep v_t_nextWhen v_t_many v_t_row v_t_rowMany v_t_lots)) res (cc := cX10_comesOf) (maxL := 3) (ret := (some .boolean)) (by decide) rfl (Nat.le_of_ble_eq_true rfl) ?_
  intro p e s m args below meth c A Q ls hQ hx hb hr hlk hml hown hts hK hP hD hS hA hl
  have S : CallFix p m c cX10_comesOf 3 s args wsX10_comesOf RX10 := ⟨hx, hb, hml, hown, hts⟩
  have hl : lv_has ls 3 [(0, .ref a_t), (1, .int p1), (2, .int p2)] := hl
  have hinX10 : ∀ w ∈ u_ws RX10 TX10 25, w ∈ wsX10_comesOf := fun _ h => List.mem_cons_of_mem _ (List.mem_append_right _ (h))
  have k_0 := hts (.fieldLink RX10 97 "NailsWantTheKingdomModel" "guarded" "I") (List.mem_of_getElem? (i := 1) (by decide +kernel))
  have k_1 := hts (.fieldLink RX10 94 "NailsWantTheKingdomModel" "lost" "I") (List.mem_of_getElem? (i := 2) (by decide +kernel))
  have J_27 : ∀ (v_t_lost : Int32) (v_t_guarded : Int32) (res : Int32 × Int32 × Int32), f_X10_comesOf_27 v_t_things p1 p2 v_t_lost v_t_guarded = some res → ∀ (H : Heap) (locs : List Loc) (ls : Array Slot), va_P D vwCl (wX10 cA a_t a_t_refused a_t_kind a_t_figure a_t_cause a_t_tape a_t_letter a_t_letterAt a_t_told a_t_kept a_t_deep a_t_many a_t_row v_t_refused v_t_kind v_t_figure v_t_cause v_t_things v_t_day v_t_lost v_t_guarded v_t_tape v_t_letter v_t_letterAt v_t_told v_t_taped v_t_at v_t_statements v_t_kept v_t_hasImage v_t_isKeeping v_t_cursor v_t_deep v_t_nextWhen v_t_many v_t_row v_t_rowMany v_t_lots) H → va_D A (wX10 cA a_t a_t_refused a_t_kind a_t_figure a_t_cause a_t_tape a_t_letter a_t_letterAt a_t_told a_t_kept a_t_deep a_t_many a_t_row v_t_refused v_t_kind v_t_figure v_t_cause v_t_things v_t_day v_t_lost v_t_guarded v_t_tape v_t_letter v_t_letterAt v_t_told v_t_taped v_t_at v_t_statements v_t_kept v_t_hasImage v_t_isKeeping v_t_cursor v_t_deep v_t_nextWhen v_t_many v_t_row v_t_rowMany v_t_lots) → va_S A s.heap H locs → lv_has ls 3 [(0, .ref a_t), (1, .int p1), (2, .int p2)] → W p l e { frames := 1, cells := 0, slots := 0, locals := 21 } s m args below meth c H locs 0 0 (Q res) (F0 m 27 ls []) := by
    intro v_t_lost v_t_guarded res h H locs ls hP hD hS hl
    unfold f_X10_comesOf_27 at h
    refine lv_iload_n hx hb dX10_comesOf_27 rfl (lv_at hl 1 rfl) ?_
    refine lv_bipush (v := 108) hx hb dX10_comesOf_28 (by decide) ?_
    refine lv_icmp_ne (tgt := 48) hx hb dX10_comesOf_30 (by decide) (fun c_4 => ?_) (fun c_4 => ?_)
    · have h := (if_neg c_4).symm.trans h
      refine lv_iload_n hx hb dX10_comesOf_48 rfl (lv_at hl 1 rfl) ?_
      refine lv_bipush (v := 109) hx hb dX10_comesOf_49 (by decide) ?_
      refine lv_icmp_ne (tgt := 71) hx hb dX10_comesOf_51 (by decide) (fun c_5 => ?_) (fun c_5 => ?_)
      · have h := (if_neg c_5).symm.trans h
        refine lv_aload_n hx hb dX10_comesOf_71 rfl (lv_at hl 0 rfl) ?_
        refine lv_dup hx hb dX10_comesOf_72 rfl ?_
        refine va_get (ci := 5) (v := .int v_t_guarded) (C := RX10) (T := TX10) (N := 25) hx hb hts hinX10 hown hK.1 hP 0 rfl rfl 7 (by decide) k_0 (fun _ h9 => h9) rfl dX10_comesOf_73 ?_
        refine lv_iconst (v := 1) hx hb dX10_comesOf_76 (by decide) ?_
        refine lv_iload_n hx hb dX10_comesOf_77 rfl (lv_at hl 2 rfl) ?_
        refine lv_ishl hx hb dX10_comesOf_78 ?_
        refine lv_ixor hx hb dX10_comesOf_79 ?_
        refine va_put (ci := 5) (v := .int (v_t_guarded ^^^ (1 <<< (p2 &&& 31)))) (ty := tyX10 7) (C := RX10) (T := TX10) (N := 25) hx hb hts hinX10 tyX10 tyX10_ok nmX10 hown hK.1 hP hD hS 0 rfl rfl 7 (by decide) k_0 (fun _ h9 => h9) rfl (tyX10_ok 7 (by decide)) rfl rfl (Nat.le_of_ble_eq_true rfl) dX10_comesOf_80 (fun H locs hP hD hS => ?_)
        have hP : va_P D vwCl (wX10 cA a_t a_t_refused a_t_kind a_t_figure a_t_cause a_t_tape a_t_letter a_t_letterAt a_t_told a_t_kept a_t_deep a_t_many a_t_row v_t_refused v_t_kind v_t_figure v_t_cause v_t_things v_t_day v_t_lost (v_t_guarded ^^^ (1 <<< (p2 &&& 31))) v_t_tape v_t_letter v_t_letterAt v_t_told v_t_taped v_t_at v_t_statements v_t_kept v_t_hasImage v_t_isKeeping v_t_cursor v_t_deep v_t_nextWhen v_t_many v_t_row v_t_rowMany v_t_lots) H := hP
        have hD : va_D A (wX10 cA a_t a_t_refused a_t_kind a_t_figure a_t_cause a_t_tape a_t_letter a_t_letterAt a_t_told a_t_kept a_t_deep a_t_many a_t_row v_t_refused v_t_kind v_t_figure v_t_cause v_t_things v_t_day v_t_lost (v_t_guarded ^^^ (1 <<< (p2 &&& 31))) v_t_tape v_t_letter v_t_letterAt v_t_told v_t_taped v_t_at v_t_statements v_t_kept v_t_hasImage v_t_isKeeping v_t_cursor v_t_deep v_t_nextWhen v_t_many v_t_row v_t_rowMany v_t_lots) := hD
        refine lv_iconst (v := 1) hx hb dX10_comesOf_83 (by decide) ?_
        obtain rfl := Option.some.inj h
        exact xk_zret rfl hx hb hr hlk hP hD hS (hQ _) dX10_comesOf_84
      · have h := (if_pos c_5).symm.trans h
        refine lv_aload_n hx hb dX10_comesOf_54 rfl (lv_at hl 0 rfl) ?_
        refine lv_dup hx hb dX10_comesOf_55 rfl ?_
        refine va_get (ci := 5) (v := .int v_t_lost) (C := RX10) (T := TX10) (N := 25) hx hb hts hinX10 hown hK.1 hP 0 rfl rfl 6 (by decide) k_1 (fun _ h9 => h9) rfl dX10_comesOf_56 ?_
        refine lv_iconst (v := 1) hx hb dX10_comesOf_59 (by decide) ?_
        refine lv_iload_n hx hb dX10_comesOf_60 rfl (lv_at hl 2 rfl) ?_
        refine lv_ishl hx hb dX10_comesOf_61 ?_
        refine lv_iconst (v := (-1)) hx hb dX10_comesOf_62 (by decide) ?_
        refine lv_ixor hx hb dX10_comesOf_63 ?_
        refine lv_iand hx hb dX10_comesOf_64 ?_
        refine va_put (ci := 5) (v := .int (v_t_lost &&& ((1 <<< (p2 &&& 31)) ^^^ (-1)))) (ty := tyX10 6) (C := RX10) (T := TX10) (N := 25) hx hb hts hinX10 tyX10 tyX10_ok nmX10 hown hK.1 hP hD hS 0 rfl rfl 6 (by decide) k_1 (fun _ h9 => h9) rfl (tyX10_ok 6 (by decide)) rfl rfl (Nat.le_of_ble_eq_true rfl) dX10_comesOf_65 (fun H locs hP hD hS => ?_)
        have hP : va_P D vwCl (wX10 cA a_t a_t_refused a_t_kind a_t_figure a_t_cause a_t_tape a_t_letter a_t_letterAt a_t_told a_t_kept a_t_deep a_t_many a_t_row v_t_refused v_t_kind v_t_figure v_t_cause v_t_things v_t_day (v_t_lost &&& ((1 <<< (p2 &&& 31)) ^^^ (-1))) v_t_guarded v_t_tape v_t_letter v_t_letterAt v_t_told v_t_taped v_t_at v_t_statements v_t_kept v_t_hasImage v_t_isKeeping v_t_cursor v_t_deep v_t_nextWhen v_t_many v_t_row v_t_rowMany v_t_lots) H := hP
        have hD : va_D A (wX10 cA a_t a_t_refused a_t_kind a_t_figure a_t_cause a_t_tape a_t_letter a_t_letterAt a_t_told a_t_kept a_t_deep a_t_many a_t_row v_t_refused v_t_kind v_t_figure v_t_cause v_t_things v_t_day (v_t_lost &&& ((1 <<< (p2 &&& 31)) ^^^ (-1))) v_t_guarded v_t_tape v_t_letter v_t_letterAt v_t_told v_t_taped v_t_at v_t_statements v_t_kept v_t_hasImage v_t_isKeeping v_t_cursor v_t_deep v_t_nextWhen v_t_many v_t_row v_t_rowMany v_t_lots) := hD
        refine lv_goto (tgt := 83) hx hb dX10_comesOf_68 (by decide) ?_
        refine lv_iconst (v := 1) hx hb dX10_comesOf_83 (by decide) ?_
        obtain rfl := Option.some.inj h
        exact xk_zret rfl hx hb hr hlk hP hD hS (hQ _) dX10_comesOf_84
    · have h := (if_pos c_4).symm.trans h
      refine lv_aload_n hx hb dX10_comesOf_33 rfl (lv_at hl 0 rfl) ?_
      refine lv_dup hx hb dX10_comesOf_34 rfl ?_
      refine va_get (ci := 5) (v := .int v_t_lost) (C := RX10) (T := TX10) (N := 25) hx hb hts hinX10 hown hK.1 hP 0 rfl rfl 6 (by decide) k_1 (fun _ h9 => h9) rfl dX10_comesOf_35 ?_
      refine lv_iconst (v := 1) hx hb dX10_comesOf_38 (by decide) ?_
      refine lv_iload_n hx hb dX10_comesOf_39 rfl (lv_at hl 2 rfl) ?_
      refine lv_ishl hx hb dX10_comesOf_40 ?_
      refine lv_ior hx hb dX10_comesOf_41 ?_
      refine va_put (ci := 5) (v := .int (v_t_lost ||| (1 <<< (p2 &&& 31)))) (ty := tyX10 6) (C := RX10) (T := TX10) (N := 25) hx hb hts hinX10 tyX10 tyX10_ok nmX10 hown hK.1 hP hD hS 0 rfl rfl 6 (by decide) k_1 (fun _ h9 => h9) rfl (tyX10_ok 6 (by decide)) rfl rfl (Nat.le_of_ble_eq_true rfl) dX10_comesOf_42 (fun H locs hP hD hS => ?_)
      have hP : va_P D vwCl (wX10 cA a_t a_t_refused a_t_kind a_t_figure a_t_cause a_t_tape a_t_letter a_t_letterAt a_t_told a_t_kept a_t_deep a_t_many a_t_row v_t_refused v_t_kind v_t_figure v_t_cause v_t_things v_t_day (v_t_lost ||| (1 <<< (p2 &&& 31))) v_t_guarded v_t_tape v_t_letter v_t_letterAt v_t_told v_t_taped v_t_at v_t_statements v_t_kept v_t_hasImage v_t_isKeeping v_t_cursor v_t_deep v_t_nextWhen v_t_many v_t_row v_t_rowMany v_t_lots) H := hP
      have hD : va_D A (wX10 cA a_t a_t_refused a_t_kind a_t_figure a_t_cause a_t_tape a_t_letter a_t_letterAt a_t_told a_t_kept a_t_deep a_t_many a_t_row v_t_refused v_t_kind v_t_figure v_t_cause v_t_things v_t_day (v_t_lost ||| (1 <<< (p2 &&& 31))) v_t_guarded v_t_tape v_t_letter v_t_letterAt v_t_told v_t_taped v_t_at v_t_statements v_t_kept v_t_hasImage v_t_isKeeping v_t_cursor v_t_deep v_t_nextWhen v_t_many v_t_row v_t_rowMany v_t_lots) := hD
      refine lv_goto (tgt := 83) hx hb dX10_comesOf_45 (by decide) ?_
      refine lv_iconst (v := 1) hx hb dX10_comesOf_83 (by decide) ?_
      obtain rfl := Option.some.inj h
      exact xk_zret rfl hx hb hr hlk hP hD hS (hQ _) dX10_comesOf_84
  unfold f_X10_comesOf at h
  refine lv_aload_n hx hb dX10_comesOf_0 rfl (lv_at hl 0 rfl) ?_
  refine lv_iload_n hx hb dX10_comesOf_1 rfl (lv_at hl 2 rfl) ?_
  obtain ⟨x_1, hc_1, h⟩ := bd_some h
  refine xk_V (rest := []) (As := [.int p2]) (stk := [.int x_1]) (wn := (wX10 cA a_t a_t_refused a_t_kind a_t_figure a_t_cause a_t_tape a_t_letter a_t_letterAt a_t_told a_t_kept a_t_deep a_t_many a_t_row v_t_refused v_t_kind v_t_figure v_t_cause v_t_things v_t_day v_t_lost v_t_guarded v_t_tape v_t_letter v_t_letterAt v_t_told v_t_taped v_t_at v_t_statements v_t_kept v_t_hasImage v_t_isKeeping v_t_cursor v_t_deep v_t_nextWhen v_t_many v_t_row v_t_rowMany v_t_lots)) (v := (some (.int x_1))) (wr := []) gX10_comesOf_X10_isThing rfl hdV_X10_isThing rfl rfl (c_X10_isThing l D cA sa sv a_t a_t_refused a_t_kind a_t_figure a_t_cause a_t_tape a_t_letter a_t_letterAt a_t_told a_t_kept a_t_deep a_t_many a_t_row _ v_t_refused v_t_kind v_t_figure v_t_cause v_t_things v_t_day v_t_lost v_t_guarded v_t_tape v_t_letter v_t_letterAt v_t_told v_t_taped v_t_at v_t_statements v_t_kept v_t_hasImage v_t_isKeeping v_t_cursor v_t_deep v_t_nextWhen v_t_many v_t_row v_t_rowMany v_t_lots p2 x_1 hc_1) (ci := 5) rfl (q0 := 0) rfl S hK hP hD hS hA [0, 1, 2, 3, 4, 5, 6, 7, 8, 9, 10, 11, 12] [] [0, 1, 2, 3, 4, 5, 6, 7, 8, 9, 10, 11, 12] rfl rfl rfl rfl rfl rfl rfl ⟨Nat.le_of_ble_eq_true rfl, Nat.le_of_ble_eq_true rfl⟩ ⟨Nat.le_refl 0, Nat.le_refl 0⟩ rfl hl.1 rfl (Nat.le_of_ble_eq_true rfl) rfl dX10_comesOf_2 (fun H locs hP hD hS => ?_)
  refine lv_if_eq (tgt := 25) hx hb dX10_comesOf_5 (by decide) (fun c_2 => ?_) (fun c_2 => ?_)
  · have h := (if_pos c_2).symm.trans h
    refine lv_iconst (v := 0) hx hb dX10_comesOf_25 (by decide) ?_
    obtain rfl := Option.some.inj h
    exact xk_zret rfl hx hb hr hlk hP hD hS (hQ _) dX10_comesOf_26
  · have h := (if_neg c_2).symm.trans h
    refine lv_iload_n hx hb dX10_comesOf_8 rfl (lv_at hl 1 rfl) ?_
    refine lv_bipush (v := 108) hx hb dX10_comesOf_9 (by decide) ?_
    refine lv_icmp_ne (tgt := 27) hx hb dX10_comesOf_11 (by decide) (fun c_3 => ?_) (fun c_3 => ?_)
    · have h := (if_neg c_3).symm.trans h
      exact J_27 v_t_lost v_t_guarded _ h _ _ _ hP hD hS (lv_sub hl [0, 1, 2] rfl)
    · have h := (if_pos c_3).symm.trans h
      refine lv_aload_n hx hb dX10_comesOf_14 rfl (lv_at hl 0 rfl) ?_
      refine va_get (ci := 5) (v := .int v_t_guarded) (C := RX10) (T := TX10) (N := 25) hx hb hts hinX10 hown hK.1 hP 0 rfl rfl 7 (by decide) k_0 (fun _ h9 => h9) rfl dX10_comesOf_15 ?_
      refine lv_iload_n hx hb dX10_comesOf_18 rfl (lv_at hl 2 rfl) ?_
      obtain ⟨x_6, hc_6, h⟩ := bd_some h
      refine xk_S (rest := []) (As := [.int v_t_guarded, .int p2]) (stk := [.int x_6]) (wn := (wX10 cA a_t a_t_refused a_t_kind a_t_figure a_t_cause a_t_tape a_t_letter a_t_letterAt a_t_told a_t_kept a_t_deep a_t_many a_t_row v_t_refused v_t_kind v_t_figure v_t_cause v_t_things v_t_day v_t_lost v_t_guarded v_t_tape v_t_letter v_t_letterAt v_t_told v_t_taped v_t_at v_t_statements v_t_kept v_t_hasImage v_t_isKeeping v_t_cursor v_t_deep v_t_nextWhen v_t_many v_t_row v_t_rowMany v_t_lots)) (v := (some (.int x_6))) (wr := [(a_t, .inr (5, [.ref a_t_refused, .ref a_t_kind, .ref a_t_figure, .ref a_t_cause, .int v_t_things, .int v_t_day, .int v_t_lost, .int v_t_guarded, .ref a_t_tape, .ref a_t_letter, .ref a_t_letterAt, .ref a_t_told, .int v_t_taped, .int v_t_at, .int v_t_statements, .ref a_t_kept, .int v_t_hasImage, .int v_t_isKeeping, .int v_t_cursor, .ref a_t_deep, .int v_t_nextWhen, .ref a_t_many, .ref a_t_row, .int v_t_rowMany, .int v_t_lots])), (a_t_refused, .inl (cA, 7, .inl v_t_refused)), (a_t_kind, .inl (cA, 9, .inl v_t_kind)), (a_t_figure, .inl (cA, 9, .inl v_t_figure)), (a_t_cause, .inl (cA, 9, .inl v_t_cause)), (a_t_tape, .inl (cA, 96, .inl v_t_tape)), (a_t_letter, .inl (cA, 48, .inl v_t_letter)), (a_t_letterAt, .inl (cA, 48, .inl v_t_letterAt)), (a_t_told, .inl (cA, 96, .inl v_t_told)), (a_t_kept, .inl (cA, 93, .inl v_t_kept)), (a_t_deep, .inl (cA, 9, .inl v_t_deep)), (a_t_many, .inl (cA, 4, .inl v_t_many)), (a_t_row, .inl (cA, 16, .inl v_t_row))]) gX10_comesOf_X10_has rfl hdS_X10_has rfl rfl (c_X10_has l D cA sa sv _ v_t_guarded p2 x_6 hc_6) S hK hP hD hS hA [] [0, 1, 2, 3, 4, 5, 6, 7, 8, 9, 10, 11, 12] [0, 1, 2, 3, 4, 5, 6, 7, 8, 9, 10, 11, 12] rfl rfl rfl rfl rfl rfl rfl ⟨Nat.le_of_ble_eq_true rfl, Nat.le_of_ble_eq_true rfl⟩ ⟨Nat.le_refl 0, Nat.le_refl 0⟩ rfl hl.1 rfl (Nat.le_of_ble_eq_true rfl) rfl dX10_comesOf_19 (fun H locs hP hD hS => ?_)
      refine lv_if_eq (tgt := 27) hx hb dX10_comesOf_22 (by decide) (fun c_7 => ?_) (fun c_7 => ?_)
      · have h := (if_pos c_7).symm.trans h
        exact J_27 v_t_lost v_t_guarded _ h _ _ _ hP hD hS (lv_sub hl [0, 1, 2] rfl)
      · have h := (if_neg c_7).symm.trans h
        refine lv_iconst (v := 0) hx hb dX10_comesOf_25 (by decide) ?_
        obtain rfl := Option.some.inj h
        exact xk_zret rfl hx hb hr hlk hP hD hS (hQ _) dX10_comesOf_26
set_option maxHeartbeats 4000000 in
set_option maxRecDepth 100000 in
theorem c_X10_needs (l : Launch) (D : va_G) (cA : ClassId) (sa sv : Nat → Nat) (a_t a_t_refused a_t_kind a_t_figure a_t_cause a_t_tape a_t_letter a_t_letterAt a_t_told a_t_kept a_t_deep a_t_many a_t_row : Nat) (sz : Nat) (v_t_refused : Nat → Int32) (v_t_kind : Nat → Int32) (v_t_figure : Nat → Int32) (v_t_cause : Nat → Int32) (v_t_things : Int32) (v_t_day : Int32) (v_t_lost : Int32) (v_t_guarded : Int32) (v_t_tape : Nat → Int32) (v_t_letter : Nat → Int32) (v_t_letterAt : Nat → Int32) (v_t_told : Nat → Int32) (v_t_taped : Int32) (v_t_at : Int32) (v_t_statements : Int32) (v_t_kept : Nat → Int32) (v_t_hasImage : Int32) (v_t_isKeeping : Int32) (v_t_cursor : Int32) (v_t_deep : Nat → Int32) (v_t_nextWhen : Int32) (v_t_many : Nat → Int32) (v_t_row : Nat → Int32) (v_t_rowMany : Int32) (v_t_lots : Int32) (p1 : Int32) (F : Nat) (res : Int32) (h : f_X10_needs F v_t_kind v_t_figure v_t_cause v_t_day p1 = some res) : Met l yX10_needs wsX10_needs { frames := 1, cells := 0, slots := 0, locals := 22 } (xk_Pc D cA sa sv (wX10 cA a_t a_t_refused a_t_kind a_t_figure a_t_cause a_t_tape a_t_letter a_t_letterAt a_t_told a_t_kept a_t_deep a_t_many a_t_row v_t_refused v_t_kind v_t_figure v_t_cause v_t_things v_t_day v_t_lost v_t_guarded v_t_tape v_t_letter v_t_letterAt v_t_told v_t_taped v_t_at v_t_statements v_t_kept v_t_hasImage v_t_isKeeping v_t_cursor v_t_deep v_t_nextWhen v_t_many v_t_row v_t_rowMany v_t_lots) sz [.ref a_t, .int p1]) (xk_Q D (va_A (wX10 cA a_t a_t_refused a_t_kind a_t_figure a_t_cause a_t_tape a_t_letter a_t_letterAt a_t_told a_t_kept a_t_deep a_t_many a_t_row v_t_refused v_t_kind v_t_figure v_t_cause v_t_things v_t_day v_t_lost v_t_guarded v_t_tape v_t_letter v_t_letterAt v_t_told v_t_taped v_t_at v_t_statements v_t_kept v_t_hasImage v_t_isKeeping v_t_cursor v_t_deep v_t_nextWhen v_t_many v_t_row v_t_rowMany v_t_lots) sz) (some (.int res)) (wX10 cA a_t a_t_refused a_t_kind a_t_figure a_t_cause a_t_tape a_t_letter a_t_letterAt a_t_told a_t_kept a_t_deep a_t_many a_t_row v_t_refused v_t_kind v_t_figure v_t_cause v_t_things v_t_day v_t_lost v_t_guarded v_t_tape v_t_letter v_t_letterAt v_t_told v_t_taped v_t_at v_t_statements v_t_kept v_t_hasImage v_t_isKeeping v_t_cursor v_t_deep v_t_nextWhen v_t_many v_t_row v_t_rowMany v_t_lots)) 0 0 (va_A (wX10 cA a_t a_t_refused a_t_kind a_t_figure a_t_cause a_t_tape a_t_letter a_t_letterAt a_t_told a_t_kept a_t_deep a_t_many a_t_row v_t_refused v_t_kind v_t_figure v_t_cause v_t_things v_t_day v_t_lost v_t_guarded v_t_tape v_t_letter v_t_letterAt v_t_told v_t_taped v_t_at v_t_statements v_t_kept v_t_hasImage v_t_isKeeping v_t_cursor v_t_deep v_t_nextWhen v_t_many v_t_row v_t_rowMany v_t_lots) sz) := by
  refine xk_met (fun res : Int32 => some (.int res)) (fun res : Int32 => (wX10 cA a_t a_t_refused a_t_kind a_t_figure a_t_cause a_t_tape a_t_letter a_t_letterAt a_t_told a_t_kept a_t_deep a_t_many a_t_row v_t_refused v_t_kind v_t_figure v_t_cause v_t_things v_t_day v_t_lost v_t_guarded v_t_tape v_t_letter v_t_letterAt v_t_told v_t_taped v_t_at v_t_statements v_t_kept v_t_hasImage v_t_isKeeping v_t_cursor v_t_deep v_t_nextWhen v_t_many v_t_row v_t_rowMany v_t_lots)) res (cc := cX10_needs) (maxL := 3) (ret := (some .int)) (by decide) rfl (Nat.le_of_ble_eq_true rfl) ?_
  intro p e s m args below meth c A Q ls hQ hx hb hr hlk hml hown hts hK hP hD hS hA hl
  have S : CallFix p m c cX10_needs 3 s args wsX10_needs RX10 := ⟨hx, hb, hml, hown, hts⟩
  have hl : lv_has ls 3 [(0, .ref a_t), (1, .int p1)] := hl
  have hinX10 : ∀ w ∈ u_ws RX10 TX10 25, w ∈ wsX10_needs := fun _ h => List.mem_cons_of_mem _ (List.mem_append_right _ (h))
  have k_0 := hts (.fieldLink RX10 19 "NailsWantTheKingdomModel" "cause" "[I") (List.mem_of_getElem? (i := 1) (by decide +kernel))
  have k_1 := hts (.fieldLink RX10 13 "NailsWantTheKingdomModel" "kind" "[I") (List.mem_of_getElem? (i := 2) (by decide +kernel))
  have k_2 := hts (.fieldLink RX10 103 "NailsWantTheKingdomModel" "day" "I") (List.mem_of_getElem? (i := 3) (by decide +kernel))
  have k_3 := hts (.fieldLink RX10 16 "NailsWantTheKingdomModel" "figure" "[I") (List.mem_of_getElem? (i := 4) (by decide +kernel))
  unfold f_X10_needs at h
  refine lv_aload_n hx hb dX10_needs_0 rfl (lv_at hl 0 rfl) ?_
  refine va_get (ci := 5) (v := .ref a_t_cause) (C := RX10) (T := TX10) (N := 25) hx hb hts hinX10 hown hK.1 hP 0 rfl rfl 3 (by decide) k_0 (fun _ h9 => h9) rfl dX10_needs_1 ?_
  refine lv_iload_n hx hb dX10_needs_4 rfl (lv_at hl 1 rfl) ?_
  obtain ⟨i_1, h⟩ := xa_some h
  refine va_iald hx hb hK.1 hP 4 0 rfl rfl i_1 dX10_needs_5 ?_
  obtain ⟨x_2, hc_2, h⟩ := bd_some h
  refine xk_S (rest := []) (As := [.int (v_t_cause (Int32.toNatClampNeg p1))]) (stk := [.int x_2]) (wn := (wX10 cA a_t a_t_refused a_t_kind a_t_figure a_t_cause a_t_tape a_t_letter a_t_letterAt a_t_told a_t_kept a_t_deep a_t_many a_t_row v_t_refused v_t_kind v_t_figure v_t_cause v_t_things v_t_day v_t_lost v_t_guarded v_t_tape v_t_letter v_t_letterAt v_t_told v_t_taped v_t_at v_t_statements v_t_kept v_t_hasImage v_t_isKeeping v_t_cursor v_t_deep v_t_nextWhen v_t_many v_t_row v_t_rowMany v_t_lots)) (v := (some (.int x_2))) (wr := [(a_t, .inr (5, [.ref a_t_refused, .ref a_t_kind, .ref a_t_figure, .ref a_t_cause, .int v_t_things, .int v_t_day, .int v_t_lost, .int v_t_guarded, .ref a_t_tape, .ref a_t_letter, .ref a_t_letterAt, .ref a_t_told, .int v_t_taped, .int v_t_at, .int v_t_statements, .ref a_t_kept, .int v_t_hasImage, .int v_t_isKeeping, .int v_t_cursor, .ref a_t_deep, .int v_t_nextWhen, .ref a_t_many, .ref a_t_row, .int v_t_rowMany, .int v_t_lots])), (a_t_refused, .inl (cA, 7, .inl v_t_refused)), (a_t_kind, .inl (cA, 9, .inl v_t_kind)), (a_t_figure, .inl (cA, 9, .inl v_t_figure)), (a_t_cause, .inl (cA, 9, .inl v_t_cause)), (a_t_tape, .inl (cA, 96, .inl v_t_tape)), (a_t_letter, .inl (cA, 48, .inl v_t_letter)), (a_t_letterAt, .inl (cA, 48, .inl v_t_letterAt)), (a_t_told, .inl (cA, 96, .inl v_t_told)), (a_t_kept, .inl (cA, 93, .inl v_t_kept)), (a_t_deep, .inl (cA, 9, .inl v_t_deep)), (a_t_many, .inl (cA, 4, .inl v_t_many)), (a_t_row, .inl (cA, 16, .inl v_t_row))]) gX10_needs_X10_bits rfl hdS_X10_bits rfl rfl (c_X10_bits l D cA sa sv _ (v_t_cause (Int32.toNatClampNeg p1)) F x_2 hc_2) S hK hP hD hS hA [] [0, 1, 2, 3, 4, 5, 6, 7, 8, 9, 10, 11, 12] [0, 1, 2, 3, 4, 5, 6, 7, 8, 9, 10, 11, 12] rfl rfl rfl rfl rfl rfl rfl ⟨Nat.le_of_ble_eq_true rfl, Nat.le_of_ble_eq_true rfl⟩ ⟨Nat.le_refl 0, Nat.le_refl 0⟩ rfl hl.1 rfl (Nat.le_of_ble_eq_true rfl) rfl dX10_needs_6 (fun H locs hP hD hS => ?_)
  refine lv_istore_n (lv' := [(2, .int x_2), (0, .ref a_t), (1, .int p1)]) hx hb dX10_needs_9 rfl hl (by decide) rfl (fun ls hl => ?_)
  refine lv_iload_n hx hb dX10_needs_10 rfl (lv_at hl 0 rfl) ?_
  refine lv_if_ne (tgt := 18) hx hb dX10_needs_11 (by decide) (fun c_3 => ?_) (fun c_3 => ?_)
  · have h := (if_neg c_3).symm.trans h
    refine lv_aload_n hx hb dX10_needs_18 rfl (lv_at hl 1 rfl) ?_
    refine va_get (ci := 5) (v := .ref a_t_kind) (C := RX10) (T := TX10) (N := 25) hx hb hts hinX10 hown hK.1 hP 0 rfl rfl 1 (by decide) k_1 (fun _ h9 => h9) rfl dX10_needs_19 ?_
    refine lv_iload_n hx hb dX10_needs_22 rfl (lv_at hl 2 rfl) ?_
    obtain ⟨i_4, h⟩ := xa_some h
    refine va_iald hx hb hK.1 hP 2 0 rfl rfl i_4 dX10_needs_23 ?_
    by_cases c_5 : (v_t_kind (Int32.toNatClampNeg p1)) = 1
    · have h := (if_pos c_5).symm.trans h
      refine lv_tableIn (tgt := 60) (off := 36) hx hb dX10_needs_24 (by rw [c_5]; decide) (by rw [c_5]; decide) (by rw [c_5]; rfl) (by decide) ?_
      refine lv_iconst (v := 1) hx hb dX10_needs_60 (by decide) ?_
      obtain rfl := Option.some.inj h
      exact xk_iret hx hb hr hlk hP hD hS (hQ _) dX10_needs_61
    have h := (if_neg c_5).symm.trans h
    by_cases c_6 : (v_t_kind (Int32.toNatClampNeg p1)) = 2
    · have h := (if_pos c_6).symm.trans h
      refine lv_tableIn (tgt := 62) (off := 38) hx hb dX10_needs_24 (by rw [c_6]; decide) (by rw [c_6]; decide) (by rw [c_6]; rfl) (by decide) ?_
      refine lv_iload_n hx hb dX10_needs_62 rfl (lv_at hl 0 rfl) ?_
      refine lv_iconst (v := 1) hx hb dX10_needs_63 (by decide) ?_
      refine lv_icmp_le (tgt := 71) hx hb dX10_needs_64 (by decide) (fun c_7 => ?_) (fun c_7 => ?_)
      · have h := (if_pos c_7).symm.trans h
        refine lv_iconst (v := 1) hx hb dX10_needs_71 (by decide) ?_
        obtain rfl := Option.some.inj h
        exact xk_iret hx hb hr hlk hP hD hS (hQ _) dX10_needs_72
      · have h := (if_neg c_7).symm.trans h
        refine lv_iconst (v := 2) hx hb dX10_needs_67 (by decide) ?_
        refine lv_goto (tgt := 72) hx hb dX10_needs_68 (by decide) ?_
        obtain rfl := Option.some.inj h
        exact xk_iret hx hb hr hlk hP hD hS (hQ _) dX10_needs_72
    have h := (if_neg c_6).symm.trans h
    by_cases c_8 : (v_t_kind (Int32.toNatClampNeg p1)) = 3
    · have h := (if_pos c_8).symm.trans h
      refine lv_tableIn (tgt := 73) (off := 49) hx hb dX10_needs_24 (by rw [c_8]; decide) (by rw [c_8]; decide) (by rw [c_8]; rfl) (by decide) ?_
      refine lv_iload_n hx hb dX10_needs_73 rfl (lv_at hl 0 rfl) ?_
      obtain rfl := Option.some.inj h
      exact xk_iret hx hb hr hlk hP hD hS (hQ _) dX10_needs_74
    have h := (if_neg c_8).symm.trans h
    by_cases c_9 : (v_t_kind (Int32.toNatClampNeg p1)) = 4
    · have h := (if_pos c_9).symm.trans h
      refine lv_tableIn (tgt := 75) (off := 51) hx hb dX10_needs_24 (by rw [c_9]; decide) (by rw [c_9]; decide) (by rw [c_9]; rfl) (by decide) ?_
      refine lv_aload_n hx hb dX10_needs_75 rfl (lv_at hl 1 rfl) ?_
      refine va_get (ci := 5) (v := .int v_t_day) (C := RX10) (T := TX10) (N := 25) hx hb hts hinX10 hown hK.1 hP 0 rfl rfl 5 (by decide) k_2 (fun _ h9 => h9) rfl dX10_needs_76 ?_
      refine lv_aload_n hx hb dX10_needs_79 rfl (lv_at hl 1 rfl) ?_
      refine va_get (ci := 5) (v := .ref a_t_figure) (C := RX10) (T := TX10) (N := 25) hx hb hts hinX10 hown hK.1 hP 0 rfl rfl 2 (by decide) k_3 (fun _ h9 => h9) rfl dX10_needs_80 ?_
      refine lv_iload_n hx hb dX10_needs_83 rfl (lv_at hl 2 rfl) ?_
      obtain ⟨i_10, h⟩ := xa_some h
      refine va_iald hx hb hK.1 hP 3 0 rfl rfl i_10 dX10_needs_84 ?_
      refine lv_iconst (v := 1) hx hb dX10_needs_85 (by decide) ?_
      refine lv_iadd hx hb dX10_needs_86 ?_
      obtain ⟨z_11, h⟩ := xd_some h
      refine lv_irem hx hb dX10_needs_87 z_11 ?_
      refine lv_if_ne (tgt := 95) hx hb dX10_needs_88 (by decide) (fun c_12 => ?_) (fun c_12 => ?_)
      · have h := (if_neg c_12).symm.trans h
        refine lv_sipush (v := 1000) hx hb dX10_needs_95 (by decide) ?_
        obtain rfl := Option.some.inj h
        exact xk_iret hx hb hr hlk hP hD hS (hQ _) dX10_needs_98
      · have h := (if_pos c_12).symm.trans h
        refine lv_iconst (v := 1) hx hb dX10_needs_91 (by decide) ?_
        refine lv_goto (tgt := 98) hx hb dX10_needs_92 (by decide) ?_
        obtain rfl := Option.some.inj h
        exact xk_iret hx hb hr hlk hP hD hS (hQ _) dX10_needs_98
    have h := (if_neg c_9).symm.trans h
    by_cases c_13 : (v_t_kind (Int32.toNatClampNeg p1)) = 5
    · have h := (if_pos c_13).symm.trans h
      refine lv_tableIn (tgt := 99) (off := 75) hx hb dX10_needs_24 (by rw [c_13]; decide) (by rw [c_13]; decide) (by rw [c_13]; rfl) (by decide) ?_
      refine lv_iload_n hx hb dX10_needs_99 rfl (lv_at hl 0 rfl) ?_
      refine lv_iconst (v := 2) hx hb dX10_needs_100 (by decide) ?_
      refine lv_idiv hx hb dX10_needs_101 (by decide) ?_
      refine lv_iconst (v := 1) hx hb dX10_needs_102 (by decide) ?_
      refine lv_iadd hx hb dX10_needs_103 ?_
      obtain rfl := Option.some.inj h
      exact xk_iret hx hb hr hlk hP hD hS (hQ _) dX10_needs_104
    have h := (if_neg c_13).symm.trans h
    have n_5 : ¬ Int32.toInt (v_t_kind (Int32.toNatClampNeg p1)) = (1 : Int) := lv_neT (k := 1) c_5 rfl
    have n_6 : ¬ Int32.toInt (v_t_kind (Int32.toNatClampNeg p1)) = (2 : Int) := lv_neT (k := 2) c_6 rfl
    have n_8 : ¬ Int32.toInt (v_t_kind (Int32.toNatClampNeg p1)) = (3 : Int) := lv_neT (k := 3) c_8 rfl
    have n_9 : ¬ Int32.toInt (v_t_kind (Int32.toNatClampNeg p1)) = (4 : Int) := lv_neT (k := 4) c_9 rfl
    have n_13 : ¬ Int32.toInt (v_t_kind (Int32.toNatClampNeg p1)) = (5 : Int) := lv_neT (k := 5) c_13 rfl
    refine lv_tableOut (tgt := 105) hx hb dX10_needs_24 (by omega) (by decide) ?_
    refine lv_sipush (v := 1000) hx hb dX10_needs_105 (by decide) ?_
    obtain rfl := Option.some.inj h
    exact xk_iret hx hb hr hlk hP hD hS (hQ _) dX10_needs_108
  · have h := (if_pos c_3).symm.trans h
    refine lv_sipush (v := 1000) hx hb dX10_needs_14 (by decide) ?_
    obtain rfl := Option.some.inj h
    exact xk_iret hx hb hr hlk hP hD hS (hQ _) dX10_needs_17
set_option maxHeartbeats 4000000 in
set_option maxRecDepth 100000 in
theorem c_X10_goesDay (l : Launch) (D : va_G) (cA : ClassId) (sa sv : Nat → Nat) (a_t a_t_refused a_t_kind a_t_figure a_t_cause a_t_tape a_t_letter a_t_letterAt a_t_told a_t_kept a_t_deep a_t_many a_t_row : Nat) (sz : Nat) (v_t_refused : Nat → Int32) (v_t_kind : Nat → Int32) (v_t_figure : Nat → Int32) (v_t_cause : Nat → Int32) (v_t_things : Int32) (v_t_day : Int32) (v_t_lost : Int32) (v_t_guarded : Int32) (v_t_tape : Nat → Int32) (v_t_letter : Nat → Int32) (v_t_letterAt : Nat → Int32) (v_t_told : Nat → Int32) (v_t_taped : Int32) (v_t_at : Int32) (v_t_statements : Int32) (v_t_kept : Nat → Int32) (v_t_hasImage : Int32) (v_t_isKeeping : Int32) (v_t_cursor : Int32) (v_t_deep : Nat → Int32) (v_t_nextWhen : Int32) (v_t_many : Nat → Int32) (v_t_row : Nat → Int32) (v_t_rowMany : Int32) (v_t_lots : Int32) (F : Nat) (res : Int32 × Int32) (h : f_X10_goesDay F v_t_kind v_t_figure v_t_cause v_t_things v_t_day v_t_lost v_t_guarded  = some res) : Met l yX10_goesDay wsX10_goesDay { frames := 2, cells := 0, slots := 0, locals := 44 } (xk_Pc D cA sa sv (wX10 cA a_t a_t_refused a_t_kind a_t_figure a_t_cause a_t_tape a_t_letter a_t_letterAt a_t_told a_t_kept a_t_deep a_t_many a_t_row v_t_refused v_t_kind v_t_figure v_t_cause v_t_things v_t_day v_t_lost v_t_guarded v_t_tape v_t_letter v_t_letterAt v_t_told v_t_taped v_t_at v_t_statements v_t_kept v_t_hasImage v_t_isKeeping v_t_cursor v_t_deep v_t_nextWhen v_t_many v_t_row v_t_rowMany v_t_lots) sz [.ref a_t]) (xk_Q D (va_A (wX10 cA a_t a_t_refused a_t_kind a_t_figure a_t_cause a_t_tape a_t_letter a_t_letterAt a_t_told a_t_kept a_t_deep a_t_many a_t_row v_t_refused v_t_kind v_t_figure v_t_cause v_t_things v_t_day v_t_lost v_t_guarded v_t_tape v_t_letter v_t_letterAt v_t_told v_t_taped v_t_at v_t_statements v_t_kept v_t_hasImage v_t_isKeeping v_t_cursor v_t_deep v_t_nextWhen v_t_many v_t_row v_t_rowMany v_t_lots) sz) (none) (wX10 cA a_t a_t_refused a_t_kind a_t_figure a_t_cause a_t_tape a_t_letter a_t_letterAt a_t_told a_t_kept a_t_deep a_t_many a_t_row v_t_refused v_t_kind v_t_figure v_t_cause v_t_things res.1 res.2 v_t_guarded v_t_tape v_t_letter v_t_letterAt v_t_told v_t_taped v_t_at v_t_statements v_t_kept v_t_hasImage v_t_isKeeping v_t_cursor v_t_deep v_t_nextWhen v_t_many v_t_row v_t_rowMany v_t_lots)) 0 0 (va_A (wX10 cA a_t a_t_refused a_t_kind a_t_figure a_t_cause a_t_tape a_t_letter a_t_letterAt a_t_told a_t_kept a_t_deep a_t_many a_t_row v_t_refused v_t_kind v_t_figure v_t_cause v_t_things v_t_day v_t_lost v_t_guarded v_t_tape v_t_letter v_t_letterAt v_t_told v_t_taped v_t_at v_t_statements v_t_kept v_t_hasImage v_t_isKeeping v_t_cursor v_t_deep v_t_nextWhen v_t_many v_t_row v_t_rowMany v_t_lots) sz) := by
  refine xk_met (fun res : Int32 × Int32 => none) (fun res : Int32 × Int32 => (wX10 cA a_t a_t_refused a_t_kind a_t_figure a_t_cause a_t_tape a_t_letter a_t_letterAt a_t_told a_t_kept a_t_deep a_t_many a_t_row v_t_refused v_t_kind v_t_figure v_t_cause v_t_things res.1 res.2 v_t_guarded v_t_tape v_t_letter v_t_letterAt v_t_told v_t_taped v_t_at v_t_statements v_t_kept v_t_hasImage v_t_isKeeping v_t_cursor v_t_deep v_t_nextWhen v_t_many v_t_row v_t_rowMany v_t_lots)) res (cc := cX10_goesDay) (maxL := 3) (ret := none) (by decide) rfl (Nat.le_of_ble_eq_true rfl) ?_
  intro p e s m args below meth c A Q ls hQ hx hb hr hlk hml hown hts hK hP hD hS hA hl
  have S : CallFix p m c cX10_goesDay 3 s args wsX10_goesDay RX10 := ⟨hx, hb, hml, hown, hts⟩
  have hl : lv_has ls 3 [(0, .ref a_t)] := hl
  have hinX10 : ∀ w ∈ u_ws RX10 TX10 25, w ∈ wsX10_goesDay := fun _ h => List.mem_cons_of_mem _ (List.mem_append_right _ (h))
  have k_0 := hts (.fieldLink RX10 103 "NailsWantTheKingdomModel" "day" "I") (List.mem_of_getElem? (i := 1) (by decide +kernel))
  have k_1 := hts (.fieldLink RX10 46 "NailsWantTheKingdomModel" "things" "I") (List.mem_of_getElem? (i := 2) (by decide +kernel))
  have k_2 := hts (.fieldLink RX10 94 "NailsWantTheKingdomModel" "lost" "I") (List.mem_of_getElem? (i := 3) (by decide +kernel))
  have k_3 := hts (.fieldLink RX10 97 "NailsWantTheKingdomModel" "guarded" "I") (List.mem_of_getElem? (i := 4) (by decide +kernel))
  have k_4 := hts (.fieldLink RX10 19 "NailsWantTheKingdomModel" "cause" "[I") (List.mem_of_getElem? (i := 5) (by decide +kernel))
  have J_68 : ∀ (k_14r : Int32 → Int32 → Int32 → Int32 → Option (Int32 × Int32)), (∀ (x1 : Int32) (x2 : Int32) (v_t_day : Int32) (v_t_lost : Int32) (res : Int32 × Int32), k_14r x1 x2 v_t_day v_t_lost = some res → ∀ (H : Heap) (locs : List Loc) (ls : Array Slot), va_P D vwCl (wX10 cA a_t a_t_refused a_t_kind a_t_figure a_t_cause a_t_tape a_t_letter a_t_letterAt a_t_told a_t_kept a_t_deep a_t_many a_t_row v_t_refused v_t_kind v_t_figure v_t_cause v_t_things v_t_day v_t_lost v_t_guarded v_t_tape v_t_letter v_t_letterAt v_t_told v_t_taped v_t_at v_t_statements v_t_kept v_t_hasImage v_t_isKeeping v_t_cursor v_t_deep v_t_nextWhen v_t_many v_t_row v_t_rowMany v_t_lots) H → va_D A (wX10 cA a_t a_t_refused a_t_kind a_t_figure a_t_cause a_t_tape a_t_letter a_t_letterAt a_t_told a_t_kept a_t_deep a_t_many a_t_row v_t_refused v_t_kind v_t_figure v_t_cause v_t_things v_t_day v_t_lost v_t_guarded v_t_tape v_t_letter v_t_letterAt v_t_told v_t_taped v_t_at v_t_statements v_t_kept v_t_hasImage v_t_isKeeping v_t_cursor v_t_deep v_t_nextWhen v_t_many v_t_row v_t_rowMany v_t_lots) → va_S A s.heap H locs → lv_has ls 3 [(0, .ref a_t), (1, .int x1), (2, .int x2)] → W p l e { frames := 2, cells := 0, slots := 0, locals := 44 } s m args below meth c H locs 0 0 (Q res) (F0 m 14 ls [])) → ∀ (s0 : Int32) (s1 : Int32) (x2 : Int32) (v_t_day : Int32) (v_t_lost : Int32) (res : Int32 × Int32), f_X10_goesDay_68 F v_t_kind v_t_figure v_t_cause v_t_things v_t_guarded k_14r s0 s1 x2 v_t_day v_t_lost = some res → ∀ (H : Heap) (locs : List Loc) (ls : Array Slot), va_P D vwCl (wX10 cA a_t a_t_refused a_t_kind a_t_figure a_t_cause a_t_tape a_t_letter a_t_letterAt a_t_told a_t_kept a_t_deep a_t_many a_t_row v_t_refused v_t_kind v_t_figure v_t_cause v_t_things v_t_day v_t_lost v_t_guarded v_t_tape v_t_letter v_t_letterAt v_t_told v_t_taped v_t_at v_t_statements v_t_kept v_t_hasImage v_t_isKeeping v_t_cursor v_t_deep v_t_nextWhen v_t_many v_t_row v_t_rowMany v_t_lots) H → va_D A (wX10 cA a_t a_t_refused a_t_kind a_t_figure a_t_cause a_t_tape a_t_letter a_t_letterAt a_t_told a_t_kept a_t_deep a_t_many a_t_row v_t_refused v_t_kind v_t_figure v_t_cause v_t_things v_t_day v_t_lost v_t_guarded v_t_tape v_t_letter v_t_letterAt v_t_told v_t_taped v_t_at v_t_statements v_t_kept v_t_hasImage v_t_isKeeping v_t_cursor v_t_deep v_t_nextWhen v_t_many v_t_row v_t_rowMany v_t_lots) → va_S A s.heap H locs → lv_has ls 3 [(0, .ref a_t), (2, .int x2)] → W p l e { frames := 2, cells := 0, slots := 0, locals := 44 } s m args below meth c H locs 0 0 (Q res) (F0 m 68 ls [.int s1, .int s0]) := by
    intro k_14r hk_14r s0 s1 x2 v_t_day v_t_lost res h H locs ls hP hD hS hl
    unfold f_X10_goesDay_68 at h
    refine lv_ior hx hb dX10_goesDay_68 ?_
    refine lv_istore_n (lv' := [(1, .int (s0 ||| s1)), (0, .ref a_t), (2, .int x2)]) hx hb dX10_goesDay_69 rfl hl (by decide) rfl (fun ls hl => ?_)
    refine lv_iinc (v := (x2 + 1)) (lv' := [(2, .int (x2 + 1)), (1, .int (s0 ||| s1)), (0, .ref a_t)]) hx hb dX10_goesDay_70 hl (k := 2) rfl rfl (by decide) rfl (fun ls hl => ?_)
    refine lv_goto (tgt := 14) hx hb dX10_goesDay_73 (by decide) ?_
    exact hk_14r (s0 ||| s1) (x2 + 1) v_t_day v_t_lost _ h _ _ _ hP hD hS (lv_sub hl [2, 1, 0] rfl)
  have J_67 : ∀ (k_14r : Int32 → Int32 → Int32 → Int32 → Option (Int32 × Int32)), (∀ (x1 : Int32) (x2 : Int32) (v_t_day : Int32) (v_t_lost : Int32) (res : Int32 × Int32), k_14r x1 x2 v_t_day v_t_lost = some res → ∀ (H : Heap) (locs : List Loc) (ls : Array Slot), va_P D vwCl (wX10 cA a_t a_t_refused a_t_kind a_t_figure a_t_cause a_t_tape a_t_letter a_t_letterAt a_t_told a_t_kept a_t_deep a_t_many a_t_row v_t_refused v_t_kind v_t_figure v_t_cause v_t_things v_t_day v_t_lost v_t_guarded v_t_tape v_t_letter v_t_letterAt v_t_told v_t_taped v_t_at v_t_statements v_t_kept v_t_hasImage v_t_isKeeping v_t_cursor v_t_deep v_t_nextWhen v_t_many v_t_row v_t_rowMany v_t_lots) H → va_D A (wX10 cA a_t a_t_refused a_t_kind a_t_figure a_t_cause a_t_tape a_t_letter a_t_letterAt a_t_told a_t_kept a_t_deep a_t_many a_t_row v_t_refused v_t_kind v_t_figure v_t_cause v_t_things v_t_day v_t_lost v_t_guarded v_t_tape v_t_letter v_t_letterAt v_t_told v_t_taped v_t_at v_t_statements v_t_kept v_t_hasImage v_t_isKeeping v_t_cursor v_t_deep v_t_nextWhen v_t_many v_t_row v_t_rowMany v_t_lots) → va_S A s.heap H locs → lv_has ls 3 [(0, .ref a_t), (1, .int x1), (2, .int x2)] → W p l e { frames := 2, cells := 0, slots := 0, locals := 44 } s m args below meth c H locs 0 0 (Q res) (F0 m 14 ls [])) → ∀ (s0 : Int32) (x2 : Int32) (v_t_day : Int32) (v_t_lost : Int32) (res : Int32 × Int32), f_X10_goesDay_67 F v_t_kind v_t_figure v_t_cause v_t_things v_t_guarded k_14r s0 x2 v_t_day v_t_lost = some res → ∀ (H : Heap) (locs : List Loc) (ls : Array Slot), va_P D vwCl (wX10 cA a_t a_t_refused a_t_kind a_t_figure a_t_cause a_t_tape a_t_letter a_t_letterAt a_t_told a_t_kept a_t_deep a_t_many a_t_row v_t_refused v_t_kind v_t_figure v_t_cause v_t_things v_t_day v_t_lost v_t_guarded v_t_tape v_t_letter v_t_letterAt v_t_told v_t_taped v_t_at v_t_statements v_t_kept v_t_hasImage v_t_isKeeping v_t_cursor v_t_deep v_t_nextWhen v_t_many v_t_row v_t_rowMany v_t_lots) H → va_D A (wX10 cA a_t a_t_refused a_t_kind a_t_figure a_t_cause a_t_tape a_t_letter a_t_letterAt a_t_told a_t_kept a_t_deep a_t_many a_t_row v_t_refused v_t_kind v_t_figure v_t_cause v_t_things v_t_day v_t_lost v_t_guarded v_t_tape v_t_letter v_t_letterAt v_t_told v_t_taped v_t_at v_t_statements v_t_kept v_t_hasImage v_t_isKeeping v_t_cursor v_t_deep v_t_nextWhen v_t_many v_t_row v_t_rowMany v_t_lots) → va_S A s.heap H locs → lv_has ls 3 [(0, .ref a_t), (2, .int x2)] → W p l e { frames := 2, cells := 0, slots := 0, locals := 44 } s m args below meth c H locs 0 0 (Q res) (F0 m 67 ls [.int s0]) := by
    intro k_14r hk_14r s0 x2 v_t_day v_t_lost res h H locs ls hP hD hS hl
    unfold f_X10_goesDay_67 at h
    refine lv_iconst (v := 0) hx hb dX10_goesDay_67 (by decide) ?_
    exact J_68 k_14r hk_14r s0 0 x2 v_t_day v_t_lost _ h _ _ _ hP hD hS (lv_sub hl [0, 1] rfl)
  have J_14 : ∀ (n : Nat) (x1 : Int32) (x2 : Int32) (v_t_day : Int32) (v_t_lost : Int32) (res : Int32 × Int32), f_X10_goesDay_14 F v_t_kind v_t_figure v_t_cause v_t_things v_t_guarded n x1 x2 v_t_day v_t_lost = some res → ∀ (H : Heap) (locs : List Loc) (ls : Array Slot), va_P D vwCl (wX10 cA a_t a_t_refused a_t_kind a_t_figure a_t_cause a_t_tape a_t_letter a_t_letterAt a_t_told a_t_kept a_t_deep a_t_many a_t_row v_t_refused v_t_kind v_t_figure v_t_cause v_t_things v_t_day v_t_lost v_t_guarded v_t_tape v_t_letter v_t_letterAt v_t_told v_t_taped v_t_at v_t_statements v_t_kept v_t_hasImage v_t_isKeeping v_t_cursor v_t_deep v_t_nextWhen v_t_many v_t_row v_t_rowMany v_t_lots) H → va_D A (wX10 cA a_t a_t_refused a_t_kind a_t_figure a_t_cause a_t_tape a_t_letter a_t_letterAt a_t_told a_t_kept a_t_deep a_t_many a_t_row v_t_refused v_t_kind v_t_figure v_t_cause v_t_things v_t_day v_t_lost v_t_guarded v_t_tape v_t_letter v_t_letterAt v_t_told v_t_taped v_t_at v_t_statements v_t_kept v_t_hasImage v_t_isKeeping v_t_cursor v_t_deep v_t_nextWhen v_t_many v_t_row v_t_rowMany v_t_lots) → va_S A s.heap H locs → lv_has ls 3 [(0, .ref a_t), (1, .int x1), (2, .int x2)] → W p l e { frames := 2, cells := 0, slots := 0, locals := 44 } s m args below meth c H locs 0 0 (Q res) (F0 m 14 ls []) := by
    intro n
    induction n with
    | zero => intro x1 x2 v_t_day v_t_lost res h; exact nomatch (show (none : Option (Int32 × Int32)) = some res from h)
    | succ n ih =>
      intro x1 x2 v_t_day v_t_lost res h H locs ls hP hD hS hl
      rw [f_X10_goesDay_14] at h
      refine lv_iload_n hx hb dX10_goesDay_14 rfl (lv_at hl 2 rfl) ?_
      refine lv_aload_n hx hb dX10_goesDay_15 rfl (lv_at hl 0 rfl) ?_
      refine va_get (ci := 5) (v := .int v_t_things) (C := RX10) (T := TX10) (N := 25) hx hb hts hinX10 hown hK.1 hP 0 rfl rfl 4 (by decide) k_1 (fun _ h9 => h9) rfl dX10_goesDay_16 ?_
      refine lv_icmp_ge (tgt := 76) hx hb dX10_goesDay_19 (by decide) (fun c_1 => ?_) (fun c_1 => ?_)
      · have h := (if_pos c_1).symm.trans h
        refine lv_aload_n hx hb dX10_goesDay_76 rfl (lv_at hl 0 rfl) ?_
        refine lv_dup hx hb dX10_goesDay_77 rfl ?_
        refine va_get (ci := 5) (v := .int v_t_lost) (C := RX10) (T := TX10) (N := 25) hx hb hts hinX10 hown hK.1 hP 0 rfl rfl 6 (by decide) k_2 (fun _ h9 => h9) rfl dX10_goesDay_78 ?_
        refine lv_iload_n hx hb dX10_goesDay_81 rfl (lv_at hl 1 rfl) ?_
        refine lv_ior hx hb dX10_goesDay_82 ?_
        refine va_put (ci := 5) (v := .int (v_t_lost ||| x1)) (ty := tyX10 6) (C := RX10) (T := TX10) (N := 25) hx hb hts hinX10 tyX10 tyX10_ok nmX10 hown hK.1 hP hD hS 0 rfl rfl 6 (by decide) k_2 (fun _ h9 => h9) rfl (tyX10_ok 6 (by decide)) rfl rfl (Nat.le_of_ble_eq_true rfl) dX10_goesDay_83 (fun H locs hP hD hS => ?_)
        have hP : va_P D vwCl (wX10 cA a_t a_t_refused a_t_kind a_t_figure a_t_cause a_t_tape a_t_letter a_t_letterAt a_t_told a_t_kept a_t_deep a_t_many a_t_row v_t_refused v_t_kind v_t_figure v_t_cause v_t_things v_t_day (v_t_lost ||| x1) v_t_guarded v_t_tape v_t_letter v_t_letterAt v_t_told v_t_taped v_t_at v_t_statements v_t_kept v_t_hasImage v_t_isKeeping v_t_cursor v_t_deep v_t_nextWhen v_t_many v_t_row v_t_rowMany v_t_lots) H := hP
        have hD : va_D A (wX10 cA a_t a_t_refused a_t_kind a_t_figure a_t_cause a_t_tape a_t_letter a_t_letterAt a_t_told a_t_kept a_t_deep a_t_many a_t_row v_t_refused v_t_kind v_t_figure v_t_cause v_t_things v_t_day (v_t_lost ||| x1) v_t_guarded v_t_tape v_t_letter v_t_letterAt v_t_told v_t_taped v_t_at v_t_statements v_t_kept v_t_hasImage v_t_isKeeping v_t_cursor v_t_deep v_t_nextWhen v_t_many v_t_row v_t_rowMany v_t_lots) := hD
        obtain rfl := Option.some.inj h
        exact xk_vret hx hb hr hlk hP hD hS (hQ _) dX10_goesDay_86
      · have h := (if_neg c_1).symm.trans h
        refine lv_iload_n hx hb dX10_goesDay_22 rfl (lv_at hl 1 rfl) ?_
        refine lv_aload_n hx hb dX10_goesDay_23 rfl (lv_at hl 0 rfl) ?_
        refine va_get (ci := 5) (v := .int v_t_lost) (C := RX10) (T := TX10) (N := 25) hx hb hts hinX10 hown hK.1 hP 0 rfl rfl 6 (by decide) k_2 (fun _ h9 => h9) rfl dX10_goesDay_24 ?_
        refine lv_aload_n hx hb dX10_goesDay_27 rfl (lv_at hl 0 rfl) ?_
        refine va_get (ci := 5) (v := .int v_t_guarded) (C := RX10) (T := TX10) (N := 25) hx hb hts hinX10 hown hK.1 hP 0 rfl rfl 7 (by decide) k_3 (fun _ h9 => h9) rfl dX10_goesDay_28 ?_
        refine lv_ior hx hb dX10_goesDay_31 ?_
        refine lv_iload_n hx hb dX10_goesDay_32 rfl (lv_at hl 2 rfl) ?_
        obtain ⟨x_2, hc_2, h⟩ := bd_some h
        refine xk_S (rest := [.int x1]) (As := [.int (v_t_lost ||| v_t_guarded), .int x2]) (stk := [.int x_2, .int x1]) (wn := (wX10 cA a_t a_t_refused a_t_kind a_t_figure a_t_cause a_t_tape a_t_letter a_t_letterAt a_t_told a_t_kept a_t_deep a_t_many a_t_row v_t_refused v_t_kind v_t_figure v_t_cause v_t_things v_t_day v_t_lost v_t_guarded v_t_tape v_t_letter v_t_letterAt v_t_told v_t_taped v_t_at v_t_statements v_t_kept v_t_hasImage v_t_isKeeping v_t_cursor v_t_deep v_t_nextWhen v_t_many v_t_row v_t_rowMany v_t_lots)) (v := (some (.int x_2))) (wr := [(a_t, .inr (5, [.ref a_t_refused, .ref a_t_kind, .ref a_t_figure, .ref a_t_cause, .int v_t_things, .int v_t_day, .int v_t_lost, .int v_t_guarded, .ref a_t_tape, .ref a_t_letter, .ref a_t_letterAt, .ref a_t_told, .int v_t_taped, .int v_t_at, .int v_t_statements, .ref a_t_kept, .int v_t_hasImage, .int v_t_isKeeping, .int v_t_cursor, .ref a_t_deep, .int v_t_nextWhen, .ref a_t_many, .ref a_t_row, .int v_t_rowMany, .int v_t_lots])), (a_t_refused, .inl (cA, 7, .inl v_t_refused)), (a_t_kind, .inl (cA, 9, .inl v_t_kind)), (a_t_figure, .inl (cA, 9, .inl v_t_figure)), (a_t_cause, .inl (cA, 9, .inl v_t_cause)), (a_t_tape, .inl (cA, 96, .inl v_t_tape)), (a_t_letter, .inl (cA, 48, .inl v_t_letter)), (a_t_letterAt, .inl (cA, 48, .inl v_t_letterAt)), (a_t_told, .inl (cA, 96, .inl v_t_told)), (a_t_kept, .inl (cA, 93, .inl v_t_kept)), (a_t_deep, .inl (cA, 9, .inl v_t_deep)), (a_t_many, .inl (cA, 4, .inl v_t_many)), (a_t_row, .inl (cA, 16, .inl v_t_row))]) gX10_goesDay_X10_has rfl hdS_X10_has rfl rfl (c_X10_has l D cA sa sv _ (v_t_lost ||| v_t_guarded) x2 x_2 hc_2) S hK hP hD hS hA [] [0, 1, 2, 3, 4, 5, 6, 7, 8, 9, 10, 11, 12] [0, 1, 2, 3, 4, 5, 6, 7, 8, 9, 10, 11, 12] rfl rfl rfl rfl rfl rfl rfl ⟨Nat.le_of_ble_eq_true rfl, Nat.le_of_ble_eq_true rfl⟩ ⟨Nat.le_refl 0, Nat.le_refl 0⟩ rfl hl.1 rfl (Nat.le_of_ble_eq_true rfl) rfl dX10_goesDay_33 (fun H locs hP hD hS => ?_)
        refine lv_if_ne (tgt := 67) hx hb dX10_goesDay_36 (by decide) (fun c_3 => ?_) (fun c_3 => ?_)
        · have h := (if_neg c_3).symm.trans h
          exact J_67 (f_X10_goesDay_14 F v_t_kind v_t_figure v_t_cause v_t_things v_t_guarded n) ih x1 x2 v_t_day v_t_lost _ h _ _ _ hP hD hS (lv_sub hl [0, 2] rfl)
        · have h := (if_pos c_3).symm.trans h
          refine lv_aload_n hx hb dX10_goesDay_39 rfl (lv_at hl 0 rfl) ?_
          refine va_get (ci := 5) (v := .ref a_t_cause) (C := RX10) (T := TX10) (N := 25) hx hb hts hinX10 hown hK.1 hP 0 rfl rfl 3 (by decide) k_4 (fun _ h9 => h9) rfl dX10_goesDay_40 ?_
          refine lv_iload_n hx hb dX10_goesDay_43 rfl (lv_at hl 2 rfl) ?_
          obtain ⟨i_4, h⟩ := xa_some h
          refine va_iald hx hb hK.1 hP 4 0 rfl rfl i_4 dX10_goesDay_44 ?_
          refine lv_aload_n hx hb dX10_goesDay_45 rfl (lv_at hl 0 rfl) ?_
          refine va_get (ci := 5) (v := .int v_t_lost) (C := RX10) (T := TX10) (N := 25) hx hb hts hinX10 hown hK.1 hP 0 rfl rfl 6 (by decide) k_2 (fun _ h9 => h9) rfl dX10_goesDay_46 ?_
          refine lv_iand hx hb dX10_goesDay_49 ?_
          obtain ⟨x_5, hc_5, h⟩ := bd_some h
          refine xk_S (rest := [.int x1]) (As := [.int ((v_t_cause (Int32.toNatClampNeg x2)) &&& v_t_lost)]) (stk := [.int x_5, .int x1]) (wn := (wX10 cA a_t a_t_refused a_t_kind a_t_figure a_t_cause a_t_tape a_t_letter a_t_letterAt a_t_told a_t_kept a_t_deep a_t_many a_t_row v_t_refused v_t_kind v_t_figure v_t_cause v_t_things v_t_day v_t_lost v_t_guarded v_t_tape v_t_letter v_t_letterAt v_t_told v_t_taped v_t_at v_t_statements v_t_kept v_t_hasImage v_t_isKeeping v_t_cursor v_t_deep v_t_nextWhen v_t_many v_t_row v_t_rowMany v_t_lots)) (v := (some (.int x_5))) (wr := [(a_t, .inr (5, [.ref a_t_refused, .ref a_t_kind, .ref a_t_figure, .ref a_t_cause, .int v_t_things, .int v_t_day, .int v_t_lost, .int v_t_guarded, .ref a_t_tape, .ref a_t_letter, .ref a_t_letterAt, .ref a_t_told, .int v_t_taped, .int v_t_at, .int v_t_statements, .ref a_t_kept, .int v_t_hasImage, .int v_t_isKeeping, .int v_t_cursor, .ref a_t_deep, .int v_t_nextWhen, .ref a_t_many, .ref a_t_row, .int v_t_rowMany, .int v_t_lots])), (a_t_refused, .inl (cA, 7, .inl v_t_refused)), (a_t_kind, .inl (cA, 9, .inl v_t_kind)), (a_t_figure, .inl (cA, 9, .inl v_t_figure)), (a_t_cause, .inl (cA, 9, .inl v_t_cause)), (a_t_tape, .inl (cA, 96, .inl v_t_tape)), (a_t_letter, .inl (cA, 48, .inl v_t_letter)), (a_t_letterAt, .inl (cA, 48, .inl v_t_letterAt)), (a_t_told, .inl (cA, 96, .inl v_t_told)), (a_t_kept, .inl (cA, 93, .inl v_t_kept)), (a_t_deep, .inl (cA, 9, .inl v_t_deep)), (a_t_many, .inl (cA, 4, .inl v_t_many)), (a_t_row, .inl (cA, 16, .inl v_t_row))]) gX10_goesDay_X10_bits rfl hdS_X10_bits rfl rfl (c_X10_bits l D cA sa sv _ ((v_t_cause (Int32.toNatClampNeg x2)) &&& v_t_lost) F x_5 hc_5) S hK hP hD hS hA [] [0, 1, 2, 3, 4, 5, 6, 7, 8, 9, 10, 11, 12] [0, 1, 2, 3, 4, 5, 6, 7, 8, 9, 10, 11, 12] rfl rfl rfl rfl rfl rfl rfl ⟨Nat.le_of_ble_eq_true rfl, Nat.le_of_ble_eq_true rfl⟩ ⟨Nat.le_refl 0, Nat.le_refl 0⟩ rfl hl.1 rfl (Nat.le_of_ble_eq_true rfl) rfl dX10_goesDay_50 (fun H locs hP hD hS => ?_)
          refine lv_aload_n hx hb dX10_goesDay_53 rfl (lv_at hl 0 rfl) ?_
          refine lv_iload_n hx hb dX10_goesDay_54 rfl (lv_at hl 2 rfl) ?_
          obtain ⟨x_6, hc_6, h⟩ := bd_some h
          refine xk_V (rest := [.int x_5, .int x1]) (As := [.int x2]) (stk := [.int x_6, .int x_5, .int x1]) (wn := (wX10 cA a_t a_t_refused a_t_kind a_t_figure a_t_cause a_t_tape a_t_letter a_t_letterAt a_t_told a_t_kept a_t_deep a_t_many a_t_row v_t_refused v_t_kind v_t_figure v_t_cause v_t_things v_t_day v_t_lost v_t_guarded v_t_tape v_t_letter v_t_letterAt v_t_told v_t_taped v_t_at v_t_statements v_t_kept v_t_hasImage v_t_isKeeping v_t_cursor v_t_deep v_t_nextWhen v_t_many v_t_row v_t_rowMany v_t_lots)) (v := (some (.int x_6))) (wr := []) gX10_goesDay_X10_needs rfl hdV_X10_needs rfl rfl (c_X10_needs l D cA sa sv a_t a_t_refused a_t_kind a_t_figure a_t_cause a_t_tape a_t_letter a_t_letterAt a_t_told a_t_kept a_t_deep a_t_many a_t_row _ v_t_refused v_t_kind v_t_figure v_t_cause v_t_things v_t_day v_t_lost v_t_guarded v_t_tape v_t_letter v_t_letterAt v_t_told v_t_taped v_t_at v_t_statements v_t_kept v_t_hasImage v_t_isKeeping v_t_cursor v_t_deep v_t_nextWhen v_t_many v_t_row v_t_rowMany v_t_lots x2 F x_6 hc_6) (ci := 5) rfl (q0 := 0) rfl S hK hP hD hS hA [0, 1, 2, 3, 4, 5, 6, 7, 8, 9, 10, 11, 12] [] [0, 1, 2, 3, 4, 5, 6, 7, 8, 9, 10, 11, 12] rfl rfl rfl rfl rfl rfl rfl ⟨Nat.le_of_ble_eq_true rfl, Nat.le_of_ble_eq_true rfl⟩ ⟨Nat.le_refl 0, Nat.le_refl 0⟩ rfl hl.1 rfl (Nat.le_of_ble_eq_true rfl) rfl dX10_goesDay_55 (fun H locs hP hD hS => ?_)
          refine lv_icmp_lt (tgt := 67) hx hb dX10_goesDay_58 (by decide) (fun c_7 => ?_) (fun c_7 => ?_)
          · have h := (if_pos c_7).symm.trans h
            exact J_67 (f_X10_goesDay_14 F v_t_kind v_t_figure v_t_cause v_t_things v_t_guarded n) ih x1 x2 v_t_day v_t_lost _ h _ _ _ hP hD hS (lv_sub hl [0, 2] rfl)
          · have h := (if_neg c_7).symm.trans h
            refine lv_iconst (v := 1) hx hb dX10_goesDay_61 (by decide) ?_
            refine lv_iload_n hx hb dX10_goesDay_62 rfl (lv_at hl 2 rfl) ?_
            refine lv_ishl hx hb dX10_goesDay_63 ?_
            refine lv_goto (tgt := 68) hx hb dX10_goesDay_64 (by decide) ?_
            exact J_68 (f_X10_goesDay_14 F v_t_kind v_t_figure v_t_cause v_t_things v_t_guarded n) ih x1 (1 <<< (x2 &&& 31)) x2 v_t_day v_t_lost _ h _ _ _ hP hD hS (lv_sub hl [0, 2] rfl)
  unfold f_X10_goesDay at h
  refine lv_aload_n hx hb dX10_goesDay_0 rfl (lv_at hl 0 rfl) ?_
  refine lv_dup hx hb dX10_goesDay_1 rfl ?_
  refine va_get (ci := 5) (v := .int v_t_day) (C := RX10) (T := TX10) (N := 25) hx hb hts hinX10 hown hK.1 hP 0 rfl rfl 5 (by decide) k_0 (fun _ h9 => h9) rfl dX10_goesDay_2 ?_
  refine lv_iconst (v := 1) hx hb dX10_goesDay_5 (by decide) ?_
  refine lv_iadd hx hb dX10_goesDay_6 ?_
  refine va_put (ci := 5) (v := .int (v_t_day + 1)) (ty := tyX10 5) (C := RX10) (T := TX10) (N := 25) hx hb hts hinX10 tyX10 tyX10_ok nmX10 hown hK.1 hP hD hS 0 rfl rfl 5 (by decide) k_0 (fun _ h9 => h9) rfl (tyX10_ok 5 (by decide)) rfl rfl (Nat.le_of_ble_eq_true rfl) dX10_goesDay_7 (fun H locs hP hD hS => ?_)
  have hP : va_P D vwCl (wX10 cA a_t a_t_refused a_t_kind a_t_figure a_t_cause a_t_tape a_t_letter a_t_letterAt a_t_told a_t_kept a_t_deep a_t_many a_t_row v_t_refused v_t_kind v_t_figure v_t_cause v_t_things (v_t_day + 1) v_t_lost v_t_guarded v_t_tape v_t_letter v_t_letterAt v_t_told v_t_taped v_t_at v_t_statements v_t_kept v_t_hasImage v_t_isKeeping v_t_cursor v_t_deep v_t_nextWhen v_t_many v_t_row v_t_rowMany v_t_lots) H := hP
  have hD : va_D A (wX10 cA a_t a_t_refused a_t_kind a_t_figure a_t_cause a_t_tape a_t_letter a_t_letterAt a_t_told a_t_kept a_t_deep a_t_many a_t_row v_t_refused v_t_kind v_t_figure v_t_cause v_t_things (v_t_day + 1) v_t_lost v_t_guarded v_t_tape v_t_letter v_t_letterAt v_t_told v_t_taped v_t_at v_t_statements v_t_kept v_t_hasImage v_t_isKeeping v_t_cursor v_t_deep v_t_nextWhen v_t_many v_t_row v_t_rowMany v_t_lots) := hD
  refine lv_iconst (v := 0) hx hb dX10_goesDay_10 (by decide) ?_
  refine lv_istore_n (lv' := [(1, .int 0), (0, .ref a_t)]) hx hb dX10_goesDay_11 rfl hl (by decide) rfl (fun ls hl => ?_)
  refine lv_iconst (v := 0) hx hb dX10_goesDay_12 (by decide) ?_
  refine lv_istore_n (lv' := [(2, .int 0), (1, .int 0), (0, .ref a_t)]) hx hb dX10_goesDay_13 rfl hl (by decide) rfl (fun ls hl => ?_)
  exact J_14 F 0 0 (v_t_day + 1) v_t_lost _ h _ _ _ hP hD hS (lv_sub hl [2, 1, 0] rfl)
set_option maxHeartbeats 4000000 in
set_option maxRecDepth 100000 in
theorem c_X10_goes (l : Launch) (D : va_G) (cA : ClassId) (sa sv : Nat → Nat) (a_t a_t_refused a_t_kind a_t_figure a_t_cause a_t_tape a_t_letter a_t_letterAt a_t_told a_t_kept a_t_deep a_t_many a_t_row : Nat) (sz : Nat) (v_t_refused : Nat → Int32) (v_t_kind : Nat → Int32) (v_t_figure : Nat → Int32) (v_t_cause : Nat → Int32) (v_t_things : Int32) (v_t_day : Int32) (v_t_lost : Int32) (v_t_guarded : Int32) (v_t_tape : Nat → Int32) (v_t_letter : Nat → Int32) (v_t_letterAt : Nat → Int32) (v_t_told : Nat → Int32) (v_t_taped : Int32) (v_t_at : Int32) (v_t_statements : Int32) (v_t_kept : Nat → Int32) (v_t_hasImage : Int32) (v_t_isKeeping : Int32) (v_t_cursor : Int32) (v_t_deep : Nat → Int32) (v_t_nextWhen : Int32) (v_t_many : Nat → Int32) (v_t_row : Nat → Int32) (v_t_rowMany : Int32) (v_t_lots : Int32) (p1 : Int32) (F : Nat) (res : Int32 × Int32) (h : f_X10_goes F v_t_kind v_t_figure v_t_cause v_t_things v_t_day v_t_lost v_t_guarded p1 = some res) : Met l yX10_goes wsX10_goes { frames := 3, cells := 0, slots := 0, locals := 66 } (xk_Pc D cA sa sv (wX10 cA a_t a_t_refused a_t_kind a_t_figure a_t_cause a_t_tape a_t_letter a_t_letterAt a_t_told a_t_kept a_t_deep a_t_many a_t_row v_t_refused v_t_kind v_t_figure v_t_cause v_t_things v_t_day v_t_lost v_t_guarded v_t_tape v_t_letter v_t_letterAt v_t_told v_t_taped v_t_at v_t_statements v_t_kept v_t_hasImage v_t_isKeeping v_t_cursor v_t_deep v_t_nextWhen v_t_many v_t_row v_t_rowMany v_t_lots) sz [.ref a_t, .int p1]) (xk_Q D (va_A (wX10 cA a_t a_t_refused a_t_kind a_t_figure a_t_cause a_t_tape a_t_letter a_t_letterAt a_t_told a_t_kept a_t_deep a_t_many a_t_row v_t_refused v_t_kind v_t_figure v_t_cause v_t_things v_t_day v_t_lost v_t_guarded v_t_tape v_t_letter v_t_letterAt v_t_told v_t_taped v_t_at v_t_statements v_t_kept v_t_hasImage v_t_isKeeping v_t_cursor v_t_deep v_t_nextWhen v_t_many v_t_row v_t_rowMany v_t_lots) sz) (none) (wX10 cA a_t a_t_refused a_t_kind a_t_figure a_t_cause a_t_tape a_t_letter a_t_letterAt a_t_told a_t_kept a_t_deep a_t_many a_t_row v_t_refused v_t_kind v_t_figure v_t_cause v_t_things res.1 res.2 v_t_guarded v_t_tape v_t_letter v_t_letterAt v_t_told v_t_taped v_t_at v_t_statements v_t_kept v_t_hasImage v_t_isKeeping v_t_cursor v_t_deep v_t_nextWhen v_t_many v_t_row v_t_rowMany v_t_lots)) 0 0 (va_A (wX10 cA a_t a_t_refused a_t_kind a_t_figure a_t_cause a_t_tape a_t_letter a_t_letterAt a_t_told a_t_kept a_t_deep a_t_many a_t_row v_t_refused v_t_kind v_t_figure v_t_cause v_t_things v_t_day v_t_lost v_t_guarded v_t_tape v_t_letter v_t_letterAt v_t_told v_t_taped v_t_at v_t_statements v_t_kept v_t_hasImage v_t_isKeeping v_t_cursor v_t_deep v_t_nextWhen v_t_many v_t_row v_t_rowMany v_t_lots) sz) := by
  refine xk_met (fun res : Int32 × Int32 => none) (fun res : Int32 × Int32 => (wX10 cA a_t a_t_refused a_t_kind a_t_figure a_t_cause a_t_tape a_t_letter a_t_letterAt a_t_told a_t_kept a_t_deep a_t_many a_t_row v_t_refused v_t_kind v_t_figure v_t_cause v_t_things res.1 res.2 v_t_guarded v_t_tape v_t_letter v_t_letterAt v_t_told v_t_taped v_t_at v_t_statements v_t_kept v_t_hasImage v_t_isKeeping v_t_cursor v_t_deep v_t_nextWhen v_t_many v_t_row v_t_rowMany v_t_lots)) res (cc := cX10_goes) (maxL := 3) (ret := none) (by decide) rfl (Nat.le_of_ble_eq_true rfl) ?_
  intro p e s m args below meth c A Q ls hQ hx hb hr hlk hml hown hts hK hP hD hS hA hl
  have S : CallFix p m c cX10_goes 3 s args wsX10_goes RX10 := ⟨hx, hb, hml, hown, hts⟩
  have hl : lv_has ls 3 [(0, .ref a_t), (1, .int p1)] := hl
  have J_2 : ∀ (n : Nat) (x2 : Int32) (v_t_day : Int32) (v_t_lost : Int32) (res : Int32 × Int32), f_X10_goes_2 F v_t_kind v_t_figure v_t_cause v_t_things v_t_guarded p1 n x2 v_t_day v_t_lost = some res → ∀ (H : Heap) (locs : List Loc) (ls : Array Slot), va_P D vwCl (wX10 cA a_t a_t_refused a_t_kind a_t_figure a_t_cause a_t_tape a_t_letter a_t_letterAt a_t_told a_t_kept a_t_deep a_t_many a_t_row v_t_refused v_t_kind v_t_figure v_t_cause v_t_things v_t_day v_t_lost v_t_guarded v_t_tape v_t_letter v_t_letterAt v_t_told v_t_taped v_t_at v_t_statements v_t_kept v_t_hasImage v_t_isKeeping v_t_cursor v_t_deep v_t_nextWhen v_t_many v_t_row v_t_rowMany v_t_lots) H → va_D A (wX10 cA a_t a_t_refused a_t_kind a_t_figure a_t_cause a_t_tape a_t_letter a_t_letterAt a_t_told a_t_kept a_t_deep a_t_many a_t_row v_t_refused v_t_kind v_t_figure v_t_cause v_t_things v_t_day v_t_lost v_t_guarded v_t_tape v_t_letter v_t_letterAt v_t_told v_t_taped v_t_at v_t_statements v_t_kept v_t_hasImage v_t_isKeeping v_t_cursor v_t_deep v_t_nextWhen v_t_many v_t_row v_t_rowMany v_t_lots) → va_S A s.heap H locs → lv_has ls 3 [(0, .ref a_t), (1, .int p1), (2, .int x2)] → W p l e { frames := 3, cells := 0, slots := 0, locals := 66 } s m args below meth c H locs 0 0 (Q res) (F0 m 2 ls []) := by
    intro n
    induction n with
    | zero => intro x2 v_t_day v_t_lost res h; exact nomatch (show (none : Option (Int32 × Int32)) = some res from h)
    | succ n ih =>
      intro x2 v_t_day v_t_lost res h H locs ls hP hD hS hl
      rw [f_X10_goes_2] at h
      refine lv_iload_n hx hb dX10_goes_2 rfl (lv_at hl 2 rfl) ?_
      refine lv_iload_n hx hb dX10_goes_3 rfl (lv_at hl 1 rfl) ?_
      refine lv_icmp_ge (tgt := 17) hx hb dX10_goes_4 (by decide) (fun c_1 => ?_) (fun c_1 => ?_)
      · have h := (if_pos c_1).symm.trans h
        obtain rfl := Option.some.inj h
        exact xk_vret hx hb hr hlk hP hD hS (hQ _) dX10_goes_17
      · have h := (if_neg c_1).symm.trans h
        refine lv_aload_n hx hb dX10_goes_7 rfl (lv_at hl 0 rfl) ?_
        obtain ⟨x_2, hc_2, h⟩ := bd_some h
        refine xk_V (rest := []) (As := []) (stk := []) (wn := (wX10 cA a_t a_t_refused a_t_kind a_t_figure a_t_cause a_t_tape a_t_letter a_t_letterAt a_t_told a_t_kept a_t_deep a_t_many a_t_row v_t_refused v_t_kind v_t_figure v_t_cause v_t_things x_2.1 x_2.2 v_t_guarded v_t_tape v_t_letter v_t_letterAt v_t_told v_t_taped v_t_at v_t_statements v_t_kept v_t_hasImage v_t_isKeeping v_t_cursor v_t_deep v_t_nextWhen v_t_many v_t_row v_t_rowMany v_t_lots)) (v := none) (wr := []) gX10_goes_X10_goesDay rfl hdV_X10_goesDay rfl rfl (c_X10_goesDay l D cA sa sv a_t a_t_refused a_t_kind a_t_figure a_t_cause a_t_tape a_t_letter a_t_letterAt a_t_told a_t_kept a_t_deep a_t_many a_t_row _ v_t_refused v_t_kind v_t_figure v_t_cause v_t_things v_t_day v_t_lost v_t_guarded v_t_tape v_t_letter v_t_letterAt v_t_told v_t_taped v_t_at v_t_statements v_t_kept v_t_hasImage v_t_isKeeping v_t_cursor v_t_deep v_t_nextWhen v_t_many v_t_row v_t_rowMany v_t_lots F x_2 hc_2) (ci := 5) rfl (q0 := 0) rfl S hK hP hD hS hA [0, 1, 2, 3, 4, 5, 6, 7, 8, 9, 10, 11, 12] [] [0, 1, 2, 3, 4, 5, 6, 7, 8, 9, 10, 11, 12] rfl rfl rfl rfl rfl rfl rfl ⟨Nat.le_of_ble_eq_true rfl, Nat.le_of_ble_eq_true rfl⟩ ⟨Nat.le_refl 0, Nat.le_refl 0⟩ rfl hl.1 rfl (Nat.le_of_ble_eq_true rfl) rfl dX10_goes_8 (fun H locs hP hD hS => ?_)
        refine lv_iinc (v := (x2 + 1)) (lv' := [(2, .int (x2 + 1)), (0, .ref a_t), (1, .int p1)]) hx hb dX10_goes_11 hl (k := 2) rfl rfl (by decide) rfl (fun ls hl => ?_)
        refine lv_goto (tgt := 2) hx hb dX10_goes_14 (by decide) ?_
        exact ih (x2 + 1) x_2.1 x_2.2 _ h _ _ _ hP hD hS (lv_sub hl [1, 2, 0] rfl)
  unfold f_X10_goes at h
  refine lv_iconst (v := 0) hx hb dX10_goes_0 (by decide) ?_
  refine lv_istore_n (lv' := [(2, .int 0), (0, .ref a_t), (1, .int p1)]) hx hb dX10_goes_1 rfl hl (by decide) rfl (fun ls hl => ?_)
  exact J_2 F 0 v_t_day v_t_lost _ h _ _ _ hP hD hS (lv_sub hl [1, 2, 0] rfl)
set_option maxHeartbeats 4000000 in
set_option maxRecDepth 100000 in
theorem c_X10_comesDays (l : Launch) (D : va_G) (cA : ClassId) (sa sv : Nat → Nat) (a_t a_t_refused a_t_kind a_t_figure a_t_cause a_t_tape a_t_letter a_t_letterAt a_t_told a_t_kept a_t_deep a_t_many a_t_row : Nat) (sz : Nat) (v_t_refused : Nat → Int32) (v_t_kind : Nat → Int32) (v_t_figure : Nat → Int32) (v_t_cause : Nat → Int32) (v_t_things : Int32) (v_t_day : Int32) (v_t_lost : Int32) (v_t_guarded : Int32) (v_t_tape : Nat → Int32) (v_t_letter : Nat → Int32) (v_t_letterAt : Nat → Int32) (v_t_told : Nat → Int32) (v_t_taped : Int32) (v_t_at : Int32) (v_t_statements : Int32) (v_t_kept : Nat → Int32) (v_t_hasImage : Int32) (v_t_isKeeping : Int32) (v_t_cursor : Int32) (v_t_deep : Nat → Int32) (v_t_nextWhen : Int32) (v_t_many : Nat → Int32) (v_t_row : Nat → Int32) (v_t_rowMany : Int32) (v_t_lots : Int32) (p1 : Int32) (F : Nat) (res : Int32 × Int32 × Int32) (h : f_X10_comesDays F v_t_kind v_t_figure v_t_cause v_t_things v_t_day v_t_lost v_t_guarded p1 = some res) : Met l yX10_comesDays wsX10_comesDays { frames := 4, cells := 0, slots := 0, locals := 88 } (xk_Pc D cA sa sv (wX10 cA a_t a_t_refused a_t_kind a_t_figure a_t_cause a_t_tape a_t_letter a_t_letterAt a_t_told a_t_kept a_t_deep a_t_many a_t_row v_t_refused v_t_kind v_t_figure v_t_cause v_t_things v_t_day v_t_lost v_t_guarded v_t_tape v_t_letter v_t_letterAt v_t_told v_t_taped v_t_at v_t_statements v_t_kept v_t_hasImage v_t_isKeeping v_t_cursor v_t_deep v_t_nextWhen v_t_many v_t_row v_t_rowMany v_t_lots) sz [.ref a_t, .int p1]) (xk_Q D (va_A (wX10 cA a_t a_t_refused a_t_kind a_t_figure a_t_cause a_t_tape a_t_letter a_t_letterAt a_t_told a_t_kept a_t_deep a_t_many a_t_row v_t_refused v_t_kind v_t_figure v_t_cause v_t_things v_t_day v_t_lost v_t_guarded v_t_tape v_t_letter v_t_letterAt v_t_told v_t_taped v_t_at v_t_statements v_t_kept v_t_hasImage v_t_isKeeping v_t_cursor v_t_deep v_t_nextWhen v_t_many v_t_row v_t_rowMany v_t_lots) sz) (some (.int res.1)) (wX10 cA a_t a_t_refused a_t_kind a_t_figure a_t_cause a_t_tape a_t_letter a_t_letterAt a_t_told a_t_kept a_t_deep a_t_many a_t_row v_t_refused v_t_kind v_t_figure v_t_cause v_t_things res.2.1 res.2.2 v_t_guarded v_t_tape v_t_letter v_t_letterAt v_t_told v_t_taped v_t_at v_t_statements v_t_kept v_t_hasImage v_t_isKeeping v_t_cursor v_t_deep v_t_nextWhen v_t_many v_t_row v_t_rowMany v_t_lots)) 0 0 (va_A (wX10 cA a_t a_t_refused a_t_kind a_t_figure a_t_cause a_t_tape a_t_letter a_t_letterAt a_t_told a_t_kept a_t_deep a_t_many a_t_row v_t_refused v_t_kind v_t_figure v_t_cause v_t_things v_t_day v_t_lost v_t_guarded v_t_tape v_t_letter v_t_letterAt v_t_told v_t_taped v_t_at v_t_statements v_t_kept v_t_hasImage v_t_isKeeping v_t_cursor v_t_deep v_t_nextWhen v_t_many v_t_row v_t_rowMany v_t_lots) sz) := by
  refine xk_met (fun res : Int32 × Int32 × Int32 => some (.int res.1)) (fun res : Int32 × Int32 × Int32 => (wX10 cA a_t a_t_refused a_t_kind a_t_figure a_t_cause a_t_tape a_t_letter a_t_letterAt a_t_told a_t_kept a_t_deep a_t_many a_t_row v_t_refused v_t_kind v_t_figure v_t_cause v_t_things res.2.1 res.2.2 v_t_guarded v_t_tape v_t_letter v_t_letterAt v_t_told v_t_taped v_t_at v_t_statements v_t_kept v_t_hasImage v_t_isKeeping v_t_cursor v_t_deep v_t_nextWhen v_t_many v_t_row v_t_rowMany v_t_lots)) res (cc := cX10_comesDays) (maxL := 2) (ret := (some .boolean)) (by decide) rfl (Nat.le_of_ble_eq_true rfl) ?_
  intro p e s m args below meth c A Q ls hQ hx hb hr hlk hml hown hts hK hP hD hS hA hl
  have S : CallFix p m c cX10_comesDays 2 s args wsX10_comesDays RX10 := ⟨hx, hb, hml, hown, hts⟩
  have hl : lv_has ls 2 [(0, .ref a_t), (1, .int p1)] := hl
  have hinX10 : ∀ w ∈ u_ws RX10 TX10 25, w ∈ wsX10_comesDays := fun _ h => List.mem_cons_of_mem _ (List.mem_append_right _ (h))
  have k_0 := hts (.fieldLink RX10 103 "NailsWantTheKingdomModel" "day" "I") (List.mem_of_getElem? (i := 1) (by decide +kernel))
  unfold f_X10_comesDays at h
  refine lv_iload_n hx hb dX10_comesDays_0 rfl (lv_at hl 1 rfl) ?_
  refine lv_iconst (v := 1) hx hb dX10_comesDays_1 (by decide) ?_
  refine lv_bipush (v := 60) hx hb dX10_comesDays_2 (by decide) ?_
  obtain ⟨x_1, hc_1, h⟩ := bd_some h
  refine xk_S (rest := []) (As := [.int p1, .int 1, .int 60]) (stk := [.int x_1]) (wn := (wX10 cA a_t a_t_refused a_t_kind a_t_figure a_t_cause a_t_tape a_t_letter a_t_letterAt a_t_told a_t_kept a_t_deep a_t_many a_t_row v_t_refused v_t_kind v_t_figure v_t_cause v_t_things v_t_day v_t_lost v_t_guarded v_t_tape v_t_letter v_t_letterAt v_t_told v_t_taped v_t_at v_t_statements v_t_kept v_t_hasImage v_t_isKeeping v_t_cursor v_t_deep v_t_nextWhen v_t_many v_t_row v_t_rowMany v_t_lots)) (v := (some (.int x_1))) (wr := [(a_t, .inr (5, [.ref a_t_refused, .ref a_t_kind, .ref a_t_figure, .ref a_t_cause, .int v_t_things, .int v_t_day, .int v_t_lost, .int v_t_guarded, .ref a_t_tape, .ref a_t_letter, .ref a_t_letterAt, .ref a_t_told, .int v_t_taped, .int v_t_at, .int v_t_statements, .ref a_t_kept, .int v_t_hasImage, .int v_t_isKeeping, .int v_t_cursor, .ref a_t_deep, .int v_t_nextWhen, .ref a_t_many, .ref a_t_row, .int v_t_rowMany, .int v_t_lots])), (a_t_refused, .inl (cA, 7, .inl v_t_refused)), (a_t_kind, .inl (cA, 9, .inl v_t_kind)), (a_t_figure, .inl (cA, 9, .inl v_t_figure)), (a_t_cause, .inl (cA, 9, .inl v_t_cause)), (a_t_tape, .inl (cA, 96, .inl v_t_tape)), (a_t_letter, .inl (cA, 48, .inl v_t_letter)), (a_t_letterAt, .inl (cA, 48, .inl v_t_letterAt)), (a_t_told, .inl (cA, 96, .inl v_t_told)), (a_t_kept, .inl (cA, 93, .inl v_t_kept)), (a_t_deep, .inl (cA, 9, .inl v_t_deep)), (a_t_many, .inl (cA, 4, .inl v_t_many)), (a_t_row, .inl (cA, 16, .inl v_t_row))]) gX10_comesDays_X10_isIn rfl hdS_X10_isIn rfl rfl (c_X10_isIn l D cA sa sv _ p1 1 60 x_1 hc_1) S hK hP hD hS hA [] [0, 1, 2, 3, 4, 5, 6, 7, 8, 9, 10, 11, 12] [0, 1, 2, 3, 4, 5, 6, 7, 8, 9, 10, 11, 12] rfl rfl rfl rfl rfl rfl rfl ⟨Nat.le_of_ble_eq_true rfl, Nat.le_of_ble_eq_true rfl⟩ ⟨Nat.le_refl 0, Nat.le_refl 0⟩ rfl hl.1 rfl (Nat.le_of_ble_eq_true rfl) rfl dX10_comesDays_4 (fun H locs hP hD hS => ?_)
  refine lv_if_eq (tgt := 22) hx hb dX10_comesDays_7 (by decide) (fun c_2 => ?_) (fun c_2 => ?_)
  · have h := (if_pos c_2).symm.trans h
    refine lv_iconst (v := 0) hx hb dX10_comesDays_22 (by decide) ?_
    obtain rfl := Option.some.inj h
    exact xk_zret rfl hx hb hr hlk hP hD hS (hQ _) dX10_comesDays_23
  · have h := (if_neg c_2).symm.trans h
    refine lv_aload_n hx hb dX10_comesDays_10 rfl (lv_at hl 0 rfl) ?_
    refine va_get (ci := 5) (v := .int v_t_day) (C := RX10) (T := TX10) (N := 25) hx hb hts hinX10 hown hK.1 hP 0 rfl rfl 5 (by decide) k_0 (fun _ h9 => h9) rfl dX10_comesDays_11 ?_
    refine lv_iload_n hx hb dX10_comesDays_14 rfl (lv_at hl 1 rfl) ?_
    refine lv_iadd hx hb dX10_comesDays_15 ?_
    refine lv_sipush (v := 999) hx hb dX10_comesDays_16 (by decide) ?_
    refine lv_icmp_le (tgt := 24) hx hb dX10_comesDays_19 (by decide) (fun c_3 => ?_) (fun c_3 => ?_)
    · have h := (if_pos c_3).symm.trans h
      refine lv_aload_n hx hb dX10_comesDays_24 rfl (lv_at hl 0 rfl) ?_
      refine lv_iload_n hx hb dX10_comesDays_25 rfl (lv_at hl 1 rfl) ?_
      obtain ⟨x_4, hc_4, h⟩ := bd_some h
      refine xk_V (rest := []) (As := [.int p1]) (stk := []) (wn := (wX10 cA a_t a_t_refused a_t_kind a_t_figure a_t_cause a_t_tape a_t_letter a_t_letterAt a_t_told a_t_kept a_t_deep a_t_many a_t_row v_t_refused v_t_kind v_t_figure v_t_cause v_t_things x_4.1 x_4.2 v_t_guarded v_t_tape v_t_letter v_t_letterAt v_t_told v_t_taped v_t_at v_t_statements v_t_kept v_t_hasImage v_t_isKeeping v_t_cursor v_t_deep v_t_nextWhen v_t_many v_t_row v_t_rowMany v_t_lots)) (v := none) (wr := []) gX10_comesDays_X10_goes rfl hdV_X10_goes rfl rfl (c_X10_goes l D cA sa sv a_t a_t_refused a_t_kind a_t_figure a_t_cause a_t_tape a_t_letter a_t_letterAt a_t_told a_t_kept a_t_deep a_t_many a_t_row _ v_t_refused v_t_kind v_t_figure v_t_cause v_t_things v_t_day v_t_lost v_t_guarded v_t_tape v_t_letter v_t_letterAt v_t_told v_t_taped v_t_at v_t_statements v_t_kept v_t_hasImage v_t_isKeeping v_t_cursor v_t_deep v_t_nextWhen v_t_many v_t_row v_t_rowMany v_t_lots p1 F x_4 hc_4) (ci := 5) rfl (q0 := 0) rfl S hK hP hD hS hA [0, 1, 2, 3, 4, 5, 6, 7, 8, 9, 10, 11, 12] [] [0, 1, 2, 3, 4, 5, 6, 7, 8, 9, 10, 11, 12] rfl rfl rfl rfl rfl rfl rfl ⟨Nat.le_of_ble_eq_true rfl, Nat.le_of_ble_eq_true rfl⟩ ⟨Nat.le_refl 0, Nat.le_refl 0⟩ rfl hl.1 rfl (Nat.le_of_ble_eq_true rfl) rfl dX10_comesDays_26 (fun H locs hP hD hS => ?_)
      refine lv_iconst (v := 1) hx hb dX10_comesDays_29 (by decide) ?_
      obtain rfl := Option.some.inj h
      exact xk_zret rfl hx hb hr hlk hP hD hS (hQ _) dX10_comesDays_30
    · have h := (if_neg c_3).symm.trans h
      refine lv_iconst (v := 0) hx hb dX10_comesDays_22 (by decide) ?_
      obtain rfl := Option.some.inj h
      exact xk_zret rfl hx hb hr hlk hP hD hS (hQ _) dX10_comesDays_23
set_option maxHeartbeats 4000000 in
set_option maxRecDepth 100000 in
theorem c_X10_comes (l : Launch) (D : va_G) (cA : ClassId) (sa sv : Nat → Nat) (a_t a_t_refused a_t_kind a_t_figure a_t_cause a_t_tape a_t_letter a_t_letterAt a_t_told a_t_kept a_t_deep a_t_many a_t_row : Nat) (sz : Nat) (v_t_refused : Nat → Int32) (v_t_kind : Nat → Int32) (v_t_figure : Nat → Int32) (v_t_cause : Nat → Int32) (v_t_things : Int32) (v_t_day : Int32) (v_t_lost : Int32) (v_t_guarded : Int32) (v_t_tape : Nat → Int32) (v_t_letter : Nat → Int32) (v_t_letterAt : Nat → Int32) (v_t_told : Nat → Int32) (v_t_taped : Int32) (v_t_at : Int32) (v_t_statements : Int32) (v_t_kept : Nat → Int32) (v_t_hasImage : Int32) (v_t_isKeeping : Int32) (v_t_cursor : Int32) (v_t_deep : Nat → Int32) (v_t_nextWhen : Int32) (v_t_many : Nat → Int32) (v_t_row : Nat → Int32) (v_t_rowMany : Int32) (v_t_lots : Int32) (p1 : Int32) (F : Nat) (res : Int32 × (Nat → Int32) × (Nat → Int32) × (Nat → Int32) × Int32 × Int32 × Int32 × Int32) (h : f_X10_comes F v_t_kind v_t_figure v_t_cause v_t_things v_t_day v_t_lost v_t_guarded v_t_letter v_t_told p1 = some res) : Met l yX10_comes wsX10_comes { frames := 5, cells := 0, slots := 0, locals := 109 } (xk_Pc D cA sa sv (wX10 cA a_t a_t_refused a_t_kind a_t_figure a_t_cause a_t_tape a_t_letter a_t_letterAt a_t_told a_t_kept a_t_deep a_t_many a_t_row v_t_refused v_t_kind v_t_figure v_t_cause v_t_things v_t_day v_t_lost v_t_guarded v_t_tape v_t_letter v_t_letterAt v_t_told v_t_taped v_t_at v_t_statements v_t_kept v_t_hasImage v_t_isKeeping v_t_cursor v_t_deep v_t_nextWhen v_t_many v_t_row v_t_rowMany v_t_lots) sz [.ref a_t, .int p1]) (xk_Q D (va_A (wX10 cA a_t a_t_refused a_t_kind a_t_figure a_t_cause a_t_tape a_t_letter a_t_letterAt a_t_told a_t_kept a_t_deep a_t_many a_t_row v_t_refused v_t_kind v_t_figure v_t_cause v_t_things v_t_day v_t_lost v_t_guarded v_t_tape v_t_letter v_t_letterAt v_t_told v_t_taped v_t_at v_t_statements v_t_kept v_t_hasImage v_t_isKeeping v_t_cursor v_t_deep v_t_nextWhen v_t_many v_t_row v_t_rowMany v_t_lots) sz) (some (.int res.1)) (wX10 cA a_t a_t_refused a_t_kind a_t_figure a_t_cause a_t_tape a_t_letter a_t_letterAt a_t_told a_t_kept a_t_deep a_t_many a_t_row v_t_refused res.2.1 res.2.2.1 res.2.2.2.1 res.2.2.2.2.1 res.2.2.2.2.2.1 res.2.2.2.2.2.2.1 res.2.2.2.2.2.2.2 v_t_tape v_t_letter v_t_letterAt v_t_told v_t_taped v_t_at v_t_statements v_t_kept v_t_hasImage v_t_isKeeping v_t_cursor v_t_deep v_t_nextWhen v_t_many v_t_row v_t_rowMany v_t_lots)) 0 0 (va_A (wX10 cA a_t a_t_refused a_t_kind a_t_figure a_t_cause a_t_tape a_t_letter a_t_letterAt a_t_told a_t_kept a_t_deep a_t_many a_t_row v_t_refused v_t_kind v_t_figure v_t_cause v_t_things v_t_day v_t_lost v_t_guarded v_t_tape v_t_letter v_t_letterAt v_t_told v_t_taped v_t_at v_t_statements v_t_kept v_t_hasImage v_t_isKeeping v_t_cursor v_t_deep v_t_nextWhen v_t_many v_t_row v_t_rowMany v_t_lots) sz) := by
  refine xk_met (fun res : Int32 × (Nat → Int32) × (Nat → Int32) × (Nat → Int32) × Int32 × Int32 × Int32 × Int32 => some (.int res.1)) (fun res : Int32 × (Nat → Int32) × (Nat → Int32) × (Nat → Int32) × Int32 × Int32 × Int32 × Int32 => (wX10 cA a_t a_t_refused a_t_kind a_t_figure a_t_cause a_t_tape a_t_letter a_t_letterAt a_t_told a_t_kept a_t_deep a_t_many a_t_row v_t_refused res.2.1 res.2.2.1 res.2.2.2.1 res.2.2.2.2.1 res.2.2.2.2.2.1 res.2.2.2.2.2.2.1 res.2.2.2.2.2.2.2 v_t_tape v_t_letter v_t_letterAt v_t_told v_t_taped v_t_at v_t_statements v_t_kept v_t_hasImage v_t_isKeeping v_t_cursor v_t_deep v_t_nextWhen v_t_many v_t_row v_t_rowMany v_t_lots)) res (cc := cX10_comes) (maxL := 3) (ret := (some .boolean)) (by decide) rfl (Nat.le_of_ble_eq_true rfl) ?_
  intro p e s m args below meth c A Q ls hQ hx hb hr hlk hml hown hts hK hP hD hS hA hl
  have S : CallFix p m c cX10_comes 3 s args wsX10_comes RX10 := ⟨hx, hb, hml, hown, hts⟩
  have hl : lv_has ls 3 [(0, .ref a_t), (1, .int p1)] := hl
  have hinX10 : ∀ w ∈ u_ws RX10 TX10 25, w ∈ wsX10_comes := fun _ h => List.mem_cons_of_mem _ (List.mem_append_right _ (h))
  have k_0 := hts (.fieldLink RX10 25 "NailsWantTheKingdomModel" "letter" "[I") (List.mem_of_getElem? (i := 1) (by decide +kernel))
  have k_1 := hts (.fieldLink RX10 31 "NailsWantTheKingdomModel" "told" "[I") (List.mem_of_getElem? (i := 2) (by decide +kernel))
  unfold f_X10_comes at h
  refine lv_iconst (v := 2) hx hb dX10_comes_0 (by decide) ?_
  refine lv_iload_n hx hb dX10_comes_1 rfl (lv_at hl 1 rfl) ?_
  refine lv_imul hx hb dX10_comes_2 ?_
  refine lv_istore_n (lv' := [(2, .int (2 * p1)), (0, .ref a_t), (1, .int p1)]) hx hb dX10_comes_3 rfl hl (by decide) rfl (fun ls hl => ?_)
  refine lv_aload_n hx hb dX10_comes_4 rfl (lv_at hl 1 rfl) ?_
  refine va_get (ci := 5) (v := .ref a_t_letter) (C := RX10) (T := TX10) (N := 25) hx hb hts hinX10 hown hK.1 hP 0 rfl rfl 9 (by decide) k_0 (fun _ h9 => h9) rfl dX10_comes_5 ?_
  refine lv_iload_n hx hb dX10_comes_8 rfl (lv_at hl 2 rfl) ?_
  obtain ⟨i_1, h⟩ := xa_some h
  refine va_iald hx hb hK.1 hP 6 0 rfl rfl i_1 dX10_comes_9 ?_
  by_cases c_2 : (v_t_letter (Int32.toNatClampNeg p1)) = 99
  · have h := (if_pos c_2).symm.trans h
    refine lv_lookup (tgt := 63) (off := 53) hx hb dX10_comes_10 rfl (by rw [c_2]; rfl) (by decide) ?_
    refine lv_aload_n hx hb dX10_comes_63 rfl (lv_at hl 1 rfl) ?_
    refine lv_aload_n hx hb dX10_comes_64 rfl (lv_at hl 1 rfl) ?_
    refine va_get (ci := 5) (v := .ref a_t_told) (C := RX10) (T := TX10) (N := 25) hx hb hts hinX10 hown hK.1 hP 0 rfl rfl 11 (by decide) k_1 (fun _ h9 => h9) rfl dX10_comes_65 ?_
    refine lv_iload_n hx hb dX10_comes_68 rfl (lv_at hl 0 rfl) ?_
    obtain ⟨i_3, h⟩ := xa_some h
    refine va_iald hx hb hK.1 hP 8 0 rfl rfl i_3 dX10_comes_69 ?_
    refine lv_aload_n hx hb dX10_comes_70 rfl (lv_at hl 1 rfl) ?_
    refine va_get (ci := 5) (v := .ref a_t_told) (C := RX10) (T := TX10) (N := 25) hx hb hts hinX10 hown hK.1 hP 0 rfl rfl 11 (by decide) k_1 (fun _ h9 => h9) rfl dX10_comes_71 ?_
    refine lv_iload_n hx hb dX10_comes_74 rfl (lv_at hl 0 rfl) ?_
    refine lv_iconst (v := 1) hx hb dX10_comes_75 (by decide) ?_
    refine lv_iadd hx hb dX10_comes_76 ?_
    obtain ⟨i_4, h⟩ := xa_some h
    refine va_iald hx hb hK.1 hP 8 0 rfl rfl i_4 dX10_comes_77 ?_
    obtain ⟨x_5, hc_5, h⟩ := bd_some h
    refine xk_V (rest := []) (As := [.int (v_t_told (Int32.toNatClampNeg (2 * p1))), .int (v_t_told (Int32.toNatClampNeg ((2 * p1) + 1)))]) (stk := [.int x_5.1]) (wn := (wX10 cA a_t a_t_refused a_t_kind a_t_figure a_t_cause a_t_tape a_t_letter a_t_letterAt a_t_told a_t_kept a_t_deep a_t_many a_t_row v_t_refused v_t_kind v_t_figure x_5.2 v_t_things v_t_day v_t_lost v_t_guarded v_t_tape v_t_letter v_t_letterAt v_t_told v_t_taped v_t_at v_t_statements v_t_kept v_t_hasImage v_t_isKeeping v_t_cursor v_t_deep v_t_nextWhen v_t_many v_t_row v_t_rowMany v_t_lots)) (v := (some (.int x_5.1))) (wr := []) gX10_comes_X10_comesCause rfl hdV_X10_comesCause rfl rfl (c_X10_comesCause l D cA sa sv a_t a_t_refused a_t_kind a_t_figure a_t_cause a_t_tape a_t_letter a_t_letterAt a_t_told a_t_kept a_t_deep a_t_many a_t_row _ v_t_refused v_t_kind v_t_figure v_t_cause v_t_things v_t_day v_t_lost v_t_guarded v_t_tape v_t_letter v_t_letterAt v_t_told v_t_taped v_t_at v_t_statements v_t_kept v_t_hasImage v_t_isKeeping v_t_cursor v_t_deep v_t_nextWhen v_t_many v_t_row v_t_rowMany v_t_lots (v_t_told (Int32.toNatClampNeg (2 * p1))) (v_t_told (Int32.toNatClampNeg ((2 * p1) + 1))) x_5 hc_5) (ci := 5) rfl (q0 := 0) rfl S hK hP hD hS hA [0, 1, 2, 3, 4, 5, 6, 7, 8, 9, 10, 11, 12] [] [0, 1, 2, 3, 4, 5, 6, 7, 8, 9, 10, 11, 12] rfl rfl rfl rfl rfl rfl rfl ⟨Nat.le_of_ble_eq_true rfl, Nat.le_of_ble_eq_true rfl⟩ ⟨Nat.le_refl 0, Nat.le_refl 0⟩ rfl hl.1 rfl (Nat.le_of_ble_eq_true rfl) rfl dX10_comes_78 (fun H locs hP hD hS => ?_)
    obtain ⟨z_6, h⟩ := xz_some h
    obtain rfl := Option.some.inj h
    exact xk_zret (xk_bool z_6).1 hx hb hr hlk hP hD hS (hQ _) dX10_comes_81
  have h := (if_neg c_2).symm.trans h
  by_cases c_7 : (v_t_letter (Int32.toNatClampNeg p1)) = 100
  · have h := (if_pos c_7).symm.trans h
    refine lv_lookup (tgt := 82) (off := 72) hx hb dX10_comes_10 rfl (by rw [c_7]; rfl) (by decide) ?_
    refine lv_aload_n hx hb dX10_comes_82 rfl (lv_at hl 1 rfl) ?_
    refine lv_aload_n hx hb dX10_comes_83 rfl (lv_at hl 1 rfl) ?_
    refine va_get (ci := 5) (v := .ref a_t_told) (C := RX10) (T := TX10) (N := 25) hx hb hts hinX10 hown hK.1 hP 0 rfl rfl 11 (by decide) k_1 (fun _ h9 => h9) rfl dX10_comes_84 ?_
    refine lv_iload_n hx hb dX10_comes_87 rfl (lv_at hl 0 rfl) ?_
    obtain ⟨i_8, h⟩ := xa_some h
    refine va_iald hx hb hK.1 hP 8 0 rfl rfl i_8 dX10_comes_88 ?_
    obtain ⟨x_9, hc_9, h⟩ := bd_some h
    refine xk_V (rest := []) (As := [.int (v_t_told (Int32.toNatClampNeg (2 * p1)))]) (stk := [.int x_9.1]) (wn := (wX10 cA a_t a_t_refused a_t_kind a_t_figure a_t_cause a_t_tape a_t_letter a_t_letterAt a_t_told a_t_kept a_t_deep a_t_many a_t_row v_t_refused v_t_kind v_t_figure v_t_cause v_t_things x_9.2.1 x_9.2.2 v_t_guarded v_t_tape v_t_letter v_t_letterAt v_t_told v_t_taped v_t_at v_t_statements v_t_kept v_t_hasImage v_t_isKeeping v_t_cursor v_t_deep v_t_nextWhen v_t_many v_t_row v_t_rowMany v_t_lots)) (v := (some (.int x_9.1))) (wr := []) gX10_comes_X10_comesDays rfl hdV_X10_comesDays rfl rfl (c_X10_comesDays l D cA sa sv a_t a_t_refused a_t_kind a_t_figure a_t_cause a_t_tape a_t_letter a_t_letterAt a_t_told a_t_kept a_t_deep a_t_many a_t_row _ v_t_refused v_t_kind v_t_figure v_t_cause v_t_things v_t_day v_t_lost v_t_guarded v_t_tape v_t_letter v_t_letterAt v_t_told v_t_taped v_t_at v_t_statements v_t_kept v_t_hasImage v_t_isKeeping v_t_cursor v_t_deep v_t_nextWhen v_t_many v_t_row v_t_rowMany v_t_lots (v_t_told (Int32.toNatClampNeg (2 * p1))) F x_9 hc_9) (ci := 5) rfl (q0 := 0) rfl S hK hP hD hS hA [0, 1, 2, 3, 4, 5, 6, 7, 8, 9, 10, 11, 12] [] [0, 1, 2, 3, 4, 5, 6, 7, 8, 9, 10, 11, 12] rfl rfl rfl rfl rfl rfl rfl ⟨Nat.le_of_ble_eq_true rfl, Nat.le_of_ble_eq_true rfl⟩ ⟨Nat.le_refl 0, Nat.le_refl 0⟩ rfl hl.1 rfl (Nat.le_of_ble_eq_true rfl) rfl dX10_comes_89 (fun H locs hP hD hS => ?_)
    obtain ⟨z_10, h⟩ := xz_some h
    obtain rfl := Option.some.inj h
    exact xk_zret (xk_bool z_10).1 hx hb hr hlk hP hD hS (hQ _) dX10_comes_92
  have h := (if_neg c_7).symm.trans h
  by_cases c_11 : (v_t_letter (Int32.toNatClampNeg p1)) = 116
  · have h := (if_pos c_11).symm.trans h
    refine lv_lookup (tgt := 44) (off := 34) hx hb dX10_comes_10 rfl (by rw [c_11]; rfl) (by decide) ?_
    refine lv_aload_n hx hb dX10_comes_44 rfl (lv_at hl 1 rfl) ?_
    refine lv_aload_n hx hb dX10_comes_45 rfl (lv_at hl 1 rfl) ?_
    refine va_get (ci := 5) (v := .ref a_t_told) (C := RX10) (T := TX10) (N := 25) hx hb hts hinX10 hown hK.1 hP 0 rfl rfl 11 (by decide) k_1 (fun _ h9 => h9) rfl dX10_comes_46 ?_
    refine lv_iload_n hx hb dX10_comes_49 rfl (lv_at hl 0 rfl) ?_
    obtain ⟨i_12, h⟩ := xa_some h
    refine va_iald hx hb hK.1 hP 8 0 rfl rfl i_12 dX10_comes_50 ?_
    refine lv_aload_n hx hb dX10_comes_51 rfl (lv_at hl 1 rfl) ?_
    refine va_get (ci := 5) (v := .ref a_t_told) (C := RX10) (T := TX10) (N := 25) hx hb hts hinX10 hown hK.1 hP 0 rfl rfl 11 (by decide) k_1 (fun _ h9 => h9) rfl dX10_comes_52 ?_
    refine lv_iload_n hx hb dX10_comes_55 rfl (lv_at hl 0 rfl) ?_
    refine lv_iconst (v := 1) hx hb dX10_comes_56 (by decide) ?_
    refine lv_iadd hx hb dX10_comes_57 ?_
    obtain ⟨i_13, h⟩ := xa_some h
    refine va_iald hx hb hK.1 hP 8 0 rfl rfl i_13 dX10_comes_58 ?_
    obtain ⟨x_14, hc_14, h⟩ := bd_some h
    refine xk_V (rest := []) (As := [.int (v_t_told (Int32.toNatClampNeg (2 * p1))), .int (v_t_told (Int32.toNatClampNeg ((2 * p1) + 1)))]) (stk := [.int x_14.1]) (wn := (wX10 cA a_t a_t_refused a_t_kind a_t_figure a_t_cause a_t_tape a_t_letter a_t_letterAt a_t_told a_t_kept a_t_deep a_t_many a_t_row v_t_refused x_14.2.1 x_14.2.2.1 x_14.2.2.2.1 x_14.2.2.2.2.1 v_t_day x_14.2.2.2.2.2.1 x_14.2.2.2.2.2.2 v_t_tape v_t_letter v_t_letterAt v_t_told v_t_taped v_t_at v_t_statements v_t_kept v_t_hasImage v_t_isKeeping v_t_cursor v_t_deep v_t_nextWhen v_t_many v_t_row v_t_rowMany v_t_lots)) (v := (some (.int x_14.1))) (wr := []) gX10_comes_X10_comesThing rfl hdV_X10_comesThing rfl rfl (c_X10_comesThing l D cA sa sv a_t a_t_refused a_t_kind a_t_figure a_t_cause a_t_tape a_t_letter a_t_letterAt a_t_told a_t_kept a_t_deep a_t_many a_t_row _ v_t_refused v_t_kind v_t_figure v_t_cause v_t_things v_t_day v_t_lost v_t_guarded v_t_tape v_t_letter v_t_letterAt v_t_told v_t_taped v_t_at v_t_statements v_t_kept v_t_hasImage v_t_isKeeping v_t_cursor v_t_deep v_t_nextWhen v_t_many v_t_row v_t_rowMany v_t_lots (v_t_told (Int32.toNatClampNeg (2 * p1))) (v_t_told (Int32.toNatClampNeg ((2 * p1) + 1))) x_14 hc_14) (ci := 5) rfl (q0 := 0) rfl S hK hP hD hS hA [0, 1, 2, 3, 4, 5, 6, 7, 8, 9, 10, 11, 12] [] [0, 1, 2, 3, 4, 5, 6, 7, 8, 9, 10, 11, 12] rfl rfl rfl rfl rfl rfl rfl ⟨Nat.le_of_ble_eq_true rfl, Nat.le_of_ble_eq_true rfl⟩ ⟨Nat.le_refl 0, Nat.le_refl 0⟩ rfl hl.1 rfl (Nat.le_of_ble_eq_true rfl) rfl dX10_comes_59 (fun H locs hP hD hS => ?_)
    obtain ⟨z_15, h⟩ := xz_some h
    obtain rfl := Option.some.inj h
    exact xk_zret (xk_bool z_15).1 hx hb hr hlk hP hD hS (hQ _) dX10_comes_62
  have h := (if_neg c_11).symm.trans h
  refine lv_lookup (tgt := 93) (off := 83) hx hb dX10_comes_10 rfl ((lv_osw (k := 99) c_2 rfl).trans ((lv_osw (k := 100) c_7 rfl).trans ((lv_osw (k := 116) c_11 rfl).trans rfl))) (by decide) ?_
  refine lv_aload_n hx hb dX10_comes_93 rfl (lv_at hl 1 rfl) ?_
  refine lv_aload_n hx hb dX10_comes_94 rfl (lv_at hl 1 rfl) ?_
  refine va_get (ci := 5) (v := .ref a_t_letter) (C := RX10) (T := TX10) (N := 25) hx hb hts hinX10 hown hK.1 hP 0 rfl rfl 9 (by decide) k_0 (fun _ h9 => h9) rfl dX10_comes_95 ?_
  refine lv_iload_n hx hb dX10_comes_98 rfl (lv_at hl 2 rfl) ?_
  obtain ⟨i_16, h⟩ := xa_some h
  refine va_iald hx hb hK.1 hP 6 0 rfl rfl i_16 dX10_comes_99 ?_
  refine lv_aload_n hx hb dX10_comes_100 rfl (lv_at hl 1 rfl) ?_
  refine va_get (ci := 5) (v := .ref a_t_told) (C := RX10) (T := TX10) (N := 25) hx hb hts hinX10 hown hK.1 hP 0 rfl rfl 11 (by decide) k_1 (fun _ h9 => h9) rfl dX10_comes_101 ?_
  refine lv_iload_n hx hb dX10_comes_104 rfl (lv_at hl 0 rfl) ?_
  obtain ⟨i_17, h⟩ := xa_some h
  refine va_iald hx hb hK.1 hP 8 0 rfl rfl i_17 dX10_comes_105 ?_
  obtain ⟨x_18, hc_18, h⟩ := bd_some h
  refine xk_V (rest := []) (As := [.int (v_t_letter (Int32.toNatClampNeg p1)), .int (v_t_told (Int32.toNatClampNeg (2 * p1)))]) (stk := [.int x_18.1]) (wn := (wX10 cA a_t a_t_refused a_t_kind a_t_figure a_t_cause a_t_tape a_t_letter a_t_letterAt a_t_told a_t_kept a_t_deep a_t_many a_t_row v_t_refused v_t_kind v_t_figure v_t_cause v_t_things v_t_day x_18.2.1 x_18.2.2 v_t_tape v_t_letter v_t_letterAt v_t_told v_t_taped v_t_at v_t_statements v_t_kept v_t_hasImage v_t_isKeeping v_t_cursor v_t_deep v_t_nextWhen v_t_many v_t_row v_t_rowMany v_t_lots)) (v := (some (.int x_18.1))) (wr := []) gX10_comes_X10_comesOf rfl hdV_X10_comesOf rfl rfl (c_X10_comesOf l D cA sa sv a_t a_t_refused a_t_kind a_t_figure a_t_cause a_t_tape a_t_letter a_t_letterAt a_t_told a_t_kept a_t_deep a_t_many a_t_row _ v_t_refused v_t_kind v_t_figure v_t_cause v_t_things v_t_day v_t_lost v_t_guarded v_t_tape v_t_letter v_t_letterAt v_t_told v_t_taped v_t_at v_t_statements v_t_kept v_t_hasImage v_t_isKeeping v_t_cursor v_t_deep v_t_nextWhen v_t_many v_t_row v_t_rowMany v_t_lots (v_t_letter (Int32.toNatClampNeg p1)) (v_t_told (Int32.toNatClampNeg (2 * p1))) x_18 hc_18) (ci := 5) rfl (q0 := 0) rfl S hK hP hD hS hA [0, 1, 2, 3, 4, 5, 6, 7, 8, 9, 10, 11, 12] [] [0, 1, 2, 3, 4, 5, 6, 7, 8, 9, 10, 11, 12] rfl rfl rfl rfl rfl rfl rfl ⟨Nat.le_of_ble_eq_true rfl, Nat.le_of_ble_eq_true rfl⟩ ⟨Nat.le_refl 0, Nat.le_refl 0⟩ rfl hl.1 rfl (Nat.le_of_ble_eq_true rfl) rfl dX10_comes_106 (fun H locs hP hD hS => ?_)
  obtain ⟨z_19, h⟩ := xz_some h
  obtain rfl := Option.some.inj h
  exact xk_zret (xk_bool z_19).1 hx hb hr hlk hP hD hS (hQ _) dX10_comes_109
set_option maxHeartbeats 4000000 in
set_option maxRecDepth 100000 in
theorem c_X10_passes_kind (l : Launch) (D : va_G) (cA : ClassId) (sa sv : Nat → Nat) (a_t a_t_refused a_t_kind a_t_figure a_t_cause a_t_tape a_t_letter a_t_letterAt a_t_told a_t_kept a_t_deep a_t_many a_t_row : Nat) (sz : Nat) (v_t_refused : Nat → Int32) (v_t_kind : Nat → Int32) (v_t_figure : Nat → Int32) (v_t_cause : Nat → Int32) (v_t_things : Int32) (v_t_day : Int32) (v_t_lost : Int32) (v_t_guarded : Int32) (v_t_tape : Nat → Int32) (v_t_letter : Nat → Int32) (v_t_letterAt : Nat → Int32) (v_t_told : Nat → Int32) (v_t_taped : Int32) (v_t_at : Int32) (v_t_statements : Int32) (v_t_kept : Nat → Int32) (v_t_hasImage : Int32) (v_t_isKeeping : Int32) (v_t_cursor : Int32) (v_t_deep : Nat → Int32) (v_t_nextWhen : Int32) (v_t_many : Nat → Int32) (v_t_row : Nat → Int32) (v_t_rowMany : Int32) (v_t_lots : Int32) (F : Nat) (res : (Nat → Int32) × (Nat → Int32) × Int32) (h : f_X10_passes_kind F v_t_kind v_t_kept v_t_isKeeping v_t_cursor  = some res) : Met l yX10_passes wsX10_passes { frames := 0, cells := 0, slots := 0, locals := 0 } (xk_Pc D cA sa sv (wX10 cA a_t a_t_refused a_t_kind a_t_figure a_t_cause a_t_tape a_t_letter a_t_letterAt a_t_told a_t_kept a_t_deep a_t_many a_t_row v_t_refused v_t_kind v_t_figure v_t_cause v_t_things v_t_day v_t_lost v_t_guarded v_t_tape v_t_letter v_t_letterAt v_t_told v_t_taped v_t_at v_t_statements v_t_kept v_t_hasImage v_t_isKeeping v_t_cursor v_t_deep v_t_nextWhen v_t_many v_t_row v_t_rowMany v_t_lots) sz [.ref a_t, .ref a_t_kind]) (xk_Q D (va_A (wX10 cA a_t a_t_refused a_t_kind a_t_figure a_t_cause a_t_tape a_t_letter a_t_letterAt a_t_told a_t_kept a_t_deep a_t_many a_t_row v_t_refused v_t_kind v_t_figure v_t_cause v_t_things v_t_day v_t_lost v_t_guarded v_t_tape v_t_letter v_t_letterAt v_t_told v_t_taped v_t_at v_t_statements v_t_kept v_t_hasImage v_t_isKeeping v_t_cursor v_t_deep v_t_nextWhen v_t_many v_t_row v_t_rowMany v_t_lots) sz) (none) (wX10 cA a_t a_t_refused a_t_kind a_t_figure a_t_cause a_t_tape a_t_letter a_t_letterAt a_t_told a_t_kept a_t_deep a_t_many a_t_row v_t_refused res.1 v_t_figure v_t_cause v_t_things v_t_day v_t_lost v_t_guarded v_t_tape v_t_letter v_t_letterAt v_t_told v_t_taped v_t_at v_t_statements res.2.1 v_t_hasImage v_t_isKeeping res.2.2 v_t_deep v_t_nextWhen v_t_many v_t_row v_t_rowMany v_t_lots)) 0 0 (va_A (wX10 cA a_t a_t_refused a_t_kind a_t_figure a_t_cause a_t_tape a_t_letter a_t_letterAt a_t_told a_t_kept a_t_deep a_t_many a_t_row v_t_refused v_t_kind v_t_figure v_t_cause v_t_things v_t_day v_t_lost v_t_guarded v_t_tape v_t_letter v_t_letterAt v_t_told v_t_taped v_t_at v_t_statements v_t_kept v_t_hasImage v_t_isKeeping v_t_cursor v_t_deep v_t_nextWhen v_t_many v_t_row v_t_rowMany v_t_lots) sz) := by
  refine xk_met (fun res : (Nat → Int32) × (Nat → Int32) × Int32 => none) (fun res : (Nat → Int32) × (Nat → Int32) × Int32 => (wX10 cA a_t a_t_refused a_t_kind a_t_figure a_t_cause a_t_tape a_t_letter a_t_letterAt a_t_told a_t_kept a_t_deep a_t_many a_t_row v_t_refused res.1 v_t_figure v_t_cause v_t_things v_t_day v_t_lost v_t_guarded v_t_tape v_t_letter v_t_letterAt v_t_told v_t_taped v_t_at v_t_statements res.2.1 v_t_hasImage v_t_isKeeping res.2.2 v_t_deep v_t_nextWhen v_t_many v_t_row v_t_rowMany v_t_lots)) res (cc := cX10_passes) (maxL := 3) (ret := none) (by decide) rfl (Nat.le_of_ble_eq_true rfl) ?_
  intro p e s m args below meth c A Q ls hQ hx hb hr hlk hml hown hts hK hP hD hS hA hl
  have S : CallFix p m c cX10_passes 3 s args wsX10_passes RX10 := ⟨hx, hb, hml, hown, hts⟩
  have hl : lv_has ls 3 [(0, .ref a_t), (1, .ref a_t_kind)] := hl
  have hinX10 : ∀ w ∈ u_ws RX10 TX10 25, w ∈ wsX10_passes := fun _ h => List.mem_cons_of_mem _ (List.mem_append_right _ (h))
  have k_0 := hts (.fieldLink RX10 133 "NailsWantTheKingdomModel" "isKeeping" "Z") (List.mem_of_getElem? (i := 1) (by decide +kernel))
  have k_1 := hts (.fieldLink RX10 34 "NailsWantTheKingdomModel" "kept" "[I") (List.mem_of_getElem? (i := 2) (by decide +kernel))
  have k_2 := hts (.fieldLink RX10 137 "NailsWantTheKingdomModel" "cursor" "I") (List.mem_of_getElem? (i := 3) (by decide +kernel))
  have J_42 : ∀ (k_2r : Int32 → (Nat → Int32) → (Nat → Int32) → Int32 → Option ((Nat → Int32) × (Nat → Int32) × Int32)), (∀ (x2 : Int32) (v_t_kind : Nat → Int32) (v_t_kept : Nat → Int32) (v_t_cursor : Int32) (res : (Nat → Int32) × (Nat → Int32) × Int32), k_2r x2 v_t_kind v_t_kept v_t_cursor = some res → ∀ (H : Heap) (locs : List Loc) (ls : Array Slot), va_P D vwCl (wX10 cA a_t a_t_refused a_t_kind a_t_figure a_t_cause a_t_tape a_t_letter a_t_letterAt a_t_told a_t_kept a_t_deep a_t_many a_t_row v_t_refused v_t_kind v_t_figure v_t_cause v_t_things v_t_day v_t_lost v_t_guarded v_t_tape v_t_letter v_t_letterAt v_t_told v_t_taped v_t_at v_t_statements v_t_kept v_t_hasImage v_t_isKeeping v_t_cursor v_t_deep v_t_nextWhen v_t_many v_t_row v_t_rowMany v_t_lots) H → va_D A (wX10 cA a_t a_t_refused a_t_kind a_t_figure a_t_cause a_t_tape a_t_letter a_t_letterAt a_t_told a_t_kept a_t_deep a_t_many a_t_row v_t_refused v_t_kind v_t_figure v_t_cause v_t_things v_t_day v_t_lost v_t_guarded v_t_tape v_t_letter v_t_letterAt v_t_told v_t_taped v_t_at v_t_statements v_t_kept v_t_hasImage v_t_isKeeping v_t_cursor v_t_deep v_t_nextWhen v_t_many v_t_row v_t_rowMany v_t_lots) → va_S A s.heap H locs → lv_has ls 3 [(0, .ref a_t), (1, .ref a_t_kind), (2, .int x2)] → W p l e { frames := 0, cells := 0, slots := 0, locals := 0 } s m args below meth c H locs 0 0 (Q res) (F0 m 2 ls [])) → ∀ (x2 : Int32) (v_t_kind : Nat → Int32) (v_t_kept : Nat → Int32) (v_t_cursor : Int32) (res : (Nat → Int32) × (Nat → Int32) × Int32), f_X10_passes_kind_42 F v_t_isKeeping k_2r x2 v_t_kind v_t_kept v_t_cursor = some res → ∀ (H : Heap) (locs : List Loc) (ls : Array Slot), va_P D vwCl (wX10 cA a_t a_t_refused a_t_kind a_t_figure a_t_cause a_t_tape a_t_letter a_t_letterAt a_t_told a_t_kept a_t_deep a_t_many a_t_row v_t_refused v_t_kind v_t_figure v_t_cause v_t_things v_t_day v_t_lost v_t_guarded v_t_tape v_t_letter v_t_letterAt v_t_told v_t_taped v_t_at v_t_statements v_t_kept v_t_hasImage v_t_isKeeping v_t_cursor v_t_deep v_t_nextWhen v_t_many v_t_row v_t_rowMany v_t_lots) H → va_D A (wX10 cA a_t a_t_refused a_t_kind a_t_figure a_t_cause a_t_tape a_t_letter a_t_letterAt a_t_told a_t_kept a_t_deep a_t_many a_t_row v_t_refused v_t_kind v_t_figure v_t_cause v_t_things v_t_day v_t_lost v_t_guarded v_t_tape v_t_letter v_t_letterAt v_t_told v_t_taped v_t_at v_t_statements v_t_kept v_t_hasImage v_t_isKeeping v_t_cursor v_t_deep v_t_nextWhen v_t_many v_t_row v_t_rowMany v_t_lots) → va_S A s.heap H locs → lv_has ls 3 [(0, .ref a_t), (1, .ref a_t_kind), (2, .int x2)] → W p l e { frames := 0, cells := 0, slots := 0, locals := 0 } s m args below meth c H locs 0 0 (Q res) (F0 m 42 ls []) := by
    intro k_2r hk_2r x2 v_t_kind v_t_kept v_t_cursor res h H locs ls hP hD hS hl
    unfold f_X10_passes_kind_42 at h
    refine lv_aload_n hx hb dX10_passes_42 rfl (lv_at hl 0 rfl) ?_
    refine lv_dup hx hb dX10_passes_43 rfl ?_
    refine va_get (ci := 5) (v := .int v_t_cursor) (C := RX10) (T := TX10) (N := 25) hx hb hts hinX10 hown hK.1 hP 0 rfl rfl 18 (by decide) k_2 (fun _ h9 => h9) rfl dX10_passes_44 ?_
    refine lv_iconst (v := 1) hx hb dX10_passes_47 (by decide) ?_
    refine lv_iadd hx hb dX10_passes_48 ?_
    refine va_put (ci := 5) (v := .int (v_t_cursor + 1)) (ty := tyX10 18) (C := RX10) (T := TX10) (N := 25) hx hb hts hinX10 tyX10 tyX10_ok nmX10 hown hK.1 hP hD hS 0 rfl rfl 18 (by decide) k_2 (fun _ h9 => h9) rfl (tyX10_ok 18 (by decide)) rfl rfl (Nat.le_of_ble_eq_true rfl) dX10_passes_49 (fun H locs hP hD hS => ?_)
    have hP : va_P D vwCl (wX10 cA a_t a_t_refused a_t_kind a_t_figure a_t_cause a_t_tape a_t_letter a_t_letterAt a_t_told a_t_kept a_t_deep a_t_many a_t_row v_t_refused v_t_kind v_t_figure v_t_cause v_t_things v_t_day v_t_lost v_t_guarded v_t_tape v_t_letter v_t_letterAt v_t_told v_t_taped v_t_at v_t_statements v_t_kept v_t_hasImage v_t_isKeeping (v_t_cursor + 1) v_t_deep v_t_nextWhen v_t_many v_t_row v_t_rowMany v_t_lots) H := hP
    have hD : va_D A (wX10 cA a_t a_t_refused a_t_kind a_t_figure a_t_cause a_t_tape a_t_letter a_t_letterAt a_t_told a_t_kept a_t_deep a_t_many a_t_row v_t_refused v_t_kind v_t_figure v_t_cause v_t_things v_t_day v_t_lost v_t_guarded v_t_tape v_t_letter v_t_letterAt v_t_told v_t_taped v_t_at v_t_statements v_t_kept v_t_hasImage v_t_isKeeping (v_t_cursor + 1) v_t_deep v_t_nextWhen v_t_many v_t_row v_t_rowMany v_t_lots) := hD
    refine lv_iinc (v := (x2 + 1)) (lv' := [(2, .int (x2 + 1)), (0, .ref a_t), (1, .ref a_t_kind)]) hx hb dX10_passes_52 hl (k := 2) rfl rfl (by decide) rfl (fun ls hl => ?_)
    refine lv_goto (tgt := 2) hx hb dX10_passes_55 (by decide) ?_
    exact hk_2r (x2 + 1) v_t_kind v_t_kept (v_t_cursor + 1) _ h _ _ _ hP hD hS (lv_sub hl [1, 2, 0] rfl)
  have J_2 : ∀ (n : Nat) (x2 : Int32) (v_t_kind : Nat → Int32) (v_t_kept : Nat → Int32) (v_t_cursor : Int32) (res : (Nat → Int32) × (Nat → Int32) × Int32), f_X10_passes_kind_2 F v_t_isKeeping n x2 v_t_kind v_t_kept v_t_cursor = some res → ∀ (H : Heap) (locs : List Loc) (ls : Array Slot), va_P D vwCl (wX10 cA a_t a_t_refused a_t_kind a_t_figure a_t_cause a_t_tape a_t_letter a_t_letterAt a_t_told a_t_kept a_t_deep a_t_many a_t_row v_t_refused v_t_kind v_t_figure v_t_cause v_t_things v_t_day v_t_lost v_t_guarded v_t_tape v_t_letter v_t_letterAt v_t_told v_t_taped v_t_at v_t_statements v_t_kept v_t_hasImage v_t_isKeeping v_t_cursor v_t_deep v_t_nextWhen v_t_many v_t_row v_t_rowMany v_t_lots) H → va_D A (wX10 cA a_t a_t_refused a_t_kind a_t_figure a_t_cause a_t_tape a_t_letter a_t_letterAt a_t_told a_t_kept a_t_deep a_t_many a_t_row v_t_refused v_t_kind v_t_figure v_t_cause v_t_things v_t_day v_t_lost v_t_guarded v_t_tape v_t_letter v_t_letterAt v_t_told v_t_taped v_t_at v_t_statements v_t_kept v_t_hasImage v_t_isKeeping v_t_cursor v_t_deep v_t_nextWhen v_t_many v_t_row v_t_rowMany v_t_lots) → va_S A s.heap H locs → lv_has ls 3 [(0, .ref a_t), (1, .ref a_t_kind), (2, .int x2)] → W p l e { frames := 0, cells := 0, slots := 0, locals := 0 } s m args below meth c H locs 0 0 (Q res) (F0 m 2 ls []) := by
    intro n
    induction n with
    | zero => intro x2 v_t_kind v_t_kept v_t_cursor res h; exact nomatch (show (none : Option ((Nat → Int32) × (Nat → Int32) × Int32)) = some res from h)
    | succ n ih =>
      intro x2 v_t_kind v_t_kept v_t_cursor res h H locs ls hP hD hS hl
      rw [f_X10_passes_kind_2] at h
      refine lv_iload_n hx hb dX10_passes_2 rfl (lv_at hl 2 rfl) ?_
      refine lv_aload_n hx hb dX10_passes_3 rfl (lv_at hl 1 rfl) ?_
      refine va_alen (v := 9) hx hb hK.1 hP 2 0 rfl rfl rfl dX10_passes_4 ?_
      refine lv_icmp_ge (tgt := 58) hx hb dX10_passes_5 (by decide) (fun c_1 => ?_) (fun c_1 => ?_)
      · have h := (if_pos c_1).symm.trans h
        obtain rfl := Option.some.inj h
        exact xk_vret hx hb hr hlk hP hD hS (hQ _) dX10_passes_58
      · have h := (if_neg c_1).symm.trans h
        refine lv_aload_n hx hb dX10_passes_8 rfl (lv_at hl 0 rfl) ?_
        refine va_get (ci := 5) (v := .int v_t_isKeeping) (C := RX10) (T := TX10) (N := 25) hx hb hts hinX10 hown hK.1 hP 0 rfl rfl 17 (by decide) k_0 (fun _ h9 => h9) rfl dX10_passes_9 ?_
        refine lv_if_eq (tgt := 30) hx hb dX10_passes_12 (by decide) (fun c_2 => ?_) (fun c_2 => ?_)
        · have h := (if_pos c_2).symm.trans h
          refine lv_aload_n hx hb dX10_passes_30 rfl (lv_at hl 1 rfl) ?_
          refine lv_iload_n hx hb dX10_passes_31 rfl (lv_at hl 2 rfl) ?_
          refine lv_aload_n hx hb dX10_passes_32 rfl (lv_at hl 0 rfl) ?_
          refine va_get (ci := 5) (v := .ref a_t_kept) (C := RX10) (T := TX10) (N := 25) hx hb hts hinX10 hown hK.1 hP 0 rfl rfl 15 (by decide) k_1 (fun _ h9 => h9) rfl dX10_passes_33 ?_
          refine lv_aload_n hx hb dX10_passes_36 rfl (lv_at hl 0 rfl) ?_
          refine va_get (ci := 5) (v := .int v_t_cursor) (C := RX10) (T := TX10) (N := 25) hx hb hts hinX10 hown hK.1 hP 0 rfl rfl 18 (by decide) k_2 (fun _ h9 => h9) rfl dX10_passes_37 ?_
          obtain ⟨i_3, h⟩ := xa_some h
          refine va_iald hx hb hK.1 hP 9 0 rfl rfl i_3 dX10_passes_40 ?_
          obtain ⟨i_4, h⟩ := xa_some h
          refine va_iast hx hb hK.1 hP hD hS 2 0 rfl rfl i_4 dX10_passes_41 (fun H locs hP hD hS => ?_)
          have hP : va_P D vwCl (wX10 cA a_t a_t_refused a_t_kind a_t_figure a_t_cause a_t_tape a_t_letter a_t_letterAt a_t_told a_t_kept a_t_deep a_t_many a_t_row v_t_refused (upd v_t_kind (Int32.toNatClampNeg x2) (v_t_kept (Int32.toNatClampNeg v_t_cursor))) v_t_figure v_t_cause v_t_things v_t_day v_t_lost v_t_guarded v_t_tape v_t_letter v_t_letterAt v_t_told v_t_taped v_t_at v_t_statements v_t_kept v_t_hasImage v_t_isKeeping v_t_cursor v_t_deep v_t_nextWhen v_t_many v_t_row v_t_rowMany v_t_lots) H := hP
          have hD : va_D A (wX10 cA a_t a_t_refused a_t_kind a_t_figure a_t_cause a_t_tape a_t_letter a_t_letterAt a_t_told a_t_kept a_t_deep a_t_many a_t_row v_t_refused (upd v_t_kind (Int32.toNatClampNeg x2) (v_t_kept (Int32.toNatClampNeg v_t_cursor))) v_t_figure v_t_cause v_t_things v_t_day v_t_lost v_t_guarded v_t_tape v_t_letter v_t_letterAt v_t_told v_t_taped v_t_at v_t_statements v_t_kept v_t_hasImage v_t_isKeeping v_t_cursor v_t_deep v_t_nextWhen v_t_many v_t_row v_t_rowMany v_t_lots) := hD
          exact J_42 (f_X10_passes_kind_2 F v_t_isKeeping n) ih x2 (upd v_t_kind (Int32.toNatClampNeg x2) (v_t_kept (Int32.toNatClampNeg v_t_cursor))) v_t_kept v_t_cursor _ h _ _ _ hP hD hS (lv_sub hl [0, 1, 2] rfl)
        · have h := (if_neg c_2).symm.trans h
          refine lv_aload_n hx hb dX10_passes_15 rfl (lv_at hl 0 rfl) ?_
          refine va_get (ci := 5) (v := .ref a_t_kept) (C := RX10) (T := TX10) (N := 25) hx hb hts hinX10 hown hK.1 hP 0 rfl rfl 15 (by decide) k_1 (fun _ h9 => h9) rfl dX10_passes_16 ?_
          refine lv_aload_n hx hb dX10_passes_19 rfl (lv_at hl 0 rfl) ?_
          refine va_get (ci := 5) (v := .int v_t_cursor) (C := RX10) (T := TX10) (N := 25) hx hb hts hinX10 hown hK.1 hP 0 rfl rfl 18 (by decide) k_2 (fun _ h9 => h9) rfl dX10_passes_20 ?_
          refine lv_aload_n hx hb dX10_passes_23 rfl (lv_at hl 1 rfl) ?_
          refine lv_iload_n hx hb dX10_passes_24 rfl (lv_at hl 2 rfl) ?_
          obtain ⟨i_5, h⟩ := xa_some h
          refine va_iald hx hb hK.1 hP 2 0 rfl rfl i_5 dX10_passes_25 ?_
          obtain ⟨i_6, h⟩ := xa_some h
          refine va_iast hx hb hK.1 hP hD hS 9 0 rfl rfl i_6 dX10_passes_26 (fun H locs hP hD hS => ?_)
          have hP : va_P D vwCl (wX10 cA a_t a_t_refused a_t_kind a_t_figure a_t_cause a_t_tape a_t_letter a_t_letterAt a_t_told a_t_kept a_t_deep a_t_many a_t_row v_t_refused v_t_kind v_t_figure v_t_cause v_t_things v_t_day v_t_lost v_t_guarded v_t_tape v_t_letter v_t_letterAt v_t_told v_t_taped v_t_at v_t_statements (upd v_t_kept (Int32.toNatClampNeg v_t_cursor) (v_t_kind (Int32.toNatClampNeg x2))) v_t_hasImage v_t_isKeeping v_t_cursor v_t_deep v_t_nextWhen v_t_many v_t_row v_t_rowMany v_t_lots) H := hP
          have hD : va_D A (wX10 cA a_t a_t_refused a_t_kind a_t_figure a_t_cause a_t_tape a_t_letter a_t_letterAt a_t_told a_t_kept a_t_deep a_t_many a_t_row v_t_refused v_t_kind v_t_figure v_t_cause v_t_things v_t_day v_t_lost v_t_guarded v_t_tape v_t_letter v_t_letterAt v_t_told v_t_taped v_t_at v_t_statements (upd v_t_kept (Int32.toNatClampNeg v_t_cursor) (v_t_kind (Int32.toNatClampNeg x2))) v_t_hasImage v_t_isKeeping v_t_cursor v_t_deep v_t_nextWhen v_t_many v_t_row v_t_rowMany v_t_lots) := hD
          refine lv_goto (tgt := 42) hx hb dX10_passes_27 (by decide) ?_
          exact J_42 (f_X10_passes_kind_2 F v_t_isKeeping n) ih x2 v_t_kind (upd v_t_kept (Int32.toNatClampNeg v_t_cursor) (v_t_kind (Int32.toNatClampNeg x2))) v_t_cursor _ h _ _ _ hP hD hS (lv_sub hl [0, 1, 2] rfl)
  unfold f_X10_passes_kind at h
  refine lv_iconst (v := 0) hx hb dX10_passes_0 (by decide) ?_
  refine lv_istore_n (lv' := [(2, .int 0), (0, .ref a_t), (1, .ref a_t_kind)]) hx hb dX10_passes_1 rfl hl (by decide) rfl (fun ls hl => ?_)
  exact J_2 F 0 v_t_kind v_t_kept v_t_cursor _ h _ _ _ hP hD hS (lv_sub hl [1, 2, 0] rfl)
