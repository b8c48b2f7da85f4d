set_option maxHeartbeats 4000000 in
set_option maxRecDepth 100000 in
theorem c_X8_isFull (l : Launch) (D : va_G) (cA : ClassId) (sa sv : Nat → Nat) (a_t a_t_letters : Nat) (sz : Nat) (v_t_letters : Nat → Int32) (v_t_size : Int32) (res : Int32) (h : f_X8_isFull v_t_size  = some res) : Met l yX8_isFull wsX8_isFull { frames := 0, cells := 0, slots := 0, locals := 0 } (xk_Pc D cA sa sv (wX8 cA a_t a_t_letters v_t_letters v_t_size) sz [.ref a_t]) (xk_Q D (va_A (wX8 cA a_t a_t_letters v_t_letters v_t_size) sz) (some (.int res)) (wX8 cA a_t a_t_letters v_t_letters v_t_size)) 0 0 (va_A (wX8 cA a_t a_t_letters v_t_letters v_t_size) sz) := by
  refine xk_met (fun res : Int32 => some (.int res)) (fun res : Int32 => (wX8 cA a_t a_t_letters v_t_letters v_t_size)) res (cc := cX8_isFull) (maxL := 1) (ret := (some .boolean)) (by decide) rfl (Nat.le_of_ble_eq_true rfl) ?_
  intro p e s m args below meth c A Q ls hQ hx hb hr hlk hml hown hts hK hP hD hS hA hl
  have S : CallFix p m c cX8_isFull 1 s args wsX8_isFull RX8 := ⟨hx, hb, hml, hown, hts⟩
  have hl : lv_has ls 1 [(0, .ref a_t)] := hl
  have hinX8 : ∀ w ∈ u_ws RX8 TX8 2, w ∈ wsX8_isFull := fun _ h => List.mem_cons_of_mem _ (List.mem_append_right _ (h))
  have k_0 := hts (.fieldLink RX8 13 "NailsWantTheKingdom$Telling" "size" "I") (List.mem_of_getElem? (i := 1) (by decide +kernel))
  unfold f_X8_isFull at h
  refine lv_aload_n hx hb dX8_isFull_0 rfl (lv_at hl 0 rfl) ?_
  refine va_get (ci := 3) (v := .int v_t_size) (C := RX8) (T := TX8) (N := 2) hx hb hts hinX8 hown hK.1 hP 0 rfl rfl 1 (by decide) k_0 (fun _ h9 => h9) rfl dX8_isFull_1 ?_
  refine lv_bipush (v := 96) hx hb dX8_isFull_4 (by decide) ?_
  refine lv_icmp_lt (tgt := 13) hx hb dX8_isFull_6 (by decide) (fun c_1 => ?_) (fun c_1 => ?_)
  · have h := (if_pos c_1).symm.trans h
    refine lv_iconst (v := 0) hx hb dX8_isFull_13 (by decide) ?_
    obtain rfl := Option.some.inj h
    exact xk_zret rfl hx hb hr hlk hP hD hS (hQ _) dX8_isFull_14
  · have h := (if_neg c_1).symm.trans h
    refine lv_iconst (v := 1) hx hb dX8_isFull_9 (by decide) ?_
    refine lv_goto (tgt := 14) hx hb dX8_isFull_10 (by decide) ?_
    obtain rfl := Option.some.inj h
    exact xk_zret rfl hx hb hr hlk hP hD hS (hQ _) dX8_isFull_14
set_option maxHeartbeats 4000000 in
set_option maxRecDepth 100000 in
theorem c_X8_add (l : Launch) (D : va_G) (cA : ClassId) (sa sv : Nat → Nat) (a_t a_t_letters : Nat) (sz : Nat) (v_t_letters : Nat → Int32) (v_t_size : Int32) (p1 : Int32) (res : Int32 × (Nat → Int32) × Int32) (h : f_X8_add v_t_letters v_t_size p1 = some res) : Met l yX8_add wsX8_add { frames := 1, cells := 0, slots := 0, locals := 20 } (xk_Pc D cA sa sv (wX8 cA a_t a_t_letters v_t_letters v_t_size) sz [.ref a_t, .int p1]) (xk_Q D (va_A (wX8 cA a_t a_t_letters v_t_letters v_t_size) sz) (some (.int res.1)) (wX8 cA a_t a_t_letters res.2.1 res.2.2)) 0 0 (va_A (wX8 cA a_t a_t_letters v_t_letters v_t_size) sz) := by
  refine xk_met (fun res : Int32 × (Nat → Int32) × Int32 => some (.int res.1)) (fun res : Int32 × (Nat → Int32) × Int32 => (wX8 cA a_t a_t_letters res.2.1 res.2.2)) res (cc := cX8_add) (maxL := 2) (ret := (some .int)) (by decide) rfl (Nat.le_of_ble_eq_true rfl) ?_
  intro p e s m args below meth c A Q ls hQ hx hb hr hlk hml hown hts hK hP hD hS hA hl
  have S : CallFix p m c cX8_add 2 s args wsX8_add RX8 := ⟨hx, hb, hml, hown, hts⟩
  have hl : lv_has ls 2 [(0, .ref a_t), (1, .int p1)] := hl
  have hinX8 : ∀ w ∈ u_ws RX8 TX8 2, w ∈ wsX8_add := fun _ h => List.mem_cons_of_mem _ (List.mem_append_right _ (h))
  have k_0 := hts (.fieldLink RX8 13 "NailsWantTheKingdom$Telling" "size" "I") (List.mem_of_getElem? (i := 2) (by decide +kernel))
  have k_1 := hts (.fieldLink RX8 9 "NailsWantTheKingdom$Telling" "letters" "[I") (List.mem_of_getElem? (i := 1) (by decide +kernel))
  unfold f_X8_add at h
  refine lv_aload_n hx hb dX8_add_0 rfl (lv_at hl 0 rfl) ?_
  obtain ⟨x_1, hc_1, h⟩ := bd_some h
  refine xk_V (rest := []) (As := []) (stk := [.int x_1]) (wn := (wX8 cA a_t a_t_letters v_t_letters v_t_size)) (v := (some (.int x_1))) (wr := []) gX8_add_X8_isFull rfl hdV_X8_isFull rfl rfl (c_X8_isFull l D cA sa sv a_t a_t_letters _ v_t_letters v_t_size x_1 hc_1) (ci := 3) rfl (q0 := 0) rfl S hK hP hD hS hA [0, 1] [] [0, 1] rfl rfl rfl rfl rfl rfl rfl ⟨Nat.le_of_ble_eq_true rfl, Nat.le_of_ble_eq_true rfl⟩ ⟨Nat.le_refl 0, Nat.le_refl 0⟩ rfl hl.1 rfl (Nat.le_of_ble_eq_true rfl) rfl dX8_add_1 (fun H locs hP hD hS => ?_)
  refine lv_if_ne (tgt := 27) hx hb dX8_add_4 (by decide) (fun c_2 => ?_) (fun c_2 => ?_)
  · have h := (if_neg c_2).symm.trans h
    refine lv_aload_n hx hb dX8_add_27 rfl (lv_at hl 0 rfl) ?_
    refine va_get (ci := 3) (v := .int v_t_size) (C := RX8) (T := TX8) (N := 2) hx hb hts hinX8 hown hK.1 hP 0 rfl rfl 1 (by decide) k_0 (fun _ h9 => h9) rfl dX8_add_28 ?_
    obtain rfl := Option.some.inj h
    exact xk_iret hx hb hr hlk hP hD hS (hQ _) dX8_add_31
  · have h := (if_pos c_2).symm.trans h
    refine lv_aload_n hx hb dX8_add_7 rfl (lv_at hl 0 rfl) ?_
    refine va_get (ci := 3) (v := .ref a_t_letters) (C := RX8) (T := TX8) (N := 2) hx hb hts hinX8 hown hK.1 hP 0 rfl rfl 0 (by decide) k_1 (fun _ h9 => h9) rfl dX8_add_8 ?_
    refine lv_aload_n hx hb dX8_add_11 rfl (lv_at hl 0 rfl) ?_
    refine va_get (ci := 3) (v := .int v_t_size) (C := RX8) (T := TX8) (N := 2) hx hb hts hinX8 hown hK.1 hP 0 rfl rfl 1 (by decide) k_0 (fun _ h9 => h9) rfl dX8_add_12 ?_
    refine lv_iload_n hx hb dX8_add_15 rfl (lv_at hl 1 rfl) ?_
    obtain ⟨i_3, h⟩ := xa_some h
    refine va_iast hx hb hK.1 hP hD hS 1 0 rfl rfl i_3 dX8_add_16 (fun H locs hP hD hS => ?_)
    have hP : va_P D vwCl (wX8 cA a_t a_t_letters (upd v_t_letters (Int32.toNatClampNeg v_t_size) p1) v_t_size) H := hP
    have hD : va_D A (wX8 cA a_t a_t_letters (upd v_t_letters (Int32.toNatClampNeg v_t_size) p1) v_t_size) := hD
    refine lv_aload_n hx hb dX8_add_17 rfl (lv_at hl 0 rfl) ?_
    refine lv_dup hx hb dX8_add_18 rfl ?_
    refine va_get (ci := 3) (v := .int v_t_size) (C := RX8) (T := TX8) (N := 2) hx hb hts hinX8 hown hK.1 hP 0 rfl rfl 1 (by decide) k_0 (fun _ h9 => h9) rfl dX8_add_19 ?_
    refine lv_iconst (v := 1) hx hb dX8_add_22 (by decide) ?_
    refine lv_iadd hx hb dX8_add_23 ?_
    refine va_put (ci := 3) (v := .int (v_t_size + 1)) (ty := tyX8 1) (C := RX8) (T := TX8) (N := 2) hx hb hts hinX8 tyX8 tyX8_ok nmX8 hown hK.1 hP hD hS 0 rfl rfl 1 (by decide) k_0 (fun _ h9 => h9) rfl (tyX8_ok 1 (by decide)) rfl rfl (Nat.le_of_ble_eq_true rfl) dX8_add_24 (fun H locs hP hD hS => ?_)
    have hP : va_P D vwCl (wX8 cA a_t a_t_letters (upd v_t_letters (Int32.toNatClampNeg v_t_size) p1) (v_t_size + 1)) H := hP
    have hD : va_D A (wX8 cA a_t a_t_letters (upd v_t_letters (Int32.toNatClampNeg v_t_size) p1) (v_t_size + 1)) := hD
    refine lv_aload_n hx hb dX8_add_27 rfl (lv_at hl 0 rfl) ?_
    refine va_get (ci := 3) (v := .int (v_t_size + 1)) (C := RX8) (T := TX8) (N := 2) hx hb hts hinX8 hown hK.1 hP 0 rfl rfl 1 (by decide) k_0 (fun _ h9 => h9) rfl dX8_add_28 ?_
    obtain rfl := Option.some.inj h
    exact xk_iret hx hb hr hlk hP hD hS (hQ _) dX8_add_31
set_option maxHeartbeats 4000000 in
set_option maxRecDepth 100000 in
theorem c_X8_forget (l : Launch) (D : va_G) (cA : ClassId) (sa sv : Nat → Nat) (a_t a_t_letters : Nat) (sz : Nat) (v_t_letters : Nat → Int32) (v_t_size : Int32) (res : Int32) (h : f_X8_forget v_t_size  = some res) : Met l yX8_forget wsX8_forget { frames := 0, cells := 0, slots := 0, locals := 0 } (xk_Pc D cA sa sv (wX8 cA a_t a_t_letters v_t_letters v_t_size) sz [.ref a_t]) (xk_Q D (va_A (wX8 cA a_t a_t_letters v_t_letters v_t_size) sz) (none) (wX8 cA a_t a_t_letters v_t_letters res)) 0 0 (va_A (wX8 cA a_t a_t_letters v_t_letters v_t_size) sz) := by
  refine xk_met (fun res : Int32 => none) (fun res : Int32 => (wX8 cA a_t a_t_letters v_t_letters res)) res (cc := cX8_forget) (maxL := 1) (ret := none) (by decide) rfl (Nat.le_of_ble_eq_true rfl) ?_
  intro p e s m args below meth c A Q ls hQ hx hb hr hlk hml hown hts hK hP hD hS hA hl
  have S : CallFix p m c cX8_forget 1 s args wsX8_forget RX8 := ⟨hx, hb, hml, hown, hts⟩
  have hl : lv_has ls 1 [(0, .ref a_t)] := hl
  have hinX8 : ∀ w ∈ u_ws RX8 TX8 2, w ∈ wsX8_forget := fun _ h => List.mem_cons_of_mem _ (List.mem_append_right _ (h))
  have k_0 := hts (.fieldLink RX8 13 "NailsWantTheKingdom$Telling" "size" "I") (List.mem_of_getElem? (i := 1) (by decide +kernel))
  unfold f_X8_forget at h
  refine lv_aload_n hx hb dX8_forget_0 rfl (lv_at hl 0 rfl) ?_
  refine lv_iconst (v := 0) hx hb dX8_forget_1 (by decide) ?_
  refine va_put (ci := 3) (v := .int 0) (ty := tyX8 1) (C := RX8) (T := TX8) (N := 2) hx hb hts hinX8 tyX8 tyX8_ok nmX8 hown hK.1 hP hD hS 0 rfl rfl 1 (by decide) k_0 (fun _ h9 => h9) rfl (tyX8_ok 1 (by decide)) rfl rfl (Nat.le_of_ble_eq_true rfl) dX8_forget_2 (fun H locs hP hD hS => ?_)
  have hP : va_P D vwCl (wX8 cA a_t a_t_letters v_t_letters 0) H := hP
  have hD : va_D A (wX8 cA a_t a_t_letters v_t_letters 0) := hD
  obtain rfl := Option.some.inj h
  exact xk_vret hx hb hr hlk hP hD hS (hQ _) dX8_forget_5
set_option maxHeartbeats 4000000 in
set_option maxRecDepth 100000 in
theorem c_X8_at (l : Launch) (D : va_G) (cA : ClassId) (sa sv : Nat → Nat) (a_t a_t_letters : Nat) (sz : Nat) (v_t_letters : Nat → Int32) (v_t_size : Int32) (p1 : Int32) (res : Int32) (h : f_X8_at v_t_letters v_t_size p1 = some res) : Met l yX8_at wsX8_at { frames := 0, cells := 0, slots := 0, locals := 0 } (xk_Pc D cA sa sv (wX8 cA a_t a_t_letters v_t_letters v_t_size) sz [.ref a_t, .int p1]) (xk_Q D (va_A (wX8 cA a_t a_t_letters v_t_letters v_t_size) sz) (some (.int res)) (wX8 cA a_t a_t_letters v_t_letters v_t_size)) 0 0 (va_A (wX8 cA a_t a_t_letters v_t_letters v_t_size) sz) := by
  refine xk_met (fun res : Int32 => some (.int res)) (fun res : Int32 => (wX8 cA a_t a_t_letters v_t_letters v_t_size)) res (cc := cX8_at) (maxL := 2) (ret := (some .int)) (by decide) rfl (Nat.le_of_ble_eq_true rfl) ?_
  intro p e s m args below meth c A Q ls hQ hx hb hr hlk hml hown hts hK hP hD hS hA hl
  have S : CallFix p m c cX8_at 2 s args wsX8_at RX8 := ⟨hx, hb, hml, hown, hts⟩
  have hl : lv_has ls 2 [(0, .ref a_t), (1, .int p1)] := hl
  have hinX8 : ∀ w ∈ u_ws RX8 TX8 2, w ∈ wsX8_at := fun _ h => List.mem_cons_of_mem _ (List.mem_append_right _ (h))
  have k_0 := hts (.fieldLink RX8 13 "NailsWantTheKingdom$Telling" "size" "I") (List.mem_of_getElem? (i := 1) (by decide +kernel))
  have k_1 := hts (.fieldLink RX8 9 "NailsWantTheKingdom$Telling" "letters" "[I") (List.mem_of_getElem? (i := 2) (by decide +kernel))
  unfold f_X8_at at h
  refine lv_iload_n hx hb dX8_at_0 rfl (lv_at hl 1 rfl) ?_
  refine lv_if_lt (tgt := 27) hx hb dX8_at_1 (by decide) (fun c_1 => ?_) (fun c_1 => ?_)
  · have h := (if_pos c_1).symm.trans h
    refine lv_iconst (v := (-1)) hx hb dX8_at_27 (by decide) ?_
    obtain rfl := Option.some.inj h
    exact xk_iret hx hb hr hlk hP hD hS (hQ _) dX8_at_28
  · have h := (if_neg c_1).symm.trans h
    refine lv_iload_n hx hb dX8_at_4 rfl (lv_at hl 1 rfl) ?_
    refine lv_aload_n hx hb dX8_at_5 rfl (lv_at hl 0 rfl) ?_
    refine va_get (ci := 3) (v := .int v_t_size) (C := RX8) (T := TX8) (N := 2) hx hb hts hinX8 hown hK.1 hP 0 rfl rfl 1 (by decide) k_0 (fun _ h9 => h9) rfl dX8_at_6 ?_
    refine lv_icmp_ge (tgt := 27) hx hb dX8_at_9 (by decide) (fun c_2 => ?_) (fun c_2 => ?_)
    · have h := (if_pos c_2).symm.trans h
      refine lv_iconst (v := (-1)) hx hb dX8_at_27 (by decide) ?_
      obtain rfl := Option.some.inj h
      exact xk_iret hx hb hr hlk hP hD hS (hQ _) dX8_at_28
    · have h := (if_neg c_2).symm.trans h
      refine lv_iload_n hx hb dX8_at_12 rfl (lv_at hl 1 rfl) ?_
      refine lv_bipush (v := 96) hx hb dX8_at_13 (by decide) ?_
      refine lv_icmp_ge (tgt := 27) hx hb dX8_at_15 (by decide) (fun c_3 => ?_) (fun c_3 => ?_)
      · have h := (if_pos c_3).symm.trans h
        refine lv_iconst (v := (-1)) hx hb dX8_at_27 (by decide) ?_
        obtain rfl := Option.some.inj h
        exact xk_iret hx hb hr hlk hP hD hS (hQ _) dX8_at_28
      · have h := (if_neg c_3).symm.trans h
        refine lv_aload_n hx hb dX8_at_18 rfl (lv_at hl 0 rfl) ?_
        refine va_get (ci := 3) (v := .ref a_t_letters) (C := RX8) (T := TX8) (N := 2) hx hb hts hinX8 hown hK.1 hP 0 rfl rfl 0 (by decide) k_1 (fun _ h9 => h9) rfl dX8_at_19 ?_
        refine lv_iload_n hx hb dX8_at_22 rfl (lv_at hl 1 rfl) ?_
        obtain ⟨i_4, h⟩ := xa_some h
        refine va_iald hx hb hK.1 hP 1 0 rfl rfl i_4 dX8_at_23 ?_
        refine lv_goto (tgt := 28) hx hb dX8_at_24 (by decide) ?_
        obtain rfl := Option.some.inj h
        exact xk_iret hx hb hr hlk hP hD hS (hQ _) dX8_at_28
set_option maxHeartbeats 4000000 in
set_option maxRecDepth 100000 in
theorem c_X8_lengthBy (l : Launch) (D : va_G) (cA : ClassId) (sa sv : Nat → Nat) (sz : Nat) (p0 : Int32) (res : Int32) (h : f_X8_lengthBy  p0 = some res) : Met l yX8_lengthBy wsX8_lengthBy { frames := 0, cells := 0, slots := 0, locals := 0 } (xk_Pc D cA sa sv ([] : va_W) sz [.int p0]) (xk_Q D (va_A ([] : va_W) sz) (some (.int res)) ([] : va_W)) 0 0 (va_A ([] : va_W) sz) := by
  refine xk_met (fun res : Int32 => some (.int res)) (fun res : Int32 => ([] : va_W)) res (cc := cX8_lengthBy) (maxL := 1) (ret := (some .int)) (by decide) rfl (Nat.le_of_ble_eq_true rfl) ?_
  intro p e s m args below meth c A Q ls hQ hx hb hr hlk hml hown hts hK hP hD hS hA hl
  have S : CallFix p m c cX8_lengthBy 1 s args wsX8_lengthBy RX8 := ⟨hx, hb, hml, hown, hts⟩
  have hl : lv_has ls 1 [(0, .int p0)] := hl
  unfold f_X8_lengthBy at h
  refine lv_iload_n hx hb dX8_lengthBy_0 rfl (lv_at hl 0 rfl) ?_
  by_cases c_1 : p0 = 99
  · have h := (if_pos c_1).symm.trans h
    refine lv_tableIn (tgt := 88) (off := 87) hx hb dX8_lengthBy_1 (by rw [c_1]; decide) (by rw [c_1]; decide) (by rw [c_1]; rfl) (by decide) ?_
    refine lv_iconst (v := 4) hx hb dX8_lengthBy_88 (by decide) ?_
    obtain rfl := Option.some.inj h
    exact xk_iret hx hb hr hlk hP hD hS (hQ _) dX8_lengthBy_89
  have h := (if_neg c_1).symm.trans h
  by_cases c_2 : p0 = 100
  · have h := (if_pos c_2).symm.trans h
    refine lv_tableIn (tgt := 88) (off := 87) hx hb dX8_lengthBy_1 (by rw [c_2]; decide) (by rw [c_2]; decide) (by rw [c_2]; rfl) (by decide) ?_
    refine lv_iconst (v := 4) hx hb dX8_lengthBy_88 (by decide) ?_
    obtain rfl := Option.some.inj h
    exact xk_iret hx hb hr hlk hP hD hS (hQ _) dX8_lengthBy_89
  have h := (if_neg c_2).symm.trans h
  by_cases c_3 : p0 = 101
  · have h := (if_pos c_3).symm.trans h
    refine lv_tableIn (tgt := 92) (off := 91) hx hb dX8_lengthBy_1 (by rw [c_3]; decide) (by rw [c_3]; decide) (by rw [c_3]; rfl) (by decide) ?_
    refine lv_iconst (v := 0) hx hb dX8_lengthBy_92 (by decide) ?_
    obtain rfl := Option.some.inj h
    exact xk_iret hx hb hr hlk hP hD hS (hQ _) dX8_lengthBy_93
  have h := (if_neg c_3).symm.trans h
  by_cases c_4 : p0 = 102
  · have h := (if_pos c_4).symm.trans h
    refine lv_tableIn (tgt := 92) (off := 91) hx hb dX8_lengthBy_1 (by rw [c_4]; decide) (by rw [c_4]; decide) (by rw [c_4]; rfl) (by decide) ?_
    refine lv_iconst (v := 0) hx hb dX8_lengthBy_92 (by decide) ?_
    obtain rfl := Option.some.inj h
    exact xk_iret hx hb hr hlk hP hD hS (hQ _) dX8_lengthBy_93
  have h := (if_neg c_4).symm.trans h
  by_cases c_5 : p0 = 103
  · have h := (if_pos c_5).symm.trans h
    refine lv_tableIn (tgt := 90) (off := 89) hx hb dX8_lengthBy_1 (by rw [c_5]; decide) (by rw [c_5]; decide) (by rw [c_5]; rfl) (by decide) ?_
    refine lv_iconst (v := 3) hx hb dX8_lengthBy_90 (by decide) ?_
    obtain rfl := Option.some.inj h
    exact xk_iret hx hb hr hlk hP hD hS (hQ _) dX8_lengthBy_91
  have h := (if_neg c_5).symm.trans h
  by_cases c_6 : p0 = 104
  · have h := (if_pos c_6).symm.trans h
    refine lv_tableIn (tgt := 92) (off := 91) hx hb dX8_lengthBy_1 (by rw [c_6]; decide) (by rw [c_6]; decide) (by rw [c_6]; rfl) (by decide) ?_
    refine lv_iconst (v := 0) hx hb dX8_lengthBy_92 (by decide) ?_
    obtain rfl := Option.some.inj h
    exact xk_iret hx hb hr hlk hP hD hS (hQ _) dX8_lengthBy_93
  have h := (if_neg c_6).symm.trans h
  by_cases c_7 : p0 = 105
  · have h := (if_pos c_7).symm.trans h
    refine lv_tableIn (tgt := 92) (off := 91) hx hb dX8_lengthBy_1 (by rw [c_7]; decide) (by rw [c_7]; decide) (by rw [c_7]; rfl) (by decide) ?_
    refine lv_iconst (v := 0) hx hb dX8_lengthBy_92 (by decide) ?_
    obtain rfl := Option.some.inj h
    exact xk_iret hx hb hr hlk hP hD hS (hQ _) dX8_lengthBy_93
  have h := (if_neg c_7).symm.trans h
  by_cases c_8 : p0 = 106
  · have h := (if_pos c_8).symm.trans h
    refine lv_tableIn (tgt := 92) (off := 91) hx hb dX8_lengthBy_1 (by rw [c_8]; decide) (by rw [c_8]; decide) (by rw [c_8]; rfl) (by decide) ?_
    refine lv_iconst (v := 0) hx hb dX8_lengthBy_92 (by decide) ?_
    obtain rfl := Option.some.inj h
    exact xk_iret hx hb hr hlk hP hD hS (hQ _) dX8_lengthBy_93
  have h := (if_neg c_8).symm.trans h
  by_cases c_9 : p0 = 107
  · have h := (if_pos c_9).symm.trans h
    refine lv_tableIn (tgt := 92) (off := 91) hx hb dX8_lengthBy_1 (by rw [c_9]; decide) (by rw [c_9]; decide) (by rw [c_9]; rfl) (by decide) ?_
    refine lv_iconst (v := 0) hx hb dX8_lengthBy_92 (by decide) ?_
    obtain rfl := Option.some.inj h
    exact xk_iret hx hb hr hlk hP hD hS (hQ _) dX8_lengthBy_93
  have h := (if_neg c_9).symm.trans h
  by_cases c_10 : p0 = 108
  · have h := (if_pos c_10).symm.trans h
    refine lv_tableIn (tgt := 90) (off := 89) hx hb dX8_lengthBy_1 (by rw [c_10]; decide) (by rw [c_10]; decide) (by rw [c_10]; rfl) (by decide) ?_
    refine lv_iconst (v := 3) hx hb dX8_lengthBy_90 (by decide) ?_
    obtain rfl := Option.some.inj h
    exact xk_iret hx hb hr hlk hP hD hS (hQ _) dX8_lengthBy_91
  have h := (if_neg c_10).symm.trans h
  by_cases c_11 : p0 = 109
  · have h := (if_pos c_11).symm.trans h
    refine lv_tableIn (tgt := 90) (off := 89) hx hb dX8_lengthBy_1 (by rw [c_11]; decide) (by rw [c_11]; decide) (by rw [c_11]; rfl) (by decide) ?_
    refine lv_iconst (v := 3) hx hb dX8_lengthBy_90 (by decide) ?_
    obtain rfl := Option.some.inj h
    exact xk_iret hx hb hr hlk hP hD hS (hQ _) dX8_lengthBy_91
  have h := (if_neg c_11).symm.trans h
  by_cases c_12 : p0 = 110
  · have h := (if_pos c_12).symm.trans h
    refine lv_tableIn (tgt := 92) (off := 91) hx hb dX8_lengthBy_1 (by rw [c_12]; decide) (by rw [c_12]; decide) (by rw [c_12]; rfl) (by decide) ?_
    refine lv_iconst (v := 0) hx hb dX8_lengthBy_92 (by decide) ?_
    obtain rfl := Option.some.inj h
    exact xk_iret hx hb hr hlk hP hD hS (hQ _) dX8_lengthBy_93
  have h := (if_neg c_12).symm.trans h
  by_cases c_13 : p0 = 111
  · have h := (if_pos c_13).symm.trans h
    refine lv_tableIn (tgt := 92) (off := 91) hx hb dX8_lengthBy_1 (by rw [c_13]; decide) (by rw [c_13]; decide) (by rw [c_13]; rfl) (by decide) ?_
    refine lv_iconst (v := 0) hx hb dX8_lengthBy_92 (by decide) ?_
    obtain rfl := Option.some.inj h
    exact xk_iret hx hb hr hlk hP hD hS (hQ _) dX8_lengthBy_93
  have h := (if_neg c_13).symm.trans h
  by_cases c_14 : p0 = 112
  · have h := (if_pos c_14).symm.trans h
    refine lv_tableIn (tgt := 92) (off := 91) hx hb dX8_lengthBy_1 (by rw [c_14]; decide) (by rw [c_14]; decide) (by rw [c_14]; rfl) (by decide) ?_
    refine lv_iconst (v := 0) hx hb dX8_lengthBy_92 (by decide) ?_
    obtain rfl := Option.some.inj h
    exact xk_iret hx hb hr hlk hP hD hS (hQ _) dX8_lengthBy_93
  have h := (if_neg c_14).symm.trans h
  by_cases c_15 : p0 = 113
  · have h := (if_pos c_15).symm.trans h
    refine lv_tableIn (tgt := 92) (off := 91) hx hb dX8_lengthBy_1 (by rw [c_15]; decide) (by rw [c_15]; decide) (by rw [c_15]; rfl) (by decide) ?_
    refine lv_iconst (v := 0) hx hb dX8_lengthBy_92 (by decide) ?_
    obtain rfl := Option.some.inj h
    exact xk_iret hx hb hr hlk hP hD hS (hQ _) dX8_lengthBy_93
  have h := (if_neg c_15).symm.trans h
  by_cases c_16 : p0 = 114
  · have h := (if_pos c_16).symm.trans h
    refine lv_tableIn (tgt := 92) (off := 91) hx hb dX8_lengthBy_1 (by rw [c_16]; decide) (by rw [c_16]; decide) (by rw [c_16]; rfl) (by decide) ?_
    refine lv_iconst (v := 0) hx hb dX8_lengthBy_92 (by decide) ?_
    obtain rfl := Option.some.inj h
    exact xk_iret hx hb hr hlk hP hD hS (hQ _) dX8_lengthBy_93
  have h := (if_neg c_16).symm.trans h
  by_cases c_17 : p0 = 115
  · have h := (if_pos c_17).symm.trans h
    refine lv_tableIn (tgt := 92) (off := 91) hx hb dX8_lengthBy_1 (by rw [c_17]; decide) (by rw [c_17]; decide) (by rw [c_17]; rfl) (by decide) ?_
    refine lv_iconst (v := 0) hx hb dX8_lengthBy_92 (by decide) ?_
    obtain rfl := Option.some.inj h
    exact xk_iret hx hb hr hlk hP hD hS (hQ _) dX8_lengthBy_93
  have h := (if_neg c_17).symm.trans h
  by_cases c_18 : p0 = 116
  · have h := (if_pos c_18).symm.trans h
    refine lv_tableIn (tgt := 88) (off := 87) hx hb dX8_lengthBy_1 (by rw [c_18]; decide) (by rw [c_18]; decide) (by rw [c_18]; rfl) (by decide) ?_
    refine lv_iconst (v := 4) hx hb dX8_lengthBy_88 (by decide) ?_
    obtain rfl := Option.some.inj h
    exact xk_iret hx hb hr hlk hP hD hS (hQ _) dX8_lengthBy_89
  have h := (if_neg c_18).symm.trans h
  have n_1 : ¬ Int32.toInt p0 = (99 : Int) := lv_neT (k := 99) c_1 rfl
  have n_2 : ¬ Int32.toInt p0 = (100 : Int) := lv_neT (k := 100) c_2 rfl
  have n_3 : ¬ Int32.toInt p0 = (101 : Int) := lv_neT (k := 101) c_3 rfl
  have n_4 : ¬ Int32.toInt p0 = (102 : Int) := lv_neT (k := 102) c_4 rfl
  have n_5 : ¬ Int32.toInt p0 = (103 : Int) := lv_neT (k := 103) c_5 rfl
  have n_6 : ¬ Int32.toInt p0 = (104 : Int) := lv_neT (k := 104) c_6 rfl
  have n_7 : ¬ Int32.toInt p0 = (105 : Int) := lv_neT (k := 105) c_7 rfl
  have n_8 : ¬ Int32.toInt p0 = (106 : Int) := lv_neT (k := 106) c_8 rfl
  have n_9 : ¬ Int32.toInt p0 = (107 : Int) := lv_neT (k := 107) c_9 rfl
  have n_10 : ¬ Int32.toInt p0 = (108 : Int) := lv_neT (k := 108) c_10 rfl
  have n_11 : ¬ Int32.toInt p0 = (109 : Int) := lv_neT (k := 109) c_11 rfl
  have n_12 : ¬ Int32.toInt p0 = (110 : Int) := lv_neT (k := 110) c_12 rfl
  have n_13 : ¬ Int32.toInt p0 = (111 : Int) := lv_neT (k := 111) c_13 rfl
  have n_14 : ¬ Int32.toInt p0 = (112 : Int) := lv_neT (k := 112) c_14 rfl
  have n_15 : ¬ Int32.toInt p0 = (113 : Int) := lv_neT (k := 113) c_15 rfl
  have n_16 : ¬ Int32.toInt p0 = (114 : Int) := lv_neT (k := 114) c_16 rfl
  have n_17 : ¬ Int32.toInt p0 = (115 : Int) := lv_neT (k := 115) c_17 rfl
  have n_18 : ¬ Int32.toInt p0 = (116 : Int) := lv_neT (k := 116) c_18 rfl
  refine lv_tableOut (tgt := 92) hx hb dX8_lengthBy_1 (by omega) (by decide) ?_
  refine lv_iconst (v := 0) hx hb dX8_lengthBy_92 (by decide) ?_
  obtain rfl := Option.some.inj h
  exact xk_iret hx hb hr hlk hP hD hS (hQ _) dX8_lengthBy_93
set_option maxHeartbeats 4000000 in
set_option maxRecDepth 100000 in
theorem c_X8_goesOn (l : Launch) (D : va_G) (cA : ClassId) (sa sv : Nat → Nat) (sz : Nat) (p0 : Int32) (p1 : Int32) (p2 : Int32) (p3 : Int32) (res : Int32) (h : f_X8_goesOn  p0 p1 p2 p3 = some res) : Met l yX8_goesOn wsX8_goesOn { frames := 9, cells := 0, slots := 0, locals := 320 } (xk_Pc D cA sa sv ([] : va_W) sz [.int p0, .int p1, .int p2, .int p3]) (xk_Q D (va_A ([] : va_W) sz) (some (.int res)) ([] : va_W)) 0 0 (va_A ([] : va_W) sz) := by
  refine xk_met (fun res : Int32 => some (.int res)) (fun res : Int32 => ([] : va_W)) res (cc := cX8_goesOn) (maxL := 4) (ret := (some .boolean)) (by decide) rfl (Nat.le_of_ble_eq_true rfl) ?_
  intro p e s m args below meth c A Q ls hQ hx hb hr hlk hml hown hts hK hP hD hS hA hl
  have S : CallFix p m c cX8_goesOn 4 s args wsX8_goesOn RX8 := ⟨hx, hb, hml, hown, hts⟩
  have hl : lv_has ls 4 [(0, .int p0), (1, .int p1), (2, .int p2), (3, .int p3)] := hl
  have J_43 : ∀  (res : Int32), f_X8_goesOn_43 p0 p1 p2 p3  = some res → ∀ (H : Heap) (locs : List Loc) (ls : Array Slot), va_P D vwCl ([] : va_W) H → va_D A ([] : va_W) → va_S A s.heap H locs → lv_has ls 4 [(3, .int p3)] → W p l e { frames := 9, cells := 0, slots := 0, locals := 320 } s m args below meth c H locs 0 0 (Q res) (F0 m 43 ls []) := by
    intro  res h H locs ls hP hD hS hl
    unfold f_X8_goesOn_43 at h
    refine lv_iload_n hx hb dX8_goesOn_43 rfl (lv_at hl 0 rfl) ?_
    refine lv_bipush (v := 48) hx hb dX8_goesOn_44 (by decide) ?_
    refine lv_icmp_lt (tgt := 59) hx hb dX8_goesOn_46 (by decide) (fun c_3 => ?_) (fun c_3 => ?_)
    · have h := (if_pos c_3).symm.trans h
      refine lv_iconst (v := 0) hx hb dX8_goesOn_59 (by decide) ?_
      obtain rfl := Option.some.inj h
      exact xk_zret rfl hx hb hr hlk hP hD hS (hQ _) dX8_goesOn_60
    · have h := (if_neg c_3).symm.trans h
      refine lv_iload_n hx hb dX8_goesOn_49 rfl (lv_at hl 0 rfl) ?_
      refine lv_bipush (v := 57) hx hb dX8_goesOn_50 (by decide) ?_
      refine lv_icmp_gt (tgt := 59) hx hb dX8_goesOn_52 (by decide) (fun c_4 => ?_) (fun c_4 => ?_)
      · have h := (if_pos c_4).symm.trans h
        refine lv_iconst (v := 0) hx hb dX8_goesOn_59 (by decide) ?_
        obtain rfl := Option.some.inj h
        exact xk_zret rfl hx hb hr hlk hP hD hS (hQ _) dX8_goesOn_60
      · have h := (if_neg c_4).symm.trans h
        refine lv_iconst (v := 1) hx hb dX8_goesOn_55 (by decide) ?_
        refine lv_goto (tgt := 60) hx hb dX8_goesOn_56 (by decide) ?_
        obtain rfl := Option.some.inj h
        exact xk_zret rfl hx hb hr hlk hP hD hS (hQ _) dX8_goesOn_60
  unfold f_X8_goesOn at h
  refine lv_iload_n hx hb dX8_goesOn_0 rfl (lv_at hl 1 rfl) ?_
  refine lv_iload_n hx hb dX8_goesOn_1 rfl (lv_at hl 2 rfl) ?_
  refine lv_iconst (v := 1) hx hb dX8_goesOn_2 (by decide) ?_
  refine lv_isub hx hb dX8_goesOn_3 ?_
  refine lv_icmp_ne (tgt := 19) hx hb dX8_goesOn_4 (by decide) (fun c_1 => ?_) (fun c_1 => ?_)
  · have h := (if_neg c_1).symm.trans h
    refine lv_iload_n hx hb dX8_goesOn_19 rfl (lv_at hl 0 rfl) ?_
    refine lv_bipush (v := 116) hx hb dX8_goesOn_20 (by decide) ?_
    refine lv_icmp_ne (tgt := 43) hx hb dX8_goesOn_22 (by decide) (fun c_2 => ?_) (fun c_2 => ?_)
    · have h := (if_neg c_2).symm.trans h
      exact J_43  _ h _ _ _ hP hD hS (lv_sub hl [3] rfl)
    · have h := (if_pos c_2).symm.trans h
      refine lv_iload_n hx hb dX8_goesOn_25 rfl (lv_at hl 1 rfl) ?_
      refine lv_iconst (v := 1) hx hb dX8_goesOn_26 (by decide) ?_
      refine lv_icmp_ne (tgt := 43) hx hb dX8_goesOn_27 (by decide) (fun c_5 => ?_) (fun c_5 => ?_)
      · have h := (if_neg c_5).symm.trans h
        exact J_43  _ h _ _ _ hP hD hS (lv_sub hl [3] rfl)
      · have h := (if_pos c_5).symm.trans h
        refine lv_iload_n hx hb dX8_goesOn_30 rfl (lv_at hl 3 rfl) ?_
        obtain ⟨x_6, hc_6, h⟩ := bd_some h
        refine xk_S (rest := []) (As := [.int p3]) (stk := [.int x_6]) (wn := ([] : va_W)) (v := (some (.int x_6))) (wr := []) gX8_goesOn_X8_kindBy rfl hdS_X8_kindBy rfl rfl (c_X8_kindBy l D cA sa sv _ p3 x_6 hc_6) S hK hP hD hS hA [] [] [] rfl rfl rfl rfl rfl rfl rfl ⟨Nat.le_of_ble_eq_true rfl, Nat.le_of_ble_eq_true rfl⟩ ⟨Nat.le_refl 0, Nat.le_refl 0⟩ rfl hl.1 rfl (Nat.le_of_ble_eq_true rfl) rfl dX8_goesOn_31 (fun H locs hP hD hS => ?_)
        refine lv_if_lt (tgt := 41) hx hb dX8_goesOn_34 (by decide) (fun c_7 => ?_) (fun c_7 => ?_)
        · have h := (if_pos c_7).symm.trans h
          refine lv_iconst (v := 0) hx hb dX8_goesOn_41 (by decide) ?_
          obtain rfl := Option.some.inj h
          exact xk_zret rfl hx hb hr hlk hP hD hS (hQ _) dX8_goesOn_42
        · have h := (if_neg c_7).symm.trans h
          refine lv_iconst (v := 1) hx hb dX8_goesOn_37 (by decide) ?_
          refine lv_goto (tgt := 42) hx hb dX8_goesOn_38 (by decide) ?_
          obtain rfl := Option.some.inj h
          exact xk_zret rfl hx hb hr hlk hP hD hS (hQ _) dX8_goesOn_42
  · have h := (if_pos c_1).symm.trans h
    refine lv_iload_n hx hb dX8_goesOn_7 rfl (lv_at hl 3 rfl) ?_
    refine lv_bipush (v := 59) hx hb dX8_goesOn_8 (by decide) ?_
    refine lv_icmp_ne (tgt := 17) hx hb dX8_goesOn_10 (by decide) (fun c_8 => ?_) (fun c_8 => ?_)
    · have h := (if_neg c_8).symm.trans h
      refine lv_iconst (v := 0) hx hb dX8_goesOn_17 (by decide) ?_
      obtain rfl := Option.some.inj h
      exact xk_zret rfl hx hb hr hlk hP hD hS (hQ _) dX8_goesOn_18
    · have h := (if_pos c_8).symm.trans h
      refine lv_iconst (v := 1) hx hb dX8_goesOn_13 (by decide) ?_
      refine lv_goto (tgt := 18) hx hb dX8_goesOn_14 (by decide) ?_
      obtain rfl := Option.some.inj h
      exact xk_zret rfl hx hb hr hlk hP hD hS (hQ _) dX8_goesOn_18
set_option maxHeartbeats 4000000 in
set_option maxRecDepth 100000 in
theorem c_X8_faultOfForm (l : Launch) (D : va_G) (cA : ClassId) (sa sv : Nat → Nat) (a_t a_t_letters : Nat) (sz : Nat) (v_t_letters : Nat → Int32) (v_t_size : Int32) (F : Nat) (res : Int32) (h : f_X8_faultOfForm F v_t_letters v_t_size  = some res) : Met l yX8_faultOfForm wsX8_faultOfForm { frames := 10, cells := 0, slots := 0, locals := 343 } (xk_Pc D cA sa sv (wX8 cA a_t a_t_letters v_t_letters v_t_size) sz [.ref a_t]) (xk_Q D (va_A (wX8 cA a_t a_t_letters v_t_letters v_t_size) sz) (some (.int res)) (wX8 cA a_t a_t_letters v_t_letters v_t_size)) 0 0 (va_A (wX8 cA a_t a_t_letters v_t_letters v_t_size) sz) := by
  refine xk_met (fun res : Int32 => some (.int res)) (fun res : Int32 => (wX8 cA a_t a_t_letters v_t_letters v_t_size)) res (cc := cX8_faultOfForm) (maxL := 4) (ret := (some .int)) (by decide) rfl (Nat.le_of_ble_eq_true rfl) ?_
  intro p e s m args below meth c A Q ls hQ hx hb hr hlk hml hown hts hK hP hD hS hA hl
  have S : CallFix p m c cX8_faultOfForm 4 s args wsX8_faultOfForm RX8 := ⟨hx, hb, hml, hown, hts⟩
  have hl : lv_has ls 4 [(0, .ref a_t)] := hl
  have hinX8 : ∀ w ∈ u_ws RX8 TX8 2, w ∈ wsX8_faultOfForm := fun _ h => List.mem_cons_of_mem _ (List.mem_append_right _ (h))
  have k_0 := hts (.fieldLink RX8 13 "NailsWantTheKingdom$Telling" "size" "I") (List.mem_of_getElem? (i := 1) (by decide +kernel))
  have J_31 : ∀ (k_2r : Int32 → Option (Int32)), (∀ (x1 : Int32) (res : Int32), k_2r x1 = some res → ∀ (H : Heap) (locs : List Loc) (ls : Array Slot), va_P D vwCl (wX8 cA a_t a_t_letters v_t_letters v_t_size) H → va_D A (wX8 cA a_t a_t_letters v_t_letters v_t_size) → va_S A s.heap H locs → lv_has ls 4 [(0, .ref a_t), (1, .int x1)] → W p l e { frames := 10, cells := 0, slots := 0, locals := 343 } s m args below meth c H locs 0 0 (Q res) (F0 m 2 ls [])) → ∀ (n : Nat) (x1 : Int32) (x2 : Int32) (x3 : Int32) (res : Int32), f_X8_faultOfForm_31 F v_t_letters v_t_size k_2r n x1 x2 x3 = some res → ∀ (H : Heap) (locs : List Loc) (ls : Array Slot), va_P D vwCl (wX8 cA a_t a_t_letters v_t_letters v_t_size) H → va_D A (wX8 cA a_t a_t_letters v_t_letters v_t_size) → va_S A s.heap H locs → lv_has ls 4 [(0, .ref a_t), (1, .int x1), (2, .int x2), (3, .int x3)] → W p l e { frames := 10, cells := 0, slots := 0, locals := 343 } s m args below meth c H locs 0 0 (Q res) (F0 m 31 ls []) := by
    intro k_2r hk_2r n
    induction n with
    | zero => intro x1 x2 x3 res h; exact nomatch (show (none : Option (Int32)) = some res from h)
    | succ n ih =>
      intro x1 x2 x3 res h H locs ls hP hD hS hl
      rw [f_X8_faultOfForm_31] at h
      refine lv_iload_n hx hb dX8_faultOfForm_31 rfl (lv_at hl 3 rfl) ?_
      refine lv_iload_n hx hb dX8_faultOfForm_32 rfl (lv_at hl 2 rfl) ?_
      refine lv_icmp_ge (tgt := 70) hx hb dX8_faultOfForm_33 (by decide) (fun c_6 => ?_) (fun c_6 => ?_)
      · have h := (if_pos c_6).symm.trans h
        refine lv_iload_n hx hb dX8_faultOfForm_70 rfl (lv_at hl 1 rfl) ?_
        refine lv_iload_n hx hb dX8_faultOfForm_71 rfl (lv_at hl 2 rfl) ?_
        refine lv_iadd hx hb dX8_faultOfForm_72 ?_
        refine lv_istore_n (lv' := [(1, .int (x1 + x2)), (0, .ref a_t), (2, .int x2), (3, .int x3)]) hx hb dX8_faultOfForm_73 rfl hl (by decide) rfl (fun ls hl => ?_)
        refine lv_goto (tgt := 2) hx hb dX8_faultOfForm_74 (by decide) ?_
        exact hk_2r (x1 + x2) _ h _ _ _ hP hD hS (lv_sub hl [1, 0] rfl)
      · have h := (if_neg c_6).symm.trans h
        refine lv_aload_n hx hb dX8_faultOfForm_36 rfl (lv_at hl 0 rfl) ?_
        refine lv_iload_n hx hb dX8_faultOfForm_37 rfl (lv_at hl 1 rfl) ?_
        obtain ⟨x_7, hc_7, h⟩ := bd_some h
        refine xk_V (rest := []) (As := [.int x1]) (stk := [.int x_7]) (wn := (wX8 cA a_t a_t_letters v_t_letters v_t_size)) (v := (some (.int x_7))) (wr := []) gX8_faultOfForm_X8_at rfl hdV_X8_at rfl rfl (c_X8_at l D cA sa sv a_t a_t_letters _ v_t_letters v_t_size x1 x_7 hc_7) (ci := 3) rfl (q0 := 0) rfl S hK hP hD hS hA [0, 1] [] [0, 1] rfl rfl rfl rfl rfl rfl rfl ⟨Nat.le_of_ble_eq_true rfl, Nat.le_of_ble_eq_true rfl⟩ ⟨Nat.le_refl 0, Nat.le_refl 0⟩ rfl hl.1 rfl (Nat.le_of_ble_eq_true rfl) rfl dX8_faultOfForm_38 (fun H locs hP hD hS => ?_)
        refine lv_iload_n hx hb dX8_faultOfForm_41 rfl (lv_at hl 3 rfl) ?_
        refine lv_iload_n hx hb dX8_faultOfForm_42 rfl (lv_at hl 2 rfl) ?_
        refine lv_aload_n hx hb dX8_faultOfForm_43 rfl (lv_at hl 0 rfl) ?_
        refine lv_iload_n hx hb dX8_faultOfForm_44 rfl (lv_at hl 1 rfl) ?_
        refine lv_iload_n hx hb dX8_faultOfForm_45 rfl (lv_at hl 3 rfl) ?_
        refine lv_iadd hx hb dX8_faultOfForm_46 ?_
        obtain ⟨x_8, hc_8, h⟩ := bd_some h
        refine xk_V (rest := [.int x2, .int x3, .int x_7]) (As := [.int (x1 + x3)]) (stk := [.int x_8, .int x2, .int x3, .int x_7]) (wn := (wX8 cA a_t a_t_letters v_t_letters v_t_size)) (v := (some (.int x_8))) (wr := []) gX8_faultOfForm_X8_at rfl hdV_X8_at rfl rfl (c_X8_at l D cA sa sv a_t a_t_letters _ v_t_letters v_t_size (x1 + x3) x_8 hc_8) (ci := 3) rfl (q0 := 0) rfl S hK hP hD hS hA [0, 1] [] [0, 1] rfl rfl rfl rfl rfl rfl rfl ⟨Nat.le_of_ble_eq_true rfl, Nat.le_of_ble_eq_true rfl⟩ ⟨Nat.le_refl 0, Nat.le_refl 0⟩ rfl hl.1 rfl (Nat.le_of_ble_eq_true rfl) rfl dX8_faultOfForm_47 (fun H locs hP hD hS => ?_)
        obtain ⟨x_9, hc_9, h⟩ := bd_some h
        refine xk_S (rest := []) (As := [.int x_7, .int x3, .int x2, .int x_8]) (stk := [.int x_9]) (wn := (wX8 cA a_t a_t_letters v_t_letters v_t_size)) (v := (some (.int x_9))) (wr := [(a_t, .inr (3, [.ref a_t_letters, .int v_t_size])), (a_t_letters, .inl (cA, 96, .inl v_t_letters))]) gX8_faultOfForm_X8_goesOn rfl hdS_X8_goesOn rfl rfl (c_X8_goesOn l D cA sa sv _ x_7 x3 x2 x_8 x_9 hc_9) S hK hP hD hS hA [] [0, 1] [0, 1] rfl rfl rfl rfl rfl rfl rfl ⟨Nat.le_of_ble_eq_true rfl, Nat.le_of_ble_eq_true rfl⟩ ⟨Nat.le_refl 0, Nat.le_refl 0⟩ rfl hl.1 rfl (Nat.le_of_ble_eq_true rfl) rfl dX8_faultOfForm_50 (fun H locs hP hD hS => ?_)
        refine lv_if_ne (tgt := 64) hx hb dX8_faultOfForm_53 (by decide) (fun c_10 => ?_) (fun c_10 => ?_)
        · have h := (if_neg c_10).symm.trans h
          refine lv_iinc (v := (x3 + 1)) (lv' := [(3, .int (x3 + 1)), (0, .ref a_t), (1, .int x1), (2, .int x2)]) hx hb dX8_faultOfForm_64 hl (k := 3) rfl rfl (by decide) rfl (fun ls hl => ?_)
          refine lv_goto (tgt := 31) hx hb dX8_faultOfForm_67 (by decide) ?_
          exact ih x1 x2 (x3 + 1) _ h _ _ _ hP hD hS (lv_sub hl [1, 2, 3, 0] rfl)
        · have h := (if_pos c_10).symm.trans h
          refine lv_sipush (v := (-1000)) hx hb dX8_faultOfForm_56 (by decide) ?_
          refine lv_iload_n hx hb dX8_faultOfForm_59 rfl (lv_at hl 1 rfl) ?_
          refine lv_iload_n hx hb dX8_faultOfForm_60 rfl (lv_at hl 3 rfl) ?_
          refine lv_iadd hx hb dX8_faultOfForm_61 ?_
          refine lv_isub hx hb dX8_faultOfForm_62 ?_
          obtain rfl := Option.some.inj h
          exact xk_iret hx hb hr hlk hP hD hS (hQ _) dX8_faultOfForm_63
  have J_2 : ∀ (n : Nat) (x1 : Int32) (res : Int32), f_X8_faultOfForm_2 F v_t_letters v_t_size n x1 = some res → ∀ (H : Heap) (locs : List Loc) (ls : Array Slot), va_P D vwCl (wX8 cA a_t a_t_letters v_t_letters v_t_size) H → va_D A (wX8 cA a_t a_t_letters v_t_letters v_t_size) → va_S A s.heap H locs → lv_has ls 4 [(0, .ref a_t), (1, .int x1)] → W p l e { frames := 10, cells := 0, slots := 0, locals := 343 } s m args below meth c H locs 0 0 (Q res) (F0 m 2 ls []) := by
    intro n
    induction n with
    | zero => intro x1 res h; exact nomatch (show (none : Option (Int32)) = some res from h)
    | succ n ih =>
      intro x1 res h H locs ls hP hD hS hl
      rw [f_X8_faultOfForm_2] at h
      refine lv_iload_n hx hb dX8_faultOfForm_2 rfl (lv_at hl 1 rfl) ?_
      refine lv_aload_n hx hb dX8_faultOfForm_3 rfl (lv_at hl 0 rfl) ?_
      refine va_get (ci := 3) (v := .int v_t_size) (C := RX8) (T := TX8) (N := 2) hx hb hts hinX8 hown hK.1 hP 0 rfl rfl 1 (by decide) k_0 (fun _ h9 => h9) rfl dX8_faultOfForm_4 ?_
      refine lv_icmp_ge (tgt := 77) hx hb dX8_faultOfForm_7 (by decide) (fun c_1 => ?_) (fun c_1 => ?_)
      · have h := (if_pos c_1).symm.trans h
        refine lv_aload_n hx hb dX8_faultOfForm_77 rfl (lv_at hl 0 rfl) ?_
        refine va_get (ci := 3) (v := .int v_t_size) (C := RX8) (T := TX8) (N := 2) hx hb hts hinX8 hown hK.1 hP 0 rfl rfl 1 (by decide) k_0 (fun _ h9 => h9) rfl dX8_faultOfForm_78 ?_
        refine lv_if_ne (tgt := 90) hx hb dX8_faultOfForm_81 (by decide) (fun c_2 => ?_) (fun c_2 => ?_)
        · have h := (if_neg c_2).symm.trans h
          refine lv_iconst (v := 0) hx hb dX8_faultOfForm_90 (by decide) ?_
          obtain rfl := Option.some.inj h
          exact xk_iret hx hb hr hlk hP hD hS (hQ _) dX8_faultOfForm_91
        · have h := (if_pos c_2).symm.trans h
          refine lv_sipush (v := (-1000)) hx hb dX8_faultOfForm_84 (by decide) ?_
          refine lv_goto (tgt := 91) hx hb dX8_faultOfForm_87 (by decide) ?_
          obtain rfl := Option.some.inj h
          exact xk_iret hx hb hr hlk hP hD hS (hQ _) dX8_faultOfForm_91
      · have h := (if_neg c_1).symm.trans h
        refine lv_aload_n hx hb dX8_faultOfForm_10 rfl (lv_at hl 0 rfl) ?_
        refine lv_iload_n hx hb dX8_faultOfForm_11 rfl (lv_at hl 1 rfl) ?_
        obtain ⟨x_3, hc_3, h⟩ := bd_some h
        refine xk_V (rest := []) (As := [.int x1]) (stk := [.int x_3]) (wn := (wX8 cA a_t a_t_letters v_t_letters v_t_size)) (v := (some (.int x_3))) (wr := []) gX8_faultOfForm_X8_at rfl hdV_X8_at rfl rfl (c_X8_at l D cA sa sv a_t a_t_letters _ v_t_letters v_t_size x1 x_3 hc_3) (ci := 3) rfl (q0 := 0) rfl S hK hP hD hS hA [0, 1] [] [0, 1] rfl rfl rfl rfl rfl rfl rfl ⟨Nat.le_of_ble_eq_true rfl, Nat.le_of_ble_eq_true rfl⟩ ⟨Nat.le_refl 0, Nat.le_refl 0⟩ rfl hl.1 rfl (Nat.le_of_ble_eq_true rfl) rfl dX8_faultOfForm_12 (fun H locs hP hD hS => ?_)
        obtain ⟨x_4, hc_4, h⟩ := bd_some h
        refine xk_S (rest := []) (As := [.int x_3]) (stk := [.int x_4]) (wn := (wX8 cA a_t a_t_letters v_t_letters v_t_size)) (v := (some (.int x_4))) (wr := [(a_t, .inr (3, [.ref a_t_letters, .int v_t_size])), (a_t_letters, .inl (cA, 96, .inl v_t_letters))]) gX8_faultOfForm_X8_lengthBy rfl hdS_X8_lengthBy rfl rfl (c_X8_lengthBy l D cA sa sv _ x_3 x_4 hc_4) S hK hP hD hS hA [] [0, 1] [0, 1] rfl rfl rfl rfl rfl rfl rfl ⟨Nat.le_of_ble_eq_true rfl, Nat.le_of_ble_eq_true rfl⟩ ⟨Nat.le_refl 0, Nat.le_refl 0⟩ rfl hl.1 rfl (Nat.le_of_ble_eq_true rfl) rfl dX8_faultOfForm_15 (fun H locs hP hD hS => ?_)
        refine lv_istore_n (lv' := [(2, .int x_4), (0, .ref a_t), (1, .int x1)]) hx hb dX8_faultOfForm_18 rfl hl (by decide) rfl (fun ls hl => ?_)
        refine lv_iload_n hx hb dX8_faultOfForm_19 rfl (lv_at hl 0 rfl) ?_
        refine lv_if_ne (tgt := 29) hx hb dX8_faultOfForm_20 (by decide) (fun c_5 => ?_) (fun c_5 => ?_)
        · have h := (if_neg c_5).symm.trans h
          refine lv_iconst (v := 1) hx hb dX8_faultOfForm_29 (by decide) ?_
          refine lv_istore_n (lv' := [(3, .int 1), (2, .int x_4), (0, .ref a_t), (1, .int x1)]) hx hb dX8_faultOfForm_30 rfl hl (by decide) rfl (fun ls hl => ?_)
          exact J_31 (f_X8_faultOfForm_2 F v_t_letters v_t_size n) ih F x1 x_4 1 _ h _ _ _ hP hD hS (lv_sub hl [2, 3, 1, 0] rfl)
        · have h := (if_pos c_5).symm.trans h
          refine lv_sipush (v := (-1000)) hx hb dX8_faultOfForm_23 (by decide) ?_
          refine lv_iload_n hx hb dX8_faultOfForm_26 rfl (lv_at hl 2 rfl) ?_
          refine lv_isub hx hb dX8_faultOfForm_27 ?_
          obtain rfl := Option.some.inj h
          exact xk_iret hx hb hr hlk hP hD hS (hQ _) dX8_faultOfForm_28
  unfold f_X8_faultOfForm at h
  refine lv_iconst (v := 0) hx hb dX8_faultOfForm_0 (by decide) ?_
  refine lv_istore_n (lv' := [(1, .int 0), (0, .ref a_t)]) hx hb dX8_faultOfForm_1 rfl hl (by decide) rfl (fun ls hl => ?_)
  exact J_2 F 0 _ h _ _ _ hP hD hS (lv_sub hl [1, 0] rfl)
set_option maxHeartbeats 4000000 in
set_option maxRecDepth 100000 in
theorem c_X8_comes (l : Launch) (D : va_G) (cA : ClassId) (sa sv : Nat → Nat) (a_t a_t_letters a_o2 a_o2_kinds a_o2_figures a_o2_causeBits : Nat) (sz : Nat) (v_t_letters : Nat → Int32) (v_t_size : Int32) (v_o2_kinds : Nat → Int32) (v_o2_figures : Nat → Int32) (v_o2_causeBits : Nat → Int32) (v_o2_size : Int32) (v_o2_lost : Int32) (v_o2_guarded : Int32) (v_o2_day : Int32) (p1 : Int32) (F : Nat) (res : Int32 × (Nat → Int32) × (Nat → Int32) × (Nat → Int32) × Int32 × Int32 × Int32 × Int32) (h : f_X8_comes F v_t_letters v_t_size v_o2_kinds v_o2_figures v_o2_causeBits v_o2_size v_o2_lost v_o2_guarded v_o2_day p1 = some res) : Met l yX8_comes wsX8_comes { frames := 9, cells := 0, slots := 0, locals := 320 } (xk_Pc D cA sa sv (wX8 cA a_t a_t_letters v_t_letters v_t_size ++ wX7 cA a_o2 a_o2_kinds a_o2_figures a_o2_causeBits v_o2_kinds v_o2_figures v_o2_causeBits v_o2_size v_o2_lost v_o2_guarded v_o2_day) sz [.ref a_t, .int p1, .ref a_o2]) (xk_Q D (va_A (wX8 cA a_t a_t_letters v_t_letters v_t_size ++ wX7 cA a_o2 a_o2_kinds a_o2_figures a_o2_causeBits v_o2_kinds v_o2_figures v_o2_causeBits v_o2_size v_o2_lost v_o2_guarded v_o2_day) sz) (some (.int res.1)) (wX8 cA a_t a_t_letters v_t_letters v_t_size ++ wX7 cA a_o2 a_o2_kinds a_o2_figures a_o2_causeBits res.2.1 res.2.2.1 res.2.2.2.1 res.2.2.2.2.1 res.2.2.2.2.2.1 res.2.2.2.2.2.2.1 res.2.2.2.2.2.2.2)) 0 0 (va_A (wX8 cA a_t a_t_letters v_t_letters v_t_size ++ wX7 cA a_o2 a_o2_kinds a_o2_figures a_o2_causeBits v_o2_kinds v_o2_figures v_o2_causeBits v_o2_size v_o2_lost v_o2_guarded v_o2_day) sz) := by
  refine xk_met (fun res : Int32 × (Nat → Int32) × (Nat → Int32) × (Nat → Int32) × Int32 × Int32 × Int32 × Int32 => some (.int res.1)) (fun res : Int32 × (Nat → Int32) × (Nat → Int32) × (Nat → Int32) × Int32 × Int32 × Int32 × Int32 => (wX8 cA a_t a_t_letters v_t_letters v_t_size ++ wX7 cA a_o2 a_o2_kinds a_o2_figures a_o2_causeBits res.2.1 res.2.2.1 res.2.2.2.1 res.2.2.2.2.1 res.2.2.2.2.2.1 res.2.2.2.2.2.2.1 res.2.2.2.2.2.2.2)) res (cc := cX8_comes) (maxL := 5) (ret := (some .boolean)) (by decide) rfl (Nat.le_of_ble_eq_true rfl) ?_
  intro p e s m args below meth c A Q ls hQ hx hb hr hlk hml hown hts hK hP hD hS hA hl
  have S : CallFix p m c cX8_comes 5 s args wsX8_comes RX8 := ⟨hx, hb, hml, hown, hts⟩
  have hl : lv_has ls 5 [(0, .ref a_t), (1, .int p1), (2, .ref a_o2)] := hl
  unfold f_X8_comes at h
  refine lv_aload_n hx hb dX8_comes_0 rfl (lv_at hl 0 rfl) ?_
  refine lv_iload_n hx hb dX8_comes_1 rfl (lv_at hl 1 rfl) ?_
  refine lv_iconst (v := 1) hx hb dX8_comes_2 (by decide) ?_
  refine lv_iadd hx hb dX8_comes_3 ?_
  obtain ⟨x_1, hc_1, h⟩ := bd_some h
  refine xk_V (rest := []) (As := [.int (p1 + 1)]) (stk := [.int x_1]) (wn := (wX8 cA a_t a_t_letters v_t_letters v_t_size ++ wX7 cA a_o2 a_o2_kinds a_o2_figures a_o2_causeBits v_o2_kinds v_o2_figures v_o2_causeBits v_o2_size v_o2_lost v_o2_guarded v_o2_day)) (v := (some (.int x_1))) (wr := [(a_o2, .inr (2, [.ref a_o2_kinds, .ref a_o2_figures, .ref a_o2_causeBits, .int v_o2_size, .int v_o2_lost, .int v_o2_guarded, .int v_o2_day])), (a_o2_kinds, .inl (cA, 9, .inl v_o2_kinds)), (a_o2_figures, .inl (cA, 9, .inl v_o2_figures)), (a_o2_causeBits, .inl (cA, 9, .inl v_o2_causeBits))]) gX8_comes_X8_at rfl hdV_X8_at rfl rfl (c_X8_at l D cA sa sv a_t a_t_letters _ v_t_letters v_t_size (p1 + 1) x_1 hc_1) (ci := 3) rfl (q0 := 0) rfl S hK hP hD hS hA [0, 1] [2, 3, 4, 5] [4, 5, 0, 1, 2, 3] rfl rfl rfl rfl rfl rfl rfl ⟨Nat.le_of_ble_eq_true rfl, Nat.le_of_ble_eq_true rfl⟩ ⟨Nat.le_refl 0, Nat.le_refl 0⟩ rfl hl.1 rfl (Nat.le_of_ble_eq_true rfl) rfl dX8_comes_4 (fun H locs hP hD hS => ?_)
  refine lv_bipush (v := 48) hx hb dX8_comes_7 (by decide) ?_
  refine lv_isub hx hb dX8_comes_9 ?_
  refine lv_istore_n (lv' := [(3, .int (x_1 - 48)), (0, .ref a_t), (1, .int p1), (2, .ref a_o2)]) hx hb dX8_comes_10 rfl hl (by decide) rfl (fun ls hl => ?_)
  refine lv_aload_n hx hb dX8_comes_11 rfl (lv_at hl 1 rfl) ?_
  refine lv_iload_n hx hb dX8_comes_12 rfl (lv_at hl 2 rfl) ?_
  refine lv_iconst (v := 2) hx hb dX8_comes_13 (by decide) ?_
  refine lv_iadd hx hb dX8_comes_14 ?_
  obtain ⟨x_2, hc_2, h⟩ := bd_some h
  refine xk_V (rest := []) (As := [.int (p1 + 2)]) (stk := [.int x_2]) (wn := (wX8 cA a_t a_t_letters v_t_letters v_t_size ++ wX7 cA a_o2 a_o2_kinds a_o2_figures a_o2_causeBits v_o2_kinds v_o2_figures v_o2_causeBits v_o2_size v_o2_lost v_o2_guarded v_o2_day)) (v := (some (.int x_2))) (wr := [(a_o2, .inr (2, [.ref a_o2_kinds, .ref a_o2_figures, .ref a_o2_causeBits, .int v_o2_size, .int v_o2_lost, .int v_o2_guarded, .int v_o2_day])), (a_o2_kinds, .inl (cA, 9, .inl v_o2_kinds)), (a_o2_figures, .inl (cA, 9, .inl v_o2_figures)), (a_o2_causeBits, .inl (cA, 9, .inl v_o2_causeBits))]) gX8_comes_X8_at rfl hdV_X8_at rfl rfl (c_X8_at l D cA sa sv a_t a_t_letters _ v_t_letters v_t_size (p1 + 2) x_2 hc_2) (ci := 3) rfl (q0 := 0) rfl S hK hP hD hS hA [0, 1] [2, 3, 4, 5] [4, 5, 0, 1, 2, 3] rfl rfl rfl rfl rfl rfl rfl ⟨Nat.le_of_ble_eq_true rfl, Nat.le_of_ble_eq_true rfl⟩ ⟨Nat.le_refl 0, Nat.le_refl 0⟩ rfl hl.1 rfl (Nat.le_of_ble_eq_true rfl) rfl dX8_comes_15 (fun H locs hP hD hS => ?_)
  refine lv_bipush (v := 48) hx hb dX8_comes_18 (by decide) ?_
  refine lv_isub hx hb dX8_comes_20 ?_
  refine lv_istore (lv' := [(4, .int (x_2 - 48)), (3, .int (x_1 - 48)), (0, .ref a_t), (1, .int p1), (2, .ref a_o2)]) hx hb dX8_comes_21 hl (by decide) rfl (fun ls hl => ?_)
  refine lv_aload_n hx hb dX8_comes_23 rfl (lv_at hl 2 rfl) ?_
  refine lv_iload_n hx hb dX8_comes_24 rfl (lv_at hl 3 rfl) ?_
  obtain ⟨x_3, hc_3, h⟩ := bd_some h
  refine xk_V (rest := []) (As := [.int p1]) (stk := [.int x_3]) (wn := (wX8 cA a_t a_t_letters v_t_letters v_t_size ++ wX7 cA a_o2 a_o2_kinds a_o2_figures a_o2_causeBits v_o2_kinds v_o2_figures v_o2_causeBits v_o2_size v_o2_lost v_o2_guarded v_o2_day)) (v := (some (.int x_3))) (wr := [(a_o2, .inr (2, [.ref a_o2_kinds, .ref a_o2_figures, .ref a_o2_causeBits, .int v_o2_size, .int v_o2_lost, .int v_o2_guarded, .int v_o2_day])), (a_o2_kinds, .inl (cA, 9, .inl v_o2_kinds)), (a_o2_figures, .inl (cA, 9, .inl v_o2_figures)), (a_o2_causeBits, .inl (cA, 9, .inl v_o2_causeBits))]) gX8_comes_X8_at rfl hdV_X8_at rfl rfl (c_X8_at l D cA sa sv a_t a_t_letters _ v_t_letters v_t_size p1 x_3 hc_3) (ci := 3) rfl (q0 := 0) rfl S hK hP hD hS hA [0, 1] [2, 3, 4, 5] [4, 5, 0, 1, 2, 3] rfl rfl rfl rfl rfl rfl rfl ⟨Nat.le_of_ble_eq_true rfl, Nat.le_of_ble_eq_true rfl⟩ ⟨Nat.le_refl 0, Nat.le_refl 0⟩ rfl hl.1 rfl (Nat.le_of_ble_eq_true rfl) rfl dX8_comes_25 (fun H locs hP hD hS => ?_)
  by_cases c_4 : x_3 = 99
  · have h := (if_pos c_4).symm.trans h
    refine lv_tableIn (tgt := 133) (off := 105) hx hb dX8_comes_28 (by rw [c_4]; decide) (by rw [c_4]; decide) (by rw [c_4]; rfl) (by decide) ?_
    refine lv_aload_n hx hb dX8_comes_133 rfl (lv_at hl 4 rfl) ?_
    refine lv_iload_n hx hb dX8_comes_134 rfl (lv_at hl 1 rfl) ?_
    refine lv_iload hx hb dX8_comes_135 (lv_at hl 0 rfl) ?_
    obtain ⟨x_5, hc_5, h⟩ := bd_some h
    refine xk_V (rest := []) (As := [.int (x_1 - 48), .int (x_2 - 48)]) (stk := [.int x_5.1]) (wn := (wX8 cA a_t a_t_letters v_t_letters v_t_size ++ wX7 cA a_o2 a_o2_kinds a_o2_figures a_o2_causeBits v_o2_kinds v_o2_figures x_5.2 v_o2_size v_o2_lost v_o2_guarded v_o2_day)) (v := (some (.int x_5.1))) (wr := [(a_t, .inr (3, [.ref a_t_letters, .int v_t_size])), (a_t_letters, .inl (cA, 96, .inl v_t_letters))]) gX8_comes_X7_flipCause rfl hdV_X7_flipCause rfl rfl (c_X7_flipCause l D cA sa sv a_o2 a_o2_kinds a_o2_figures a_o2_causeBits _ v_o2_kinds v_o2_figures v_o2_causeBits v_o2_size v_o2_lost v_o2_guarded v_o2_day (x_1 - 48) (x_2 - 48) x_5 hc_5) (ci := 2) rfl (q0 := 0) rfl S hK hP hD hS hA [2, 3, 4, 5] [0, 1] [0, 1, 2, 3, 4, 5] rfl rfl rfl rfl rfl rfl rfl ⟨Nat.le_of_ble_eq_true rfl, Nat.le_of_ble_eq_true rfl⟩ ⟨Nat.le_refl 0, Nat.le_refl 0⟩ rfl hl.1 rfl (Nat.le_of_ble_eq_true rfl) rfl dX8_comes_137 (fun H locs hP hD hS => ?_)
    obtain ⟨z_6, h⟩ := xz_some h
    obtain rfl := Option.some.inj h
    exact xk_zret (xk_bool z_6).1 hx hb hr hlk hP hD hS (hQ _) dX8_comes_140
  have h := (if_neg c_4).symm.trans h
  by_cases c_7 : x_3 = 100
  · have h := (if_pos c_7).symm.trans h
    refine lv_tableIn (tgt := 159) (off := 131) hx hb dX8_comes_28 (by rw [c_7]; decide) (by rw [c_7]; decide) (by rw [c_7]; rfl) (by decide) ?_
    refine lv_aload_n hx hb dX8_comes_159 rfl (lv_at hl 4 rfl) ?_
    refine lv_bipush (v := 10) hx hb dX8_comes_160 (by decide) ?_
    refine lv_iload_n hx hb dX8_comes_162 rfl (lv_at hl 1 rfl) ?_
    refine lv_imul hx hb dX8_comes_163 ?_
    refine lv_iload hx hb dX8_comes_164 (lv_at hl 0 rfl) ?_
    refine lv_iadd hx hb dX8_comes_166 ?_
    obtain ⟨x_8, hc_8, h⟩ := bd_some h
    refine xk_V (rest := []) (As := [.int ((10 * (x_1 - 48)) + (x_2 - 48))]) (stk := [.int x_8.1]) (wn := (wX8 cA a_t a_t_letters v_t_letters v_t_size ++ wX7 cA a_o2 a_o2_kinds a_o2_figures a_o2_causeBits v_o2_kinds v_o2_figures v_o2_causeBits v_o2_size x_8.2.1 v_o2_guarded x_8.2.2)) (v := (some (.int x_8.1))) (wr := [(a_t, .inr (3, [.ref a_t_letters, .int v_t_size])), (a_t_letters, .inl (cA, 96, .inl v_t_letters))]) gX8_comes_X7_passDays rfl hdV_X7_passDays rfl rfl (c_X7_passDays l D cA sa sv a_o2 a_o2_kinds a_o2_figures a_o2_causeBits _ v_o2_kinds v_o2_figures v_o2_causeBits v_o2_size v_o2_lost v_o2_guarded v_o2_day ((10 * (x_1 - 48)) + (x_2 - 48)) F x_8 hc_8) (ci := 2) rfl (q0 := 0) rfl S hK hP hD hS hA [2, 3, 4, 5] [0, 1] [0, 1, 2, 3, 4, 5] rfl rfl rfl rfl rfl rfl rfl ⟨Nat.le_of_ble_eq_true rfl, Nat.le_of_ble_eq_true rfl⟩ ⟨Nat.le_refl 0, Nat.le_refl 0⟩ rfl hl.1 rfl (Nat.le_of_ble_eq_true rfl) rfl dX8_comes_167 (fun H locs hP hD hS => ?_)
    obtain ⟨z_9, h⟩ := xz_some h
    obtain rfl := Option.some.inj h
    exact xk_zret (xk_bool z_9).1 hx hb hr hlk hP hD hS (hQ _) dX8_comes_170
  have h := (if_neg c_7).symm.trans h
  by_cases c_10 : x_3 = 101
  · have h := (if_pos c_10).symm.trans h
    refine lv_tableIn (tgt := 171) (off := 143) hx hb dX8_comes_28 (by rw [c_10]; decide) (by rw [c_10]; decide) (by rw [c_10]; rfl) (by decide) ?_
    refine lv_iconst (v := 0) hx hb dX8_comes_171 (by decide) ?_
    obtain rfl := Option.some.inj h
    exact xk_zret rfl hx hb hr hlk hP hD hS (hQ _) dX8_comes_172
  have h := (if_neg c_10).symm.trans h
  by_cases c_11 : x_3 = 102
  · have h := (if_pos c_11).symm.trans h
    refine lv_tableIn (tgt := 171) (off := 143) hx hb dX8_comes_28 (by rw [c_11]; decide) (by rw [c_11]; decide) (by rw [c_11]; rfl) (by decide) ?_
    refine lv_iconst (v := 0) hx hb dX8_comes_171 (by decide) ?_
    obtain rfl := Option.some.inj h
    exact xk_zret rfl hx hb hr hlk hP hD hS (hQ _) dX8_comes_172
  have h := (if_neg c_11).symm.trans h
  by_cases c_12 : x_3 = 103
  · have h := (if_pos c_12).symm.trans h
    refine lv_tableIn (tgt := 153) (off := 125) hx hb dX8_comes_28 (by rw [c_12]; decide) (by rw [c_12]; decide) (by rw [c_12]; rfl) (by decide) ?_
    refine lv_aload_n hx hb dX8_comes_153 rfl (lv_at hl 4 rfl) ?_
    refine lv_iload_n hx hb dX8_comes_154 rfl (lv_at hl 1 rfl) ?_
    obtain ⟨x_13, hc_13, h⟩ := bd_some h
    refine xk_V (rest := []) (As := [.int (x_1 - 48)]) (stk := [.int x_13.1]) (wn := (wX8 cA a_t a_t_letters v_t_letters v_t_size ++ wX7 cA a_o2 a_o2_kinds a_o2_figures a_o2_causeBits v_o2_kinds v_o2_figures v_o2_causeBits v_o2_size v_o2_lost x_13.2 v_o2_day)) (v := (some (.int x_13.1))) (wr := [(a_t, .inr (3, [.ref a_t_letters, .int v_t_size])), (a_t_letters, .inl (cA, 96, .inl v_t_letters))]) gX8_comes_X7_flipGuard rfl hdV_X7_flipGuard rfl rfl (c_X7_flipGuard l D cA sa sv a_o2 a_o2_kinds a_o2_figures a_o2_causeBits _ v_o2_kinds v_o2_figures v_o2_causeBits v_o2_size v_o2_lost v_o2_guarded v_o2_day (x_1 - 48) x_13 hc_13) (ci := 2) rfl (q0 := 0) rfl S hK hP hD hS hA [2, 3, 4, 5] [0, 1] [0, 1, 2, 3, 4, 5] rfl rfl rfl rfl rfl rfl rfl ⟨Nat.le_of_ble_eq_true rfl, Nat.le_of_ble_eq_true rfl⟩ ⟨Nat.le_refl 0, Nat.le_refl 0⟩ rfl hl.1 rfl (Nat.le_of_ble_eq_true rfl) rfl dX8_comes_155 (fun H locs hP hD hS => ?_)
    obtain ⟨z_14, h⟩ := xz_some h
    obtain rfl := Option.some.inj h
    exact xk_zret (xk_bool z_14).1 hx hb hr hlk hP hD hS (hQ _) dX8_comes_158
  have h := (if_neg c_12).symm.trans h
  by_cases c_15 : x_3 = 104
  · have h := (if_pos c_15).symm.trans h
    refine lv_tableIn (tgt := 171) (off := 143) hx hb dX8_comes_28 (by rw [c_15]; decide) (by rw [c_15]; decide) (by rw [c_15]; rfl) (by decide) ?_
    refine lv_iconst (v := 0) hx hb dX8_comes_171 (by decide) ?_
    obtain rfl := Option.some.inj h
    exact xk_zret rfl hx hb hr hlk hP hD hS (hQ _) dX8_comes_172
  have h := (if_neg c_15).symm.trans h
  by_cases c_16 : x_3 = 105
  · have h := (if_pos c_16).symm.trans h
    refine lv_tableIn (tgt := 171) (off := 143) hx hb dX8_comes_28 (by rw [c_16]; decide) (by rw [c_16]; decide) (by rw [c_16]; rfl) (by decide) ?_
    refine lv_iconst (v := 0) hx hb dX8_comes_171 (by decide) ?_
    obtain rfl := Option.some.inj h
    exact xk_zret rfl hx hb hr hlk hP hD hS (hQ _) dX8_comes_172
  have h := (if_neg c_16).symm.trans h
  by_cases c_17 : x_3 = 106
  · have h := (if_pos c_17).symm.trans h
    refine lv_tableIn (tgt := 171) (off := 143) hx hb dX8_comes_28 (by rw [c_17]; decide) (by rw [c_17]; decide) (by rw [c_17]; rfl) (by decide) ?_
    refine lv_iconst (v := 0) hx hb dX8_comes_171 (by decide) ?_
    obtain rfl := Option.some.inj h
    exact xk_zret rfl hx hb hr hlk hP hD hS (hQ _) dX8_comes_172
  have h := (if_neg c_17).symm.trans h
  by_cases c_18 : x_3 = 107
  · have h := (if_pos c_18).symm.trans h
    refine lv_tableIn (tgt := 171) (off := 143) hx hb dX8_comes_28 (by rw [c_18]; decide) (by rw [c_18]; decide) (by rw [c_18]; rfl) (by decide) ?_
    refine lv_iconst (v := 0) hx hb dX8_comes_171 (by decide) ?_
    obtain rfl := Option.some.inj h
    exact xk_zret rfl hx hb hr hlk hP hD hS (hQ _) dX8_comes_172
  have h := (if_neg c_18).symm.trans h
  by_cases c_19 : x_3 = 108
  · have h := (if_pos c_19).symm.trans h
    refine lv_tableIn (tgt := 141) (off := 113) hx hb dX8_comes_28 (by rw [c_19]; decide) (by rw [c_19]; decide) (by rw [c_19]; rfl) (by decide) ?_
    refine lv_aload_n hx hb dX8_comes_141 rfl (lv_at hl 4 rfl) ?_
    refine lv_iload_n hx hb dX8_comes_142 rfl (lv_at hl 1 rfl) ?_
    obtain ⟨x_20, hc_20, h⟩ := bd_some h
    refine xk_V (rest := []) (As := [.int (x_1 - 48)]) (stk := [.int x_20.1]) (wn := (wX8 cA a_t a_t_letters v_t_letters v_t_size ++ wX7 cA a_o2 a_o2_kinds a_o2_figures a_o2_causeBits v_o2_kinds v_o2_figures v_o2_causeBits v_o2_size x_20.2 v_o2_guarded v_o2_day)) (v := (some (.int x_20.1))) (wr := [(a_t, .inr (3, [.ref a_t_letters, .int v_t_size])), (a_t_letters, .inl (cA, 96, .inl v_t_letters))]) gX8_comes_X7_lose rfl hdV_X7_lose rfl rfl (c_X7_lose l D cA sa sv a_o2 a_o2_kinds a_o2_figures a_o2_causeBits _ v_o2_kinds v_o2_figures v_o2_causeBits v_o2_size v_o2_lost v_o2_guarded v_o2_day (x_1 - 48) x_20 hc_20) (ci := 2) rfl (q0 := 0) rfl S hK hP hD hS hA [2, 3, 4, 5] [0, 1] [0, 1, 2, 3, 4, 5] rfl rfl rfl rfl rfl rfl rfl ⟨Nat.le_of_ble_eq_true rfl, Nat.le_of_ble_eq_true rfl⟩ ⟨Nat.le_refl 0, Nat.le_refl 0⟩ rfl hl.1 rfl (Nat.le_of_ble_eq_true rfl) rfl dX8_comes_143 (fun H locs hP hD hS => ?_)
    obtain ⟨z_21, h⟩ := xz_some h
    obtain rfl := Option.some.inj h
    exact xk_zret (xk_bool z_21).1 hx hb hr hlk hP hD hS (hQ _) dX8_comes_146
  have h := (if_neg c_19).symm.trans h
  by_cases c_22 : x_3 = 109
  · have h := (if_pos c_22).symm.trans h
    refine lv_tableIn (tgt := 147) (off := 119) hx hb dX8_comes_28 (by rw [c_22]; decide) (by rw [c_22]; decide) (by rw [c_22]; rfl) (by decide) ?_
    refine lv_aload_n hx hb dX8_comes_147 rfl (lv_at hl 4 rfl) ?_
    refine lv_iload_n hx hb dX8_comes_148 rfl (lv_at hl 1 rfl) ?_
    obtain ⟨x_23, hc_23, h⟩ := bd_some h
    refine xk_V (rest := []) (As := [.int (x_1 - 48)]) (stk := [.int x_23.1]) (wn := (wX8 cA a_t a_t_letters v_t_letters v_t_size ++ wX7 cA a_o2 a_o2_kinds a_o2_figures a_o2_causeBits v_o2_kinds v_o2_figures v_o2_causeBits v_o2_size x_23.2 v_o2_guarded v_o2_day)) (v := (some (.int x_23.1))) (wr := [(a_t, .inr (3, [.ref a_t_letters, .int v_t_size])), (a_t_letters, .inl (cA, 96, .inl v_t_letters))]) gX8_comes_X7_mend rfl hdV_X7_mend rfl rfl (c_X7_mend l D cA sa sv a_o2 a_o2_kinds a_o2_figures a_o2_causeBits _ v_o2_kinds v_o2_figures v_o2_causeBits v_o2_size v_o2_lost v_o2_guarded v_o2_day (x_1 - 48) x_23 hc_23) (ci := 2) rfl (q0 := 0) rfl S hK hP hD hS hA [2, 3, 4, 5] [0, 1] [0, 1, 2, 3, 4, 5] rfl rfl rfl rfl rfl rfl rfl ⟨Nat.le_of_ble_eq_true rfl, Nat.le_of_ble_eq_true rfl⟩ ⟨Nat.le_refl 0, Nat.le_refl 0⟩ rfl hl.1 rfl (Nat.le_of_ble_eq_true rfl) rfl dX8_comes_149 (fun H locs hP hD hS => ?_)
    obtain ⟨z_24, h⟩ := xz_some h
    obtain rfl := Option.some.inj h
    exact xk_zret (xk_bool z_24).1 hx hb hr hlk hP hD hS (hQ _) dX8_comes_152
  have h := (if_neg c_22).symm.trans h
  by_cases c_25 : x_3 = 110
  · have h := (if_pos c_25).symm.trans h
    refine lv_tableIn (tgt := 171) (off := 143) hx hb dX8_comes_28 (by rw [c_25]; decide) (by rw [c_25]; decide) (by rw [c_25]; rfl) (by decide) ?_
    refine lv_iconst (v := 0) hx hb dX8_comes_171 (by decide) ?_
    obtain rfl := Option.some.inj h
    exact xk_zret rfl hx hb hr hlk hP hD hS (hQ _) dX8_comes_172
  have h := (if_neg c_25).symm.trans h
  by_cases c_26 : x_3 = 111
  · have h := (if_pos c_26).symm.trans h
    refine lv_tableIn (tgt := 171) (off := 143) hx hb dX8_comes_28 (by rw [c_26]; decide) (by rw [c_26]; decide) (by rw [c_26]; rfl) (by decide) ?_
    refine lv_iconst (v := 0) hx hb dX8_comes_171 (by decide) ?_
    obtain rfl := Option.some.inj h
    exact xk_zret rfl hx hb hr hlk hP hD hS (hQ _) dX8_comes_172
  have h := (if_neg c_26).symm.trans h
  by_cases c_27 : x_3 = 112
  · have h := (if_pos c_27).symm.trans h
    refine lv_tableIn (tgt := 171) (off := 143) hx hb dX8_comes_28 (by rw [c_27]; decide) (by rw [c_27]; decide) (by rw [c_27]; rfl) (by decide) ?_
    refine lv_iconst (v := 0) hx hb dX8_comes_171 (by decide) ?_
    obtain rfl := Option.some.inj h
    exact xk_zret rfl hx hb hr hlk hP hD hS (hQ _) dX8_comes_172
  have h := (if_neg c_27).symm.trans h
  by_cases c_28 : x_3 = 113
  · have h := (if_pos c_28).symm.trans h
    refine lv_tableIn (tgt := 171) (off := 143) hx hb dX8_comes_28 (by rw [c_28]; decide) (by rw [c_28]; decide) (by rw [c_28]; rfl) (by decide) ?_
    refine lv_iconst (v := 0) hx hb dX8_comes_171 (by decide) ?_
    obtain rfl := Option.some.inj h
    exact xk_zret rfl hx hb hr hlk hP hD hS (hQ _) dX8_comes_172
  have h := (if_neg c_28).symm.trans h
  by_cases c_29 : x_3 = 114
  · have h := (if_pos c_29).symm.trans h
    refine lv_tableIn (tgt := 171) (off := 143) hx hb dX8_comes_28 (by rw [c_29]; decide) (by rw [c_29]; decide) (by rw [c_29]; rfl) (by decide) ?_
    refine lv_iconst (v := 0) hx hb dX8_comes_171 (by decide) ?_
    obtain rfl := Option.some.inj h
    exact xk_zret rfl hx hb hr hlk hP hD hS (hQ _) dX8_comes_172
  have h := (if_neg c_29).symm.trans h
  by_cases c_30 : x_3 = 115
  · have h := (if_pos c_30).symm.trans h
    refine lv_tableIn (tgt := 171) (off := 143) hx hb dX8_comes_28 (by rw [c_30]; decide) (by rw [c_30]; decide) (by rw [c_30]; rfl) (by decide) ?_
    refine lv_iconst (v := 0) hx hb dX8_comes_171 (by decide) ?_
    obtain rfl := Option.some.inj h
    exact xk_zret rfl hx hb hr hlk hP hD hS (hQ _) dX8_comes_172
  have h := (if_neg c_30).symm.trans h
  by_cases c_31 : x_3 = 116
  · have h := (if_pos c_31).symm.trans h
    refine lv_tableIn (tgt := 116) (off := 88) hx hb dX8_comes_28 (by rw [c_31]; decide) (by rw [c_31]; decide) (by rw [c_31]; rfl) (by decide) ?_
    refine lv_aload_n hx hb dX8_comes_116 rfl (lv_at hl 4 rfl) ?_
    refine lv_aload_n hx hb dX8_comes_117 rfl (lv_at hl 2 rfl) ?_
    refine lv_iload_n hx hb dX8_comes_118 rfl (lv_at hl 3 rfl) ?_
    refine lv_iconst (v := 1) hx hb dX8_comes_119 (by decide) ?_
    refine lv_iadd hx hb dX8_comes_120 ?_
    obtain ⟨x_32, hc_32, h⟩ := bd_some h
    refine xk_V (rest := [.ref a_o2]) (As := [.int (p1 + 1)]) (stk := [.int x_32, .ref a_o2]) (wn := (wX8 cA a_t a_t_letters v_t_letters v_t_size ++ wX7 cA a_o2 a_o2_kinds a_o2_figures a_o2_causeBits v_o2_kinds v_o2_figures v_o2_causeBits v_o2_size v_o2_lost v_o2_guarded v_o2_day)) (v := (some (.int x_32))) (wr := [(a_o2, .inr (2, [.ref a_o2_kinds, .ref a_o2_figures, .ref a_o2_causeBits, .int v_o2_size, .int v_o2_lost, .int v_o2_guarded, .int v_o2_day])), (a_o2_kinds, .inl (cA, 9, .inl v_o2_kinds)), (a_o2_figures, .inl (cA, 9, .inl v_o2_figures)), (a_o2_causeBits, .inl (cA, 9, .inl v_o2_causeBits))]) gX8_comes_X8_at rfl hdV_X8_at rfl rfl (c_X8_at l D cA sa sv a_t a_t_letters _ v_t_letters v_t_size (p1 + 1) x_32 hc_32) (ci := 3) rfl (q0 := 0) rfl S hK hP hD hS hA [0, 1] [2, 3, 4, 5] [4, 5, 0, 1, 2, 3] rfl rfl rfl rfl rfl rfl rfl ⟨Nat.le_of_ble_eq_true rfl, Nat.le_of_ble_eq_true rfl⟩ ⟨Nat.le_refl 0, Nat.le_refl 0⟩ rfl hl.1 rfl (Nat.le_of_ble_eq_true rfl) rfl dX8_comes_121 (fun H locs hP hD hS => ?_)
    obtain ⟨x_33, hc_33, h⟩ := bd_some h
    refine xk_S (rest := [.ref a_o2]) (As := [.int x_32]) (stk := [.int x_33, .ref a_o2]) (wn := (wX8 cA a_t a_t_letters v_t_letters v_t_size ++ wX7 cA a_o2 a_o2_kinds a_o2_figures a_o2_causeBits v_o2_kinds v_o2_figures v_o2_causeBits v_o2_size v_o2_lost v_o2_guarded v_o2_day)) (v := (some (.int x_33))) (wr := [(a_t, .inr (3, [.ref a_t_letters, .int v_t_size])), (a_t_letters, .inl (cA, 96, .inl v_t_letters)), (a_o2, .inr (2, [.ref a_o2_kinds, .ref a_o2_figures, .ref a_o2_causeBits, .int v_o2_size, .int v_o2_lost, .int v_o2_guarded, .int v_o2_day])), (a_o2_kinds, .inl (cA, 9, .inl v_o2_kinds)), (a_o2_figures, .inl (cA, 9, .inl v_o2_figures)), (a_o2_causeBits, .inl (cA, 9, .inl v_o2_causeBits))]) gX8_comes_X8_kindBy rfl hdS_X8_kindBy rfl rfl (c_X8_kindBy l D cA sa sv _ x_32 x_33 hc_33) S hK hP hD hS hA [] [0, 1, 2, 3, 4, 5] [0, 1, 2, 3, 4, 5] rfl rfl rfl rfl rfl rfl rfl ⟨Nat.le_of_ble_eq_true rfl, Nat.le_of_ble_eq_true rfl⟩ ⟨Nat.le_refl 0, Nat.le_refl 0⟩ rfl hl.1 rfl (Nat.le_of_ble_eq_true rfl) rfl dX8_comes_124 (fun H locs hP hD hS => ?_)
    refine lv_iload hx hb dX8_comes_127 (lv_at hl 0 rfl) ?_
    obtain ⟨x_34, hc_34, h⟩ := bd_some h
    refine xk_V (rest := []) (As := [.int x_33, .int (x_2 - 48)]) (stk := [.int x_34.1]) (wn := (wX8 cA a_t a_t_letters v_t_letters v_t_size ++ wX7 cA a_o2 a_o2_kinds a_o2_figures a_o2_causeBits x_34.2.1 x_34.2.2.1 x_34.2.2.2.1 x_34.2.2.2.2 v_o2_lost v_o2_guarded v_o2_day)) (v := (some (.int x_34.1))) (wr := [(a_t, .inr (3, [.ref a_t_letters, .int v_t_size])), (a_t_letters, .inl (cA, 96, .inl v_t_letters))]) gX8_comes_X7_add rfl hdV_X7_add rfl rfl (c_X7_add l D cA sa sv a_o2 a_o2_kinds a_o2_figures a_o2_causeBits _ v_o2_kinds v_o2_figures v_o2_causeBits v_o2_size v_o2_lost v_o2_guarded v_o2_day x_33 (x_2 - 48) x_34 hc_34) (ci := 2) rfl (q0 := 0) rfl S hK hP hD hS hA [2, 3, 4, 5] [0, 1] [0, 1, 2, 3, 4, 5] rfl rfl rfl rfl rfl rfl rfl ⟨Nat.le_of_ble_eq_true rfl, Nat.le_of_ble_eq_true rfl⟩ ⟨Nat.le_refl 0, Nat.le_refl 0⟩ rfl hl.1 rfl (Nat.le_of_ble_eq_true rfl) rfl dX8_comes_129 (fun H locs hP hD hS => ?_)
    obtain ⟨z_35, h⟩ := xz_some h
    obtain rfl := Option.some.inj h
    exact xk_zret (xk_bool z_35).1 hx hb hr hlk hP hD hS (hQ _) dX8_comes_132
  have h := (if_neg c_31).symm.trans h
  have n_4 : ¬ Int32.toInt x_3 = (99 : Int) := lv_neT (k := 99) c_4 rfl
  have n_7 : ¬ Int32.toInt x_3 = (100 : Int) := lv_neT (k := 100) c_7 rfl
  have n_10 : ¬ Int32.toInt x_3 = (101 : Int) := lv_neT (k := 101) c_10 rfl
  have n_11 : ¬ Int32.toInt x_3 = (102 : Int) := lv_neT (k := 102) c_11 rfl
  have n_12 : ¬ Int32.toInt x_3 = (103 : Int) := lv_neT (k := 103) c_12 rfl
  have n_15 : ¬ Int32.toInt x_3 = (104 : Int) := lv_neT (k := 104) c_15 rfl
  have n_16 : ¬ Int32.toInt x_3 = (105 : Int) := lv_neT (k := 105) c_16 rfl
  have n_17 : ¬ Int32.toInt x_3 = (106 : Int) := lv_neT (k := 106) c_17 rfl
  have n_18 : ¬ Int32.toInt x_3 = (107 : Int) := lv_neT (k := 107) c_18 rfl
  have n_19 : ¬ Int32.toInt x_3 = (108 : Int) := lv_neT (k := 108) c_19 rfl
  have n_22 : ¬ Int32.toInt x_3 = (109 : Int) := lv_neT (k := 109) c_22 rfl
  have n_25 : ¬ Int32.toInt x_3 = (110 : Int) := lv_neT (k := 110) c_25 rfl
  have n_26 : ¬ Int32.toInt x_3 = (111 : Int) := lv_neT (k := 111) c_26 rfl
  have n_27 : ¬ Int32.toInt x_3 = (112 : Int) := lv_neT (k := 112) c_27 rfl
  have n_28 : ¬ Int32.toInt x_3 = (113 : Int) := lv_neT (k := 113) c_28 rfl
  have n_29 : ¬ Int32.toInt x_3 = (114 : Int) := lv_neT (k := 114) c_29 rfl
  have n_30 : ¬ Int32.toInt x_3 = (115 : Int) := lv_neT (k := 115) c_30 rfl
  have n_31 : ¬ Int32.toInt x_3 = (116 : Int) := lv_neT (k := 116) c_31 rfl
  refine lv_tableOut (tgt := 171) hx hb dX8_comes_28 (by omega) (by decide) ?_
  refine lv_iconst (v := 0) hx hb dX8_comes_171 (by decide) ?_
  obtain rfl := Option.some.inj h
  exact xk_zret rfl hx hb hr hlk hP hD hS (hQ _) dX8_comes_172
set_option maxHeartbeats 4000000 in
set_option maxRecDepth 100000 in
theorem c_X8_comeOver (l : Launch) (D : va_G) (cA : ClassId) (sa sv : Nat → Nat) (a_t a_t_letters a_o1 a_o1_kinds a_o1_figures a_o1_causeBits : Nat) (sz : Nat) (v_t_letters : Nat → Int32) (v_t_size : Int32) (v_o1_kinds : Nat → Int32) (v_o1_figures : Nat → Int32) (v_o1_causeBits : Nat → Int32) (v_o1_size : Int32) (v_o1_lost : Int32) (v_o1_guarded : Int32) (v_o1_day : Int32) (F : Nat) (res : Int32 × (Nat → Int32) × (Nat → Int32) × (Nat → Int32) × Int32 × Int32 × Int32 × Int32) (h : f_X8_comeOver F v_t_letters v_t_size v_o1_kinds v_o1_figures v_o1_causeBits v_o1_size v_o1_lost v_o1_guarded v_o1_day  = some res) : Met l yX8_comeOver wsX8_comeOver { frames := 10, cells := 0, slots := 0, locals := 344 } (xk_Pc D cA sa sv (wX8 cA a_t a_t_letters v_t_letters v_t_size ++ wX7 cA a_o1 a_o1_kinds a_o1_figures a_o1_causeBits v_o1_kinds v_o1_figures v_o1_causeBits v_o1_size v_o1_lost v_o1_guarded v_o1_day) sz [.ref a_t, .ref a_o1]) (xk_Q D (va_A (wX8 cA a_t a_t_letters v_t_letters v_t_size ++ wX7 cA a_o1 a_o1_kinds a_o1_figures a_o1_causeBits v_o1_kinds v_o1_figures v_o1_causeBits v_o1_size v_o1_lost v_o1_guarded v_o1_day) sz) (some (.int res.1)) (wX8 cA a_t a_t_letters v_t_letters v_t_size ++ wX7 cA a_o1 a_o1_kinds a_o1_figures a_o1_causeBits res.2.1 res.2.2.1 res.2.2.2.1 res.2.2.2.2.1 res.2.2.2.2.2.1 res.2.2.2.2.2.2.1 res.2.2.2.2.2.2.2)) 0 0 (va_A (wX8 cA a_t a_t_letters v_t_letters v_t_size ++ wX7 cA a_o1 a_o1_kinds a_o1_figures a_o1_causeBits v_o1_kinds v_o1_figures v_o1_causeBits v_o1_size v_o1_lost v_o1_guarded v_o1_day) sz) := by
  refine xk_met (fun res : Int32 × (Nat → Int32) × (Nat → Int32) × (Nat → Int32) × Int32 × Int32 × Int32 × Int32 => some (.int res.1)) (fun res : Int32 × (Nat → Int32) × (Nat → Int32) × (Nat → Int32) × Int32 × Int32 × Int32 × Int32 => (wX8 cA a_t a_t_letters v_t_letters v_t_size ++ wX7 cA a_o1 a_o1_kinds a_o1_figures a_o1_causeBits res.2.1 res.2.2.1 res.2.2.2.1 res.2.2.2.2.1 res.2.2.2.2.2.1 res.2.2.2.2.2.2.1 res.2.2.2.2.2.2.2)) res (cc := cX8_comeOver) (maxL := 4) (ret := (some .int)) (by decide) rfl (Nat.le_of_ble_eq_true rfl) ?_
  intro p e s m args below meth c A Q ls hQ hx hb hr hlk hml hown hts hK hP hD hS hA hl
  have S : CallFix p m c cX8_comeOver 4 s args wsX8_comeOver RX8 := ⟨hx, hb, hml, hown, hts⟩
  have hl : lv_has ls 4 [(0, .ref a_t), (1, .ref a_o1)] := hl
  have hinX8 : ∀ w ∈ u_ws RX8 TX8 2, w ∈ wsX8_comeOver := fun _ h => List.mem_cons_of_mem _ (List.mem_append_left _ (List.mem_append_right _ (h)))
  have k_0 := hts (.fieldLink RX8 13 "NailsWantTheKingdom$Telling" "size" "I") (List.mem_of_getElem? (i := 1) (by decide +kernel))
  have k_1 := hts (.methodLink RX8 46 Lib.Math.max.name) (List.mem_of_getElem? (i := 2) (by decide +kernel))
  have k_2 := hts (.static Lib.Math.max.name) (List.mem_of_getElem? (i := 3) (by decide +kernel))
  have k_3 := hts (.initialized "java/lang/Math") (List.mem_of_getElem? (i := 4) (by decide +kernel))
  have k_4 := hts (.code Lib.Math.max.name Lib.Math.max.code 2 (some .int)) (List.mem_of_getElem? (i := 5) (by decide +kernel))
  have J_4 : ∀ (n : Nat) (x2 : Int32) (x3 : Int32) (v_o1_kinds : Nat → Int32) (v_o1_figures : Nat → Int32) (v_o1_causeBits : Nat → Int32) (v_o1_size : Int32) (v_o1_lost : Int32) (v_o1_guarded : Int32) (v_o1_day : Int32) (res : Int32 × (Nat → Int32) × (Nat → Int32) × (Nat → Int32) × Int32 × Int32 × Int32 × Int32), f_X8_comeOver_4 F v_t_letters v_t_size n x2 x3 v_o1_kinds v_o1_figures v_o1_causeBits v_o1_size v_o1_lost v_o1_guarded v_o1_day = some res → ∀ (H : Heap) (locs : List Loc) (ls : Array Slot), va_P D vwCl (wX8 cA a_t a_t_letters v_t_letters v_t_size ++ wX7 cA a_o1 a_o1_kinds a_o1_figures a_o1_causeBits v_o1_kinds v_o1_figures v_o1_causeBits v_o1_size v_o1_lost v_o1_guarded v_o1_day) H → va_D A (wX8 cA a_t a_t_letters v_t_letters v_t_size ++ wX7 cA a_o1 a_o1_kinds a_o1_figures a_o1_causeBits v_o1_kinds v_o1_figures v_o1_causeBits v_o1_size v_o1_lost v_o1_guarded v_o1_day) → va_S A s.heap H locs → lv_has ls 4 [(0, .ref a_t), (1, .ref a_o1), (2, .int x2), (3, .int x3)] → W p l e { frames := 10, cells := 0, slots := 0, locals := 344 } s m args below meth c H locs 0 0 (Q res) (F0 m 4 ls []) := by
    intro n
    induction n with
    | zero => intro x2 x3 v_o1_kinds v_o1_figures v_o1_causeBits v_o1_size v_o1_lost v_o1_guarded v_o1_day res h; exact nomatch (show (none : Option (Int32 × (Nat → Int32) × (Nat → Int32) × (Nat → Int32) × Int32 × Int32 × Int32 × Int32)) = some res from h)
    | succ n ih =>
      intro x2 x3 v_o1_kinds v_o1_figures v_o1_causeBits v_o1_size v_o1_lost v_o1_guarded v_o1_day res h H locs ls hP hD hS hl
      rw [f_X8_comeOver_4] at h
      refine lv_iload_n hx hb dX8_comeOver_4 rfl (lv_at hl 3 rfl) ?_
      refine lv_aload_n hx hb dX8_comeOver_5 rfl (lv_at hl 0 rfl) ?_
      refine va_get (ci := 3) (v := .int v_t_size) (C := RX8) (T := TX8) (N := 2) hx hb hts hinX8 hown hK.1 hP 0 rfl rfl 1 (by decide) k_0 (fun _ h9 => h9) rfl dX8_comeOver_6 ?_
      refine lv_icmp_ge (tgt := 48) hx hb dX8_comeOver_9 (by decide) (fun c_1 => ?_) (fun c_1 => ?_)
      · have h := (if_pos c_1).symm.trans h
        refine lv_iload_n hx hb dX8_comeOver_48 rfl (lv_at hl 2 rfl) ?_
        obtain rfl := Option.some.inj h
        exact xk_iret hx hb hr hlk hP hD hS (hQ _) dX8_comeOver_49
      · have h := (if_neg c_1).symm.trans h
        refine lv_aload_n hx hb dX8_comeOver_12 rfl (lv_at hl 0 rfl) ?_
        refine lv_iload_n hx hb dX8_comeOver_13 rfl (lv_at hl 3 rfl) ?_
        refine lv_aload_n hx hb dX8_comeOver_14 rfl (lv_at hl 1 rfl) ?_
        obtain ⟨x_2, hc_2, h⟩ := bd_some h
        refine xk_V (rest := []) (As := [.int x3, .ref a_o1]) (stk := [.int x_2.1]) (wn := (wX8 cA a_t a_t_letters v_t_letters v_t_size ++ wX7 cA a_o1 a_o1_kinds a_o1_figures a_o1_causeBits x_2.2.1 x_2.2.2.1 x_2.2.2.2.1 x_2.2.2.2.2.1 x_2.2.2.2.2.2.1 x_2.2.2.2.2.2.2.1 x_2.2.2.2.2.2.2.2)) (v := (some (.int x_2.1))) (wr := []) gX8_comeOver_X8_comes rfl hdV_X8_comes rfl rfl (c_X8_comes l D cA sa sv a_t a_t_letters a_o1 a_o1_kinds a_o1_figures a_o1_causeBits _ v_t_letters v_t_size v_o1_kinds v_o1_figures v_o1_causeBits v_o1_size v_o1_lost v_o1_guarded v_o1_day x3 F x_2 hc_2) (ci := 3) rfl (q0 := 0) rfl S hK hP hD hS hA [0, 1, 2, 3, 4, 5] [] [0, 1, 2, 3, 4, 5] rfl rfl rfl rfl rfl rfl rfl ⟨Nat.le_of_ble_eq_true rfl, Nat.le_of_ble_eq_true rfl⟩ ⟨Nat.le_refl 0, Nat.le_refl 0⟩ rfl hl.1 rfl (Nat.le_of_ble_eq_true rfl) rfl dX8_comeOver_15 (fun H locs hP hD hS => ?_)
        refine lv_if_ne (tgt := 27) hx hb dX8_comeOver_18 (by decide) (fun c_3 => ?_) (fun c_3 => ?_)
        · have h := (if_neg c_3).symm.trans h
          refine lv_iinc (v := (x2 + 1)) (lv' := [(2, .int (x2 + 1)), (0, .ref a_t), (1, .ref a_o1), (3, .int x3)]) hx hb dX8_comeOver_27 hl (k := 2) rfl rfl (by decide) rfl (fun ls hl => ?_)
          refine lv_iload_n hx hb dX8_comeOver_30 rfl (lv_at hl 3 rfl) ?_
          refine lv_iconst (v := 1) hx hb dX8_comeOver_31 (by decide) ?_
          refine lv_aload_n hx hb dX8_comeOver_32 rfl (lv_at hl 1 rfl) ?_
          refine lv_iload_n hx hb dX8_comeOver_33 rfl (lv_at hl 3 rfl) ?_
          obtain ⟨x_4, hc_4, h⟩ := bd_some h
          refine xk_V (rest := [.int 1, .int x3]) (As := [.int x3]) (stk := [.int x_4, .int 1, .int x3]) (wn := (wX8 cA a_t a_t_letters v_t_letters v_t_size ++ wX7 cA a_o1 a_o1_kinds a_o1_figures a_o1_causeBits x_2.2.1 x_2.2.2.1 x_2.2.2.2.1 x_2.2.2.2.2.1 x_2.2.2.2.2.2.1 x_2.2.2.2.2.2.2.1 x_2.2.2.2.2.2.2.2)) (v := (some (.int x_4))) (wr := [(a_o1, .inr (2, [.ref a_o1_kinds, .ref a_o1_figures, .ref a_o1_causeBits, .int x_2.2.2.2.2.1, .int x_2.2.2.2.2.2.1, .int x_2.2.2.2.2.2.2.1, .int x_2.2.2.2.2.2.2.2])), (a_o1_kinds, .inl (cA, 9, .inl x_2.2.1)), (a_o1_figures, .inl (cA, 9, .inl x_2.2.2.1)), (a_o1_causeBits, .inl (cA, 9, .inl x_2.2.2.2.1))]) gX8_comeOver_X8_at rfl hdV_X8_at rfl rfl (c_X8_at l D cA sa sv a_t a_t_letters _ v_t_letters v_t_size x3 x_4 hc_4) (ci := 3) rfl (q0 := 0) rfl S hK hP hD hS hA [0, 1] [2, 3, 4, 5] [4, 5, 0, 1, 2, 3] rfl rfl rfl rfl rfl rfl rfl ⟨Nat.le_of_ble_eq_true rfl, Nat.le_of_ble_eq_true rfl⟩ ⟨Nat.le_refl 0, Nat.le_refl 0⟩ rfl hl.1 rfl (Nat.le_of_ble_eq_true rfl) rfl dX8_comeOver_34 (fun H locs hP hD hS => ?_)
          obtain ⟨x_5, hc_5, h⟩ := bd_some h
          refine xk_S (rest := [.int 1, .int x3]) (As := [.int x_4]) (stk := [.int x_5, .int 1, .int x3]) (wn := (wX8 cA a_t a_t_letters v_t_letters v_t_size ++ wX7 cA a_o1 a_o1_kinds a_o1_figures a_o1_causeBits x_2.2.1 x_2.2.2.1 x_2.2.2.2.1 x_2.2.2.2.2.1 x_2.2.2.2.2.2.1 x_2.2.2.2.2.2.2.1 x_2.2.2.2.2.2.2.2)) (v := (some (.int x_5))) (wr := [(a_t, .inr (3, [.ref a_t_letters, .int v_t_size])), (a_t_letters, .inl (cA, 96, .inl v_t_letters)), (a_o1, .inr (2, [.ref a_o1_kinds, .ref a_o1_figures, .ref a_o1_causeBits, .int x_2.2.2.2.2.1, .int x_2.2.2.2.2.2.1, .int x_2.2.2.2.2.2.2.1, .int x_2.2.2.2.2.2.2.2])), (a_o1_kinds, .inl (cA, 9, .inl x_2.2.1)), (a_o1_figures, .inl (cA, 9, .inl x_2.2.2.1)), (a_o1_causeBits, .inl (cA, 9, .inl x_2.2.2.2.1))]) gX8_comeOver_X8_lengthBy rfl hdS_X8_lengthBy rfl rfl (c_X8_lengthBy l D cA sa sv _ x_4 x_5 hc_5) S hK hP hD hS hA [] [0, 1, 2, 3, 4, 5] [0, 1, 2, 3, 4, 5] rfl rfl rfl rfl rfl rfl rfl ⟨Nat.le_of_ble_eq_true rfl, Nat.le_of_ble_eq_true rfl⟩ ⟨Nat.le_refl 0, Nat.le_refl 0⟩ rfl hl.1 rfl (Nat.le_of_ble_eq_true rfl) rfl dX8_comeOver_37 (fun H locs hP hD hS => ?_)
          refine va_mmax hx hb (hml.trans hl.1.symm) hown k_1 k_2 k_3 k_4 (Nat.le_of_ble_eq_true rfl) (Nat.le_of_ble_eq_true rfl) (Nat.le_refl 0) (Nat.le_refl 0) dX8_comeOver_40 ?_
          refine lv_iadd hx hb dX8_comeOver_43 ?_
          refine lv_istore_n (lv' := [(3, .int (x3 + (if (1 : Int32) < x_5 then x_5 else 1))), (2, .int (x2 + 1)), (0, .ref a_t), (1, .ref a_o1)]) hx hb dX8_comeOver_44 rfl hl (by decide) rfl (fun ls hl => ?_)
          refine lv_goto (tgt := 4) hx hb dX8_comeOver_45 (by decide) ?_
          exact ih (x2 + 1) (x3 + (if (1 : Int32) < x_5 then x_5 else 1)) x_2.2.1 x_2.2.2.1 x_2.2.2.2.1 x_2.2.2.2.2.1 x_2.2.2.2.2.2.1 x_2.2.2.2.2.2.2.1 x_2.2.2.2.2.2.2.2 _ h _ _ _ hP hD hS (lv_sub hl [2, 3, 1, 0] rfl)
        · have h := (if_pos c_3).symm.trans h
          refine lv_sipush (v := (-2000)) hx hb dX8_comeOver_21 (by decide) ?_
          refine lv_iload_n hx hb dX8_comeOver_24 rfl (lv_at hl 3 rfl) ?_
          refine lv_isub hx hb dX8_comeOver_25 ?_
          obtain rfl := Option.some.inj h
          exact xk_iret hx hb hr hlk hP hD hS (hQ _) dX8_comeOver_26
  unfold f_X8_comeOver at h
  refine lv_iconst (v := 0) hx hb dX8_comeOver_0 (by decide) ?_
  refine lv_istore_n (lv' := [(2, .int 0), (0, .ref a_t), (1, .ref a_o1)]) hx hb dX8_comeOver_1 rfl hl (by decide) rfl (fun ls hl => ?_)
  refine lv_iconst (v := 0) hx hb dX8_comeOver_2 (by decide) ?_
  refine lv_istore_n (lv' := [(3, .int 0), (2, .int 0), (0, .ref a_t), (1, .ref a_o1)]) hx hb dX8_comeOver_3 rfl hl (by decide) rfl (fun ls hl => ?_)
  exact J_4 F 0 0 v_o1_kinds v_o1_figures v_o1_causeBits v_o1_size v_o1_lost v_o1_guarded v_o1_day _ h _ _ _ hP hD hS (lv_sub hl [2, 3, 1, 0] rfl)
