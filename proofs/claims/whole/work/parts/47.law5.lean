set_option maxHeartbeats 4000000 in
set_option maxRecDepth 100000 in
theorem lc_two {p : Program} {l : Launch} {e : Env} {s : State} {m : MethodId} {below : List Frame} {meth : Method} {c : Code} {Q : State → Prop} {D : va_G} {cA : ClassId} {sa sv : Nat → Nat} {b Ls : Nat} {xs : Nat → Int32} {a : Nat → Nat} {x3 : Int32} {CE SL : Nat} (hCE : CE ≤ room_1.cells ∧ SL ≤ room_1.slots) (C0 : lw_At p s m meth c b Ls xs) (hK : xk_K D cA sa sv (fun q : Nat => s.heap.size ≤ q) s s.heap) (h_1 : vp_in (x3 + 1) Ls) (h_2 : vp_in (x3 + 2) Ls) (h_3 : vp_in (x3 + 3) Ls) (h_4 : vp_in (x3 + 4) Ls) (h_5 : vp_in (x3 + 5) Ls) (hk : KK p l e s m below meth c Q D cA b a x3 CE SL 1106) : KK p l e s m below meth c Q D cA b a x3 CE SL 801 := by
  obtain ⟨hx, hb, hr, hml, hown, hts, hX, hbl, hlocks, hgv⟩ := C0
  have S : CallFix p m c cL_law 4 s #[Value.ref b] lw_tbl RL := ⟨hx, hb, hml, hown, hts⟩
  have hA : ∀ q : Nat, s.heap.size ≤ q → (fun q : Nat => s.heap.size ≤ q) q := fun _ h => h
  have hbA : ¬ (fun q : Nat => s.heap.size ≤ q) b := Nat.not_le.mpr hbl
  intro k L G d nn mm kd fg cs ka fa ca lt vl rf yk yf yc tk tf tc le la to kp dd mny ys yl yg yd bb ts tl tg td lz at0 st ik cu nw lo H locs ls hGo hP hD hS hl
  obtain ⟨hAR, hL, hG, hd, hLT, hRW, hIM⟩ := hGo
  have hP : va_P D vwCl (wX9 cA (a 0) (a 1) (a 2) (a 3) (a 4) (a 5) (a 6) (a 7) (a 8) (a 9) (a 10) (a 11) (a 12) (a 13) (a 14) (a 15) (a 16) (a 17) (a 18) ka fa ca (nI k) (nI L) (nI G) (nI d) tk tf tc ts tl tg td yk yf yc ys yl yg yd lt (nI nn) vl (nI mm) lz rf bb ++ wX10 cA (a 19) (a 20) (a 21) (a 22) (a 23) (a 24) (a 25) (a 26) (a 27) (a 28) (a 29) (a 30) (a 31) rf ka fa ca (nI k) (nI d) (nI L) (nI G) lt le la to (nI nn) at0 st kp bb ik cu dd nw mny vl (nI mm) lo) H := hP
  have hD : va_D (fun q : Nat => s.heap.size ≤ q) (wX9 cA (a 0) (a 1) (a 2) (a 3) (a 4) (a 5) (a 6) (a 7) (a 8) (a 9) (a 10) (a 11) (a 12) (a 13) (a 14) (a 15) (a 16) (a 17) (a 18) ka fa ca (nI k) (nI L) (nI G) (nI d) tk tf tc ts tl tg td yk yf yc ys yl yg yd lt (nI nn) vl (nI mm) lz rf bb ++ wX10 cA (a 19) (a 20) (a 21) (a 22) (a 23) (a 24) (a 25) (a 26) (a 27) (a 28) (a 29) (a 30) (a 31) rf ka fa ca (nI k) (nI d) (nI L) (nI G) lt le la to (nI nn) at0 st kp bb ik cu dd nw mny vl (nI mm) lo) := hD
  obtain ⟨r, rf', kp', mny', ik', cu', hc, hm, hkp⟩ := t_two hAR hL hG hd rf kp mny ik cu (xs (Int32.toNatClampNeg (x3 + 1))) (xs (Int32.toNatClampNeg (x3 + 2))) (xs (Int32.toNatClampNeg (x3 + 3)))
  refine lv_aload_n hx hb dL_law_801 rfl (lv_at hl 1 rfl) ?_
  refine lv_aload_n hx hb dL_law_802 rfl (lv_at hl 0 rfl) ?_
  refine lv_iload_n hx hb dL_law_803 rfl (lv_at hl 3 rfl) ?_
  refine lv_iconst (v := 1) hx hb dL_law_804 (by decide) ?_
  refine lv_iadd hx hb dL_law_805 ?_
  refine va_sld hx hb hX hbl hbA hS h_1 dL_law_806 ?_
  refine lv_aload_n hx hb dL_law_807 rfl (lv_at hl 0 rfl) ?_
  refine lv_iload_n hx hb dL_law_808 rfl (lv_at hl 3 rfl) ?_
  refine lv_iconst (v := 2) hx hb dL_law_809 (by decide) ?_
  refine lv_iadd hx hb dL_law_810 ?_
  refine va_sld hx hb hX hbl hbA hS h_2 dL_law_811 ?_
  refine lv_aload_n hx hb dL_law_812 rfl (lv_at hl 0 rfl) ?_
  refine lv_iload_n hx hb dL_law_813 rfl (lv_at hl 3 rfl) ?_
  refine lv_iconst (v := 3) hx hb dL_law_814 (by decide) ?_
  refine lv_iadd hx hb dL_law_815 ?_
  refine va_sld hx hb hX hbl hbA hS h_3 dL_law_816 ?_
  refine xk_V (rest := []) (As := [.int (xs (Int32.toNatClampNeg (x3 + 1))), .int (xs (Int32.toNatClampNeg (x3 + 2))), .int (xs (Int32.toNatClampNeg (x3 + 3)))]) (stk := [.int r]) (wr := wX10 cA (a 19) (a 20) (a 21) (a 22) (a 23) (a 24) (a 25) (a 26) (a 27) (a 28) (a 29) (a 30) (a 31) rf ka fa ca (nI k) (nI d) (nI L) (nI G) lt le la to (nI nn) at0 st kp bb ik cu dd nw mny vl (nI mm) lo) (wn := wX9 cA (a 0) (a 1) (a 2) (a 3) (a 4) (a 5) (a 6) (a 7) (a 8) (a 9) (a 10) (a 11) (a 12) (a 13) (a 14) (a 15) (a 16) (a 17) (a 18) ka fa ca (nI k) (nI L) (nI G) (nI d) tk tf tc ts tl tg td yk yf yc ys yl yg yd lt (nI nn) vl (nI mm) lz rf' bb ++ wX10 cA (a 19) (a 20) (a 21) (a 22) (a 23) (a 24) (a 25) (a 26) (a 27) (a 28) (a 29) (a 30) (a 31) rf ka fa ca (nI k) (nI d) (nI L) (nI G) lt le la to (nI nn) at0 st kp bb ik cu dd nw mny vl (nI mm) lo) (v := (some (.int r))) gl_X9_two rfl hdV_X9_two rfl rfl (c_X9_two l D cA sa sv (a 0) (a 1) (a 2) (a 3) (a 4) (a 5) (a 6) (a 7) (a 8) (a 9) (a 10) (a 11) (a 12) (a 13) (a 14) (a 15) (a 16) (a 17) (a 18) _ ka fa ca (nI k) (nI L) (nI G) (nI d) tk tf tc ts tl tg td yk yf yc ys yl yg yd lt (nI nn) vl (nI mm) lz rf bb (xs (Int32.toNatClampNeg (x3 + 1))) (xs (Int32.toNatClampNeg (x3 + 2))) (xs (Int32.toNatClampNeg (x3 + 3))) FU (r, rf') hc) (ci := 4) rfl (q0 := 0) rfl S hK hP hD hS hA [0, 1, 2, 3, 4, 5, 6, 7, 8, 9, 10, 11, 12, 13, 14, 15, 16, 17, 18] [19, 20, 21, 22, 23, 24, 25, 26, 27, 28, 29, 30, 31] [13, 14, 15, 16, 17, 18, 19, 20, 21, 22, 23, 24, 25, 26, 27, 28, 29, 30, 31, 0, 1, 2, 3, 4, 5, 6, 7, 8, 9, 10, 11, 12] rfl rfl rfl rfl rfl rfl rfl ⟨Nat.le_of_ble_eq_true rfl, Nat.le_of_ble_eq_true rfl⟩ hCE rfl hl.1 rfl (Nat.le_of_ble_eq_true rfl) rfl dL_law_817 (fun H locs hP hD hS => ?_)
  refine lv_aload_n hx hb dL_law_820 rfl (lv_at hl 2 rfl) ?_
  refine lv_aload_n hx hb dL_law_821 rfl (lv_at hl 0 rfl) ?_
  refine lv_iload_n hx hb dL_law_822 rfl (lv_at hl 3 rfl) ?_
  refine lv_iconst (v := 1) hx hb dL_law_823 (by decide) ?_
  refine lv_iadd hx hb dL_law_824 ?_
  refine va_sld hx hb hX hbl hbA hS h_1 dL_law_825 ?_
  refine lv_aload_n hx hb dL_law_826 rfl (lv_at hl 0 rfl) ?_
  refine lv_iload_n hx hb dL_law_827 rfl (lv_at hl 3 rfl) ?_
  refine lv_iconst (v := 2) hx hb dL_law_828 (by decide) ?_
  refine lv_iadd hx hb dL_law_829 ?_
  refine va_sld hx hb hX hbl hbA hS h_2 dL_law_830 ?_
  refine lv_aload_n hx hb dL_law_831 rfl (lv_at hl 0 rfl) ?_
  refine lv_iload_n hx hb dL_law_832 rfl (lv_at hl 3 rfl) ?_
  refine lv_iconst (v := 3) hx hb dL_law_833 (by decide) ?_
  refine lv_iadd hx hb dL_law_834 ?_
  refine va_sld hx hb hX hbl hbA hS h_3 dL_law_835 ?_
  refine xk_V (rest := [.int r]) (As := [.int (xs (Int32.toNatClampNeg (x3 + 1))), .int (xs (Int32.toNatClampNeg (x3 + 2))), .int (xs (Int32.toNatClampNeg (x3 + 3)))]) (stk := [.int r, .int r]) (wr := wX9 cA (a 0) (a 1) (a 2) (a 3) (a 4) (a 5) (a 6) (a 7) (a 8) (a 9) (a 10) (a 11) (a 12) (a 13) (a 14) (a 15) (a 16) (a 17) (a 18) ka fa ca (nI k) (nI L) (nI G) (nI d) tk tf tc ts tl tg td yk yf yc ys yl yg yd lt (nI nn) vl (nI mm) lz rf' bb) (wn := wX9 cA (a 0) (a 1) (a 2) (a 3) (a 4) (a 5) (a 6) (a 7) (a 8) (a 9) (a 10) (a 11) (a 12) (a 13) (a 14) (a 15) (a 16) (a 17) (a 18) ka fa ca (nI k) (nI L) (nI G) (nI d) tk tf tc ts tl tg td yk yf yc ys yl yg yd lt (nI nn) vl (nI mm) lz rf' bb ++ wX10 cA (a 19) (a 20) (a 21) (a 22) (a 23) (a 24) (a 25) (a 26) (a 27) (a 28) (a 29) (a 30) (a 31) rf' ka fa ca (nI k) (nI d) (nI L) (nI G) lt le la to (nI nn) at0 st kp' bb ik' cu' dd nw mny' vl (nI mm) lo) (v := (some (.int r))) gl_X10_two rfl hdV_X10_two rfl rfl (c_X10_two l D cA sa sv (a 19) (a 20) (a 21) (a 22) (a 23) (a 24) (a 25) (a 26) (a 27) (a 28) (a 29) (a 30) (a 31) _ rf ka fa ca (nI k) (nI d) (nI L) (nI G) lt le la to (nI nn) at0 st kp bb ik cu dd nw mny vl (nI mm) lo (xs (Int32.toNatClampNeg (x3 + 1))) (xs (Int32.toNatClampNeg (x3 + 2))) (xs (Int32.toNatClampNeg (x3 + 3))) FU (r, rf', ka, fa, ca, (nI k), (nI d), (nI L), (nI G), kp', ik', cu', mny') hm) (ci := 5) rfl (q0 := 0) rfl S hK hP hD hS hA [19, 20, 21, 22, 23, 24, 25, 26, 27, 28, 29, 30, 31] [0, 1, 2, 3, 4, 5, 6, 7, 8, 9, 10, 11, 12, 13, 14, 15, 16, 17, 18] [0, 1, 2, 3, 4, 5, 6, 7, 8, 9, 10, 11, 12, 13, 14, 15, 16, 17, 18, 19, 20, 21, 22, 23, 24, 25, 26, 27, 28, 29, 30, 31] rfl rfl rfl rfl rfl rfl rfl ⟨Nat.le_of_ble_eq_true rfl, Nat.le_of_ble_eq_true rfl⟩ hCE rfl hl.1 rfl (Nat.le_of_ble_eq_true rfl) rfl dL_law_836 (fun H locs hP hD hS => ?_)
  refine lv_icmp_eq (tgt := 1106) hx hb dL_law_839 (by decide) (fun _ => hk k L G d nn mm kd fg cs ka fa ca lt vl rf' yk yf yc tk tf tc le la to kp' dd mny' ys yl yg yd bb ts tl tg td lz at0 st ik' cu' nw lo H locs ls ⟨hAR, hL, hG, hd, hLT, hRW, hIM.keep (fun j h => hkp j (by omega))⟩ hP hD hS hl) (fun h9 => absurd rfl h9)
set_option maxHeartbeats 4000000 in
set_option maxRecDepth 100000 in
theorem lc_boys {p : Program} {l : Launch} {e : Env} {s : State} {m : MethodId} {below : List Frame} {meth : Method} {c : Code} {Q : State → Prop} {D : va_G} {cA : ClassId} {sa sv : Nat → Nat} {b Ls : Nat} {xs : Nat → Int32} {a : Nat → Nat} {x3 : Int32} {CE SL : Nat} (hCE : CE ≤ room_1.cells ∧ SL ≤ room_1.slots) (C0 : lw_At p s m meth c b Ls xs) (hK : xk_K D cA sa sv (fun q : Nat => s.heap.size ≤ q) s s.heap) (h_1 : vp_in (x3 + 1) Ls) (h_2 : vp_in (x3 + 2) Ls) (h_3 : vp_in (x3 + 3) Ls) (h_4 : vp_in (x3 + 4) Ls) (h_5 : vp_in (x3 + 5) Ls) (hk : KK p l e s m below meth c Q D cA b a x3 CE SL 1106) : KK p l e s m below meth c Q D cA b a x3 CE SL 844 := by
  obtain ⟨hx, hb, hr, hml, hown, hts, hX, hbl, hlocks, hgv⟩ := C0
  have S : CallFix p m c cL_law 4 s #[Value.ref b] lw_tbl RL := ⟨hx, hb, hml, hown, hts⟩
  have hA : ∀ q : Nat, s.heap.size ≤ q → (fun q : Nat => s.heap.size ≤ q) q := fun _ h => h
  have hbA : ¬ (fun q : Nat => s.heap.size ≤ q) b := Nat.not_le.mpr hbl
  intro k L G d nn mm kd fg cs ka fa ca lt vl rf yk yf yc tk tf tc le la to kp dd mny ys yl yg yd bb ts tl tg td lz at0 st ik cu nw lo H locs ls hGo hP hD hS hl
  obtain ⟨hAR, hL, hG, hd, hLT, hRW, hIM⟩ := hGo
  have hP : va_P D vwCl (wX9 cA (a 0) (a 1) (a 2) (a 3) (a 4) (a 5) (a 6) (a 7) (a 8) (a 9) (a 10) (a 11) (a 12) (a 13) (a 14) (a 15) (a 16) (a 17) (a 18) ka fa ca (nI k) (nI L) (nI G) (nI d) tk tf tc ts tl tg td yk yf yc ys yl yg yd lt (nI nn) vl (nI mm) lz rf bb ++ wX10 cA (a 19) (a 20) (a 21) (a 22) (a 23) (a 24) (a 25) (a 26) (a 27) (a 28) (a 29) (a 30) (a 31) rf ka fa ca (nI k) (nI d) (nI L) (nI G) lt le la to (nI nn) at0 st kp bb ik cu dd nw mny vl (nI mm) lo) H := hP
  have hD : va_D (fun q : Nat => s.heap.size ≤ q) (wX9 cA (a 0) (a 1) (a 2) (a 3) (a 4) (a 5) (a 6) (a 7) (a 8) (a 9) (a 10) (a 11) (a 12) (a 13) (a 14) (a 15) (a 16) (a 17) (a 18) ka fa ca (nI k) (nI L) (nI G) (nI d) tk tf tc ts tl tg td yk yf yc ys yl yg yd lt (nI nn) vl (nI mm) lz rf bb ++ wX10 cA (a 19) (a 20) (a 21) (a 22) (a 23) (a 24) (a 25) (a 26) (a 27) (a 28) (a 29) (a 30) (a 31) rf ka fa ca (nI k) (nI d) (nI L) (nI G) lt le la to (nI nn) at0 st kp bb ik cu dd nw mny vl (nI mm) lo) := hD
  obtain ⟨r, rf', kp', ik', cu', hc, hm, hkp⟩ := t_boys hAR hL hG hd rf kp ik cu (xs (Int32.toNatClampNeg (x3 + 1))) (xs (Int32.toNatClampNeg (x3 + 2))) (xs (Int32.toNatClampNeg (x3 + 3))) (xs (Int32.toNatClampNeg (x3 + 4))) (xs (Int32.toNatClampNeg (x3 + 5)))
  refine lv_aload_n hx hb dL_law_844 rfl (lv_at hl 1 rfl) ?_
  refine lv_aload_n hx hb dL_law_845 rfl (lv_at hl 0 rfl) ?_
  refine lv_iload_n hx hb dL_law_846 rfl (lv_at hl 3 rfl) ?_
  refine lv_iconst (v := 1) hx hb dL_law_847 (by decide) ?_
  refine lv_iadd hx hb dL_law_848 ?_
  refine va_sld hx hb hX hbl hbA hS h_1 dL_law_849 ?_
  refine lv_aload_n hx hb dL_law_850 rfl (lv_at hl 0 rfl) ?_
  refine lv_iload_n hx hb dL_law_851 rfl (lv_at hl 3 rfl) ?_
  refine lv_iconst (v := 2) hx hb dL_law_852 (by decide) ?_
  refine lv_iadd hx hb dL_law_853 ?_
  refine va_sld hx hb hX hbl hbA hS h_2 dL_law_854 ?_
  refine lv_aload_n hx hb dL_law_855 rfl (lv_at hl 0 rfl) ?_
  refine lv_iload_n hx hb dL_law_856 rfl (lv_at hl 3 rfl) ?_
  refine lv_iconst (v := 3) hx hb dL_law_857 (by decide) ?_
  refine lv_iadd hx hb dL_law_858 ?_
  refine va_sld hx hb hX hbl hbA hS h_3 dL_law_859 ?_
  refine lv_aload_n hx hb dL_law_860 rfl (lv_at hl 0 rfl) ?_
  refine lv_iload_n hx hb dL_law_861 rfl (lv_at hl 3 rfl) ?_
  refine lv_iconst (v := 4) hx hb dL_law_862 (by decide) ?_
  refine lv_iadd hx hb dL_law_863 ?_
  refine va_sld hx hb hX hbl hbA hS h_4 dL_law_864 ?_
  refine lv_aload_n hx hb dL_law_865 rfl (lv_at hl 0 rfl) ?_
  refine lv_iload_n hx hb dL_law_866 rfl (lv_at hl 3 rfl) ?_
  refine lv_iconst (v := 5) hx hb dL_law_867 (by decide) ?_
  refine lv_iadd hx hb dL_law_868 ?_
  refine va_sld hx hb hX hbl hbA hS h_5 dL_law_869 ?_
  refine xk_V (rest := []) (As := [.int (xs (Int32.toNatClampNeg (x3 + 1))), .int (xs (Int32.toNatClampNeg (x3 + 2))), .int (xs (Int32.toNatClampNeg (x3 + 3))), .int (xs (Int32.toNatClampNeg (x3 + 4))), .int (xs (Int32.toNatClampNeg (x3 + 5)))]) (stk := [.long r]) (wr := wX10 cA (a 19) (a 20) (a 21) (a 22) (a 23) (a 24) (a 25) (a 26) (a 27) (a 28) (a 29) (a 30) (a 31) rf ka fa ca (nI k) (nI d) (nI L) (nI G) lt le la to (nI nn) at0 st kp bb ik cu dd nw mny vl (nI mm) lo) (wn := wX9 cA (a 0) (a 1) (a 2) (a 3) (a 4) (a 5) (a 6) (a 7) (a 8) (a 9) (a 10) (a 11) (a 12) (a 13) (a 14) (a 15) (a 16) (a 17) (a 18) ka fa ca (nI k) (nI L) (nI G) (nI d) tk tf tc ts tl tg td yk yf yc ys yl yg yd lt (nI nn) vl (nI mm) lz rf' bb ++ wX10 cA (a 19) (a 20) (a 21) (a 22) (a 23) (a 24) (a 25) (a 26) (a 27) (a 28) (a 29) (a 30) (a 31) rf ka fa ca (nI k) (nI d) (nI L) (nI G) lt le la to (nI nn) at0 st kp bb ik cu dd nw mny vl (nI mm) lo) (v := (some (.long r))) gl_X9_boys rfl hdV_X9_boys rfl rfl (c_X9_boys l D cA sa sv (a 0) (a 1) (a 2) (a 3) (a 4) (a 5) (a 6) (a 7) (a 8) (a 9) (a 10) (a 11) (a 12) (a 13) (a 14) (a 15) (a 16) (a 17) (a 18) _ ka fa ca (nI k) (nI L) (nI G) (nI d) tk tf tc ts tl tg td yk yf yc ys yl yg yd lt (nI nn) vl (nI mm) lz rf bb (xs (Int32.toNatClampNeg (x3 + 1))) (xs (Int32.toNatClampNeg (x3 + 2))) (xs (Int32.toNatClampNeg (x3 + 3))) (xs (Int32.toNatClampNeg (x3 + 4))) (xs (Int32.toNatClampNeg (x3 + 5))) FU (r, rf') hc) (ci := 4) rfl (q0 := 0) rfl S hK hP hD hS hA [0, 1, 2, 3, 4, 5, 6, 7, 8, 9, 10, 11, 12, 13, 14, 15, 16, 17, 18] [19, 20, 21, 22, 23, 24, 25, 26, 27, 28, 29, 30, 31] [13, 14, 15, 16, 17, 18, 19, 20, 21, 22, 23, 24, 25, 26, 27, 28, 29, 30, 31, 0, 1, 2, 3, 4, 5, 6, 7, 8, 9, 10, 11, 12] rfl rfl rfl rfl rfl rfl rfl ⟨Nat.le_of_ble_eq_true rfl, Nat.le_of_ble_eq_true rfl⟩ hCE rfl hl.1 rfl (Nat.le_of_ble_eq_true rfl) rfl dL_law_870 (fun H locs hP hD hS => ?_)
  refine lv_aload_n hx hb dL_law_873 rfl (lv_at hl 2 rfl) ?_
  refine lv_aload_n hx hb dL_law_874 rfl (lv_at hl 0 rfl) ?_
  refine lv_iload_n hx hb dL_law_875 rfl (lv_at hl 3 rfl) ?_
  refine lv_iconst (v := 1) hx hb dL_law_876 (by decide) ?_
  refine lv_iadd hx hb dL_law_877 ?_
  refine va_sld hx hb hX hbl hbA hS h_1 dL_law_878 ?_
  refine lv_aload_n hx hb dL_law_879 rfl (lv_at hl 0 rfl) ?_
  refine lv_iload_n hx hb dL_law_880 rfl (lv_at hl 3 rfl) ?_
  refine lv_iconst (v := 2) hx hb dL_law_881 (by decide) ?_
  refine lv_iadd hx hb dL_law_882 ?_
  refine va_sld hx hb hX hbl hbA hS h_2 dL_law_883 ?_
  refine lv_aload_n hx hb dL_law_884 rfl (lv_at hl 0 rfl) ?_
  refine lv_iload_n hx hb dL_law_885 rfl (lv_at hl 3 rfl) ?_
  refine lv_iconst (v := 3) hx hb dL_law_886 (by decide) ?_
  refine lv_iadd hx hb dL_law_887 ?_
  refine va_sld hx hb hX hbl hbA hS h_3 dL_law_888 ?_
  refine lv_aload_n hx hb dL_law_889 rfl (lv_at hl 0 rfl) ?_
  refine lv_iload_n hx hb dL_law_890 rfl (lv_at hl 3 rfl) ?_
  refine lv_iconst (v := 4) hx hb dL_law_891 (by decide) ?_
  refine lv_iadd hx hb dL_law_892 ?_
  refine va_sld hx hb hX hbl hbA hS h_4 dL_law_893 ?_
  refine lv_aload_n hx hb dL_law_894 rfl (lv_at hl 0 rfl) ?_
  refine lv_iload_n hx hb dL_law_895 rfl (lv_at hl 3 rfl) ?_
  refine lv_iconst (v := 5) hx hb dL_law_896 (by decide) ?_
  refine lv_iadd hx hb dL_law_897 ?_
  refine va_sld hx hb hX hbl hbA hS h_5 dL_law_898 ?_
  refine xk_V (rest := [.long r]) (As := [.int (xs (Int32.toNatClampNeg (x3 + 1))), .int (xs (Int32.toNatClampNeg (x3 + 2))), .int (xs (Int32.toNatClampNeg (x3 + 3))), .int (xs (Int32.toNatClampNeg (x3 + 4))), .int (xs (Int32.toNatClampNeg (x3 + 5)))]) (stk := [.long r, .long r]) (wr := wX9 cA (a 0) (a 1) (a 2) (a 3) (a 4) (a 5) (a 6) (a 7) (a 8) (a 9) (a 10) (a 11) (a 12) (a 13) (a 14) (a 15) (a 16) (a 17) (a 18) ka fa ca (nI k) (nI L) (nI G) (nI d) tk tf tc ts tl tg td yk yf yc ys yl yg yd lt (nI nn) vl (nI mm) lz rf' bb) (wn := wX9 cA (a 0) (a 1) (a 2) (a 3) (a 4) (a 5) (a 6) (a 7) (a 8) (a 9) (a 10) (a 11) (a 12) (a 13) (a 14) (a 15) (a 16) (a 17) (a 18) ka fa ca (nI k) (nI L) (nI G) (nI d) tk tf tc ts tl tg td yk yf yc ys yl yg yd lt (nI nn) vl (nI mm) lz rf' bb ++ wX10 cA (a 19) (a 20) (a 21) (a 22) (a 23) (a 24) (a 25) (a 26) (a 27) (a 28) (a 29) (a 30) (a 31) rf' ka fa ca (nI k) (nI d) (nI L) (nI G) lt le la to (nI nn) at0 st kp' bb ik' cu' dd nw mny vl (nI mm) lo) (v := (some (.long r))) gl_X10_boys rfl hdV_X10_boys rfl rfl (c_X10_boys l D cA sa sv (a 19) (a 20) (a 21) (a 22) (a 23) (a 24) (a 25) (a 26) (a 27) (a 28) (a 29) (a 30) (a 31) _ rf ka fa ca (nI k) (nI d) (nI L) (nI G) lt le la to (nI nn) at0 st kp bb ik cu dd nw mny vl (nI mm) lo (xs (Int32.toNatClampNeg (x3 + 1))) (xs (Int32.toNatClampNeg (x3 + 2))) (xs (Int32.toNatClampNeg (x3 + 3))) (xs (Int32.toNatClampNeg (x3 + 4))) (xs (Int32.toNatClampNeg (x3 + 5))) FU (r, rf', ka, fa, ca, (nI k), (nI d), (nI L), (nI G), kp', ik', cu') hm) (ci := 5) rfl (q0 := 0) rfl S hK hP hD hS hA [19, 20, 21, 22, 23, 24, 25, 26, 27, 28, 29, 30, 31] [0, 1, 2, 3, 4, 5, 6, 7, 8, 9, 10, 11, 12, 13, 14, 15, 16, 17, 18] [0, 1, 2, 3, 4, 5, 6, 7, 8, 9, 10, 11, 12, 13, 14, 15, 16, 17, 18, 19, 20, 21, 22, 23, 24, 25, 26, 27, 28, 29, 30, 31] rfl rfl rfl rfl rfl rfl rfl ⟨Nat.le_of_ble_eq_true rfl, Nat.le_of_ble_eq_true rfl⟩ hCE rfl hl.1 rfl (Nat.le_of_ble_eq_true rfl) rfl dL_law_899 (fun H locs hP hD hS => ?_)
  refine W.lcmp hx hb dL_law_902 ?_
  refine lv_if_eq (tgt := 1106) hx hb dL_law_903 (by decide) (fun _ => hk k L G d nn mm kd fg cs ka fa ca lt vl rf' yk yf yc tk tf tc le la to kp' dd mny ys yl yg yd bb ts tl tg td lz at0 st ik' cu' nw lo H locs ls ⟨hAR, hL, hG, hd, hLT, hRW, hIM.keep (fun j h => hkp j (by omega))⟩ hP hD hS hl) (fun h9 => absurd (lcmp_self _) h9)
set_option maxHeartbeats 4000000 in
set_option maxRecDepth 100000 in
theorem lc_mean {p : Program} {l : Launch} {e : Env} {s : State} {m : MethodId} {below : List Frame} {meth : Method} {c : Code} {Q : State → Prop} {D : va_G} {cA : ClassId} {sa sv : Nat → Nat} {b Ls : Nat} {xs : Nat → Int32} {a : Nat → Nat} {x3 : Int32} {CE SL : Nat} (hCE : CE ≤ room_1.cells ∧ SL ≤ room_1.slots) (C0 : lw_At p s m meth c b Ls xs) (hK : xk_K D cA sa sv (fun q : Nat => s.heap.size ≤ q) s s.heap) (h_1 : vp_in (x3 + 1) Ls) (h_2 : vp_in (x3 + 2) Ls) (h_3 : vp_in (x3 + 3) Ls) (h_4 : vp_in (x3 + 4) Ls) (h_5 : vp_in (x3 + 5) Ls) (hk : KK p l e s m below meth c Q D cA b a x3 CE SL 1106) : KK p l e s m below meth c Q D cA b a x3 CE SL 908 := by
  obtain ⟨hx, hb, hr, hml, hown, hts, hX, hbl, hlocks, hgv⟩ := C0
  have S : CallFix p m c cL_law 4 s #[Value.ref b] lw_tbl RL := ⟨hx, hb, hml, hown, hts⟩
  have hA : ∀ q : Nat, s.heap.size ≤ q → (fun q : Nat => s.heap.size ≤ q) q := fun _ h => h
  have hbA : ¬ (fun q : Nat => s.heap.size ≤ q) b := Nat.not_le.mpr hbl
  intro k L G d nn mm kd fg cs ka fa ca lt vl rf yk yf yc tk tf tc le la to kp dd mny ys yl yg yd bb ts tl tg td lz at0 st ik cu nw lo H locs ls hGo hP hD hS hl
  obtain ⟨hAR, hL, hG, hd, hLT, hRW, hIM⟩ := hGo
  have hP : va_P D vwCl (wX9 cA (a 0) (a 1) (a 2) (a 3) (a 4) (a 5) (a 6) (a 7) (a 8) (a 9) (a 10) (a 11) (a 12) (a 13) (a 14) (a 15) (a 16) (a 17) (a 18) ka fa ca (nI k) (nI L) (nI G) (nI d) tk tf tc ts tl tg td yk yf yc ys yl yg yd lt (nI nn) vl (nI mm) lz rf bb ++ wX10 cA (a 19) (a 20) (a 21) (a 22) (a 23) (a 24) (a 25) (a 26) (a 27) (a 28) (a 29) (a 30) (a 31) rf ka fa ca (nI k) (nI d) (nI L) (nI G) lt le la to (nI nn) at0 st kp bb ik cu dd nw mny vl (nI mm) lo) H := hP
  have hD : va_D (fun q : Nat => s.heap.size ≤ q) (wX9 cA (a 0) (a 1) (a 2) (a 3) (a 4) (a 5) (a 6) (a 7) (a 8) (a 9) (a 10) (a 11) (a 12) (a 13) (a 14) (a 15) (a 16) (a 17) (a 18) ka fa ca (nI k) (nI L) (nI G) (nI d) tk tf tc ts tl tg td yk yf yc ys yl yg yd lt (nI nn) vl (nI mm) lz rf bb ++ wX10 cA (a 19) (a 20) (a 21) (a 22) (a 23) (a 24) (a 25) (a 26) (a 27) (a 28) (a 29) (a 30) (a 31) rf ka fa ca (nI k) (nI d) (nI L) (nI G) lt le la to (nI nn) at0 st kp bb ik cu dd nw mny vl (nI mm) lo) := hD
  obtain ⟨r, rf', hc, hm⟩ := t_mean hAR rf (xs (Int32.toNatClampNeg (x3 + 1)))
  refine lv_aload_n hx hb dL_law_908 rfl (lv_at hl 1 rfl) ?_
  refine lv_aload_n hx hb dL_law_909 rfl (lv_at hl 0 rfl) ?_
  refine lv_iload_n hx hb dL_law_910 rfl (lv_at hl 3 rfl) ?_
  refine lv_iconst (v := 1) hx hb dL_law_911 (by decide) ?_
  refine lv_iadd hx hb dL_law_912 ?_
  refine va_sld hx hb hX hbl hbA hS h_1 dL_law_913 ?_
  refine xk_V (rest := []) (As := [.int (xs (Int32.toNatClampNeg (x3 + 1)))]) (stk := [.long r]) (wr := wX10 cA (a 19) (a 20) (a 21) (a 22) (a 23) (a 24) (a 25) (a 26) (a 27) (a 28) (a 29) (a 30) (a 31) rf ka fa ca (nI k) (nI d) (nI L) (nI G) lt le la to (nI nn) at0 st kp bb ik cu dd nw mny vl (nI mm) lo) (wn := wX9 cA (a 0) (a 1) (a 2) (a 3) (a 4) (a 5) (a 6) (a 7) (a 8) (a 9) (a 10) (a 11) (a 12) (a 13) (a 14) (a 15) (a 16) (a 17) (a 18) ka fa ca (nI k) (nI L) (nI G) (nI d) tk tf tc ts tl tg td yk yf yc ys yl yg yd lt (nI nn) vl (nI mm) lz rf' bb ++ wX10 cA (a 19) (a 20) (a 21) (a 22) (a 23) (a 24) (a 25) (a 26) (a 27) (a 28) (a 29) (a 30) (a 31) rf ka fa ca (nI k) (nI d) (nI L) (nI G) lt le la to (nI nn) at0 st kp bb ik cu dd nw mny vl (nI mm) lo) (v := (some (.long r))) gl_X9_mean rfl hdV_X9_mean rfl rfl (c_X9_mean l D cA sa sv (a 0) (a 1) (a 2) (a 3) (a 4) (a 5) (a 6) (a 7) (a 8) (a 9) (a 10) (a 11) (a 12) (a 13) (a 14) (a 15) (a 16) (a 17) (a 18) _ ka fa ca (nI k) (nI L) (nI G) (nI d) tk tf tc ts tl tg td yk yf yc ys yl yg yd lt (nI nn) vl (nI mm) lz rf bb (xs (Int32.toNatClampNeg (x3 + 1))) FU (r, rf') hc) (ci := 4) rfl (q0 := 0) rfl S hK hP hD hS hA [0, 1, 2, 3, 4, 5, 6, 7, 8, 9, 10, 11, 12, 13, 14, 15, 16, 17, 18] [19, 20, 21, 22, 23, 24, 25, 26, 27, 28, 29, 30, 31] [13, 14, 15, 16, 17, 18, 19, 20, 21, 22, 23, 24, 25, 26, 27, 28, 29, 30, 31, 0, 1, 2, 3, 4, 5, 6, 7, 8, 9, 10, 11, 12] rfl rfl rfl rfl rfl rfl rfl ⟨Nat.le_of_ble_eq_true rfl, Nat.le_of_ble_eq_true rfl⟩ hCE rfl hl.1 rfl (Nat.le_of_ble_eq_true rfl) rfl dL_law_914 (fun H locs hP hD hS => ?_)
  refine lv_aload_n hx hb dL_law_917 rfl (lv_at hl 2 rfl) ?_
  refine lv_aload_n hx hb dL_law_918 rfl (lv_at hl 0 rfl) ?_
  refine lv_iload_n hx hb dL_law_919 rfl (lv_at hl 3 rfl) ?_
  refine lv_iconst (v := 1) hx hb dL_law_920 (by decide) ?_
  refine lv_iadd hx hb dL_law_921 ?_
  refine va_sld hx hb hX hbl hbA hS h_1 dL_law_922 ?_
  refine xk_V (rest := [.long r]) (As := [.int (xs (Int32.toNatClampNeg (x3 + 1)))]) (stk := [.long r, .long r]) (wr := wX9 cA (a 0) (a 1) (a 2) (a 3) (a 4) (a 5) (a 6) (a 7) (a 8) (a 9) (a 10) (a 11) (a 12) (a 13) (a 14) (a 15) (a 16) (a 17) (a 18) ka fa ca (nI k) (nI L) (nI G) (nI d) tk tf tc ts tl tg td yk yf yc ys yl yg yd lt (nI nn) vl (nI mm) lz rf' bb) (wn := wX9 cA (a 0) (a 1) (a 2) (a 3) (a 4) (a 5) (a 6) (a 7) (a 8) (a 9) (a 10) (a 11) (a 12) (a 13) (a 14) (a 15) (a 16) (a 17) (a 18) ka fa ca (nI k) (nI L) (nI G) (nI d) tk tf tc ts tl tg td yk yf yc ys yl yg yd lt (nI nn) vl (nI mm) lz rf' bb ++ wX10 cA (a 19) (a 20) (a 21) (a 22) (a 23) (a 24) (a 25) (a 26) (a 27) (a 28) (a 29) (a 30) (a 31) rf' ka fa ca (nI k) (nI d) (nI L) (nI G) lt le la to (nI nn) at0 st kp bb ik cu dd nw mny vl (nI mm) lo) (v := (some (.long r))) gl_X10_mean rfl hdV_X10_mean rfl rfl (c_X10_mean l D cA sa sv (a 19) (a 20) (a 21) (a 22) (a 23) (a 24) (a 25) (a 26) (a 27) (a 28) (a 29) (a 30) (a 31) _ rf ka fa ca (nI k) (nI d) (nI L) (nI G) lt le la to (nI nn) at0 st kp bb ik cu dd nw mny vl (nI mm) lo (xs (Int32.toNatClampNeg (x3 + 1))) FU (r, rf') hm) (ci := 5) rfl (q0 := 0) rfl S hK hP hD hS hA [19, 20, 21, 22, 23, 24, 25, 26, 27, 28, 29, 30, 31] [0, 1, 2, 3, 4, 5, 6, 7, 8, 9, 10, 11, 12, 13, 14, 15, 16, 17, 18] [0, 1, 2, 3, 4, 5, 6, 7, 8, 9, 10, 11, 12, 13, 14, 15, 16, 17, 18, 19, 20, 21, 22, 23, 24, 25, 26, 27, 28, 29, 30, 31] rfl rfl rfl rfl rfl rfl rfl ⟨Nat.le_of_ble_eq_true rfl, Nat.le_of_ble_eq_true rfl⟩ hCE rfl hl.1 rfl (Nat.le_of_ble_eq_true rfl) rfl dL_law_923 (fun H locs hP hD hS => ?_)
  refine W.lcmp hx hb dL_law_926 ?_
  refine lv_if_eq (tgt := 1106) hx hb dL_law_927 (by decide) (fun _ => hk k L G d nn mm kd fg cs ka fa ca lt vl rf' yk yf yc tk tf tc le la to kp dd mny ys yl yg yd bb ts tl tg td lz at0 st ik cu nw lo H locs ls ⟨hAR, hL, hG, hd, hLT, hRW, hIM⟩ hP hD hS hl) (fun h9 => absurd (lcmp_self _) h9)
set_option maxHeartbeats 4000000 in
set_option maxRecDepth 100000 in
theorem lc_whatWas {p : Program} {l : Launch} {e : Env} {s : State} {m : MethodId} {below : List Frame} {meth : Method} {c : Code} {Q : State → Prop} {D : va_G} {cA : ClassId} {sa sv : Nat → Nat} {b Ls : Nat} {xs : Nat → Int32} {a : Nat → Nat} {x3 : Int32} {CE SL : Nat} (hCE : CE ≤ room_1.cells ∧ SL ≤ room_1.slots) (C0 : lw_At p s m meth c b Ls xs) (hK : xk_K D cA sa sv (fun q : Nat => s.heap.size ≤ q) s s.heap) (h_1 : vp_in (x3 + 1) Ls) (h_2 : vp_in (x3 + 2) Ls) (h_3 : vp_in (x3 + 3) Ls) (h_4 : vp_in (x3 + 4) Ls) (h_5 : vp_in (x3 + 5) Ls) (hk : KK p l e s m below meth c Q D cA b a x3 CE SL 1106) : KK p l e s m below meth c Q D cA b a x3 CE SL 932 := by
  obtain ⟨hx, hb, hr, hml, hown, hts, hX, hbl, hlocks, hgv⟩ := C0
  have S : CallFix p m c cL_law 4 s #[Value.ref b] lw_tbl RL := ⟨hx, hb, hml, hown, hts⟩
  have hA : ∀ q : Nat, s.heap.size ≤ q → (fun q : Nat => s.heap.size ≤ q) q := fun _ h => h
  have hbA : ¬ (fun q : Nat => s.heap.size ≤ q) b := Nat.not_le.mpr hbl
  intro k L G d nn mm kd fg cs ka fa ca lt vl rf yk yf yc tk tf tc le la to kp dd mny ys yl yg yd bb ts tl tg td lz at0 st ik cu nw lo H locs ls hGo hP hD hS hl
  obtain ⟨hAR, hL, hG, hd, hLT, hRW, hIM⟩ := hGo
  have hP : va_P D vwCl (wX9 cA (a 0) (a 1) (a 2) (a 3) (a 4) (a 5) (a 6) (a 7) (a 8) (a 9) (a 10) (a 11) (a 12) (a 13) (a 14) (a 15) (a 16) (a 17) (a 18) ka fa ca (nI k) (nI L) (nI G) (nI d) tk tf tc ts tl tg td yk yf yc ys yl yg yd lt (nI nn) vl (nI mm) lz rf bb ++ wX10 cA (a 19) (a 20) (a 21) (a 22) (a 23) (a 24) (a 25) (a 26) (a 27) (a 28) (a 29) (a 30) (a 31) rf ka fa ca (nI k) (nI d) (nI L) (nI G) lt le la to (nI nn) at0 st kp bb ik cu dd nw mny vl (nI mm) lo) H := hP
  have hD : va_D (fun q : Nat => s.heap.size ≤ q) (wX9 cA (a 0) (a 1) (a 2) (a 3) (a 4) (a 5) (a 6) (a 7) (a 8) (a 9) (a 10) (a 11) (a 12) (a 13) (a 14) (a 15) (a 16) (a 17) (a 18) ka fa ca (nI k) (nI L) (nI G) (nI d) tk tf tc ts tl tg td yk yf yc ys yl yg yd lt (nI nn) vl (nI mm) lz rf bb ++ wX10 cA (a 19) (a 20) (a 21) (a 22) (a 23) (a 24) (a 25) (a 26) (a 27) (a 28) (a 29) (a 30) (a 31) rf ka fa ca (nI k) (nI d) (nI L) (nI G) lt le la to (nI nn) at0 st kp bb ik cu dd nw mny vl (nI mm) lo) := hD
  obtain ⟨r, rf', kp', tk', tf', tc', ts', tl', tg', td', ik', cu', hc, hm, hkp⟩ := t_whatWas hAR hL hG hd (vl := vl) hRW.1 rf kp tk tf tc ts tl tg td ik cu (xs (Int32.toNatClampNeg (x3 + 1))) (xs (Int32.toNatClampNeg (x3 + 2)))
  refine lv_aload_n hx hb dL_law_932 rfl (lv_at hl 1 rfl) ?_
  refine lv_aload_n hx hb dL_law_933 rfl (lv_at hl 0 rfl) ?_
  refine lv_iload_n hx hb dL_law_934 rfl (lv_at hl 3 rfl) ?_
  refine lv_iconst (v := 1) hx hb dL_law_935 (by decide) ?_
  refine lv_iadd hx hb dL_law_936 ?_
  refine va_sld hx hb hX hbl hbA hS h_1 dL_law_937 ?_
  refine lv_aload_n hx hb dL_law_938 rfl (lv_at hl 0 rfl) ?_
  refine lv_iload_n hx hb dL_law_939 rfl (lv_at hl 3 rfl) ?_
  refine lv_iconst (v := 2) hx hb dL_law_940 (by decide) ?_
  refine lv_iadd hx hb dL_law_941 ?_
  refine va_sld hx hb hX hbl hbA hS h_2 dL_law_942 ?_
  refine xk_V (rest := []) (As := [.int (xs (Int32.toNatClampNeg (x3 + 1))), .int (xs (Int32.toNatClampNeg (x3 + 2)))]) (stk := [.int r]) (wr := wX10 cA (a 19) (a 20) (a 21) (a 22) (a 23) (a 24) (a 25) (a 26) (a 27) (a 28) (a 29) (a 30) (a 31) rf ka fa ca (nI k) (nI d) (nI L) (nI G) lt le la to (nI nn) at0 st kp bb ik cu dd nw mny vl (nI mm) lo) (wn := wX9 cA (a 0) (a 1) (a 2) (a 3) (a 4) (a 5) (a 6) (a 7) (a 8) (a 9) (a 10) (a 11) (a 12) (a 13) (a 14) (a 15) (a 16) (a 17) (a 18) ka fa ca (nI k) (nI L) (nI G) (nI d) tk' tf' tc' ts' tl' tg' td' yk yf yc ys yl yg yd lt (nI nn) vl (nI mm) lz rf' bb ++ wX10 cA (a 19) (a 20) (a 21) (a 22) (a 23) (a 24) (a 25) (a 26) (a 27) (a 28) (a 29) (a 30) (a 31) rf ka fa ca (nI k) (nI d) (nI L) (nI G) lt le la to (nI nn) at0 st kp bb ik cu dd nw mny vl (nI mm) lo) (v := (some (.int r))) gl_X9_whatWas rfl hdV_X9_whatWas rfl rfl (c_X9_whatWas l D cA sa sv (a 0) (a 1) (a 2) (a 3) (a 4) (a 5) (a 6) (a 7) (a 8) (a 9) (a 10) (a 11) (a 12) (a 13) (a 14) (a 15) (a 16) (a 17) (a 18) _ ka fa ca (nI k) (nI L) (nI G) (nI d) tk tf tc ts tl tg td yk yf yc ys yl yg yd lt (nI nn) vl (nI mm) lz rf bb (xs (Int32.toNatClampNeg (x3 + 1))) (xs (Int32.toNatClampNeg (x3 + 2))) FU (r, tk', tf', tc', ts', tl', tg', td', rf') hc) (ci := 4) rfl (q0 := 0) rfl S hK hP hD hS hA [0, 1, 2, 3, 4, 5, 6, 7, 8, 9, 10, 11, 12, 13, 14, 15, 16, 17, 18] [19, 20, 21, 22, 23, 24, 25, 26, 27, 28, 29, 30, 31] [13, 14, 15, 16, 17, 18, 19, 20, 21, 22, 23, 24, 25, 26, 27, 28, 29, 30, 31, 0, 1, 2, 3, 4, 5, 6, 7, 8, 9, 10, 11, 12] rfl rfl rfl rfl rfl rfl rfl ⟨Nat.le_of_ble_eq_true rfl, Nat.le_of_ble_eq_true rfl⟩ hCE rfl hl.1 rfl (Nat.le_of_ble_eq_true rfl) rfl dL_law_943 (fun H locs hP hD hS => ?_)
  refine lv_aload_n hx hb dL_law_946 rfl (lv_at hl 2 rfl) ?_
  refine lv_aload_n hx hb dL_law_947 rfl (lv_at hl 0 rfl) ?_
  refine lv_iload_n hx hb dL_law_948 rfl (lv_at hl 3 rfl) ?_
  refine lv_iconst (v := 1) hx hb dL_law_949 (by decide) ?_
  refine lv_iadd hx hb dL_law_950 ?_
  refine va_sld hx hb hX hbl hbA hS h_1 dL_law_951 ?_
  refine lv_aload_n hx hb dL_law_952 rfl (lv_at hl 0 rfl) ?_
  refine lv_iload_n hx hb dL_law_953 rfl (lv_at hl 3 rfl) ?_
  refine lv_iconst (v := 2) hx hb dL_law_954 (by decide) ?_
  refine lv_iadd hx hb dL_law_955 ?_
  refine va_sld hx hb hX hbl hbA hS h_2 dL_law_956 ?_
  refine xk_V (rest := [.int r]) (As := [.int (xs (Int32.toNatClampNeg (x3 + 1))), .int (xs (Int32.toNatClampNeg (x3 + 2)))]) (stk := [.int r, .int r]) (wr := wX9 cA (a 0) (a 1) (a 2) (a 3) (a 4) (a 5) (a 6) (a 7) (a 8) (a 9) (a 10) (a 11) (a 12) (a 13) (a 14) (a 15) (a 16) (a 17) (a 18) ka fa ca (nI k) (nI L) (nI G) (nI d) tk' tf' tc' ts' tl' tg' td' yk yf yc ys yl yg yd lt (nI nn) vl (nI mm) lz rf' bb) (wn := wX9 cA (a 0) (a 1) (a 2) (a 3) (a 4) (a 5) (a 6) (a 7) (a 8) (a 9) (a 10) (a 11) (a 12) (a 13) (a 14) (a 15) (a 16) (a 17) (a 18) ka fa ca (nI k) (nI L) (nI G) (nI d) tk' tf' tc' ts' tl' tg' td' yk yf yc ys yl yg yd lt (nI nn) vl (nI mm) lz rf' bb ++ wX10 cA (a 19) (a 20) (a 21) (a 22) (a 23) (a 24) (a 25) (a 26) (a 27) (a 28) (a 29) (a 30) (a 31) rf' ka fa ca (nI k) (nI d) (nI L) (nI G) lt le la to (nI nn) at0 st kp' bb ik' cu' dd nw mny vl (nI mm) lo) (v := (some (.int r))) gl_X10_whatWas rfl hdV_X10_whatWas rfl rfl (c_X10_whatWas l D cA sa sv (a 19) (a 20) (a 21) (a 22) (a 23) (a 24) (a 25) (a 26) (a 27) (a 28) (a 29) (a 30) (a 31) _ rf ka fa ca (nI k) (nI d) (nI L) (nI G) lt le la to (nI nn) at0 st kp bb ik cu dd nw mny vl (nI mm) lo (xs (Int32.toNatClampNeg (x3 + 1))) (xs (Int32.toNatClampNeg (x3 + 2))) FU (r, rf', ka, fa, ca, (nI k), (nI d), (nI L), (nI G), kp', ik', cu') hm) (ci := 5) rfl (q0 := 0) rfl S hK hP hD hS hA [19, 20, 21, 22, 23, 24, 25, 26, 27, 28, 29, 30, 31] [0, 1, 2, 3, 4, 5, 6, 7, 8, 9, 10, 11, 12, 13, 14, 15, 16, 17, 18] [0, 1, 2, 3, 4, 5, 6, 7, 8, 9, 10, 11, 12, 13, 14, 15, 16, 17, 18, 19, 20, 21, 22, 23, 24, 25, 26, 27, 28, 29, 30, 31] rfl rfl rfl rfl rfl rfl rfl ⟨Nat.le_of_ble_eq_true rfl, Nat.le_of_ble_eq_true rfl⟩ hCE rfl hl.1 rfl (Nat.le_of_ble_eq_true rfl) rfl dL_law_957 (fun H locs hP hD hS => ?_)
  refine lv_icmp_eq (tgt := 1106) hx hb dL_law_960 (by decide) (fun _ => hk k L G d nn mm kd fg cs ka fa ca lt vl rf' yk yf yc tk' tf' tc' le la to kp' dd mny ys yl yg yd bb ts' tl' tg' td' lz at0 st ik' cu' nw lo H locs ls ⟨hAR, hL, hG, hd, hLT, hRW, hIM.keep (fun j h => hkp j (by omega))⟩ hP hD hS hl) (fun h9 => absurd rfl h9)
set_option maxHeartbeats 4000000 in
set_option maxRecDepth 100000 in
theorem lc_row {p : Program} {l : Launch} {e : Env} {s : State} {m : MethodId} {below : List Frame} {meth : Method} {c : Code} {Q : State → Prop} {D : va_G} {cA : ClassId} {sa sv : Nat → Nat} {b Ls : Nat} {xs : Nat → Int32} {a : Nat → Nat} {x3 : Int32} {CE SL : Nat} (hCE : CE ≤ room_1.cells ∧ SL ≤ room_1.slots) (C0 : lw_At p s m meth c b Ls xs) (hK : xk_K D cA sa sv (fun q : Nat => s.heap.size ≤ q) s s.heap) (h_1 : vp_in (x3 + 1) Ls) (h_2 : vp_in (x3 + 2) Ls) (h_3 : vp_in (x3 + 3) Ls) (h_4 : vp_in (x3 + 4) Ls) (h_5 : vp_in (x3 + 5) Ls) (hk : KK p l e s m below meth c Q D cA b a x3 CE SL 1106) : KK p l e s m below meth c Q D cA b a x3 CE SL 965 := by
  obtain ⟨hx, hb, hr, hml, hown, hts, hX, hbl, hlocks, hgv⟩ := C0
  have S : CallFix p m c cL_law 4 s #[Value.ref b] lw_tbl RL := ⟨hx, hb, hml, hown, hts⟩
  have hA : ∀ q : Nat, s.heap.size ≤ q → (fun q : Nat => s.heap.size ≤ q) q := fun _ h => h
  have hbA : ¬ (fun q : Nat => s.heap.size ≤ q) b := Nat.not_le.mpr hbl
  intro k L G d nn mm kd fg cs ka fa ca lt vl rf yk yf yc tk tf tc le la to kp dd mny ys yl yg yd bb ts tl tg td lz at0 st ik cu nw lo H locs ls hGo hP hD hS hl
  obtain ⟨hAR, hL, hG, hd, hLT, hRW, hIM⟩ := hGo
  have hP : va_P D vwCl (wX9 cA (a 0) (a 1) (a 2) (a 3) (a 4) (a 5) (a 6) (a 7) (a 8) (a 9) (a 10) (a 11) (a 12) (a 13) (a 14) (a 15) (a 16) (a 17) (a 18) ka fa ca (nI k) (nI L) (nI G) (nI d) tk tf tc ts tl tg td yk yf yc ys yl yg yd lt (nI nn) vl (nI mm) lz rf bb ++ wX10 cA (a 19) (a 20) (a 21) (a 22) (a 23) (a 24) (a 25) (a 26) (a 27) (a 28) (a 29) (a 30) (a 31) rf ka fa ca (nI k) (nI d) (nI L) (nI G) lt le la to (nI nn) at0 st kp bb ik cu dd nw mny vl (nI mm) lo) H := hP
  have hD : va_D (fun q : Nat => s.heap.size ≤ q) (wX9 cA (a 0) (a 1) (a 2) (a 3) (a 4) (a 5) (a 6) (a 7) (a 8) (a 9) (a 10) (a 11) (a 12) (a 13) (a 14) (a 15) (a 16) (a 17) (a 18) ka fa ca (nI k) (nI L) (nI G) (nI d) tk tf tc ts tl tg td yk yf yc ys yl yg yd lt (nI nn) vl (nI mm) lz rf bb ++ wX10 cA (a 19) (a 20) (a 21) (a 22) (a 23) (a 24) (a 25) (a 26) (a 27) (a 28) (a 29) (a 30) (a 31) rf ka fa ca (nI k) (nI d) (nI L) (nI G) lt le la to (nI nn) at0 st kp bb ik cu dd nw mny vl (nI mm) lo) := hD
  obtain ⟨r, rf', vl', mm', g1, hc, hm⟩ := t_row (rf := rf) hRW (xs (Int32.toNatClampNeg (x3 + 1)))
  refine lv_aload_n hx hb dL_law_965 rfl (lv_at hl 1 rfl) ?_
  refine lv_aload_n hx hb dL_law_966 rfl (lv_at hl 0 rfl) ?_
  refine lv_iload_n hx hb dL_law_967 rfl (lv_at hl 3 rfl) ?_
  refine lv_iconst (v := 1) hx hb dL_law_968 (by decide) ?_
  refine lv_iadd hx hb dL_law_969 ?_
  refine va_sld hx hb hX hbl hbA hS h_1 dL_law_970 ?_
  refine xk_V (rest := []) (As := [.int (xs (Int32.toNatClampNeg (x3 + 1)))]) (stk := [.int r]) (wr := wX10 cA (a 19) (a 20) (a 21) (a 22) (a 23) (a 24) (a 25) (a 26) (a 27) (a 28) (a 29) (a 30) (a 31) rf ka fa ca (nI k) (nI d) (nI L) (nI G) lt le la to (nI nn) at0 st kp bb ik cu dd nw mny vl (nI mm) lo) (wn := wX9 cA (a 0) (a 1) (a 2) (a 3) (a 4) (a 5) (a 6) (a 7) (a 8) (a 9) (a 10) (a 11) (a 12) (a 13) (a 14) (a 15) (a 16) (a 17) (a 18) ka fa ca (nI k) (nI L) (nI G) (nI d) tk tf tc ts tl tg td yk yf yc ys yl yg yd lt (nI nn) vl' (nI mm') lz rf' bb ++ wX10 cA (a 19) (a 20) (a 21) (a 22) (a 23) (a 24) (a 25) (a 26) (a 27) (a 28) (a 29) (a 30) (a 31) rf ka fa ca (nI k) (nI d) (nI L) (nI G) lt le la to (nI nn) at0 st kp bb ik cu dd nw mny vl (nI mm) lo) (v := (some (.int r))) gl_X9_row rfl hdV_X9_row rfl rfl (c_X9_row l D cA sa sv (a 0) (a 1) (a 2) (a 3) (a 4) (a 5) (a 6) (a 7) (a 8) (a 9) (a 10) (a 11) (a 12) (a 13) (a 14) (a 15) (a 16) (a 17) (a 18) _ ka fa ca (nI k) (nI L) (nI G) (nI d) tk tf tc ts tl tg td yk yf yc ys yl yg yd lt (nI nn) vl (nI mm) lz rf bb (xs (Int32.toNatClampNeg (x3 + 1))) (r, vl', (nI mm'), rf') hc) (ci := 4) rfl (q0 := 0) rfl S hK hP hD hS hA [0, 1, 2, 3, 4, 5, 6, 7, 8, 9, 10, 11, 12, 13, 14, 15, 16, 17, 18] [19, 20, 21, 22, 23, 24, 25, 26, 27, 28, 29, 30, 31] [13, 14, 15, 16, 17, 18, 19, 20, 21, 22, 23, 24, 25, 26, 27, 28, 29, 30, 31, 0, 1, 2, 3, 4, 5, 6, 7, 8, 9, 10, 11, 12] rfl rfl rfl rfl rfl rfl rfl ⟨Nat.le_of_ble_eq_true rfl, Nat.le_of_ble_eq_true rfl⟩ hCE rfl hl.1 rfl (Nat.le_of_ble_eq_true rfl) rfl dL_law_971 (fun H locs hP hD hS => ?_)
  refine lv_aload_n hx hb dL_law_974 rfl (lv_at hl 2 rfl) ?_
  refine lv_aload_n hx hb dL_law_975 rfl (lv_at hl 0 rfl) ?_
  refine lv_iload_n hx hb dL_law_976 rfl (lv_at hl 3 rfl) ?_
  refine lv_iconst (v := 1) hx hb dL_law_977 (by decide) ?_
  refine lv_iadd hx hb dL_law_978 ?_
  refine va_sld hx hb hX hbl hbA hS h_1 dL_law_979 ?_
  refine xk_V (rest := [.int r]) (As := [.int (xs (Int32.toNatClampNeg (x3 + 1)))]) (stk := [.int r, .int r]) (wr := wX9 cA (a 0) (a 1) (a 2) (a 3) (a 4) (a 5) (a 6) (a 7) (a 8) (a 9) (a 10) (a 11) (a 12) (a 13) (a 14) (a 15) (a 16) (a 17) (a 18) ka fa ca (nI k) (nI L) (nI G) (nI d) tk tf tc ts tl tg td yk yf yc ys yl yg yd lt (nI nn) vl' (nI mm') lz rf' bb) (wn := wX9 cA (a 0) (a 1) (a 2) (a 3) (a 4) (a 5) (a 6) (a 7) (a 8) (a 9) (a 10) (a 11) (a 12) (a 13) (a 14) (a 15) (a 16) (a 17) (a 18) ka fa ca (nI k) (nI L) (nI G) (nI d) tk tf tc ts tl tg td yk yf yc ys yl yg yd lt (nI nn) vl' (nI mm') lz rf' bb ++ wX10 cA (a 19) (a 20) (a 21) (a 22) (a 23) (a 24) (a 25) (a 26) (a 27) (a 28) (a 29) (a 30) (a 31) rf' ka fa ca (nI k) (nI d) (nI L) (nI G) lt le la to (nI nn) at0 st kp bb ik cu dd nw mny vl' (nI mm') lo) (v := (some (.int r))) gl_X10_row rfl hdV_X10_row rfl rfl (c_X10_row l D cA sa sv (a 19) (a 20) (a 21) (a 22) (a 23) (a 24) (a 25) (a 26) (a 27) (a 28) (a 29) (a 30) (a 31) _ rf ka fa ca (nI k) (nI d) (nI L) (nI G) lt le la to (nI nn) at0 st kp bb ik cu dd nw mny vl (nI mm) lo (xs (Int32.toNatClampNeg (x3 + 1))) (r, rf', vl', (nI mm')) hm) (ci := 5) rfl (q0 := 0) rfl S hK hP hD hS hA [19, 20, 21, 22, 23, 24, 25, 26, 27, 28, 29, 30, 31] [0, 1, 2, 3, 4, 5, 6, 7, 8, 9, 10, 11, 12, 13, 14, 15, 16, 17, 18] [0, 1, 2, 3, 4, 5, 6, 7, 8, 9, 10, 11, 12, 13, 14, 15, 16, 17, 18, 19, 20, 21, 22, 23, 24, 25, 26, 27, 28, 29, 30, 31] rfl rfl rfl rfl rfl rfl rfl ⟨Nat.le_of_ble_eq_true rfl, Nat.le_of_ble_eq_true rfl⟩ hCE rfl hl.1 rfl (Nat.le_of_ble_eq_true rfl) rfl dL_law_980 (fun H locs hP hD hS => ?_)
  refine lv_icmp_eq (tgt := 1106) hx hb dL_law_983 (by decide) (fun _ => hk k L G d nn mm' kd fg cs ka fa ca lt vl' rf' yk yf yc tk tf tc le la to kp dd mny ys yl yg yd bb ts tl tg td lz at0 st ik cu nw lo H locs ls ⟨hAR, hL, hG, hd, hLT, g1, hIM⟩ hP hD hS hl) (fun h9 => absurd rfl h9)
set_option maxHeartbeats 4000000 in
set_option maxRecDepth 100000 in
theorem lc_judge {p : Program} {l : Launch} {e : Env} {s : State} {m : MethodId} {below : List Frame} {meth : Method} {c : Code} {Q : State → Prop} {D : va_G} {cA : ClassId} {sa sv : Nat → Nat} {b Ls : Nat} {xs : Nat → Int32} {a : Nat → Nat} {x3 : Int32} {CE SL : Nat} (hCE : CE ≤ room_1.cells ∧ SL ≤ room_1.slots) (C0 : lw_At p s m meth c b Ls xs) (hK : xk_K D cA sa sv (fun q : Nat => s.heap.size ≤ q) s s.heap) (h_1 : vp_in (x3 + 1) Ls) (h_2 : vp_in (x3 + 2) Ls) (h_3 : vp_in (x3 + 3) Ls) (h_4 : vp_in (x3 + 4) Ls) (h_5 : vp_in (x3 + 5) Ls) (hk : KK p l e s m below meth c Q D cA b a x3 CE SL 1106) : KK p l e s m below meth c Q D cA b a x3 CE SL 988 := by
  obtain ⟨hx, hb, hr, hml, hown, hts, hX, hbl, hlocks, hgv⟩ := C0
  have S : CallFix p m c cL_law 4 s #[Value.ref b] lw_tbl RL := ⟨hx, hb, hml, hown, hts⟩
  have hA : ∀ q : Nat, s.heap.size ≤ q → (fun q : Nat => s.heap.size ≤ q) q := fun _ h => h
  have hbA : ¬ (fun q : Nat => s.heap.size ≤ q) b := Nat.not_le.mpr hbl
  intro k L G d nn mm kd fg cs ka fa ca lt vl rf yk yf yc tk tf tc le la to kp dd mny ys yl yg yd bb ts tl tg td lz at0 st ik cu nw lo H locs ls hGo hP hD hS hl
  obtain ⟨hAR, hL, hG, hd, hLT, hRW, hIM⟩ := hGo
  have hP : va_P D vwCl (wX9 cA (a 0) (a 1) (a 2) (a 3) (a 4) (a 5) (a 6) (a 7) (a 8) (a 9) (a 10) (a 11) (a 12) (a 13) (a 14) (a 15) (a 16) (a 17) (a 18) ka fa ca (nI k) (nI L) (nI G) (nI d) tk tf tc ts tl tg td yk yf yc ys yl yg yd lt (nI nn) vl (nI mm) lz rf bb ++ wX10 cA (a 19) (a 20) (a 21) (a 22) (a 23) (a 24) (a 25) (a 26) (a 27) (a 28) (a 29) (a 30) (a 31) rf ka fa ca (nI k) (nI d) (nI L) (nI G) lt le la to (nI nn) at0 st kp bb ik cu dd nw mny vl (nI mm) lo) H := hP
  have hD : va_D (fun q : Nat => s.heap.size ≤ q) (wX9 cA (a 0) (a 1) (a 2) (a 3) (a 4) (a 5) (a 6) (a 7) (a 8) (a 9) (a 10) (a 11) (a 12) (a 13) (a 14) (a 15) (a 16) (a 17) (a 18) ka fa ca (nI k) (nI L) (nI G) (nI d) tk tf tc ts tl tg td yk yf yc ys yl yg yd lt (nI nn) vl (nI mm) lz rf bb ++ wX10 cA (a 19) (a 20) (a 21) (a 22) (a 23) (a 24) (a 25) (a 26) (a 27) (a 28) (a 29) (a 30) (a 31) rf ka fa ca (nI k) (nI d) (nI L) (nI G) lt le la to (nI nn) at0 st kp bb ik cu dd nw mny vl (nI mm) lo) := hD
  obtain ⟨r, kp', ik', cu', hc, hm, hkp⟩ := t_judge hAR hL hG hd (vl := vl) hRW.1 kp ik cu
  refine lv_aload_n hx hb dL_law_988 rfl (lv_at hl 1 rfl) ?_
  refine xk_V (rest := []) (As := []) (stk := [.int r]) (wr := wX10 cA (a 19) (a 20) (a 21) (a 22) (a 23) (a 24) (a 25) (a 26) (a 27) (a 28) (a 29) (a 30) (a 31) rf ka fa ca (nI k) (nI d) (nI L) (nI G) lt le la to (nI nn) at0 st kp bb ik cu dd nw mny vl (nI mm) lo) (wn := wX9 cA (a 0) (a 1) (a 2) (a 3) (a 4) (a 5) (a 6) (a 7) (a 8) (a 9) (a 10) (a 11) (a 12) (a 13) (a 14) (a 15) (a 16) (a 17) (a 18) ka fa ca (nI k) (nI L) (nI G) (nI d) tk tf tc ts tl tg td yk yf yc ys yl yg yd lt (nI nn) vl (nI 0) lz rf bb ++ wX10 cA (a 19) (a 20) (a 21) (a 22) (a 23) (a 24) (a 25) (a 26) (a 27) (a 28) (a 29) (a 30) (a 31) rf ka fa ca (nI k) (nI d) (nI L) (nI G) lt le la to (nI nn) at0 st kp bb ik cu dd nw mny vl (nI mm) lo) (v := (some (.int r))) gl_X9_judge rfl hdV_X9_judge rfl rfl (c_X9_judge l D cA sa sv (a 0) (a 1) (a 2) (a 3) (a 4) (a 5) (a 6) (a 7) (a 8) (a 9) (a 10) (a 11) (a 12) (a 13) (a 14) (a 15) (a 16) (a 17) (a 18) _ ka fa ca (nI k) (nI L) (nI G) (nI d) tk tf tc ts tl tg td yk yf yc ys yl yg yd lt (nI nn) vl (nI mm) lz rf bb FU (r, (nI 0)) hc) (ci := 4) rfl (q0 := 0) rfl S hK hP hD hS hA [0, 1, 2, 3, 4, 5, 6, 7, 8, 9, 10, 11, 12, 13, 14, 15, 16, 17, 18] [19, 20, 21, 22, 23, 24, 25, 26, 27, 28, 29, 30, 31] [13, 14, 15, 16, 17, 18, 19, 20, 21, 22, 23, 24, 25, 26, 27, 28, 29, 30, 31, 0, 1, 2, 3, 4, 5, 6, 7, 8, 9, 10, 11, 12] rfl rfl rfl rfl rfl rfl rfl ⟨Nat.le_of_ble_eq_true rfl, Nat.le_of_ble_eq_true rfl⟩ hCE rfl hl.1 rfl (Nat.le_of_ble_eq_true rfl) rfl dL_law_989 (fun H locs hP hD hS => ?_)
  refine lv_aload_n hx hb dL_law_992 rfl (lv_at hl 2 rfl) ?_
  refine xk_V (rest := [.int r]) (As := []) (stk := [.int r, .int r]) (wr := wX9 cA (a 0) (a 1) (a 2) (a 3) (a 4) (a 5) (a 6) (a 7) (a 8) (a 9) (a 10) (a 11) (a 12) (a 13) (a 14) (a 15) (a 16) (a 17) (a 18) ka fa ca (nI k) (nI L) (nI G) (nI d) tk tf tc ts tl tg td yk yf yc ys yl yg yd lt (nI nn) vl (nI 0) lz rf bb) (wn := wX9 cA (a 0) (a 1) (a 2) (a 3) (a 4) (a 5) (a 6) (a 7) (a 8) (a 9) (a 10) (a 11) (a 12) (a 13) (a 14) (a 15) (a 16) (a 17) (a 18) ka fa ca (nI k) (nI L) (nI G) (nI d) tk tf tc ts tl tg td yk yf yc ys yl yg yd lt (nI nn) vl (nI 0) lz rf bb ++ wX10 cA (a 19) (a 20) (a 21) (a 22) (a 23) (a 24) (a 25) (a 26) (a 27) (a 28) (a 29) (a 30) (a 31) rf ka fa ca (nI k) (nI d) (nI L) (nI G) lt le la to (nI nn) at0 st kp' bb ik' cu' dd nw mny vl (nI 0) lo) (v := (some (.int r))) gl_X10_judge rfl hdV_X10_judge rfl rfl (c_X10_judge l D cA sa sv (a 19) (a 20) (a 21) (a 22) (a 23) (a 24) (a 25) (a 26) (a 27) (a 28) (a 29) (a 30) (a 31) _ rf ka fa ca (nI k) (nI d) (nI L) (nI G) lt le la to (nI nn) at0 st kp bb ik cu dd nw mny vl (nI mm) lo FU (r, ka, fa, ca, (nI k), (nI d), (nI L), (nI G), kp', ik', cu', (nI 0)) hm) (ci := 5) rfl (q0 := 0) rfl S hK hP hD hS hA [19, 20, 21, 22, 23, 24, 25, 26, 27, 28, 29, 30, 31] [0, 1, 2, 3, 4, 5, 6, 7, 8, 9, 10, 11, 12, 13, 14, 15, 16, 17, 18] [0, 1, 2, 3, 4, 5, 6, 7, 8, 9, 10, 11, 12, 13, 14, 15, 16, 17, 18, 19, 20, 21, 22, 23, 24, 25, 26, 27, 28, 29, 30, 31] rfl rfl rfl rfl rfl rfl rfl ⟨Nat.le_of_ble_eq_true rfl, Nat.le_of_ble_eq_true rfl⟩ hCE rfl hl.1 rfl (Nat.le_of_ble_eq_true rfl) rfl dL_law_993 (fun H locs hP hD hS => ?_)
  refine lv_icmp_eq (tgt := 1106) hx hb dL_law_996 (by decide) (fun _ => hk k L G d nn 0 kd fg cs ka fa ca lt vl rf yk yf yc tk tf tc le la to kp' dd mny ys yl yg yd bb ts tl tg td lz at0 st ik' cu' nw lo H locs ls ⟨hAR, hL, hG, hd, hLT, RW0 vl, hIM.keep (fun j h => hkp j (by omega))⟩ hP hD hS hl) (fun h9 => absurd rfl h9)
