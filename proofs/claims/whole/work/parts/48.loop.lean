/-! THE LAW'S LOOP AND START -/
theorem mem_r {big : List Cond} (ws : List Cond) (ps : List Nat) (hp : ws = ps.filterMap (fun i => big[i]?)) : ∀ w ∈ ws, w ∈ big := by
  intro w hw
  rw [hp] at hw
  obtain ⟨i, -, hi⟩ := List.mem_filterMap.mp hw
  first | exact List.mem_of_getElem? hi | exact List.getElem?_mem hi
theorem l6 {i Ls : Nat} (hi : i < 2 ^ 30) (hL : Ls < 2 ^ 30) : (Int32.ofNat Ls - 6 < nI i) ↔ Ls < i + 6 := by
  show (nI Ls - nI 6 < nI i) ↔ _
  rw [Int32.lt_iff_toInt_lt, pk_sub_toInt hL (by omega), nI_toInt (by omega)]
  omega
theorem law_next {p : Program} {l : Launch} {e : Env} {s : State} {m : MethodId} {below : List Frame} {meth : Method} {c : Code} {Q : State → Prop} {D : va_G} {cA : ClassId} {sa sv : Nat → Nat} {b Ls : Nat} {xs : Nat → Int32} {a : Nat → Nat} {x3 : Int32} {CE SL : Nat} (hCE : CE ≤ room_1.cells ∧ SL ≤ room_1.slots) (C0 : lw_At p s m meth c b Ls xs) (hk : KK p l e s m below meth c Q D cA b a (x3 + 6) CE SL 18) : KK p l e s m below meth c Q D cA b a x3 CE SL 1106 := by
  obtain ⟨hx, hb, hr, hml, hown, hts, hX, hbl, hlocks, hgv⟩ := C0
  intro k L G d nn mm kd fg cs ka fa ca lt vl rf yk yf yc tk tf tc le la to kp dd mny ys yl yg yd bb ts tl tg td lz at0 st ik cu nw lo H locs ls hGo hP hD hS hl
  refine lv_iinc (v := x3 + 6) (lv' := [(3, .int (x3 + 6)), (0, .ref b), (1, .ref (a 0)), (2, .ref (a 19))]) hx hb dL_law_1106 hl (k := 3) rfl rfl (by decide) rfl (fun ls hl => ?_)
  refine lv_goto (tgt := 18) hx hb dL_law_1109 (by decide) ?_
  exact hk k L G d nn mm kd fg cs ka fa ca lt vl rf yk yf yc tk tf tc le la to kp dd mny ys yl yg yd bb ts tl tg td lz at0 st ik cu nw lo H locs ls hGo hP hD hS (lv_sub hl [1, 2, 3, 0] rfl)
theorem law_stop {p : Program} {l : Launch} {e : Env} {s : State} {m : MethodId} {below : List Frame} {meth : Method} {c : Code} {D : va_G} {cA : ClassId} {sa sv : Nat → Nat} {b Ls : Nat} {xs : Nat → Int32} {a : Nat → Nat} {x3 : Int32} {CE SL : Nat} (hCE : CE ≤ room_1.cells ∧ SL ≤ room_1.slots) (C0 : lw_At p s m meth c b Ls xs) {k L G d nn mm : Nat} {kd fg cs : Nat → Nat} {H : Heap} {locs : List Loc} {ls : Array Slot} (hS : va_S (fun q : Nat => s.heap.size ≤ q) s.heap H locs) : W p l e room_1 s m #[Value.ref b] below meth c H locs CE SL (lw_Z below #[Value.ref b] s) (F0 m 1112 ls []) := by
  obtain ⟨hx, hb, hr, hml, hown, hts, hX, hbl, hlocks, hgv⟩ := C0
  refine lv_iconst (v := 1) hx hb dL_law_1112 (by decide) ?_
  refine va_forget (fun q hq => hS.2.2 q hq) ?_
  refine W.widen (k := 600000) (n := 7302250) hCE.1 hCE.2 ?_
  exact lw_ret hx hb hr hlocks dL_law_1113
set_option maxHeartbeats 4000000 in
set_option maxRecDepth 100000 in
theorem law_go {p : Program} {l : Launch} {e : Env} {s : State} {m : MethodId} {below : List Frame} {meth : Method} {c : Code} {Q : State → Prop} {D : va_G} {cA : ClassId} {sa sv : Nat → Nat} {b Ls : Nat} {xs : Nat → Int32} {a : Nat → Nat} {x3 : Int32} {CE SL : Nat} (hCE : CE ≤ room_1.cells ∧ SL ≤ room_1.slots) (C0 : lw_At p s m meth c b Ls xs) (hK : xk_K D cA sa sv (fun q : Nat => s.heap.size ≤ q) s s.heap) (h_1 : vp_in (x3 + 1) Ls) (h_2 : vp_in (x3 + 2) Ls) (h_3 : vp_in (x3 + 3) Ls) (h_4 : vp_in (x3 + 4) Ls) (h_5 : vp_in (x3 + 5) Ls) (h_0 : vp_in x3 Ls) (hk : KK p l e s m below meth c Q D cA b a x3 CE SL 1106) : KK p l e s m below meth c Q D cA b a x3 CE SL 27 := by
  have C1 := C0
  obtain ⟨hx, hb, hr, hml, hown, hts, hX, hbl, hlocks, hgv⟩ := C0
  have hA : ∀ q : Nat, s.heap.size ≤ q → (fun q : Nat => s.heap.size ≤ q) q := fun _ h => h
  have hbA : ¬ (fun q : Nat => s.heap.size ≤ q) b := Nat.not_le.mpr hbl
  intro k L G d nn mm kd fg cs ka fa ca lt vl rf yk yf yc tk tf tc le la to kp dd mny ys yl yg yd bb ts tl tg td lz at0 st ik cu nw lo H locs ls hGo hP hD hS hl
  refine lv_aload_n hx hb dL_law_27 rfl (lv_at hl 0 rfl) ?_
  refine lv_iload_n hx hb dL_law_28 rfl (lv_at hl 3 rfl) ?_
  refine va_sld hx hb hX hbl hbA hS h_0 dL_law_29 ?_
  refine lv_bipush (v := 63) hx hb dL_law_30 (by decide) ?_
  refine lv_iand hx hb dL_law_32 ?_
  generalize (xs (Int32.toNatClampNeg x3) &&& 63) = z
  by_cases c_0 : z = 0
  · refine lv_tableIn (tgt := 188) (off := 155) hx hb dL_law_33 (by rw [c_0]; decide) (by rw [c_0]; decide) (by rw [c_0]; rfl) (by decide) ?_
    exact lc_letter hCE C1 hK h_1 h_2 h_3 h_4 h_5 hk k L G d nn mm kd fg cs ka fa ca lt vl rf yk yf yc tk tf tc le la to kp dd mny ys yl yg yd bb ts tl tg td lz at0 st ik cu nw lo H locs ls hGo hP hD hS hl
  by_cases c_1 : z = 1
  · refine lv_tableIn (tgt := 211) (off := 178) hx hb dL_law_33 (by rw [c_1]; decide) (by rw [c_1]; decide) (by rw [c_1]; rfl) (by decide) ?_
    exact lc_state hCE C1 hK h_1 h_2 h_3 h_4 h_5 hk k L G d nn mm kd fg cs ka fa ca lt vl rf yk yf yc tk tf tc le la to kp dd mny ys yl yg yd bb ts tl tg td lz at0 st ik cu nw lo H locs ls hGo hP hD hS hl
  by_cases c_2 : z = 2
  · refine lv_tableIn (tgt := 224) (off := 191) hx hb dL_law_33 (by rw [c_2]; decide) (by rw [c_2]; decide) (by rw [c_2]; rfl) (by decide) ?_
    exact lc_thing hCE C1 hK h_1 h_2 h_3 h_4 h_5 hk k L G d nn mm kd fg cs ka fa ca lt vl rf yk yf yc tk tf tc le la to kp dd mny ys yl yg yd bb ts tl tg td lz at0 st ik cu nw lo H locs ls hGo hP hD hS hl
  by_cases c_3 : z = 3
  · refine lv_tableIn (tgt := 257) (off := 224) hx hb dL_law_33 (by rw [c_3]; decide) (by rw [c_3]; decide) (by rw [c_3]; rfl) (by decide) ?_
    exact lc_causes hCE C1 hK h_1 h_2 h_3 h_4 h_5 hk k L G d nn mm kd fg cs ka fa ca lt vl rf yk yf yc tk tf tc le la to kp dd mny ys yl yg yd bb ts tl tg td lz at0 st ik cu nw lo H locs ls hGo hP hD hS hl
  by_cases c_4 : z = 4
  · refine lv_tableIn (tgt := 290) (off := 257) hx hb dL_law_33 (by rw [c_4]; decide) (by rw [c_4]; decide) (by rw [c_4]; rfl) (by decide) ?_
    exact lc_loses hCE C1 hK h_1 h_2 h_3 h_4 h_5 hk k L G d nn mm kd fg cs ka fa ca lt vl rf yk yf yc tk tf tc le la to kp dd mny ys yl yg yd bb ts tl tg td lz at0 st ik cu nw lo H locs ls hGo hP hD hS hl
  by_cases c_5 : z = 5
  · refine lv_tableIn (tgt := 313) (off := 280) hx hb dL_law_33 (by rw [c_5]; decide) (by rw [c_5]; decide) (by rw [c_5]; rfl) (by decide) ?_
    exact lc_mends hCE C1 hK h_1 h_2 h_3 h_4 h_5 hk k L G d nn mm kd fg cs ka fa ca lt vl rf yk yf yc tk tf tc le la to kp dd mny ys yl yg yd bb ts tl tg td lz at0 st ik cu nw lo H locs ls hGo hP hD hS hl
  by_cases c_6 : z = 6
  · refine lv_tableIn (tgt := 336) (off := 303) hx hb dL_law_33 (by rw [c_6]; decide) (by rw [c_6]; decide) (by rw [c_6]; rfl) (by decide) ?_
    exact lc_guards hCE C1 hK h_1 h_2 h_3 h_4 h_5 hk k L G d nn mm kd fg cs ka fa ca lt vl rf yk yf yc tk tf tc le la to kp dd mny ys yl yg yd bb ts tl tg td lz at0 st ik cu nw lo H locs ls hGo hP hD hS hl
  by_cases c_7 : z = 7
  · refine lv_tableIn (tgt := 359) (off := 326) hx hb dL_law_33 (by rw [c_7]; decide) (by rw [c_7]; decide) (by rw [c_7]; rfl) (by decide) ?_
    exact lc_turn hCE C1 hK h_1 h_2 h_3 h_4 h_5 hk k L G d nn mm kd fg cs ka fa ca lt vl rf yk yf yc tk tf tc le la to kp dd mny ys yl yg yd bb ts tl tg td lz at0 st ik cu nw lo H locs ls hGo hP hD hS hl
  by_cases c_8 : z = 8
  · refine lv_tableIn (tgt := 402) (off := 369) hx hb dL_law_33 (by rw [c_8]; decide) (by rw [c_8]; decide) (by rw [c_8]; rfl) (by decide) ?_
    exact lc_days hCE C1 hK h_1 h_2 h_3 h_4 h_5 hk k L G d nn mm kd fg cs ka fa ca lt vl rf yk yf yc tk tf tc le la to kp dd mny ys yl yg yd bb ts tl tg td lz at0 st ik cu nw lo H locs ls hGo hP hD hS hl
  by_cases c_9 : z = 9
  · refine lv_tableIn (tgt := 425) (off := 392) hx hb dL_law_33 (by rw [c_9]; decide) (by rw [c_9]; decide) (by rw [c_9]; rfl) (by decide) ?_
    exact lc_lostThen hCE C1 hK h_1 h_2 h_3 h_4 h_5 hk k L G d nn mm kd fg cs ka fa ca lt vl rf yk yf yc tk tf tc le la to kp dd mny ys yl yg yd bb ts tl tg td lz at0 st ik cu nw lo H locs ls hGo hP hD hS hl
  by_cases c_10 : z = 10
  · refine lv_tableIn (tgt := 448) (off := 415) hx hb dL_law_33 (by rw [c_10]; decide) (by rw [c_10]; decide) (by rw [c_10]; rfl) (by decide) ?_
    exact lc_when hCE C1 hK h_1 h_2 h_3 h_4 h_5 hk k L G d nn mm kd fg cs ka fa ca lt vl rf yk yf yc tk tf tc le la to kp dd mny ys yl yg yd bb ts tl tg td lz at0 st ik cu nw lo H locs ls hGo hP hD hS hl
  by_cases c_11 : z = 11
  · refine lv_tableIn (tgt := 471) (off := 438) hx hb dL_law_33 (by rw [c_11]; decide) (by rw [c_11]; decide) (by rw [c_11]; rfl) (by decide) ?_
    exact lc_next hCE C1 hK h_1 h_2 h_3 h_4 h_5 hk k L G d nn mm kd fg cs ka fa ca lt vl rf yk yf yc tk tf tc le la to kp dd mny ys yl yg yd bb ts tl tg td lz at0 st ik cu nw lo H locs ls hGo hP hD hS hl
  by_cases c_12 : z = 12
  · refine lv_tableIn (tgt := 494) (off := 461) hx hb dL_law_33 (by rw [c_12]; decide) (by rw [c_12]; decide) (by rw [c_12]; rfl) (by decide) ?_
    exact lc_roots hCE C1 hK h_1 h_2 h_3 h_4 h_5 hk k L G d nn mm kd fg cs ka fa ca lt vl rf yk yf yc tk tf tc le la to kp dd mny ys yl yg yd bb ts tl tg td lz at0 st ik cu nw lo H locs ls hGo hP hD hS hl
  by_cases c_13 : z = 13
  · refine lv_tableIn (tgt := 527) (off := 494) hx hb dL_law_33 (by rw [c_13]; decide) (by rw [c_13]; decide) (by rw [c_13]; rfl) (by decide) ?_
    exact lc_nails hCE C1 hK h_1 h_2 h_3 h_4 h_5 hk k L G d nn mm kd fg cs ka fa ca lt vl rf yk yf yc tk tf tc le la to kp dd mny ys yl yg yd bb ts tl tg td lz at0 st ik cu nw lo H locs ls hGo hP hD hS hl
  by_cases c_14 : z = 14
  · refine lv_tableIn (tgt := 540) (off := 507) hx hb dL_law_33 (by rw [c_14]; decide) (by rw [c_14]; decide) (by rw [c_14]; rfl) (by decide) ?_
    exact lc_guard hCE C1 hK h_1 h_2 h_3 h_4 h_5 hk k L G d nn mm kd fg cs ka fa ca lt vl rf yk yf yc tk tf tc le la to kp dd mny ys yl yg yd bb ts tl tg td lz at0 st ik cu nw lo H locs ls hGo hP hD hS hl
  by_cases c_15 : z = 15
  · refine lv_tableIn (tgt := 573) (off := 540) hx hb dL_law_33 (by rw [c_15]; decide) (by rw [c_15]; decide) (by rw [c_15]; rfl) (by decide) ?_
    exact lc_weak hCE C1 hK h_1 h_2 h_3 h_4 h_5 hk k L G d nn mm kd fg cs ka fa ca lt vl rf yk yf yc tk tf tc le la to kp dd mny ys yl yg yd bb ts tl tg td lz at0 st ik cu nw lo H locs ls hGo hP hD hS hl
  by_cases c_16 : z = 16
  · refine lv_tableIn (tgt := 596) (off := 563) hx hb dL_law_33 (by rw [c_16]; decide) (by rw [c_16]; decide) (by rw [c_16]; rfl) (by decide) ?_
    exact lc_tack hCE C1 hK h_1 h_2 h_3 h_4 h_5 hk k L G d nn mm kd fg cs ka fa ca lt vl rf yk yf yc tk tf tc le la to kp dd mny ys yl yg yd bb ts tl tg td lz at0 st ik cu nw lo H locs ls hGo hP hD hS hl
  by_cases c_17 : z = 17
  · refine lv_tableIn (tgt := 619) (off := 586) hx hb dL_law_33 (by rw [c_17]; decide) (by rw [c_17]; decide) (by rw [c_17]; rfl) (by decide) ?_
    exact lc_worst hCE C1 hK h_1 h_2 h_3 h_4 h_5 hk k L G d nn mm kd fg cs ka fa ca lt vl rf yk yf yc tk tf tc le la to kp dd mny ys yl yg yd bb ts tl tg td lz at0 st ik cu nw lo H locs ls hGo hP hD hS hl
  by_cases c_18 : z = 18
  · refine lv_tableIn (tgt := 642) (off := 609) hx hb dL_law_33 (by rw [c_18]; decide) (by rw [c_18]; decide) (by rw [c_18]; rfl) (by decide) ?_
    exact lc_fewest hCE C1 hK h_1 h_2 h_3 h_4 h_5 hk k L G d nn mm kd fg cs ka fa ca lt vl rf yk yf yc tk tf tc le la to kp dd mny ys yl yg yd bb ts tl tg td lz at0 st ik cu nw lo H locs ls hGo hP hD hS hl
  by_cases c_19 : z = 19
  · refine lv_tableIn (tgt := 665) (off := 632) hx hb dL_law_33 (by rw [c_19]; decide) (by rw [c_19]; decide) (by rw [c_19]; rfl) (by decide) ?_
    exact lc_blame hCE C1 hK h_1 h_2 h_3 h_4 h_5 hk k L G d nn mm kd fg cs ka fa ca lt vl rf yk yf yc tk tf tc le la to kp dd mny ys yl yg yd bb ts tl tg td lz at0 st ik cu nw lo H locs ls hGo hP hD hS hl
  by_cases c_20 : z = 20
  · refine lv_tableIn (tgt := 709) (off := 676) hx hb dL_law_33 (by rw [c_20]; decide) (by rw [c_20]; decide) (by rw [c_20]; rfl) (by decide) ?_
    exact lc_saved hCE C1 hK h_1 h_2 h_3 h_4 h_5 hk k L G d nn mm kd fg cs ka fa ca lt vl rf yk yf yc tk tf tc le la to kp dd mny ys yl yg yd bb ts tl tg td lz at0 st ik cu nw lo H locs ls hGo hP hD hS hl
  by_cases c_21 : z = 21
  · refine lv_tableIn (tgt := 742) (off := 709) hx hb dL_law_33 (by rw [c_21]; decide) (by rw [c_21]; decide) (by rw [c_21]; rfl) (by decide) ?_
    exact lc_hooks hCE C1 hK h_1 h_2 h_3 h_4 h_5 hk k L G d nn mm kd fg cs ka fa ca lt vl rf yk yf yc tk tf tc le la to kp dd mny ys yl yg yd bb ts tl tg td lz at0 st ik cu nw lo H locs ls hGo hP hD hS hl
  by_cases c_22 : z = 22
  · refine lv_tableIn (tgt := 765) (off := 732) hx hb dL_law_33 (by rw [c_22]; decide) (by rw [c_22]; decide) (by rw [c_22]; rfl) (by decide) ?_
    exact lc_key hCE C1 hK h_1 h_2 h_3 h_4 h_5 hk k L G d nn mm kd fg cs ka fa ca lt vl rf yk yf yc tk tf tc le la to kp dd mny ys yl yg yd bb ts tl tg td lz at0 st ik cu nw lo H locs ls hGo hP hD hS hl
  by_cases c_23 : z = 23
  · refine lv_tableIn (tgt := 778) (off := 745) hx hb dL_law_33 (by rw [c_23]; decide) (by rw [c_23]; decide) (by rw [c_23]; rfl) (by decide) ?_
    exact lc_twins hCE C1 hK h_1 h_2 h_3 h_4 h_5 hk k L G d nn mm kd fg cs ka fa ca lt vl rf yk yf yc tk tf tc le la to kp dd mny ys yl yg yd bb ts tl tg td lz at0 st ik cu nw lo H locs ls hGo hP hD hS hl
  by_cases c_24 : z = 24
  · refine lv_tableIn (tgt := 801) (off := 768) hx hb dL_law_33 (by rw [c_24]; decide) (by rw [c_24]; decide) (by rw [c_24]; rfl) (by decide) ?_
    exact lc_two hCE C1 hK h_1 h_2 h_3 h_4 h_5 hk k L G d nn mm kd fg cs ka fa ca lt vl rf yk yf yc tk tf tc le la to kp dd mny ys yl yg yd bb ts tl tg td lz at0 st ik cu nw lo H locs ls hGo hP hD hS hl
  by_cases c_25 : z = 25
  · refine lv_tableIn (tgt := 844) (off := 811) hx hb dL_law_33 (by rw [c_25]; decide) (by rw [c_25]; decide) (by rw [c_25]; rfl) (by decide) ?_
    exact lc_boys hCE C1 hK h_1 h_2 h_3 h_4 h_5 hk k L G d nn mm kd fg cs ka fa ca lt vl rf yk yf yc tk tf tc le la to kp dd mny ys yl yg yd bb ts tl tg td lz at0 st ik cu nw lo H locs ls hGo hP hD hS hl
  by_cases c_26 : z = 26
  · refine lv_tableIn (tgt := 908) (off := 875) hx hb dL_law_33 (by rw [c_26]; decide) (by rw [c_26]; decide) (by rw [c_26]; rfl) (by decide) ?_
    exact lc_mean hCE C1 hK h_1 h_2 h_3 h_4 h_5 hk k L G d nn mm kd fg cs ka fa ca lt vl rf yk yf yc tk tf tc le la to kp dd mny ys yl yg yd bb ts tl tg td lz at0 st ik cu nw lo H locs ls hGo hP hD hS hl
  by_cases c_27 : z = 27
  · refine lv_tableIn (tgt := 932) (off := 899) hx hb dL_law_33 (by rw [c_27]; decide) (by rw [c_27]; decide) (by rw [c_27]; rfl) (by decide) ?_
    exact lc_whatWas hCE C1 hK h_1 h_2 h_3 h_4 h_5 hk k L G d nn mm kd fg cs ka fa ca lt vl rf yk yf yc tk tf tc le la to kp dd mny ys yl yg yd bb ts tl tg td lz at0 st ik cu nw lo H locs ls hGo hP hD hS hl
  by_cases c_28 : z = 28
  · refine lv_tableIn (tgt := 965) (off := 932) hx hb dL_law_33 (by rw [c_28]; decide) (by rw [c_28]; decide) (by rw [c_28]; rfl) (by decide) ?_
    exact lc_row hCE C1 hK h_1 h_2 h_3 h_4 h_5 hk k L G d nn mm kd fg cs ka fa ca lt vl rf yk yf yc tk tf tc le la to kp dd mny ys yl yg yd bb ts tl tg td lz at0 st ik cu nw lo H locs ls hGo hP hD hS hl
  by_cases c_29 : z = 29
  · refine lv_tableIn (tgt := 988) (off := 955) hx hb dL_law_33 (by rw [c_29]; decide) (by rw [c_29]; decide) (by rw [c_29]; rfl) (by decide) ?_
    exact lc_judge hCE C1 hK h_1 h_2 h_3 h_4 h_5 hk k L G d nn mm kd fg cs ka fa ca lt vl rf yk yf yc tk tf tc le la to kp dd mny ys yl yg yd bb ts tl tg td lz at0 st ik cu nw lo H locs ls hGo hP hD hS hl
  by_cases c_30 : z = 30
  · refine lv_tableIn (tgt := 1001) (off := 968) hx hb dL_law_33 (by rw [c_30]; decide) (by rw [c_30]; decide) (by rw [c_30]; rfl) (by decide) ?_
    exact lc_clear hCE C1 hK h_1 h_2 h_3 h_4 h_5 hk k L G d nn mm kd fg cs ka fa ca lt vl rf yk yf yc tk tf tc le la to kp dd mny ys yl yg yd bb ts tl tg td lz at0 st ik cu nw lo H locs ls hGo hP hD hS hl
  by_cases c_31 : z = 31
  · refine lv_tableIn (tgt := 1014) (off := 981) hx hb dL_law_33 (by rw [c_31]; decide) (by rw [c_31]; decide) (by rw [c_31]; rfl) (by decide) ?_
    exact lc_lots hCE C1 hK h_1 h_2 h_3 h_4 h_5 hk k L G d nn mm kd fg cs ka fa ca lt vl rf yk yf yc tk tf tc le la to kp dd mny ys yl yg yd bb ts tl tg td lz at0 st ik cu nw lo H locs ls hGo hP hD hS hl
  by_cases c_32 : z = 32
  · refine lv_tableIn (tgt := 1057) (off := 1024) hx hb dL_law_33 (by rw [c_32]; decide) (by rw [c_32]; decide) (by rw [c_32]; rfl) (by decide) ?_
    exact lc_image hCE C1 hK h_1 h_2 h_3 h_4 h_5 hk k L G d nn mm kd fg cs ka fa ca lt vl rf yk yf yc tk tf tc le la to kp dd mny ys yl yg yd bb ts tl tg td lz at0 st ik cu nw lo H locs ls hGo hP hD hS hl
  by_cases c_33 : z = 33
  · refine lv_tableIn (tgt := 1070) (off := 1037) hx hb dL_law_33 (by rw [c_33]; decide) (by rw [c_33]; decide) (by rw [c_33]; rfl) (by decide) ?_
    exact lc_on hCE C1 hK h_1 h_2 h_3 h_4 h_5 hk k L G d nn mm kd fg cs ka fa ca lt vl rf yk yf yc tk tf tc le la to kp dd mny ys yl yg yd bb ts tl tg td lz at0 st ik cu nw lo H locs ls hGo hP hD hS hl
  by_cases c_34 : z = 34
  · refine lv_tableIn (tgt := 1083) (off := 1050) hx hb dL_law_33 (by rw [c_34]; decide) (by rw [c_34]; decide) (by rw [c_34]; rfl) (by decide) ?_
    exact lc_count hCE C1 hK h_1 h_2 h_3 h_4 h_5 hk k L G d nn mm kd fg cs ka fa ca lt vl rf yk yf yc tk tf tc le la to kp dd mny ys yl yg yd bb ts tl tg td lz at0 st ik cu nw lo H locs ls hGo hP hD hS hl
  have n_0 : ¬ Int32.toInt z = (0 : Int) := lv_neT (k := 0) c_0 rfl
  have n_1 : ¬ Int32.toInt z = (1 : Int) := lv_neT (k := 1) c_1 rfl
  have n_2 : ¬ Int32.toInt z = (2 : Int) := lv_neT (k := 2) c_2 rfl
  have n_3 : ¬ Int32.toInt z = (3 : Int) := lv_neT (k := 3) c_3 rfl
  have n_4 : ¬ Int32.toInt z = (4 : Int) := lv_neT (k := 4) c_4 rfl
  have n_5 : ¬ Int32.toInt z = (5 : Int) := lv_neT (k := 5) c_5 rfl
  have n_6 : ¬ Int32.toInt z = (6 : Int) := lv_neT (k := 6) c_6 rfl
  have n_7 : ¬ Int32.toInt z = (7 : Int) := lv_neT (k := 7) c_7 rfl
  have n_8 : ¬ Int32.toInt z = (8 : Int) := lv_neT (k := 8) c_8 rfl
  have n_9 : ¬ Int32.toInt z = (9 : Int) := lv_neT (k := 9) c_9 rfl
  have n_10 : ¬ Int32.toInt z = (10 : Int) := lv_neT (k := 10) c_10 rfl
  have n_11 : ¬ Int32.toInt z = (11 : Int) := lv_neT (k := 11) c_11 rfl
  have n_12 : ¬ Int32.toInt z = (12 : Int) := lv_neT (k := 12) c_12 rfl
  have n_13 : ¬ Int32.toInt z = (13 : Int) := lv_neT (k := 13) c_13 rfl
  have n_14 : ¬ Int32.toInt z = (14 : Int) := lv_neT (k := 14) c_14 rfl
  have n_15 : ¬ Int32.toInt z = (15 : Int) := lv_neT (k := 15) c_15 rfl
  have n_16 : ¬ Int32.toInt z = (16 : Int) := lv_neT (k := 16) c_16 rfl
  have n_17 : ¬ Int32.toInt z = (17 : Int) := lv_neT (k := 17) c_17 rfl
  have n_18 : ¬ Int32.toInt z = (18 : Int) := lv_neT (k := 18) c_18 rfl
  have n_19 : ¬ Int32.toInt z = (19 : Int) := lv_neT (k := 19) c_19 rfl
  have n_20 : ¬ Int32.toInt z = (20 : Int) := lv_neT (k := 20) c_20 rfl
  have n_21 : ¬ Int32.toInt z = (21 : Int) := lv_neT (k := 21) c_21 rfl
  have n_22 : ¬ Int32.toInt z = (22 : Int) := lv_neT (k := 22) c_22 rfl
  have n_23 : ¬ Int32.toInt z = (23 : Int) := lv_neT (k := 23) c_23 rfl
  have n_24 : ¬ Int32.toInt z = (24 : Int) := lv_neT (k := 24) c_24 rfl
  have n_25 : ¬ Int32.toInt z = (25 : Int) := lv_neT (k := 25) c_25 rfl
  have n_26 : ¬ Int32.toInt z = (26 : Int) := lv_neT (k := 26) c_26 rfl
  have n_27 : ¬ Int32.toInt z = (27 : Int) := lv_neT (k := 27) c_27 rfl
  have n_28 : ¬ Int32.toInt z = (28 : Int) := lv_neT (k := 28) c_28 rfl
  have n_29 : ¬ Int32.toInt z = (29 : Int) := lv_neT (k := 29) c_29 rfl
  have n_30 : ¬ Int32.toInt z = (30 : Int) := lv_neT (k := 30) c_30 rfl
  have n_31 : ¬ Int32.toInt z = (31 : Int) := lv_neT (k := 31) c_31 rfl
  have n_32 : ¬ Int32.toInt z = (32 : Int) := lv_neT (k := 32) c_32 rfl
  have n_33 : ¬ Int32.toInt z = (33 : Int) := lv_neT (k := 33) c_33 rfl
  have n_34 : ¬ Int32.toInt z = (34 : Int) := lv_neT (k := 34) c_34 rfl
  refine lv_tableOut (tgt := 1106) hx hb dL_law_33 (by omega) (by decide) ?_
  exact hk k L G d nn mm kd fg cs ka fa ca lt vl rf yk yf yc tk tf tc le la to kp dd mny ys yl yg yd bb ts tl tg td lz at0 st ik cu nw lo H locs ls hGo hP hD hS hl
theorem law_loop {p : Program} {l : Launch} {e : Env} {s : State} {m : MethodId} {below : List Frame} {meth : Method} {c : Code} {D : va_G} {cA : ClassId} {sa sv : Nat → Nat} {b Ls : Nat} {xs : Nat → Int32} {a : Nat → Nat} {CE SL : Nat} (hCE : CE ≤ room_1.cells ∧ SL ≤ room_1.slots) (C0 : lw_At p s m meth c b Ls xs) (hK : xk_K D cA sa sv (fun q : Nat => s.heap.size ≤ q) s s.heap) (hLs : Ls ≤ 3072) : ∀ (n i : Nat), i < 10000 → Ls < i + n → KK p l e s m below meth c (lw_Z below #[Value.ref b] s) D cA b a (nI i) CE SL 18 := by
  have C1 := C0
  obtain ⟨hx, hb, hr, hml, hown, hts, hX, hbl, hlocks, hgv⟩ := C0
  have hbA : ¬ (fun q : Nat => s.heap.size ≤ q) b := Nat.not_le.mpr hbl
  have hd : ∀ (i : Nat), i < 10000 → (i + 6 ≤ Ls → KK p l e s m below meth c (lw_Z below #[Value.ref b] s) D cA b a (nI i) CE SL 27) → KK p l e s m below meth c (lw_Z below #[Value.ref b] s) D cA b a (nI i) CE SL 18 := by
    intro i hi hgo k L G d nn mm kd fg cs ka fa ca lt vl rf yk yf yc tk tf tc le la to kp dd mny ys yl yg yd bb ts tl tg td lz at0 st ik cu nw lo H locs ls hGo hP hD hS hl
    refine lv_iload_n hx hb dL_law_18 rfl (lv_at hl 3 rfl) ?_
    refine lv_aload_n hx hb dL_law_19 rfl (lv_at hl 0 rfl) ?_
    refine va_slen hx hb hX hbl hbA hS dL_law_20 ?_
    refine lv_bipush (v := 6) hx hb dL_law_21 (by decide) ?_
    refine lv_isub hx hb dL_law_23 ?_
    refine lv_icmp_gt (tgt := 1112) hx hb dL_law_24 (by decide) (fun c_1 => ?_) (fun c_1 => ?_)
    · exact law_stop (sa := sa) (sv := sv) (D := D) (cA := cA) (a := a) (x3 := 0) (k := 0) (L := 0) (G := 0) (d := 0) (nn := 0) (mm := 0) (kd := fun _ => 0) (fg := fun _ => 0) (cs := fun _ => 0) hCE C1 hS
    · have hle : i + 6 ≤ Ls := by
        by_cases h : Ls < i + 6
        · exact absurd ((l6 (by omega) (by omega)).mpr h) c_1
        · omega
      exact hgo hle k L G d nn mm kd fg cs ka fa ca lt vl rf yk yf yc tk tf tc le la to kp dd mny ys yl yg yd bb ts tl tg td lz at0 st ik cu nw lo H locs ls hGo hP hD hS hl
  intro n
  induction n with
  | zero => intro i hi hn; exact hd i hi (fun h => absurd h (by omega))
  | succ n ih =>
    intro i hi hn
    refine hd i hi (fun h => ?_)
    have v : ∀ j, j < 6 → vp_in (nI i + nI j) Ls := fun j hj => by rw [nI_add]; exact vp_in_nI (by omega) (by omega)
    have v0 : vp_in (nI i) Ls := vp_in_nI (by omega) (by omega)
    refine law_go (sa := sa) (sv := sv) hCE C1 hK (v 1 (by omega)) (v 2 (by omega)) (v 3 (by omega)) (v 4 (by omega)) (v 5 (by omega)) v0 ?_
    refine law_next (sa := sa) (sv := sv) hCE C1 ?_
    rw [show nI i + 6 = nI (i + 6) from by rw [show (6 : Int32) = nI 6 from rfl, nI_add]]
    exact ih (i + 6) (by omega) (by omega)
/-- what holds at the law's start of classes, constants, the int arrays' class -/
theorem law_world {p : Program} {s : State} {m : MethodId} {meth : Method} {c : Code} {b Ls : Nat} {xs : Nat → Int32} (C0 : lw_At p s m meth c b Ls xs) : ∃ (D : va_G) (cA : ClassId) (sa sv : Nat → Nat), xk_K D cA sa sv (fun q : Nat => s.heap.size ≤ q) s s.heap := by
  obtain ⟨hx, hb, hr, hml, hown, hts, hX, hbl, hlocks, hgv⟩ := C0
  have hA : ∀ a : Nat, a < s.heap.size → ¬ (fun q : Nat => s.heap.size ≤ q) a := fun a h z => absurd h (Nat.not_lt.mpr z)
  have hf := flat_of_before _ hgv
  obtain ⟨c0, iS0, k0⟩ := u_known (C := RX3) (T := TX3) (N := 1) (n := 1) hts inX3 (hts (.instantiable RX3 1) (tb_1 (List.mem_of_getElem? (i := 106) (by decide +kernel))))
  obtain ⟨c1, iS1, k1⟩ := u_known (C := RX5) (T := TX5) (N := 2) (n := 2) hts inX5 (hts (.instantiable RX5 2) (tb_1 (List.mem_of_getElem? (i := 92) (by decide +kernel))))
  obtain ⟨c2, iS2, k2⟩ := u_known (C := RX7) (T := TX7) (N := 7) (n := 7) hts inX7 (hts (.instantiable RX7 7) (tb_1 (List.mem_of_getElem? (i := 28) (by decide +kernel))))
  obtain ⟨c3, iS3, k3⟩ := u_known (C := RX8) (T := TX8) (N := 2) (n := 2) hts inX8 (hts (.instantiable RX8 2) (tb_1 (List.mem_of_getElem? (i := 78) (by decide +kernel))))
  obtain ⟨c4, iS4, k4⟩ := u_known (C := RX9) (T := TX9) (N := 8) (n := 8) hts inX9 (hts (.instantiable RX9 8) (tb_1 (List.mem_of_getElem? (i := 20) (by decide +kernel))))
  obtain ⟨c5, iS5, k5⟩ := u_known (C := RX10) (T := TX10) (N := 25) (n := 25) hts inX10 (hts (.instantiable RX10 25) (tb_4 (List.mem_of_getElem? (i := 4) (by decide +kernel))))
  obtain ⟨cA, kA, comp, g1, g2, g3⟩ := Cond.arrayClass_spec (type := .int) (hts (.arrayClass .int) (tb_1 (List.mem_of_getElem? (i := 76) (by decide +kernel))))
  have hstr := hts (.stringRef RX8 35 "nshbkw") (tb_1 (List.mem_of_getElem? (i := 178) (by decide +kernel)))
  have F0_ : (Cond.exactly (.string RX8 35) "java/lang/String").before #[Value.ref b] s = true := hf _ (by decide +kernel)
  have F1_ : (Cond.eq (.field (.string RX8 35) "java/lang/String" "coder" "B") (.int 0)).before #[Value.ref b] s = true := hf _ (by decide +kernel)
  have F2_ : (Cond.arrayOf (.field (.string RX8 35) "java/lang/String" "value" "[B") .byte).before #[Value.ref b] s = true := hf _ (by decide +kernel)
  have F3_ : (Cond.eq (.length (.field (.string RX8 35) "java/lang/String" "value" "[B")) (.int 6)).before #[Value.ref b] s = true := hf _ (by decide +kernel)
  have F4_ : (Cond.eq (.elem (.field (.string RX8 35) "java/lang/String" "value" "[B") (.int 0)) (.int 110)).before #[Value.ref b] s = true := hf _ (by decide +kernel)
  have F5_ : (Cond.eq (.elem (.field (.string RX8 35) "java/lang/String" "value" "[B") (.int 1)) (.int 115)).before #[Value.ref b] s = true := hf _ (by decide +kernel)
  have F6_ : (Cond.eq (.elem (.field (.string RX8 35) "java/lang/String" "value" "[B") (.int 2)) (.int 104)).before #[Value.ref b] s = true := hf _ (by decide +kernel)
  have F7_ : (Cond.eq (.elem (.field (.string RX8 35) "java/lang/String" "value" "[B") (.int 3)) (.int 98)).before #[Value.ref b] s = true := hf _ (by decide +kernel)
  have F8_ : (Cond.eq (.elem (.field (.string RX8 35) "java/lang/String" "value" "[B") (.int 4)) (.int 107)).before #[Value.ref b] s = true := hf _ (by decide +kernel)
  have F9_ : (Cond.eq (.elem (.field (.string RX8 35) "java/lang/String" "value" "[B") (.int 5)) (.int 119)).before #[Value.ref b] s = true := hf _ (by decide +kernel)
  have F10_ : (Cond.eq (.static "java/lang/String" "COMPACT_STRINGS" "Z") (.int 1)).before #[Value.ref b] s = true := hf _ (by decide +kernel)
  obtain ⟨sa, sv, hvS, hev⟩ := vk_Sof (args := #[Value.ref b]) (s := s) (N := 1) (tm := fun _ => Term.string RX8 35) (len := [6]) (byt := [[110, 115, 104, 98, 107, 119]]) (A := fun q : Nat => s.heap.size ≤ q)
    (fun i hi => by have : i = 0 := by omega
                    subst this; decide) (fun _ _ => F0_) (fun _ _ => F1_) (fun _ _ => F2_)
    (fun i hi => by have : i = 0 := by omega
                    subst this; exact F3_)
    (fun i hi j hj => by
      have : i = 0 := by omega
      subst this
      have hj : j < 6 := hj
      rcases (show j = 0 ∨ j = 1 ∨ j = 2 ∨ j = 3 ∨ j = 4 ∨ j = 5 by omega) with rfl | rfl | rfl | rfl | rfl | rfl
      · exact F4_
      · exact F5_
      · exact F6_
      · exact F7_
      · exact F8_
      · exact F9_)
    (fun i j hi hj h => absurd (show i = j by omega) h) hA
  refine ⟨(fun k => match k with | 0 => c0 | 1 => c1 | 2 => c2 | 3 => c3 | 4 => c4 | _ => c5, fun k => match k with | 0 => iS0 | 1 => iS1 | 2 => iS2 | 3 => iS3 | 4 => iS4 | _ => iS5), cA, sa, sv, ⟨?_, ?_⟩, ?_, ?_, hvS, ?_⟩
  · intro k q hq
    match k, hq with
    | 0, hq => cases hq; exact k0
    | 1, hq => cases hq; exact k1
    | 2, hq => cases hq; exact k2
    | 3, hq => cases hq; exact k3
    | 4, hq => cases hq; exact k4
    | 5, hq => cases hq; exact k5
    | k + 6, hq => simp [vwCl] at hq
  · intro k q hq
    match k, hq with
    | 0, hq => cases hq; exact ⟨fun n z => ⟨fun k h => (by cases h), kA, g2, comp, g3⟩, g1⟩
    | k + 1, hq => simp at hq
  · intro w hw
    exact va_Nw.of (List.all_eq_true.mp (show xk_nest.all (fun w => w.onTables) = true from by decide +kernel) w hw) (hts w (List.mem_append_right _ (mem_r (big := tables_1) xk_nest [42, 50, 56, 45, 51, 57, 43, 38, 48, 54, 44, 39, 46, 52, 59, 36, 58, 47, 40, 99, 60, 53, 85, 107] (by decide +kernel) w hw)))
  · exact vk_R.of hstr (hev 0 Nat.zero_lt_one)
  · exact va_Zof (hts (.laysStatic "java/lang/String" "COMPACT_STRINGS" "Z") (tb_1 (List.mem_of_getElem? (i := 192) (by decide +kernel)))) (hts (.initialized "java/lang/String") (tb_1 (List.mem_of_getElem? (i := 7) (by decide +kernel)))) (va_eqi F10_) hA
theorem GO_0 : GO 0 (fun _ => 0) (fun _ => 0) (fun _ => 0) 0 0 0 (fun _ => 0) (fun _ => 0) (fun _ => 0) (fun _ => 0) 0 (fun _ => 0) 0 0 (fun _ => 0) (fun _ => 0) (fun _ => 0) 0 0 0 0 (fun _ => 0) :=
  ⟨⟨Nat.zero_le _, fun i h => absurd h (Nat.not_lt_zero i)⟩, Nat.one_pos, Nat.one_pos, Nat.zero_le _, LT0 _, RW0 _, Or.inl rfl⟩
set_option maxHeartbeats 4000000 in
set_option maxRecDepth 100000 in
theorem whole_start {p : Program} {e : Env} {s : State} {m : MethodId} {below : List Frame} {meth : Method} {c : Code} (l : Launch) (hflags : l.flags = flags0) {b L : Nat} {xs : Nat → Int32} (hL : L ≤ 3072) (C0 : lw_At p s m meth c b L xs) : W p l e room_1 s m #[Value.ref b] below meth c s.heap [] 0 0 (lw_Z below #[Value.ref b] s) (entryFrame m ([Value.ref b] : List Value).toArray 4) := by
  have C1 := C0
  obtain ⟨D, cA, sa, sv, hK⟩ := law_world C0
  obtain ⟨hx, hb, hr, hml, hown, hts, hX, hbl, hlocks, hgv⟩ := C0
  have S : CallFix p m c cL_law 4 s #[Value.ref b] lw_tbl RL := ⟨hx, hb, hml, hown, hts⟩
  have hA : ∀ q : Nat, s.heap.size ≤ q → (fun q : Nat => s.heap.size ≤ q) q := fun _ h => h
  have hS : va_S (fun q : Nat => s.heap.size ≤ q) s.heap s.heap [] := va_S.rf
  have hP : va_P D vwCl [] s.heap := fun k q h => by simp at h
  have hD : va_D (fun q : Nat => s.heap.size ≤ q) [] := ⟨fun i j p q h => by simp at h, fun k q h => by simp at h⟩
  have hl := lv_entry ([.ref b]) (n := 4) (Nat.le_of_ble_eq_true rfl)
  rw [lg_entry_eq]
  generalize (lg_sl ([.ref b]) ++ List.replicate (4 - (lg_sl ([.ref b])).length) Slot.unset).toArray = ls at hl ⊢
  have hl : lv_has ls 4 [(0, .ref b)] := hl
  refine va_new (ci := 4) (fs := [.null, .null, .null, .null, .null, .null, .null, .int 0]) (C := RX9) (T := TX9) (N := 8) hx hb hts inX9 tyX9 tyX9_ok hown (hts (.classLink RL 7 RX9) (tb_1 (List.mem_of_getElem? (i := 19) (by decide +kernel)))) (hts (.instantiable RX9 8) (tb_1 (List.mem_of_getElem? (i := 20) (by decide +kernel)))) (hts (.initialized RX9) (tb_1 (List.mem_of_getElem? (i := 1) (by decide +kernel)))) hK.1 hP hD hS hA rfl (fun j hj => by rcases (show j = 0 ∨ j = 1 ∨ j = 2 ∨ j = 3 ∨ j = 4 ∨ j = 5 ∨ j = 6 ∨ j = 7 by omega) with rfl | rfl | rfl | rfl | rfl | rfl | rfl | rfl <;> rfl) (Nat.le_of_ble_eq_true rfl) (Nat.le_of_ble_eq_true rfl) dL_law_0 (fun q0 H hP hD hS => ?_)
  have hP : va_P D vwCl [(q0, .inr (4, [.null, .null, .null, .null, .null, .null, .null, .int 0]))] H := hP
  have hD : va_D (fun q : Nat => s.heap.size ≤ q) [(q0, .inr (4, [.null, .null, .null, .null, .null, .null, .null, .int 0]))] := hD
  refine W.widen (k := 1) (n := 8) (by omega) (by omega) ?_
  refine lv_dup hx hb dL_law_3 rfl ?_
  refine xk_I (mc := 18) (ms := 226) (rest := [.ref q0]) (wr := []) gl_X9_init rfl (hts (.initialized RX9) (tb_1 (List.mem_of_getElem? (i := 1) (by decide +kernel)))) (hts (.methodLink RL 9 yX9_init) (tb_1 (List.mem_of_getElem? (i := 21) (by decide +kernel)))) (hts (.instanceMethod yX9_init) (tb_1 (List.mem_of_getElem? (i := 22) (by decide +kernel)))) rfl hdI_X9 rfl rfl (c_X9_init l D cA sa sv q0 _) S hK hP hD hS hA [0] [] rfl rfl rfl rfl rfl ⟨Nat.le_of_ble_eq_true rfl, Nat.le_of_ble_eq_true rfl⟩ ⟨Nat.le_of_ble_eq_true rfl, Nat.le_of_ble_eq_true rfl⟩ hl.1 rfl (Nat.le_of_ble_eq_true rfl) dL_law_4 (fun w1 H locs hw1 hP hD hS => ?_)
  obtain ⟨b1, b2, b3, b4, b5, b6, b7, b8, b9, b10, b11, b12, b13, b14, b15, b16, b17, b18, rfl⟩ := hw1
  have hP : va_P D vwCl (wX9 cA q0 b1 b2 b3 b4 b5 b6 b7 b8 b9 b10 b11 b12 b13 b14 b15 b16 b17 b18 (fun _ => 0) (fun _ => 0) (fun _ => 0) 0 0 0 0 (fun _ => 0) (fun _ => 0) (fun _ => 0) 0 0 0 0 (fun _ => 0) (fun _ => 0) (fun _ => 0) 0 0 0 0 (fun _ => 0) 0 (fun _ => 0) 0 0 (fun _ => 0) 0) H := hP
  have hD : va_D (fun q : Nat => s.heap.size ≤ q) (wX9 cA q0 b1 b2 b3 b4 b5 b6 b7 b8 b9 b10 b11 b12 b13 b14 b15 b16 b17 b18 (fun _ => 0) (fun _ => 0) (fun _ => 0) 0 0 0 0 (fun _ => 0) (fun _ => 0) (fun _ => 0) 0 0 0 0 (fun _ => 0) (fun _ => 0) (fun _ => 0) 0 0 0 0 (fun _ => 0) 0 (fun _ => 0) 0 0 (fun _ => 0) 0) := hD
  refine W.widen (k := 19) (n := 234) (by omega) (by omega) ?_
  refine lv_astore_n (lv' := [(1, .ref q0), (0, .ref b)]) hx hb dL_law_7 rfl hl (by decide) rfl (fun ls hl => ?_)
  refine va_new (ci := 5) (fs := [.null, .null, .null, .null, .int 0, .int 0, .int 0, .int 0, .null, .null, .null, .null, .int 0, .int 0, .int 0, .null, .int 0, .int 0, .int 0, .null, .int 0, .null, .null, .int 0, .int 0]) (C := RX10) (T := TX10) (N := 25) hx hb hts inX10 tyX10 tyX10_ok hown (hts (.classLink RL 10 RX10) (tb_4 (List.mem_of_getElem? (i := 3) (by decide +kernel)))) (hts (.instantiable RX10 25) (tb_4 (List.mem_of_getElem? (i := 4) (by decide +kernel)))) (hts (.initialized RX10) (tb_1 (List.mem_of_getElem? (i := 6) (by decide +kernel)))) hK.1 hP hD hS hA rfl (fun j hj => by rcases (show j = 0 ∨ j = 1 ∨ j = 2 ∨ j = 3 ∨ j = 4 ∨ j = 5 ∨ j = 6 ∨ j = 7 ∨ j = 8 ∨ j = 9 ∨ j = 10 ∨ j = 11 ∨ j = 12 ∨ j = 13 ∨ j = 14 ∨ j = 15 ∨ j = 16 ∨ j = 17 ∨ j = 18 ∨ j = 19 ∨ j = 20 ∨ j = 21 ∨ j = 22 ∨ j = 23 ∨ j = 24 by omega) with rfl | rfl | rfl | rfl | rfl | rfl | rfl | rfl | rfl | rfl | rfl | rfl | rfl | rfl | rfl | rfl | rfl | rfl | rfl | rfl | rfl | rfl | rfl | rfl | rfl <;> rfl) (Nat.le_of_ble_eq_true rfl) (Nat.le_of_ble_eq_true rfl) dL_law_8 (fun q1 H hP hD hS => ?_)
  refine W.widen (k := 20) (n := 259) (by omega) (by omega) ?_
  refine lv_dup hx hb dL_law_11 rfl ?_
  refine xk_I (mc := 12) (ms := 444) (rest := [.ref q1]) (wr := wX9 cA q0 b1 b2 b3 b4 b5 b6 b7 b8 b9 b10 b11 b12 b13 b14 b15 b16 b17 b18 (fun _ => 0) (fun _ => 0) (fun _ => 0) 0 0 0 0 (fun _ => 0) (fun _ => 0) (fun _ => 0) 0 0 0 0 (fun _ => 0) (fun _ => 0) (fun _ => 0) 0 0 0 0 (fun _ => 0) 0 (fun _ => 0) 0 0 (fun _ => 0) 0) gl_X10_init rfl (hts (.initialized RX10) (tb_1 (List.mem_of_getElem? (i := 6) (by decide +kernel)))) (hts (.methodLink RL 12 yX10_init) (tb_4 (List.mem_of_getElem? (i := 5) (by decide +kernel)))) (hts (.instanceMethod yX10_init) (tb_4 (List.mem_of_getElem? (i := 6) (by decide +kernel)))) rfl hdI_X10 rfl rfl (c_X10_init l D cA sa sv q1 _) S hK hP hD hS hA [19] [0, 1, 2, 3, 4, 5, 6, 7, 8, 9, 10, 11, 12, 13, 14, 15, 16, 17, 18] rfl rfl rfl rfl rfl ⟨Nat.le_of_ble_eq_true rfl, Nat.le_of_ble_eq_true rfl⟩ ⟨Nat.le_of_ble_eq_true rfl, Nat.le_of_ble_eq_true rfl⟩ hl.1 rfl (Nat.le_of_ble_eq_true rfl) dL_law_12 (fun w1 H locs hw1 hP hD hS => ?_)
  obtain ⟨e1, e2, e3, e4, e5, e6, e7, e8, e9, e10, e11, e12, rfl⟩ := hw1
  refine W.widen (k := 32) (n := 703) (by omega) (by omega) ?_
  refine lv_astore_n (lv' := [(2, .ref q1), (1, .ref q0), (0, .ref b)]) hx hb dL_law_15 rfl hl (by decide) rfl (fun ls hl => ?_)
  refine lv_iconst (v := 0) hx hb dL_law_16 (by decide) ?_
  refine lv_istore_n (lv' := [(3, .int 0), (2, .ref q1), (1, .ref q0), (0, .ref b)]) hx hb dL_law_17 rfl hl (by decide) rfl (fun ls hl => ?_)
  have hk := law_loop (sa := sa) (sv := sv) (l := l) (e := e) (below := below) (D := D) (cA := cA) (a := fun j => ([q0, b1, b2, b3, b4, b5, b6, b7, b8, b9, b10, b11, b12, b13, b14, b15, b16, b17, b18, q1, e1, e2, e3, e4, e5, e6, e7, e8, e9, e10, e11, e12] : List Nat).getD j 0) (CE := 32) (SL := 703) ⟨Nat.le_of_ble_eq_true rfl, Nat.le_of_ble_eq_true rfl⟩ C1 hK hL 4000 0 (by omega) (by omega)
  exact hk 0 0 0 0 0 0 (fun _ => 0) (fun _ => 0) (fun _ => 0) (fun _ => 0) (fun _ => 0) (fun _ => 0) (fun _ => 0) (fun _ => 0) (fun _ => 0) (fun _ => 0) (fun _ => 0) (fun _ => 0) (fun _ => 0) (fun _ => 0) (fun _ => 0) (fun _ => 0) (fun _ => 0) (fun _ => 0) (fun _ => 0) (fun _ => 0) (fun _ => 0) 0 0 0 0 0 0 0 0 0 0 0 0 0 0 0 0 H locs ls GO_0 hP hD hS (lv_sub hl [3, 2, 1, 0] rfl)
