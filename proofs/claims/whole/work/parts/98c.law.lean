/-! the law: its cases 14 to 20 -/
set_option maxHeartbeats 4000000 in
set_option maxRecDepth 100000 in
theorem law_empty {ta adK adV : Nat → Nat} {l : Launch} {D : va_G} {cI cB cG cS cC : ClassId} {ad am : Nat → Nat} {p : Program} {e : Env} {s : State} {m : MethodId} {args : Array Value} {below : List Frame} {meth : Method} {c : Code} {A : Nat → Prop} {Q : State → Prop} {H : Heap} {locs : List Loc} {ls : Array Slot} {b L i : Nat} {ss : Nat → Int32} (C0 : CX (XC ta adK adV) p s m args meth c code 4 ret RL A) (hX : va_X b L ss s s.heap) (hbl : b < s.heap.size) (hbA : ¬ A b) (hL : L ≤ 3072) (hi : i + 6 ≤ L) (hW : LW (XC ta adK adV) D cI cB cG cS cC ad am A s H locs) (hl : lv_has ls 4 [(3, .int (nI i)), (2, .ref (am 0)), (1, .ref (ad 0)), (0, .ref b)]) (kk : ∀ (H : Heap) (locs : List Loc), LW (XC ta adK adV) D cI cB cG cS cC ad am A s H locs → W p l e room_1 s m args below meth c H locs 600000 7302250 Q (F0 m 1426 ls [])) : W p l e room_1 s m args below meth c H locs 600000 7302250 Q (F0 m 634 ls []) := by
  have hx := C0.1
  have hb := C0.2.1
  obtain ⟨hp1, st1, tr1, sp1, vis1, day1, z1, hp2, st2, tr2, sp2, vis2, day2, z2, hp3, st3, tr3, sp3, vis3, day3, z3, tb, tl, rtok, rbg, ren, rvl, shn, shb, shz, fd, isK, xs, xkept, xaside, xisK, xfound, xgone, xover, xtape, xtaped, xtok, xbeg, xend, xval, xwid, xsiz, xcel, xcar, ⟨hP, hK, hF, rfl, hT, hS⟩, G⟩ := hW
  obtain ⟨r, o1, o2, o3, o4, o5, o6, o7, o8, x1, x2, x3, x4, h4, h5, nP, nF⟩ := op_empty (xa := xaside) (ov := xover) (hp3 := hp3) (st3 := st3) (tr3 := tr3) (sp3 := sp3) (vis3 := vis3) (day3 := day3) (z3 := z3) hP hF 
  refine lv_aload_n hx hb dL_law_634 rfl (lv_at hl 2 rfl) ?_
  refine l_goi C0 G sSM (l_runV (tys' := tyC cI cB cG cS) (As := []) (rest := []) (n := 0) (q0 := 0) C0 G sSM xc_xs XS_ok [0, 1, 2, 3] rfl (c4_empty XS_ok h4) q407 q49 q404 q405 q406 o4_empty ⟨rfl, rfl⟩ ⟨Nat.le_of_ble_eq_true rfl, Nat.le_of_ble_eq_true rfl⟩ rfl rfl rfl hl.1 rfl (Nat.le_of_ble_eq_true rfl) dL_law_635 ⟨Nat.le_of_ble_eq_true rfl, Nat.le_of_ble_eq_true rfl⟩) (fun H locs G => ?_)
  refine lv_aload_n hx hb dL_law_638 rfl (lv_at hl 1 rfl) ?_
  refine l_goi C0 G sMS (l_runV (tys' := tyM cI cC) (As := []) (rest := [.int r]) (n := 0) (q0 := 0) C0 G sMS x_x0 X0_ok [0, 4] rfl (c5_empty X0_ok h5) q951 q54 q948 q949 q950 o5_empty ⟨rfl, rfl⟩ ⟨Nat.le_of_ble_eq_true rfl, Nat.le_of_ble_eq_true rfl⟩ rfl rfl rfl hl.1 rfl (Nat.le_of_ble_eq_true rfl) dL_law_639 ⟨Nat.le_of_ble_eq_true rfl, Nat.le_of_ble_eq_true rfl⟩) (fun H locs G => ?_)
  refine lv_icmp_eq (tgt := 1426) hx hb dL_law_642 (by decide) (fun _ => ?_) (fun h => absurd rfl h)
  exact kk H locs ⟨_, _, _, _, _, _, _, _, _, _, _, _, _, _, _, _, _, _, _, _, _, _, _, _, _, _, _, _, _, _, _, _, _, _, _, _, _, _, _, _, _, _, _, _, _, _, _, _, _, ⟨nP, hK, nF, rfl, hT, hS⟩, G⟩
set_option maxHeartbeats 4000000 in
set_option maxRecDepth 100000 in
theorem law_fromFor {ta adK adV : Nat → Nat} {l : Launch} {D : va_G} {cI cB cG cS cC : ClassId} {ad am : Nat → Nat} {p : Program} {e : Env} {s : State} {m : MethodId} {args : Array Value} {below : List Frame} {meth : Method} {c : Code} {A : Nat → Prop} {Q : State → Prop} {H : Heap} {locs : List Loc} {ls : Array Slot} {b L i : Nat} {ss : Nat → Int32} (C0 : CX (XC ta adK adV) p s m args meth c code 4 ret RL A) (hX : va_X b L ss s s.heap) (hbl : b < s.heap.size) (hbA : ¬ A b) (hL : L ≤ 3072) (hi : i + 6 ≤ L) (hW : LW (XC ta adK adV) D cI cB cG cS cC ad am A s H locs) (hl : lv_has ls 4 [(3, .int (nI i)), (2, .ref (am 0)), (1, .ref (ad 0)), (0, .ref b)]) (kk : ∀ (H : Heap) (locs : List Loc), LW (XC ta adK adV) D cI cB cG cS cC ad am A s H locs → W p l e room_1 s m args below meth c H locs 600000 7302250 Q (F0 m 1426 ls [])) : W p l e room_1 s m args below meth c H locs 600000 7302250 Q (F0 m 647 ls []) := by
  have hx := C0.1
  have hb := C0.2.1
  obtain ⟨hp1, st1, tr1, sp1, vis1, day1, z1, hp2, st2, tr2, sp2, vis2, day2, z2, hp3, st3, tr3, sp3, vis3, day3, z3, tb, tl, rtok, rbg, ren, rvl, shn, shb, shz, fd, isK, xs, xkept, xaside, xisK, xfound, xgone, xover, xtape, xtaped, xtok, xbeg, xend, xval, xwid, xsiz, xcel, xcar, ⟨hP, hK, hF, rfl, hT, hS⟩, G⟩ := hW
  obtain ⟨r, o1, o2, o3, o4, o5, o6, o7, o8, x1, x2, x3, x4, h4, h5, nP, nF⟩ := op_fromFor (xa := xaside) (ov := xover) (hp3 := hp3) (st3 := st3) (tr3 := tr3) (sp3 := sp3) (vis3 := vis3) (day3 := day3) (z3 := z3) hP hF (ss (i + 1)) (ss (i + 2))
  refine lv_aload_n hx hb dL_law_647 rfl (lv_at hl 2 rfl) ?_
  refine l_arg (k := 1) C0 G.2.2.2.1 hX hbl hbA hL hl (by omega) dL_law_648 dL_law_649 dL_law_650 (by decide) dL_law_651 dL_law_652 ?_
  refine l_arg (k := 2) C0 G.2.2.2.1 hX hbl hbA hL hl (by omega) dL_law_653 dL_law_654 dL_law_655 (by decide) dL_law_656 dL_law_657 ?_
  refine l_goi C0 G sSM (l_runV (tys' := tyC cI cB cG cS) (As := [.int (ss (i + 1)), .int (ss (i + 2))]) (rest := []) (n := 2) (q0 := 0) C0 G sSM xc_xs XS_ok [0, 1, 2, 3] rfl (c4_fromFor XS_ok h4) q411 q49 q408 q409 q410 o4_fromFor ⟨rfl, rfl⟩ ⟨Nat.le_of_ble_eq_true rfl, Nat.le_of_ble_eq_true rfl⟩ rfl rfl rfl hl.1 rfl (Nat.le_of_ble_eq_true rfl) dL_law_658 ⟨Nat.le_of_ble_eq_true rfl, Nat.le_of_ble_eq_true rfl⟩) (fun H locs G => ?_)
  refine lv_aload_n hx hb dL_law_661 rfl (lv_at hl 1 rfl) ?_
  refine l_arg (k := 1) C0 G.2.2.2.1 hX hbl hbA hL hl (by omega) dL_law_662 dL_law_663 dL_law_664 (by decide) dL_law_665 dL_law_666 ?_
  refine l_arg (k := 2) C0 G.2.2.2.1 hX hbl hbA hL hl (by omega) dL_law_667 dL_law_668 dL_law_669 (by decide) dL_law_670 dL_law_671 ?_
  refine l_goi C0 G sMS (l_runV (tys' := tyM cI cC) (As := [.int (ss (i + 1)), .int (ss (i + 2))]) (rest := [.int r]) (n := 2) (q0 := 0) C0 G sMS x_x0 X0_ok [0, 4] rfl (c5_fromFor X0_ok h5) q955 q54 q952 q953 q954 o5_fromFor ⟨rfl, rfl⟩ ⟨Nat.le_of_ble_eq_true rfl, Nat.le_of_ble_eq_true rfl⟩ rfl rfl rfl hl.1 rfl (Nat.le_of_ble_eq_true rfl) dL_law_672 ⟨Nat.le_of_ble_eq_true rfl, Nat.le_of_ble_eq_true rfl⟩) (fun H locs G => ?_)
  refine lv_icmp_eq (tgt := 1426) hx hb dL_law_675 (by decide) (fun _ => ?_) (fun h => absurd rfl h)
  exact kk H locs ⟨_, _, _, _, _, _, _, _, _, _, _, _, _, _, _, _, _, _, _, _, _, _, _, _, _, _, _, _, _, _, _, _, _, _, _, _, _, _, _, _, _, _, _, _, _, _, _, _, _, ⟨nP, hK, nF, rfl, hT, hS⟩, G⟩
set_option maxHeartbeats 4000000 in
set_option maxRecDepth 100000 in
theorem law_wideFor {ta adK adV : Nat → Nat} {l : Launch} {D : va_G} {cI cB cG cS cC : ClassId} {ad am : Nat → Nat} {p : Program} {e : Env} {s : State} {m : MethodId} {args : Array Value} {below : List Frame} {meth : Method} {c : Code} {A : Nat → Prop} {Q : State → Prop} {H : Heap} {locs : List Loc} {ls : Array Slot} {b L i : Nat} {ss : Nat → Int32} (C0 : CX (XC ta adK adV) p s m args meth c code 4 ret RL A) (hX : va_X b L ss s s.heap) (hbl : b < s.heap.size) (hbA : ¬ A b) (hL : L ≤ 3072) (hi : i + 6 ≤ L) (hW : LW (XC ta adK adV) D cI cB cG cS cC ad am A s H locs) (hl : lv_has ls 4 [(3, .int (nI i)), (2, .ref (am 0)), (1, .ref (ad 0)), (0, .ref b)]) (kk : ∀ (H : Heap) (locs : List Loc), LW (XC ta adK adV) D cI cB cG cS cC ad am A s H locs → W p l e room_1 s m args below meth c H locs 600000 7302250 Q (F0 m 1426 ls [])) : W p l e room_1 s m args below meth c H locs 600000 7302250 Q (F0 m 680 ls []) := by
  have hx := C0.1
  have hb := C0.2.1
  obtain ⟨hp1, st1, tr1, sp1, vis1, day1, z1, hp2, st2, tr2, sp2, vis2, day2, z2, hp3, st3, tr3, sp3, vis3, day3, z3, tb, tl, rtok, rbg, ren, rvl, shn, shb, shz, fd, isK, xs, xkept, xaside, xisK, xfound, xgone, xover, xtape, xtaped, xtok, xbeg, xend, xval, xwid, xsiz, xcel, xcar, ⟨hP, hK, hF, rfl, hT, hS⟩, G⟩ := hW
  obtain ⟨r, o1, o2, o3, o4, o5, o6, o7, o8, x1, x2, x3, x4, h4, h5, nP, nF⟩ := op_wideFor (xa := xaside) (ov := xover) (hp3 := hp3) (st3 := st3) (tr3 := tr3) (sp3 := sp3) (vis3 := vis3) (day3 := day3) (z3 := z3) hP hF (ss (i + 1)) (ss (i + 2)) (ss (i + 3))
  refine lv_aload_n hx hb dL_law_680 rfl (lv_at hl 2 rfl) ?_
  refine l_arg (k := 1) C0 G.2.2.2.1 hX hbl hbA hL hl (by omega) dL_law_681 dL_law_682 dL_law_683 (by decide) dL_law_684 dL_law_685 ?_
  refine l_arg (k := 2) C0 G.2.2.2.1 hX hbl hbA hL hl (by omega) dL_law_686 dL_law_687 dL_law_688 (by decide) dL_law_689 dL_law_690 ?_
  refine l_arg (k := 3) C0 G.2.2.2.1 hX hbl hbA hL hl (by omega) dL_law_691 dL_law_692 dL_law_693 (by decide) dL_law_694 dL_law_695 ?_
  refine l_goi C0 G sSM (l_runV (tys' := tyC cI cB cG cS) (As := [.int (ss (i + 1)), .int (ss (i + 2)), .int (ss (i + 3))]) (rest := []) (n := 3) (q0 := 0) C0 G sSM xc_xs XS_ok [0, 1, 2, 3] rfl (c4_wideFor XS_ok h4) q423 q49 q420 q421 q422 o4_wideFor ⟨rfl, rfl⟩ ⟨Nat.le_of_ble_eq_true rfl, Nat.le_of_ble_eq_true rfl⟩ rfl rfl rfl hl.1 rfl (Nat.le_of_ble_eq_true rfl) dL_law_696 ⟨Nat.le_of_ble_eq_true rfl, Nat.le_of_ble_eq_true rfl⟩) (fun H locs G => ?_)
  refine lv_aload_n hx hb dL_law_699 rfl (lv_at hl 1 rfl) ?_
  refine l_arg (k := 1) C0 G.2.2.2.1 hX hbl hbA hL hl (by omega) dL_law_700 dL_law_701 dL_law_702 (by decide) dL_law_703 dL_law_704 ?_
  refine l_arg (k := 2) C0 G.2.2.2.1 hX hbl hbA hL hl (by omega) dL_law_705 dL_law_706 dL_law_707 (by decide) dL_law_708 dL_law_709 ?_
  refine l_arg (k := 3) C0 G.2.2.2.1 hX hbl hbA hL hl (by omega) dL_law_710 dL_law_711 dL_law_712 (by decide) dL_law_713 dL_law_714 ?_
  refine l_goi C0 G sMS (l_runV (tys' := tyM cI cC) (As := [.int (ss (i + 1)), .int (ss (i + 2)), .int (ss (i + 3))]) (rest := [.int r]) (n := 3) (q0 := 0) C0 G sMS x_x0 X0_ok [0, 4] rfl (c5_wideFor X0_ok h5) q970 q54 q967 q968 q969 o5_wideFor ⟨rfl, rfl⟩ ⟨Nat.le_of_ble_eq_true rfl, Nat.le_of_ble_eq_true rfl⟩ rfl rfl rfl hl.1 rfl (Nat.le_of_ble_eq_true rfl) dL_law_715 ⟨Nat.le_of_ble_eq_true rfl, Nat.le_of_ble_eq_true rfl⟩) (fun H locs G => ?_)
  refine lv_icmp_eq (tgt := 1426) hx hb dL_law_718 (by decide) (fun _ => ?_) (fun h => absurd rfl h)
  exact kk H locs ⟨_, _, _, _, _, _, _, _, _, _, _, _, _, _, _, _, _, _, _, _, _, _, _, _, _, _, _, _, _, _, _, _, _, _, _, _, _, _, _, _, _, _, _, _, _, _, _, _, _, ⟨nP, hK, nF, rfl, hT, hS⟩, G⟩
set_option maxHeartbeats 4000000 in
set_option maxRecDepth 100000 in
theorem law_eachFor {ta adK adV : Nat → Nat} {l : Launch} {D : va_G} {cI cB cG cS cC : ClassId} {ad am : Nat → Nat} {p : Program} {e : Env} {s : State} {m : MethodId} {args : Array Value} {below : List Frame} {meth : Method} {c : Code} {A : Nat → Prop} {Q : State → Prop} {H : Heap} {locs : List Loc} {ls : Array Slot} {b L i : Nat} {ss : Nat → Int32} (C0 : CX (XC ta adK adV) p s m args meth c code 4 ret RL A) (hX : va_X b L ss s s.heap) (hbl : b < s.heap.size) (hbA : ¬ A b) (hL : L ≤ 3072) (hi : i + 6 ≤ L) (hW : LW (XC ta adK adV) D cI cB cG cS cC ad am A s H locs) (hl : lv_has ls 4 [(3, .int (nI i)), (2, .ref (am 0)), (1, .ref (ad 0)), (0, .ref b)]) (kk : ∀ (H : Heap) (locs : List Loc), LW (XC ta adK adV) D cI cB cG cS cC ad am A s H locs → W p l e room_1 s m args below meth c H locs 600000 7302250 Q (F0 m 1426 ls [])) : W p l e room_1 s m args below meth c H locs 600000 7302250 Q (F0 m 723 ls []) := by
  have hx := C0.1
  have hb := C0.2.1
  obtain ⟨hp1, st1, tr1, sp1, vis1, day1, z1, hp2, st2, tr2, sp2, vis2, day2, z2, hp3, st3, tr3, sp3, vis3, day3, z3, tb, tl, rtok, rbg, ren, rvl, shn, shb, shz, fd, isK, xs, xkept, xaside, xisK, xfound, xgone, xover, xtape, xtaped, xtok, xbeg, xend, xval, xwid, xsiz, xcel, xcar, ⟨hP, hK, hF, rfl, hT, hS⟩, G⟩ := hW
  obtain ⟨r, o1, o2, o3, o4, o5, o6, o7, o8, x1, x2, x3, x4, h4, h5, nP, nF⟩ := op_eachFor (xa := xaside) (ov := xover) (hp3 := hp3) (st3 := st3) (tr3 := tr3) (sp3 := sp3) (vis3 := vis3) (day3 := day3) (z3 := z3) hP hF (ss (i + 1)) (ss (i + 2))
  refine lv_aload_n hx hb dL_law_723 rfl (lv_at hl 2 rfl) ?_
  refine l_arg (k := 1) C0 G.2.2.2.1 hX hbl hbA hL hl (by omega) dL_law_724 dL_law_725 dL_law_726 (by decide) dL_law_727 dL_law_728 ?_
  refine l_arg (k := 2) C0 G.2.2.2.1 hX hbl hbA hL hl (by omega) dL_law_729 dL_law_730 dL_law_731 (by decide) dL_law_732 dL_law_733 ?_
  refine l_goi C0 G sSM (l_runV (tys' := tyC cI cB cG cS) (As := [.int (ss (i + 1)), .int (ss (i + 2))]) (rest := []) (n := 2) (q0 := 0) C0 G sSM xc_xs XS_ok [0, 1, 2, 3] rfl (c4_eachFor XS_ok h4) q427 q49 q424 q425 q426 o4_eachFor ⟨rfl, rfl⟩ ⟨Nat.le_of_ble_eq_true rfl, Nat.le_of_ble_eq_true rfl⟩ rfl rfl rfl hl.1 rfl (Nat.le_of_ble_eq_true rfl) dL_law_734 ⟨Nat.le_of_ble_eq_true rfl, Nat.le_of_ble_eq_true rfl⟩) (fun H locs G => ?_)
  refine lv_aload_n hx hb dL_law_737 rfl (lv_at hl 1 rfl) ?_
  refine l_arg (k := 1) C0 G.2.2.2.1 hX hbl hbA hL hl (by omega) dL_law_738 dL_law_739 dL_law_740 (by decide) dL_law_741 dL_law_742 ?_
  refine l_arg (k := 2) C0 G.2.2.2.1 hX hbl hbA hL hl (by omega) dL_law_743 dL_law_744 dL_law_745 (by decide) dL_law_746 dL_law_747 ?_
  refine l_goi C0 G sMS (l_runV (tys' := tyM cI cC) (As := [.int (ss (i + 1)), .int (ss (i + 2))]) (rest := [.int r]) (n := 2) (q0 := 0) C0 G sMS x_x0 X0_ok [0, 4] rfl (c5_eachFor X0_ok h5) q974 q54 q971 q972 q973 o5_eachFor ⟨rfl, rfl⟩ ⟨Nat.le_of_ble_eq_true rfl, Nat.le_of_ble_eq_true rfl⟩ rfl rfl rfl hl.1 rfl (Nat.le_of_ble_eq_true rfl) dL_law_748 ⟨Nat.le_of_ble_eq_true rfl, Nat.le_of_ble_eq_true rfl⟩) (fun H locs G => ?_)
  refine lv_icmp_eq (tgt := 1426) hx hb dL_law_751 (by decide) (fun _ => ?_) (fun h => absurd rfl h)
  exact kk H locs ⟨_, _, _, _, _, _, _, _, _, _, _, _, _, _, _, _, _, _, _, _, _, _, _, _, _, _, _, _, _, _, _, _, _, _, _, _, _, _, _, _, _, _, _, _, _, _, _, _, _, ⟨nP, hK, nF, rfl, hT, hS⟩, G⟩
set_option maxHeartbeats 4000000 in
set_option maxRecDepth 100000 in
theorem law_kindFor {ta adK adV : Nat → Nat} {l : Launch} {D : va_G} {cI cB cG cS cC : ClassId} {ad am : Nat → Nat} {p : Program} {e : Env} {s : State} {m : MethodId} {args : Array Value} {below : List Frame} {meth : Method} {c : Code} {A : Nat → Prop} {Q : State → Prop} {H : Heap} {locs : List Loc} {ls : Array Slot} {b L i : Nat} {ss : Nat → Int32} (C0 : CX (XC ta adK adV) p s m args meth c code 4 ret RL A) (hX : va_X b L ss s s.heap) (hbl : b < s.heap.size) (hbA : ¬ A b) (hL : L ≤ 3072) (hi : i + 6 ≤ L) (hW : LW (XC ta adK adV) D cI cB cG cS cC ad am A s H locs) (hl : lv_has ls 4 [(3, .int (nI i)), (2, .ref (am 0)), (1, .ref (ad 0)), (0, .ref b)]) (kk : ∀ (H : Heap) (locs : List Loc), LW (XC ta adK adV) D cI cB cG cS cC ad am A s H locs → W p l e room_1 s m args below meth c H locs 600000 7302250 Q (F0 m 1426 ls [])) : W p l e room_1 s m args below meth c H locs 600000 7302250 Q (F0 m 756 ls []) := by
  have hx := C0.1
  have hb := C0.2.1
  obtain ⟨hp1, st1, tr1, sp1, vis1, day1, z1, hp2, st2, tr2, sp2, vis2, day2, z2, hp3, st3, tr3, sp3, vis3, day3, z3, tb, tl, rtok, rbg, ren, rvl, shn, shb, shz, fd, isK, xs, xkept, xaside, xisK, xfound, xgone, xover, xtape, xtaped, xtok, xbeg, xend, xval, xwid, xsiz, xcel, xcar, ⟨hP, hK, hF, rfl, hT, hS⟩, G⟩ := hW
  obtain ⟨r, o1, o2, o3, o4, o5, o6, o7, o8, x1, x2, x3, x4, h4, h5, nP, nF⟩ := op_kindFor (xa := xaside) (ov := xover) (hp3 := hp3) (st3 := st3) (tr3 := tr3) (sp3 := sp3) (vis3 := vis3) (day3 := day3) (z3 := z3) hP hF (ss (i + 1)) (ss (i + 2))
  refine lv_aload_n hx hb dL_law_756 rfl (lv_at hl 2 rfl) ?_
  refine l_arg (k := 1) C0 G.2.2.2.1 hX hbl hbA hL hl (by omega) dL_law_757 dL_law_758 dL_law_759 (by decide) dL_law_760 dL_law_761 ?_
  refine l_arg (k := 2) C0 G.2.2.2.1 hX hbl hbA hL hl (by omega) dL_law_762 dL_law_763 dL_law_764 (by decide) dL_law_765 dL_law_766 ?_
  refine l_goi C0 G sSM (l_runV (tys' := tyC cI cB cG cS) (As := [.int (ss (i + 1)), .int (ss (i + 2))]) (rest := []) (n := 2) (q0 := 0) C0 G sSM xc_xs XS_ok [0, 1, 2, 3] rfl (c4_kindFor XS_ok h4) q431 q49 q428 q429 q430 o4_kindFor ⟨rfl, rfl⟩ ⟨Nat.le_of_ble_eq_true rfl, Nat.le_of_ble_eq_true rfl⟩ rfl rfl rfl hl.1 rfl (Nat.le_of_ble_eq_true rfl) dL_law_767 ⟨Nat.le_of_ble_eq_true rfl, Nat.le_of_ble_eq_true rfl⟩) (fun H locs G => ?_)
  refine lv_aload_n hx hb dL_law_770 rfl (lv_at hl 1 rfl) ?_
  refine l_arg (k := 1) C0 G.2.2.2.1 hX hbl hbA hL hl (by omega) dL_law_771 dL_law_772 dL_law_773 (by decide) dL_law_774 dL_law_775 ?_
  refine l_arg (k := 2) C0 G.2.2.2.1 hX hbl hbA hL hl (by omega) dL_law_776 dL_law_777 dL_law_778 (by decide) dL_law_779 dL_law_780 ?_
  refine l_goi C0 G sMS (l_runV (tys' := tyM cI cC) (As := [.int (ss (i + 1)), .int (ss (i + 2))]) (rest := [.int r]) (n := 2) (q0 := 0) C0 G sMS x_x0 X0_ok [0, 4] rfl (c5_kindFor X0_ok h5) q978 q54 q975 q976 q977 o5_kindFor ⟨rfl, rfl⟩ ⟨Nat.le_of_ble_eq_true rfl, Nat.le_of_ble_eq_true rfl⟩ rfl rfl rfl hl.1 rfl (Nat.le_of_ble_eq_true rfl) dL_law_781 ⟨Nat.le_of_ble_eq_true rfl, Nat.le_of_ble_eq_true rfl⟩) (fun H locs G => ?_)
  refine lv_icmp_eq (tgt := 1426) hx hb dL_law_784 (by decide) (fun _ => ?_) (fun h => absurd rfl h)
  exact kk H locs ⟨_, _, _, _, _, _, _, _, _, _, _, _, _, _, _, _, _, _, _, _, _, _, _, _, _, _, _, _, _, _, _, _, _, _, _, _, _, _, _, _, _, _, _, _, _, _, _, _, _, ⟨nP, hK, nF, rfl, hT, hS⟩, G⟩
set_option maxHeartbeats 4000000 in
set_option maxRecDepth 100000 in
theorem law_windFor {ta adK adV : Nat → Nat} {l : Launch} {D : va_G} {cI cB cG cS cC : ClassId} {ad am : Nat → Nat} {p : Program} {e : Env} {s : State} {m : MethodId} {args : Array Value} {below : List Frame} {meth : Method} {c : Code} {A : Nat → Prop} {Q : State → Prop} {H : Heap} {locs : List Loc} {ls : Array Slot} {b L i : Nat} {ss : Nat → Int32} (C0 : CX (XC ta adK adV) p s m args meth c code 4 ret RL A) (hX : va_X b L ss s s.heap) (hbl : b < s.heap.size) (hbA : ¬ A b) (hL : L ≤ 3072) (hi : i + 6 ≤ L) (hW : LW (XC ta adK adV) D cI cB cG cS cC ad am A s H locs) (hl : lv_has ls 4 [(3, .int (nI i)), (2, .ref (am 0)), (1, .ref (ad 0)), (0, .ref b)]) (kk : ∀ (H : Heap) (locs : List Loc), LW (XC ta adK adV) D cI cB cG cS cC ad am A s H locs → W p l e room_1 s m args below meth c H locs 600000 7302250 Q (F0 m 1426 ls [])) : W p l e room_1 s m args below meth c H locs 600000 7302250 Q (F0 m 789 ls []) := by
  have hx := C0.1
  have hb := C0.2.1
  obtain ⟨hp1, st1, tr1, sp1, vis1, day1, z1, hp2, st2, tr2, sp2, vis2, day2, z2, hp3, st3, tr3, sp3, vis3, day3, z3, tb, tl, rtok, rbg, ren, rvl, shn, shb, shz, fd, isK, xs, xkept, xaside, xisK, xfound, xgone, xover, xtape, xtaped, xtok, xbeg, xend, xval, xwid, xsiz, xcel, xcar, ⟨hP, hK, hF, rfl, hT, hS⟩, G⟩ := hW
  obtain ⟨r, o1, o2, o3, o4, o5, o6, o7, o8, x1, x2, x3, x4, h4, h5, nP, nF⟩ := op_windFor (xa := xaside) (ov := xover) (hp3 := hp3) (st3 := st3) (tr3 := tr3) (sp3 := sp3) (vis3 := vis3) (day3 := day3) (z3 := z3) hP hF (ss (i + 1)) (ss (i + 2))
  refine lv_aload_n hx hb dL_law_789 rfl (lv_at hl 2 rfl) ?_
  refine l_arg (k := 1) C0 G.2.2.2.1 hX hbl hbA hL hl (by omega) dL_law_790 dL_law_791 dL_law_792 (by decide) dL_law_793 dL_law_794 ?_
  refine l_arg (k := 2) C0 G.2.2.2.1 hX hbl hbA hL hl (by omega) dL_law_795 dL_law_796 dL_law_797 (by decide) dL_law_798 dL_law_799 ?_
  refine l_goi C0 G sSM (l_runV (tys' := tyC cI cB cG cS) (As := [.int (ss (i + 1)), .int (ss (i + 2))]) (rest := []) (n := 2) (q0 := 0) C0 G sSM xc_xs XS_ok [0, 1, 2, 3] rfl (c4_windFor XS_ok h4) q435 q49 q432 q433 q434 o4_windFor ⟨rfl, rfl⟩ ⟨Nat.le_of_ble_eq_true rfl, Nat.le_of_ble_eq_true rfl⟩ rfl rfl rfl hl.1 rfl (Nat.le_of_ble_eq_true rfl) dL_law_800 ⟨Nat.le_of_ble_eq_true rfl, Nat.le_of_ble_eq_true rfl⟩) (fun H locs G => ?_)
  refine lv_aload_n hx hb dL_law_803 rfl (lv_at hl 1 rfl) ?_
  refine l_arg (k := 1) C0 G.2.2.2.1 hX hbl hbA hL hl (by omega) dL_law_804 dL_law_805 dL_law_806 (by decide) dL_law_807 dL_law_808 ?_
  refine l_arg (k := 2) C0 G.2.2.2.1 hX hbl hbA hL hl (by omega) dL_law_809 dL_law_810 dL_law_811 (by decide) dL_law_812 dL_law_813 ?_
  refine l_goi C0 G sMS (l_runV (tys' := tyM cI cC) (As := [.int (ss (i + 1)), .int (ss (i + 2))]) (rest := [.int r]) (n := 2) (q0 := 0) C0 G sMS x_x0 X0_ok [0, 4] rfl (c5_windFor X0_ok h5) q982 q54 q979 q980 q981 o5_windFor ⟨rfl, rfl⟩ ⟨Nat.le_of_ble_eq_true rfl, Nat.le_of_ble_eq_true rfl⟩ rfl rfl rfl hl.1 rfl (Nat.le_of_ble_eq_true rfl) dL_law_814 ⟨Nat.le_of_ble_eq_true rfl, Nat.le_of_ble_eq_true rfl⟩) (fun H locs G => ?_)
  refine lv_icmp_eq (tgt := 1426) hx hb dL_law_817 (by decide) (fun _ => ?_) (fun h => absurd rfl h)
  exact kk H locs ⟨_, _, _, _, _, _, _, _, _, _, _, _, _, _, _, _, _, _, _, _, _, _, _, _, _, _, _, _, _, _, _, _, _, _, _, _, _, _, _, _, _, _, _, _, _, _, _, _, _, ⟨nP, hK, nF, rfl, hT, hS⟩, G⟩
set_option maxHeartbeats 4000000 in
set_option maxRecDepth 100000 in
theorem law_away {ta adK adV : Nat → Nat} {l : Launch} {D : va_G} {cI cB cG cS cC : ClassId} {ad am : Nat → Nat} {p : Program} {e : Env} {s : State} {m : MethodId} {args : Array Value} {below : List Frame} {meth : Method} {c : Code} {A : Nat → Prop} {Q : State → Prop} {H : Heap} {locs : List Loc} {ls : Array Slot} {b L i : Nat} {ss : Nat → Int32} (C0 : CX (XC ta adK adV) p s m args meth c code 4 ret RL A) (hX : va_X b L ss s s.heap) (hbl : b < s.heap.size) (hbA : ¬ A b) (hL : L ≤ 3072) (hi : i + 6 ≤ L) (hW : LW (XC ta adK adV) D cI cB cG cS cC ad am A s H locs) (hl : lv_has ls 4 [(3, .int (nI i)), (2, .ref (am 0)), (1, .ref (ad 0)), (0, .ref b)]) (kk : ∀ (H : Heap) (locs : List Loc), LW (XC ta adK adV) D cI cB cG cS cC ad am A s H locs → W p l e room_1 s m args below meth c H locs 600000 7302250 Q (F0 m 1426 ls [])) : W p l e room_1 s m args below meth c H locs 600000 7302250 Q (F0 m 822 ls []) := by
  have hx := C0.1
  have hb := C0.2.1
  obtain ⟨hp1, st1, tr1, sp1, vis1, day1, z1, hp2, st2, tr2, sp2, vis2, day2, z2, hp3, st3, tr3, sp3, vis3, day3, z3, tb, tl, rtok, rbg, ren, rvl, shn, shb, shz, fd, isK, xs, xkept, xaside, xisK, xfound, xgone, xover, xtape, xtaped, xtok, xbeg, xend, xval, xwid, xsiz, xcel, xcar, ⟨hP, hK, hF, rfl, hT, hS⟩, G⟩ := hW
  obtain ⟨r, o1, o2, o3, o4, o5, o6, o7, o8, x1, x2, x3, x4, h4, h5, nP, nF⟩ := op_away (xa := xaside) (ov := xover) (hp3 := hp3) (st3 := st3) (tr3 := tr3) (sp3 := sp3) (vis3 := vis3) (day3 := day3) (z3 := z3) hP hF (ss (i + 1)) (ss (i + 2))
  refine lv_aload_n hx hb dL_law_822 rfl (lv_at hl 2 rfl) ?_
  refine l_arg (k := 1) C0 G.2.2.2.1 hX hbl hbA hL hl (by omega) dL_law_823 dL_law_824 dL_law_825 (by decide) dL_law_826 dL_law_827 ?_
  refine l_arg (k := 2) C0 G.2.2.2.1 hX hbl hbA hL hl (by omega) dL_law_828 dL_law_829 dL_law_830 (by decide) dL_law_831 dL_law_832 ?_
  refine l_goi C0 G sSM (l_runV (tys' := tyC cI cB cG cS) (As := [.int (ss (i + 1)), .int (ss (i + 2))]) (rest := []) (n := 2) (q0 := 0) C0 G sSM xc_xs XS_ok [0, 1, 2, 3] rfl (c4_away XS_ok h4) q439 q49 q436 q437 q438 o4_away ⟨rfl, rfl⟩ ⟨Nat.le_of_ble_eq_true rfl, Nat.le_of_ble_eq_true rfl⟩ rfl rfl rfl hl.1 rfl (Nat.le_of_ble_eq_true rfl) dL_law_833 ⟨Nat.le_of_ble_eq_true rfl, Nat.le_of_ble_eq_true rfl⟩) (fun H locs G => ?_)
  refine lv_aload_n hx hb dL_law_836 rfl (lv_at hl 1 rfl) ?_
  refine l_arg (k := 1) C0 G.2.2.2.1 hX hbl hbA hL hl (by omega) dL_law_837 dL_law_838 dL_law_839 (by decide) dL_law_840 dL_law_841 ?_
  refine l_arg (k := 2) C0 G.2.2.2.1 hX hbl hbA hL hl (by omega) dL_law_842 dL_law_843 dL_law_844 (by decide) dL_law_845 dL_law_846 ?_
  refine l_goi C0 G sMS (l_runV (tys' := tyM cI cC) (As := [.int (ss (i + 1)), .int (ss (i + 2))]) (rest := [.int r]) (n := 2) (q0 := 0) C0 G sMS x_x0 X0_ok [0, 4] rfl (c5_away X0_ok h5) q986 q54 q983 q984 q985 o5_away ⟨rfl, rfl⟩ ⟨Nat.le_of_ble_eq_true rfl, Nat.le_of_ble_eq_true rfl⟩ rfl rfl rfl hl.1 rfl (Nat.le_of_ble_eq_true rfl) dL_law_847 ⟨Nat.le_of_ble_eq_true rfl, Nat.le_of_ble_eq_true rfl⟩) (fun H locs G => ?_)
  refine lv_icmp_eq (tgt := 1426) hx hb dL_law_850 (by decide) (fun _ => ?_) (fun h => absurd rfl h)
  exact kk H locs ⟨_, _, _, _, _, _, _, _, _, _, _, _, _, _, _, _, _, _, _, _, _, _, _, _, _, _, _, _, _, _, _, _, _, _, _, _, _, _, _, _, _, _, _, _, _, _, _, _, _, ⟨nP, hK, nF, rfl, hT, hS⟩, G⟩
