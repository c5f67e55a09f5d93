/-! the law: its cases 7 to 13 -/
set_option maxHeartbeats 4000000 in
set_option maxRecDepth 100000 in
theorem law_go {ta adK adV : Nat → Nat} {l : Launch} {D : va_G} {cI cB cG cS cC : ClassId} {ad am : Nat → Nat} {p : Program} {e : Env} {s : State} {m : MethodId} {args : Array Value} {below : List Frame} {meth : Method} {c : Code} {A : Nat → Prop} {Q : State → Prop} {H : Heap} {locs : List Loc} {ls : Array Slot} {b L i : Nat} {ss : Nat → Int32} (C0 : CX (XC ta adK adV) p s m args meth c code 4 ret RL A) (hX : va_X b L ss s s.heap) (hbl : b < s.heap.size) (hbA : ¬ A b) (hL : L ≤ 3072) (hi : i + 6 ≤ L) (hW : LW (XC ta adK adV) D cI cB cG cS cC ad am A s H locs) (hl : lv_has ls 4 [(3, .int (nI i)), (2, .ref (am 0)), (1, .ref (ad 0)), (0, .ref b)]) (kk : ∀ (H : Heap) (locs : List Loc), LW (XC ta adK adV) D cI cB cG cS cC ad am A s H locs → W p l e room_1 s m args below meth c H locs 600000 7302250 Q (F0 m 1426 ls [])) : W p l e room_1 s m args below meth c H locs 600000 7302250 Q (F0 m 443 ls []) := by
  have hx := C0.1
  have hb := C0.2.1
  obtain ⟨hp1, st1, tr1, sp1, vis1, day1, z1, hp2, st2, tr2, sp2, vis2, day2, z2, hp3, st3, tr3, sp3, vis3, day3, z3, tb, tl, rtok, rbg, ren, rvl, shn, shb, shz, fd, isK, xs, xkept, xaside, xisK, xfound, xgone, xover, xtape, xtaped, xtok, xbeg, xend, xval, xwid, xsiz, xcel, xcar, ⟨hP, hK, hF, rfl, hT, hS⟩, G⟩ := hW
  obtain ⟨r, o0, o1, o2, o3, o4, o5, o6, o7, h4, h5, nP, nF⟩ := op_go (ov := xover) hP hF (ss (i + 1))
  refine lv_aload_n hx hb dL_law_443 rfl (lv_at hl 2 rfl) ?_
  refine l_arg (k := 1) C0 G.2.2.2.1 hX hbl hbA hL hl (by omega) dL_law_444 dL_law_445 dL_law_446 (by decide) dL_law_447 dL_law_448 ?_
  refine l_goi C0 G sSM (l_runV (tys' := tyC cI cB cG cS) (As := [.int (ss (i + 1))]) (rest := []) (n := 1) (q0 := 0) C0 G sSM xc_xs XS_ok [0, 1, 2, 3] rfl (c4_go XS_ok h4) q317 q49 q314 q315 q316 o4_go ⟨rfl, rfl⟩ ⟨Nat.le_of_ble_eq_true rfl, Nat.le_of_ble_eq_true rfl⟩ rfl rfl rfl hl.1 rfl (Nat.le_of_ble_eq_true rfl) dL_law_449 ⟨Nat.le_of_ble_eq_true rfl, Nat.le_of_ble_eq_true rfl⟩) (fun H locs G => ?_)
  refine lv_aload_n hx hb dL_law_452 rfl (lv_at hl 1 rfl) ?_
  refine l_arg (k := 1) C0 G.2.2.2.1 hX hbl hbA hL hl (by omega) dL_law_453 dL_law_454 dL_law_455 (by decide) dL_law_456 dL_law_457 ?_
  refine l_goi C0 G sMS (l_runV (tys' := tyM cI cC) (As := [.int (ss (i + 1))]) (rest := [.int r]) (n := 1) (q0 := 0) C0 G sMS x_x0 X0_ok [0, 4] rfl (c5_go X0_ok h5) q866 q54 q863 q864 q865 o5_go ⟨rfl, rfl⟩ ⟨Nat.le_of_ble_eq_true rfl, Nat.le_of_ble_eq_true rfl⟩ rfl rfl rfl hl.1 rfl (Nat.le_of_ble_eq_true rfl) dL_law_458 ⟨Nat.le_of_ble_eq_true rfl, Nat.le_of_ble_eq_true rfl⟩) (fun H locs G => ?_)
  refine lv_icmp_eq (tgt := 1426) hx hb dL_law_461 (by decide) (fun _ => ?_) (fun h => absurd rfl h)
  exact kk H locs ⟨_, _, _, _, _, _, _, _, _, _, _, _, _, _, _, _, _, _, _, _, _, _, _, _, _, _, _, _, _, _, _, _, _, _, _, _, _, _, _, _, _, _, _, _, _, _, _, _, _, ⟨nP, hK, nF, rfl, hT, hS⟩, G⟩
set_option maxHeartbeats 4000000 in
set_option maxRecDepth 100000 in
theorem law_now {ta adK adV : Nat → Nat} {l : Launch} {D : va_G} {cI cB cG cS cC : ClassId} {ad am : Nat → Nat} {p : Program} {e : Env} {s : State} {m : MethodId} {args : Array Value} {below : List Frame} {meth : Method} {c : Code} {A : Nat → Prop} {Q : State → Prop} {H : Heap} {locs : List Loc} {ls : Array Slot} {b L i : Nat} {ss : Nat → Int32} (C0 : CX (XC ta adK adV) p s m args meth c code 4 ret RL A) (hX : va_X b L ss s s.heap) (hbl : b < s.heap.size) (hbA : ¬ A b) (hL : L ≤ 3072) (hi : i + 6 ≤ L) (hW : LW (XC ta adK adV) D cI cB cG cS cC ad am A s H locs) (hl : lv_has ls 4 [(3, .int (nI i)), (2, .ref (am 0)), (1, .ref (ad 0)), (0, .ref b)]) (kk : ∀ (H : Heap) (locs : List Loc), LW (XC ta adK adV) D cI cB cG cS cC ad am A s H locs → W p l e room_1 s m args below meth c H locs 600000 7302250 Q (F0 m 1426 ls [])) : W p l e room_1 s m args below meth c H locs 600000 7302250 Q (F0 m 466 ls []) := by
  have hx := C0.1
  have hb := C0.2.1
  obtain ⟨hp1, st1, tr1, sp1, vis1, day1, z1, hp2, st2, tr2, sp2, vis2, day2, z2, hp3, st3, tr3, sp3, vis3, day3, z3, tb, tl, rtok, rbg, ren, rvl, shn, shb, shz, fd, isK, xs, xkept, xaside, xisK, xfound, xgone, xover, xtape, xtaped, xtok, xbeg, xend, xval, xwid, xsiz, xcel, xcar, ⟨hP, hK, hF, rfl, hT, hS⟩, G⟩ := hW
  obtain ⟨r, o0, o1, h4, h5, nF⟩ := op_now  hP hF (ss (i + 1))
  refine lv_aload_n hx hb dL_law_466 rfl (lv_at hl 2 rfl) ?_
  refine l_arg (k := 1) C0 G.2.2.2.1 hX hbl hbA hL hl (by omega) dL_law_467 dL_law_468 dL_law_469 (by decide) dL_law_470 dL_law_471 ?_
  refine l_goi C0 G sSM (l_runV (tys' := tyC cI cB cG cS) (As := [.int (ss (i + 1))]) (rest := []) (n := 1) (q0 := 0) C0 G sSM xc_xs XS_ok [0, 1, 2, 3] rfl (c4_now XS_ok h4) q348 q49 q345 q346 q347 o4_now ⟨rfl, rfl⟩ ⟨Nat.le_of_ble_eq_true rfl, Nat.le_of_ble_eq_true rfl⟩ rfl rfl rfl hl.1 rfl (Nat.le_of_ble_eq_true rfl) dL_law_472 ⟨Nat.le_of_ble_eq_true rfl, Nat.le_of_ble_eq_true rfl⟩) (fun H locs G => ?_)
  refine lv_aload_n hx hb dL_law_475 rfl (lv_at hl 1 rfl) ?_
  refine l_arg (k := 1) C0 G.2.2.2.1 hX hbl hbA hL hl (by omega) dL_law_476 dL_law_477 dL_law_478 (by decide) dL_law_479 dL_law_480 ?_
  refine l_goi C0 G sMS (l_runV (tys' := tyM cI cC) (As := [.int (ss (i + 1))]) (rest := [.int r]) (n := 1) (q0 := 0) C0 G sMS x_x0 X0_ok [0, 4] rfl (c5_now X0_ok h5) q891 q54 q888 q889 q890 o5_now ⟨rfl, rfl⟩ ⟨Nat.le_of_ble_eq_true rfl, Nat.le_of_ble_eq_true rfl⟩ rfl rfl rfl hl.1 rfl (Nat.le_of_ble_eq_true rfl) dL_law_481 ⟨Nat.le_of_ble_eq_true rfl, Nat.le_of_ble_eq_true rfl⟩) (fun H locs G => ?_)
  refine lv_icmp_eq (tgt := 1426) hx hb dL_law_484 (by decide) (fun _ => ?_) (fun h => absurd rfl h)
  exact kk H locs ⟨_, _, _, _, _, _, _, _, _, _, _, _, _, _, _, _, _, _, _, _, _, _, _, _, _, _, _, _, _, _, _, _, _, _, _, _, _, _, _, _, _, _, _, _, _, _, _, _, _, ⟨hP, hK, nF, rfl, hT, hS⟩, G⟩
set_option maxHeartbeats 4000000 in
set_option maxRecDepth 100000 in
theorem law_high {ta adK adV : Nat → Nat} {l : Launch} {D : va_G} {cI cB cG cS cC : ClassId} {ad am : Nat → Nat} {p : Program} {e : Env} {s : State} {m : MethodId} {args : Array Value} {below : List Frame} {meth : Method} {c : Code} {A : Nat → Prop} {Q : State → Prop} {H : Heap} {locs : List Loc} {ls : Array Slot} {b L i : Nat} {ss : Nat → Int32} (C0 : CX (XC ta adK adV) p s m args meth c code 4 ret RL A) (hX : va_X b L ss s s.heap) (hbl : b < s.heap.size) (hbA : ¬ A b) (hL : L ≤ 3072) (hi : i + 6 ≤ L) (hW : LW (XC ta adK adV) D cI cB cG cS cC ad am A s H locs) (hl : lv_has ls 4 [(3, .int (nI i)), (2, .ref (am 0)), (1, .ref (ad 0)), (0, .ref b)]) (kk : ∀ (H : Heap) (locs : List Loc), LW (XC ta adK adV) D cI cB cG cS cC ad am A s H locs → W p l e room_1 s m args below meth c H locs 600000 7302250 Q (F0 m 1426 ls [])) : W p l e room_1 s m args below meth c H locs 600000 7302250 Q (F0 m 489 ls []) := by
  have hx := C0.1
  have hb := C0.2.1
  obtain ⟨hp1, st1, tr1, sp1, vis1, day1, z1, hp2, st2, tr2, sp2, vis2, day2, z2, hp3, st3, tr3, sp3, vis3, day3, z3, tb, tl, rtok, rbg, ren, rvl, shn, shb, shz, fd, isK, xs, xkept, xaside, xisK, xfound, xgone, xover, xtape, xtaped, xtok, xbeg, xend, xval, xwid, xsiz, xcel, xcar, ⟨hP, hK, hF, rfl, hT, hS⟩, G⟩ := hW
  obtain ⟨r, o1, o2, o3, o4, o5, o6, o7, o8, x1, x2, x3, x4, h4, h5, nP, nF⟩ := op_high (xa := xaside) (ov := xover) (hp3 := hp3) (st3 := st3) (tr3 := tr3) (sp3 := sp3) (vis3 := vis3) (day3 := day3) (z3 := z3) hP hF (ss (i + 1)) (ss (i + 2))
  refine lv_aload_n hx hb dL_law_489 rfl (lv_at hl 2 rfl) ?_
  refine l_arg (k := 1) C0 G.2.2.2.1 hX hbl hbA hL hl (by omega) dL_law_490 dL_law_491 dL_law_492 (by decide) dL_law_493 dL_law_494 ?_
  refine l_arg (k := 2) C0 G.2.2.2.1 hX hbl hbA hL hl (by omega) dL_law_495 dL_law_496 dL_law_497 (by decide) dL_law_498 dL_law_499 ?_
  refine l_goi C0 G sSM (l_runV (tys' := tyC cI cB cG cS) (As := [.int (ss (i + 1)), .int (ss (i + 2))]) (rest := []) (n := 2) (q0 := 0) C0 G sSM xc_xs XS_ok [0, 1, 2, 3] rfl (c4_high XS_ok h4) q372 q49 q369 q370 q371 o4_high ⟨rfl, rfl⟩ ⟨Nat.le_of_ble_eq_true rfl, Nat.le_of_ble_eq_true rfl⟩ rfl rfl rfl hl.1 rfl (Nat.le_of_ble_eq_true rfl) dL_law_500 ⟨Nat.le_of_ble_eq_true rfl, Nat.le_of_ble_eq_true rfl⟩) (fun H locs G => ?_)
  refine lv_aload_n hx hb dL_law_503 rfl (lv_at hl 1 rfl) ?_
  refine l_arg (k := 1) C0 G.2.2.2.1 hX hbl hbA hL hl (by omega) dL_law_504 dL_law_505 dL_law_506 (by decide) dL_law_507 dL_law_508 ?_
  refine l_arg (k := 2) C0 G.2.2.2.1 hX hbl hbA hL hl (by omega) dL_law_509 dL_law_510 dL_law_511 (by decide) dL_law_512 dL_law_513 ?_
  refine l_goi C0 G sMS (l_runV (tys' := tyM cI cC) (As := [.int (ss (i + 1)), .int (ss (i + 2))]) (rest := [.int r]) (n := 2) (q0 := 0) C0 G sMS x_x0 X0_ok [0, 4] rfl (c5_high X0_ok h5) q911 q54 q908 q909 q910 o5_high ⟨rfl, rfl⟩ ⟨Nat.le_of_ble_eq_true rfl, Nat.le_of_ble_eq_true rfl⟩ rfl rfl rfl hl.1 rfl (Nat.le_of_ble_eq_true rfl) dL_law_514 ⟨Nat.le_of_ble_eq_true rfl, Nat.le_of_ble_eq_true rfl⟩) (fun H locs G => ?_)
  refine lv_icmp_eq (tgt := 1426) hx hb dL_law_517 (by decide) (fun _ => ?_) (fun h => absurd rfl h)
  exact kk H locs ⟨_, _, _, _, _, _, _, _, _, _, _, _, _, _, _, _, _, _, _, _, _, _, _, _, _, _, _, _, _, _, _, _, _, _, _, _, _, _, _, _, _, _, _, _, _, _, _, _, _, ⟨nP, hK, nF, rfl, hT, hS⟩, G⟩
set_option maxHeartbeats 4000000 in
set_option maxRecDepth 100000 in
theorem law_built {ta adK adV : Nat → Nat} {l : Launch} {D : va_G} {cI cB cG cS cC : ClassId} {ad am : Nat → Nat} {p : Program} {e : Env} {s : State} {m : MethodId} {args : Array Value} {below : List Frame} {meth : Method} {c : Code} {A : Nat → Prop} {Q : State → Prop} {H : Heap} {locs : List Loc} {ls : Array Slot} {b L i : Nat} {ss : Nat → Int32} (C0 : CX (XC ta adK adV) p s m args meth c code 4 ret RL A) (hX : va_X b L ss s s.heap) (hbl : b < s.heap.size) (hbA : ¬ A b) (hL : L ≤ 3072) (hi : i + 6 ≤ L) (hW : LW (XC ta adK adV) D cI cB cG cS cC ad am A s H locs) (hl : lv_has ls 4 [(3, .int (nI i)), (2, .ref (am 0)), (1, .ref (ad 0)), (0, .ref b)]) (kk : ∀ (H : Heap) (locs : List Loc), LW (XC ta adK adV) D cI cB cG cS cC ad am A s H locs → W p l e room_1 s m args below meth c H locs 600000 7302250 Q (F0 m 1426 ls [])) : W p l e room_1 s m args below meth c H locs 600000 7302250 Q (F0 m 522 ls []) := by
  have hx := C0.1
  have hb := C0.2.1
  obtain ⟨hp1, st1, tr1, sp1, vis1, day1, z1, hp2, st2, tr2, sp2, vis2, day2, z2, hp3, st3, tr3, sp3, vis3, day3, z3, tb, tl, rtok, rbg, ren, rvl, shn, shb, shz, fd, isK, xs, xkept, xaside, xisK, xfound, xgone, xover, xtape, xtaped, xtok, xbeg, xend, xval, xwid, xsiz, xcel, xcar, ⟨hP, hK, hF, rfl, hT, hS⟩, G⟩ := hW
  obtain ⟨r, o1, o2, o3, o4, o5, o6, o7, o8, x1, x2, x3, x4, h4, h5, nP, nF⟩ := op_built (xa := xaside) (ov := xover) (hp3 := hp3) (st3 := st3) (tr3 := tr3) (sp3 := sp3) (vis3 := vis3) (day3 := day3) (z3 := z3) hP hF (ss (i + 1)) (ss (i + 2))
  refine lv_aload_n hx hb dL_law_522 rfl (lv_at hl 2 rfl) ?_
  refine l_arg (k := 1) C0 G.2.2.2.1 hX hbl hbA hL hl (by omega) dL_law_523 dL_law_524 dL_law_525 (by decide) dL_law_526 dL_law_527 ?_
  refine l_arg (k := 2) C0 G.2.2.2.1 hX hbl hbA hL hl (by omega) dL_law_528 dL_law_529 dL_law_530 (by decide) dL_law_531 dL_law_532 ?_
  refine l_goi C0 G sSM (l_runV (tys' := tyC cI cB cG cS) (As := [.int (ss (i + 1)), .int (ss (i + 2))]) (rest := []) (n := 2) (q0 := 0) C0 G sSM xc_xs XS_ok [0, 1, 2, 3] rfl (c4_built XS_ok h4) q383 q49 q380 q381 q382 o4_built ⟨rfl, rfl⟩ ⟨Nat.le_of_ble_eq_true rfl, Nat.le_of_ble_eq_true rfl⟩ rfl rfl rfl hl.1 rfl (Nat.le_of_ble_eq_true rfl) dL_law_533 ⟨Nat.le_of_ble_eq_true rfl, Nat.le_of_ble_eq_true rfl⟩) (fun H locs G => ?_)
  refine lv_aload_n hx hb dL_law_536 rfl (lv_at hl 1 rfl) ?_
  refine l_arg (k := 1) C0 G.2.2.2.1 hX hbl hbA hL hl (by omega) dL_law_537 dL_law_538 dL_law_539 (by decide) dL_law_540 dL_law_541 ?_
  refine l_arg (k := 2) C0 G.2.2.2.1 hX hbl hbA hL hl (by omega) dL_law_542 dL_law_543 dL_law_544 (by decide) dL_law_545 dL_law_546 ?_
  refine l_goi C0 G sMS (l_runV (tys' := tyM cI cC) (As := [.int (ss (i + 1)), .int (ss (i + 2))]) (rest := [.int r]) (n := 2) (q0 := 0) C0 G sMS x_x0 X0_ok [0, 4] rfl (c5_built X0_ok h5) q927 q54 q924 q925 q926 o5_built ⟨rfl, rfl⟩ ⟨Nat.le_of_ble_eq_true rfl, Nat.le_of_ble_eq_true rfl⟩ rfl rfl rfl hl.1 rfl (Nat.le_of_ble_eq_true rfl) dL_law_547 ⟨Nat.le_of_ble_eq_true rfl, Nat.le_of_ble_eq_true rfl⟩) (fun H locs G => ?_)
  refine lv_icmp_eq (tgt := 1426) hx hb dL_law_550 (by decide) (fun _ => ?_) (fun h => absurd rfl h)
  exact kk H locs ⟨_, _, _, _, _, _, _, _, _, _, _, _, _, _, _, _, _, _, _, _, _, _, _, _, _, _, _, _, _, _, _, _, _, _, _, _, _, _, _, _, _, _, _, _, _, _, _, _, _, ⟨nP, hK, nF, rfl, hT, hS⟩, G⟩
set_option maxHeartbeats 4000000 in
set_option maxRecDepth 100000 in
theorem law_stands {ta adK adV : Nat → Nat} {l : Launch} {D : va_G} {cI cB cG cS cC : ClassId} {ad am : Nat → Nat} {p : Program} {e : Env} {s : State} {m : MethodId} {args : Array Value} {below : List Frame} {meth : Method} {c : Code} {A : Nat → Prop} {Q : State → Prop} {H : Heap} {locs : List Loc} {ls : Array Slot} {b L i : Nat} {ss : Nat → Int32} (C0 : CX (XC ta adK adV) p s m args meth c code 4 ret RL A) (hX : va_X b L ss s s.heap) (hbl : b < s.heap.size) (hbA : ¬ A b) (hL : L ≤ 3072) (hi : i + 6 ≤ L) (hW : LW (XC ta adK adV) D cI cB cG cS cC ad am A s H locs) (hl : lv_has ls 4 [(3, .int (nI i)), (2, .ref (am 0)), (1, .ref (ad 0)), (0, .ref b)]) (kk : ∀ (H : Heap) (locs : List Loc), LW (XC ta adK adV) D cI cB cG cS cC ad am A s H locs → W p l e room_1 s m args below meth c H locs 600000 7302250 Q (F0 m 1426 ls [])) : W p l e room_1 s m args below meth c H locs 600000 7302250 Q (F0 m 555 ls []) := by
  have hx := C0.1
  have hb := C0.2.1
  obtain ⟨hp1, st1, tr1, sp1, vis1, day1, z1, hp2, st2, tr2, sp2, vis2, day2, z2, hp3, st3, tr3, sp3, vis3, day3, z3, tb, tl, rtok, rbg, ren, rvl, shn, shb, shz, fd, isK, xs, xkept, xaside, xisK, xfound, xgone, xover, xtape, xtaped, xtok, xbeg, xend, xval, xwid, xsiz, xcel, xcar, ⟨hP, hK, hF, rfl, hT, hS⟩, G⟩ := hW
  obtain ⟨r, o1, o2, o3, o4, o5, o6, o7, o8, x1, x2, x3, x4, h4, h5, nP, nF⟩ := op_stands (xa := xaside) (ov := xover) (hp3 := hp3) (st3 := st3) (tr3 := tr3) (sp3 := sp3) (vis3 := vis3) (day3 := day3) (z3 := z3) hP hF (ss (i + 1))
  refine lv_aload_n hx hb dL_law_555 rfl (lv_at hl 2 rfl) ?_
  refine l_arg (k := 1) C0 G.2.2.2.1 hX hbl hbA hL hl (by omega) dL_law_556 dL_law_557 dL_law_558 (by decide) dL_law_559 dL_law_560 ?_
  refine l_goi C0 G sSM (l_runV (tys' := tyC cI cB cG cS) (As := [.int (ss (i + 1))]) (rest := []) (n := 1) (q0 := 0) C0 G sSM xc_xs XS_ok [0, 1, 2, 3] rfl (c4_stands XS_ok h4) q387 q49 q384 q385 q386 o4_stands ⟨rfl, rfl⟩ ⟨Nat.le_of_ble_eq_true rfl, Nat.le_of_ble_eq_true rfl⟩ rfl rfl rfl hl.1 rfl (Nat.le_of_ble_eq_true rfl) dL_law_561 ⟨Nat.le_of_ble_eq_true rfl, Nat.le_of_ble_eq_true rfl⟩) (fun H locs G => ?_)
  refine lv_aload_n hx hb dL_law_564 rfl (lv_at hl 1 rfl) ?_
  refine l_arg (k := 1) C0 G.2.2.2.1 hX hbl hbA hL hl (by omega) dL_law_565 dL_law_566 dL_law_567 (by decide) dL_law_568 dL_law_569 ?_
  refine l_goi C0 G sMS (l_runV (tys' := tyM cI cC) (As := [.int (ss (i + 1))]) (rest := [.int r]) (n := 1) (q0 := 0) C0 G sMS x_x0 X0_ok [0, 4] rfl (c5_stands X0_ok h5) q931 q54 q928 q929 q930 o5_stands ⟨rfl, rfl⟩ ⟨Nat.le_of_ble_eq_true rfl, Nat.le_of_ble_eq_true rfl⟩ rfl rfl rfl hl.1 rfl (Nat.le_of_ble_eq_true rfl) dL_law_570 ⟨Nat.le_of_ble_eq_true rfl, Nat.le_of_ble_eq_true rfl⟩) (fun H locs G => ?_)
  refine lv_icmp_eq (tgt := 1426) hx hb dL_law_573 (by decide) (fun _ => ?_) (fun h => absurd rfl h)
  exact kk H locs ⟨_, _, _, _, _, _, _, _, _, _, _, _, _, _, _, _, _, _, _, _, _, _, _, _, _, _, _, _, _, _, _, _, _, _, _, _, _, _, _, _, _, _, _, _, _, _, _, _, _, ⟨nP, hK, nF, rfl, hT, hS⟩, G⟩
set_option maxHeartbeats 4000000 in
set_option maxRecDepth 100000 in
theorem law_road {ta adK adV : Nat → Nat} {l : Launch} {D : va_G} {cI cB cG cS cC : ClassId} {ad am : Nat → Nat} {p : Program} {e : Env} {s : State} {m : MethodId} {args : Array Value} {below : List Frame} {meth : Method} {c : Code} {A : Nat → Prop} {Q : State → Prop} {H : Heap} {locs : List Loc} {ls : Array Slot} {b L i : Nat} {ss : Nat → Int32} (C0 : CX (XC ta adK adV) p s m args meth c code 4 ret RL A) (hX : va_X b L ss s s.heap) (hbl : b < s.heap.size) (hbA : ¬ A b) (hL : L ≤ 3072) (hi : i + 6 ≤ L) (hW : LW (XC ta adK adV) D cI cB cG cS cC ad am A s H locs) (hl : lv_has ls 4 [(3, .int (nI i)), (2, .ref (am 0)), (1, .ref (ad 0)), (0, .ref b)]) (kk : ∀ (H : Heap) (locs : List Loc), LW (XC ta adK adV) D cI cB cG cS cC ad am A s H locs → W p l e room_1 s m args below meth c H locs 600000 7302250 Q (F0 m 1426 ls [])) : W p l e room_1 s m args below meth c H locs 600000 7302250 Q (F0 m 578 ls []) := by
  have hx := C0.1
  have hb := C0.2.1
  obtain ⟨hp1, st1, tr1, sp1, vis1, day1, z1, hp2, st2, tr2, sp2, vis2, day2, z2, hp3, st3, tr3, sp3, vis3, day3, z3, tb, tl, rtok, rbg, ren, rvl, shn, shb, shz, fd, isK, xs, xkept, xaside, xisK, xfound, xgone, xover, xtape, xtaped, xtok, xbeg, xend, xval, xwid, xsiz, xcel, xcar, ⟨hP, hK, hF, rfl, hT, hS⟩, G⟩ := hW
  obtain ⟨r, o1, o2, o3, o4, o5, o6, o7, o8, x1, x2, x3, x4, h4, h5, nP, nF⟩ := op_road (xa := xaside) (ov := xover) (hp3 := hp3) (st3 := st3) (tr3 := tr3) (sp3 := sp3) (vis3 := vis3) (day3 := day3) (z3 := z3) hP hF (ss (i + 1))
  refine lv_aload_n hx hb dL_law_578 rfl (lv_at hl 2 rfl) ?_
  refine l_arg (k := 1) C0 G.2.2.2.1 hX hbl hbA hL hl (by omega) dL_law_579 dL_law_580 dL_law_581 (by decide) dL_law_582 dL_law_583 ?_
  refine l_goi C0 G sSM (l_runV (tys' := tyC cI cB cG cS) (As := [.int (ss (i + 1))]) (rest := []) (n := 1) (q0 := 0) C0 G sSM xc_xs XS_ok [0, 1, 2, 3] rfl (c4_road XS_ok h4) q399 q49 q396 q397 q398 o4_road ⟨rfl, rfl⟩ ⟨Nat.le_of_ble_eq_true rfl, Nat.le_of_ble_eq_true rfl⟩ rfl rfl rfl hl.1 rfl (Nat.le_of_ble_eq_true rfl) dL_law_584 ⟨Nat.le_of_ble_eq_true rfl, Nat.le_of_ble_eq_true rfl⟩) (fun H locs G => ?_)
  refine lv_aload_n hx hb dL_law_587 rfl (lv_at hl 1 rfl) ?_
  refine l_arg (k := 1) C0 G.2.2.2.1 hX hbl hbA hL hl (by omega) dL_law_588 dL_law_589 dL_law_590 (by decide) dL_law_591 dL_law_592 ?_
  refine l_goi C0 G sMS (l_runV (tys' := tyM cI cC) (As := [.int (ss (i + 1))]) (rest := [.int r]) (n := 1) (q0 := 0) C0 G sMS x_x0 X0_ok [0, 4] rfl (c5_road X0_ok h5) q943 q54 q940 q941 q942 o5_road ⟨rfl, rfl⟩ ⟨Nat.le_of_ble_eq_true rfl, Nat.le_of_ble_eq_true rfl⟩ rfl rfl rfl hl.1 rfl (Nat.le_of_ble_eq_true rfl) dL_law_593 ⟨Nat.le_of_ble_eq_true rfl, Nat.le_of_ble_eq_true rfl⟩) (fun H locs G => ?_)
  refine lv_icmp_eq (tgt := 1426) hx hb dL_law_596 (by decide) (fun _ => ?_) (fun h => absurd rfl h)
  exact kk H locs ⟨_, _, _, _, _, _, _, _, _, _, _, _, _, _, _, _, _, _, _, _, _, _, _, _, _, _, _, _, _, _, _, _, _, _, _, _, _, _, _, _, _, _, _, _, _, _, _, _, _, ⟨nP, hK, nF, rfl, hT, hS⟩, G⟩
set_option maxHeartbeats 4000000 in
set_option maxRecDepth 100000 in
theorem law_both {ta adK adV : Nat → Nat} {l : Launch} {D : va_G} {cI cB cG cS cC : ClassId} {ad am : Nat → Nat} {p : Program} {e : Env} {s : State} {m : MethodId} {args : Array Value} {below : List Frame} {meth : Method} {c : Code} {A : Nat → Prop} {Q : State → Prop} {H : Heap} {locs : List Loc} {ls : Array Slot} {b L i : Nat} {ss : Nat → Int32} (C0 : CX (XC ta adK adV) p s m args meth c code 4 ret RL A) (hX : va_X b L ss s s.heap) (hbl : b < s.heap.size) (hbA : ¬ A b) (hL : L ≤ 3072) (hi : i + 6 ≤ L) (hW : LW (XC ta adK adV) D cI cB cG cS cC ad am A s H locs) (hl : lv_has ls 4 [(3, .int (nI i)), (2, .ref (am 0)), (1, .ref (ad 0)), (0, .ref b)]) (kk : ∀ (H : Heap) (locs : List Loc), LW (XC ta adK adV) D cI cB cG cS cC ad am A s H locs → W p l e room_1 s m args below meth c H locs 600000 7302250 Q (F0 m 1426 ls [])) : W p l e room_1 s m args below meth c H locs 600000 7302250 Q (F0 m 601 ls []) := by
  have hx := C0.1
  have hb := C0.2.1
  obtain ⟨hp1, st1, tr1, sp1, vis1, day1, z1, hp2, st2, tr2, sp2, vis2, day2, z2, hp3, st3, tr3, sp3, vis3, day3, z3, tb, tl, rtok, rbg, ren, rvl, shn, shb, shz, fd, isK, xs, xkept, xaside, xisK, xfound, xgone, xover, xtape, xtaped, xtok, xbeg, xend, xval, xwid, xsiz, xcel, xcar, ⟨hP, hK, hF, rfl, hT, hS⟩, G⟩ := hW
  obtain ⟨r, o1, o2, o3, o4, o5, o6, o7, o8, x1, x2, x3, x4, h4, h5, nP, nF⟩ := op_both (xa := xaside) (ov := xover) (hp3 := hp3) (st3 := st3) (tr3 := tr3) (sp3 := sp3) (vis3 := vis3) (day3 := day3) (z3 := z3) hP hF (ss (i + 1)) (ss (i + 2))
  refine lv_aload_n hx hb dL_law_601 rfl (lv_at hl 2 rfl) ?_
  refine l_arg (k := 1) C0 G.2.2.2.1 hX hbl hbA hL hl (by omega) dL_law_602 dL_law_603 dL_law_604 (by decide) dL_law_605 dL_law_606 ?_
  refine l_arg (k := 2) C0 G.2.2.2.1 hX hbl hbA hL hl (by omega) dL_law_607 dL_law_608 dL_law_609 (by decide) dL_law_610 dL_law_611 ?_
  refine l_goi C0 G sSM (l_runV (tys' := tyC cI cB cG cS) (As := [.int (ss (i + 1)), .int (ss (i + 2))]) (rest := []) (n := 2) (q0 := 0) C0 G sSM xc_xs XS_ok [0, 1, 2, 3] rfl (c4_both XS_ok h4) q403 q49 q400 q401 q402 o4_both ⟨rfl, rfl⟩ ⟨Nat.le_of_ble_eq_true rfl, Nat.le_of_ble_eq_true rfl⟩ rfl rfl rfl hl.1 rfl (Nat.le_of_ble_eq_true rfl) dL_law_612 ⟨Nat.le_of_ble_eq_true rfl, Nat.le_of_ble_eq_true rfl⟩) (fun H locs G => ?_)
  refine lv_aload_n hx hb dL_law_615 rfl (lv_at hl 1 rfl) ?_
  refine l_arg (k := 1) C0 G.2.2.2.1 hX hbl hbA hL hl (by omega) dL_law_616 dL_law_617 dL_law_618 (by decide) dL_law_619 dL_law_620 ?_
  refine l_arg (k := 2) C0 G.2.2.2.1 hX hbl hbA hL hl (by omega) dL_law_621 dL_law_622 dL_law_623 (by decide) dL_law_624 dL_law_625 ?_
  refine l_goi C0 G sMS (l_runV (tys' := tyM cI cC) (As := [.int (ss (i + 1)), .int (ss (i + 2))]) (rest := [.int r]) (n := 2) (q0 := 0) C0 G sMS x_x0 X0_ok [0, 4] rfl (c5_both X0_ok h5) q947 q54 q944 q945 q946 o5_both ⟨rfl, rfl⟩ ⟨Nat.le_of_ble_eq_true rfl, Nat.le_of_ble_eq_true rfl⟩ rfl rfl rfl hl.1 rfl (Nat.le_of_ble_eq_true rfl) dL_law_626 ⟨Nat.le_of_ble_eq_true rfl, Nat.le_of_ble_eq_true rfl⟩) (fun H locs G => ?_)
  refine lv_icmp_eq (tgt := 1426) hx hb dL_law_629 (by decide) (fun _ => ?_) (fun h => absurd rfl h)
  exact kk H locs ⟨_, _, _, _, _, _, _, _, _, _, _, _, _, _, _, _, _, _, _, _, _, _, _, _, _, _, _, _, _, _, _, _, _, _, _, _, _, _, _, _, _, _, _, _, _, _, _, _, _, ⟨nP, hK, nF, rfl, hT, hS⟩, G⟩
