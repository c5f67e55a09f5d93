/-! the law: its cases 21 to 27 -/
set_option maxHeartbeats 4000000 in
set_option maxRecDepth 100000 in
theorem law_fits {ta adK adV : Nat → Nat} {l : Launch} {D : va_G} {cI cB cG cS cC : ClassId} {ad am : Nat → Nat} {p : Program} {e : Env} {s : State} {m : MethodId} {args : Array Value} {below : List Frame} {meth : Method} {c : Code} {A : Nat → Prop} {Q : State → Prop} {H : Heap} {locs : List Loc} {ls : Array Slot} {b L i : Nat} {ss : Nat → Int32} (C0 : CX (XC ta adK adV) p s m args meth c code 4 ret RL A) (hX : va_X b L ss s s.heap) (hbl : b < s.heap.size) (hbA : ¬ A b) (hL : L ≤ 3072) (hi : i + 6 ≤ L) (hW : LW (XC ta adK adV) D cI cB cG cS cC ad am A s H locs) (hl : lv_has ls 4 [(3, .int (nI i)), (2, .ref (am 0)), (1, .ref (ad 0)), (0, .ref b)]) (kk : ∀ (H : Heap) (locs : List Loc), LW (XC ta adK adV) D cI cB cG cS cC ad am A s H locs → W p l e room_1 s m args below meth c H locs 600000 7302250 Q (F0 m 1426 ls [])) : W p l e room_1 s m args below meth c H locs 600000 7302250 Q (F0 m 855 ls []) := by
  have hx := C0.1
  have hb := C0.2.1
  obtain ⟨hp1, st1, tr1, sp1, vis1, day1, z1, hp2, st2, tr2, sp2, vis2, day2, z2, hp3, st3, tr3, sp3, vis3, day3, z3, tb, tl, rtok, rbg, ren, rvl, shn, shb, shz, fd, isK, xs, xkept, xaside, xisK, xfound, xgone, xover, xtape, xtaped, xtok, xbeg, xend, xval, xwid, xsiz, xcel, xcar, ⟨hP, hK, hF, rfl, hT, hS⟩, G⟩ := hW
  obtain ⟨r, o1, o2, o3, o4, o5, o6, o7, o8, x1, x2, x3, x4, h4, h5, nP, nF⟩ := op_fits (xa := xaside) (ov := xover) (hp3 := hp3) (st3 := st3) (tr3 := tr3) (sp3 := sp3) (vis3 := vis3) (day3 := day3) (z3 := z3) hP hS hF (ss (i + 1)) (ss (i + 2)) (ss (i + 3))
  refine lv_aload_n hx hb dL_law_855 rfl (lv_at hl 2 rfl) ?_
  refine l_arg (k := 1) C0 G.2.2.2.1 hX hbl hbA hL hl (by omega) dL_law_856 dL_law_857 dL_law_858 (by decide) dL_law_859 dL_law_860 ?_
  refine l_arg (k := 2) C0 G.2.2.2.1 hX hbl hbA hL hl (by omega) dL_law_861 dL_law_862 dL_law_863 (by decide) dL_law_864 dL_law_865 ?_
  refine l_arg (k := 3) C0 G.2.2.2.1 hX hbl hbA hL hl (by omega) dL_law_866 dL_law_867 dL_law_868 (by decide) dL_law_869 dL_law_870 ?_
  refine l_goi C0 G sSM (l_runV (tys' := tyC cI cB cG cS) (As := [.int (ss (i + 1)), .int (ss (i + 2)), .int (ss (i + 3))]) (rest := []) (n := 3) (q0 := 0) C0 G sSM xc_xs XS_ok [0, 1, 2, 3] rfl (c4_fits XS_ok h4) q453 q49 q450 q451 q452 o4_fits ⟨rfl, rfl⟩ ⟨Nat.le_of_ble_eq_true rfl, Nat.le_of_ble_eq_true rfl⟩ rfl rfl rfl hl.1 rfl (Nat.le_of_ble_eq_true rfl) dL_law_871 ⟨Nat.le_of_ble_eq_true rfl, Nat.le_of_ble_eq_true rfl⟩) (fun H locs G => ?_)
  refine lv_aload_n hx hb dL_law_874 rfl (lv_at hl 1 rfl) ?_
  refine l_arg (k := 1) C0 G.2.2.2.1 hX hbl hbA hL hl (by omega) dL_law_875 dL_law_876 dL_law_877 (by decide) dL_law_878 dL_law_879 ?_
  refine l_arg (k := 2) C0 G.2.2.2.1 hX hbl hbA hL hl (by omega) dL_law_880 dL_law_881 dL_law_882 (by decide) dL_law_883 dL_law_884 ?_
  refine l_arg (k := 3) C0 G.2.2.2.1 hX hbl hbA hL hl (by omega) dL_law_885 dL_law_886 dL_law_887 (by decide) dL_law_888 dL_law_889 ?_
  refine l_goi C0 G sMS (l_runV (tys' := tyM cI cC) (As := [.int (ss (i + 1)), .int (ss (i + 2)), .int (ss (i + 3))]) (rest := [.int r]) (n := 3) (q0 := 0) C0 G sMS x_x0 X0_ok [0, 4] rfl (c5_fits X0_ok h5) q997 q54 q994 q995 q996 o5_fits ⟨rfl, rfl⟩ ⟨Nat.le_of_ble_eq_true rfl, Nat.le_of_ble_eq_true rfl⟩ rfl rfl rfl hl.1 rfl (Nat.le_of_ble_eq_true rfl) dL_law_890 ⟨Nat.le_of_ble_eq_true rfl, Nat.le_of_ble_eq_true rfl⟩) (fun H locs G => ?_)
  refine lv_icmp_eq (tgt := 1426) hx hb dL_law_893 (by decide) (fun _ => ?_) (fun h => absurd rfl h)
  exact kk H locs ⟨_, _, _, _, _, _, _, _, _, _, _, _, _, _, _, _, _, _, _, _, _, _, _, _, _, _, _, _, _, _, _, _, _, _, _, _, _, _, _, _, _, _, _, _, _, _, _, _, _, ⟨nP, hK, nF, rfl, hT, hS⟩, G⟩
set_option maxHeartbeats 4000000 in
set_option maxRecDepth 100000 in
theorem law_kinds {ta adK adV : Nat → Nat} {l : Launch} {D : va_G} {cI cB cG cS cC : ClassId} {ad am : Nat → Nat} {p : Program} {e : Env} {s : State} {m : MethodId} {args : Array Value} {below : List Frame} {meth : Method} {c : Code} {A : Nat → Prop} {Q : State → Prop} {H : Heap} {locs : List Loc} {ls : Array Slot} {b L i : Nat} {ss : Nat → Int32} (C0 : CX (XC ta adK adV) p s m args meth c code 4 ret RL A) (hX : va_X b L ss s s.heap) (hbl : b < s.heap.size) (hbA : ¬ A b) (hL : L ≤ 3072) (hi : i + 6 ≤ L) (hW : LW (XC ta adK adV) D cI cB cG cS cC ad am A s H locs) (hl : lv_has ls 4 [(3, .int (nI i)), (2, .ref (am 0)), (1, .ref (ad 0)), (0, .ref b)]) (kk : ∀ (H : Heap) (locs : List Loc), LW (XC ta adK adV) D cI cB cG cS cC ad am A s H locs → W p l e room_1 s m args below meth c H locs 600000 7302250 Q (F0 m 1426 ls [])) : W p l e room_1 s m args below meth c H locs 600000 7302250 Q (F0 m 898 ls []) := by
  have hx := C0.1
  have hb := C0.2.1
  obtain ⟨hp1, st1, tr1, sp1, vis1, day1, z1, hp2, st2, tr2, sp2, vis2, day2, z2, hp3, st3, tr3, sp3, vis3, day3, z3, tb, tl, rtok, rbg, ren, rvl, shn, shb, shz, fd, isK, xs, xkept, xaside, xisK, xfound, xgone, xover, xtape, xtaped, xtok, xbeg, xend, xval, xwid, xsiz, xcel, xcar, ⟨hP, hK, hF, rfl, hT, hS⟩, G⟩ := hW
  obtain ⟨r, o1, o2, o3, o4, o5, o6, o7, o8, x1, x2, x3, x4, h4, h5, nP, nF⟩ := op_kinds (xa := xaside) (ov := xover) (hp3 := hp3) (st3 := st3) (tr3 := tr3) (sp3 := sp3) (vis3 := vis3) (day3 := day3) (z3 := z3) hP hS hF (ss (i + 1)) (ss (i + 2)) (ss (i + 3))
  refine lv_aload_n hx hb dL_law_898 rfl (lv_at hl 2 rfl) ?_
  refine l_arg (k := 1) C0 G.2.2.2.1 hX hbl hbA hL hl (by omega) dL_law_899 dL_law_900 dL_law_901 (by decide) dL_law_902 dL_law_903 ?_
  refine l_arg (k := 2) C0 G.2.2.2.1 hX hbl hbA hL hl (by omega) dL_law_904 dL_law_905 dL_law_906 (by decide) dL_law_907 dL_law_908 ?_
  refine l_arg (k := 3) C0 G.2.2.2.1 hX hbl hbA hL hl (by omega) dL_law_909 dL_law_910 dL_law_911 (by decide) dL_law_912 dL_law_913 ?_
  refine l_goi C0 G sSM (l_runV (tys' := tyC cI cB cG cS) (As := [.int (ss (i + 1)), .int (ss (i + 2)), .int (ss (i + 3))]) (rest := []) (n := 3) (q0 := 0) C0 G sSM xc_xs XS_ok [0, 1, 2, 3] rfl (c4_kinds XS_ok h4) q473 q49 q470 q471 q472 o4_kinds ⟨rfl, rfl⟩ ⟨Nat.le_of_ble_eq_true rfl, Nat.le_of_ble_eq_true rfl⟩ rfl rfl rfl hl.1 rfl (Nat.le_of_ble_eq_true rfl) dL_law_914 ⟨Nat.le_of_ble_eq_true rfl, Nat.le_of_ble_eq_true rfl⟩) (fun H locs G => ?_)
  refine lv_aload_n hx hb dL_law_917 rfl (lv_at hl 1 rfl) ?_
  refine l_arg (k := 1) C0 G.2.2.2.1 hX hbl hbA hL hl (by omega) dL_law_918 dL_law_919 dL_law_920 (by decide) dL_law_921 dL_law_922 ?_
  refine l_arg (k := 2) C0 G.2.2.2.1 hX hbl hbA hL hl (by omega) dL_law_923 dL_law_924 dL_law_925 (by decide) dL_law_926 dL_law_927 ?_
  refine l_arg (k := 3) C0 G.2.2.2.1 hX hbl hbA hL hl (by omega) dL_law_928 dL_law_929 dL_law_930 (by decide) dL_law_931 dL_law_932 ?_
  refine l_goi C0 G sMS (l_runV (tys' := tyM cI cC) (As := [.int (ss (i + 1)), .int (ss (i + 2)), .int (ss (i + 3))]) (rest := [.int r]) (n := 3) (q0 := 0) C0 G sMS x_x0 X0_ok [0, 4] rfl (c5_kinds X0_ok h5) q1024 q54 q1021 q1022 q1023 o5_kinds ⟨rfl, rfl⟩ ⟨Nat.le_of_ble_eq_true rfl, Nat.le_of_ble_eq_true rfl⟩ rfl rfl rfl hl.1 rfl (Nat.le_of_ble_eq_true rfl) dL_law_933 ⟨Nat.le_of_ble_eq_true rfl, Nat.le_of_ble_eq_true rfl⟩) (fun H locs G => ?_)
  refine lv_icmp_eq (tgt := 1426) hx hb dL_law_936 (by decide) (fun _ => ?_) (fun h => absurd rfl h)
  exact kk H locs ⟨_, _, _, _, _, _, _, _, _, _, _, _, _, _, _, _, _, _, _, _, _, _, _, _, _, _, _, _, _, _, _, _, _, _, _, _, _, _, _, _, _, _, _, _, _, _, _, _, _, ⟨nP, hK, nF, rfl, hT, hS⟩, G⟩
set_option maxHeartbeats 4000000 in
set_option maxRecDepth 100000 in
theorem law_comings {ta adK adV : Nat → Nat} {l : Launch} {D : va_G} {cI cB cG cS cC : ClassId} {ad am : Nat → Nat} {p : Program} {e : Env} {s : State} {m : MethodId} {args : Array Value} {below : List Frame} {meth : Method} {c : Code} {A : Nat → Prop} {Q : State → Prop} {H : Heap} {locs : List Loc} {ls : Array Slot} {b L i : Nat} {ss : Nat → Int32} (C0 : CX (XC ta adK adV) p s m args meth c code 4 ret RL A) (hX : va_X b L ss s s.heap) (hbl : b < s.heap.size) (hbA : ¬ A b) (hL : L ≤ 3072) (hi : i + 6 ≤ L) (hW : LW (XC ta adK adV) D cI cB cG cS cC ad am A s H locs) (hl : lv_has ls 4 [(3, .int (nI i)), (2, .ref (am 0)), (1, .ref (ad 0)), (0, .ref b)]) (kk : ∀ (H : Heap) (locs : List Loc), LW (XC ta adK adV) D cI cB cG cS cC ad am A s H locs → W p l e room_1 s m args below meth c H locs 600000 7302250 Q (F0 m 1426 ls [])) : W p l e room_1 s m args below meth c H locs 600000 7302250 Q (F0 m 941 ls []) := by
  have hx := C0.1
  have hb := C0.2.1
  obtain ⟨hp1, st1, tr1, sp1, vis1, day1, z1, hp2, st2, tr2, sp2, vis2, day2, z2, hp3, st3, tr3, sp3, vis3, day3, z3, tb, tl, rtok, rbg, ren, rvl, shn, shb, shz, fd, isK, xs, xkept, xaside, xisK, xfound, xgone, xover, xtape, xtaped, xtok, xbeg, xend, xval, xwid, xsiz, xcel, xcar, ⟨hP, hK, hF, rfl, hT, hS⟩, G⟩ := hW
  obtain ⟨r, o0, o1, o2, o3, o4, o5, o6, o7, o8, h4, h5, nP, nF⟩ := op_comings (ov := xover) hP hF (ss (i + 1))
  refine lv_aload_n hx hb dL_law_941 rfl (lv_at hl 2 rfl) ?_
  refine l_arg (k := 1) C0 G.2.2.2.1 hX hbl hbA hL hl (by omega) dL_law_942 dL_law_943 dL_law_944 (by decide) dL_law_945 dL_law_946 ?_
  refine l_goi C0 G sSM (l_runV (tys' := tyC cI cB cG cS) (As := [.int (ss (i + 1))]) (rest := []) (n := 1) (q0 := 0) C0 G sSM xc_xs XS_ok [0, 1, 2, 3] rfl (c4_comings XS_ok h4) q477 q49 q474 q475 q476 o4_comings ⟨rfl, rfl⟩ ⟨Nat.le_of_ble_eq_true rfl, Nat.le_of_ble_eq_true rfl⟩ rfl rfl rfl hl.1 rfl (Nat.le_of_ble_eq_true rfl) dL_law_947 ⟨Nat.le_of_ble_eq_true rfl, Nat.le_of_ble_eq_true rfl⟩) (fun H locs G => ?_)
  refine lv_aload_n hx hb dL_law_950 rfl (lv_at hl 1 rfl) ?_
  refine l_arg (k := 1) C0 G.2.2.2.1 hX hbl hbA hL hl (by omega) dL_law_951 dL_law_952 dL_law_953 (by decide) dL_law_954 dL_law_955 ?_
  refine l_goi C0 G sMS (l_runV (tys' := tyM cI cC) (As := [.int (ss (i + 1))]) (rest := [.int r]) (n := 1) (q0 := 0) C0 G sMS x_x0 X0_ok [0, 4] rfl (c5_comings X0_ok h5) q1028 q54 q1025 q1026 q1027 o5_comings ⟨rfl, rfl⟩ ⟨Nat.le_of_ble_eq_true rfl, Nat.le_of_ble_eq_true rfl⟩ rfl rfl rfl hl.1 rfl (Nat.le_of_ble_eq_true rfl) dL_law_956 ⟨Nat.le_of_ble_eq_true rfl, Nat.le_of_ble_eq_true rfl⟩) (fun H locs G => ?_)
  refine lv_icmp_eq (tgt := 1426) hx hb dL_law_959 (by decide) (fun _ => ?_) (fun h => absurd rfl h)
  exact kk H locs ⟨_, _, _, _, _, _, _, _, _, _, _, _, _, _, _, _, _, _, _, _, _, _, _, _, _, _, _, _, _, _, _, _, _, _, _, _, _, _, _, _, _, _, _, _, _, _, _, _, _, ⟨nP, hK, nF, rfl, hT, hS⟩, G⟩
set_option maxHeartbeats 4000000 in
set_option maxRecDepth 100000 in
theorem law_odds {ta adK adV : Nat → Nat} {l : Launch} {D : va_G} {cI cB cG cS cC : ClassId} {ad am : Nat → Nat} {p : Program} {e : Env} {s : State} {m : MethodId} {args : Array Value} {below : List Frame} {meth : Method} {c : Code} {A : Nat → Prop} {Q : State → Prop} {H : Heap} {locs : List Loc} {ls : Array Slot} {b L i : Nat} {ss : Nat → Int32} (C0 : CX (XC ta adK adV) p s m args meth c code 4 ret RL A) (hX : va_X b L ss s s.heap) (hbl : b < s.heap.size) (hbA : ¬ A b) (hL : L ≤ 3072) (hi : i + 6 ≤ L) (hW : LW (XC ta adK adV) D cI cB cG cS cC ad am A s H locs) (hl : lv_has ls 4 [(3, .int (nI i)), (2, .ref (am 0)), (1, .ref (ad 0)), (0, .ref b)]) (kk : ∀ (H : Heap) (locs : List Loc), LW (XC ta adK adV) D cI cB cG cS cC ad am A s H locs → W p l e room_1 s m args below meth c H locs 600000 7302250 Q (F0 m 1426 ls [])) : W p l e room_1 s m args below meth c H locs 600000 7302250 Q (F0 m 964 ls []) := by
  have hx := C0.1
  have hb := C0.2.1
  obtain ⟨hp1, st1, tr1, sp1, vis1, day1, z1, hp2, st2, tr2, sp2, vis2, day2, z2, hp3, st3, tr3, sp3, vis3, day3, z3, tb, tl, rtok, rbg, ren, rvl, shn, shb, shz, fd, isK, xs, xkept, xaside, xisK, xfound, xgone, xover, xtape, xtaped, xtok, xbeg, xend, xval, xwid, xsiz, xcel, xcar, ⟨hP, hK, hF, rfl, hT, hS⟩, G⟩ := hW
  obtain ⟨r, o0, o1, h4, h5, nF⟩ := op_odds  hP hF (ss (i + 1)) (ss (i + 2))
  refine lv_aload_n hx hb dL_law_964 rfl (lv_at hl 2 rfl) ?_
  refine l_arg (k := 1) C0 G.2.2.2.1 hX hbl hbA hL hl (by omega) dL_law_965 dL_law_966 dL_law_967 (by decide) dL_law_968 dL_law_969 ?_
  refine l_arg (k := 2) C0 G.2.2.2.1 hX hbl hbA hL hl (by omega) dL_law_970 dL_law_971 dL_law_972 (by decide) dL_law_973 dL_law_974 ?_
  refine l_gol C0 G sSM (l_runV (tys' := tyC cI cB cG cS) (As := [.int (ss (i + 1)), .int (ss (i + 2))]) (rest := []) (n := 2) (q0 := 0) C0 G sSM xc_xs XS_ok [0, 1, 2, 3] rfl (c4_odds XS_ok h4) q486 q49 q483 q484 q485 o4_odds ⟨rfl, rfl⟩ ⟨Nat.le_of_ble_eq_true rfl, Nat.le_of_ble_eq_true rfl⟩ rfl rfl rfl hl.1 rfl (Nat.le_of_ble_eq_true rfl) dL_law_975 ⟨Nat.le_of_ble_eq_true rfl, Nat.le_of_ble_eq_true rfl⟩) (fun H locs G => ?_)
  refine lv_aload_n hx hb dL_law_978 rfl (lv_at hl 1 rfl) ?_
  refine l_arg (k := 1) C0 G.2.2.2.1 hX hbl hbA hL hl (by omega) dL_law_979 dL_law_980 dL_law_981 (by decide) dL_law_982 dL_law_983 ?_
  refine l_arg (k := 2) C0 G.2.2.2.1 hX hbl hbA hL hl (by omega) dL_law_984 dL_law_985 dL_law_986 (by decide) dL_law_987 dL_law_988 ?_
  refine l_gol C0 G sMS (l_runV (tys' := tyM cI cC) (As := [.int (ss (i + 1)), .int (ss (i + 2))]) (rest := [.long r]) (n := 2) (q0 := 0) C0 G sMS x_x0 X0_ok [0, 4] rfl (c5_odds X0_ok h5) q1037 q54 q1034 q1035 q1036 o5_odds ⟨rfl, rfl⟩ ⟨Nat.le_of_ble_eq_true rfl, Nat.le_of_ble_eq_true rfl⟩ rfl rfl rfl hl.1 rfl (Nat.le_of_ble_eq_true rfl) dL_law_989 ⟨Nat.le_of_ble_eq_true rfl, Nat.le_of_ble_eq_true rfl⟩) (fun H locs G => ?_)
  refine W.lcmp hx hb dL_law_992 ?_
  refine lv_if_eq (tgt := 1426) hx hb dL_law_993 (by decide) (fun _ => ?_) (fun h => absurd ((lg_cmp_eq r r).mpr rfl) h)
  exact kk H locs ⟨_, _, _, _, _, _, _, _, _, _, _, _, _, _, _, _, _, _, _, _, _, _, _, _, _, _, _, _, _, _, _, _, _, _, _, _, _, _, _, _, _, _, _, _, _, _, _, _, _, ⟨hP, hK, nF, rfl, hT, hS⟩, G⟩
set_option maxHeartbeats 4000000 in
set_option maxRecDepth 100000 in
theorem law_seed {ta adK adV : Nat → Nat} {l : Launch} {D : va_G} {cI cB cG cS cC : ClassId} {ad am : Nat → Nat} {p : Program} {e : Env} {s : State} {m : MethodId} {args : Array Value} {below : List Frame} {meth : Method} {c : Code} {A : Nat → Prop} {Q : State → Prop} {H : Heap} {locs : List Loc} {ls : Array Slot} {b L i : Nat} {ss : Nat → Int32} (C0 : CX (XC ta adK adV) p s m args meth c code 4 ret RL A) (hX : va_X b L ss s s.heap) (hbl : b < s.heap.size) (hbA : ¬ A b) (hL : L ≤ 3072) (hi : i + 6 ≤ L) (hW : LW (XC ta adK adV) D cI cB cG cS cC ad am A s H locs) (hl : lv_has ls 4 [(3, .int (nI i)), (2, .ref (am 0)), (1, .ref (ad 0)), (0, .ref b)]) (kk : ∀ (H : Heap) (locs : List Loc), LW (XC ta adK adV) D cI cB cG cS cC ad am A s H locs → W p l e room_1 s m args below meth c H locs 600000 7302250 Q (F0 m 1426 ls [])) : W p l e room_1 s m args below meth c H locs 600000 7302250 Q (F0 m 998 ls []) := by
  have hx := C0.1
  have hb := C0.2.1
  obtain ⟨hp1, st1, tr1, sp1, vis1, day1, z1, hp2, st2, tr2, sp2, vis2, day2, z2, hp3, st3, tr3, sp3, vis3, day3, z3, tb, tl, rtok, rbg, ren, rvl, shn, shb, shz, fd, isK, xs, xkept, xaside, xisK, xfound, xgone, xover, xtape, xtaped, xtok, xbeg, xend, xval, xwid, xsiz, xcel, xcar, ⟨hP, hK, hF, rfl, hT, hS⟩, G⟩ := hW
  obtain ⟨r, o0, o1, h4, h5, nP⟩ := op_seed  hP (ss (i + 1))
  refine lv_aload_n hx hb dL_law_998 rfl (lv_at hl 2 rfl) ?_
  refine l_arg (k := 1) C0 G.2.2.2.1 hX hbl hbA hL hl (by omega) dL_law_999 dL_law_1000 dL_law_1001 (by decide) dL_law_1002 dL_law_1003 ?_
  refine l_goi C0 G sSM (l_runV (tys' := tyC cI cB cG cS) (As := [.int (ss (i + 1))]) (rest := []) (n := 1) (q0 := 0) C0 G sSM xc_xs XS_ok [0, 1, 2, 3] rfl (c4_seed XS_ok h4) q497 q49 q494 q495 q496 o4_seed ⟨rfl, rfl⟩ ⟨Nat.le_of_ble_eq_true rfl, Nat.le_of_ble_eq_true rfl⟩ rfl rfl rfl hl.1 rfl (Nat.le_of_ble_eq_true rfl) dL_law_1004 ⟨Nat.le_of_ble_eq_true rfl, Nat.le_of_ble_eq_true rfl⟩) (fun H locs G => ?_)
  refine lv_aload_n hx hb dL_law_1007 rfl (lv_at hl 1 rfl) ?_
  refine l_arg (k := 1) C0 G.2.2.2.1 hX hbl hbA hL hl (by omega) dL_law_1008 dL_law_1009 dL_law_1010 (by decide) dL_law_1011 dL_law_1012 ?_
  refine l_goi C0 G sMS (l_runV (tys' := tyM cI cC) (As := [.int (ss (i + 1))]) (rest := [.int r]) (n := 1) (q0 := 0) C0 G sMS x_x0 X0_ok [0, 4] rfl (c5_seed X0_ok h5) q1042 q54 q1039 q1040 q1041 o5_seed ⟨rfl, rfl⟩ ⟨Nat.le_of_ble_eq_true rfl, Nat.le_of_ble_eq_true rfl⟩ rfl rfl rfl hl.1 rfl (Nat.le_of_ble_eq_true rfl) dL_law_1013 ⟨Nat.le_of_ble_eq_true rfl, Nat.le_of_ble_eq_true rfl⟩) (fun H locs G => ?_)
  refine lv_icmp_eq (tgt := 1426) hx hb dL_law_1016 (by decide) (fun _ => ?_) (fun h => absurd rfl h)
  exact kk H locs ⟨_, _, _, _, _, _, _, _, _, _, _, _, _, _, _, _, _, _, _, _, _, _, _, _, _, _, _, _, _, _, _, _, _, _, _, _, _, _, _, _, _, _, _, _, _, _, _, _, _, ⟨nP, hK, hF, rfl, hT, hS⟩, G⟩
set_option maxHeartbeats 4000000 in
set_option maxRecDepth 100000 in
theorem law_feed {ta adK adV : Nat → Nat} {l : Launch} {D : va_G} {cI cB cG cS cC : ClassId} {ad am : Nat → Nat} {p : Program} {e : Env} {s : State} {m : MethodId} {args : Array Value} {below : List Frame} {meth : Method} {c : Code} {A : Nat → Prop} {Q : State → Prop} {H : Heap} {locs : List Loc} {ls : Array Slot} {b L i : Nat} {ss : Nat → Int32} (C0 : CX (XC ta adK adV) p s m args meth c code 4 ret RL A) (hX : va_X b L ss s s.heap) (hbl : b < s.heap.size) (hbA : ¬ A b) (hL : L ≤ 3072) (hi : i + 6 ≤ L) (hW : LW (XC ta adK adV) D cI cB cG cS cC ad am A s H locs) (hl : lv_has ls 4 [(3, .int (nI i)), (2, .ref (am 0)), (1, .ref (ad 0)), (0, .ref b)]) (kk : ∀ (H : Heap) (locs : List Loc), LW (XC ta adK adV) D cI cB cG cS cC ad am A s H locs → W p l e room_1 s m args below meth c H locs 600000 7302250 Q (F0 m 1426 ls [])) : W p l e room_1 s m args below meth c H locs 600000 7302250 Q (F0 m 1021 ls []) := by
  have hx := C0.1
  have hb := C0.2.1
  obtain ⟨hp1, st1, tr1, sp1, vis1, day1, z1, hp2, st2, tr2, sp2, vis2, day2, z2, hp3, st3, tr3, sp3, vis3, day3, z3, tb, tl, rtok, rbg, ren, rvl, shn, shb, shz, fd, isK, xs, xkept, xaside, xisK, xfound, xgone, xover, xtape, xtaped, xtok, xbeg, xend, xval, xwid, xsiz, xcel, xcar, ⟨hP, hK, hF, rfl, hT, hS⟩, G⟩ := hW
  obtain ⟨r, o0, o1, o2, o3, o4, o5, h4, h5, nT, nF⟩ := op_feed  hT hF (ss (i + 1)) (ss (i + 2))
  refine lv_aload_n hx hb dL_law_1021 rfl (lv_at hl 2 rfl) ?_
  refine l_arg (k := 1) C0 G.2.2.2.1 hX hbl hbA hL hl (by omega) dL_law_1022 dL_law_1023 dL_law_1024 (by decide) dL_law_1025 dL_law_1026 ?_
  refine l_arg (k := 2) C0 G.2.2.2.1 hX hbl hbA hL hl (by omega) dL_law_1027 dL_law_1028 dL_law_1029 (by decide) dL_law_1030 dL_law_1031 ?_
  refine l_goi C0 G sSM (l_runV (tys' := tyC cI cB cG cS) (As := [.int (ss (i + 1)), .int (ss (i + 2))]) (rest := []) (n := 2) (q0 := 0) C0 G sSM xc_xs XS_ok [0, 1, 2, 3] rfl (c4_feed XS_ok h4) q501 q49 q498 q499 q500 o4_feed ⟨rfl, rfl⟩ ⟨Nat.le_of_ble_eq_true rfl, Nat.le_of_ble_eq_true rfl⟩ rfl rfl rfl hl.1 rfl (Nat.le_of_ble_eq_true rfl) dL_law_1032 ⟨Nat.le_of_ble_eq_true rfl, Nat.le_of_ble_eq_true rfl⟩) (fun H locs G => ?_)
  refine lv_aload_n hx hb dL_law_1035 rfl (lv_at hl 1 rfl) ?_
  refine l_arg (k := 1) C0 G.2.2.2.1 hX hbl hbA hL hl (by omega) dL_law_1036 dL_law_1037 dL_law_1038 (by decide) dL_law_1039 dL_law_1040 ?_
  refine l_arg (k := 2) C0 G.2.2.2.1 hX hbl hbA hL hl (by omega) dL_law_1041 dL_law_1042 dL_law_1043 (by decide) dL_law_1044 dL_law_1045 ?_
  refine l_goi C0 G sMS (l_runV (tys' := tyM cI cC) (As := [.int (ss (i + 1)), .int (ss (i + 2))]) (rest := [.int r]) (n := 2) (q0 := 0) C0 G sMS x_x0 X0_ok [0, 4] rfl (c5_feed X0_ok h5) q1046 q54 q1043 q1044 q1045 o5_feed ⟨rfl, rfl⟩ ⟨Nat.le_of_ble_eq_true rfl, Nat.le_of_ble_eq_true rfl⟩ rfl rfl rfl hl.1 rfl (Nat.le_of_ble_eq_true rfl) dL_law_1046 ⟨Nat.le_of_ble_eq_true rfl, Nat.le_of_ble_eq_true rfl⟩) (fun H locs G => ?_)
  refine lv_icmp_eq (tgt := 1426) hx hb dL_law_1049 (by decide) (fun _ => ?_) (fun h => absurd rfl h)
  exact kk H locs ⟨_, _, _, _, _, _, _, _, _, _, _, _, _, _, _, _, _, _, _, _, _, _, _, _, _, _, _, _, _, _, _, _, _, _, _, _, _, _, _, _, _, _, _, _, _, _, _, _, _, ⟨hP, hK, nF, rfl, nT, hS⟩, G⟩
set_option maxHeartbeats 4000000 in
set_option maxRecDepth 100000 in
theorem law_wipe {ta adK adV : Nat → Nat} {l : Launch} {D : va_G} {cI cB cG cS cC : ClassId} {ad am : Nat → Nat} {p : Program} {e : Env} {s : State} {m : MethodId} {args : Array Value} {below : List Frame} {meth : Method} {c : Code} {A : Nat → Prop} {Q : State → Prop} {H : Heap} {locs : List Loc} {ls : Array Slot} {b L i : Nat} {ss : Nat → Int32} (C0 : CX (XC ta adK adV) p s m args meth c code 4 ret RL A) (hX : va_X b L ss s s.heap) (hbl : b < s.heap.size) (hbA : ¬ A b) (hL : L ≤ 3072) (hi : i + 6 ≤ L) (hW : LW (XC ta adK adV) D cI cB cG cS cC ad am A s H locs) (hl : lv_has ls 4 [(3, .int (nI i)), (2, .ref (am 0)), (1, .ref (ad 0)), (0, .ref b)]) (kk : ∀ (H : Heap) (locs : List Loc), LW (XC ta adK adV) D cI cB cG cS cC ad am A s H locs → W p l e room_1 s m args below meth c H locs 600000 7302250 Q (F0 m 1426 ls [])) : W p l e room_1 s m args below meth c H locs 600000 7302250 Q (F0 m 1054 ls []) := by
  have hx := C0.1
  have hb := C0.2.1
  obtain ⟨hp1, st1, tr1, sp1, vis1, day1, z1, hp2, st2, tr2, sp2, vis2, day2, z2, hp3, st3, tr3, sp3, vis3, day3, z3, tb, tl, rtok, rbg, ren, rvl, shn, shb, shz, fd, isK, xs, xkept, xaside, xisK, xfound, xgone, xover, xtape, xtaped, xtok, xbeg, xend, xval, xwid, xsiz, xcel, xcar, ⟨hP, hK, hF, rfl, hT, hS⟩, G⟩ := hW
  obtain ⟨r, o0, o1, h4, h5, nT⟩ := op_wipe  hT 
  refine lv_aload_n hx hb dL_law_1054 rfl (lv_at hl 2 rfl) ?_
  refine l_goi C0 G sSM (l_runV (tys' := tyC cI cB cG cS) (As := []) (rest := []) (n := 0) (q0 := 0) C0 G sSM xc_xs XS_ok [0, 1, 2, 3] rfl (c4_wipe XS_ok h4) q509 q49 q506 q507 q508 o4_wipe ⟨rfl, rfl⟩ ⟨Nat.le_of_ble_eq_true rfl, Nat.le_of_ble_eq_true rfl⟩ rfl rfl rfl hl.1 rfl (Nat.le_of_ble_eq_true rfl) dL_law_1055 ⟨Nat.le_of_ble_eq_true rfl, Nat.le_of_ble_eq_true rfl⟩) (fun H locs G => ?_)
  refine lv_aload_n hx hb dL_law_1058 rfl (lv_at hl 1 rfl) ?_
  refine l_goi C0 G sMS (l_runV (tys' := tyM cI cC) (As := []) (rest := [.int r]) (n := 0) (q0 := 0) C0 G sMS x_x0 X0_ok [0, 4] rfl (c5_wipe X0_ok h5) q1050 q54 q1047 q1048 q1049 o5_wipe ⟨rfl, rfl⟩ ⟨Nat.le_of_ble_eq_true rfl, Nat.le_of_ble_eq_true rfl⟩ rfl rfl rfl hl.1 rfl (Nat.le_of_ble_eq_true rfl) dL_law_1059 ⟨Nat.le_of_ble_eq_true rfl, Nat.le_of_ble_eq_true rfl⟩) (fun H locs G => ?_)
  refine lv_icmp_eq (tgt := 1426) hx hb dL_law_1062 (by decide) (fun _ => ?_) (fun h => absurd rfl h)
  exact kk H locs ⟨_, _, _, _, _, _, _, _, _, _, _, _, _, _, _, _, _, _, _, _, _, _, _, _, _, _, _, _, _, _, _, _, _, _, _, _, _, _, _, _, _, _, _, _, _, _, _, _, _, ⟨hP, hK, hF, rfl, nT, hS⟩, G⟩
