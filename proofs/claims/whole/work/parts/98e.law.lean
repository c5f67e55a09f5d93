/-! the law: its cases 28 to 34 -/
set_option maxHeartbeats 4000000 in
set_option maxRecDepth 100000 in
theorem law_text {ta adK adV : Nat → Nat} {l : Launch} {D : va_G} {cI cB cG cS cC : ClassId} {ad am : Nat → Nat} {p : Program} {e : Env} {s : State} {m : MethodId} {args : Array Value} {below : List Frame} {meth : Method} {c : Code} {A : Nat → Prop} {Q : State → Prop} {H : Heap} {locs : List Loc} {ls : Array Slot} {b L i : Nat} {ss : Nat → Int32} (C0 : CX (XC ta adK adV) p s m args meth c code 4 ret RL A) (hX : va_X b L ss s s.heap) (hbl : b < s.heap.size) (hbA : ¬ A b) (hL : L ≤ 3072) (hi : i + 6 ≤ L) (hW : LW (XC ta adK adV) D cI cB cG cS cC ad am A s H locs) (hl : lv_has ls 4 [(3, .int (nI i)), (2, .ref (am 0)), (1, .ref (ad 0)), (0, .ref b)]) (kk : ∀ (H : Heap) (locs : List Loc), LW (XC ta adK adV) D cI cB cG cS cC ad am A s H locs → W p l e room_1 s m args below meth c H locs 600000 7302250 Q (F0 m 1426 ls [])) : W p l e room_1 s m args below meth c H locs 600000 7302250 Q (F0 m 1067 ls []) := by
  have hx := C0.1
  have hb := C0.2.1
  obtain ⟨hp1, st1, tr1, sp1, vis1, day1, z1, hp2, st2, tr2, sp2, vis2, day2, z2, hp3, st3, tr3, sp3, vis3, day3, z3, tb, tl, rtok, rbg, ren, rvl, shn, shb, shz, fd, isK, xs, xkept, xaside, xisK, xfound, xgone, xover, xtape, xtaped, xtok, xbeg, xend, xval, xwid, xsiz, xcel, xcar, ⟨hP, hK, hF, rfl, hT, hS⟩, G⟩ := hW
  obtain ⟨r, o0, o1, o2, o3, o4, o5, o6, o7, o8, o9, o10, o11, o12, o13, o14, o15, o16, o17, o18, o19, o20, o21, o22, o23, h4, h5, nP, nT⟩ := op_text (xa := xaside) (hp3 := hp3) (st3 := st3) (tr3 := tr3) (sp3 := sp3) (vis3 := vis3) (day3 := day3) (z3 := z3) (rtok := rtok) (rbg := rbg) (ren := ren) (rvl := rvl) (xtok := xtok) (xbeg := xbeg) (xend := xend) (xval := xval) hP hT 
  refine lv_aload_n hx hb dL_law_1067 rfl (lv_at hl 2 rfl) ?_
  refine l_goi C0 G sSM (l_runV (tys' := tyC cI cB cG cS) (As := []) (rest := []) (n := 0) (q0 := 0) C0 G sSM xc_xs XS_ok [0, 1, 2, 3] rfl (c4_text XS_ok h4) q513 q49 q510 q511 q512 o4_text ⟨rfl, rfl⟩ ⟨Nat.le_of_ble_eq_true rfl, Nat.le_of_ble_eq_true rfl⟩ rfl rfl rfl hl.1 rfl (Nat.le_of_ble_eq_true rfl) dL_law_1068 ⟨Nat.le_of_ble_eq_true rfl, Nat.le_of_ble_eq_true rfl⟩) (fun H locs G => ?_)
  refine lv_aload_n hx hb dL_law_1071 rfl (lv_at hl 1 rfl) ?_
  refine l_goi C0 G sMS (l_runV (tys' := tyM cI cC) (As := []) (rest := [.int r]) (n := 0) (q0 := 0) C0 G sMS x_x0 X0_ok [0, 4] rfl (c5_text X0_ok h5) q1054 q54 q1051 q1052 q1053 o5_text ⟨rfl, rfl⟩ ⟨Nat.le_of_ble_eq_true rfl, Nat.le_of_ble_eq_true rfl⟩ rfl rfl rfl hl.1 rfl (Nat.le_of_ble_eq_true rfl) dL_law_1072 ⟨Nat.le_of_ble_eq_true rfl, Nat.le_of_ble_eq_true rfl⟩) (fun H locs G => ?_)
  refine lv_icmp_eq (tgt := 1426) hx hb dL_law_1075 (by decide) (fun _ => ?_) (fun h => absurd rfl h)
  exact kk H locs ⟨_, _, _, _, _, _, _, _, _, _, _, _, _, _, _, _, _, _, _, _, _, _, _, _, _, _, _, _, _, _, _, _, _, _, _, _, _, _, _, _, _, _, _, _, _, _, _, _, _, ⟨nP, hK, hF, rfl, nT, hS⟩, G⟩
set_option maxHeartbeats 4000000 in
set_option maxRecDepth 100000 in
theorem law_hold {ta adK adV : Nat → Nat} {l : Launch} {D : va_G} {cI cB cG cS cC : ClassId} {ad am : Nat → Nat} {p : Program} {e : Env} {s : State} {m : MethodId} {args : Array Value} {below : List Frame} {meth : Method} {c : Code} {A : Nat → Prop} {Q : State → Prop} {H : Heap} {locs : List Loc} {ls : Array Slot} {b L i : Nat} {ss : Nat → Int32} (C0 : CX (XC ta adK adV) p s m args meth c code 4 ret RL A) (hX : va_X b L ss s s.heap) (hbl : b < s.heap.size) (hbA : ¬ A b) (hL : L ≤ 3072) (hi : i + 6 ≤ L) (hW : LW (XC ta adK adV) D cI cB cG cS cC ad am A s H locs) (hl : lv_has ls 4 [(3, .int (nI i)), (2, .ref (am 0)), (1, .ref (ad 0)), (0, .ref b)]) (kk : ∀ (H : Heap) (locs : List Loc), LW (XC ta adK adV) D cI cB cG cS cC ad am A s H locs → W p l e room_1 s m args below meth c H locs 600000 7302250 Q (F0 m 1426 ls [])) : W p l e room_1 s m args below meth c H locs 600000 7302250 Q (F0 m 1080 ls []) := by
  have hx := C0.1
  have hb := C0.2.1
  obtain ⟨hp1, st1, tr1, sp1, vis1, day1, z1, hp2, st2, tr2, sp2, vis2, day2, z2, hp3, st3, tr3, sp3, vis3, day3, z3, tb, tl, rtok, rbg, ren, rvl, shn, shb, shz, fd, isK, xs, xkept, xaside, xisK, xfound, xgone, xover, xtape, xtaped, xtok, xbeg, xend, xval, xwid, xsiz, xcel, xcar, ⟨hP, hK, hF, rfl, hT, hS⟩, G⟩ := hW
  obtain ⟨r, o0, o1, o2, o3, h4, h5, nP, nF⟩ := op_hold  hP hF (ss (i + 1)) (ss (i + 2))
  refine lv_aload_n hx hb dL_law_1080 rfl (lv_at hl 2 rfl) ?_
  refine l_arg (k := 1) C0 G.2.2.2.1 hX hbl hbA hL hl (by omega) dL_law_1081 dL_law_1082 dL_law_1083 (by decide) dL_law_1084 dL_law_1085 ?_
  refine l_arg (k := 2) C0 G.2.2.2.1 hX hbl hbA hL hl (by omega) dL_law_1086 dL_law_1087 dL_law_1088 (by decide) dL_law_1089 dL_law_1090 ?_
  refine l_goi C0 G sSM (l_runV (tys' := tyC cI cB cG cS) (As := [.int (ss (i + 1)), .int (ss (i + 2))]) (rest := []) (n := 2) (q0 := 0) C0 G sSM xc_xs XS_ok [0, 1, 2, 3] rfl (c4_hold XS_ok h4) q635 q49 q632 q633 q634 o4_hold ⟨rfl, rfl⟩ ⟨Nat.le_of_ble_eq_true rfl, Nat.le_of_ble_eq_true rfl⟩ rfl rfl rfl hl.1 rfl (Nat.le_of_ble_eq_true rfl) dL_law_1091 ⟨Nat.le_of_ble_eq_true rfl, Nat.le_of_ble_eq_true rfl⟩) (fun H locs G => ?_)
  refine lv_aload_n hx hb dL_law_1094 rfl (lv_at hl 1 rfl) ?_
  refine l_arg (k := 1) C0 G.2.2.2.1 hX hbl hbA hL hl (by omega) dL_law_1095 dL_law_1096 dL_law_1097 (by decide) dL_law_1098 dL_law_1099 ?_
  refine l_arg (k := 2) C0 G.2.2.2.1 hX hbl hbA hL hl (by omega) dL_law_1100 dL_law_1101 dL_law_1102 (by decide) dL_law_1103 dL_law_1104 ?_
  refine l_goi C0 G sMS (l_runV (tys' := tyM cI cC) (As := [.int (ss (i + 1)), .int (ss (i + 2))]) (rest := [.int r]) (n := 2) (q0 := 0) C0 G sMS x_x0 X0_ok [0, 4] rfl (c5_hold X0_ok h5) q1090 q54 q1087 q1088 q1089 o5_hold ⟨rfl, rfl⟩ ⟨Nat.le_of_ble_eq_true rfl, Nat.le_of_ble_eq_true rfl⟩ rfl rfl rfl hl.1 rfl (Nat.le_of_ble_eq_true rfl) dL_law_1105 ⟨Nat.le_of_ble_eq_true rfl, Nat.le_of_ble_eq_true rfl⟩) (fun H locs G => ?_)
  refine lv_icmp_eq (tgt := 1426) hx hb dL_law_1108 (by decide) (fun _ => ?_) (fun h => absurd rfl h)
  exact kk H locs ⟨_, _, _, _, _, _, _, _, _, _, _, _, _, _, _, _, _, _, _, _, _, _, _, _, _, _, _, _, _, _, _, _, _, _, _, _, _, _, _, _, _, _, _, _, _, _, _, _, _, ⟨nP, hK, nF, rfl, hT, hS⟩, G⟩
set_option maxHeartbeats 4000000 in
set_option maxRecDepth 100000 in
theorem law_as {ta adK adV : Nat → Nat} {l : Launch} {D : va_G} {cI cB cG cS cC : ClassId} {ad am : Nat → Nat} {p : Program} {e : Env} {s : State} {m : MethodId} {args : Array Value} {below : List Frame} {meth : Method} {c : Code} {A : Nat → Prop} {Q : State → Prop} {H : Heap} {locs : List Loc} {ls : Array Slot} {b L i : Nat} {ss : Nat → Int32} (C0 : CX (XC ta adK adV) p s m args meth c code 4 ret RL A) (hX : va_X b L ss s s.heap) (hbl : b < s.heap.size) (hbA : ¬ A b) (hL : L ≤ 3072) (hi : i + 6 ≤ L) (hW : LW (XC ta adK adV) D cI cB cG cS cC ad am A s H locs) (hl : lv_has ls 4 [(3, .int (nI i)), (2, .ref (am 0)), (1, .ref (ad 0)), (0, .ref b)]) (kk : ∀ (H : Heap) (locs : List Loc), LW (XC ta adK adV) D cI cB cG cS cC ad am A s H locs → W p l e room_1 s m args below meth c H locs 600000 7302250 Q (F0 m 1426 ls [])) : W p l e room_1 s m args below meth c H locs 600000 7302250 Q (F0 m 1113 ls []) := by
  have hx := C0.1
  have hb := C0.2.1
  obtain ⟨hp1, st1, tr1, sp1, vis1, day1, z1, hp2, st2, tr2, sp2, vis2, day2, z2, hp3, st3, tr3, sp3, vis3, day3, z3, tb, tl, rtok, rbg, ren, rvl, shn, shb, shz, fd, isK, xs, xkept, xaside, xisK, xfound, xgone, xover, xtape, xtaped, xtok, xbeg, xend, xval, xwid, xsiz, xcel, xcar, ⟨hP, hK, hF, rfl, hT, hS⟩, G⟩ := hW
  obtain ⟨r, o0, o1, h4, h5, nF⟩ := op_as  hP hF (ss (i + 1)) (ss (i + 2))
  refine lv_aload_n hx hb dL_law_1113 rfl (lv_at hl 2 rfl) ?_
  refine l_arg (k := 1) C0 G.2.2.2.1 hX hbl hbA hL hl (by omega) dL_law_1114 dL_law_1115 dL_law_1116 (by decide) dL_law_1117 dL_law_1118 ?_
  refine l_arg (k := 2) C0 G.2.2.2.1 hX hbl hbA hL hl (by omega) dL_law_1119 dL_law_1120 dL_law_1121 (by decide) dL_law_1122 dL_law_1123 ?_
  refine l_goi C0 G sSM (l_runV (tys' := tyC cI cB cG cS) (As := [.int (ss (i + 1)), .int (ss (i + 2))]) (rest := []) (n := 2) (q0 := 0) C0 G sSM xc_xs XS_ok [0, 1, 2, 3] rfl (c4_as XS_ok h4) q639 q49 q636 q637 q638 o4_as ⟨rfl, rfl⟩ ⟨Nat.le_of_ble_eq_true rfl, Nat.le_of_ble_eq_true rfl⟩ rfl rfl rfl hl.1 rfl (Nat.le_of_ble_eq_true rfl) dL_law_1124 ⟨Nat.le_of_ble_eq_true rfl, Nat.le_of_ble_eq_true rfl⟩) (fun H locs G => ?_)
  refine lv_aload_n hx hb dL_law_1127 rfl (lv_at hl 1 rfl) ?_
  refine l_arg (k := 1) C0 G.2.2.2.1 hX hbl hbA hL hl (by omega) dL_law_1128 dL_law_1129 dL_law_1130 (by decide) dL_law_1131 dL_law_1132 ?_
  refine l_arg (k := 2) C0 G.2.2.2.1 hX hbl hbA hL hl (by omega) dL_law_1133 dL_law_1134 dL_law_1135 (by decide) dL_law_1136 dL_law_1137 ?_
  refine l_goi C0 G sMS (l_runV (tys' := tyM cI cC) (As := [.int (ss (i + 1)), .int (ss (i + 2))]) (rest := [.int r]) (n := 2) (q0 := 0) C0 G sMS x_x0 X0_ok [0, 4] rfl (c5_as X0_ok h5) q1097 q54 q1094 q1095 q1096 o5_as ⟨rfl, rfl⟩ ⟨Nat.le_of_ble_eq_true rfl, Nat.le_of_ble_eq_true rfl⟩ rfl rfl rfl hl.1 rfl (Nat.le_of_ble_eq_true rfl) dL_law_1138 ⟨Nat.le_of_ble_eq_true rfl, Nat.le_of_ble_eq_true rfl⟩) (fun H locs G => ?_)
  refine lv_icmp_eq (tgt := 1426) hx hb dL_law_1141 (by decide) (fun _ => ?_) (fun h => absurd rfl h)
  exact kk H locs ⟨_, _, _, _, _, _, _, _, _, _, _, _, _, _, _, _, _, _, _, _, _, _, _, _, _, _, _, _, _, _, _, _, _, _, _, _, _, _, _, _, _, _, _, _, _, _, _, _, _, ⟨hP, hK, nF, rfl, hT, hS⟩, G⟩
set_option maxHeartbeats 4000000 in
set_option maxRecDepth 100000 in
theorem law_sheet {ta adK adV : Nat → Nat} {l : Launch} {D : va_G} {cI cB cG cS cC : ClassId} {ad am : Nat → Nat} {p : Program} {e : Env} {s : State} {m : MethodId} {args : Array Value} {below : List Frame} {meth : Method} {c : Code} {A : Nat → Prop} {Q : State → Prop} {H : Heap} {locs : List Loc} {ls : Array Slot} {b L i : Nat} {ss : Nat → Int32} (C0 : CX (XC ta adK adV) p s m args meth c code 4 ret RL A) (hX : va_X b L ss s s.heap) (hbl : b < s.heap.size) (hbA : ¬ A b) (hL : L ≤ 3072) (hi : i + 6 ≤ L) (hW : LW (XC ta adK adV) D cI cB cG cS cC ad am A s H locs) (hl : lv_has ls 4 [(3, .int (nI i)), (2, .ref (am 0)), (1, .ref (ad 0)), (0, .ref b)]) (kk : ∀ (H : Heap) (locs : List Loc), LW (XC ta adK adV) D cI cB cG cS cC ad am A s H locs → W p l e room_1 s m args below meth c H locs 600000 7302250 Q (F0 m 1426 ls [])) : W p l e room_1 s m args below meth c H locs 600000 7302250 Q (F0 m 1146 ls []) := by
  have hx := C0.1
  have hb := C0.2.1
  obtain ⟨hp1, st1, tr1, sp1, vis1, day1, z1, hp2, st2, tr2, sp2, vis2, day2, z2, hp3, st3, tr3, sp3, vis3, day3, z3, tb, tl, rtok, rbg, ren, rvl, shn, shb, shz, fd, isK, xs, xkept, xaside, xisK, xfound, xgone, xover, xtape, xtaped, xtok, xbeg, xend, xval, xwid, xsiz, xcel, xcar, ⟨hP, hK, hF, rfl, hT, hS⟩, G⟩ := hW
  obtain ⟨r, o0, o1, o2, o3, o4, o5, o6, o7, h4, h5, nS, nF⟩ := op_sheet  hS hF (ss (i + 1)) (ss (i + 2)) (ss (i + 3))
  refine lv_aload_n hx hb dL_law_1146 rfl (lv_at hl 2 rfl) ?_
  refine l_arg (k := 1) C0 G.2.2.2.1 hX hbl hbA hL hl (by omega) dL_law_1147 dL_law_1148 dL_law_1149 (by decide) dL_law_1150 dL_law_1151 ?_
  refine l_arg (k := 2) C0 G.2.2.2.1 hX hbl hbA hL hl (by omega) dL_law_1152 dL_law_1153 dL_law_1154 (by decide) dL_law_1155 dL_law_1156 ?_
  refine l_arg (k := 3) C0 G.2.2.2.1 hX hbl hbA hL hl (by omega) dL_law_1157 dL_law_1158 dL_law_1159 (by decide) dL_law_1160 dL_law_1161 ?_
  refine l_goi C0 G sSM (l_runV (tys' := tyC cI cB cG cS) (As := [.int (ss (i + 1)), .int (ss (i + 2)), .int (ss (i + 3))]) (rest := []) (n := 3) (q0 := 0) C0 G sSM xc_xs XS_ok [0, 1, 2, 3] rfl (c4_sheet XS_ok h4) q648 q49 q645 q646 q647 o4_sheet ⟨rfl, rfl⟩ ⟨Nat.le_of_ble_eq_true rfl, Nat.le_of_ble_eq_true rfl⟩ rfl rfl rfl hl.1 rfl (Nat.le_of_ble_eq_true rfl) dL_law_1162 ⟨Nat.le_of_ble_eq_true rfl, Nat.le_of_ble_eq_true rfl⟩) (fun H locs G => ?_)
  refine lv_aload_n hx hb dL_law_1165 rfl (lv_at hl 1 rfl) ?_
  refine l_arg (k := 1) C0 G.2.2.2.1 hX hbl hbA hL hl (by omega) dL_law_1166 dL_law_1167 dL_law_1168 (by decide) dL_law_1169 dL_law_1170 ?_
  refine l_arg (k := 2) C0 G.2.2.2.1 hX hbl hbA hL hl (by omega) dL_law_1171 dL_law_1172 dL_law_1173 (by decide) dL_law_1174 dL_law_1175 ?_
  refine l_arg (k := 3) C0 G.2.2.2.1 hX hbl hbA hL hl (by omega) dL_law_1176 dL_law_1177 dL_law_1178 (by decide) dL_law_1179 dL_law_1180 ?_
  refine l_goi C0 G sMS (l_runV (tys' := tyM cI cC) (As := [.int (ss (i + 1)), .int (ss (i + 2)), .int (ss (i + 3))]) (rest := [.int r]) (n := 3) (q0 := 0) C0 G sMS x_x0 X0_ok [0, 4] rfl (c5_sheet X0_ok h5) q1104 q54 q1101 q1102 q1103 o5_sheet ⟨rfl, rfl⟩ ⟨Nat.le_of_ble_eq_true rfl, Nat.le_of_ble_eq_true rfl⟩ rfl rfl rfl hl.1 rfl (Nat.le_of_ble_eq_true rfl) dL_law_1181 ⟨Nat.le_of_ble_eq_true rfl, Nat.le_of_ble_eq_true rfl⟩) (fun H locs G => ?_)
  refine lv_icmp_eq (tgt := 1426) hx hb dL_law_1184 (by decide) (fun _ => ?_) (fun h => absurd rfl h)
  exact kk H locs ⟨_, _, _, _, _, _, _, _, _, _, _, _, _, _, _, _, _, _, _, _, _, _, _, _, _, _, _, _, _, _, _, _, _, _, _, _, _, _, _, _, _, _, _, _, _, _, _, _, _, ⟨hP, hK, nF, rfl, hT, nS⟩, G⟩
set_option maxHeartbeats 4000000 in
set_option maxRecDepth 100000 in
theorem law_write {ta adK adV : Nat → Nat} {l : Launch} {D : va_G} {cI cB cG cS cC : ClassId} {ad am : Nat → Nat} {p : Program} {e : Env} {s : State} {m : MethodId} {args : Array Value} {below : List Frame} {meth : Method} {c : Code} {A : Nat → Prop} {Q : State → Prop} {H : Heap} {locs : List Loc} {ls : Array Slot} {b L i : Nat} {ss : Nat → Int32} (C0 : CX (XC ta adK adV) p s m args meth c code 4 ret RL A) (hX : va_X b L ss s s.heap) (hbl : b < s.heap.size) (hbA : ¬ A b) (hL : L ≤ 3072) (hi : i + 6 ≤ L) (hW : LW (XC ta adK adV) D cI cB cG cS cC ad am A s H locs) (hl : lv_has ls 4 [(3, .int (nI i)), (2, .ref (am 0)), (1, .ref (ad 0)), (0, .ref b)]) (kk : ∀ (H : Heap) (locs : List Loc), LW (XC ta adK adV) D cI cB cG cS cC ad am A s H locs → W p l e room_1 s m args below meth c H locs 600000 7302250 Q (F0 m 1426 ls [])) : W p l e room_1 s m args below meth c H locs 600000 7302250 Q (F0 m 1189 ls []) := by
  have hx := C0.1
  have hb := C0.2.1
  obtain ⟨hp1, st1, tr1, sp1, vis1, day1, z1, hp2, st2, tr2, sp2, vis2, day2, z2, hp3, st3, tr3, sp3, vis3, day3, z3, tb, tl, rtok, rbg, ren, rvl, shn, shb, shz, fd, isK, xs, xkept, xaside, xisK, xfound, xgone, xover, xtape, xtaped, xtok, xbeg, xend, xval, xwid, xsiz, xcel, xcar, ⟨hP, hK, hF, rfl, hT, hS⟩, G⟩ := hW
  obtain ⟨r, o0, o1, o2, o3, h4, h5, nS, nF⟩ := op_write  hS hF (ss (i + 1)) (ss (i + 2)) (ss (i + 3))
  refine lv_aload_n hx hb dL_law_1189 rfl (lv_at hl 2 rfl) ?_
  refine l_arg (k := 1) C0 G.2.2.2.1 hX hbl hbA hL hl (by omega) dL_law_1190 dL_law_1191 dL_law_1192 (by decide) dL_law_1193 dL_law_1194 ?_
  refine l_arg (k := 2) C0 G.2.2.2.1 hX hbl hbA hL hl (by omega) dL_law_1195 dL_law_1196 dL_law_1197 (by decide) dL_law_1198 dL_law_1199 ?_
  refine l_arg (k := 3) C0 G.2.2.2.1 hX hbl hbA hL hl (by omega) dL_law_1200 dL_law_1201 dL_law_1202 (by decide) dL_law_1203 dL_law_1204 ?_
  refine l_goi C0 G sSM (l_runV (tys' := tyC cI cB cG cS) (As := [.int (ss (i + 1)), .int (ss (i + 2)), .int (ss (i + 3))]) (rest := []) (n := 3) (q0 := 0) C0 G sSM xc_xs XS_ok [0, 1, 2, 3] rfl (c4_write XS_ok h4) q656 q49 q653 q654 q655 o4_write ⟨rfl, rfl⟩ ⟨Nat.le_of_ble_eq_true rfl, Nat.le_of_ble_eq_true rfl⟩ rfl rfl rfl hl.1 rfl (Nat.le_of_ble_eq_true rfl) dL_law_1205 ⟨Nat.le_of_ble_eq_true rfl, Nat.le_of_ble_eq_true rfl⟩) (fun H locs G => ?_)
  refine lv_aload_n hx hb dL_law_1208 rfl (lv_at hl 1 rfl) ?_
  refine l_arg (k := 1) C0 G.2.2.2.1 hX hbl hbA hL hl (by omega) dL_law_1209 dL_law_1210 dL_law_1211 (by decide) dL_law_1212 dL_law_1213 ?_
  refine l_arg (k := 2) C0 G.2.2.2.1 hX hbl hbA hL hl (by omega) dL_law_1214 dL_law_1215 dL_law_1216 (by decide) dL_law_1217 dL_law_1218 ?_
  refine l_arg (k := 3) C0 G.2.2.2.1 hX hbl hbA hL hl (by omega) dL_law_1219 dL_law_1220 dL_law_1221 (by decide) dL_law_1222 dL_law_1223 ?_
  refine l_goi C0 G sMS (l_runV (tys' := tyM cI cC) (As := [.int (ss (i + 1)), .int (ss (i + 2)), .int (ss (i + 3))]) (rest := [.int r]) (n := 3) (q0 := 0) C0 G sMS x_x0 X0_ok [0, 4] rfl (c5_write X0_ok h5) q1108 q54 q1105 q1106 q1107 o5_write ⟨rfl, rfl⟩ ⟨Nat.le_of_ble_eq_true rfl, Nat.le_of_ble_eq_true rfl⟩ rfl rfl rfl hl.1 rfl (Nat.le_of_ble_eq_true rfl) dL_law_1224 ⟨Nat.le_of_ble_eq_true rfl, Nat.le_of_ble_eq_true rfl⟩) (fun H locs G => ?_)
  refine lv_icmp_eq (tgt := 1426) hx hb dL_law_1227 (by decide) (fun _ => ?_) (fun h => absurd rfl h)
  exact kk H locs ⟨_, _, _, _, _, _, _, _, _, _, _, _, _, _, _, _, _, _, _, _, _, _, _, _, _, _, _, _, _, _, _, _, _, _, _, _, _, _, _, _, _, _, _, _, _, _, _, _, _, ⟨hP, hK, nF, rfl, hT, nS⟩, G⟩
set_option maxHeartbeats 4000000 in
set_option maxRecDepth 100000 in
theorem law_copy {ta adK adV : Nat → Nat} {l : Launch} {D : va_G} {cI cB cG cS cC : ClassId} {ad am : Nat → Nat} {p : Program} {e : Env} {s : State} {m : MethodId} {args : Array Value} {below : List Frame} {meth : Method} {c : Code} {A : Nat → Prop} {Q : State → Prop} {H : Heap} {locs : List Loc} {ls : Array Slot} {b L i : Nat} {ss : Nat → Int32} (C0 : CX (XC ta adK adV) p s m args meth c code 4 ret RL A) (hX : va_X b L ss s s.heap) (hbl : b < s.heap.size) (hbA : ¬ A b) (hL : L ≤ 3072) (hi : i + 6 ≤ L) (hW : LW (XC ta adK adV) D cI cB cG cS cC ad am A s H locs) (hl : lv_has ls 4 [(3, .int (nI i)), (2, .ref (am 0)), (1, .ref (ad 0)), (0, .ref b)]) (kk : ∀ (H : Heap) (locs : List Loc), LW (XC ta adK adV) D cI cB cG cS cC ad am A s H locs → W p l e room_1 s m args below meth c H locs 600000 7302250 Q (F0 m 1426 ls [])) : W p l e room_1 s m args below meth c H locs 600000 7302250 Q (F0 m 1232 ls []) := by
  have hx := C0.1
  have hb := C0.2.1
  obtain ⟨hp1, st1, tr1, sp1, vis1, day1, z1, hp2, st2, tr2, sp2, vis2, day2, z2, hp3, st3, tr3, sp3, vis3, day3, z3, tb, tl, rtok, rbg, ren, rvl, shn, shb, shz, fd, isK, xs, xkept, xaside, xisK, xfound, xgone, xover, xtape, xtaped, xtok, xbeg, xend, xval, xwid, xsiz, xcel, xcar, ⟨hP, hK, hF, rfl, hT, hS⟩, G⟩ := hW
  obtain ⟨r, o0, o1, o2, o3, o4, h4, h5, nS, nF⟩ := op_copy (xcar := xcar) hS hF (ss (i + 1)) (ss (i + 2)) (ss (i + 3)) (ss (i + 4)) (ss (i + 5))
  refine lv_aload_n hx hb dL_law_1232 rfl (lv_at hl 2 rfl) ?_
  refine l_arg (k := 1) C0 G.2.2.2.1 hX hbl hbA hL hl (by omega) dL_law_1233 dL_law_1234 dL_law_1235 (by decide) dL_law_1236 dL_law_1237 ?_
  refine l_arg (k := 2) C0 G.2.2.2.1 hX hbl hbA hL hl (by omega) dL_law_1238 dL_law_1239 dL_law_1240 (by decide) dL_law_1241 dL_law_1242 ?_
  refine l_arg (k := 3) C0 G.2.2.2.1 hX hbl hbA hL hl (by omega) dL_law_1243 dL_law_1244 dL_law_1245 (by decide) dL_law_1246 dL_law_1247 ?_
  refine l_arg (k := 4) C0 G.2.2.2.1 hX hbl hbA hL hl (by omega) dL_law_1248 dL_law_1249 dL_law_1250 (by decide) dL_law_1251 dL_law_1252 ?_
  refine l_arg (k := 5) C0 G.2.2.2.1 hX hbl hbA hL hl (by omega) dL_law_1253 dL_law_1254 dL_law_1255 (by decide) dL_law_1256 dL_law_1257 ?_
  refine l_goi C0 G sSM (l_runV (tys' := tyC cI cB cG cS) (As := [.int (ss (i + 1)), .int (ss (i + 2)), .int (ss (i + 3)), .int (ss (i + 4)), .int (ss (i + 5))]) (rest := []) (n := 5) (q0 := 0) C0 G sSM xc_xs XS_ok [0, 1, 2, 3] rfl (c4_copy XS_ok h4) q664 q49 q661 q662 q663 o4_copy ⟨rfl, rfl⟩ ⟨Nat.le_of_ble_eq_true rfl, Nat.le_of_ble_eq_true rfl⟩ rfl rfl rfl hl.1 rfl (Nat.le_of_ble_eq_true rfl) dL_law_1258 ⟨Nat.le_of_ble_eq_true rfl, Nat.le_of_ble_eq_true rfl⟩) (fun H locs G => ?_)
  refine lv_aload_n hx hb dL_law_1261 rfl (lv_at hl 1 rfl) ?_
  refine l_arg (k := 1) C0 G.2.2.2.1 hX hbl hbA hL hl (by omega) dL_law_1262 dL_law_1263 dL_law_1264 (by decide) dL_law_1265 dL_law_1266 ?_
  refine l_arg (k := 2) C0 G.2.2.2.1 hX hbl hbA hL hl (by omega) dL_law_1267 dL_law_1268 dL_law_1269 (by decide) dL_law_1270 dL_law_1271 ?_
  refine l_arg (k := 3) C0 G.2.2.2.1 hX hbl hbA hL hl (by omega) dL_law_1272 dL_law_1273 dL_law_1274 (by decide) dL_law_1275 dL_law_1276 ?_
  refine l_arg (k := 4) C0 G.2.2.2.1 hX hbl hbA hL hl (by omega) dL_law_1277 dL_law_1278 dL_law_1279 (by decide) dL_law_1280 dL_law_1281 ?_
  refine l_arg (k := 5) C0 G.2.2.2.1 hX hbl hbA hL hl (by omega) dL_law_1282 dL_law_1283 dL_law_1284 (by decide) dL_law_1285 dL_law_1286 ?_
  refine l_goi C0 G sMS (l_runV (tys' := tyM cI cC) (As := [.int (ss (i + 1)), .int (ss (i + 2)), .int (ss (i + 3)), .int (ss (i + 4)), .int (ss (i + 5))]) (rest := [.int r]) (n := 5) (q0 := 0) C0 G sMS x_x0 X0_ok [0, 4] rfl (c5_copy X0_ok h5) q1112 q54 q1109 q1110 q1111 o5_copy ⟨rfl, rfl⟩ ⟨Nat.le_of_ble_eq_true rfl, Nat.le_of_ble_eq_true rfl⟩ rfl rfl rfl hl.1 rfl (Nat.le_of_ble_eq_true rfl) dL_law_1287 ⟨Nat.le_of_ble_eq_true rfl, Nat.le_of_ble_eq_true rfl⟩) (fun H locs G => ?_)
  refine lv_icmp_eq (tgt := 1426) hx hb dL_law_1290 (by decide) (fun _ => ?_) (fun h => absurd rfl h)
  exact kk H locs ⟨_, _, _, _, _, _, _, _, _, _, _, _, _, _, _, _, _, _, _, _, _, _, _, _, _, _, _, _, _, _, _, _, _, _, _, _, _, _, _, _, _, _, _, _, _, _, _, _, _, ⟨hP, hK, nF, rfl, hT, nS⟩, G⟩
set_option maxHeartbeats 4000000 in
set_option maxRecDepth 100000 in
theorem law_load {ta adK adV : Nat → Nat} {l : Launch} {D : va_G} {cI cB cG cS cC : ClassId} {ad am : Nat → Nat} {p : Program} {e : Env} {s : State} {m : MethodId} {args : Array Value} {below : List Frame} {meth : Method} {c : Code} {A : Nat → Prop} {Q : State → Prop} {H : Heap} {locs : List Loc} {ls : Array Slot} {b L i : Nat} {ss : Nat → Int32} (C0 : CX (XC ta adK adV) p s m args meth c code 4 ret RL A) (hX : va_X b L ss s s.heap) (hbl : b < s.heap.size) (hbA : ¬ A b) (hL : L ≤ 3072) (hi : i + 6 ≤ L) (hW : LW (XC ta adK adV) D cI cB cG cS cC ad am A s H locs) (hl : lv_has ls 4 [(3, .int (nI i)), (2, .ref (am 0)), (1, .ref (ad 0)), (0, .ref b)]) (kk : ∀ (H : Heap) (locs : List Loc), LW (XC ta adK adV) D cI cB cG cS cC ad am A s H locs → W p l e room_1 s m args below meth c H locs 600000 7302250 Q (F0 m 1426 ls [])) : W p l e room_1 s m args below meth c H locs 600000 7302250 Q (F0 m 1295 ls []) := by
  have hx := C0.1
  have hb := C0.2.1
  obtain ⟨hp1, st1, tr1, sp1, vis1, day1, z1, hp2, st2, tr2, sp2, vis2, day2, z2, hp3, st3, tr3, sp3, vis3, day3, z3, tb, tl, rtok, rbg, ren, rvl, shn, shb, shz, fd, isK, xs, xkept, xaside, xisK, xfound, xgone, xover, xtape, xtaped, xtok, xbeg, xend, xval, xwid, xsiz, xcel, xcar, ⟨hP, hK, hF, rfl, hT, hS⟩, G⟩ := hW
  obtain ⟨r, o0, o1, o2, o3, h4, h5, nP, nF⟩ := op_load  hP hS hF (ss (i + 1))
  refine lv_aload_n hx hb dL_law_1295 rfl (lv_at hl 2 rfl) ?_
  refine l_arg (k := 1) C0 G.2.2.2.1 hX hbl hbA hL hl (by omega) dL_law_1296 dL_law_1297 dL_law_1298 (by decide) dL_law_1299 dL_law_1300 ?_
  refine l_goi C0 G sSM (l_runV (tys' := tyC cI cB cG cS) (As := [.int (ss (i + 1))]) (rest := []) (n := 1) (q0 := 0) C0 G sSM xc_xs XS_ok [0, 1, 2, 3] rfl (c4_load XS_ok h4) q673 q49 q670 q671 q672 o4_load ⟨rfl, rfl⟩ ⟨Nat.le_of_ble_eq_true rfl, Nat.le_of_ble_eq_true rfl⟩ rfl rfl rfl hl.1 rfl (Nat.le_of_ble_eq_true rfl) dL_law_1301 ⟨Nat.le_of_ble_eq_true rfl, Nat.le_of_ble_eq_true rfl⟩) (fun H locs G => ?_)
  refine lv_aload_n hx hb dL_law_1304 rfl (lv_at hl 1 rfl) ?_
  refine l_arg (k := 1) C0 G.2.2.2.1 hX hbl hbA hL hl (by omega) dL_law_1305 dL_law_1306 dL_law_1307 (by decide) dL_law_1308 dL_law_1309 ?_
  refine l_goi C0 G sMS (l_runV (tys' := tyM cI cC) (As := [.int (ss (i + 1))]) (rest := [.int r]) (n := 1) (q0 := 0) C0 G sMS x_x0 X0_ok [0, 4] rfl (c5_load X0_ok h5) q1116 q54 q1113 q1114 q1115 o5_load ⟨rfl, rfl⟩ ⟨Nat.le_of_ble_eq_true rfl, Nat.le_of_ble_eq_true rfl⟩ rfl rfl rfl hl.1 rfl (Nat.le_of_ble_eq_true rfl) dL_law_1310 ⟨Nat.le_of_ble_eq_true rfl, Nat.le_of_ble_eq_true rfl⟩) (fun H locs G => ?_)
  refine lv_icmp_eq (tgt := 1426) hx hb dL_law_1313 (by decide) (fun _ => ?_) (fun h => absurd rfl h)
  exact kk H locs ⟨_, _, _, _, _, _, _, _, _, _, _, _, _, _, _, _, _, _, _, _, _, _, _, _, _, _, _, _, _, _, _, _, _, _, _, _, _, _, _, _, _, _, _, _, _, _, _, _, _, ⟨nP, hK, nF, rfl, hT, hS⟩, G⟩
