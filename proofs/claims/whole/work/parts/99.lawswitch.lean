/-! the law: its switch and its loop -/
set_option maxHeartbeats 4000000 in
set_option maxRecDepth 100000 in
theorem law_switch {ta adK adV : Nat → Nat} {l : Launch} {D : va_G} {cI cB cG cS cC : ClassId} {ad am : Nat → Nat} {p : Program} {e : Env} {s : State} {m : MethodId} {args : Array Value} {below : List Frame} {meth : Method} {c : Code} {A : Nat → Prop} {Q : State → Prop} {H : Heap} {locs : List Loc} {ls : Array Slot} {b L i : Nat} {ss : Nat → Int32} (C0 : CX (XC ta adK adV) p s m args meth c code 4 ret RL A) (hX : va_X b L ss s s.heap) (hbl : b < s.heap.size) (hbA : ¬ A b) (hL : L ≤ 3072) (hi : i + 6 ≤ L) (hW : LW (XC ta adK adV) D cI cB cG cS cC ad am A s H locs) (hl : lv_has ls 4 [(3, .int (nI i)), (2, .ref (am 0)), (1, .ref (ad 0)), (0, .ref b)]) (kk : ∀ (H : Heap) (locs : List Loc), LW (XC ta adK adV) D cI cB cG cS cC ad am A s H locs → W p l e room_1 s m args below meth c H locs 600000 7302250 Q (F0 m 1426 ls [])) {j : Nat} (hj : j < 64) : W p l e room_1 s m args below meth c H locs 600000 7302250 Q (F0 m 33 ls [.int (nI j)]) := by
  have hx := C0.1
  have hb := C0.2.1
  by_cases h0 : j = 0
  · subst h0
    refine lv_tableIn (off := 179) (tgt := 212) hx hb dL_law_33 (by decide) (by decide) (by decide) (by decide) ?_
    exact law_sand C0 hX hbl hbA hL hi hW hl kk
  by_cases h1 : j = 1
  · subst h1
    refine lv_tableIn (off := 212) (tgt := 245) hx hb dL_law_33 (by decide) (by decide) (by decide) (by decide) ?_
    exact law_cell C0 hX hbl hbA hL hi hW hl kk
  by_cases h2 : j = 2
  · subst h2
    refine lv_tableIn (off := 245) (tgt := 278) hx hb dL_law_33 (by decide) (by decide) (by decide) (by decide) ?_
    exact law_set C0 hX hbl hbA hL hi hW hl kk
  by_cases h3 : j = 3
  · subst h3
    refine lv_tableIn (off := 278) (tgt := 311) hx hb dL_law_33 (by decide) (by decide) (by decide) (by decide) ?_
    exact law_visitor C0 hX hbl hbA hL hi hW hl kk
  by_cases h4 : j = 4
  · subst h4
    refine lv_tableIn (off := 311) (tgt := 344) hx hb dL_law_33 (by decide) (by decide) (by decide) (by decide) ?_
    exact law_of C0 hX hbl hbA hL hi hW hl kk
  by_cases h5 : j = 5
  · subst h5
    refine lv_tableIn (off := 344) (tgt := 377) hx hb dL_law_33 (by decide) (by decide) (by decide) (by decide) ?_
    exact law_change C0 hX hbl hbA hL hi hW hl kk
  by_cases h6 : j = 6
  · subst h6
    refine lv_tableIn (off := 387) (tgt := 420) hx hb dL_law_33 (by decide) (by decide) (by decide) (by decide) ?_
    exact law_come C0 hX hbl hbA hL hi hW hl kk
  by_cases h7 : j = 7
  · subst h7
    refine lv_tableIn (off := 410) (tgt := 443) hx hb dL_law_33 (by decide) (by decide) (by decide) (by decide) ?_
    exact law_go C0 hX hbl hbA hL hi hW hl kk
  by_cases h8 : j = 8
  · subst h8
    refine lv_tableIn (off := 433) (tgt := 466) hx hb dL_law_33 (by decide) (by decide) (by decide) (by decide) ?_
    exact law_now C0 hX hbl hbA hL hi hW hl kk
  by_cases h9 : j = 9
  · subst h9
    refine lv_tableIn (off := 456) (tgt := 489) hx hb dL_law_33 (by decide) (by decide) (by decide) (by decide) ?_
    exact law_high C0 hX hbl hbA hL hi hW hl kk
  by_cases h10 : j = 10
  · subst h10
    refine lv_tableIn (off := 489) (tgt := 522) hx hb dL_law_33 (by decide) (by decide) (by decide) (by decide) ?_
    exact law_built C0 hX hbl hbA hL hi hW hl kk
  by_cases h11 : j = 11
  · subst h11
    refine lv_tableIn (off := 522) (tgt := 555) hx hb dL_law_33 (by decide) (by decide) (by decide) (by decide) ?_
    exact law_stands C0 hX hbl hbA hL hi hW hl kk
  by_cases h12 : j = 12
  · subst h12
    refine lv_tableIn (off := 545) (tgt := 578) hx hb dL_law_33 (by decide) (by decide) (by decide) (by decide) ?_
    exact law_road C0 hX hbl hbA hL hi hW hl kk
  by_cases h13 : j = 13
  · subst h13
    refine lv_tableIn (off := 568) (tgt := 601) hx hb dL_law_33 (by decide) (by decide) (by decide) (by decide) ?_
    exact law_both C0 hX hbl hbA hL hi hW hl kk
  by_cases h14 : j = 14
  · subst h14
    refine lv_tableIn (off := 601) (tgt := 634) hx hb dL_law_33 (by decide) (by decide) (by decide) (by decide) ?_
    exact law_empty C0 hX hbl hbA hL hi hW hl kk
  by_cases h15 : j = 15
  · subst h15
    refine lv_tableIn (off := 614) (tgt := 647) hx hb dL_law_33 (by decide) (by decide) (by decide) (by decide) ?_
    exact law_fromFor C0 hX hbl hbA hL hi hW hl kk
  by_cases h16 : j = 16
  · subst h16
    refine lv_tableIn (off := 647) (tgt := 680) hx hb dL_law_33 (by decide) (by decide) (by decide) (by decide) ?_
    exact law_wideFor C0 hX hbl hbA hL hi hW hl kk
  by_cases h17 : j = 17
  · subst h17
    refine lv_tableIn (off := 690) (tgt := 723) hx hb dL_law_33 (by decide) (by decide) (by decide) (by decide) ?_
    exact law_eachFor C0 hX hbl hbA hL hi hW hl kk
  by_cases h18 : j = 18
  · subst h18
    refine lv_tableIn (off := 723) (tgt := 756) hx hb dL_law_33 (by decide) (by decide) (by decide) (by decide) ?_
    exact law_kindFor C0 hX hbl hbA hL hi hW hl kk
  by_cases h19 : j = 19
  · subst h19
    refine lv_tableIn (off := 756) (tgt := 789) hx hb dL_law_33 (by decide) (by decide) (by decide) (by decide) ?_
    exact law_windFor C0 hX hbl hbA hL hi hW hl kk
  by_cases h20 : j = 20
  · subst h20
    refine lv_tableIn (off := 789) (tgt := 822) hx hb dL_law_33 (by decide) (by decide) (by decide) (by decide) ?_
    exact law_away C0 hX hbl hbA hL hi hW hl kk
  by_cases h21 : j = 21
  · subst h21
    refine lv_tableIn (off := 822) (tgt := 855) hx hb dL_law_33 (by decide) (by decide) (by decide) (by decide) ?_
    exact law_fits C0 hX hbl hbA hL hi hW hl kk
  by_cases h22 : j = 22
  · subst h22
    refine lv_tableIn (off := 865) (tgt := 898) hx hb dL_law_33 (by decide) (by decide) (by decide) (by decide) ?_
    exact law_kinds C0 hX hbl hbA hL hi hW hl kk
  by_cases h23 : j = 23
  · subst h23
    refine lv_tableIn (off := 908) (tgt := 941) hx hb dL_law_33 (by decide) (by decide) (by decide) (by decide) ?_
    exact law_comings C0 hX hbl hbA hL hi hW hl kk
  by_cases h24 : j = 24
  · subst h24
    refine lv_tableIn (off := 931) (tgt := 964) hx hb dL_law_33 (by decide) (by decide) (by decide) (by decide) ?_
    exact law_odds C0 hX hbl hbA hL hi hW hl kk
  by_cases h25 : j = 25
  · subst h25
    refine lv_tableIn (off := 965) (tgt := 998) hx hb dL_law_33 (by decide) (by decide) (by decide) (by decide) ?_
    exact law_seed C0 hX hbl hbA hL hi hW hl kk
  by_cases h26 : j = 26
  · subst h26
    refine lv_tableIn (off := 988) (tgt := 1021) hx hb dL_law_33 (by decide) (by decide) (by decide) (by decide) ?_
    exact law_feed C0 hX hbl hbA hL hi hW hl kk
  by_cases h27 : j = 27
  · subst h27
    refine lv_tableIn (off := 1021) (tgt := 1054) hx hb dL_law_33 (by decide) (by decide) (by decide) (by decide) ?_
    exact law_wipe C0 hX hbl hbA hL hi hW hl kk
  by_cases h28 : j = 28
  · subst h28
    refine lv_tableIn (off := 1034) (tgt := 1067) hx hb dL_law_33 (by decide) (by decide) (by decide) (by decide) ?_
    exact law_text C0 hX hbl hbA hL hi hW hl kk
  by_cases h29 : j = 29
  · subst h29
    refine lv_tableIn (off := 1047) (tgt := 1080) hx hb dL_law_33 (by decide) (by decide) (by decide) (by decide) ?_
    exact law_hold C0 hX hbl hbA hL hi hW hl kk
  by_cases h30 : j = 30
  · subst h30
    refine lv_tableIn (off := 1080) (tgt := 1113) hx hb dL_law_33 (by decide) (by decide) (by decide) (by decide) ?_
    exact law_as C0 hX hbl hbA hL hi hW hl kk
  by_cases h31 : j = 31
  · subst h31
    refine lv_tableIn (off := 1113) (tgt := 1146) hx hb dL_law_33 (by decide) (by decide) (by decide) (by decide) ?_
    exact law_sheet C0 hX hbl hbA hL hi hW hl kk
  by_cases h32 : j = 32
  · subst h32
    refine lv_tableIn (off := 1156) (tgt := 1189) hx hb dL_law_33 (by decide) (by decide) (by decide) (by decide) ?_
    exact law_write C0 hX hbl hbA hL hi hW hl kk
  by_cases h33 : j = 33
  · subst h33
    refine lv_tableIn (off := 1199) (tgt := 1232) hx hb dL_law_33 (by decide) (by decide) (by decide) (by decide) ?_
    exact law_copy C0 hX hbl hbA hL hi hW hl kk
  by_cases h34 : j = 34
  · subst h34
    refine lv_tableIn (off := 1262) (tgt := 1295) hx hb dL_law_33 (by decide) (by decide) (by decide) (by decide) ?_
    exact law_load C0 hX hbl hbA hL hi hW hl kk
  by_cases h35 : j = 35
  · subst h35
    refine lv_tableIn (off := 1285) (tgt := 1318) hx hb dL_law_33 (by decide) (by decide) (by decide) (by decide) ?_
    exact law_judge C0 hX hbl hbA hL hi hW hl kk
  by_cases h36 : j = 36
  · subst h36
    refine lv_tableIn (off := 1308) (tgt := 1341) hx hb dL_law_33 (by decide) (by decide) (by decide) (by decide) ?_
    exact law_image C0 hX hbl hbA hL hi hW hl kk
  by_cases h37 : j = 37
  · subst h37
    refine lv_tableIn (off := 1321) (tgt := 1354) hx hb dL_law_33 (by decide) (by decide) (by decide) (by decide) ?_
    exact law_undo C0 hX hbl hbA hL hi hW hl kk
  by_cases h38 : j = 38
  · subst h38
    refine lv_tableIn (off := 1334) (tgt := 1367) hx hb dL_law_33 (by decide) (by decide) (by decide) (by decide) ?_
    exact law_tear C0 hX hbl hbA hL hi hW hl kk
  by_cases h39 : j = 39
  · subst h39
    refine lv_tableIn (off := 1347) (tgt := 1380) hx hb dL_law_33 (by decide) (by decide) (by decide) (by decide) ?_
    exact law_count C0 hX hbl hbA hL hi hW hl kk
  by_cases h40 : j = 40
  · subst h40
    refine lv_tableIn (off := 1370) (tgt := 1403) hx hb dL_law_33 (by decide) (by decide) (by decide) (by decide) ?_
    exact law_status C0 hX hbl hbA hL hi hW hl kk
  refine lv_tableOut (tgt := 1426) hx hb dL_law_33 (Or.inr (by rw [nI_toInt (by omega)]; omega)) (by decide) ?_
  exact kk H locs hW
