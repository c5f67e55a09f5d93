/-! 4_text -/
theorem dX4_text_0 : decode cX4_text 0 = .ok (.aload_n 0, 1) := by decide +kernel
theorem dX4_text_1 : decode cX4_text 1 = .ok (.getfield 19, 3) := by decide +kernel
theorem dX4_text_4 : decode cX4_text 4 = .ok (.aload_n 0, 1) := by decide +kernel
theorem dX4_text_5 : decode cX4_text 5 = .ok (.getfield 10, 3) := by decide +kernel
theorem dX4_text_8 : decode cX4_text 8 = .ok (.invokevirtual 128, 3) := by decide +kernel
theorem dX4_text_11 : decode cX4_text 11 = .ok (.aload_n 0, 1) := by decide +kernel
theorem dX4_text_12 : decode cX4_text 12 = .ok (.getfield 25, 3) := by decide +kernel
theorem dX4_text_15 : decode cX4_text 15 = .ok (.aload_n 0, 1) := by decide +kernel
theorem dX4_text_16 : decode cX4_text 16 = .ok (.getfield 19, 3) := by decide +kernel
theorem dX4_text_19 : decode cX4_text 19 = .ok (.invokevirtual 185, 3) := by decide +kernel
theorem dX4_text_22 : decode cX4_text 22 = .ok (.istore_n 1, 1) := by decide +kernel
theorem dX4_text_23 : decode cX4_text 23 = .ok (.iload_n 1, 1) := by decide +kernel
theorem dX4_text_24 : decode cX4_text 24 = .ok (.ifCond .lt 14, 3) := by decide +kernel
theorem dX4_text_27 : decode cX4_text 27 = .ok (.aload_n 0, 1) := by decide +kernel
theorem dX4_text_28 : decode cX4_text 28 = .ok (.getfield 10, 3) := by decide +kernel
theorem dX4_text_31 : decode cX4_text 31 = .ok (.aload_n 0, 1) := by decide +kernel
theorem dX4_text_32 : decode cX4_text 32 = .ok (.getfield 19, 3) := by decide +kernel
theorem dX4_text_35 : decode cX4_text 35 = .ok (.invokevirtual 128, 3) := by decide +kernel
theorem dX4_text_38 : decode cX4_text 38 = .ok (.aload_n 0, 1) := by decide +kernel
theorem dX4_text_39 : decode cX4_text 39 = .ok (.getfield 33, 3) := by decide +kernel
theorem dX4_text_42 : decode cX4_text 42 = .ok (.iconst 0, 1) := by decide +kernel
theorem dX4_text_43 : decode cX4_text 43 = .ok (.putfield 177, 3) := by decide +kernel
theorem dX4_text_46 : decode cX4_text 46 = .ok (.iload_n 1, 1) := by decide +kernel
theorem dX4_text_47 : decode cX4_text 47 = .ok (.ireturn, 1) := by decide +kernel
def f4_text (hp1 : Nat → Int32) (st1 : Nat → Int32) (tr1 : Nat → Nat → Int32) (sp1 : Nat → Int32) (vis1 : Int32) (day1 : Int32) (z1 : Int32) (hp3 : Nat → Int32) (st3 : Nat → Int32) (tr3 : Nat → Nat → Int32) (sp3 : Nat → Int32) (vis3 : Int32) (day3 : Int32) (z3 : Int32) (tb : Nat → Int32) (tl : Int32) (rtok : Int32) (rbg : Int32) (ren : Int32) (rvl : Int32)  : Option (Int32 × (Nat → Int32) × (Nat → Int32) × (Nat → Nat → Int32) × (Nat → Int32) × Int32 × Int32 × Int32 × (Nat → Int32) × (Nat → Int32) × (Nat → Nat → Int32) × (Nat → Int32) × Int32 × Int32 × Int32 × Int32 × Int32 × Int32 × Int32 × Int32) :=
  ob7 (f0_become hp3 st3 tr3 sp3 vis3 day3 z3 hp1 st1 tr1 sp1 vis1 day1 z1) (fun hp3_1 st3_2 tr3_3 sp3_4 vis3_5 day3_6 z3_7 =>
  ob9 (f3_readText tb tl rtok rbg ren rvl hp3_1 st3_2 tr3_3 vis3_5) (fun r9 rtok_10 rbg_11 ren_12 rvl_13 hp3_14 st3_15 tr3_16 vis3_17 =>
  if r9 < (0 : Int32) then (
    some (r9, hp1, st1, tr1, sp1, vis1, day1, z1, hp3_14, st3_15, tr3_16, sp3_4, vis3_17, day3_6, z3_7, (0 : Int32), rtok_10, rbg_11, ren_12, rvl_13))
  else (
    ob7 (f0_become hp1 st1 tr1 sp1 vis1 day1 z1 hp3_14 st3_15 tr3_16 sp3_4 vis3_17 day3_6 z3_7) (fun hp1_20 st1_21 tr1_22 sp1_23 vis1_24 day1_25 z1_26 =>
    some (r9, hp1_20, st1_21, tr1_22, sp1_23, vis1_24, day1_25, z1_26, hp3_14, st3_15, tr3_16, sp3_4, vis3_17, day3_6, z3_7, (0 : Int32), rtok_10, rbg_11, ren_12, rvl_13)))))
set_option maxHeartbeats 4000000 in
set_option maxRecDepth 100000 in
theorem b4_text_0 {ta adK adV : Nat → Nat} {p : Program} {l : Launch} {e : Env} {s : State} {m : MethodId} {args : Array Value} {below : List Frame} {meth : Method} {c : Code} {D : va_G} {cI cB cG cS : ClassId} {ad : Nat → Nat} {A : Nat → Prop} {hp2 : Nat → Int32} {st2 : Nat → Int32} {tr2 : Nat → Nat → Int32} {sp2 : Nat → Int32} {vis2 : Int32} {day2 : Int32} {z2 : Int32} {tb : Nat → Int32} {shn : Nat → Nat → Int32} {shb : Nat → Int32} {shz : Nat → Int32} {fd : Nat → Int32} {isK : Int32} {r0 : Int32} {o_hp1 : Nat → Int32} {o_st1 : Nat → Int32} {o_tr1 : Nat → Nat → Int32} {o_sp1 : Nat → Int32} {o_vis1 : Int32} {o_day1 : Int32} {o_z1 : Int32} {o_hp3 : Nat → Int32} {o_st3 : Nat → Int32} {o_tr3 : Nat → Nat → Int32} {o_sp3 : Nat → Int32} {o_vis3 : Int32} {o_day3 : Int32} {o_z3 : Int32} {o_tl : Int32} {o_rtok : Int32} {o_rbg : Int32} {o_ren : Int32} {o_rvl : Int32} (C0 : CX (XS ta adK adV) p s m args meth c cX4_text 2 (some .int) RX4 A) : ∀ {hp1 : Nat → Int32} {st1 : Nat → Int32} {tr1 : Nat → Nat → Int32} {sp1 : Nat → Int32} {vis1 : Int32} {day1 : Int32} {z1 : Int32} {hp3 : Nat → Int32} {st3 : Nat → Int32} {tr3 : Nat → Nat → Int32} {sp3 : Nat → Int32} {vis3 : Int32} {day3 : Int32} {z3 : Int32} {tl : Int32} {rtok : Int32} {rbg : Int32} {ren : Int32} {rvl : Int32} {H : Heap} {locs : List Loc} {ls : Array Slot}, GX (XS ta adK adV) D (tyC cI cB cG cS) A s (wS cI cB cG cS ad hp1 st1 tr1 sp1 vis1 day1 z1 hp2 st2 tr2 sp2 vis2 day2 z2 hp3 st3 tr3 sp3 vis3 day3 z3 tb tl rtok rbg ren rvl shn shb shz fd isK) H locs → lv_has ls 2 [(0, .ref (ad 0))] → f4_text hp1 st1 tr1 sp1 vis1 day1 z1 hp3 st3 tr3 sp3 vis3 day3 z3 tb tl rtok rbg ren rvl = some (r0, o_hp1, o_st1, o_tr1, o_sp1, o_vis1, o_day1, o_z1, o_hp3, o_st3, o_tr3, o_sp3, o_vis3, o_day3, o_z3, o_tl, o_rtok, o_rbg, o_ren, o_rvl) → W p l e ({ frames := 9, cells := 0, slots := 0, locals := 198 }) s m args below meth c H locs 0 0 (MQ below (QcI D (tyC cI cB cG cS) (wS cI cB cG cS ad o_hp1 o_st1 o_tr1 o_sp1 o_vis1 o_day1 o_z1 hp2 st2 tr2 sp2 vis2 day2 z2 o_hp3 o_st3 o_tr3 o_sp3 o_vis3 o_day3 o_z3 tb o_tl o_rtok o_rbg o_ren o_rvl shn shb shz fd isK) A r0) args s 0 0 A) (F0 m 0 ls []) := by
  have hx := C0.1
  have hb := C0.2.1
  have hown := C0.2.2.2.2.1
  have hts := C0.2.2.2.2.2.1
  have hX := C0.2.2.2.2.2.2.2.2
  intro hp1 st1 tr1 sp1 vis1 day1 z1 hp3 st3 tr3 sp3 vis3 day3 z3 tl rtok rbg ren rvl H locs ls G hl hf
  unfold f4_text at hf
  refine lv_aload_n hx hb dX4_text_0 rfl (lv_at hl 0 rfl) ?_
  refine s_get (C := RX4) (T := TX4) C0 G i_X4 0 2 rfl rfl (by decide) q175 rfl dX4_text_1 ?_
  refine lv_aload_n hx hb dX4_text_4 rfl (lv_at hl 0 rfl) ?_
  refine s_get (C := RX4) (T := TX4) C0 G i_X4 0 0 rfl rfl (by decide) q173 rfl dX4_text_5 ?_
  obtain ⟨hp3_1, st3_2, tr3_3, sp3_4, vis3_5, day3_6, z3_7, hc8, hf⟩ := ob7_s hf
  refine go_v_sub C0 G s_pp31 o_pp31 (runV_sub (n := 1) (q0 := 25) (As := [.ref (ad 1)]) (rest := []) C0 G s_pp31 (c0_become hX (ad := fun k => ad (25 + k)) (ae := fun k => ad (1 + k))  hc8) q376 q50 q373 q374 q375 o0_become ⟨rfl, rfl⟩ ⟨Nat.le_of_ble_eq_true rfl, Nat.le_of_ble_eq_true rfl⟩ rfl rfl rfl hl.1 rfl (Nat.le_of_ble_eq_true rfl) dX4_text_8) (fun H locs G => ?_)
  refine lv_aload_n hx hb dX4_text_11 rfl (lv_at hl 0 rfl) ?_
  refine s_get (C := RX4) (T := TX4) C0 G i_X4 0 3 rfl rfl (by decide) q176 rfl dX4_text_12 ?_
  refine lv_aload_n hx hb dX4_text_15 rfl (lv_at hl 0 rfl) ?_
  refine s_get (C := RX4) (T := TX4) C0 G i_X4 0 2 rfl rfl (by decide) q175 rfl dX4_text_16 ?_
  obtain ⟨r9, rtok_10, rbg_11, ren_12, rvl_13, hp3_14, st3_15, tr3_16, vis3_17, hc18, hf⟩ := ob9_s hf
  refine go_i_sub C0 G s_read o_read (runV_sub (n := 1) (q0 := 39) (As := [.ref (ad 25)]) (rest := []) C0 G s_read (c3_readText hX (at_ := fun k => ad (match k with | 0 => 39 | j + 1 => 37 + j)) (ad := fun k => ad (25 + k))  hc18) q517 q51 q514 q515 q516 o3_readText ⟨rfl, rfl⟩ ⟨Nat.le_of_ble_eq_true rfl, Nat.le_of_ble_eq_true rfl⟩ rfl rfl rfl hl.1 rfl (Nat.le_of_ble_eq_true rfl) dX4_text_19) (fun H locs G => ?_)
  refine lv_istore_n (lv' := [(1, .int r9), (0, .ref (ad 0))]) hx hb dX4_text_22 rfl hl (by decide) rfl (fun ls hl => ?_)
  refine lv_iload_n hx hb dX4_text_23 rfl (lv_at hl 0 rfl) ?_
  refine lv_if_lt (tgt := 38) hx hb dX4_text_24 (by decide) (fun hc19 => ?_) (fun hc19 => ?_)
  · have hf := itp hc19 hf
    refine lv_aload_n hx hb dX4_text_38 rfl (lv_at hl 1 rfl) ?_
    refine s_get (C := RX4) (T := TX4) C0 G i_X4 0 4 rfl rfl (by decide) q177 rfl dX4_text_39 ?_
    refine lv_iconst (v := (0 : Int32)) hx hb dX4_text_42 (by decide) ?_
    refine s_put (C := RX2) (T := TX2) (w' := (wS cI cB cG cS ad hp1 st1 tr1 sp1 vis1 day1 z1 hp2 st2 tr2 sp2 vis2 day2 z2 hp3_14 st3_15 tr3_16 sp3_4 vis3_17 day3_6 z3_7 tb (0 : Int32) rtok_10 rbg_11 ren_12 rvl_13 shn shb shz fd isK)) C0 G i_X2 tyX2 tyX2_ok nmX2 37 1 rfl rfl (by decide) q129 rfl (ty := .int) (by decide +kernel) rfl rfl (Nat.le_of_ble_eq_true rfl) rfl dX4_text_43 (fun H locs G => ?_)
    refine lv_iload_n hx hb dX4_text_46 rfl (lv_at hl 0 rfl) ?_
    obtain ⟨rfl, rfl, rfl, rfl, rfl, rfl, rfl, rfl, rfl, rfl, rfl, rfl, rfl, rfl, rfl, rfl, rfl, rfl, rfl, rfl⟩ := inj20 hf
    exact ret_i C0 G dX4_text_47
  · have hf := itn hc19 hf
    refine lv_aload_n hx hb dX4_text_27 rfl (lv_at hl 1 rfl) ?_
    refine s_get (C := RX4) (T := TX4) C0 G i_X4 0 0 rfl rfl (by decide) q173 rfl dX4_text_28 ?_
    refine lv_aload_n hx hb dX4_text_31 rfl (lv_at hl 1 rfl) ?_
    refine s_get (C := RX4) (T := TX4) C0 G i_X4 0 2 rfl rfl (by decide) q175 rfl dX4_text_32 ?_
    obtain ⟨hp1_20, st1_21, tr1_22, sp1_23, vis1_24, day1_25, z1_26, hc27, hf⟩ := ob7_s hf
    refine go_v_sub C0 G s_pp13 o_pp13 (runV_sub (n := 1) (q0 := 1) (As := [.ref (ad 25)]) (rest := []) C0 G s_pp13 (c0_become hX (ad := fun k => ad (1 + k)) (ae := fun k => ad (25 + k))  hc27) q376 q50 q373 q374 q375 o0_become ⟨rfl, rfl⟩ ⟨Nat.le_of_ble_eq_true rfl, Nat.le_of_ble_eq_true rfl⟩ rfl rfl rfl hl.1 rfl (Nat.le_of_ble_eq_true rfl) dX4_text_35) (fun H locs G => ?_)
    refine lv_aload_n hx hb dX4_text_38 rfl (lv_at hl 1 rfl) ?_
    refine s_get (C := RX4) (T := TX4) C0 G i_X4 0 4 rfl rfl (by decide) q177 rfl dX4_text_39 ?_
    refine lv_iconst (v := (0 : Int32)) hx hb dX4_text_42 (by decide) ?_
    refine s_put (C := RX2) (T := TX2) (w' := (wS cI cB cG cS ad hp1_20 st1_21 tr1_22 sp1_23 vis1_24 day1_25 z1_26 hp2 st2 tr2 sp2 vis2 day2 z2 hp3_14 st3_15 tr3_16 sp3_4 vis3_17 day3_6 z3_7 tb (0 : Int32) rtok_10 rbg_11 ren_12 rvl_13 shn shb shz fd isK)) C0 G i_X2 tyX2 tyX2_ok nmX2 37 1 rfl rfl (by decide) q129 rfl (ty := .int) (by decide +kernel) rfl rfl (Nat.le_of_ble_eq_true rfl) rfl dX4_text_43 (fun H locs G => ?_)
    refine lv_iload_n hx hb dX4_text_46 rfl (lv_at hl 0 rfl) ?_
    obtain ⟨rfl, rfl, rfl, rfl, rfl, rfl, rfl, rfl, rfl, rfl, rfl, rfl, rfl, rfl, rfl, rfl, rfl, rfl, rfl, rfl⟩ := inj20 hf
    exact ret_i C0 G dX4_text_47
theorem o4_text : okName yX4_text 0 := ⟨by decide, by decide, by decide +kernel⟩
set_option maxHeartbeats 4000000 in
set_option maxRecDepth 100000 in
theorem c4_text {ta adK adV : Nat → Nat} (hX : XT (XS ta adK adV)) {l : Launch} {D : va_G} {cI cB cG cS : ClassId} {ad : Nat → Nat} {sz : Nat} {hp1 : Nat → Int32} {st1 : Nat → Int32} {tr1 : Nat → Nat → Int32} {sp1 : Nat → Int32} {vis1 : Int32} {day1 : Int32} {z1 : Int32} {hp2 : Nat → Int32} {st2 : Nat → Int32} {tr2 : Nat → Nat → Int32} {sp2 : Nat → Int32} {vis2 : Int32} {day2 : Int32} {z2 : Int32} {hp3 : Nat → Int32} {st3 : Nat → Int32} {tr3 : Nat → Nat → Int32} {sp3 : Nat → Int32} {vis3 : Int32} {day3 : Int32} {z3 : Int32} {tb : Nat → Int32} {tl : Int32} {rtok : Int32} {rbg : Int32} {ren : Int32} {rvl : Int32} {shn : Nat → Nat → Int32} {shb : Nat → Int32} {shz : Nat → Int32} {fd : Nat → Int32} {isK : Int32}  {r0 : Int32} {o_hp1 : Nat → Int32} {o_st1 : Nat → Int32} {o_tr1 : Nat → Nat → Int32} {o_sp1 : Nat → Int32} {o_vis1 : Int32} {o_day1 : Int32} {o_z1 : Int32} {o_hp3 : Nat → Int32} {o_st3 : Nat → Int32} {o_tr3 : Nat → Nat → Int32} {o_sp3 : Nat → Int32} {o_vis3 : Int32} {o_day3 : Int32} {o_z3 : Int32} {o_tl : Int32} {o_rtok : Int32} {o_rbg : Int32} {o_ren : Int32} {o_rvl : Int32} (hf : f4_text hp1 st1 tr1 sp1 vis1 day1 z1 hp3 st3 tr3 sp3 vis3 day3 z3 tb tl rtok rbg ren rvl = some (r0, o_hp1, o_st1, o_tr1, o_sp1, o_vis1, o_day1, o_z1, o_hp3, o_st3, o_tr3, o_sp3, o_vis3, o_day3, o_z3, o_tl, o_rtok, o_rbg, o_ren, o_rvl)) : Met l yX4_text (wU yX4_text cX4_text 2 (some .int)) ({ frames := 9, cells := 0, slots := 0, locals := 198 }) (va_Pc [.ref (ad 0)] (PreW (XS ta adK adV) D (tyC cI cB cG cS) (wS cI cB cG cS ad hp1 st1 tr1 sp1 vis1 day1 z1 hp2 st2 tr2 sp2 vis2 day2 z2 hp3 st3 tr3 sp3 vis3 day3 z3 tb tl rtok rbg ren rvl shn shb shz fd isK) sz)) (QcI D (tyC cI cB cG cS) (wS cI cB cG cS ad o_hp1 o_st1 o_tr1 o_sp1 o_vis1 o_day1 o_z1 hp2 st2 tr2 sp2 vis2 day2 z2 o_hp3 o_st3 o_tr3 o_sp3 o_vis3 o_day3 o_z3 tb o_tl o_rtok o_rbg o_ren o_rvl shn shb shz fd isK) (va_A (wS cI cB cG cS ad hp1 st1 tr1 sp1 vis1 day1 z1 hp2 st2 tr2 sp2 vis2 day2 z2 hp3 st3 tr3 sp3 vis3 day3 z3 tb tl rtok rbg ren rvl shn shb shz fd isK) sz) r0) 0 0 (va_A (wS cI cB cG cS ad hp1 st1 tr1 sp1 vis1 day1 z1 hp2 st2 tr2 sp2 vis2 day2 z2 hp3 st3 tr3 sp3 vis3 day3 z3 tb tl rtok rbg ren rvl shn shb shz fd isK) sz) := by
  refine startW hX (own := RX4) (by decide) rfl (Nat.le_of_ble_eq_true rfl) (fun p e s m args below meth c ls C0 G hl => ?_)
  exact b4_text_0 C0 G hl hf
