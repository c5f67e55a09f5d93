/-! 4_isGranted -/
theorem dX4_isGranted_0 : decode cX4_isGranted 0 = .ok (.iload_n 1, 1) := by decide +kernel
theorem dX4_isGranted_1 : decode cX4_isGranted 1 = .ok (.lookupswitch 63 #[(0, 27), (1, 46)], 27) := by decide +kernel
theorem dX4_isGranted_28 : decode cX4_isGranted 28 = .ok (.aload_n 0, 1) := by decide +kernel
theorem dX4_isGranted_29 : decode cX4_isGranted 29 = .ok (.getfield 19, 3) := by decide +kernel
theorem dX4_isGranted_32 : decode cX4_isGranted 32 = .ok (.invokevirtual 116, 3) := by decide +kernel
theorem dX4_isGranted_35 : decode cX4_isGranted 35 = .ok (.iload_n 2, 1) := by decide +kernel
theorem dX4_isGranted_36 : decode cX4_isGranted 36 = .ok (.iand, 1) := by decide +kernel
theorem dX4_isGranted_37 : decode cX4_isGranted 37 = .ok (.iload_n 2, 1) := by decide +kernel
theorem dX4_isGranted_38 : decode cX4_isGranted 38 = .ok (.if_icmp .ne 7, 3) := by decide +kernel
theorem dX4_isGranted_41 : decode cX4_isGranted 41 = .ok (.iconst 1, 1) := by decide +kernel
theorem dX4_isGranted_42 : decode cX4_isGranted 42 = .ok (.goto 4, 3) := by decide +kernel
theorem dX4_isGranted_45 : decode cX4_isGranted 45 = .ok (.iconst 0, 1) := by decide +kernel
theorem dX4_isGranted_46 : decode cX4_isGranted 46 = .ok (.ireturn, 1) := by decide +kernel
theorem dX4_isGranted_47 : decode cX4_isGranted 47 = .ok (.aload_n 0, 1) := by decide +kernel
theorem dX4_isGranted_48 : decode cX4_isGranted 48 = .ok (.getfield 19, 3) := by decide +kernel
theorem dX4_isGranted_51 : decode cX4_isGranted 51 = .ok (.invokevirtual 109, 3) := by decide +kernel
theorem dX4_isGranted_54 : decode cX4_isGranted 54 = .ok (.iload_n 2, 1) := by decide +kernel
theorem dX4_isGranted_55 : decode cX4_isGranted 55 = .ok (.if_icmp .lt 7, 3) := by decide +kernel
theorem dX4_isGranted_58 : decode cX4_isGranted 58 = .ok (.iconst 1, 1) := by decide +kernel
theorem dX4_isGranted_59 : decode cX4_isGranted 59 = .ok (.goto 4, 3) := by decide +kernel
theorem dX4_isGranted_62 : decode cX4_isGranted 62 = .ok (.iconst 0, 1) := by decide +kernel
theorem dX4_isGranted_63 : decode cX4_isGranted 63 = .ok (.ireturn, 1) := by decide +kernel
theorem dX4_isGranted_64 : decode cX4_isGranted 64 = .ok (.aload_n 0, 1) := by decide +kernel
theorem dX4_isGranted_65 : decode cX4_isGranted 65 = .ok (.getfield 19, 3) := by decide +kernel
theorem dX4_isGranted_68 : decode cX4_isGranted 68 = .ok (.getfield 62, 3) := by decide +kernel
theorem dX4_isGranted_71 : decode cX4_isGranted 71 = .ok (.iconst 0, 1) := by decide +kernel
theorem dX4_isGranted_72 : decode cX4_isGranted 72 = .ok (.iaload, 1) := by decide +kernel
theorem dX4_isGranted_73 : decode cX4_isGranted 73 = .ok (.ifCond .ne 7, 3) := by decide +kernel
theorem dX4_isGranted_76 : decode cX4_isGranted 76 = .ok (.iconst 1, 1) := by decide +kernel
theorem dX4_isGranted_77 : decode cX4_isGranted 77 = .ok (.goto 4, 3) := by decide +kernel
theorem dX4_isGranted_80 : decode cX4_isGranted 80 = .ok (.iconst 0, 1) := by decide +kernel
theorem dX4_isGranted_81 : decode cX4_isGranted 81 = .ok (.ireturn, 1) := by decide +kernel
def f4_isGranted (hp3 : Nat → Int32) (st3 : Nat → Int32) (tr3 : Nat → Nat → Int32) (vis3 : Int32) (v1 : Int32) (v2 : Int32) : Option (Int32) :=
  if v1 = (0 : Int32) then (
    ob1 (f0_standing hp3 st3 tr3 vis3) (fun r2 =>
    if (r2 &&& v2) = v2 then (
      some (1 : Int32))
    else (
      some (0 : Int32))))
  else
  if v1 = (1 : Int32) then (
    ob1 (f0_roadLength hp3) (fun r6 =>
    if r6 < v2 then (
      some (0 : Int32))
    else (
      some (1 : Int32))))
  else
  if (st3 0) = (0 : Int32) then (
    some (1 : Int32))
  else (
    some (0 : Int32))
set_option maxHeartbeats 4000000 in
set_option maxRecDepth 100000 in
theorem b4_isGranted_0 {ta adK adV : Nat → Nat} {p : Program} {l : Launch} {e : Env} {s : State} {m : MethodId} {args : Array Value} {below : List Frame} {meth : Method} {c : Code} {D : va_G} {cI cB cG cS : ClassId} {ad : Nat → Nat} {A : Nat → Prop} {hp1 : Nat → Int32} {st1 : Nat → Int32} {tr1 : Nat → Nat → Int32} {sp1 : Nat → Int32} {vis1 : Int32} {day1 : Int32} {z1 : Int32} {hp2 : Nat → Int32} {st2 : Nat → Int32} {tr2 : Nat → Nat → Int32} {sp2 : Nat → Int32} {vis2 : Int32} {day2 : Int32} {z2 : Int32} {hp3 : Nat → Int32} {st3 : Nat → Int32} {tr3 : Nat → Nat → Int32} {sp3 : Nat → Int32} {vis3 : Int32} {day3 : Int32} {z3 : Int32} {tb : Nat → Int32} {tl : Int32} {rtok : Int32} {rbg : Int32} {ren : Int32} {rvl : Int32} {shn : Nat → Nat → Int32} {shb : Nat → Int32} {shz : Nat → Int32} {fd : Nat → Int32} {isK : Int32} {r0 : Int32} (C0 : CX (XS ta adK adV) p s m args meth c cX4_isGranted 3 (some .boolean) RX4 A) : ∀ {v1 : Int32} {v2 : Int32} {H : Heap} {locs : List Loc} {ls : Array Slot}, GX (XS ta adK adV) D (tyC cI cB cG cS) A s (wS cI cB cG cS ad hp1 st1 tr1 sp1 vis1 day1 z1 hp2 st2 tr2 sp2 vis2 day2 z2 hp3 st3 tr3 sp3 vis3 day3 z3 tb tl rtok rbg ren rvl shn shb shz fd isK) H locs → lv_has ls 3 [(0, .ref (ad 0)), (1, .int v1), (2, .int v2)] → f4_isGranted hp3 st3 tr3 vis3 v1 v2 = some r0 → W p l e ({ frames := 4, cells := 0, slots := 0, locals := 82 }) s m args below meth c H locs 0 0 (MQ below (QcI D (tyC cI cB cG cS) (wS cI cB cG cS ad hp1 st1 tr1 sp1 vis1 day1 z1 hp2 st2 tr2 sp2 vis2 day2 z2 hp3 st3 tr3 sp3 vis3 day3 z3 tb tl rtok rbg ren rvl shn shb shz fd isK) A r0) args s 0 0 A) (F0 m 0 ls []) := by
  have hx := C0.1
  have hb := C0.2.1
  have hown := C0.2.2.2.2.1
  have hts := C0.2.2.2.2.2.1
  have hX := C0.2.2.2.2.2.2.2.2
  intro v1 v2 H locs ls G hl hf
  unfold f4_isGranted at hf
  refine lv_iload_n hx hb dX4_isGranted_0 rfl (lv_at hl 1 rfl) ?_
  by_cases hs1 : v1 = (0 : Int32)
  · have hf := itp hs1 hf
    refine lv_lookup (tgt := 28) hx hb dX4_isGranted_1 (by decide) (by rw [hs1] <;> rfl) (by decide) ?_
    refine lv_aload_n hx hb dX4_isGranted_28 rfl (lv_at hl 0 rfl) ?_
    refine s_get (C := RX4) (T := TX4) C0 G i_X4 0 2 rfl rfl (by decide) q175 rfl dX4_isGranted_29 ?_
    obtain ⟨r2, hc3, hf⟩ := ob1_s hf
    refine go_i_sub C0 G s_pit3 o_pit3 (runV_sub (n := 0) (q0 := 25) (As := []) (rest := []) C0 G s_pit3 (c0_standing hX hc3) q356 q50 q353 q354 q355 o0_standing ⟨rfl, rfl⟩ ⟨Nat.le_of_ble_eq_true rfl, Nat.le_of_ble_eq_true rfl⟩ rfl rfl rfl hl.1 rfl (Nat.le_of_ble_eq_true rfl) dX4_isGranted_32) (fun H locs G => ?_)
    refine lv_iload_n hx hb dX4_isGranted_35 rfl (lv_at hl 2 rfl) ?_
    refine lv_iand hx hb dX4_isGranted_36 ?_
    refine lv_iload_n hx hb dX4_isGranted_37 rfl (lv_at hl 2 rfl) ?_
    refine lv_icmp_ne (tgt := 45) hx hb dX4_isGranted_38 (by decide) (fun hc4 => ?_) (fun hc4 => ?_)
    · have hf := itn hc4 hf
      refine lv_iconst (v := (0 : Int32)) hx hb dX4_isGranted_45 (by decide) ?_
      obtain rfl := inj1 hf
      exact ret_z C0 G rfl dX4_isGranted_46
    · have hf := itp hc4 hf
      refine lv_iconst (v := (1 : Int32)) hx hb dX4_isGranted_41 (by decide) ?_
      refine lv_goto (tgt := 46) hx hb dX4_isGranted_42 (by decide) ?_
      obtain rfl := inj1 hf
      exact ret_z C0 G rfl dX4_isGranted_46
  have hf := itn hs1 hf
  by_cases hs5 : v1 = (1 : Int32)
  · have hf := itp hs5 hf
    refine lv_lookup (tgt := 47) hx hb dX4_isGranted_1 (by decide) (by rw [hs5] <;> rfl) (by decide) ?_
    refine lv_aload_n hx hb dX4_isGranted_47 rfl (lv_at hl 0 rfl) ?_
    refine s_get (C := RX4) (T := TX4) C0 G i_X4 0 2 rfl rfl (by decide) q175 rfl dX4_isGranted_48 ?_
    obtain ⟨r6, hc7, hf⟩ := ob1_s hf
    refine go_i_sub C0 G s_pit3 o_pit3 (runV_sub (n := 0) (q0 := 25) (As := []) (rest := []) C0 G s_pit3 (c0_roadLength hX hc7) q344 q50 q341 q342 q343 o0_roadLength ⟨rfl, rfl⟩ ⟨Nat.le_of_ble_eq_true rfl, Nat.le_of_ble_eq_true rfl⟩ rfl rfl rfl hl.1 rfl (Nat.le_of_ble_eq_true rfl) dX4_isGranted_51) (fun H locs G => ?_)
    refine lv_iload_n hx hb dX4_isGranted_54 rfl (lv_at hl 2 rfl) ?_
    refine lv_icmp_lt (tgt := 62) hx hb dX4_isGranted_55 (by decide) (fun hc8 => ?_) (fun hc8 => ?_)
    · have hf := itp hc8 hf
      refine lv_iconst (v := (0 : Int32)) hx hb dX4_isGranted_62 (by decide) ?_
      obtain rfl := inj1 hf
      exact ret_z C0 G rfl dX4_isGranted_63
    · have hf := itn hc8 hf
      refine lv_iconst (v := (1 : Int32)) hx hb dX4_isGranted_58 (by decide) ?_
      refine lv_goto (tgt := 63) hx hb dX4_isGranted_59 (by decide) ?_
      obtain rfl := inj1 hf
      exact ret_z C0 G rfl dX4_isGranted_63
  have hf := itn hs5 hf
  refine lv_lookup (off := 63) (tgt := 64) hx hb dX4_isGranted_1 (by decide) ((lv_osw (k := (0 : Int32)) (a := 0) hs1 (by decide)).trans ((lv_osw (k := (1 : Int32)) (a := 1) hs5 (by decide)).trans rfl)) (by decide) ?_
  refine lv_aload_n hx hb dX4_isGranted_64 rfl (lv_at hl 0 rfl) ?_
  refine s_get (C := RX4) (T := TX4) C0 G i_X4 0 2 rfl rfl (by decide) q175 rfl dX4_isGranted_65 ?_
  refine s_get (C := RX0) (T := TX0) C0 G i_X0 25 1 rfl rfl (by decide) q84 rfl dX4_isGranted_68 ?_
  refine lv_iconst (v := (0 : Int32)) hx hb dX4_isGranted_71 (by decide) ?_
  refine s_iald (k := 0) C0 G 27 0 rfl rfl (vin (by decide)) (by decide) dX4_isGranted_72 ?_
  refine lv_if_ne (tgt := 80) hx hb dX4_isGranted_73 (by decide) (fun hc9 => ?_) (fun hc9 => ?_)
  · have hf := itn hc9 hf
    refine lv_iconst (v := (0 : Int32)) hx hb dX4_isGranted_80 (by decide) ?_
    obtain rfl := inj1 hf
    exact ret_z C0 G rfl dX4_isGranted_81
  · have hf := itp hc9 hf
    refine lv_iconst (v := (1 : Int32)) hx hb dX4_isGranted_76 (by decide) ?_
    refine lv_goto (tgt := 81) hx hb dX4_isGranted_77 (by decide) ?_
    obtain rfl := inj1 hf
    exact ret_z C0 G rfl dX4_isGranted_81
theorem o4_isGranted : okName yX4_isGranted 2 := ⟨by decide, by decide, by decide +kernel⟩
set_option maxHeartbeats 4000000 in
set_option maxRecDepth 100000 in
theorem c4_isGranted {ta adK adV : Nat → Nat} (hX : XT (XS ta adK adV)) {l : Launch} {D : va_G} {cI cB cG cS : ClassId} {ad : Nat → Nat} {sz : Nat} {hp1 : Nat → Int32} {st1 : Nat → Int32} {tr1 : Nat → Nat → Int32} {sp1 : Nat → Int32} {vis1 : Int32} {day1 : Int32} {z1 : Int32} {hp2 : Nat → Int32} {st2 : Nat → Int32} {tr2 : Nat → Nat → Int32} {sp2 : Nat → Int32} {vis2 : Int32} {day2 : Int32} {z2 : Int32} {hp3 : Nat → Int32} {st3 : Nat → Int32} {tr3 : Nat → Nat → Int32} {sp3 : Nat → Int32} {vis3 : Int32} {day3 : Int32} {z3 : Int32} {tb : Nat → Int32} {tl : Int32} {rtok : Int32} {rbg : Int32} {ren : Int32} {rvl : Int32} {shn : Nat → Nat → Int32} {shb : Nat → Int32} {shz : Nat → Int32} {fd : Nat → Int32} {isK : Int32} {v1 : Int32} {v2 : Int32} {r0 : Int32} (hf : f4_isGranted hp3 st3 tr3 vis3 v1 v2 = some r0) : Met l yX4_isGranted (wU yX4_isGranted cX4_isGranted 3 (some .boolean)) ({ frames := 4, cells := 0, slots := 0, locals := 82 }) (va_Pc [.ref (ad 0), .int v1, .int v2] (PreW (XS ta adK adV) D (tyC cI cB cG cS) (wS cI cB cG cS ad hp1 st1 tr1 sp1 vis1 day1 z1 hp2 st2 tr2 sp2 vis2 day2 z2 hp3 st3 tr3 sp3 vis3 day3 z3 tb tl rtok rbg ren rvl shn shb shz fd isK) sz)) (QcI D (tyC cI cB cG cS) (wS cI cB cG cS ad hp1 st1 tr1 sp1 vis1 day1 z1 hp2 st2 tr2 sp2 vis2 day2 z2 hp3 st3 tr3 sp3 vis3 day3 z3 tb tl rtok rbg ren rvl shn shb shz fd isK) (va_A (wS cI cB cG cS ad hp1 st1 tr1 sp1 vis1 day1 z1 hp2 st2 tr2 sp2 vis2 day2 z2 hp3 st3 tr3 sp3 vis3 day3 z3 tb tl rtok rbg ren rvl shn shb shz fd isK) sz) r0) 0 0 (va_A (wS cI cB cG cS ad hp1 st1 tr1 sp1 vis1 day1 z1 hp2 st2 tr2 sp2 vis2 day2 z2 hp3 st3 tr3 sp3 vis3 day3 z3 tb tl rtok rbg ren rvl shn shb shz fd isK) sz) := by
  refine startW hX (own := RX4) (by decide) rfl (Nat.le_of_ble_eq_true rfl) (fun p e s m args below meth c ls C0 G hl => ?_)
  exact b4_isGranted_0 C0 G hl hf
/-! 4_waitFor -/
theorem dX4_waitFor_0 : decode cX4_waitFor 0 = .ok (.aload_n 0, 1) := by decide +kernel
theorem dX4_waitFor_1 : decode cX4_waitFor 1 = .ok (.getfield 19, 3) := by decide +kernel
theorem dX4_waitFor_4 : decode cX4_waitFor 4 = .ok (.aload_n 0, 1) := by decide +kernel
theorem dX4_waitFor_5 : decode cX4_waitFor 5 = .ok (.getfield 10, 3) := by decide +kernel
theorem dX4_waitFor_8 : decode cX4_waitFor 8 = .ok (.invokevirtual 128, 3) := by decide +kernel
theorem dX4_waitFor_11 : decode cX4_waitFor 11 = .ok (.iconst 0, 1) := by decide +kernel
theorem dX4_waitFor_12 : decode cX4_waitFor 12 = .ok (.istore_n 3, 1) := by decide +kernel
theorem dX4_waitFor_13 : decode cX4_waitFor 13 = .ok (.iload_n 3, 1) := by decide +kernel
theorem dX4_waitFor_14 : decode cX4_waitFor 14 = .ok (.bipush 100, 2) := by decide +kernel
theorem dX4_waitFor_16 : decode cX4_waitFor 16 = .ok (.if_icmp .gt 29, 3) := by decide +kernel
theorem dX4_waitFor_19 : decode cX4_waitFor 19 = .ok (.aload_n 0, 1) := by decide +kernel
theorem dX4_waitFor_20 : decode cX4_waitFor 20 = .ok (.iload_n 1, 1) := by decide +kernel
theorem dX4_waitFor_21 : decode cX4_waitFor 21 = .ok (.iload_n 2, 1) := by decide +kernel
theorem dX4_waitFor_22 : decode cX4_waitFor 22 = .ok (.invokevirtual 244, 3) := by decide +kernel
theorem dX4_waitFor_25 : decode cX4_waitFor 25 = .ok (.ifCond .eq 5, 3) := by decide +kernel
theorem dX4_waitFor_28 : decode cX4_waitFor 28 = .ok (.iload_n 3, 1) := by decide +kernel
theorem dX4_waitFor_29 : decode cX4_waitFor 29 = .ok (.ireturn, 1) := by decide +kernel
theorem dX4_waitFor_30 : decode cX4_waitFor 30 = .ok (.aload_n 0, 1) := by decide +kernel
theorem dX4_waitFor_31 : decode cX4_waitFor 31 = .ok (.getfield 19, 3) := by decide +kernel
theorem dX4_waitFor_34 : decode cX4_waitFor 34 = .ok (.iconst 1, 1) := by decide +kernel
theorem dX4_waitFor_35 : decode cX4_waitFor 35 = .ok (.iconst 0, 1) := by decide +kernel
theorem dX4_waitFor_36 : decode cX4_waitFor 36 = .ok (.invokevirtual 105, 3) := by decide +kernel
theorem dX4_waitFor_39 : decode cX4_waitFor 39 = .ok (.iinc 3 1, 3) := by decide +kernel
theorem dX4_waitFor_42 : decode cX4_waitFor 42 = .ok (.goto (-29), 3) := by decide +kernel
theorem dX4_waitFor_45 : decode cX4_waitFor 45 = .ok (.aload_n 0, 1) := by decide +kernel
theorem dX4_waitFor_46 : decode cX4_waitFor 46 = .ok (.iconst 3, 1) := by decide +kernel
theorem dX4_waitFor_47 : decode cX4_waitFor 47 = .ok (.invokevirtual 49, 3) := by decide +kernel
theorem dX4_waitFor_50 : decode cX4_waitFor 50 = .ok (.ireturn, 1) := by decide +kernel
def l4_waitFor_13  : Nat → (Nat → Int32) → (Nat → Int32) → (Nat → Nat → Int32) → (Nat → Int32) → Int32 → Int32 → Int32 → (Nat → Int32) → (Nat → Int32) → (Nat → Nat → Int32) → (Nat → Int32) → Int32 → Int32 → Int32 → (Nat → Int32) → Int32 → Int32 → Int32 → Option (Int32 × (Nat → Int32) × (Nat → Int32) × (Nat → Nat → Int32) × (Nat → Int32) × Int32 × Int32 × Int32 × (Nat → Int32))
  | 0, _, _, _, _, _, _, _, _, _, _, _, _, _, _, _, _, _, _ => none
  | n + 1, hp1, st1, tr1, sp1, vis1, day1, z1, hp3, st3, tr3, sp3, vis3, day3, z3, fd, v1, v2, v3 =>
    if (100 : Int32) < v3 then (
      ob2 (f4_found fd (3 : Int32)) (fun r10 fd_11 =>
      some (r10, hp3, st3, tr3, sp3, vis3, day3, z3, fd_11)))
    else (
      ob1 (f4_isGranted hp3 st3 tr3 vis3 v1 v2) (fun r13 =>
      if r13 = (0 : Int32) then (
        ob4 (f0_passDays hp3 st3 tr3 vis3 day3 (1 : Int32) (0 : Int32)) (fun hp3_16 st3_17 tr3_18 day3_19 =>
        (l4_waitFor_13 n) hp1 st1 tr1 sp1 vis1 day1 z1 hp3_16 st3_17 tr3_18 sp3 vis3 day3_19 z3 fd v1 v2 (v3 + (1 : Int32))))
      else (
        some (v3, hp3, st3, tr3, sp3, vis3, day3, z3, fd))))
def f4_waitFor (hp1 : Nat → Int32) (st1 : Nat → Int32) (tr1 : Nat → Nat → Int32) (sp1 : Nat → Int32) (vis1 : Int32) (day1 : Int32) (z1 : Int32) (hp3 : Nat → Int32) (st3 : Nat → Int32) (tr3 : Nat → Nat → Int32) (sp3 : Nat → Int32) (vis3 : Int32) (day3 : Int32) (z3 : Int32) (fd : Nat → Int32) (v1 : Int32) (v2 : Int32) : Option (Int32 × (Nat → Int32) × (Nat → Int32) × (Nat → Nat → Int32) × (Nat → Int32) × Int32 × Int32 × Int32 × (Nat → Int32)) :=
  ob7 (f0_become hp3 st3 tr3 sp3 vis3 day3 z3 hp1 st1 tr1 sp1 vis1 day1 z1) (fun hp3_1 st3_2 tr3_3 sp3_4 vis3_5 day3_6 z3_7 =>
  l4_waitFor_13 1000 hp1 st1 tr1 sp1 vis1 day1 z1 hp3_1 st3_2 tr3_3 sp3_4 vis3_5 day3_6 z3_7 fd v1 v2 (0 : Int32))
set_option maxHeartbeats 4000000 in
set_option maxRecDepth 100000 in
theorem b4_waitFor_13 {ta adK adV : Nat → Nat} {p : Program} {l : Launch} {e : Env} {s : State} {m : MethodId} {args : Array Value} {below : List Frame} {meth : Method} {c : Code} {D : va_G} {cI cB cG cS : ClassId} {ad : Nat → Nat} {A : Nat → Prop} {hp1 : Nat → Int32} {st1 : Nat → Int32} {tr1 : Nat → Nat → Int32} {sp1 : Nat → Int32} {vis1 : Int32} {day1 : Int32} {z1 : Int32} {hp2 : Nat → Int32} {st2 : Nat → Int32} {tr2 : Nat → Nat → Int32} {sp2 : Nat → Int32} {vis2 : Int32} {day2 : Int32} {z2 : Int32} {tb : Nat → Int32} {tl : Int32} {rtok : Int32} {rbg : Int32} {ren : Int32} {rvl : Int32} {shn : Nat → Nat → Int32} {shb : Nat → Int32} {shz : Nat → Int32} {isK : Int32} {r0 : Int32} {o_hp3 : Nat → Int32} {o_st3 : Nat → Int32} {o_tr3 : Nat → Nat → Int32} {o_sp3 : Nat → Int32} {o_vis3 : Int32} {o_day3 : Int32} {o_z3 : Int32} {o_fd : Nat → Int32} (C0 : CX (XS ta adK adV) p s m args meth c cX4_waitFor 4 (some .int) RX4 A) : ∀ (n : Nat) {hp3 : Nat → Int32} {st3 : Nat → Int32} {tr3 : Nat → Nat → Int32} {sp3 : Nat → Int32} {vis3 : Int32} {day3 : Int32} {z3 : Int32} {fd : Nat → Int32} {v1 : Int32} {v2 : Int32} {v3 : Int32} {H : Heap} {locs : List Loc} {ls : Array Slot}, GX (XS ta adK adV) D (tyC cI cB cG cS) A s (wS cI cB cG cS ad hp1 st1 tr1 sp1 vis1 day1 z1 hp2 st2 tr2 sp2 vis2 day2 z2 hp3 st3 tr3 sp3 vis3 day3 z3 tb tl rtok rbg ren rvl shn shb shz fd isK) H locs → lv_has ls 4 [(0, .ref (ad 0)), (1, .int v1), (2, .int v2), (3, .int v3)] → l4_waitFor_13  n hp1 st1 tr1 sp1 vis1 day1 z1 hp3 st3 tr3 sp3 vis3 day3 z3 fd v1 v2 v3 = some (r0, o_hp3, o_st3, o_tr3, o_sp3, o_vis3, o_day3, o_z3, o_fd) → W p l e ({ frames := 5, cells := 0, slots := 0, locals := 108 }) s m args below meth c H locs 0 0 (MQ below (QcI D (tyC cI cB cG cS) (wS cI cB cG cS ad hp1 st1 tr1 sp1 vis1 day1 z1 hp2 st2 tr2 sp2 vis2 day2 z2 o_hp3 o_st3 o_tr3 o_sp3 o_vis3 o_day3 o_z3 tb tl rtok rbg ren rvl shn shb shz o_fd isK) A r0) args s 0 0 A) (F0 m 13 ls []) := by
  have hx := C0.1
  have hb := C0.2.1
  have hown := C0.2.2.2.2.1
  have hts := C0.2.2.2.2.2.1
  have hX := C0.2.2.2.2.2.2.2.2
  intro n
  induction n with
  | zero =>
    intro _ _ _ _ _ _ _ _ _ _ _ _ _ _ G hl hf
    cases hf
  | succ n ih =>
    intro hp3 st3 tr3 sp3 vis3 day3 z3 fd v1 v2 v3 H locs ls G hl hf
    rw [l4_waitFor_13] at hf
    refine lv_iload_n hx hb dX4_waitFor_13 rfl (lv_at hl 3 rfl) ?_
    refine lv_bipush (v := (100 : Int32)) hx hb dX4_waitFor_14 (by decide) ?_
    refine lv_icmp_gt (tgt := 45) hx hb dX4_waitFor_16 (by decide) (fun hc9 => ?_) (fun hc9 => ?_)
    · have hf := itp hc9 hf
      refine lv_aload_n hx hb dX4_waitFor_45 rfl (lv_at hl 0 rfl) ?_
      refine lv_iconst (v := (3 : Int32)) hx hb dX4_waitFor_46 (by decide) ?_
      obtain ⟨r10, fd_11, hc12, hf⟩ := ob2_s hf
      refine go_i C0 G (runV_of (n := 1) (q0 := 0) (As := [.int (3 : Int32)]) (rest := []) C0 G (c4_found hX hc12) q208 q49 q205 q207 q0 o4_found ⟨rfl, rfl⟩ ⟨Nat.le_of_ble_eq_true rfl, Nat.le_of_ble_eq_true rfl⟩ rfl rfl rfl hl.1 rfl (Nat.le_of_ble_eq_true rfl) dX4_waitFor_47) (fun H locs G => ?_)
      obtain ⟨rfl, rfl, rfl, rfl, rfl, rfl, rfl, rfl, rfl⟩ := inj9 hf
      exact ret_i C0 G dX4_waitFor_50
    · have hf := itn hc9 hf
      refine lv_aload_n hx hb dX4_waitFor_19 rfl (lv_at hl 0 rfl) ?_
      refine lv_iload_n hx hb dX4_waitFor_20 rfl (lv_at hl 1 rfl) ?_
      refine lv_iload_n hx hb dX4_waitFor_21 rfl (lv_at hl 2 rfl) ?_
      obtain ⟨r13, hc14, hf⟩ := ob1_s hf
      refine go_i C0 G (runV_of (n := 2) (q0 := 0) (As := [.int v1, .int v2]) (rest := []) C0 G (c4_isGranted hX hc14) q395 q49 q392 q394 q3 o4_isGranted ⟨rfl, rfl⟩ ⟨Nat.le_of_ble_eq_true rfl, Nat.le_of_ble_eq_true rfl⟩ rfl rfl rfl hl.1 rfl (Nat.le_of_ble_eq_true rfl) dX4_waitFor_22) (fun H locs G => ?_)
      refine lv_if_eq (tgt := 30) hx hb dX4_waitFor_25 (by decide) (fun hc15 => ?_) (fun hc15 => ?_)
      · have hf := itp hc15 hf
        refine lv_aload_n hx hb dX4_waitFor_30 rfl (lv_at hl 0 rfl) ?_
        refine s_get (C := RX4) (T := TX4) C0 G i_X4 0 2 rfl rfl (by decide) q175 rfl dX4_waitFor_31 ?_
        refine lv_iconst (v := (1 : Int32)) hx hb dX4_waitFor_34 (by decide) ?_
        refine lv_iconst (v := (0 : Int32)) hx hb dX4_waitFor_35 (by decide) ?_
        obtain ⟨hp3_16, st3_17, tr3_18, day3_19, hc20, hf⟩ := ob4_s hf
        refine go_v_sub C0 G s_pit3 o_pit3 (runV_sub (n := 2) (q0 := 25) (As := [.int (1 : Int32), .int (0 : Int32)]) (rest := []) C0 G s_pit3 (c0_passDays hX hc20) q322 q50 q319 q320 q321 o0_passDays ⟨rfl, rfl⟩ ⟨Nat.le_of_ble_eq_true rfl, Nat.le_of_ble_eq_true rfl⟩ rfl rfl rfl hl.1 rfl (Nat.le_of_ble_eq_true rfl) dX4_waitFor_36) (fun H locs G => ?_)
        refine lv_iinc (v := (v3 + (1 : Int32))) (lv' := [(3, .int (v3 + (1 : Int32))), (0, .ref (ad 0)), (1, .int v1), (2, .int v2)]) hx hb dX4_waitFor_39 hl (k := 3) rfl rfl (by decide) rfl (fun ls hl => ?_)
        refine lv_goto (tgt := 13) hx hb dX4_waitFor_42 (by decide) ?_
        exact ih G (lv_sub hl [1, 2, 3, 0] rfl) hf
      · have hf := itn hc15 hf
        refine lv_iload_n hx hb dX4_waitFor_28 rfl (lv_at hl 3 rfl) ?_
        obtain ⟨rfl, rfl, rfl, rfl, rfl, rfl, rfl, rfl, rfl⟩ := inj9 hf
        exact ret_i C0 G dX4_waitFor_29
set_option maxHeartbeats 4000000 in
set_option maxRecDepth 100000 in
theorem b4_waitFor_0 {ta adK adV : Nat → Nat} {p : Program} {l : Launch} {e : Env} {s : State} {m : MethodId} {args : Array Value} {below : List Frame} {meth : Method} {c : Code} {D : va_G} {cI cB cG cS : ClassId} {ad : Nat → Nat} {A : Nat → Prop} {hp1 : Nat → Int32} {st1 : Nat → Int32} {tr1 : Nat → Nat → Int32} {sp1 : Nat → Int32} {vis1 : Int32} {day1 : Int32} {z1 : Int32} {hp2 : Nat → Int32} {st2 : Nat → Int32} {tr2 : Nat → Nat → Int32} {sp2 : Nat → Int32} {vis2 : Int32} {day2 : Int32} {z2 : Int32} {tb : Nat → Int32} {tl : Int32} {rtok : Int32} {rbg : Int32} {ren : Int32} {rvl : Int32} {shn : Nat → Nat → Int32} {shb : Nat → Int32} {shz : Nat → Int32} {isK : Int32} {r0 : Int32} {o_hp3 : Nat → Int32} {o_st3 : Nat → Int32} {o_tr3 : Nat → Nat → Int32} {o_sp3 : Nat → Int32} {o_vis3 : Int32} {o_day3 : Int32} {o_z3 : Int32} {o_fd : Nat → Int32} (C0 : CX (XS ta adK adV) p s m args meth c cX4_waitFor 4 (some .int) RX4 A) : ∀ {hp3 : Nat → Int32} {st3 : Nat → Int32} {tr3 : Nat → Nat → Int32} {sp3 : Nat → Int32} {vis3 : Int32} {day3 : Int32} {z3 : Int32} {fd : Nat → Int32} {v1 : Int32} {v2 : Int32} {H : Heap} {locs : List Loc} {ls : Array Slot}, GX (XS ta adK adV) D (tyC cI cB cG cS) A s (wS cI cB cG cS ad hp1 st1 tr1 sp1 vis1 day1 z1 hp2 st2 tr2 sp2 vis2 day2 z2 hp3 st3 tr3 sp3 vis3 day3 z3 tb tl rtok rbg ren rvl shn shb shz fd isK) H locs → lv_has ls 4 [(0, .ref (ad 0)), (1, .int v1), (2, .int v2)] → f4_waitFor hp1 st1 tr1 sp1 vis1 day1 z1 hp3 st3 tr3 sp3 vis3 day3 z3 fd v1 v2 = some (r0, o_hp3, o_st3, o_tr3, o_sp3, o_vis3, o_day3, o_z3, o_fd) → W p l e ({ frames := 5, cells := 0, slots := 0, locals := 108 }) s m args below meth c H locs 0 0 (MQ below (QcI D (tyC cI cB cG cS) (wS cI cB cG cS ad hp1 st1 tr1 sp1 vis1 day1 z1 hp2 st2 tr2 sp2 vis2 day2 z2 o_hp3 o_st3 o_tr3 o_sp3 o_vis3 o_day3 o_z3 tb tl rtok rbg ren rvl shn shb shz o_fd isK) A r0) args s 0 0 A) (F0 m 0 ls []) := by
  have hx := C0.1
  have hb := C0.2.1
  have hown := C0.2.2.2.2.1
  have hts := C0.2.2.2.2.2.1
  have hX := C0.2.2.2.2.2.2.2.2
  intro hp3 st3 tr3 sp3 vis3 day3 z3 fd v1 v2 H locs ls G hl hf
  unfold f4_waitFor at hf
  refine lv_aload_n hx hb dX4_waitFor_0 rfl (lv_at hl 0 rfl) ?_
  refine s_get (C := RX4) (T := TX4) C0 G i_X4 0 2 rfl rfl (by decide) q175 rfl dX4_waitFor_1 ?_
  refine lv_aload_n hx hb dX4_waitFor_4 rfl (lv_at hl 0 rfl) ?_
  refine s_get (C := RX4) (T := TX4) C0 G i_X4 0 0 rfl rfl (by decide) q173 rfl dX4_waitFor_5 ?_
  obtain ⟨hp3_1, st3_2, tr3_3, sp3_4, vis3_5, day3_6, z3_7, hc8, hf⟩ := ob7_s hf
  refine go_v_sub C0 G s_pp31 o_pp31 (runV_sub (n := 1) (q0 := 25) (As := [.ref (ad 1)]) (rest := []) C0 G s_pp31 (c0_become hX (ad := fun k => ad (25 + k)) (ae := fun k => ad (1 + k))  hc8) q376 q50 q373 q374 q375 o0_become ⟨rfl, rfl⟩ ⟨Nat.le_of_ble_eq_true rfl, Nat.le_of_ble_eq_true rfl⟩ rfl rfl rfl hl.1 rfl (Nat.le_of_ble_eq_true rfl) dX4_waitFor_8) (fun H locs G => ?_)
  refine lv_iconst (v := (0 : Int32)) hx hb dX4_waitFor_11 (by decide) ?_
  refine lv_istore_n (lv' := [(3, .int (0 : Int32)), (0, .ref (ad 0)), (1, .int v1), (2, .int v2)]) hx hb dX4_waitFor_12 rfl hl (by decide) rfl (fun ls hl => ?_)
  exact b4_waitFor_13 C0  1000 G (lv_sub hl [1, 2, 3, 0] rfl) hf
theorem o4_waitFor : okName yX4_waitFor 2 := ⟨by decide, by decide, by decide +kernel⟩
set_option maxHeartbeats 4000000 in
set_option maxRecDepth 100000 in
theorem c4_waitFor {ta adK adV : Nat → Nat} (hX : XT (XS ta adK adV)) {l : Launch} {D : va_G} {cI cB cG cS : ClassId} {ad : Nat → Nat} {sz : Nat} {hp1 : Nat → Int32} {st1 : Nat → Int32} {tr1 : Nat → Nat → Int32} {sp1 : Nat → Int32} {vis1 : Int32} {day1 : Int32} {z1 : Int32} {hp2 : Nat → Int32} {st2 : Nat → Int32} {tr2 : Nat → Nat → Int32} {sp2 : Nat → Int32} {vis2 : Int32} {day2 : Int32} {z2 : Int32} {hp3 : Nat → Int32} {st3 : Nat → Int32} {tr3 : Nat → Nat → Int32} {sp3 : Nat → Int32} {vis3 : Int32} {day3 : Int32} {z3 : Int32} {tb : Nat → Int32} {tl : Int32} {rtok : Int32} {rbg : Int32} {ren : Int32} {rvl : Int32} {shn : Nat → Nat → Int32} {shb : Nat → Int32} {shz : Nat → Int32} {fd : Nat → Int32} {isK : Int32} {v1 : Int32} {v2 : Int32} {r0 : Int32} {o_hp3 : Nat → Int32} {o_st3 : Nat → Int32} {o_tr3 : Nat → Nat → Int32} {o_sp3 : Nat → Int32} {o_vis3 : Int32} {o_day3 : Int32} {o_z3 : Int32} {o_fd : Nat → Int32} (hf : f4_waitFor hp1 st1 tr1 sp1 vis1 day1 z1 hp3 st3 tr3 sp3 vis3 day3 z3 fd v1 v2 = some (r0, o_hp3, o_st3, o_tr3, o_sp3, o_vis3, o_day3, o_z3, o_fd)) : Met l yX4_waitFor (wU yX4_waitFor cX4_waitFor 4 (some .int)) ({ frames := 5, cells := 0, slots := 0, locals := 108 }) (va_Pc [.ref (ad 0), .int v1, .int v2] (PreW (XS ta adK adV) D (tyC cI cB cG cS) (wS cI cB cG cS ad hp1 st1 tr1 sp1 vis1 day1 z1 hp2 st2 tr2 sp2 vis2 day2 z2 hp3 st3 tr3 sp3 vis3 day3 z3 tb tl rtok rbg ren rvl shn shb shz fd isK) sz)) (QcI D (tyC cI cB cG cS) (wS cI cB cG cS ad hp1 st1 tr1 sp1 vis1 day1 z1 hp2 st2 tr2 sp2 vis2 day2 z2 o_hp3 o_st3 o_tr3 o_sp3 o_vis3 o_day3 o_z3 tb tl rtok rbg ren rvl shn shb shz o_fd isK) (va_A (wS cI cB cG cS ad hp1 st1 tr1 sp1 vis1 day1 z1 hp2 st2 tr2 sp2 vis2 day2 z2 hp3 st3 tr3 sp3 vis3 day3 z3 tb tl rtok rbg ren rvl shn shb shz fd isK) sz) r0) 0 0 (va_A (wS cI cB cG cS ad hp1 st1 tr1 sp1 vis1 day1 z1 hp2 st2 tr2 sp2 vis2 day2 z2 hp3 st3 tr3 sp3 vis3 day3 z3 tb tl rtok rbg ren rvl shn shb shz fd isK) sz) := by
  refine startW hX (own := RX4) (by decide) rfl (Nat.le_of_ble_eq_true rfl) (fun p e s m args below meth c ls C0 G hl => ?_)
  exact b4_waitFor_0 C0 G hl hf
/-! 4_stands -/
theorem dX4_stands_0 : decode cX4_stands 0 = .ok (.aload_n 0, 1) := by decide +kernel
theorem dX4_stands_1 : decode cX4_stands 1 = .ok (.iload_n 1, 1) := by decide +kernel
theorem dX4_stands_2 : decode cX4_stands 2 = .ok (.invokevirtual 73, 3) := by decide +kernel
theorem dX4_stands_5 : decode cX4_stands 5 = .ok (.ifCond .ne 9, 3) := by decide +kernel
theorem dX4_stands_8 : decode cX4_stands 8 = .ok (.aload_n 0, 1) := by decide +kernel
theorem dX4_stands_9 : decode cX4_stands 9 = .ok (.iconst 0, 1) := by decide +kernel
theorem dX4_stands_10 : decode cX4_stands 10 = .ok (.invokevirtual 49, 3) := by decide +kernel
theorem dX4_stands_13 : decode cX4_stands 13 = .ok (.ireturn, 1) := by decide +kernel
theorem dX4_stands_14 : decode cX4_stands 14 = .ok (.aload_n 0, 1) := by decide +kernel
theorem dX4_stands_15 : decode cX4_stands 15 = .ok (.iconst 0, 1) := by decide +kernel
theorem dX4_stands_16 : decode cX4_stands 16 = .ok (.iconst 1, 1) := by decide +kernel
theorem dX4_stands_17 : decode cX4_stands 17 = .ok (.iload_n 1, 1) := by decide +kernel
theorem dX4_stands_18 : decode cX4_stands 18 = .ok (.ishl, 1) := by decide +kernel
theorem dX4_stands_19 : decode cX4_stands 19 = .ok (.invokevirtual 132, 3) := by decide +kernel
theorem dX4_stands_22 : decode cX4_stands 22 = .ok (.ireturn, 1) := by decide +kernel
def f4_stands (hp1 : Nat → Int32) (st1 : Nat → Int32) (tr1 : Nat → Nat → Int32) (sp1 : Nat → Int32) (vis1 : Int32) (day1 : Int32) (z1 : Int32) (hp3 : Nat → Int32) (st3 : Nat → Int32) (tr3 : Nat → Nat → Int32) (sp3 : Nat → Int32) (vis3 : Int32) (day3 : Int32) (z3 : Int32) (fd : Nat → Int32) (v1 : Int32) : Option (Int32 × (Nat → Int32) × (Nat → Int32) × (Nat → Nat → Int32) × (Nat → Int32) × Int32 × Int32 × Int32 × (Nat → Int32)) :=
  if (f4_isVisitor vis1 v1) = (0 : Int32) then (
    ob2 (f4_found fd (0 : Int32)) (fun r12 fd_13 =>
    some (r12, hp3, st3, tr3, sp3, vis3, day3, z3, fd_13)))
  else (
    ob9 (f4_waitFor hp1 st1 tr1 sp1 vis1 day1 z1 hp3 st3 tr3 sp3 vis3 day3 z3 fd (0 : Int32) ((1 : Int32) <<< (v1 &&& 31))) (fun r2 hp3_3 st3_4 tr3_5 sp3_6 vis3_7 day3_8 z3_9 fd_10 =>
    some (r2, hp3_3, st3_4, tr3_5, sp3_6, vis3_7, day3_8, z3_9, fd_10)))
set_option maxHeartbeats 4000000 in
set_option maxRecDepth 100000 in
theorem b4_stands_0 {ta adK adV : Nat → Nat} {p : Program} {l : Launch} {e : Env} {s : State} {m : MethodId} {args : Array Value} {below : List Frame} {meth : Method} {c : Code} {D : va_G} {cI cB cG cS : ClassId} {ad : Nat → Nat} {A : Nat → Prop} {hp1 : Nat → Int32} {st1 : Nat → Int32} {tr1 : Nat → Nat → Int32} {sp1 : Nat → Int32} {vis1 : Int32} {day1 : Int32} {z1 : Int32} {hp2 : Nat → Int32} {st2 : Nat → Int32} {tr2 : Nat → Nat → Int32} {sp2 : Nat → Int32} {vis2 : Int32} {day2 : Int32} {z2 : Int32} {tb : Nat → Int32} {tl : Int32} {rtok : Int32} {rbg : Int32} {ren : Int32} {rvl : Int32} {shn : Nat → Nat → Int32} {shb : Nat → Int32} {shz : Nat → Int32} {isK : Int32} {r0 : Int32} {o_hp3 : Nat → Int32} {o_st3 : Nat → Int32} {o_tr3 : Nat → Nat → Int32} {o_sp3 : Nat → Int32} {o_vis3 : Int32} {o_day3 : Int32} {o_z3 : Int32} {o_fd : Nat → Int32} (C0 : CX (XS ta adK adV) p s m args meth c cX4_stands 2 (some .int) RX4 A) : ∀ {hp3 : Nat → Int32} {st3 : Nat → Int32} {tr3 : Nat → Nat → Int32} {sp3 : Nat → Int32} {vis3 : Int32} {day3 : Int32} {z3 : Int32} {fd : Nat → Int32} {v1 : Int32} {H : Heap} {locs : List Loc} {ls : Array Slot}, GX (XS ta adK adV) D (tyC cI cB cG cS) A s (wS cI cB cG cS ad hp1 st1 tr1 sp1 vis1 day1 z1 hp2 st2 tr2 sp2 vis2 day2 z2 hp3 st3 tr3 sp3 vis3 day3 z3 tb tl rtok rbg ren rvl shn shb shz fd isK) H locs → lv_has ls 2 [(0, .ref (ad 0)), (1, .int v1)] → f4_stands hp1 st1 tr1 sp1 vis1 day1 z1 hp3 st3 tr3 sp3 vis3 day3 z3 fd v1 = some (r0, o_hp3, o_st3, o_tr3, o_sp3, o_vis3, o_day3, o_z3, o_fd) → W p l e ({ frames := 6, cells := 0, slots := 0, locals := 131 }) s m args below meth c H locs 0 0 (MQ below (QcI D (tyC cI cB cG cS) (wS cI cB cG cS ad hp1 st1 tr1 sp1 vis1 day1 z1 hp2 st2 tr2 sp2 vis2 day2 z2 o_hp3 o_st3 o_tr3 o_sp3 o_vis3 o_day3 o_z3 tb tl rtok rbg ren rvl shn shb shz o_fd isK) A r0) args s 0 0 A) (F0 m 0 ls []) := by
  have hx := C0.1
  have hb := C0.2.1
  have hown := C0.2.2.2.2.1
  have hts := C0.2.2.2.2.2.1
  have hX := C0.2.2.2.2.2.2.2.2
  intro hp3 st3 tr3 sp3 vis3 day3 z3 fd v1 H locs ls G hl hf
  unfold f4_stands at hf
  refine lv_aload_n hx hb dX4_stands_0 rfl (lv_at hl 0 rfl) ?_
  refine lv_iload_n hx hb dX4_stands_1 rfl (lv_at hl 1 rfl) ?_
  refine go_i C0 G (runV_of (n := 1) (q0 := 0) (As := [.int v1]) (rest := []) C0 G (c4_isVisitor hX rfl) q261 q49 q258 q260 q1 o4_isVisitor ⟨rfl, rfl⟩ ⟨Nat.le_of_ble_eq_true rfl, Nat.le_of_ble_eq_true rfl⟩ rfl rfl rfl hl.1 rfl (Nat.le_of_ble_eq_true rfl) dX4_stands_2) (fun H locs G => ?_)
  refine lv_if_ne (tgt := 14) hx hb dX4_stands_5 (by decide) (fun hc1 => ?_) (fun hc1 => ?_)
  · have hf := itn hc1 hf
    refine lv_aload_n hx hb dX4_stands_14 rfl (lv_at hl 0 rfl) ?_
    refine lv_iconst (v := (0 : Int32)) hx hb dX4_stands_15 (by decide) ?_
    refine lv_iconst (v := (1 : Int32)) hx hb dX4_stands_16 (by decide) ?_
    refine lv_iload_n hx hb dX4_stands_17 rfl (lv_at hl 1 rfl) ?_
    refine lv_ishl hx hb dX4_stands_18 ?_
    obtain ⟨r2, hp3_3, st3_4, tr3_5, sp3_6, vis3_7, day3_8, z3_9, fd_10, hc11, hf⟩ := ob9_s hf
    refine go_i C0 G (runV_of (n := 2) (q0 := 0) (As := [.int (0 : Int32), .int ((1 : Int32) <<< (v1 &&& 31))]) (rest := []) C0 G (c4_waitFor hX hc11) q391 q49 q388 q390 q2 o4_waitFor ⟨rfl, rfl⟩ ⟨Nat.le_of_ble_eq_true rfl, Nat.le_of_ble_eq_true rfl⟩ rfl rfl rfl hl.1 rfl (Nat.le_of_ble_eq_true rfl) dX4_stands_19) (fun H locs G => ?_)
    obtain ⟨rfl, rfl, rfl, rfl, rfl, rfl, rfl, rfl, rfl⟩ := inj9 hf
    exact ret_i C0 G dX4_stands_22
  · have hf := itp hc1 hf
    refine lv_aload_n hx hb dX4_stands_8 rfl (lv_at hl 0 rfl) ?_
    refine lv_iconst (v := (0 : Int32)) hx hb dX4_stands_9 (by decide) ?_
    obtain ⟨r12, fd_13, hc14, hf⟩ := ob2_s hf
    refine go_i C0 G (runV_of (n := 1) (q0 := 0) (As := [.int (0 : Int32)]) (rest := []) C0 G (c4_found hX hc14) q208 q49 q205 q207 q0 o4_found ⟨rfl, rfl⟩ ⟨Nat.le_of_ble_eq_true rfl, Nat.le_of_ble_eq_true rfl⟩ rfl rfl rfl hl.1 rfl (Nat.le_of_ble_eq_true rfl) dX4_stands_10) (fun H locs G => ?_)
    obtain ⟨rfl, rfl, rfl, rfl, rfl, rfl, rfl, rfl, rfl⟩ := inj9 hf
    exact ret_i C0 G dX4_stands_13
theorem o4_stands : okName yX4_stands 1 := ⟨by decide, by decide, by decide +kernel⟩
set_option maxHeartbeats 4000000 in
set_option maxRecDepth 100000 in
theorem c4_stands {ta adK adV : Nat → Nat} (hX : XT (XS ta adK adV)) {l : Launch} {D : va_G} {cI cB cG cS : ClassId} {ad : Nat → Nat} {sz : Nat} {hp1 : Nat → Int32} {st1 : Nat → Int32} {tr1 : Nat → Nat → Int32} {sp1 : Nat → Int32} {vis1 : Int32} {day1 : Int32} {z1 : Int32} {hp2 : Nat → Int32} {st2 : Nat → Int32} {tr2 : Nat → Nat → Int32} {sp2 : Nat → Int32} {vis2 : Int32} {day2 : Int32} {z2 : Int32} {hp3 : Nat → Int32} {st3 : Nat → Int32} {tr3 : Nat → Nat → Int32} {sp3 : Nat → Int32} {vis3 : Int32} {day3 : Int32} {z3 : Int32} {tb : Nat → Int32} {tl : Int32} {rtok : Int32} {rbg : Int32} {ren : Int32} {rvl : Int32} {shn : Nat → Nat → Int32} {shb : Nat → Int32} {shz : Nat → Int32} {fd : Nat → Int32} {isK : Int32} {v1 : Int32} {r0 : Int32} {o_hp3 : Nat → Int32} {o_st3 : Nat → Int32} {o_tr3 : Nat → Nat → Int32} {o_sp3 : Nat → Int32} {o_vis3 : Int32} {o_day3 : Int32} {o_z3 : Int32} {o_fd : Nat → Int32} (hf : f4_stands hp1 st1 tr1 sp1 vis1 day1 z1 hp3 st3 tr3 sp3 vis3 day3 z3 fd v1 = some (r0, o_hp3, o_st3, o_tr3, o_sp3, o_vis3, o_day3, o_z3, o_fd)) : Met l yX4_stands (wU yX4_stands cX4_stands 2 (some .int)) ({ frames := 6, cells := 0, slots := 0, locals := 131 }) (va_Pc [.ref (ad 0), .int v1] (PreW (XS ta adK adV) D (tyC cI cB cG cS) (wS cI cB cG cS ad hp1 st1 tr1 sp1 vis1 day1 z1 hp2 st2 tr2 sp2 vis2 day2 z2 hp3 st3 tr3 sp3 vis3 day3 z3 tb tl rtok rbg ren rvl shn shb shz fd isK) sz)) (QcI D (tyC cI cB cG cS) (wS cI cB cG cS ad hp1 st1 tr1 sp1 vis1 day1 z1 hp2 st2 tr2 sp2 vis2 day2 z2 o_hp3 o_st3 o_tr3 o_sp3 o_vis3 o_day3 o_z3 tb tl rtok rbg ren rvl shn shb shz o_fd isK) (va_A (wS cI cB cG cS ad hp1 st1 tr1 sp1 vis1 day1 z1 hp2 st2 tr2 sp2 vis2 day2 z2 hp3 st3 tr3 sp3 vis3 day3 z3 tb tl rtok rbg ren rvl shn shb shz fd isK) sz) r0) 0 0 (va_A (wS cI cB cG cS ad hp1 st1 tr1 sp1 vis1 day1 z1 hp2 st2 tr2 sp2 vis2 day2 z2 hp3 st3 tr3 sp3 vis3 day3 z3 tb tl rtok rbg ren rvl shn shb shz fd isK) sz) := by
  refine startW hX (own := RX4) (by decide) rfl (Nat.le_of_ble_eq_true rfl) (fun p e s m args below meth c ls C0 G hl => ?_)
  exact b4_stands_0 C0 G hl hf
/-! 4_road -/
theorem dX4_road_0 : decode cX4_road 0 = .ok (.iload_n 1, 1) := by decide +kernel
theorem dX4_road_1 : decode cX4_road 1 = .ok (.iconst 0, 1) := by decide +kernel
theorem dX4_road_2 : decode cX4_road 2 = .ok (.bipush 16, 2) := by decide +kernel
theorem dX4_road_4 : decode cX4_road 4 = .ok (.invokestatic 45, 3) := by decide +kernel
theorem dX4_road_7 : decode cX4_road 7 = .ok (.ifCond .ne 9, 3) := by decide +kernel
theorem dX4_road_10 : decode cX4_road 10 = .ok (.aload_n 0, 1) := by decide +kernel
theorem dX4_road_11 : decode cX4_road 11 = .ok (.iconst 0, 1) := by decide +kernel
theorem dX4_road_12 : decode cX4_road 12 = .ok (.invokevirtual 49, 3) := by decide +kernel
theorem dX4_road_15 : decode cX4_road 15 = .ok (.ireturn, 1) := by decide +kernel
theorem dX4_road_16 : decode cX4_road 16 = .ok (.aload_n 0, 1) := by decide +kernel
theorem dX4_road_17 : decode cX4_road 17 = .ok (.iconst 1, 1) := by decide +kernel
theorem dX4_road_18 : decode cX4_road 18 = .ok (.iload_n 1, 1) := by decide +kernel
theorem dX4_road_19 : decode cX4_road 19 = .ok (.invokevirtual 132, 3) := by decide +kernel
theorem dX4_road_22 : decode cX4_road 22 = .ok (.ireturn, 1) := by decide +kernel
def f4_road (hp1 : Nat → Int32) (st1 : Nat → Int32) (tr1 : Nat → Nat → Int32) (sp1 : Nat → Int32) (vis1 : Int32) (day1 : Int32) (z1 : Int32) (hp3 : Nat → Int32) (st3 : Nat → Int32) (tr3 : Nat → Nat → Int32) (sp3 : Nat → Int32) (vis3 : Int32) (day3 : Int32) (z3 : Int32) (fd : Nat → Int32) (v1 : Int32) : Option (Int32 × (Nat → Int32) × (Nat → Int32) × (Nat → Nat → Int32) × (Nat → Int32) × Int32 × Int32 × Int32 × (Nat → Int32)) :=
  if (f4_within v1 (0 : Int32) (16 : Int32)) = (0 : Int32) then (
    ob2 (f4_found fd (0 : Int32)) (fun r12 fd_13 =>
    some (r12, hp3, st3, tr3, sp3, vis3, day3, z3, fd_13)))
  else (
    ob9 (f4_waitFor hp1 st1 tr1 sp1 vis1 day1 z1 hp3 st3 tr3 sp3 vis3 day3 z3 fd (1 : Int32) v1) (fun r2 hp3_3 st3_4 tr3_5 sp3_6 vis3_7 day3_8 z3_9 fd_10 =>
    some (r2, hp3_3, st3_4, tr3_5, sp3_6, vis3_7, day3_8, z3_9, fd_10)))
set_option maxHeartbeats 4000000 in
set_option maxRecDepth 100000 in
theorem b4_road_0 {ta adK adV : Nat → Nat} {p : Program} {l : Launch} {e : Env} {s : State} {m : MethodId} {args : Array Value} {below : List Frame} {meth : Method} {c : Code} {D : va_G} {cI cB cG cS : ClassId} {ad : Nat → Nat} {A : Nat → Prop} {hp1 : Nat → Int32} {st1 : Nat → Int32} {tr1 : Nat → Nat → Int32} {sp1 : Nat → Int32} {vis1 : Int32} {day1 : Int32} {z1 : Int32} {hp2 : Nat → Int32} {st2 : Nat → Int32} {tr2 : Nat → Nat → Int32} {sp2 : Nat → Int32} {vis2 : Int32} {day2 : Int32} {z2 : Int32} {tb : Nat → Int32} {tl : Int32} {rtok : Int32} {rbg : Int32} {ren : Int32} {rvl : Int32} {shn : Nat → Nat → Int32} {shb : Nat → Int32} {shz : Nat → Int32} {isK : Int32} {r0 : Int32} {o_hp3 : Nat → Int32} {o_st3 : Nat → Int32} {o_tr3 : Nat → Nat → Int32} {o_sp3 : Nat → Int32} {o_vis3 : Int32} {o_day3 : Int32} {o_z3 : Int32} {o_fd : Nat → Int32} (C0 : CX (XS ta adK adV) p s m args meth c cX4_road 2 (some .int) RX4 A) : ∀ {hp3 : Nat → Int32} {st3 : Nat → Int32} {tr3 : Nat → Nat → Int32} {sp3 : Nat → Int32} {vis3 : Int32} {day3 : Int32} {z3 : Int32} {fd : Nat → Int32} {v1 : Int32} {H : Heap} {locs : List Loc} {ls : Array Slot}, GX (XS ta adK adV) D (tyC cI cB cG cS) A s (wS cI cB cG cS ad hp1 st1 tr1 sp1 vis1 day1 z1 hp2 st2 tr2 sp2 vis2 day2 z2 hp3 st3 tr3 sp3 vis3 day3 z3 tb tl rtok rbg ren rvl shn shb shz fd isK) H locs → lv_has ls 2 [(0, .ref (ad 0)), (1, .int v1)] → f4_road hp1 st1 tr1 sp1 vis1 day1 z1 hp3 st3 tr3 sp3 vis3 day3 z3 fd v1 = some (r0, o_hp3, o_st3, o_tr3, o_sp3, o_vis3, o_day3, o_z3, o_fd) → W p l e ({ frames := 6, cells := 0, slots := 0, locals := 131 }) s m args below meth c H locs 0 0 (MQ below (QcI D (tyC cI cB cG cS) (wS cI cB cG cS ad hp1 st1 tr1 sp1 vis1 day1 z1 hp2 st2 tr2 sp2 vis2 day2 z2 o_hp3 o_st3 o_tr3 o_sp3 o_vis3 o_day3 o_z3 tb tl rtok rbg ren rvl shn shb shz o_fd isK) A r0) args s 0 0 A) (F0 m 0 ls []) := by
  have hx := C0.1
  have hb := C0.2.1
  have hown := C0.2.2.2.2.1
  have hts := C0.2.2.2.2.2.1
  have hX := C0.2.2.2.2.2.2.2.2
  intro hp3 st3 tr3 sp3 vis3 day3 z3 fd v1 H locs ls G hl hf
  unfold f4_road at hf
  refine lv_iload_n hx hb dX4_road_0 rfl (lv_at hl 1 rfl) ?_
  refine lv_iconst (v := (0 : Int32)) hx hb dX4_road_1 (by decide) ?_
  refine lv_bipush (v := (16 : Int32)) hx hb dX4_road_2 (by decide) ?_
  refine go_i C0 G (runS_of (n := 3) (As := [.int v1, .int (0 : Int32), .int (16 : Int32)]) (rest := []) C0 G (c4_within hX rfl) q204 q49 q202 q203 o4_within ⟨rfl, rfl⟩ ⟨Nat.le_of_ble_eq_true rfl, Nat.le_of_ble_eq_true rfl⟩ rfl hl.1 rfl (Nat.le_of_ble_eq_true rfl) dX4_road_4) (fun H locs G => ?_)
  refine lv_if_ne (tgt := 16) hx hb dX4_road_7 (by decide) (fun hc1 => ?_) (fun hc1 => ?_)
  · have hf := itn hc1 hf
    refine lv_aload_n hx hb dX4_road_16 rfl (lv_at hl 0 rfl) ?_
    refine lv_iconst (v := (1 : Int32)) hx hb dX4_road_17 (by decide) ?_
    refine lv_iload_n hx hb dX4_road_18 rfl (lv_at hl 1 rfl) ?_
    obtain ⟨r2, hp3_3, st3_4, tr3_5, sp3_6, vis3_7, day3_8, z3_9, fd_10, hc11, hf⟩ := ob9_s hf
    refine go_i C0 G (runV_of (n := 2) (q0 := 0) (As := [.int (1 : Int32), .int v1]) (rest := []) C0 G (c4_waitFor hX hc11) q391 q49 q388 q390 q2 o4_waitFor ⟨rfl, rfl⟩ ⟨Nat.le_of_ble_eq_true rfl, Nat.le_of_ble_eq_true rfl⟩ rfl rfl rfl hl.1 rfl (Nat.le_of_ble_eq_true rfl) dX4_road_19) (fun H locs G => ?_)
    obtain ⟨rfl, rfl, rfl, rfl, rfl, rfl, rfl, rfl, rfl⟩ := inj9 hf
    exact ret_i C0 G dX4_road_22
  · have hf := itp hc1 hf
    refine lv_aload_n hx hb dX4_road_10 rfl (lv_at hl 0 rfl) ?_
    refine lv_iconst (v := (0 : Int32)) hx hb dX4_road_11 (by decide) ?_
    obtain ⟨r12, fd_13, hc14, hf⟩ := ob2_s hf
    refine go_i C0 G (runV_of (n := 1) (q0 := 0) (As := [.int (0 : Int32)]) (rest := []) C0 G (c4_found hX hc14) q208 q49 q205 q207 q0 o4_found ⟨rfl, rfl⟩ ⟨Nat.le_of_ble_eq_true rfl, Nat.le_of_ble_eq_true rfl⟩ rfl rfl rfl hl.1 rfl (Nat.le_of_ble_eq_true rfl) dX4_road_12) (fun H locs G => ?_)
    obtain ⟨rfl, rfl, rfl, rfl, rfl, rfl, rfl, rfl, rfl⟩ := inj9 hf
    exact ret_i C0 G dX4_road_15
theorem o4_road : okName yX4_road 1 := ⟨by decide, by decide, by decide +kernel⟩
set_option maxHeartbeats 4000000 in
set_option maxRecDepth 100000 in
theorem c4_road {ta adK adV : Nat → Nat} (hX : XT (XS ta adK adV)) {l : Launch} {D : va_G} {cI cB cG cS : ClassId} {ad : Nat → Nat} {sz : Nat} {hp1 : Nat → Int32} {st1 : Nat → Int32} {tr1 : Nat → Nat → Int32} {sp1 : Nat → Int32} {vis1 : Int32} {day1 : Int32} {z1 : Int32} {hp2 : Nat → Int32} {st2 : Nat → Int32} {tr2 : Nat → Nat → Int32} {sp2 : Nat → Int32} {vis2 : Int32} {day2 : Int32} {z2 : Int32} {hp3 : Nat → Int32} {st3 : Nat → Int32} {tr3 : Nat → Nat → Int32} {sp3 : Nat → Int32} {vis3 : Int32} {day3 : Int32} {z3 : Int32} {tb : Nat → Int32} {tl : Int32} {rtok : Int32} {rbg : Int32} {ren : Int32} {rvl : Int32} {shn : Nat → Nat → Int32} {shb : Nat → Int32} {shz : Nat → Int32} {fd : Nat → Int32} {isK : Int32} {v1 : Int32} {r0 : Int32} {o_hp3 : Nat → Int32} {o_st3 : Nat → Int32} {o_tr3 : Nat → Nat → Int32} {o_sp3 : Nat → Int32} {o_vis3 : Int32} {o_day3 : Int32} {o_z3 : Int32} {o_fd : Nat → Int32} (hf : f4_road hp1 st1 tr1 sp1 vis1 day1 z1 hp3 st3 tr3 sp3 vis3 day3 z3 fd v1 = some (r0, o_hp3, o_st3, o_tr3, o_sp3, o_vis3, o_day3, o_z3, o_fd)) : Met l yX4_road (wU yX4_road cX4_road 2 (some .int)) ({ frames := 6, cells := 0, slots := 0, locals := 131 }) (va_Pc [.ref (ad 0), .int v1] (PreW (XS ta adK adV) D (tyC cI cB cG cS) (wS cI cB cG cS ad hp1 st1 tr1 sp1 vis1 day1 z1 hp2 st2 tr2 sp2 vis2 day2 z2 hp3 st3 tr3 sp3 vis3 day3 z3 tb tl rtok rbg ren rvl shn shb shz fd isK) sz)) (QcI D (tyC cI cB cG cS) (wS cI cB cG cS ad hp1 st1 tr1 sp1 vis1 day1 z1 hp2 st2 tr2 sp2 vis2 day2 z2 o_hp3 o_st3 o_tr3 o_sp3 o_vis3 o_day3 o_z3 tb tl rtok rbg ren rvl shn shb shz o_fd isK) (va_A (wS cI cB cG cS ad hp1 st1 tr1 sp1 vis1 day1 z1 hp2 st2 tr2 sp2 vis2 day2 z2 hp3 st3 tr3 sp3 vis3 day3 z3 tb tl rtok rbg ren rvl shn shb shz fd isK) sz) r0) 0 0 (va_A (wS cI cB cG cS ad hp1 st1 tr1 sp1 vis1 day1 z1 hp2 st2 tr2 sp2 vis2 day2 z2 hp3 st3 tr3 sp3 vis3 day3 z3 tb tl rtok rbg ren rvl shn shb shz fd isK) sz) := by
  refine startW hX (own := RX4) (by decide) rfl (Nat.le_of_ble_eq_true rfl) (fun p e s m args below meth c ls C0 G hl => ?_)
  exact b4_road_0 C0 G hl hf
/-! 4_both -/
theorem dX4_both_0 : decode cX4_both 0 = .ok (.aload_n 0, 1) := by decide +kernel
theorem dX4_both_1 : decode cX4_both 1 = .ok (.iload_n 1, 1) := by decide +kernel
theorem dX4_both_2 : decode cX4_both 2 = .ok (.invokevirtual 73, 3) := by decide +kernel
theorem dX4_both_5 : decode cX4_both 5 = .ok (.ifCond .eq 16, 3) := by decide +kernel
theorem dX4_both_8 : decode cX4_both 8 = .ok (.aload_n 0, 1) := by decide +kernel
theorem dX4_both_9 : decode cX4_both 9 = .ok (.iload_n 2, 1) := by decide +kernel
theorem dX4_both_10 : decode cX4_both 10 = .ok (.invokevirtual 73, 3) := by decide +kernel
theorem dX4_both_13 : decode cX4_both 13 = .ok (.ifCond .eq 8, 3) := by decide +kernel
theorem dX4_both_16 : decode cX4_both 16 = .ok (.iload_n 1, 1) := by decide +kernel
theorem dX4_both_17 : decode cX4_both 17 = .ok (.iload_n 2, 1) := by decide +kernel
theorem dX4_both_18 : decode cX4_both 18 = .ok (.if_icmp .ne 9, 3) := by decide +kernel
theorem dX4_both_21 : decode cX4_both 21 = .ok (.aload_n 0, 1) := by decide +kernel
theorem dX4_both_22 : decode cX4_both 22 = .ok (.iconst 0, 1) := by decide +kernel
theorem dX4_both_23 : decode cX4_both 23 = .ok (.invokevirtual 49, 3) := by decide +kernel
theorem dX4_both_26 : decode cX4_both 26 = .ok (.ireturn, 1) := by decide +kernel
theorem dX4_both_27 : decode cX4_both 27 = .ok (.aload_n 0, 1) := by decide +kernel
theorem dX4_both_28 : decode cX4_both 28 = .ok (.iconst 0, 1) := by decide +kernel
theorem dX4_both_29 : decode cX4_both 29 = .ok (.iconst 1, 1) := by decide +kernel
theorem dX4_both_30 : decode cX4_both 30 = .ok (.iload_n 1, 1) := by decide +kernel
theorem dX4_both_31 : decode cX4_both 31 = .ok (.ishl, 1) := by decide +kernel
theorem dX4_both_32 : decode cX4_both 32 = .ok (.iconst 1, 1) := by decide +kernel
theorem dX4_both_33 : decode cX4_both 33 = .ok (.iload_n 2, 1) := by decide +kernel
theorem dX4_both_34 : decode cX4_both 34 = .ok (.ishl, 1) := by decide +kernel
theorem dX4_both_35 : decode cX4_both 35 = .ok (.ior, 1) := by decide +kernel
theorem dX4_both_36 : decode cX4_both 36 = .ok (.invokevirtual 132, 3) := by decide +kernel
theorem dX4_both_39 : decode cX4_both 39 = .ok (.ireturn, 1) := by decide +kernel
def j4_both_21  (hp1 : Nat → Int32) (st1 : Nat → Int32) (tr1 : Nat → Nat → Int32) (sp1 : Nat → Int32) (vis1 : Int32) (day1 : Int32) (z1 : Int32) (hp3 : Nat → Int32) (st3 : Nat → Int32) (tr3 : Nat → Nat → Int32) (sp3 : Nat → Int32) (vis3 : Int32) (day3 : Int32) (z3 : Int32) (fd : Nat → Int32)  : Option (Int32 × (Nat → Int32) × (Nat → Int32) × (Nat → Nat → Int32) × (Nat → Int32) × Int32 × Int32 × Int32 × (Nat → Int32)) :=
  ob2 (f4_found fd (0 : Int32)) (fun r14 fd_15 =>
  some (r14, hp3, st3, tr3, sp3, vis3, day3, z3, fd_15))
def f4_both (hp1 : Nat → Int32) (st1 : Nat → Int32) (tr1 : Nat → Nat → Int32) (sp1 : Nat → Int32) (vis1 : Int32) (day1 : Int32) (z1 : Int32) (hp3 : Nat → Int32) (st3 : Nat → Int32) (tr3 : Nat → Nat → Int32) (sp3 : Nat → Int32) (vis3 : Int32) (day3 : Int32) (z3 : Int32) (fd : Nat → Int32) (v1 : Int32) (v2 : Int32) : Option (Int32 × (Nat → Int32) × (Nat → Int32) × (Nat → Nat → Int32) × (Nat → Int32) × Int32 × Int32 × Int32 × (Nat → Int32)) :=
  if (f4_isVisitor vis1 v1) = (0 : Int32) then (
    j4_both_21 hp1 st1 tr1 sp1 vis1 day1 z1 hp3 st3 tr3 sp3 vis3 day3 z3 fd)
  else (
    if (f4_isVisitor vis1 v2) = (0 : Int32) then (
      j4_both_21 hp1 st1 tr1 sp1 vis1 day1 z1 hp3 st3 tr3 sp3 vis3 day3 z3 fd)
    else (
      if v1 = v2 then (
        j4_both_21 hp1 st1 tr1 sp1 vis1 day1 z1 hp3 st3 tr3 sp3 vis3 day3 z3 fd)
      else (
        ob9 (f4_waitFor hp1 st1 tr1 sp1 vis1 day1 z1 hp3 st3 tr3 sp3 vis3 day3 z3 fd (0 : Int32) (((1 : Int32) <<< (v1 &&& 31)) ||| ((1 : Int32) <<< (v2 &&& 31)))) (fun r4 hp3_5 st3_6 tr3_7 sp3_8 vis3_9 day3_10 z3_11 fd_12 =>
        some (r4, hp3_5, st3_6, tr3_7, sp3_8, vis3_9, day3_10, z3_11, fd_12)))))
set_option maxHeartbeats 4000000 in
set_option maxRecDepth 100000 in
theorem b4_both_21 {ta adK adV : Nat → Nat} {p : Program} {l : Launch} {e : Env} {s : State} {m : MethodId} {args : Array Value} {below : List Frame} {meth : Method} {c : Code} {D : va_G} {cI cB cG cS : ClassId} {ad : Nat → Nat} {A : Nat → Prop} {hp1 : Nat → Int32} {st1 : Nat → Int32} {tr1 : Nat → Nat → Int32} {sp1 : Nat → Int32} {vis1 : Int32} {day1 : Int32} {z1 : Int32} {hp2 : Nat → Int32} {st2 : Nat → Int32} {tr2 : Nat → Nat → Int32} {sp2 : Nat → Int32} {vis2 : Int32} {day2 : Int32} {z2 : Int32} {tb : Nat → Int32} {tl : Int32} {rtok : Int32} {rbg : Int32} {ren : Int32} {rvl : Int32} {shn : Nat → Nat → Int32} {shb : Nat → Int32} {shz : Nat → Int32} {isK : Int32} {r0 : Int32} {o_hp3 : Nat → Int32} {o_st3 : Nat → Int32} {o_tr3 : Nat → Nat → Int32} {o_sp3 : Nat → Int32} {o_vis3 : Int32} {o_day3 : Int32} {o_z3 : Int32} {o_fd : Nat → Int32} (C0 : CX (XS ta adK adV) p s m args meth c cX4_both 3 (some .int) RX4 A) : ∀ {hp3 : Nat → Int32} {st3 : Nat → Int32} {tr3 : Nat → Nat → Int32} {sp3 : Nat → Int32} {vis3 : Int32} {day3 : Int32} {z3 : Int32} {fd : Nat → Int32} {H : Heap} {locs : List Loc} {ls : Array Slot}, GX (XS ta adK adV) D (tyC cI cB cG cS) A s (wS cI cB cG cS ad hp1 st1 tr1 sp1 vis1 day1 z1 hp2 st2 tr2 sp2 vis2 day2 z2 hp3 st3 tr3 sp3 vis3 day3 z3 tb tl rtok rbg ren rvl shn shb shz fd isK) H locs → lv_has ls 3 [(0, .ref (ad 0))] → j4_both_21  hp1 st1 tr1 sp1 vis1 day1 z1 hp3 st3 tr3 sp3 vis3 day3 z3 fd = some (r0, o_hp3, o_st3, o_tr3, o_sp3, o_vis3, o_day3, o_z3, o_fd) → W p l e ({ frames := 6, cells := 0, slots := 0, locals := 131 }) s m args below meth c H locs 0 0 (MQ below (QcI D (tyC cI cB cG cS) (wS cI cB cG cS ad hp1 st1 tr1 sp1 vis1 day1 z1 hp2 st2 tr2 sp2 vis2 day2 z2 o_hp3 o_st3 o_tr3 o_sp3 o_vis3 o_day3 o_z3 tb tl rtok rbg ren rvl shn shb shz o_fd isK) A r0) args s 0 0 A) (F0 m 21 ls []) := by
  have hx := C0.1
  have hb := C0.2.1
  have hown := C0.2.2.2.2.1
  have hts := C0.2.2.2.2.2.1
  have hX := C0.2.2.2.2.2.2.2.2
  intro hp3 st3 tr3 sp3 vis3 day3 z3 fd H locs ls G hl hf
  unfold j4_both_21 at hf
  refine lv_aload_n hx hb dX4_both_21 rfl (lv_at hl 0 rfl) ?_
  refine lv_iconst (v := (0 : Int32)) hx hb dX4_both_22 (by decide) ?_
  obtain ⟨r14, fd_15, hc16, hf⟩ := ob2_s hf
  refine go_i C0 G (runV_of (n := 1) (q0 := 0) (As := [.int (0 : Int32)]) (rest := []) C0 G (c4_found hX hc16) q208 q49 q205 q207 q0 o4_found ⟨rfl, rfl⟩ ⟨Nat.le_of_ble_eq_true rfl, Nat.le_of_ble_eq_true rfl⟩ rfl rfl rfl hl.1 rfl (Nat.le_of_ble_eq_true rfl) dX4_both_23) (fun H locs G => ?_)
  obtain ⟨rfl, rfl, rfl, rfl, rfl, rfl, rfl, rfl, rfl⟩ := inj9 hf
  exact ret_i C0 G dX4_both_26
set_option maxHeartbeats 4000000 in
set_option maxRecDepth 100000 in
theorem b4_both_0 {ta adK adV : Nat → Nat} {p : Program} {l : Launch} {e : Env} {s : State} {m : MethodId} {args : Array Value} {below : List Frame} {meth : Method} {c : Code} {D : va_G} {cI cB cG cS : ClassId} {ad : Nat → Nat} {A : Nat → Prop} {hp1 : Nat → Int32} {st1 : Nat → Int32} {tr1 : Nat → Nat → Int32} {sp1 : Nat → Int32} {vis1 : Int32} {day1 : Int32} {z1 : Int32} {hp2 : Nat → Int32} {st2 : Nat → Int32} {tr2 : Nat → Nat → Int32} {sp2 : Nat → Int32} {vis2 : Int32} {day2 : Int32} {z2 : Int32} {tb : Nat → Int32} {tl : Int32} {rtok : Int32} {rbg : Int32} {ren : Int32} {rvl : Int32} {shn : Nat → Nat → Int32} {shb : Nat → Int32} {shz : Nat → Int32} {isK : Int32} {r0 : Int32} {o_hp3 : Nat → Int32} {o_st3 : Nat → Int32} {o_tr3 : Nat → Nat → Int32} {o_sp3 : Nat → Int32} {o_vis3 : Int32} {o_day3 : Int32} {o_z3 : Int32} {o_fd : Nat → Int32} (C0 : CX (XS ta adK adV) p s m args meth c cX4_both 3 (some .int) RX4 A) : ∀ {hp3 : Nat → Int32} {st3 : Nat → Int32} {tr3 : Nat → Nat → Int32} {sp3 : Nat → Int32} {vis3 : Int32} {day3 : Int32} {z3 : Int32} {fd : Nat → Int32} {v1 : Int32} {v2 : Int32} {H : Heap} {locs : List Loc} {ls : Array Slot}, GX (XS ta adK adV) D (tyC cI cB cG cS) A s (wS cI cB cG cS ad hp1 st1 tr1 sp1 vis1 day1 z1 hp2 st2 tr2 sp2 vis2 day2 z2 hp3 st3 tr3 sp3 vis3 day3 z3 tb tl rtok rbg ren rvl shn shb shz fd isK) H locs → lv_has ls 3 [(0, .ref (ad 0)), (1, .int v1), (2, .int v2)] → f4_both hp1 st1 tr1 sp1 vis1 day1 z1 hp3 st3 tr3 sp3 vis3 day3 z3 fd v1 v2 = some (r0, o_hp3, o_st3, o_tr3, o_sp3, o_vis3, o_day3, o_z3, o_fd) → W p l e ({ frames := 6, cells := 0, slots := 0, locals := 131 }) s m args below meth c H locs 0 0 (MQ below (QcI D (tyC cI cB cG cS) (wS cI cB cG cS ad hp1 st1 tr1 sp1 vis1 day1 z1 hp2 st2 tr2 sp2 vis2 day2 z2 o_hp3 o_st3 o_tr3 o_sp3 o_vis3 o_day3 o_z3 tb tl rtok rbg ren rvl shn shb shz o_fd isK) A r0) args s 0 0 A) (F0 m 0 ls []) := by
  have hx := C0.1
  have hb := C0.2.1
  have hown := C0.2.2.2.2.1
  have hts := C0.2.2.2.2.2.1
  have hX := C0.2.2.2.2.2.2.2.2
  intro hp3 st3 tr3 sp3 vis3 day3 z3 fd v1 v2 H locs ls G hl hf
  unfold f4_both at hf
  refine lv_aload_n hx hb dX4_both_0 rfl (lv_at hl 0 rfl) ?_
  refine lv_iload_n hx hb dX4_both_1 rfl (lv_at hl 1 rfl) ?_
  refine go_i C0 G (runV_of (n := 1) (q0 := 0) (As := [.int v1]) (rest := []) C0 G (c4_isVisitor hX rfl) q261 q49 q258 q260 q1 o4_isVisitor ⟨rfl, rfl⟩ ⟨Nat.le_of_ble_eq_true rfl, Nat.le_of_ble_eq_true rfl⟩ rfl rfl rfl hl.1 rfl (Nat.le_of_ble_eq_true rfl) dX4_both_2) (fun H locs G => ?_)
  refine lv_if_eq (tgt := 21) hx hb dX4_both_5 (by decide) (fun hc1 => ?_) (fun hc1 => ?_)
  · have hf := itp hc1 hf
    exact b4_both_21 C0  G (lv_sub hl [0] rfl) hf
  · have hf := itn hc1 hf
    refine lv_aload_n hx hb dX4_both_8 rfl (lv_at hl 0 rfl) ?_
    refine lv_iload_n hx hb dX4_both_9 rfl (lv_at hl 2 rfl) ?_
    refine go_i C0 G (runV_of (n := 1) (q0 := 0) (As := [.int v2]) (rest := []) C0 G (c4_isVisitor hX rfl) q261 q49 q258 q260 q1 o4_isVisitor ⟨rfl, rfl⟩ ⟨Nat.le_of_ble_eq_true rfl, Nat.le_of_ble_eq_true rfl⟩ rfl rfl rfl hl.1 rfl (Nat.le_of_ble_eq_true rfl) dX4_both_10) (fun H locs G => ?_)
    refine lv_if_eq (tgt := 21) hx hb dX4_both_13 (by decide) (fun hc2 => ?_) (fun hc2 => ?_)
    · have hf := itp hc2 hf
      exact b4_both_21 C0  G (lv_sub hl [0] rfl) hf
    · have hf := itn hc2 hf
      refine lv_iload_n hx hb dX4_both_16 rfl (lv_at hl 1 rfl) ?_
      refine lv_iload_n hx hb dX4_both_17 rfl (lv_at hl 2 rfl) ?_
      refine lv_icmp_ne (tgt := 27) hx hb dX4_both_18 (by decide) (fun hc3 => ?_) (fun hc3 => ?_)
      · have hf := itn hc3 hf
        refine lv_aload_n hx hb dX4_both_27 rfl (lv_at hl 0 rfl) ?_
        refine lv_iconst (v := (0 : Int32)) hx hb dX4_both_28 (by decide) ?_
        refine lv_iconst (v := (1 : Int32)) hx hb dX4_both_29 (by decide) ?_
        refine lv_iload_n hx hb dX4_both_30 rfl (lv_at hl 1 rfl) ?_
        refine lv_ishl hx hb dX4_both_31 ?_
        refine lv_iconst (v := (1 : Int32)) hx hb dX4_both_32 (by decide) ?_
        refine lv_iload_n hx hb dX4_both_33 rfl (lv_at hl 2 rfl) ?_
        refine lv_ishl hx hb dX4_both_34 ?_
        refine lv_ior hx hb dX4_both_35 ?_
        obtain ⟨r4, hp3_5, st3_6, tr3_7, sp3_8, vis3_9, day3_10, z3_11, fd_12, hc13, hf⟩ := ob9_s hf
        refine go_i C0 G (runV_of (n := 2) (q0 := 0) (As := [.int (0 : Int32), .int (((1 : Int32) <<< (v1 &&& 31)) ||| ((1 : Int32) <<< (v2 &&& 31)))]) (rest := []) C0 G (c4_waitFor hX hc13) q391 q49 q388 q390 q2 o4_waitFor ⟨rfl, rfl⟩ ⟨Nat.le_of_ble_eq_true rfl, Nat.le_of_ble_eq_true rfl⟩ rfl rfl rfl hl.1 rfl (Nat.le_of_ble_eq_true rfl) dX4_both_36) (fun H locs G => ?_)
        obtain ⟨rfl, rfl, rfl, rfl, rfl, rfl, rfl, rfl, rfl⟩ := inj9 hf
        exact ret_i C0 G dX4_both_39
      · have hf := itp hc3 hf
        exact b4_both_21 C0  G (lv_sub hl [0] rfl) hf
theorem o4_both : okName yX4_both 2 := ⟨by decide, by decide, by decide +kernel⟩
set_option maxHeartbeats 4000000 in
set_option maxRecDepth 100000 in
theorem c4_both {ta adK adV : Nat → Nat} (hX : XT (XS ta adK adV)) {l : Launch} {D : va_G} {cI cB cG cS : ClassId} {ad : Nat → Nat} {sz : Nat} {hp1 : Nat → Int32} {st1 : Nat → Int32} {tr1 : Nat → Nat → Int32} {sp1 : Nat → Int32} {vis1 : Int32} {day1 : Int32} {z1 : Int32} {hp2 : Nat → Int32} {st2 : Nat → Int32} {tr2 : Nat → Nat → Int32} {sp2 : Nat → Int32} {vis2 : Int32} {day2 : Int32} {z2 : Int32} {hp3 : Nat → Int32} {st3 : Nat → Int32} {tr3 : Nat → Nat → Int32} {sp3 : Nat → Int32} {vis3 : Int32} {day3 : Int32} {z3 : Int32} {tb : Nat → Int32} {tl : Int32} {rtok : Int32} {rbg : Int32} {ren : Int32} {rvl : Int32} {shn : Nat → Nat → Int32} {shb : Nat → Int32} {shz : Nat → Int32} {fd : Nat → Int32} {isK : Int32} {v1 : Int32} {v2 : Int32} {r0 : Int32} {o_hp3 : Nat → Int32} {o_st3 : Nat → Int32} {o_tr3 : Nat → Nat → Int32} {o_sp3 : Nat → Int32} {o_vis3 : Int32} {o_day3 : Int32} {o_z3 : Int32} {o_fd : Nat → Int32} (hf : f4_both hp1 st1 tr1 sp1 vis1 day1 z1 hp3 st3 tr3 sp3 vis3 day3 z3 fd v1 v2 = some (r0, o_hp3, o_st3, o_tr3, o_sp3, o_vis3, o_day3, o_z3, o_fd)) : Met l yX4_both (wU yX4_both cX4_both 3 (some .int)) ({ frames := 6, cells := 0, slots := 0, locals := 131 }) (va_Pc [.ref (ad 0), .int v1, .int v2] (PreW (XS ta adK adV) D (tyC cI cB cG cS) (wS cI cB cG cS ad hp1 st1 tr1 sp1 vis1 day1 z1 hp2 st2 tr2 sp2 vis2 day2 z2 hp3 st3 tr3 sp3 vis3 day3 z3 tb tl rtok rbg ren rvl shn shb shz fd isK) sz)) (QcI D (tyC cI cB cG cS) (wS cI cB cG cS ad hp1 st1 tr1 sp1 vis1 day1 z1 hp2 st2 tr2 sp2 vis2 day2 z2 o_hp3 o_st3 o_tr3 o_sp3 o_vis3 o_day3 o_z3 tb tl rtok rbg ren rvl shn shb shz o_fd isK) (va_A (wS cI cB cG cS ad hp1 st1 tr1 sp1 vis1 day1 z1 hp2 st2 tr2 sp2 vis2 day2 z2 hp3 st3 tr3 sp3 vis3 day3 z3 tb tl rtok rbg ren rvl shn shb shz fd isK) sz) r0) 0 0 (va_A (wS cI cB cG cS ad hp1 st1 tr1 sp1 vis1 day1 z1 hp2 st2 tr2 sp2 vis2 day2 z2 hp3 st3 tr3 sp3 vis3 day3 z3 tb tl rtok rbg ren rvl shn shb shz fd isK) sz) := by
  refine startW hX (own := RX4) (by decide) rfl (Nat.le_of_ble_eq_true rfl) (fun p e s m args below meth c ls C0 G hl => ?_)
  exact b4_both_0 C0 G hl hf
/-! 4_empty -/
theorem dX4_empty_0 : decode cX4_empty 0 = .ok (.aload_n 0, 1) := by decide +kernel
theorem dX4_empty_1 : decode cX4_empty 1 = .ok (.iconst 2, 1) := by decide +kernel
theorem dX4_empty_2 : decode cX4_empty 2 = .ok (.iconst 0, 1) := by decide +kernel
theorem dX4_empty_3 : decode cX4_empty 3 = .ok (.invokevirtual 132, 3) := by decide +kernel
theorem dX4_empty_6 : decode cX4_empty 6 = .ok (.ireturn, 1) := by decide +kernel
def f4_empty (hp1 : Nat → Int32) (st1 : Nat → Int32) (tr1 : Nat → Nat → Int32) (sp1 : Nat → Int32) (vis1 : Int32) (day1 : Int32) (z1 : Int32) (hp3 : Nat → Int32) (st3 : Nat → Int32) (tr3 : Nat → Nat → Int32) (sp3 : Nat → Int32) (vis3 : Int32) (day3 : Int32) (z3 : Int32) (fd : Nat → Int32)  : Option (Int32 × (Nat → Int32) × (Nat → Int32) × (Nat → Nat → Int32) × (Nat → Int32) × Int32 × Int32 × Int32 × (Nat → Int32)) :=
  ob9 (f4_waitFor hp1 st1 tr1 sp1 vis1 day1 z1 hp3 st3 tr3 sp3 vis3 day3 z3 fd (2 : Int32) (0 : Int32)) (fun r1 hp3_2 st3_3 tr3_4 sp3_5 vis3_6 day3_7 z3_8 fd_9 =>
  some (r1, hp3_2, st3_3, tr3_4, sp3_5, vis3_6, day3_7, z3_8, fd_9))
set_option maxHeartbeats 4000000 in
set_option maxRecDepth 100000 in
theorem b4_empty_0 {ta adK adV : Nat → Nat} {p : Program} {l : Launch} {e : Env} {s : State} {m : MethodId} {args : Array Value} {below : List Frame} {meth : Method} {c : Code} {D : va_G} {cI cB cG cS : ClassId} {ad : Nat → Nat} {A : Nat → Prop} {hp1 : Nat → Int32} {st1 : Nat → Int32} {tr1 : Nat → Nat → Int32} {sp1 : Nat → Int32} {vis1 : Int32} {day1 : Int32} {z1 : Int32} {hp2 : Nat → Int32} {st2 : Nat → Int32} {tr2 : Nat → Nat → Int32} {sp2 : Nat → Int32} {vis2 : Int32} {day2 : Int32} {z2 : Int32} {tb : Nat → Int32} {tl : Int32} {rtok : Int32} {rbg : Int32} {ren : Int32} {rvl : Int32} {shn : Nat → Nat → Int32} {shb : Nat → Int32} {shz : Nat → Int32} {isK : Int32} {r0 : Int32} {o_hp3 : Nat → Int32} {o_st3 : Nat → Int32} {o_tr3 : Nat → Nat → Int32} {o_sp3 : Nat → Int32} {o_vis3 : Int32} {o_day3 : Int32} {o_z3 : Int32} {o_fd : Nat → Int32} (C0 : CX (XS ta adK adV) p s m args meth c cX4_empty 1 (some .int) RX4 A) : ∀ {hp3 : Nat → Int32} {st3 : Nat → Int32} {tr3 : Nat → Nat → Int32} {sp3 : Nat → Int32} {vis3 : Int32} {day3 : Int32} {z3 : Int32} {fd : Nat → Int32} {H : Heap} {locs : List Loc} {ls : Array Slot}, GX (XS ta adK adV) D (tyC cI cB cG cS) A s (wS cI cB cG cS ad hp1 st1 tr1 sp1 vis1 day1 z1 hp2 st2 tr2 sp2 vis2 day2 z2 hp3 st3 tr3 sp3 vis3 day3 z3 tb tl rtok rbg ren rvl shn shb shz fd isK) H locs → lv_has ls 1 [(0, .ref (ad 0))] → f4_empty hp1 st1 tr1 sp1 vis1 day1 z1 hp3 st3 tr3 sp3 vis3 day3 z3 fd = some (r0, o_hp3, o_st3, o_tr3, o_sp3, o_vis3, o_day3, o_z3, o_fd) → W p l e ({ frames := 6, cells := 0, slots := 0, locals := 131 }) s m args below meth c H locs 0 0 (MQ below (QcI D (tyC cI cB cG cS) (wS cI cB cG cS ad hp1 st1 tr1 sp1 vis1 day1 z1 hp2 st2 tr2 sp2 vis2 day2 z2 o_hp3 o_st3 o_tr3 o_sp3 o_vis3 o_day3 o_z3 tb tl rtok rbg ren rvl shn shb shz o_fd isK) A r0) args s 0 0 A) (F0 m 0 ls []) := by
  have hx := C0.1
  have hb := C0.2.1
  have hown := C0.2.2.2.2.1
  have hts := C0.2.2.2.2.2.1
  have hX := C0.2.2.2.2.2.2.2.2
  intro hp3 st3 tr3 sp3 vis3 day3 z3 fd H locs ls G hl hf
  unfold f4_empty at hf
  refine lv_aload_n hx hb dX4_empty_0 rfl (lv_at hl 0 rfl) ?_
  refine lv_iconst (v := (2 : Int32)) hx hb dX4_empty_1 (by decide) ?_
  refine lv_iconst (v := (0 : Int32)) hx hb dX4_empty_2 (by decide) ?_
  obtain ⟨r1, hp3_2, st3_3, tr3_4, sp3_5, vis3_6, day3_7, z3_8, fd_9, hc10, hf⟩ := ob9_s hf
  refine go_i C0 G (runV_of (n := 2) (q0 := 0) (As := [.int (2 : Int32), .int (0 : Int32)]) (rest := []) C0 G (c4_waitFor hX hc10) q391 q49 q388 q390 q2 o4_waitFor ⟨rfl, rfl⟩ ⟨Nat.le_of_ble_eq_true rfl, Nat.le_of_ble_eq_true rfl⟩ rfl rfl rfl hl.1 rfl (Nat.le_of_ble_eq_true rfl) dX4_empty_3) (fun H locs G => ?_)
  obtain ⟨rfl, rfl, rfl, rfl, rfl, rfl, rfl, rfl, rfl⟩ := inj9 hf
  exact ret_i C0 G dX4_empty_6
theorem o4_empty : okName yX4_empty 0 := ⟨by decide, by decide, by decide +kernel⟩
set_option maxHeartbeats 4000000 in
set_option maxRecDepth 100000 in
theorem c4_empty {ta adK adV : Nat → Nat} (hX : XT (XS ta adK adV)) {l : Launch} {D : va_G} {cI cB cG cS : ClassId} {ad : Nat → Nat} {sz : Nat} {hp1 : Nat → Int32} {st1 : Nat → Int32} {tr1 : Nat → Nat → Int32} {sp1 : Nat → Int32} {vis1 : Int32} {day1 : Int32} {z1 : Int32} {hp2 : Nat → Int32} {st2 : Nat → Int32} {tr2 : Nat → Nat → Int32} {sp2 : Nat → Int32} {vis2 : Int32} {day2 : Int32} {z2 : Int32} {hp3 : Nat → Int32} {st3 : Nat → Int32} {tr3 : Nat → Nat → Int32} {sp3 : Nat → Int32} {vis3 : Int32} {day3 : Int32} {z3 : Int32} {tb : Nat → Int32} {tl : Int32} {rtok : Int32} {rbg : Int32} {ren : Int32} {rvl : Int32} {shn : Nat → Nat → Int32} {shb : Nat → Int32} {shz : Nat → Int32} {fd : Nat → Int32} {isK : Int32}  {r0 : Int32} {o_hp3 : Nat → Int32} {o_st3 : Nat → Int32} {o_tr3 : Nat → Nat → Int32} {o_sp3 : Nat → Int32} {o_vis3 : Int32} {o_day3 : Int32} {o_z3 : Int32} {o_fd : Nat → Int32} (hf : f4_empty hp1 st1 tr1 sp1 vis1 day1 z1 hp3 st3 tr3 sp3 vis3 day3 z3 fd = some (r0, o_hp3, o_st3, o_tr3, o_sp3, o_vis3, o_day3, o_z3, o_fd)) : Met l yX4_empty (wU yX4_empty cX4_empty 1 (some .int)) ({ frames := 6, cells := 0, slots := 0, locals := 131 }) (va_Pc [.ref (ad 0)] (PreW (XS ta adK adV) D (tyC cI cB cG cS) (wS cI cB cG cS ad hp1 st1 tr1 sp1 vis1 day1 z1 hp2 st2 tr2 sp2 vis2 day2 z2 hp3 st3 tr3 sp3 vis3 day3 z3 tb tl rtok rbg ren rvl shn shb shz fd isK) sz)) (QcI D (tyC cI cB cG cS) (wS cI cB cG cS ad hp1 st1 tr1 sp1 vis1 day1 z1 hp2 st2 tr2 sp2 vis2 day2 z2 o_hp3 o_st3 o_tr3 o_sp3 o_vis3 o_day3 o_z3 tb tl rtok rbg ren rvl shn shb shz o_fd isK) (va_A (wS cI cB cG cS ad hp1 st1 tr1 sp1 vis1 day1 z1 hp2 st2 tr2 sp2 vis2 day2 z2 hp3 st3 tr3 sp3 vis3 day3 z3 tb tl rtok rbg ren rvl shn shb shz fd isK) sz) r0) 0 0 (va_A (wS cI cB cG cS ad hp1 st1 tr1 sp1 vis1 day1 z1 hp2 st2 tr2 sp2 vis2 day2 z2 hp3 st3 tr3 sp3 vis3 day3 z3 tb tl rtok rbg ren rvl shn shb shz fd isK) sz) := by
  refine startW hX (own := RX4) (by decide) rfl (Nat.le_of_ble_eq_true rfl) (fun p e s m args below meth c ls C0 G hl => ?_)
  exact b4_empty_0 C0 G hl hf
/-! 4_tryTrait -/
theorem dX4_tryTrait_0 : decode cX4_tryTrait 0 = .ok (.aload_n 0, 1) := by decide +kernel
theorem dX4_tryTrait_1 : decode cX4_tryTrait 1 = .ok (.getfield 19, 3) := by decide +kernel
theorem dX4_tryTrait_4 : decode cX4_tryTrait 4 = .ok (.aload_n 0, 1) := by decide +kernel
theorem dX4_tryTrait_5 : decode cX4_tryTrait 5 = .ok (.getfield 10, 3) := by decide +kernel
theorem dX4_tryTrait_8 : decode cX4_tryTrait 8 = .ok (.invokevirtual 128, 3) := by decide +kernel
theorem dX4_tryTrait_11 : decode cX4_tryTrait 11 = .ok (.aload_n 0, 1) := by decide +kernel
theorem dX4_tryTrait_12 : decode cX4_tryTrait 12 = .ok (.getfield 19, 3) := by decide +kernel
theorem dX4_tryTrait_15 : decode cX4_tryTrait 15 = .ok (.getfield 89, 3) := by decide +kernel
theorem dX4_tryTrait_18 : decode cX4_tryTrait 18 = .ok (.iload_n 2, 1) := by decide +kernel
theorem dX4_tryTrait_19 : decode cX4_tryTrait 19 = .ok (.aaload, 1) := by decide +kernel
theorem dX4_tryTrait_20 : decode cX4_tryTrait 20 = .ok (.iload_n 1, 1) := by decide +kernel
theorem dX4_tryTrait_21 : decode cX4_tryTrait 21 = .ok (.iload_n 3, 1) := by decide +kernel
theorem dX4_tryTrait_22 : decode cX4_tryTrait 22 = .ok (.iastore, 1) := by decide +kernel
theorem dX4_tryTrait_23 : decode cX4_tryTrait 23 = .ok (.aload_n 0, 1) := by decide +kernel
theorem dX4_tryTrait_24 : decode cX4_tryTrait 24 = .ok (.getfield 19, 3) := by decide +kernel
theorem dX4_tryTrait_27 : decode cX4_tryTrait 27 = .ok (.iload 4, 2) := by decide +kernel
theorem dX4_tryTrait_29 : decode cX4_tryTrait 29 = .ok (.iconst 0, 1) := by decide +kernel
theorem dX4_tryTrait_30 : decode cX4_tryTrait 30 = .ok (.invokevirtual 105, 3) := by decide +kernel
theorem dX4_tryTrait_33 : decode cX4_tryTrait 33 = .ok (.return_, 1) := by decide +kernel
def f4_tryTrait (hp1 : Nat → Int32) (st1 : Nat → Int32) (tr1 : Nat → Nat → Int32) (sp1 : Nat → Int32) (vis1 : Int32) (day1 : Int32) (z1 : Int32) (hp3 : Nat → Int32) (st3 : Nat → Int32) (tr3 : Nat → Nat → Int32) (sp3 : Nat → Int32) (vis3 : Int32) (day3 : Int32) (z3 : Int32) (v1 : Int32) (v2 : Int32) (v3 : Int32) (v4 : Int32) : Option ((Nat → Int32) × (Nat → Int32) × (Nat → Nat → Int32) × (Nat → Int32) × Int32 × Int32 × Int32) :=
  ob7 (f0_become hp3 st3 tr3 sp3 vis3 day3 z3 hp1 st1 tr1 sp1 vis1 day1 z1) (fun hp3_1 st3_2 tr3_3 sp3_4 vis3_5 day3_6 z3_7 =>
  gd (inb v2 7) (
  gd (inb v1 8) (
  ob4 (f0_passDays hp3_1 st3_2 (upd2 tr3_3 v2.toNatClampNeg v1.toNatClampNeg v3) vis3_5 day3_6 v4 (0 : Int32)) (fun hp3_11 st3_12 tr3_13 day3_14 =>
  some (hp3_11, st3_12, tr3_13, sp3_4, vis3_5, day3_14, z3_7)))))
set_option maxHeartbeats 4000000 in
set_option maxRecDepth 100000 in
theorem b4_tryTrait_0 {ta adK adV : Nat → Nat} {p : Program} {l : Launch} {e : Env} {s : State} {m : MethodId} {args : Array Value} {below : List Frame} {meth : Method} {c : Code} {D : va_G} {cI cB cG cS : ClassId} {ad : Nat → Nat} {A : Nat → Prop} {hp1 : Nat → Int32} {st1 : Nat → Int32} {tr1 : Nat → Nat → Int32} {sp1 : Nat → Int32} {vis1 : Int32} {day1 : Int32} {z1 : Int32} {hp2 : Nat → Int32} {st2 : Nat → Int32} {tr2 : Nat → Nat → Int32} {sp2 : Nat → Int32} {vis2 : Int32} {day2 : Int32} {z2 : Int32} {tb : Nat → Int32} {tl : Int32} {rtok : Int32} {rbg : Int32} {ren : Int32} {rvl : Int32} {shn : Nat → Nat → Int32} {shb : Nat → Int32} {shz : Nat → Int32} {fd : Nat → Int32} {isK : Int32} {o_hp3 : Nat → Int32} {o_st3 : Nat → Int32} {o_tr3 : Nat → Nat → Int32} {o_sp3 : Nat → Int32} {o_vis3 : Int32} {o_day3 : Int32} {o_z3 : Int32} (C0 : CX (XS ta adK adV) p s m args meth c cX4_tryTrait 5 none RX4 A) : ∀ {hp3 : Nat → Int32} {st3 : Nat → Int32} {tr3 : Nat → Nat → Int32} {sp3 : Nat → Int32} {vis3 : Int32} {day3 : Int32} {z3 : Int32} {v1 : Int32} {v2 : Int32} {v3 : Int32} {v4 : Int32} {H : Heap} {locs : List Loc} {ls : Array Slot}, GX (XS ta adK adV) D (tyC cI cB cG cS) A s (wS cI cB cG cS ad hp1 st1 tr1 sp1 vis1 day1 z1 hp2 st2 tr2 sp2 vis2 day2 z2 hp3 st3 tr3 sp3 vis3 day3 z3 tb tl rtok rbg ren rvl shn shb shz fd isK) H locs → lv_has ls 5 [(0, .ref (ad 0)), (1, .int v1), (2, .int v2), (3, .int v3), (4, .int v4)] → f4_tryTrait hp1 st1 tr1 sp1 vis1 day1 z1 hp3 st3 tr3 sp3 vis3 day3 z3 v1 v2 v3 v4 = some (o_hp3, o_st3, o_tr3, o_sp3, o_vis3, o_day3, o_z3) → W p l e ({ frames := 5, cells := 0, slots := 0, locals := 108 }) s m args below meth c H locs 0 0 (MQ below (QcV D (tyC cI cB cG cS) (wS cI cB cG cS ad hp1 st1 tr1 sp1 vis1 day1 z1 hp2 st2 tr2 sp2 vis2 day2 z2 o_hp3 o_st3 o_tr3 o_sp3 o_vis3 o_day3 o_z3 tb tl rtok rbg ren rvl shn shb shz fd isK) A) args s 0 0 A) (F0 m 0 ls []) := by
  have hx := C0.1
  have hb := C0.2.1
  have hown := C0.2.2.2.2.1
  have hts := C0.2.2.2.2.2.1
  have hX := C0.2.2.2.2.2.2.2.2
  intro hp3 st3 tr3 sp3 vis3 day3 z3 v1 v2 v3 v4 H locs ls G hl hf
  unfold f4_tryTrait at hf
  refine lv_aload_n hx hb dX4_tryTrait_0 rfl (lv_at hl 0 rfl) ?_
  refine s_get (C := RX4) (T := TX4) C0 G i_X4 0 2 rfl rfl (by decide) q175 rfl dX4_tryTrait_1 ?_
  refine lv_aload_n hx hb dX4_tryTrait_4 rfl (lv_at hl 0 rfl) ?_
  refine s_get (C := RX4) (T := TX4) C0 G i_X4 0 0 rfl rfl (by decide) q173 rfl dX4_tryTrait_5 ?_
  obtain ⟨hp3_1, st3_2, tr3_3, sp3_4, vis3_5, day3_6, z3_7, hc8, hf⟩ := ob7_s hf
  refine go_v_sub C0 G s_pp31 o_pp31 (runV_sub (n := 1) (q0 := 25) (As := [.ref (ad 1)]) (rest := []) C0 G s_pp31 (c0_become hX (ad := fun k => ad (25 + k)) (ae := fun k => ad (1 + k))  hc8) q376 q50 q373 q374 q375 o0_become ⟨rfl, rfl⟩ ⟨Nat.le_of_ble_eq_true rfl, Nat.le_of_ble_eq_true rfl⟩ rfl rfl rfl hl.1 rfl (Nat.le_of_ble_eq_true rfl) dX4_tryTrait_8) (fun H locs G => ?_)
  refine lv_aload_n hx hb dX4_tryTrait_11 rfl (lv_at hl 0 rfl) ?_
  refine s_get (C := RX4) (T := TX4) C0 G i_X4 0 2 rfl rfl (by decide) q175 rfl dX4_tryTrait_12 ?_
  refine s_get (C := RX0) (T := TX0) C0 G i_X0 25 2 rfl rfl (by decide) q88 rfl dX4_tryTrait_15 ?_
  refine lv_iload_n hx hb dX4_tryTrait_18 rfl (lv_at hl 2 rfl) ?_
  obtain ⟨hi9, hf⟩ := gd_s hf
  refine s_aldg (k := v2.toNatClampNeg) (b := ad (25 + (4 + v2.toNatClampNeg))) C0 G 28 2 rfl rfl (vin hi9) rfl rfl dX4_tryTrait_19 ?_
  refine lv_iload_n hx hb dX4_tryTrait_20 rfl (lv_at hl 1 rfl) ?_
  refine lv_iload_n hx hb dX4_tryTrait_21 rfl (lv_at hl 3 rfl) ?_
  obtain ⟨hi10, hf⟩ := gd_s hf
  refine s_iast (k := v1.toNatClampNeg) (w' := (wS cI cB cG cS ad hp1 st1 tr1 sp1 vis1 day1 z1 hp2 st2 tr2 sp2 vis2 day2 z2 hp3_1 st3_2 (upd2 tr3_3 v2.toNatClampNeg v1.toNatClampNeg v3) sp3_4 vis3_5 day3_6 z3_7 tb tl rtok rbg ren rvl shn shb shz fd isK)) C0 G (29 + v2.toNatClampNeg) 0 (wS_row3 (inb_lt hi9)) rfl (vin hi10) rfl (wS_set3 (inb_lt hi9)) dX4_tryTrait_22 (fun H locs G => ?_)
  refine lv_aload_n hx hb dX4_tryTrait_23 rfl (lv_at hl 0 rfl) ?_
  refine s_get (C := RX4) (T := TX4) C0 G i_X4 0 2 rfl rfl (by decide) q175 rfl dX4_tryTrait_24 ?_
  refine lv_iload hx hb dX4_tryTrait_27 (lv_at hl 4 rfl) ?_
  refine lv_iconst (v := (0 : Int32)) hx hb dX4_tryTrait_29 (by decide) ?_
  obtain ⟨hp3_11, st3_12, tr3_13, day3_14, hc15, hf⟩ := ob4_s hf
  refine go_v_sub C0 G s_pit3 o_pit3 (runV_sub (n := 2) (q0 := 25) (As := [.int v4, .int (0 : Int32)]) (rest := []) C0 G s_pit3 (c0_passDays hX hc15) q322 q50 q319 q320 q321 o0_passDays ⟨rfl, rfl⟩ ⟨Nat.le_of_ble_eq_true rfl, Nat.le_of_ble_eq_true rfl⟩ rfl rfl rfl hl.1 rfl (Nat.le_of_ble_eq_true rfl) dX4_tryTrait_30) (fun H locs G => ?_)
  obtain ⟨rfl, rfl, rfl, rfl, rfl, rfl, rfl⟩ := inj7 hf
  exact ret_v C0 G dX4_tryTrait_33
theorem o4_tryTrait : okName yX4_tryTrait 4 := ⟨by decide, by decide, by decide +kernel⟩
set_option maxHeartbeats 4000000 in
set_option maxRecDepth 100000 in
theorem c4_tryTrait {ta adK adV : Nat → Nat} (hX : XT (XS ta adK adV)) {l : Launch} {D : va_G} {cI cB cG cS : ClassId} {ad : Nat → Nat} {sz : Nat} {hp1 : Nat → Int32} {st1 : Nat → Int32} {tr1 : Nat → Nat → Int32} {sp1 : Nat → Int32} {vis1 : Int32} {day1 : Int32} {z1 : Int32} {hp2 : Nat → Int32} {st2 : Nat → Int32} {tr2 : Nat → Nat → Int32} {sp2 : Nat → Int32} {vis2 : Int32} {day2 : Int32} {z2 : Int32} {hp3 : Nat → Int32} {st3 : Nat → Int32} {tr3 : Nat → Nat → Int32} {sp3 : Nat → Int32} {vis3 : Int32} {day3 : Int32} {z3 : Int32} {tb : Nat → Int32} {tl : Int32} {rtok : Int32} {rbg : Int32} {ren : Int32} {rvl : Int32} {shn : Nat → Nat → Int32} {shb : Nat → Int32} {shz : Nat → Int32} {fd : Nat → Int32} {isK : Int32} {v1 : Int32} {v2 : Int32} {v3 : Int32} {v4 : Int32} {o_hp3 : Nat → Int32} {o_st3 : Nat → Int32} {o_tr3 : Nat → Nat → Int32} {o_sp3 : Nat → Int32} {o_vis3 : Int32} {o_day3 : Int32} {o_z3 : Int32} (hf : f4_tryTrait hp1 st1 tr1 sp1 vis1 day1 z1 hp3 st3 tr3 sp3 vis3 day3 z3 v1 v2 v3 v4 = some (o_hp3, o_st3, o_tr3, o_sp3, o_vis3, o_day3, o_z3)) : Met l yX4_tryTrait (wU yX4_tryTrait cX4_tryTrait 5 none) ({ frames := 5, cells := 0, slots := 0, locals := 108 }) (va_Pc [.ref (ad 0), .int v1, .int v2, .int v3, .int v4] (PreW (XS ta adK adV) D (tyC cI cB cG cS) (wS cI cB cG cS ad hp1 st1 tr1 sp1 vis1 day1 z1 hp2 st2 tr2 sp2 vis2 day2 z2 hp3 st3 tr3 sp3 vis3 day3 z3 tb tl rtok rbg ren rvl shn shb shz fd isK) sz)) (QcV D (tyC cI cB cG cS) (wS cI cB cG cS ad hp1 st1 tr1 sp1 vis1 day1 z1 hp2 st2 tr2 sp2 vis2 day2 z2 o_hp3 o_st3 o_tr3 o_sp3 o_vis3 o_day3 o_z3 tb tl rtok rbg ren rvl shn shb shz fd isK) (va_A (wS cI cB cG cS ad hp1 st1 tr1 sp1 vis1 day1 z1 hp2 st2 tr2 sp2 vis2 day2 z2 hp3 st3 tr3 sp3 vis3 day3 z3 tb tl rtok rbg ren rvl shn shb shz fd isK) sz)) 0 0 (va_A (wS cI cB cG cS ad hp1 st1 tr1 sp1 vis1 day1 z1 hp2 st2 tr2 sp2 vis2 day2 z2 hp3 st3 tr3 sp3 vis3 day3 z3 tb tl rtok rbg ren rvl shn shb shz fd isK) sz) := by
  refine startW hX (own := RX4) (by decide) rfl (Nat.le_of_ble_eq_true rfl) (fun p e s m args below meth c ls C0 G hl => ?_)
  exact b4_tryTrait_0 C0 G hl hf
/-! 4_forLongestRoad -/
theorem dX4_forLongestRoad_0 : decode cX4_forLongestRoad 0 = .ok (.getstatic 142, 3) := by decide +kernel
theorem dX4_forLongestRoad_3 : decode cX4_forLongestRoad 3 = .ok (.iload_n 2, 1) := by decide +kernel
theorem dX4_forLongestRoad_4 : decode cX4_forLongestRoad 4 = .ok (.iaload, 1) := by decide +kernel
theorem dX4_forLongestRoad_5 : decode cX4_forLongestRoad 5 = .ok (.istore 4, 2) := by decide +kernel
theorem dX4_forLongestRoad_7 : decode cX4_forLongestRoad 7 = .ok (.iconst (-1), 1) := by decide +kernel
theorem dX4_forLongestRoad_8 : decode cX4_forLongestRoad 8 = .ok (.istore 5, 2) := by decide +kernel
theorem dX4_forLongestRoad_10 : decode cX4_forLongestRoad 10 = .ok (.getstatic 142, 3) := by decide +kernel
theorem dX4_forLongestRoad_13 : decode cX4_forLongestRoad 13 = .ok (.iload_n 2, 1) := by decide +kernel
theorem dX4_forLongestRoad_14 : decode cX4_forLongestRoad 14 = .ok (.iaload, 1) := by decide +kernel
theorem dX4_forLongestRoad_15 : decode cX4_forLongestRoad 15 = .ok (.istore 6, 2) := by decide +kernel
theorem dX4_forLongestRoad_17 : decode cX4_forLongestRoad 17 = .ok (.iload 6, 2) := by decide +kernel
theorem dX4_forLongestRoad_19 : decode cX4_forLongestRoad 19 = .ok (.getstatic 139, 3) := by decide +kernel
theorem dX4_forLongestRoad_22 : decode cX4_forLongestRoad 22 = .ok (.iload_n 2, 1) := by decide +kernel
theorem dX4_forLongestRoad_23 : decode cX4_forLongestRoad 23 = .ok (.iaload, 1) := by decide +kernel
theorem dX4_forLongestRoad_24 : decode cX4_forLongestRoad 24 = .ok (.if_icmp .gt 42, 3) := by decide +kernel
theorem dX4_forLongestRoad_27 : decode cX4_forLongestRoad 27 = .ok (.aload_n 0, 1) := by decide +kernel
theorem dX4_forLongestRoad_28 : decode cX4_forLongestRoad 28 = .ok (.iload_n 1, 1) := by decide +kernel
theorem dX4_forLongestRoad_29 : decode cX4_forLongestRoad 29 = .ok (.iload_n 2, 1) := by decide +kernel
theorem dX4_forLongestRoad_30 : decode cX4_forLongestRoad 30 = .ok (.iload 6, 2) := by decide +kernel
theorem dX4_forLongestRoad_32 : decode cX4_forLongestRoad 32 = .ok (.iload_n 3, 1) := by decide +kernel
theorem dX4_forLongestRoad_33 : decode cX4_forLongestRoad 33 = .ok (.invokevirtual 145, 3) := by decide +kernel
theorem dX4_forLongestRoad_36 : decode cX4_forLongestRoad 36 = .ok (.aload_n 0, 1) := by decide +kernel
theorem dX4_forLongestRoad_37 : decode cX4_forLongestRoad 37 = .ok (.getfield 19, 3) := by decide +kernel
theorem dX4_forLongestRoad_40 : decode cX4_forLongestRoad 40 = .ok (.invokevirtual 109, 3) := by decide +kernel
theorem dX4_forLongestRoad_43 : decode cX4_forLongestRoad 43 = .ok (.istore 7, 2) := by decide +kernel
theorem dX4_forLongestRoad_45 : decode cX4_forLongestRoad 45 = .ok (.iload 7, 2) := by decide +kernel
theorem dX4_forLongestRoad_47 : decode cX4_forLongestRoad 47 = .ok (.iload 5, 2) := by decide +kernel
theorem dX4_forLongestRoad_49 : decode cX4_forLongestRoad 49 = .ok (.if_icmp .le 11, 3) := by decide +kernel
theorem dX4_forLongestRoad_52 : decode cX4_forLongestRoad 52 = .ok (.iload 7, 2) := by decide +kernel
theorem dX4_forLongestRoad_54 : decode cX4_forLongestRoad 54 = .ok (.istore 5, 2) := by decide +kernel
theorem dX4_forLongestRoad_56 : decode cX4_forLongestRoad 56 = .ok (.iload 6, 2) := by decide +kernel
theorem dX4_forLongestRoad_58 : decode cX4_forLongestRoad 58 = .ok (.istore 4, 2) := by decide +kernel
theorem dX4_forLongestRoad_60 : decode cX4_forLongestRoad 60 = .ok (.iinc 6 1, 3) := by decide +kernel
theorem dX4_forLongestRoad_63 : decode cX4_forLongestRoad 63 = .ok (.goto (-46), 3) := by decide +kernel
theorem dX4_forLongestRoad_66 : decode cX4_forLongestRoad 66 = .ok (.iload 4, 2) := by decide +kernel
theorem dX4_forLongestRoad_68 : decode cX4_forLongestRoad 68 = .ok (.ireturn, 1) := by decide +kernel
def j4_forLongestRoad_60 (k17 : (Nat → Int32) → (Nat → Int32) → (Nat → Nat → Int32) → (Nat → Int32) → Int32 → Int32 → Int32 → (Nat → Int32) → (Nat → Int32) → (Nat → Nat → Int32) → (Nat → Int32) → Int32 → Int32 → Int32 → Int32 → Int32 → Int32 → Int32 → Int32 → Int32 → Option (Int32 × (Nat → Int32) × (Nat → Int32) × (Nat → Nat → Int32) × (Nat → Int32) × Int32 × Int32 × Int32)) (hp1 : Nat → Int32) (st1 : Nat → Int32) (tr1 : Nat → Nat → Int32) (sp1 : Nat → Int32) (vis1 : Int32) (day1 : Int32) (z1 : Int32) (hp3 : Nat → Int32) (st3 : Nat → Int32) (tr3 : Nat → Nat → Int32) (sp3 : Nat → Int32) (vis3 : Int32) (day3 : Int32) (z3 : Int32) (v1 : Int32) (v2 : Int32) (v3 : Int32) (v4 : Int32) (v5 : Int32) (v6 : Int32) : Option (Int32 × (Nat → Int32) × (Nat → Int32) × (Nat → Nat → Int32) × (Nat → Int32) × Int32 × Int32 × Int32) :=
  k17 hp1 st1 tr1 sp1 vis1 day1 z1 hp3 st3 tr3 sp3 vis3 day3 z3 v1 v2 v3 v4 v5 (v6 + (1 : Int32))
def l4_forLongestRoad_17  : Nat → (Nat → Int32) → (Nat → Int32) → (Nat → Nat → Int32) → (Nat → Int32) → Int32 → Int32 → Int32 → (Nat → Int32) → (Nat → Int32) → (Nat → Nat → Int32) → (Nat → Int32) → Int32 → Int32 → Int32 → Int32 → Int32 → Int32 → Int32 → Int32 → Int32 → Option (Int32 × (Nat → Int32) × (Nat → Int32) × (Nat → Nat → Int32) × (Nat → Int32) × Int32 × Int32 × Int32)
  | 0, _, _, _, _, _, _, _, _, _, _, _, _, _, _, _, _, _, _, _, _ => none
  | n + 1, hp1, st1, tr1, sp1, vis1, day1, z1, hp3, st3, tr3, sp3, vis3, day3, z3, v1, v2, v3, v4, v5, v6 =>
    gd (inb v2 7) (
    if (kTM v2.toNatClampNeg) < v6 then (
      some (v4, hp3, st3, tr3, sp3, vis3, day3, z3))
    else (
      ob7 (f4_tryTrait hp1 st1 tr1 sp1 vis1 day1 z1 hp3 st3 tr3 sp3 vis3 day3 z3 v1 v2 v6 v3) (fun hp3_5 st3_6 tr3_7 sp3_8 vis3_9 day3_10 z3_11 =>
      ob1 (f0_roadLength hp3_5) (fun r13 =>
      if r13 ≤ v5 then (
        j4_forLongestRoad_60 (l4_forLongestRoad_17 n) hp1 st1 tr1 sp1 vis1 day1 z1 hp3_5 st3_6 tr3_7 sp3_8 vis3_9 day3_10 z3_11 v1 v2 v3 v4 v5 v6)
      else (
        j4_forLongestRoad_60 (l4_forLongestRoad_17 n) hp1 st1 tr1 sp1 vis1 day1 z1 hp3_5 st3_6 tr3_7 sp3_8 vis3_9 day3_10 z3_11 v1 v2 v3 v6 r13 v6)))))
def f4_forLongestRoad (hp1 : Nat → Int32) (st1 : Nat → Int32) (tr1 : Nat → Nat → Int32) (sp1 : Nat → Int32) (vis1 : Int32) (day1 : Int32) (z1 : Int32) (hp3 : Nat → Int32) (st3 : Nat → Int32) (tr3 : Nat → Nat → Int32) (sp3 : Nat → Int32) (vis3 : Int32) (day3 : Int32) (z3 : Int32) (v1 : Int32) (v2 : Int32) (v3 : Int32) : Option (Int32 × (Nat → Int32) × (Nat → Int32) × (Nat → Nat → Int32) × (Nat → Int32) × Int32 × Int32 × Int32) :=
  gd (inb v2 7) (
  gd (inb v2 7) (
  l4_forLongestRoad_17 1000 hp1 st1 tr1 sp1 vis1 day1 z1 hp3 st3 tr3 sp3 vis3 day3 z3 v1 v2 v3 (kTL v2.toNatClampNeg) (-1 : Int32) (kTL v2.toNatClampNeg)))
set_option maxHeartbeats 4000000 in
set_option maxRecDepth 100000 in
theorem b4_forLongestRoad_60 {ta adK adV : Nat → Nat} {p : Program} {l : Launch} {e : Env} {s : State} {m : MethodId} {args : Array Value} {below : List Frame} {meth : Method} {c : Code} {D : va_G} {cI cB cG cS : ClassId} {ad : Nat → Nat} {A : Nat → Prop} {hp1 : Nat → Int32} {st1 : Nat → Int32} {tr1 : Nat → Nat → Int32} {sp1 : Nat → Int32} {vis1 : Int32} {day1 : Int32} {z1 : Int32} {hp2 : Nat → Int32} {st2 : Nat → Int32} {tr2 : Nat → Nat → Int32} {sp2 : Nat → Int32} {vis2 : Int32} {day2 : Int32} {z2 : Int32} {tb : Nat → Int32} {tl : Int32} {rtok : Int32} {rbg : Int32} {ren : Int32} {rvl : Int32} {shn : Nat → Nat → Int32} {shb : Nat → Int32} {shz : Nat → Int32} {fd : Nat → Int32} {isK : Int32} {r0 : Int32} {o_hp3 : Nat → Int32} {o_st3 : Nat → Int32} {o_tr3 : Nat → Nat → Int32} {o_sp3 : Nat → Int32} {o_vis3 : Int32} {o_day3 : Int32} {o_z3 : Int32} (C0 : CX (XS ta adK adV) p s m args meth c cX4_forLongestRoad 8 (some .int) RX4 A) {k17 : (Nat → Int32) → (Nat → Int32) → (Nat → Nat → Int32) → (Nat → Int32) → Int32 → Int32 → Int32 → (Nat → Int32) → (Nat → Int32) → (Nat → Nat → Int32) → (Nat → Int32) → Int32 → Int32 → Int32 → Int32 → Int32 → Int32 → Int32 → Int32 → Int32 → Option (Int32 × (Nat → Int32) × (Nat → Int32) × (Nat → Nat → Int32) × (Nat → Int32) × Int32 × Int32 × Int32)} (hk17 : ∀ {hp3 : Nat → Int32} {st3 : Nat → Int32} {tr3 : Nat → Nat → Int32} {sp3 : Nat → Int32} {vis3 : Int32} {day3 : Int32} {z3 : Int32} {v1 : Int32} {v2 : Int32} {v3 : Int32} {v4 : Int32} {v5 : Int32} {v6 : Int32} {H : Heap} {locs : List Loc} {ls : Array Slot}, GX (XS ta adK adV) D (tyC cI cB cG cS) A s (wS cI cB cG cS ad hp1 st1 tr1 sp1 vis1 day1 z1 hp2 st2 tr2 sp2 vis2 day2 z2 hp3 st3 tr3 sp3 vis3 day3 z3 tb tl rtok rbg ren rvl shn shb shz fd isK) H locs → lv_has ls 8 [(0, .ref (ad 0)), (1, .int v1), (2, .int v2), (3, .int v3), (4, .int v4), (5, .int v5), (6, .int v6)] → k17 hp1 st1 tr1 sp1 vis1 day1 z1 hp3 st3 tr3 sp3 vis3 day3 z3 v1 v2 v3 v4 v5 v6 = some (r0, o_hp3, o_st3, o_tr3, o_sp3, o_vis3, o_day3, o_z3) → W p l e ({ frames := 6, cells := 0, slots := 0, locals := 132 }) s m args below meth c H locs 0 0 (MQ below (QcI D (tyC cI cB cG cS) (wS cI cB cG cS ad hp1 st1 tr1 sp1 vis1 day1 z1 hp2 st2 tr2 sp2 vis2 day2 z2 o_hp3 o_st3 o_tr3 o_sp3 o_vis3 o_day3 o_z3 tb tl rtok rbg ren rvl shn shb shz fd isK) A r0) args s 0 0 A) (F0 m 17 ls [])) : ∀ {hp3 : Nat → Int32} {st3 : Nat → Int32} {tr3 : Nat → Nat → Int32} {sp3 : Nat → Int32} {vis3 : Int32} {day3 : Int32} {z3 : Int32} {v1 : Int32} {v2 : Int32} {v3 : Int32} {v4 : Int32} {v5 : Int32} {v6 : Int32} {H : Heap} {locs : List Loc} {ls : Array Slot}, GX (XS ta adK adV) D (tyC cI cB cG cS) A s (wS cI cB cG cS ad hp1 st1 tr1 sp1 vis1 day1 z1 hp2 st2 tr2 sp2 vis2 day2 z2 hp3 st3 tr3 sp3 vis3 day3 z3 tb tl rtok rbg ren rvl shn shb shz fd isK) H locs → lv_has ls 8 [(0, .ref (ad 0)), (1, .int v1), (2, .int v2), (3, .int v3), (4, .int v4), (5, .int v5), (6, .int v6)] → j4_forLongestRoad_60 k17 hp1 st1 tr1 sp1 vis1 day1 z1 hp3 st3 tr3 sp3 vis3 day3 z3 v1 v2 v3 v4 v5 v6 = some (r0, o_hp3, o_st3, o_tr3, o_sp3, o_vis3, o_day3, o_z3) → W p l e ({ frames := 6, cells := 0, slots := 0, locals := 132 }) s m args below meth c H locs 0 0 (MQ below (QcI D (tyC cI cB cG cS) (wS cI cB cG cS ad hp1 st1 tr1 sp1 vis1 day1 z1 hp2 st2 tr2 sp2 vis2 day2 z2 o_hp3 o_st3 o_tr3 o_sp3 o_vis3 o_day3 o_z3 tb tl rtok rbg ren rvl shn shb shz fd isK) A r0) args s 0 0 A) (F0 m 60 ls []) := by
  have hx := C0.1
  have hb := C0.2.1
  have hown := C0.2.2.2.2.1
  have hts := C0.2.2.2.2.2.1
  have hX := C0.2.2.2.2.2.2.2.2
  intro hp3 st3 tr3 sp3 vis3 day3 z3 v1 v2 v3 v4 v5 v6 H locs ls G hl hf
  unfold j4_forLongestRoad_60 at hf
  refine lv_iinc (v := (v6 + (1 : Int32))) (lv' := [(6, .int (v6 + (1 : Int32))), (0, .ref (ad 0)), (1, .int v1), (2, .int v2), (3, .int v3), (4, .int v4), (5, .int v5)]) hx hb dX4_forLongestRoad_60 hl (k := 6) rfl rfl (by decide) rfl (fun ls hl => ?_)
  refine lv_goto (tgt := 17) hx hb dX4_forLongestRoad_63 (by decide) ?_
  exact hk17 G (lv_sub hl [1, 2, 3, 4, 5, 6, 0] rfl) hf
set_option maxHeartbeats 4000000 in
set_option maxRecDepth 100000 in
theorem b4_forLongestRoad_17 {ta adK adV : Nat → Nat} {p : Program} {l : Launch} {e : Env} {s : State} {m : MethodId} {args : Array Value} {below : List Frame} {meth : Method} {c : Code} {D : va_G} {cI cB cG cS : ClassId} {ad : Nat → Nat} {A : Nat → Prop} {hp1 : Nat → Int32} {st1 : Nat → Int32} {tr1 : Nat → Nat → Int32} {sp1 : Nat → Int32} {vis1 : Int32} {day1 : Int32} {z1 : Int32} {hp2 : Nat → Int32} {st2 : Nat → Int32} {tr2 : Nat → Nat → Int32} {sp2 : Nat → Int32} {vis2 : Int32} {day2 : Int32} {z2 : Int32} {tb : Nat → Int32} {tl : Int32} {rtok : Int32} {rbg : Int32} {ren : Int32} {rvl : Int32} {shn : Nat → Nat → Int32} {shb : Nat → Int32} {shz : Nat → Int32} {fd : Nat → Int32} {isK : Int32} {r0 : Int32} {o_hp3 : Nat → Int32} {o_st3 : Nat → Int32} {o_tr3 : Nat → Nat → Int32} {o_sp3 : Nat → Int32} {o_vis3 : Int32} {o_day3 : Int32} {o_z3 : Int32} (C0 : CX (XS ta adK adV) p s m args meth c cX4_forLongestRoad 8 (some .int) RX4 A) : ∀ (n : Nat) {hp3 : Nat → Int32} {st3 : Nat → Int32} {tr3 : Nat → Nat → Int32} {sp3 : Nat → Int32} {vis3 : Int32} {day3 : Int32} {z3 : Int32} {v1 : Int32} {v2 : Int32} {v3 : Int32} {v4 : Int32} {v5 : Int32} {v6 : Int32} {H : Heap} {locs : List Loc} {ls : Array Slot}, GX (XS ta adK adV) D (tyC cI cB cG cS) A s (wS cI cB cG cS ad hp1 st1 tr1 sp1 vis1 day1 z1 hp2 st2 tr2 sp2 vis2 day2 z2 hp3 st3 tr3 sp3 vis3 day3 z3 tb tl rtok rbg ren rvl shn shb shz fd isK) H locs → lv_has ls 8 [(0, .ref (ad 0)), (1, .int v1), (2, .int v2), (3, .int v3), (4, .int v4), (5, .int v5), (6, .int v6)] → l4_forLongestRoad_17  n hp1 st1 tr1 sp1 vis1 day1 z1 hp3 st3 tr3 sp3 vis3 day3 z3 v1 v2 v3 v4 v5 v6 = some (r0, o_hp3, o_st3, o_tr3, o_sp3, o_vis3, o_day3, o_z3) → W p l e ({ frames := 6, cells := 0, slots := 0, locals := 132 }) s m args below meth c H locs 0 0 (MQ below (QcI D (tyC cI cB cG cS) (wS cI cB cG cS ad hp1 st1 tr1 sp1 vis1 day1 z1 hp2 st2 tr2 sp2 vis2 day2 z2 o_hp3 o_st3 o_tr3 o_sp3 o_vis3 o_day3 o_z3 tb tl rtok rbg ren rvl shn shb shz fd isK) A r0) args s 0 0 A) (F0 m 17 ls []) := by
  have hx := C0.1
  have hb := C0.2.1
  have hown := C0.2.2.2.2.1
  have hts := C0.2.2.2.2.2.1
  have hX := C0.2.2.2.2.2.2.2.2
  intro n
  induction n with
  | zero =>
    intro _ _ _ _ _ _ _ _ _ _ _ _ _ _ _ _ G hl hf
    cases hf
  | succ n ih =>
    intro hp3 st3 tr3 sp3 vis3 day3 z3 v1 v2 v3 v4 v5 v6 H locs ls G hl hf
    rw [l4_forLongestRoad_17] at hf
    refine lv_iload hx hb dX4_forLongestRoad_17 (lv_at hl 6 rfl) ?_
    refine s_gets C0 G (xa_5 G.2.2.2.2) q292 dX4_forLongestRoad_19 ?_
    refine lv_iload_n hx hb dX4_forLongestRoad_22 rfl (lv_at hl 2 rfl) ?_
    obtain ⟨hi3, hf⟩ := gd_s hf
    refine s_ti (k := v2.toNatClampNeg) C0 G (xa_5 G.2.2.2.2) (vin hi3) rfl dX4_forLongestRoad_23 ?_
    refine lv_icmp_gt (tgt := 66) hx hb dX4_forLongestRoad_24 (by decide) (fun hc4 => ?_) (fun hc4 => ?_)
    · have hf := itp hc4 hf
      refine lv_iload hx hb dX4_forLongestRoad_66 (lv_at hl 4 rfl) ?_
      obtain ⟨rfl, rfl, rfl, rfl, rfl, rfl, rfl, rfl⟩ := inj8 hf
      exact ret_i C0 G dX4_forLongestRoad_68
    · have hf := itn hc4 hf
      refine lv_aload_n hx hb dX4_forLongestRoad_27 rfl (lv_at hl 0 rfl) ?_
      refine lv_iload_n hx hb dX4_forLongestRoad_28 rfl (lv_at hl 1 rfl) ?_
      refine lv_iload_n hx hb dX4_forLongestRoad_29 rfl (lv_at hl 2 rfl) ?_
      refine lv_iload hx hb dX4_forLongestRoad_30 (lv_at hl 6 rfl) ?_
      refine lv_iload_n hx hb dX4_forLongestRoad_32 rfl (lv_at hl 3 rfl) ?_
      obtain ⟨hp3_5, st3_6, tr3_7, sp3_8, vis3_9, day3_10, z3_11, hc12, hf⟩ := ob7_s hf
      refine go_v C0 G (runV_of (n := 4) (q0 := 0) (As := [.int v1, .int v2, .int v6, .int v3]) (rest := []) C0 G (c4_tryTrait hX hc12) q419 q49 q416 q418 q5 o4_tryTrait ⟨rfl, rfl⟩ ⟨Nat.le_of_ble_eq_true rfl, Nat.le_of_ble_eq_true rfl⟩ rfl rfl rfl hl.1 rfl (Nat.le_of_ble_eq_true rfl) dX4_forLongestRoad_33) (fun H locs G => ?_)
      refine lv_aload_n hx hb dX4_forLongestRoad_36 rfl (lv_at hl 0 rfl) ?_
      refine s_get (C := RX4) (T := TX4) C0 G i_X4 0 2 rfl rfl (by decide) q175 rfl dX4_forLongestRoad_37 ?_
      obtain ⟨r13, hc14, hf⟩ := ob1_s hf
      refine go_i_sub C0 G s_pit3 o_pit3 (runV_sub (n := 0) (q0 := 25) (As := []) (rest := []) C0 G s_pit3 (c0_roadLength hX hc14) q344 q50 q341 q342 q343 o0_roadLength ⟨rfl, rfl⟩ ⟨Nat.le_of_ble_eq_true rfl, Nat.le_of_ble_eq_true rfl⟩ rfl rfl rfl hl.1 rfl (Nat.le_of_ble_eq_true rfl) dX4_forLongestRoad_40) (fun H locs G => ?_)
      refine lv_istore (lv' := [(7, .int r13), (0, .ref (ad 0)), (1, .int v1), (2, .int v2), (3, .int v3), (4, .int v4), (5, .int v5), (6, .int v6)]) hx hb dX4_forLongestRoad_43 hl (by decide) rfl (fun ls hl => ?_)
      refine lv_iload hx hb dX4_forLongestRoad_45 (lv_at hl 0 rfl) ?_
      refine lv_iload hx hb dX4_forLongestRoad_47 (lv_at hl 6 rfl) ?_
      refine lv_icmp_le (tgt := 60) hx hb dX4_forLongestRoad_49 (by decide) (fun hc15 => ?_) (fun hc15 => ?_)
      · have hf := itp hc15 hf
        exact b4_forLongestRoad_60 C0 ih G (lv_sub hl [1, 2, 3, 4, 5, 6, 7] rfl) hf
      · have hf := itn hc15 hf
        refine lv_iload hx hb dX4_forLongestRoad_52 (lv_at hl 0 rfl) ?_
        refine lv_istore (lv' := [(5, .int r13), (7, .int r13), (0, .ref (ad 0)), (1, .int v1), (2, .int v2), (3, .int v3), (4, .int v4), (6, .int v6)]) hx hb dX4_forLongestRoad_54 hl (by decide) rfl (fun ls hl => ?_)
        refine lv_iload hx hb dX4_forLongestRoad_56 (lv_at hl 7 rfl) ?_
        refine lv_istore (lv' := [(4, .int v6), (5, .int r13), (7, .int r13), (0, .ref (ad 0)), (1, .int v1), (2, .int v2), (3, .int v3), (6, .int v6)]) hx hb dX4_forLongestRoad_58 hl (by decide) rfl (fun ls hl => ?_)
        exact b4_forLongestRoad_60 C0 ih G (lv_sub hl [3, 4, 5, 6, 0, 1, 7] rfl) hf
set_option maxHeartbeats 4000000 in
set_option maxRecDepth 100000 in
theorem b4_forLongestRoad_0 {ta adK adV : Nat → Nat} {p : Program} {l : Launch} {e : Env} {s : State} {m : MethodId} {args : Array Value} {below : List Frame} {meth : Method} {c : Code} {D : va_G} {cI cB cG cS : ClassId} {ad : Nat → Nat} {A : Nat → Prop} {hp1 : Nat → Int32} {st1 : Nat → Int32} {tr1 : Nat → Nat → Int32} {sp1 : Nat → Int32} {vis1 : Int32} {day1 : Int32} {z1 : Int32} {hp2 : Nat → Int32} {st2 : Nat → Int32} {tr2 : Nat → Nat → Int32} {sp2 : Nat → Int32} {vis2 : Int32} {day2 : Int32} {z2 : Int32} {tb : Nat → Int32} {tl : Int32} {rtok : Int32} {rbg : Int32} {ren : Int32} {rvl : Int32} {shn : Nat → Nat → Int32} {shb : Nat → Int32} {shz : Nat → Int32} {fd : Nat → Int32} {isK : Int32} {r0 : Int32} {o_hp3 : Nat → Int32} {o_st3 : Nat → Int32} {o_tr3 : Nat → Nat → Int32} {o_sp3 : Nat → Int32} {o_vis3 : Int32} {o_day3 : Int32} {o_z3 : Int32} (C0 : CX (XS ta adK adV) p s m args meth c cX4_forLongestRoad 8 (some .int) RX4 A) : ∀ {hp3 : Nat → Int32} {st3 : Nat → Int32} {tr3 : Nat → Nat → Int32} {sp3 : Nat → Int32} {vis3 : Int32} {day3 : Int32} {z3 : Int32} {v1 : Int32} {v2 : Int32} {v3 : Int32} {H : Heap} {locs : List Loc} {ls : Array Slot}, GX (XS ta adK adV) D (tyC cI cB cG cS) A s (wS cI cB cG cS ad hp1 st1 tr1 sp1 vis1 day1 z1 hp2 st2 tr2 sp2 vis2 day2 z2 hp3 st3 tr3 sp3 vis3 day3 z3 tb tl rtok rbg ren rvl shn shb shz fd isK) H locs → lv_has ls 8 [(0, .ref (ad 0)), (1, .int v1), (2, .int v2), (3, .int v3)] → f4_forLongestRoad hp1 st1 tr1 sp1 vis1 day1 z1 hp3 st3 tr3 sp3 vis3 day3 z3 v1 v2 v3 = some (r0, o_hp3, o_st3, o_tr3, o_sp3, o_vis3, o_day3, o_z3) → W p l e ({ frames := 6, cells := 0, slots := 0, locals := 132 }) s m args below meth c H locs 0 0 (MQ below (QcI D (tyC cI cB cG cS) (wS cI cB cG cS ad hp1 st1 tr1 sp1 vis1 day1 z1 hp2 st2 tr2 sp2 vis2 day2 z2 o_hp3 o_st3 o_tr3 o_sp3 o_vis3 o_day3 o_z3 tb tl rtok rbg ren rvl shn shb shz fd isK) A r0) args s 0 0 A) (F0 m 0 ls []) := by
  have hx := C0.1
  have hb := C0.2.1
  have hown := C0.2.2.2.2.1
  have hts := C0.2.2.2.2.2.1
  have hX := C0.2.2.2.2.2.2.2.2
  intro hp3 st3 tr3 sp3 vis3 day3 z3 v1 v2 v3 H locs ls G hl hf
  unfold f4_forLongestRoad at hf
  refine s_gets C0 G (xa_4 G.2.2.2.2) q290 dX4_forLongestRoad_0 ?_
  refine lv_iload_n hx hb dX4_forLongestRoad_3 rfl (lv_at hl 2 rfl) ?_
  obtain ⟨hi1, hf⟩ := gd_s hf
  refine s_ti (k := v2.toNatClampNeg) C0 G (xa_4 G.2.2.2.2) (vin hi1) rfl dX4_forLongestRoad_4 ?_
  refine lv_istore (lv' := [(4, .int (kTL v2.toNatClampNeg)), (0, .ref (ad 0)), (1, .int v1), (2, .int v2), (3, .int v3)]) hx hb dX4_forLongestRoad_5 hl (by decide) rfl (fun ls hl => ?_)
  refine lv_iconst (v := (-1 : Int32)) hx hb dX4_forLongestRoad_7 (by decide) ?_
  refine lv_istore (lv' := [(5, .int (-1 : Int32)), (4, .int (kTL v2.toNatClampNeg)), (0, .ref (ad 0)), (1, .int v1), (2, .int v2), (3, .int v3)]) hx hb dX4_forLongestRoad_8 hl (by decide) rfl (fun ls hl => ?_)
  refine s_gets C0 G (xa_4 G.2.2.2.2) q290 dX4_forLongestRoad_10 ?_
  refine lv_iload_n hx hb dX4_forLongestRoad_13 rfl (lv_at hl 4 rfl) ?_
  obtain ⟨hi2, hf⟩ := gd_s hf
  refine s_ti (k := v2.toNatClampNeg) C0 G (xa_4 G.2.2.2.2) (vin hi2) rfl dX4_forLongestRoad_14 ?_
  refine lv_istore (lv' := [(6, .int (kTL v2.toNatClampNeg)), (5, .int (-1 : Int32)), (4, .int (kTL v2.toNatClampNeg)), (0, .ref (ad 0)), (1, .int v1), (2, .int v2), (3, .int v3)]) hx hb dX4_forLongestRoad_15 hl (by decide) rfl (fun ls hl => ?_)
  exact b4_forLongestRoad_17 C0  1000 G (lv_sub hl [3, 4, 5, 6, 2, 1, 0] rfl) hf
theorem o4_forLongestRoad : okName yX4_forLongestRoad 3 := ⟨by decide, by decide, by decide +kernel⟩
set_option maxHeartbeats 4000000 in
set_option maxRecDepth 100000 in
theorem c4_forLongestRoad {ta adK adV : Nat → Nat} (hX : XT (XS ta adK adV)) {l : Launch} {D : va_G} {cI cB cG cS : ClassId} {ad : Nat → Nat} {sz : Nat} {hp1 : Nat → Int32} {st1 : Nat → Int32} {tr1 : Nat → Nat → Int32} {sp1 : Nat → Int32} {vis1 : Int32} {day1 : Int32} {z1 : Int32} {hp2 : Nat → Int32} {st2 : Nat → Int32} {tr2 : Nat → Nat → Int32} {sp2 : Nat → Int32} {vis2 : Int32} {day2 : Int32} {z2 : Int32} {hp3 : Nat → Int32} {st3 : Nat → Int32} {tr3 : Nat → Nat → Int32} {sp3 : Nat → Int32} {vis3 : Int32} {day3 : Int32} {z3 : Int32} {tb : Nat → Int32} {tl : Int32} {rtok : Int32} {rbg : Int32} {ren : Int32} {rvl : Int32} {shn : Nat → Nat → Int32} {shb : Nat → Int32} {shz : Nat → Int32} {fd : Nat → Int32} {isK : Int32} {v1 : Int32} {v2 : Int32} {v3 : Int32} {r0 : Int32} {o_hp3 : Nat → Int32} {o_st3 : Nat → Int32} {o_tr3 : Nat → Nat → Int32} {o_sp3 : Nat → Int32} {o_vis3 : Int32} {o_day3 : Int32} {o_z3 : Int32} (hf : f4_forLongestRoad hp1 st1 tr1 sp1 vis1 day1 z1 hp3 st3 tr3 sp3 vis3 day3 z3 v1 v2 v3 = some (r0, o_hp3, o_st3, o_tr3, o_sp3, o_vis3, o_day3, o_z3)) : Met l yX4_forLongestRoad (wU yX4_forLongestRoad cX4_forLongestRoad 8 (some .int)) ({ frames := 6, cells := 0, slots := 0, locals := 132 }) (va_Pc [.ref (ad 0), .int v1, .int v2, .int v3] (PreW (XS ta adK adV) D (tyC cI cB cG cS) (wS cI cB cG cS ad hp1 st1 tr1 sp1 vis1 day1 z1 hp2 st2 tr2 sp2 vis2 day2 z2 hp3 st3 tr3 sp3 vis3 day3 z3 tb tl rtok rbg ren rvl shn shb shz fd isK) sz)) (QcI D (tyC cI cB cG cS) (wS cI cB cG cS ad hp1 st1 tr1 sp1 vis1 day1 z1 hp2 st2 tr2 sp2 vis2 day2 z2 o_hp3 o_st3 o_tr3 o_sp3 o_vis3 o_day3 o_z3 tb tl rtok rbg ren rvl shn shb shz fd isK) (va_A (wS cI cB cG cS ad hp1 st1 tr1 sp1 vis1 day1 z1 hp2 st2 tr2 sp2 vis2 day2 z2 hp3 st3 tr3 sp3 vis3 day3 z3 tb tl rtok rbg ren rvl shn shb shz fd isK) sz) r0) 0 0 (va_A (wS cI cB cG cS ad hp1 st1 tr1 sp1 vis1 day1 z1 hp2 st2 tr2 sp2 vis2 day2 z2 hp3 st3 tr3 sp3 vis3 day3 z3 tb tl rtok rbg ren rvl shn shb shz fd isK) sz) := by
  refine startW hX (own := RX4) (by decide) rfl (Nat.le_of_ble_eq_true rfl) (fun p e s m args below meth c ls C0 G hl => ?_)
  exact b4_forLongestRoad_0 C0 G hl hf
/-! 4_fromFor -/
theorem dX4_fromFor_0 : decode cX4_fromFor 0 = .ok (.aload_n 0, 1) := by decide +kernel
theorem dX4_fromFor_1 : decode cX4_fromFor 1 = .ok (.iload_n 1, 1) := by decide +kernel
theorem dX4_fromFor_2 : decode cX4_fromFor 2 = .ok (.invokevirtual 73, 3) := by decide +kernel
theorem dX4_fromFor_5 : decode cX4_fromFor 5 = .ok (.ifCond .eq 13, 3) := by decide +kernel
theorem dX4_fromFor_8 : decode cX4_fromFor 8 = .ok (.iload_n 2, 1) := by decide +kernel
theorem dX4_fromFor_9 : decode cX4_fromFor 9 = .ok (.iconst 0, 1) := by decide +kernel
theorem dX4_fromFor_10 : decode cX4_fromFor 10 = .ok (.bipush 40, 2) := by decide +kernel
theorem dX4_fromFor_12 : decode cX4_fromFor 12 = .ok (.invokestatic 45, 3) := by decide +kernel
theorem dX4_fromFor_15 : decode cX4_fromFor 15 = .ok (.ifCond .ne 9, 3) := by decide +kernel
theorem dX4_fromFor_18 : decode cX4_fromFor 18 = .ok (.aload_n 0, 1) := by decide +kernel
theorem dX4_fromFor_19 : decode cX4_fromFor 19 = .ok (.iconst 0, 1) := by decide +kernel
theorem dX4_fromFor_20 : decode cX4_fromFor 20 = .ok (.invokevirtual 49, 3) := by decide +kernel
theorem dX4_fromFor_23 : decode cX4_fromFor 23 = .ok (.ireturn, 1) := by decide +kernel
theorem dX4_fromFor_24 : decode cX4_fromFor 24 = .ok (.aload_n 0, 1) := by decide +kernel
theorem dX4_fromFor_25 : decode cX4_fromFor 25 = .ok (.iload_n 1, 1) := by decide +kernel
theorem dX4_fromFor_26 : decode cX4_fromFor 26 = .ok (.iconst 1, 1) := by decide +kernel
theorem dX4_fromFor_27 : decode cX4_fromFor 27 = .ok (.iload_n 2, 1) := by decide +kernel
theorem dX4_fromFor_28 : decode cX4_fromFor 28 = .ok (.invokevirtual 135, 3) := by decide +kernel
theorem dX4_fromFor_31 : decode cX4_fromFor 31 = .ok (.ireturn, 1) := by decide +kernel
def j4_fromFor_18  (hp1 : Nat → Int32) (st1 : Nat → Int32) (tr1 : Nat → Nat → Int32) (sp1 : Nat → Int32) (vis1 : Int32) (day1 : Int32) (z1 : Int32) (hp3 : Nat → Int32) (st3 : Nat → Int32) (tr3 : Nat → Nat → Int32) (sp3 : Nat → Int32) (vis3 : Int32) (day3 : Int32) (z3 : Int32) (fd : Nat → Int32)  : Option (Int32 × (Nat → Int32) × (Nat → Int32) × (Nat → Nat → Int32) × (Nat → Int32) × Int32 × Int32 × Int32 × (Nat → Int32)) :=
  ob2 (f4_found fd (0 : Int32)) (fun r12 fd_13 =>
  some (r12, hp3, st3, tr3, sp3, vis3, day3, z3, fd_13))
def f4_fromFor (hp1 : Nat → Int32) (st1 : Nat → Int32) (tr1 : Nat → Nat → Int32) (sp1 : Nat → Int32) (vis1 : Int32) (day1 : Int32) (z1 : Int32) (hp3 : Nat → Int32) (st3 : Nat → Int32) (tr3 : Nat → Nat → Int32) (sp3 : Nat → Int32) (vis3 : Int32) (day3 : Int32) (z3 : Int32) (fd : Nat → Int32) (v1 : Int32) (v2 : Int32) : Option (Int32 × (Nat → Int32) × (Nat → Int32) × (Nat → Nat → Int32) × (Nat → Int32) × Int32 × Int32 × Int32 × (Nat → Int32)) :=
  if (f4_isVisitor vis1 v1) = (0 : Int32) then (
    j4_fromFor_18 hp1 st1 tr1 sp1 vis1 day1 z1 hp3 st3 tr3 sp3 vis3 day3 z3 fd)
  else (
    if (f4_within v2 (0 : Int32) (40 : Int32)) = (0 : Int32) then (
      j4_fromFor_18 hp1 st1 tr1 sp1 vis1 day1 z1 hp3 st3 tr3 sp3 vis3 day3 z3 fd)
    else (
      ob8 (f4_forLongestRoad hp1 st1 tr1 sp1 vis1 day1 z1 hp3 st3 tr3 sp3 vis3 day3 z3 v1 (1 : Int32) v2) (fun r3 hp3_4 st3_5 tr3_6 sp3_7 vis3_8 day3_9 z3_10 =>
      some (r3, hp3_4, st3_5, tr3_6, sp3_7, vis3_8, day3_9, z3_10, fd))))
set_option maxHeartbeats 4000000 in
set_option maxRecDepth 100000 in
theorem b4_fromFor_18 {ta adK adV : Nat → Nat} {p : Program} {l : Launch} {e : Env} {s : State} {m : MethodId} {args : Array Value} {below : List Frame} {meth : Method} {c : Code} {D : va_G} {cI cB cG cS : ClassId} {ad : Nat → Nat} {A : Nat → Prop} {hp1 : Nat → Int32} {st1 : Nat → Int32} {tr1 : Nat → Nat → Int32} {sp1 : Nat → Int32} {vis1 : Int32} {day1 : Int32} {z1 : Int32} {hp2 : Nat → Int32} {st2 : Nat → Int32} {tr2 : Nat → Nat → Int32} {sp2 : Nat → Int32} {vis2 : Int32} {day2 : Int32} {z2 : Int32} {tb : Nat → Int32} {tl : Int32} {rtok : Int32} {rbg : Int32} {ren : Int32} {rvl : Int32} {shn : Nat → Nat → Int32} {shb : Nat → Int32} {shz : Nat → Int32} {isK : Int32} {r0 : Int32} {o_hp3 : Nat → Int32} {o_st3 : Nat → Int32} {o_tr3 : Nat → Nat → Int32} {o_sp3 : Nat → Int32} {o_vis3 : Int32} {o_day3 : Int32} {o_z3 : Int32} {o_fd : Nat → Int32} (C0 : CX (XS ta adK adV) p s m args meth c cX4_fromFor 3 (some .int) RX4 A) : ∀ {hp3 : Nat → Int32} {st3 : Nat → Int32} {tr3 : Nat → Nat → Int32} {sp3 : Nat → Int32} {vis3 : Int32} {day3 : Int32} {z3 : Int32} {fd : Nat → Int32} {H : Heap} {locs : List Loc} {ls : Array Slot}, GX (XS ta adK adV) D (tyC cI cB cG cS) A s (wS cI cB cG cS ad hp1 st1 tr1 sp1 vis1 day1 z1 hp2 st2 tr2 sp2 vis2 day2 z2 hp3 st3 tr3 sp3 vis3 day3 z3 tb tl rtok rbg ren rvl shn shb shz fd isK) H locs → lv_has ls 3 [(0, .ref (ad 0))] → j4_fromFor_18  hp1 st1 tr1 sp1 vis1 day1 z1 hp3 st3 tr3 sp3 vis3 day3 z3 fd = some (r0, o_hp3, o_st3, o_tr3, o_sp3, o_vis3, o_day3, o_z3, o_fd) → W p l e ({ frames := 7, cells := 0, slots := 0, locals := 159 }) s m args below meth c H locs 0 0 (MQ below (QcI D (tyC cI cB cG cS) (wS cI cB cG cS ad hp1 st1 tr1 sp1 vis1 day1 z1 hp2 st2 tr2 sp2 vis2 day2 z2 o_hp3 o_st3 o_tr3 o_sp3 o_vis3 o_day3 o_z3 tb tl rtok rbg ren rvl shn shb shz o_fd isK) A r0) args s 0 0 A) (F0 m 18 ls []) := by
  have hx := C0.1
  have hb := C0.2.1
  have hown := C0.2.2.2.2.1
  have hts := C0.2.2.2.2.2.1
  have hX := C0.2.2.2.2.2.2.2.2
  intro hp3 st3 tr3 sp3 vis3 day3 z3 fd H locs ls G hl hf
  unfold j4_fromFor_18 at hf
  refine lv_aload_n hx hb dX4_fromFor_18 rfl (lv_at hl 0 rfl) ?_
  refine lv_iconst (v := (0 : Int32)) hx hb dX4_fromFor_19 (by decide) ?_
  obtain ⟨r12, fd_13, hc14, hf⟩ := ob2_s hf
  refine go_i C0 G (runV_of (n := 1) (q0 := 0) (As := [.int (0 : Int32)]) (rest := []) C0 G (c4_found hX hc14) q208 q49 q205 q207 q0 o4_found ⟨rfl, rfl⟩ ⟨Nat.le_of_ble_eq_true rfl, Nat.le_of_ble_eq_true rfl⟩ rfl rfl rfl hl.1 rfl (Nat.le_of_ble_eq_true rfl) dX4_fromFor_20) (fun H locs G => ?_)
  obtain ⟨rfl, rfl, rfl, rfl, rfl, rfl, rfl, rfl, rfl⟩ := inj9 hf
  exact ret_i C0 G dX4_fromFor_23
set_option maxHeartbeats 4000000 in
set_option maxRecDepth 100000 in
theorem b4_fromFor_0 {ta adK adV : Nat → Nat} {p : Program} {l : Launch} {e : Env} {s : State} {m : MethodId} {args : Array Value} {below : List Frame} {meth : Method} {c : Code} {D : va_G} {cI cB cG cS : ClassId} {ad : Nat → Nat} {A : Nat → Prop} {hp1 : Nat → Int32} {st1 : Nat → Int32} {tr1 : Nat → Nat → Int32} {sp1 : Nat → Int32} {vis1 : Int32} {day1 : Int32} {z1 : Int32} {hp2 : Nat → Int32} {st2 : Nat → Int32} {tr2 : Nat → Nat → Int32} {sp2 : Nat → Int32} {vis2 : Int32} {day2 : Int32} {z2 : Int32} {tb : Nat → Int32} {tl : Int32} {rtok : Int32} {rbg : Int32} {ren : Int32} {rvl : Int32} {shn : Nat → Nat → Int32} {shb : Nat → Int32} {shz : Nat → Int32} {isK : Int32} {r0 : Int32} {o_hp3 : Nat → Int32} {o_st3 : Nat → Int32} {o_tr3 : Nat → Nat → Int32} {o_sp3 : Nat → Int32} {o_vis3 : Int32} {o_day3 : Int32} {o_z3 : Int32} {o_fd : Nat → Int32} (C0 : CX (XS ta adK adV) p s m args meth c cX4_fromFor 3 (some .int) RX4 A) : ∀ {hp3 : Nat → Int32} {st3 : Nat → Int32} {tr3 : Nat → Nat → Int32} {sp3 : Nat → Int32} {vis3 : Int32} {day3 : Int32} {z3 : Int32} {fd : Nat → Int32} {v1 : Int32} {v2 : Int32} {H : Heap} {locs : List Loc} {ls : Array Slot}, GX (XS ta adK adV) D (tyC cI cB cG cS) A s (wS cI cB cG cS ad hp1 st1 tr1 sp1 vis1 day1 z1 hp2 st2 tr2 sp2 vis2 day2 z2 hp3 st3 tr3 sp3 vis3 day3 z3 tb tl rtok rbg ren rvl shn shb shz fd isK) H locs → lv_has ls 3 [(0, .ref (ad 0)), (1, .int v1), (2, .int v2)] → f4_fromFor hp1 st1 tr1 sp1 vis1 day1 z1 hp3 st3 tr3 sp3 vis3 day3 z3 fd v1 v2 = some (r0, o_hp3, o_st3, o_tr3, o_sp3, o_vis3, o_day3, o_z3, o_fd) → W p l e ({ frames := 7, cells := 0, slots := 0, locals := 159 }) s m args below meth c H locs 0 0 (MQ below (QcI D (tyC cI cB cG cS) (wS cI cB cG cS ad hp1 st1 tr1 sp1 vis1 day1 z1 hp2 st2 tr2 sp2 vis2 day2 z2 o_hp3 o_st3 o_tr3 o_sp3 o_vis3 o_day3 o_z3 tb tl rtok rbg ren rvl shn shb shz o_fd isK) A r0) args s 0 0 A) (F0 m 0 ls []) := by
  have hx := C0.1
  have hb := C0.2.1
  have hown := C0.2.2.2.2.1
  have hts := C0.2.2.2.2.2.1
  have hX := C0.2.2.2.2.2.2.2.2
  intro hp3 st3 tr3 sp3 vis3 day3 z3 fd v1 v2 H locs ls G hl hf
  unfold f4_fromFor at hf
  refine lv_aload_n hx hb dX4_fromFor_0 rfl (lv_at hl 0 rfl) ?_
  refine lv_iload_n hx hb dX4_fromFor_1 rfl (lv_at hl 1 rfl) ?_
  refine go_i C0 G (runV_of (n := 1) (q0 := 0) (As := [.int v1]) (rest := []) C0 G (c4_isVisitor hX rfl) q261 q49 q258 q260 q1 o4_isVisitor ⟨rfl, rfl⟩ ⟨Nat.le_of_ble_eq_true rfl, Nat.le_of_ble_eq_true rfl⟩ rfl rfl rfl hl.1 rfl (Nat.le_of_ble_eq_true rfl) dX4_fromFor_2) (fun H locs G => ?_)
  refine lv_if_eq (tgt := 18) hx hb dX4_fromFor_5 (by decide) (fun hc1 => ?_) (fun hc1 => ?_)
  · have hf := itp hc1 hf
    exact b4_fromFor_18 C0  G (lv_sub hl [0] rfl) hf
  · have hf := itn hc1 hf
    refine lv_iload_n hx hb dX4_fromFor_8 rfl (lv_at hl 2 rfl) ?_
    refine lv_iconst (v := (0 : Int32)) hx hb dX4_fromFor_9 (by decide) ?_
    refine lv_bipush (v := (40 : Int32)) hx hb dX4_fromFor_10 (by decide) ?_
    refine go_i C0 G (runS_of (n := 3) (As := [.int v2, .int (0 : Int32), .int (40 : Int32)]) (rest := []) C0 G (c4_within hX rfl) q204 q49 q202 q203 o4_within ⟨rfl, rfl⟩ ⟨Nat.le_of_ble_eq_true rfl, Nat.le_of_ble_eq_true rfl⟩ rfl hl.1 rfl (Nat.le_of_ble_eq_true rfl) dX4_fromFor_12) (fun H locs G => ?_)
    refine lv_if_ne (tgt := 24) hx hb dX4_fromFor_15 (by decide) (fun hc2 => ?_) (fun hc2 => ?_)
    · have hf := itn hc2 hf
      refine lv_aload_n hx hb dX4_fromFor_24 rfl (lv_at hl 0 rfl) ?_
      refine lv_iload_n hx hb dX4_fromFor_25 rfl (lv_at hl 1 rfl) ?_
      refine lv_iconst (v := (1 : Int32)) hx hb dX4_fromFor_26 (by decide) ?_
      refine lv_iload_n hx hb dX4_fromFor_27 rfl (lv_at hl 2 rfl) ?_
      obtain ⟨r3, hp3_4, st3_5, tr3_6, sp3_7, vis3_8, day3_9, z3_10, hc11, hf⟩ := ob8_s hf
      refine go_i C0 G (runV_of (n := 3) (q0 := 0) (As := [.int v1, .int (1 : Int32), .int v2]) (rest := []) C0 G (c4_forLongestRoad hX hc11) q415 q49 q412 q414 q4 o4_forLongestRoad ⟨rfl, rfl⟩ ⟨Nat.le_of_ble_eq_true rfl, Nat.le_of_ble_eq_true rfl⟩ rfl rfl rfl hl.1 rfl (Nat.le_of_ble_eq_true rfl) dX4_fromFor_28) (fun H locs G => ?_)
      obtain ⟨rfl, rfl, rfl, rfl, rfl, rfl, rfl, rfl, rfl⟩ := inj9 hf
      exact ret_i C0 G dX4_fromFor_31
    · have hf := itp hc2 hf
      exact b4_fromFor_18 C0  G (lv_sub hl [0] rfl) hf
theorem o4_fromFor : okName yX4_fromFor 2 := ⟨by decide, by decide, by decide +kernel⟩
set_option maxHeartbeats 4000000 in
set_option maxRecDepth 100000 in
theorem c4_fromFor {ta adK adV : Nat → Nat} (hX : XT (XS ta adK adV)) {l : Launch} {D : va_G} {cI cB cG cS : ClassId} {ad : Nat → Nat} {sz : Nat} {hp1 : Nat → Int32} {st1 : Nat → Int32} {tr1 : Nat → Nat → Int32} {sp1 : Nat → Int32} {vis1 : Int32} {day1 : Int32} {z1 : Int32} {hp2 : Nat → Int32} {st2 : Nat → Int32} {tr2 : Nat → Nat → Int32} {sp2 : Nat → Int32} {vis2 : Int32} {day2 : Int32} {z2 : Int32} {hp3 : Nat → Int32} {st3 : Nat → Int32} {tr3 : Nat → Nat → Int32} {sp3 : Nat → Int32} {vis3 : Int32} {day3 : Int32} {z3 : Int32} {tb : Nat → Int32} {tl : Int32} {rtok : Int32} {rbg : Int32} {ren : Int32} {rvl : Int32} {shn : Nat → Nat → Int32} {shb : Nat → Int32} {shz : Nat → Int32} {fd : Nat → Int32} {isK : Int32} {v1 : Int32} {v2 : Int32} {r0 : Int32} {o_hp3 : Nat → Int32} {o_st3 : Nat → Int32} {o_tr3 : Nat → Nat → Int32} {o_sp3 : Nat → Int32} {o_vis3 : Int32} {o_day3 : Int32} {o_z3 : Int32} {o_fd : Nat → Int32} (hf : f4_fromFor hp1 st1 tr1 sp1 vis1 day1 z1 hp3 st3 tr3 sp3 vis3 day3 z3 fd v1 v2 = some (r0, o_hp3, o_st3, o_tr3, o_sp3, o_vis3, o_day3, o_z3, o_fd)) : Met l yX4_fromFor (wU yX4_fromFor cX4_fromFor 3 (some .int)) ({ frames := 7, cells := 0, slots := 0, locals := 159 }) (va_Pc [.ref (ad 0), .int v1, .int v2] (PreW (XS ta adK adV) D (tyC cI cB cG cS) (wS cI cB cG cS ad hp1 st1 tr1 sp1 vis1 day1 z1 hp2 st2 tr2 sp2 vis2 day2 z2 hp3 st3 tr3 sp3 vis3 day3 z3 tb tl rtok rbg ren rvl shn shb shz fd isK) sz)) (QcI D (tyC cI cB cG cS) (wS cI cB cG cS ad hp1 st1 tr1 sp1 vis1 day1 z1 hp2 st2 tr2 sp2 vis2 day2 z2 o_hp3 o_st3 o_tr3 o_sp3 o_vis3 o_day3 o_z3 tb tl rtok rbg ren rvl shn shb shz o_fd isK) (va_A (wS cI cB cG cS ad hp1 st1 tr1 sp1 vis1 day1 z1 hp2 st2 tr2 sp2 vis2 day2 z2 hp3 st3 tr3 sp3 vis3 day3 z3 tb tl rtok rbg ren rvl shn shb shz fd isK) sz) r0) 0 0 (va_A (wS cI cB cG cS ad hp1 st1 tr1 sp1 vis1 day1 z1 hp2 st2 tr2 sp2 vis2 day2 z2 hp3 st3 tr3 sp3 vis3 day3 z3 tb tl rtok rbg ren rvl shn shb shz fd isK) sz) := by
  refine startW hX (own := RX4) (by decide) rfl (Nat.le_of_ble_eq_true rfl) (fun p e s m args below meth c ls C0 G hl => ?_)
  exact b4_fromFor_0 C0 G hl hf
/-! 4_wideFor -/
theorem dX4_wideFor_0 : decode cX4_wideFor 0 = .ok (.aload_n 0, 1) := by decide +kernel
theorem dX4_wideFor_1 : decode cX4_wideFor 1 = .ok (.iload_n 1, 1) := by decide +kernel
theorem dX4_wideFor_2 : decode cX4_wideFor 2 = .ok (.invokevirtual 73, 3) := by decide +kernel
theorem dX4_wideFor_5 : decode cX4_wideFor 5 = .ok (.ifCond .eq 27, 3) := by decide +kernel
theorem dX4_wideFor_8 : decode cX4_wideFor 8 = .ok (.iload_n 2, 1) := by decide +kernel
theorem dX4_wideFor_9 : decode cX4_wideFor 9 = .ok (.iconst 0, 1) := by decide +kernel
theorem dX4_wideFor_10 : decode cX4_wideFor 10 = .ok (.getstatic 139, 3) := by decide +kernel
theorem dX4_wideFor_13 : decode cX4_wideFor 13 = .ok (.bipush 6, 2) := by decide +kernel
theorem dX4_wideFor_15 : decode cX4_wideFor 15 = .ok (.iaload, 1) := by decide +kernel
theorem dX4_wideFor_16 : decode cX4_wideFor 16 = .ok (.invokestatic 45, 3) := by decide +kernel
theorem dX4_wideFor_19 : decode cX4_wideFor 19 = .ok (.ifCond .eq 13, 3) := by decide +kernel
theorem dX4_wideFor_22 : decode cX4_wideFor 22 = .ok (.iload_n 3, 1) := by decide +kernel
theorem dX4_wideFor_23 : decode cX4_wideFor 23 = .ok (.iconst 0, 1) := by decide +kernel
theorem dX4_wideFor_24 : decode cX4_wideFor 24 = .ok (.bipush 40, 2) := by decide +kernel
theorem dX4_wideFor_26 : decode cX4_wideFor 26 = .ok (.invokestatic 45, 3) := by decide +kernel
theorem dX4_wideFor_29 : decode cX4_wideFor 29 = .ok (.ifCond .ne 9, 3) := by decide +kernel
theorem dX4_wideFor_32 : decode cX4_wideFor 32 = .ok (.aload_n 0, 1) := by decide +kernel
theorem dX4_wideFor_33 : decode cX4_wideFor 33 = .ok (.iconst 0, 1) := by decide +kernel
theorem dX4_wideFor_34 : decode cX4_wideFor 34 = .ok (.invokevirtual 49, 3) := by decide +kernel
theorem dX4_wideFor_37 : decode cX4_wideFor 37 = .ok (.ireturn, 1) := by decide +kernel
theorem dX4_wideFor_38 : decode cX4_wideFor 38 = .ok (.getstatic 139, 3) := by decide +kernel
theorem dX4_wideFor_41 : decode cX4_wideFor 41 = .ok (.iconst 2, 1) := by decide +kernel
theorem dX4_wideFor_42 : decode cX4_wideFor 42 = .ok (.iaload, 1) := by decide +kernel
theorem dX4_wideFor_43 : decode cX4_wideFor 43 = .ok (.istore 4, 2) := by decide +kernel
theorem dX4_wideFor_45 : decode cX4_wideFor 45 = .ok (.iload 4, 2) := by decide +kernel
theorem dX4_wideFor_47 : decode cX4_wideFor 47 = .ok (.getstatic 142, 3) := by decide +kernel
theorem dX4_wideFor_50 : decode cX4_wideFor 50 = .ok (.iconst 2, 1) := by decide +kernel
theorem dX4_wideFor_51 : decode cX4_wideFor 51 = .ok (.iaload, 1) := by decide +kernel
theorem dX4_wideFor_52 : decode cX4_wideFor 52 = .ok (.if_icmp .lt 37, 3) := by decide +kernel
theorem dX4_wideFor_55 : decode cX4_wideFor 55 = .ok (.aload_n 0, 1) := by decide +kernel
theorem dX4_wideFor_56 : decode cX4_wideFor 56 = .ok (.iload_n 1, 1) := by decide +kernel
theorem dX4_wideFor_57 : decode cX4_wideFor 57 = .ok (.iconst 2, 1) := by decide +kernel
theorem dX4_wideFor_58 : decode cX4_wideFor 58 = .ok (.iload 4, 2) := by decide +kernel
theorem dX4_wideFor_60 : decode cX4_wideFor 60 = .ok (.iload_n 3, 1) := by decide +kernel
theorem dX4_wideFor_61 : decode cX4_wideFor 61 = .ok (.invokevirtual 145, 3) := by decide +kernel
theorem dX4_wideFor_64 : decode cX4_wideFor 64 = .ok (.aload_n 0, 1) := by decide +kernel
theorem dX4_wideFor_65 : decode cX4_wideFor 65 = .ok (.getfield 19, 3) := by decide +kernel
theorem dX4_wideFor_68 : decode cX4_wideFor 68 = .ok (.getfield 89, 3) := by decide +kernel
theorem dX4_wideFor_71 : decode cX4_wideFor 71 = .ok (.bipush 6, 2) := by decide +kernel
theorem dX4_wideFor_73 : decode cX4_wideFor 73 = .ok (.aaload, 1) := by decide +kernel
theorem dX4_wideFor_74 : decode cX4_wideFor 74 = .ok (.iload_n 1, 1) := by decide +kernel
theorem dX4_wideFor_75 : decode cX4_wideFor 75 = .ok (.iaload, 1) := by decide +kernel
theorem dX4_wideFor_76 : decode cX4_wideFor 76 = .ok (.iload_n 2, 1) := by decide +kernel
theorem dX4_wideFor_77 : decode cX4_wideFor 77 = .ok (.if_icmp .lt 6, 3) := by decide +kernel
theorem dX4_wideFor_80 : decode cX4_wideFor 80 = .ok (.iload 4, 2) := by decide +kernel
theorem dX4_wideFor_82 : decode cX4_wideFor 82 = .ok (.ireturn, 1) := by decide +kernel
theorem dX4_wideFor_83 : decode cX4_wideFor 83 = .ok (.iinc 4 (-1), 3) := by decide +kernel
theorem dX4_wideFor_86 : decode cX4_wideFor 86 = .ok (.goto (-41), 3) := by decide +kernel
theorem dX4_wideFor_89 : decode cX4_wideFor 89 = .ok (.aload_n 0, 1) := by decide +kernel
theorem dX4_wideFor_90 : decode cX4_wideFor 90 = .ok (.iconst 3, 1) := by decide +kernel
theorem dX4_wideFor_91 : decode cX4_wideFor 91 = .ok (.invokevirtual 49, 3) := by decide +kernel
theorem dX4_wideFor_94 : decode cX4_wideFor 94 = .ok (.ireturn, 1) := by decide +kernel
def j4_wideFor_32  (hp1 : Nat → Int32) (st1 : Nat → Int32) (tr1 : Nat → Nat → Int32) (sp1 : Nat → Int32) (vis1 : Int32) (day1 : Int32) (z1 : Int32) (hp3 : Nat → Int32) (st3 : Nat → Int32) (tr3 : Nat → Nat → Int32) (sp3 : Nat → Int32) (vis3 : Int32) (day3 : Int32) (z3 : Int32) (fd : Nat → Int32)  : Option (Int32 × (Nat → Int32) × (Nat → Int32) × (Nat → Nat → Int32) × (Nat → Int32) × Int32 × Int32 × Int32 × (Nat → Int32)) :=
  ob2 (f4_found fd (0 : Int32)) (fun r4 fd_5 =>
  some (r4, hp3, st3, tr3, sp3, vis3, day3, z3, fd_5))
def l4_wideFor_45  : Nat → (Nat → Int32) → (Nat → Int32) → (Nat → Nat → Int32) → (Nat → Int32) → Int32 → Int32 → Int32 → (Nat → Int32) → (Nat → Int32) → (Nat → Nat → Int32) → (Nat → Int32) → Int32 → Int32 → Int32 → (Nat → Int32) → Int32 → Int32 → Int32 → Int32 → Option (Int32 × (Nat → Int32) × (Nat → Int32) × (Nat → Nat → Int32) × (Nat → Int32) × Int32 × Int32 × Int32 × (Nat → Int32))
  | 0, _, _, _, _, _, _, _, _, _, _, _, _, _, _, _, _, _, _, _ => none
  | n + 1, hp1, st1, tr1, sp1, vis1, day1, z1, hp3, st3, tr3, sp3, vis3, day3, z3, fd, v1, v2, v3, v4 =>
    if v4 < (kTL 2) then (
      ob2 (f4_found fd (3 : Int32)) (fun r8 fd_9 =>
      some (r8, hp3, st3, tr3, sp3, vis3, day3, z3, fd_9)))
    else (
      ob7 (f4_tryTrait hp1 st1 tr1 sp1 vis1 day1 z1 hp3 st3 tr3 sp3 vis3 day3 z3 v1 (2 : Int32) v4 v3) (fun hp3_11 st3_12 tr3_13 sp3_14 vis3_15 day3_16 z3_17 =>
      gd (inb v1 8) (
      if ((tr3_13 6) v1.toNatClampNeg) < v2 then (
        (l4_wideFor_45 n) hp1 st1 tr1 sp1 vis1 day1 z1 hp3_11 st3_12 tr3_13 sp3_14 vis3_15 day3_16 z3_17 fd v1 v2 v3 (v4 + (-1 : Int32)))
      else (
        some (v4, hp3_11, st3_12, tr3_13, sp3_14, vis3_15, day3_16, z3_17, fd)))))
def f4_wideFor (hp1 : Nat → Int32) (st1 : Nat → Int32) (tr1 : Nat → Nat → Int32) (sp1 : Nat → Int32) (vis1 : Int32) (day1 : Int32) (z1 : Int32) (hp3 : Nat → Int32) (st3 : Nat → Int32) (tr3 : Nat → Nat → Int32) (sp3 : Nat → Int32) (vis3 : Int32) (day3 : Int32) (z3 : Int32) (fd : Nat → Int32) (v1 : Int32) (v2 : Int32) (v3 : Int32) : Option (Int32 × (Nat → Int32) × (Nat → Int32) × (Nat → Nat → Int32) × (Nat → Int32) × Int32 × Int32 × Int32 × (Nat → Int32)) :=
  if (f4_isVisitor vis1 v1) = (0 : Int32) then (
    j4_wideFor_32 hp1 st1 tr1 sp1 vis1 day1 z1 hp3 st3 tr3 sp3 vis3 day3 z3 fd)
  else (
    if (f4_within v2 (0 : Int32) (kTM 6)) = (0 : Int32) then (
      j4_wideFor_32 hp1 st1 tr1 sp1 vis1 day1 z1 hp3 st3 tr3 sp3 vis3 day3 z3 fd)
    else (
      if (f4_within v3 (0 : Int32) (40 : Int32)) = (0 : Int32) then (
        j4_wideFor_32 hp1 st1 tr1 sp1 vis1 day1 z1 hp3 st3 tr3 sp3 vis3 day3 z3 fd)
      else (
        l4_wideFor_45 1000 hp1 st1 tr1 sp1 vis1 day1 z1 hp3 st3 tr3 sp3 vis3 day3 z3 fd v1 v2 v3 (kTM 2))))
set_option maxHeartbeats 4000000 in
set_option maxRecDepth 100000 in
theorem b4_wideFor_32 {ta adK adV : Nat → Nat} {p : Program} {l : Launch} {e : Env} {s : State} {m : MethodId} {args : Array Value} {below : List Frame} {meth : Method} {c : Code} {D : va_G} {cI cB cG cS : ClassId} {ad : Nat → Nat} {A : Nat → Prop} {hp1 : Nat → Int32} {st1 : Nat → Int32} {tr1 : Nat → Nat → Int32} {sp1 : Nat → Int32} {vis1 : Int32} {day1 : Int32} {z1 : Int32} {hp2 : Nat → Int32} {st2 : Nat → Int32} {tr2 : Nat → Nat → Int32} {sp2 : Nat → Int32} {vis2 : Int32} {day2 : Int32} {z2 : Int32} {tb : Nat → Int32} {tl : Int32} {rtok : Int32} {rbg : Int32} {ren : Int32} {rvl : Int32} {shn : Nat → Nat → Int32} {shb : Nat → Int32} {shz : Nat → Int32} {isK : Int32} {r0 : Int32} {o_hp3 : Nat → Int32} {o_st3 : Nat → Int32} {o_tr3 : Nat → Nat → Int32} {o_sp3 : Nat → Int32} {o_vis3 : Int32} {o_day3 : Int32} {o_z3 : Int32} {o_fd : Nat → Int32} (C0 : CX (XS ta adK adV) p s m args meth c cX4_wideFor 5 (some .int) RX4 A) : ∀ {hp3 : Nat → Int32} {st3 : Nat → Int32} {tr3 : Nat → Nat → Int32} {sp3 : Nat → Int32} {vis3 : Int32} {day3 : Int32} {z3 : Int32} {fd : Nat → Int32} {H : Heap} {locs : List Loc} {ls : Array Slot}, GX (XS ta adK adV) D (tyC cI cB cG cS) A s (wS cI cB cG cS ad hp1 st1 tr1 sp1 vis1 day1 z1 hp2 st2 tr2 sp2 vis2 day2 z2 hp3 st3 tr3 sp3 vis3 day3 z3 tb tl rtok rbg ren rvl shn shb shz fd isK) H locs → lv_has ls 5 [(0, .ref (ad 0))] → j4_wideFor_32  hp1 st1 tr1 sp1 vis1 day1 z1 hp3 st3 tr3 sp3 vis3 day3 z3 fd = some (r0, o_hp3, o_st3, o_tr3, o_sp3, o_vis3, o_day3, o_z3, o_fd) → W p l e ({ frames := 6, cells := 0, slots := 0, locals := 132 }) s m args below meth c H locs 0 0 (MQ below (QcI D (tyC cI cB cG cS) (wS cI cB cG cS ad hp1 st1 tr1 sp1 vis1 day1 z1 hp2 st2 tr2 sp2 vis2 day2 z2 o_hp3 o_st3 o_tr3 o_sp3 o_vis3 o_day3 o_z3 tb tl rtok rbg ren rvl shn shb shz o_fd isK) A r0) args s 0 0 A) (F0 m 32 ls []) := by
  have hx := C0.1
  have hb := C0.2.1
  have hown := C0.2.2.2.2.1
  have hts := C0.2.2.2.2.2.1
  have hX := C0.2.2.2.2.2.2.2.2
  intro hp3 st3 tr3 sp3 vis3 day3 z3 fd H locs ls G hl hf
  unfold j4_wideFor_32 at hf
  refine lv_aload_n hx hb dX4_wideFor_32 rfl (lv_at hl 0 rfl) ?_
  refine lv_iconst (v := (0 : Int32)) hx hb dX4_wideFor_33 (by decide) ?_
  obtain ⟨r4, fd_5, hc6, hf⟩ := ob2_s hf
  refine go_i C0 G (runV_of (n := 1) (q0 := 0) (As := [.int (0 : Int32)]) (rest := []) C0 G (c4_found hX hc6) q208 q49 q205 q207 q0 o4_found ⟨rfl, rfl⟩ ⟨Nat.le_of_ble_eq_true rfl, Nat.le_of_ble_eq_true rfl⟩ rfl rfl rfl hl.1 rfl (Nat.le_of_ble_eq_true rfl) dX4_wideFor_34) (fun H locs G => ?_)
  obtain ⟨rfl, rfl, rfl, rfl, rfl, rfl, rfl, rfl, rfl⟩ := inj9 hf
  exact ret_i C0 G dX4_wideFor_37
set_option maxHeartbeats 4000000 in
set_option maxRecDepth 100000 in
theorem b4_wideFor_45 {ta adK adV : Nat → Nat} {p : Program} {l : Launch} {e : Env} {s : State} {m : MethodId} {args : Array Value} {below : List Frame} {meth : Method} {c : Code} {D : va_G} {cI cB cG cS : ClassId} {ad : Nat → Nat} {A : Nat → Prop} {hp1 : Nat → Int32} {st1 : Nat → Int32} {tr1 : Nat → Nat → Int32} {sp1 : Nat → Int32} {vis1 : Int32} {day1 : Int32} {z1 : Int32} {hp2 : Nat → Int32} {st2 : Nat → Int32} {tr2 : Nat → Nat → Int32} {sp2 : Nat → Int32} {vis2 : Int32} {day2 : Int32} {z2 : Int32} {tb : Nat → Int32} {tl : Int32} {rtok : Int32} {rbg : Int32} {ren : Int32} {rvl : Int32} {shn : Nat → Nat → Int32} {shb : Nat → Int32} {shz : Nat → Int32} {isK : Int32} {r0 : Int32} {o_hp3 : Nat → Int32} {o_st3 : Nat → Int32} {o_tr3 : Nat → Nat → Int32} {o_sp3 : Nat → Int32} {o_vis3 : Int32} {o_day3 : Int32} {o_z3 : Int32} {o_fd : Nat → Int32} (C0 : CX (XS ta adK adV) p s m args meth c cX4_wideFor 5 (some .int) RX4 A) : ∀ (n : Nat) {hp3 : Nat → Int32} {st3 : Nat → Int32} {tr3 : Nat → Nat → Int32} {sp3 : Nat → Int32} {vis3 : Int32} {day3 : Int32} {z3 : Int32} {fd : Nat → Int32} {v1 : Int32} {v2 : Int32} {v3 : Int32} {v4 : Int32} {H : Heap} {locs : List Loc} {ls : Array Slot}, GX (XS ta adK adV) D (tyC cI cB cG cS) A s (wS cI cB cG cS ad hp1 st1 tr1 sp1 vis1 day1 z1 hp2 st2 tr2 sp2 vis2 day2 z2 hp3 st3 tr3 sp3 vis3 day3 z3 tb tl rtok rbg ren rvl shn shb shz fd isK) H locs → lv_has ls 5 [(0, .ref (ad 0)), (1, .int v1), (2, .int v2), (3, .int v3), (4, .int v4)] → l4_wideFor_45  n hp1 st1 tr1 sp1 vis1 day1 z1 hp3 st3 tr3 sp3 vis3 day3 z3 fd v1 v2 v3 v4 = some (r0, o_hp3, o_st3, o_tr3, o_sp3, o_vis3, o_day3, o_z3, o_fd) → W p l e ({ frames := 6, cells := 0, slots := 0, locals := 132 }) s m args below meth c H locs 0 0 (MQ below (QcI D (tyC cI cB cG cS) (wS cI cB cG cS ad hp1 st1 tr1 sp1 vis1 day1 z1 hp2 st2 tr2 sp2 vis2 day2 z2 o_hp3 o_st3 o_tr3 o_sp3 o_vis3 o_day3 o_z3 tb tl rtok rbg ren rvl shn shb shz o_fd isK) A r0) args s 0 0 A) (F0 m 45 ls []) := by
  have hx := C0.1
  have hb := C0.2.1
  have hown := C0.2.2.2.2.1
  have hts := C0.2.2.2.2.2.1
  have hX := C0.2.2.2.2.2.2.2.2
  intro n
  induction n with
  | zero =>
    intro _ _ _ _ _ _ _ _ _ _ _ _ _ _ _ G hl hf
    cases hf
  | succ n ih =>
    intro hp3 st3 tr3 sp3 vis3 day3 z3 fd v1 v2 v3 v4 H locs ls G hl hf
    rw [l4_wideFor_45] at hf
    refine lv_iload hx hb dX4_wideFor_45 (lv_at hl 4 rfl) ?_
    refine s_gets C0 G (xa_4 G.2.2.2.2) q290 dX4_wideFor_47 ?_
    refine lv_iconst (v := (2 : Int32)) hx hb dX4_wideFor_50 (by decide) ?_
    refine s_ti (k := 2) C0 G (xa_4 G.2.2.2.2) (vin (by decide)) (by decide) dX4_wideFor_51 ?_
    refine lv_icmp_lt (tgt := 89) hx hb dX4_wideFor_52 (by decide) (fun hc7 => ?_) (fun hc7 => ?_)
    · have hf := itp hc7 hf
      refine lv_aload_n hx hb dX4_wideFor_89 rfl (lv_at hl 0 rfl) ?_
      refine lv_iconst (v := (3 : Int32)) hx hb dX4_wideFor_90 (by decide) ?_
      obtain ⟨r8, fd_9, hc10, hf⟩ := ob2_s hf
      refine go_i C0 G (runV_of (n := 1) (q0 := 0) (As := [.int (3 : Int32)]) (rest := []) C0 G (c4_found hX hc10) q208 q49 q205 q207 q0 o4_found ⟨rfl, rfl⟩ ⟨Nat.le_of_ble_eq_true rfl, Nat.le_of_ble_eq_true rfl⟩ rfl rfl rfl hl.1 rfl (Nat.le_of_ble_eq_true rfl) dX4_wideFor_91) (fun H locs G => ?_)
      obtain ⟨rfl, rfl, rfl, rfl, rfl, rfl, rfl, rfl, rfl⟩ := inj9 hf
      exact ret_i C0 G dX4_wideFor_94
    · have hf := itn hc7 hf
      refine lv_aload_n hx hb dX4_wideFor_55 rfl (lv_at hl 0 rfl) ?_
      refine lv_iload_n hx hb dX4_wideFor_56 rfl (lv_at hl 1 rfl) ?_
      refine lv_iconst (v := (2 : Int32)) hx hb dX4_wideFor_57 (by decide) ?_
      refine lv_iload hx hb dX4_wideFor_58 (lv_at hl 4 rfl) ?_
      refine lv_iload_n hx hb dX4_wideFor_60 rfl (lv_at hl 3 rfl) ?_
      obtain ⟨hp3_11, st3_12, tr3_13, sp3_14, vis3_15, day3_16, z3_17, hc18, hf⟩ := ob7_s hf
      refine go_v C0 G (runV_of (n := 4) (q0 := 0) (As := [.int v1, .int (2 : Int32), .int v4, .int v3]) (rest := []) C0 G (c4_tryTrait hX hc18) q419 q49 q416 q418 q5 o4_tryTrait ⟨rfl, rfl⟩ ⟨Nat.le_of_ble_eq_true rfl, Nat.le_of_ble_eq_true rfl⟩ rfl rfl rfl hl.1 rfl (Nat.le_of_ble_eq_true rfl) dX4_wideFor_61) (fun H locs G => ?_)
      refine lv_aload_n hx hb dX4_wideFor_64 rfl (lv_at hl 0 rfl) ?_
      refine s_get (C := RX4) (T := TX4) C0 G i_X4 0 2 rfl rfl (by decide) q175 rfl dX4_wideFor_65 ?_
      refine s_get (C := RX0) (T := TX0) C0 G i_X0 25 2 rfl rfl (by decide) q88 rfl dX4_wideFor_68 ?_
      refine lv_bipush (v := (6 : Int32)) hx hb dX4_wideFor_71 (by decide) ?_
      refine s_aldg (k := 6) (b := ad 35) C0 G 28 2 rfl rfl (vin (by decide)) (by decide) rfl dX4_wideFor_73 ?_
      refine lv_iload_n hx hb dX4_wideFor_74 rfl (lv_at hl 1 rfl) ?_
      obtain ⟨hi19, hf⟩ := gd_s hf
      refine s_iald (k := v1.toNatClampNeg) C0 G 35 0 rfl rfl (vin hi19) rfl dX4_wideFor_75 ?_
      refine lv_iload_n hx hb dX4_wideFor_76 rfl (lv_at hl 2 rfl) ?_
      refine lv_icmp_lt (tgt := 83) hx hb dX4_wideFor_77 (by decide) (fun hc20 => ?_) (fun hc20 => ?_)
      · have hf := itp hc20 hf
        refine lv_iinc (v := (v4 + (-1 : Int32))) (lv' := [(4, .int (v4 + (-1 : Int32))), (0, .ref (ad 0)), (1, .int v1), (2, .int v2), (3, .int v3)]) hx hb dX4_wideFor_83 hl (k := 4) rfl rfl (by decide) rfl (fun ls hl => ?_)
        refine lv_goto (tgt := 45) hx hb dX4_wideFor_86 (by decide) ?_
        exact ih G (lv_sub hl [1, 2, 3, 4, 0] rfl) hf
      · have hf := itn hc20 hf
        refine lv_iload hx hb dX4_wideFor_80 (lv_at hl 4 rfl) ?_
        obtain ⟨rfl, rfl, rfl, rfl, rfl, rfl, rfl, rfl, rfl⟩ := inj9 hf
        exact ret_i C0 G dX4_wideFor_82
set_option maxHeartbeats 4000000 in
set_option maxRecDepth 100000 in
theorem b4_wideFor_0 {ta adK adV : Nat → Nat} {p : Program} {l : Launch} {e : Env} {s : State} {m : MethodId} {args : Array Value} {below : List Frame} {meth : Method} {c : Code} {D : va_G} {cI cB cG cS : ClassId} {ad : Nat → Nat} {A : Nat → Prop} {hp1 : Nat → Int32} {st1 : Nat → Int32} {tr1 : Nat → Nat → Int32} {sp1 : Nat → Int32} {vis1 : Int32} {day1 : Int32} {z1 : Int32} {hp2 : Nat → Int32} {st2 : Nat → Int32} {tr2 : Nat → Nat → Int32} {sp2 : Nat → Int32} {vis2 : Int32} {day2 : Int32} {z2 : Int32} {tb : Nat → Int32} {tl : Int32} {rtok : Int32} {rbg : Int32} {ren : Int32} {rvl : Int32} {shn : Nat → Nat → Int32} {shb : Nat → Int32} {shz : Nat → Int32} {isK : Int32} {r0 : Int32} {o_hp3 : Nat → Int32} {o_st3 : Nat → Int32} {o_tr3 : Nat → Nat → Int32} {o_sp3 : Nat → Int32} {o_vis3 : Int32} {o_day3 : Int32} {o_z3 : Int32} {o_fd : Nat → Int32} (C0 : CX (XS ta adK adV) p s m args meth c cX4_wideFor 5 (some .int) RX4 A) : ∀ {hp3 : Nat → Int32} {st3 : Nat → Int32} {tr3 : Nat → Nat → Int32} {sp3 : Nat → Int32} {vis3 : Int32} {day3 : Int32} {z3 : Int32} {fd : Nat → Int32} {v1 : Int32} {v2 : Int32} {v3 : Int32} {H : Heap} {locs : List Loc} {ls : Array Slot}, GX (XS ta adK adV) D (tyC cI cB cG cS) A s (wS cI cB cG cS ad hp1 st1 tr1 sp1 vis1 day1 z1 hp2 st2 tr2 sp2 vis2 day2 z2 hp3 st3 tr3 sp3 vis3 day3 z3 tb tl rtok rbg ren rvl shn shb shz fd isK) H locs → lv_has ls 5 [(0, .ref (ad 0)), (1, .int v1), (2, .int v2), (3, .int v3)] → f4_wideFor hp1 st1 tr1 sp1 vis1 day1 z1 hp3 st3 tr3 sp3 vis3 day3 z3 fd v1 v2 v3 = some (r0, o_hp3, o_st3, o_tr3, o_sp3, o_vis3, o_day3, o_z3, o_fd) → W p l e ({ frames := 6, cells := 0, slots := 0, locals := 132 }) s m args below meth c H locs 0 0 (MQ below (QcI D (tyC cI cB cG cS) (wS cI cB cG cS ad hp1 st1 tr1 sp1 vis1 day1 z1 hp2 st2 tr2 sp2 vis2 day2 z2 o_hp3 o_st3 o_tr3 o_sp3 o_vis3 o_day3 o_z3 tb tl rtok rbg ren rvl shn shb shz o_fd isK) A r0) args s 0 0 A) (F0 m 0 ls []) := by
  have hx := C0.1
  have hb := C0.2.1
  have hown := C0.2.2.2.2.1
  have hts := C0.2.2.2.2.2.1
  have hX := C0.2.2.2.2.2.2.2.2
  intro hp3 st3 tr3 sp3 vis3 day3 z3 fd v1 v2 v3 H locs ls G hl hf
  unfold f4_wideFor at hf
  refine lv_aload_n hx hb dX4_wideFor_0 rfl (lv_at hl 0 rfl) ?_
  refine lv_iload_n hx hb dX4_wideFor_1 rfl (lv_at hl 1 rfl) ?_
  refine go_i C0 G (runV_of (n := 1) (q0 := 0) (As := [.int v1]) (rest := []) C0 G (c4_isVisitor hX rfl) q261 q49 q258 q260 q1 o4_isVisitor ⟨rfl, rfl⟩ ⟨Nat.le_of_ble_eq_true rfl, Nat.le_of_ble_eq_true rfl⟩ rfl rfl rfl hl.1 rfl (Nat.le_of_ble_eq_true rfl) dX4_wideFor_2) (fun H locs G => ?_)
  refine lv_if_eq (tgt := 32) hx hb dX4_wideFor_5 (by decide) (fun hc1 => ?_) (fun hc1 => ?_)
  · have hf := itp hc1 hf
    exact b4_wideFor_32 C0  G (lv_sub hl [0] rfl) hf
  · have hf := itn hc1 hf
    refine lv_iload_n hx hb dX4_wideFor_8 rfl (lv_at hl 2 rfl) ?_
    refine lv_iconst (v := (0 : Int32)) hx hb dX4_wideFor_9 (by decide) ?_
    refine s_gets C0 G (xa_5 G.2.2.2.2) q292 dX4_wideFor_10 ?_
    refine lv_bipush (v := (6 : Int32)) hx hb dX4_wideFor_13 (by decide) ?_
    refine s_ti (k := 6) C0 G (xa_5 G.2.2.2.2) (vin (by decide)) (by decide) dX4_wideFor_15 ?_
    refine go_i C0 G (runS_of (n := 3) (As := [.int v2, .int (0 : Int32), .int (kTM 6)]) (rest := []) C0 G (c4_within hX rfl) q204 q49 q202 q203 o4_within ⟨rfl, rfl⟩ ⟨Nat.le_of_ble_eq_true rfl, Nat.le_of_ble_eq_true rfl⟩ rfl hl.1 rfl (Nat.le_of_ble_eq_true rfl) dX4_wideFor_16) (fun H locs G => ?_)
    refine lv_if_eq (tgt := 32) hx hb dX4_wideFor_19 (by decide) (fun hc2 => ?_) (fun hc2 => ?_)
    · have hf := itp hc2 hf
      exact b4_wideFor_32 C0  G (lv_sub hl [0] rfl) hf
    · have hf := itn hc2 hf
      refine lv_iload_n hx hb dX4_wideFor_22 rfl (lv_at hl 3 rfl) ?_
      refine lv_iconst (v := (0 : Int32)) hx hb dX4_wideFor_23 (by decide) ?_
      refine lv_bipush (v := (40 : Int32)) hx hb dX4_wideFor_24 (by decide) ?_
      refine go_i C0 G (runS_of (n := 3) (As := [.int v3, .int (0 : Int32), .int (40 : Int32)]) (rest := []) C0 G (c4_within hX rfl) q204 q49 q202 q203 o4_within ⟨rfl, rfl⟩ ⟨Nat.le_of_ble_eq_true rfl, Nat.le_of_ble_eq_true rfl⟩ rfl hl.1 rfl (Nat.le_of_ble_eq_true rfl) dX4_wideFor_26) (fun H locs G => ?_)
      refine lv_if_ne (tgt := 38) hx hb dX4_wideFor_29 (by decide) (fun hc3 => ?_) (fun hc3 => ?_)
      · have hf := itn hc3 hf
        refine s_gets C0 G (xa_5 G.2.2.2.2) q292 dX4_wideFor_38 ?_
        refine lv_iconst (v := (2 : Int32)) hx hb dX4_wideFor_41 (by decide) ?_
        refine s_ti (k := 2) C0 G (xa_5 G.2.2.2.2) (vin (by decide)) (by decide) dX4_wideFor_42 ?_
        refine lv_istore (lv' := [(4, .int (kTM 2)), (0, .ref (ad 0)), (1, .int v1), (2, .int v2), (3, .int v3)]) hx hb dX4_wideFor_43 hl (by decide) rfl (fun ls hl => ?_)
        exact b4_wideFor_45 C0  1000 G (lv_sub hl [1, 2, 3, 4, 0] rfl) hf
      · have hf := itp hc3 hf
        exact b4_wideFor_32 C0  G (lv_sub hl [0] rfl) hf
theorem o4_wideFor : okName yX4_wideFor 3 := ⟨by decide, by decide, by decide +kernel⟩
set_option maxHeartbeats 4000000 in
set_option maxRecDepth 100000 in
theorem c4_wideFor {ta adK adV : Nat → Nat} (hX : XT (XS ta adK adV)) {l : Launch} {D : va_G} {cI cB cG cS : ClassId} {ad : Nat → Nat} {sz : Nat} {hp1 : Nat → Int32} {st1 : Nat → Int32} {tr1 : Nat → Nat → Int32} {sp1 : Nat → Int32} {vis1 : Int32} {day1 : Int32} {z1 : Int32} {hp2 : Nat → Int32} {st2 : Nat → Int32} {tr2 : Nat → Nat → Int32} {sp2 : Nat → Int32} {vis2 : Int32} {day2 : Int32} {z2 : Int32} {hp3 : Nat → Int32} {st3 : Nat → Int32} {tr3 : Nat → Nat → Int32} {sp3 : Nat → Int32} {vis3 : Int32} {day3 : Int32} {z3 : Int32} {tb : Nat → Int32} {tl : Int32} {rtok : Int32} {rbg : Int32} {ren : Int32} {rvl : Int32} {shn : Nat → Nat → Int32} {shb : Nat → Int32} {shz : Nat → Int32} {fd : Nat → Int32} {isK : Int32} {v1 : Int32} {v2 : Int32} {v3 : Int32} {r0 : Int32} {o_hp3 : Nat → Int32} {o_st3 : Nat → Int32} {o_tr3 : Nat → Nat → Int32} {o_sp3 : Nat → Int32} {o_vis3 : Int32} {o_day3 : Int32} {o_z3 : Int32} {o_fd : Nat → Int32} (hf : f4_wideFor hp1 st1 tr1 sp1 vis1 day1 z1 hp3 st3 tr3 sp3 vis3 day3 z3 fd v1 v2 v3 = some (r0, o_hp3, o_st3, o_tr3, o_sp3, o_vis3, o_day3, o_z3, o_fd)) : Met l yX4_wideFor (wU yX4_wideFor cX4_wideFor 5 (some .int)) ({ frames := 6, cells := 0, slots := 0, locals := 132 }) (va_Pc [.ref (ad 0), .int v1, .int v2, .int v3] (PreW (XS ta adK adV) D (tyC cI cB cG cS) (wS cI cB cG cS ad hp1 st1 tr1 sp1 vis1 day1 z1 hp2 st2 tr2 sp2 vis2 day2 z2 hp3 st3 tr3 sp3 vis3 day3 z3 tb tl rtok rbg ren rvl shn shb shz fd isK) sz)) (QcI D (tyC cI cB cG cS) (wS cI cB cG cS ad hp1 st1 tr1 sp1 vis1 day1 z1 hp2 st2 tr2 sp2 vis2 day2 z2 o_hp3 o_st3 o_tr3 o_sp3 o_vis3 o_day3 o_z3 tb tl rtok rbg ren rvl shn shb shz o_fd isK) (va_A (wS cI cB cG cS ad hp1 st1 tr1 sp1 vis1 day1 z1 hp2 st2 tr2 sp2 vis2 day2 z2 hp3 st3 tr3 sp3 vis3 day3 z3 tb tl rtok rbg ren rvl shn shb shz fd isK) sz) r0) 0 0 (va_A (wS cI cB cG cS ad hp1 st1 tr1 sp1 vis1 day1 z1 hp2 st2 tr2 sp2 vis2 day2 z2 hp3 st3 tr3 sp3 vis3 day3 z3 tb tl rtok rbg ren rvl shn shb shz fd isK) sz) := by
  refine startW hX (own := RX4) (by decide) rfl (Nat.le_of_ble_eq_true rfl) (fun p e s m args below meth c ls C0 G hl => ?_)
  exact b4_wideFor_0 C0 G hl hf
/-! 4_eachFor -/
theorem dX4_eachFor_0 : decode cX4_eachFor 0 = .ok (.aload_n 0, 1) := by decide +kernel
theorem dX4_eachFor_1 : decode cX4_eachFor 1 = .ok (.iload_n 1, 1) := by decide +kernel
theorem dX4_eachFor_2 : decode cX4_eachFor 2 = .ok (.invokevirtual 73, 3) := by decide +kernel
theorem dX4_eachFor_5 : decode cX4_eachFor 5 = .ok (.ifCond .eq 13, 3) := by decide +kernel
theorem dX4_eachFor_8 : decode cX4_eachFor 8 = .ok (.iload_n 2, 1) := by decide +kernel
theorem dX4_eachFor_9 : decode cX4_eachFor 9 = .ok (.iconst 0, 1) := by decide +kernel
theorem dX4_eachFor_10 : decode cX4_eachFor 10 = .ok (.bipush 40, 2) := by decide +kernel
theorem dX4_eachFor_12 : decode cX4_eachFor 12 = .ok (.invokestatic 45, 3) := by decide +kernel
theorem dX4_eachFor_15 : decode cX4_eachFor 15 = .ok (.ifCond .ne 9, 3) := by decide +kernel
theorem dX4_eachFor_18 : decode cX4_eachFor 18 = .ok (.aload_n 0, 1) := by decide +kernel
theorem dX4_eachFor_19 : decode cX4_eachFor 19 = .ok (.iconst 0, 1) := by decide +kernel
theorem dX4_eachFor_20 : decode cX4_eachFor 20 = .ok (.invokevirtual 49, 3) := by decide +kernel
theorem dX4_eachFor_23 : decode cX4_eachFor 23 = .ok (.ireturn, 1) := by decide +kernel
theorem dX4_eachFor_24 : decode cX4_eachFor 24 = .ok (.getstatic 139, 3) := by decide +kernel
theorem dX4_eachFor_27 : decode cX4_eachFor 27 = .ok (.iconst 4, 1) := by decide +kernel
theorem dX4_eachFor_28 : decode cX4_eachFor 28 = .ok (.iaload, 1) := by decide +kernel
theorem dX4_eachFor_29 : decode cX4_eachFor 29 = .ok (.istore_n 3, 1) := by decide +kernel
theorem dX4_eachFor_30 : decode cX4_eachFor 30 = .ok (.iload_n 3, 1) := by decide +kernel
theorem dX4_eachFor_31 : decode cX4_eachFor 31 = .ok (.getstatic 142, 3) := by decide +kernel
theorem dX4_eachFor_34 : decode cX4_eachFor 34 = .ok (.iconst 4, 1) := by decide +kernel
theorem dX4_eachFor_35 : decode cX4_eachFor 35 = .ok (.iaload, 1) := by decide +kernel
theorem dX4_eachFor_36 : decode cX4_eachFor 36 = .ok (.if_icmp .lt 30, 3) := by decide +kernel
theorem dX4_eachFor_39 : decode cX4_eachFor 39 = .ok (.aload_n 0, 1) := by decide +kernel
theorem dX4_eachFor_40 : decode cX4_eachFor 40 = .ok (.iload_n 1, 1) := by decide +kernel
theorem dX4_eachFor_41 : decode cX4_eachFor 41 = .ok (.iconst 4, 1) := by decide +kernel
theorem dX4_eachFor_42 : decode cX4_eachFor 42 = .ok (.iload_n 3, 1) := by decide +kernel
theorem dX4_eachFor_43 : decode cX4_eachFor 43 = .ok (.iload_n 2, 1) := by decide +kernel
theorem dX4_eachFor_44 : decode cX4_eachFor 44 = .ok (.invokevirtual 145, 3) := by decide +kernel
theorem dX4_eachFor_47 : decode cX4_eachFor 47 = .ok (.aload_n 0, 1) := by decide +kernel
theorem dX4_eachFor_48 : decode cX4_eachFor 48 = .ok (.getfield 19, 3) := by decide +kernel
theorem dX4_eachFor_51 : decode cX4_eachFor 51 = .ok (.iload_n 1, 1) := by decide +kernel
theorem dX4_eachFor_52 : decode cX4_eachFor 52 = .ok (.invokevirtual 86, 3) := by decide +kernel
theorem dX4_eachFor_55 : decode cX4_eachFor 55 = .ok (.ifCond .eq 5, 3) := by decide +kernel
theorem dX4_eachFor_58 : decode cX4_eachFor 58 = .ok (.iload_n 3, 1) := by decide +kernel
theorem dX4_eachFor_59 : decode cX4_eachFor 59 = .ok (.ireturn, 1) := by decide +kernel
theorem dX4_eachFor_60 : decode cX4_eachFor 60 = .ok (.iinc 3 (-1), 3) := by decide +kernel
theorem dX4_eachFor_63 : decode cX4_eachFor 63 = .ok (.goto (-33), 3) := by decide +kernel
theorem dX4_eachFor_66 : decode cX4_eachFor 66 = .ok (.aload_n 0, 1) := by decide +kernel
theorem dX4_eachFor_67 : decode cX4_eachFor 67 = .ok (.iconst 3, 1) := by decide +kernel
theorem dX4_eachFor_68 : decode cX4_eachFor 68 = .ok (.invokevirtual 49, 3) := by decide +kernel
theorem dX4_eachFor_71 : decode cX4_eachFor 71 = .ok (.ireturn, 1) := by decide +kernel
def j4_eachFor_18  (hp1 : Nat → Int32) (st1 : Nat → Int32) (tr1 : Nat → Nat → Int32) (sp1 : Nat → Int32) (vis1 : Int32) (day1 : Int32) (z1 : Int32) (hp3 : Nat → Int32) (st3 : Nat → Int32) (tr3 : Nat → Nat → Int32) (sp3 : Nat → Int32) (vis3 : Int32) (day3 : Int32) (z3 : Int32) (fd : Nat → Int32)  : Option (Int32 × (Nat → Int32) × (Nat → Int32) × (Nat → Nat → Int32) × (Nat → Int32) × Int32 × Int32 × Int32 × (Nat → Int32)) :=
  ob2 (f4_found fd (0 : Int32)) (fun r3 fd_4 =>
  some (r3, hp3, st3, tr3, sp3, vis3, day3, z3, fd_4))
def l4_eachFor_30  : Nat → (Nat → Int32) → (Nat → Int32) → (Nat → Nat → Int32) → (Nat → Int32) → Int32 → Int32 → Int32 → (Nat → Int32) → (Nat → Int32) → (Nat → Nat → Int32) → (Nat → Int32) → Int32 → Int32 → Int32 → (Nat → Int32) → Int32 → Int32 → Int32 → Option (Int32 × (Nat → Int32) × (Nat → Int32) × (Nat → Nat → Int32) × (Nat → Int32) × Int32 × Int32 × Int32 × (Nat → Int32))
  | 0, _, _, _, _, _, _, _, _, _, _, _, _, _, _, _, _, _, _ => none
  | n + 1, hp1, st1, tr1, sp1, vis1, day1, z1, hp3, st3, tr3, sp3, vis3, day3, z3, fd, v1, v2, v3 =>
    if v3 < (kTL 4) then (
      ob2 (f4_found fd (3 : Int32)) (fun r7 fd_8 =>
      some (r7, hp3, st3, tr3, sp3, vis3, day3, z3, fd_8)))
    else (
      ob7 (f4_tryTrait hp1 st1 tr1 sp1 vis1 day1 z1 hp3 st3 tr3 sp3 vis3 day3 z3 v1 (4 : Int32) v3 v2) (fun hp3_10 st3_11 tr3_12 sp3_13 vis3_14 day3_15 z3_16 =>
      ob1 (f0_isUp hp3_10 st3_11 tr3_12 v1) (fun r18 =>
      if r18 = (0 : Int32) then (
        (l4_eachFor_30 n) hp1 st1 tr1 sp1 vis1 day1 z1 hp3_10 st3_11 tr3_12 sp3_13 vis3_14 day3_15 z3_16 fd v1 v2 (v3 + (-1 : Int32)))
      else (
        some (v3, hp3_10, st3_11, tr3_12, sp3_13, vis3_14, day3_15, z3_16, fd)))))
def f4_eachFor (hp1 : Nat → Int32) (st1 : Nat → Int32) (tr1 : Nat → Nat → Int32) (sp1 : Nat → Int32) (vis1 : Int32) (day1 : Int32) (z1 : Int32) (hp3 : Nat → Int32) (st3 : Nat → Int32) (tr3 : Nat → Nat → Int32) (sp3 : Nat → Int32) (vis3 : Int32) (day3 : Int32) (z3 : Int32) (fd : Nat → Int32) (v1 : Int32) (v2 : Int32) : Option (Int32 × (Nat → Int32) × (Nat → Int32) × (Nat → Nat → Int32) × (Nat → Int32) × Int32 × Int32 × Int32 × (Nat → Int32)) :=
  if (f4_isVisitor vis1 v1) = (0 : Int32) then (
    j4_eachFor_18 hp1 st1 tr1 sp1 vis1 day1 z1 hp3 st3 tr3 sp3 vis3 day3 z3 fd)
  else (
    if (f4_within v2 (0 : Int32) (40 : Int32)) = (0 : Int32) then (
      j4_eachFor_18 hp1 st1 tr1 sp1 vis1 day1 z1 hp3 st3 tr3 sp3 vis3 day3 z3 fd)
    else (
      l4_eachFor_30 1000 hp1 st1 tr1 sp1 vis1 day1 z1 hp3 st3 tr3 sp3 vis3 day3 z3 fd v1 v2 (kTM 4)))
set_option maxHeartbeats 4000000 in
set_option maxRecDepth 100000 in
theorem b4_eachFor_18 {ta adK adV : Nat → Nat} {p : Program} {l : Launch} {e : Env} {s : State} {m : MethodId} {args : Array Value} {below : List Frame} {meth : Method} {c : Code} {D : va_G} {cI cB cG cS : ClassId} {ad : Nat → Nat} {A : Nat → Prop} {hp1 : Nat → Int32} {st1 : Nat → Int32} {tr1 : Nat → Nat → Int32} {sp1 : Nat → Int32} {vis1 : Int32} {day1 : Int32} {z1 : Int32} {hp2 : Nat → Int32} {st2 : Nat → Int32} {tr2 : Nat → Nat → Int32} {sp2 : Nat → Int32} {vis2 : Int32} {day2 : Int32} {z2 : Int32} {tb : Nat → Int32} {tl : Int32} {rtok : Int32} {rbg : Int32} {ren : Int32} {rvl : Int32} {shn : Nat → Nat → Int32} {shb : Nat → Int32} {shz : Nat → Int32} {isK : Int32} {r0 : Int32} {o_hp3 : Nat → Int32} {o_st3 : Nat → Int32} {o_tr3 : Nat → Nat → Int32} {o_sp3 : Nat → Int32} {o_vis3 : Int32} {o_day3 : Int32} {o_z3 : Int32} {o_fd : Nat → Int32} (C0 : CX (XS ta adK adV) p s m args meth c cX4_eachFor 4 (some .int) RX4 A) : ∀ {hp3 : Nat → Int32} {st3 : Nat → Int32} {tr3 : Nat → Nat → Int32} {sp3 : Nat → Int32} {vis3 : Int32} {day3 : Int32} {z3 : Int32} {fd : Nat → Int32} {H : Heap} {locs : List Loc} {ls : Array Slot}, GX (XS ta adK adV) D (tyC cI cB cG cS) A s (wS cI cB cG cS ad hp1 st1 tr1 sp1 vis1 day1 z1 hp2 st2 tr2 sp2 vis2 day2 z2 hp3 st3 tr3 sp3 vis3 day3 z3 tb tl rtok rbg ren rvl shn shb shz fd isK) H locs → lv_has ls 4 [(0, .ref (ad 0))] → j4_eachFor_18  hp1 st1 tr1 sp1 vis1 day1 z1 hp3 st3 tr3 sp3 vis3 day3 z3 fd = some (r0, o_hp3, o_st3, o_tr3, o_sp3, o_vis3, o_day3, o_z3, o_fd) → W p l e ({ frames := 6, cells := 0, slots := 0, locals := 132 }) s m args below meth c H locs 0 0 (MQ below (QcI D (tyC cI cB cG cS) (wS cI cB cG cS ad hp1 st1 tr1 sp1 vis1 day1 z1 hp2 st2 tr2 sp2 vis2 day2 z2 o_hp3 o_st3 o_tr3 o_sp3 o_vis3 o_day3 o_z3 tb tl rtok rbg ren rvl shn shb shz o_fd isK) A r0) args s 0 0 A) (F0 m 18 ls []) := by
  have hx := C0.1
  have hb := C0.2.1
  have hown := C0.2.2.2.2.1
  have hts := C0.2.2.2.2.2.1
  have hX := C0.2.2.2.2.2.2.2.2
  intro hp3 st3 tr3 sp3 vis3 day3 z3 fd H locs ls G hl hf
  unfold j4_eachFor_18 at hf
  refine lv_aload_n hx hb dX4_eachFor_18 rfl (lv_at hl 0 rfl) ?_
  refine lv_iconst (v := (0 : Int32)) hx hb dX4_eachFor_19 (by decide) ?_
  obtain ⟨r3, fd_4, hc5, hf⟩ := ob2_s hf
  refine go_i C0 G (runV_of (n := 1) (q0 := 0) (As := [.int (0 : Int32)]) (rest := []) C0 G (c4_found hX hc5) q208 q49 q205 q207 q0 o4_found ⟨rfl, rfl⟩ ⟨Nat.le_of_ble_eq_true rfl, Nat.le_of_ble_eq_true rfl⟩ rfl rfl rfl hl.1 rfl (Nat.le_of_ble_eq_true rfl) dX4_eachFor_20) (fun H locs G => ?_)
  obtain ⟨rfl, rfl, rfl, rfl, rfl, rfl, rfl, rfl, rfl⟩ := inj9 hf
  exact ret_i C0 G dX4_eachFor_23
set_option maxHeartbeats 4000000 in
set_option maxRecDepth 100000 in
theorem b4_eachFor_30 {ta adK adV : Nat → Nat} {p : Program} {l : Launch} {e : Env} {s : State} {m : MethodId} {args : Array Value} {below : List Frame} {meth : Method} {c : Code} {D : va_G} {cI cB cG cS : ClassId} {ad : Nat → Nat} {A : Nat → Prop} {hp1 : Nat → Int32} {st1 : Nat → Int32} {tr1 : Nat → Nat → Int32} {sp1 : Nat → Int32} {vis1 : Int32} {day1 : Int32} {z1 : Int32} {hp2 : Nat → Int32} {st2 : Nat → Int32} {tr2 : Nat → Nat → Int32} {sp2 : Nat → Int32} {vis2 : Int32} {day2 : Int32} {z2 : Int32} {tb : Nat → Int32} {tl : Int32} {rtok : Int32} {rbg : Int32} {ren : Int32} {rvl : Int32} {shn : Nat → Nat → Int32} {shb : Nat → Int32} {shz : Nat → Int32} {isK : Int32} {r0 : Int32} {o_hp3 : Nat → Int32} {o_st3 : Nat → Int32} {o_tr3 : Nat → Nat → Int32} {o_sp3 : Nat → Int32} {o_vis3 : Int32} {o_day3 : Int32} {o_z3 : Int32} {o_fd : Nat → Int32} (C0 : CX (XS ta adK adV) p s m args meth c cX4_eachFor 4 (some .int) RX4 A) : ∀ (n : Nat) {hp3 : Nat → Int32} {st3 : Nat → Int32} {tr3 : Nat → Nat → Int32} {sp3 : Nat → Int32} {vis3 : Int32} {day3 : Int32} {z3 : Int32} {fd : Nat → Int32} {v1 : Int32} {v2 : Int32} {v3 : Int32} {H : Heap} {locs : List Loc} {ls : Array Slot}, GX (XS ta adK adV) D (tyC cI cB cG cS) A s (wS cI cB cG cS ad hp1 st1 tr1 sp1 vis1 day1 z1 hp2 st2 tr2 sp2 vis2 day2 z2 hp3 st3 tr3 sp3 vis3 day3 z3 tb tl rtok rbg ren rvl shn shb shz fd isK) H locs → lv_has ls 4 [(0, .ref (ad 0)), (1, .int v1), (2, .int v2), (3, .int v3)] → l4_eachFor_30  n hp1 st1 tr1 sp1 vis1 day1 z1 hp3 st3 tr3 sp3 vis3 day3 z3 fd v1 v2 v3 = some (r0, o_hp3, o_st3, o_tr3, o_sp3, o_vis3, o_day3, o_z3, o_fd) → W p l e ({ frames := 6, cells := 0, slots := 0, locals := 132 }) s m args below meth c H locs 0 0 (MQ below (QcI D (tyC cI cB cG cS) (wS cI cB cG cS ad hp1 st1 tr1 sp1 vis1 day1 z1 hp2 st2 tr2 sp2 vis2 day2 z2 o_hp3 o_st3 o_tr3 o_sp3 o_vis3 o_day3 o_z3 tb tl rtok rbg ren rvl shn shb shz o_fd isK) A r0) args s 0 0 A) (F0 m 30 ls []) := by
  have hx := C0.1
  have hb := C0.2.1
  have hown := C0.2.2.2.2.1
  have hts := C0.2.2.2.2.2.1
  have hX := C0.2.2.2.2.2.2.2.2
  intro n
  induction n with
  | zero =>
    intro _ _ _ _ _ _ _ _ _ _ _ _ _ _ G hl hf
    cases hf
  | succ n ih =>
    intro hp3 st3 tr3 sp3 vis3 day3 z3 fd v1 v2 v3 H locs ls G hl hf
    rw [l4_eachFor_30] at hf
    refine lv_iload_n hx hb dX4_eachFor_30 rfl (lv_at hl 3 rfl) ?_
    refine s_gets C0 G (xa_4 G.2.2.2.2) q290 dX4_eachFor_31 ?_
    refine lv_iconst (v := (4 : Int32)) hx hb dX4_eachFor_34 (by decide) ?_
    refine s_ti (k := 4) C0 G (xa_4 G.2.2.2.2) (vin (by decide)) (by decide) dX4_eachFor_35 ?_
    refine lv_icmp_lt (tgt := 66) hx hb dX4_eachFor_36 (by decide) (fun hc6 => ?_) (fun hc6 => ?_)
    · have hf := itp hc6 hf
      refine lv_aload_n hx hb dX4_eachFor_66 rfl (lv_at hl 0 rfl) ?_
      refine lv_iconst (v := (3 : Int32)) hx hb dX4_eachFor_67 (by decide) ?_
      obtain ⟨r7, fd_8, hc9, hf⟩ := ob2_s hf
      refine go_i C0 G (runV_of (n := 1) (q0 := 0) (As := [.int (3 : Int32)]) (rest := []) C0 G (c4_found hX hc9) q208 q49 q205 q207 q0 o4_found ⟨rfl, rfl⟩ ⟨Nat.le_of_ble_eq_true rfl, Nat.le_of_ble_eq_true rfl⟩ rfl rfl rfl hl.1 rfl (Nat.le_of_ble_eq_true rfl) dX4_eachFor_68) (fun H locs G => ?_)
      obtain ⟨rfl, rfl, rfl, rfl, rfl, rfl, rfl, rfl, rfl⟩ := inj9 hf
      exact ret_i C0 G dX4_eachFor_71
    · have hf := itn hc6 hf
      refine lv_aload_n hx hb dX4_eachFor_39 rfl (lv_at hl 0 rfl) ?_
      refine lv_iload_n hx hb dX4_eachFor_40 rfl (lv_at hl 1 rfl) ?_
      refine lv_iconst (v := (4 : Int32)) hx hb dX4_eachFor_41 (by decide) ?_
      refine lv_iload_n hx hb dX4_eachFor_42 rfl (lv_at hl 3 rfl) ?_
      refine lv_iload_n hx hb dX4_eachFor_43 rfl (lv_at hl 2 rfl) ?_
      obtain ⟨hp3_10, st3_11, tr3_12, sp3_13, vis3_14, day3_15, z3_16, hc17, hf⟩ := ob7_s hf
      refine go_v C0 G (runV_of (n := 4) (q0 := 0) (As := [.int v1, .int (4 : Int32), .int v3, .int v2]) (rest := []) C0 G (c4_tryTrait hX hc17) q419 q49 q416 q418 q5 o4_tryTrait ⟨rfl, rfl⟩ ⟨Nat.le_of_ble_eq_true rfl, Nat.le_of_ble_eq_true rfl⟩ rfl rfl rfl hl.1 rfl (Nat.le_of_ble_eq_true rfl) dX4_eachFor_44) (fun H locs G => ?_)
      refine lv_aload_n hx hb dX4_eachFor_47 rfl (lv_at hl 0 rfl) ?_
      refine s_get (C := RX4) (T := TX4) C0 G i_X4 0 2 rfl rfl (by decide) q175 rfl dX4_eachFor_48 ?_
      refine lv_iload_n hx hb dX4_eachFor_51 rfl (lv_at hl 1 rfl) ?_
      obtain ⟨r18, hc19, hf⟩ := ob1_s hf
      refine go_i_sub C0 G s_pit3 o_pit3 (runV_sub (n := 1) (q0 := 25) (As := [.int v1]) (rest := []) C0 G s_pit3 (c0_isUp hX hc19) q277 q50 q274 q275 q276 o0_isUp ⟨rfl, rfl⟩ ⟨Nat.le_of_ble_eq_true rfl, Nat.le_of_ble_eq_true rfl⟩ rfl rfl rfl hl.1 rfl (Nat.le_of_ble_eq_true rfl) dX4_eachFor_52) (fun H locs G => ?_)
      refine lv_if_eq (tgt := 60) hx hb dX4_eachFor_55 (by decide) (fun hc20 => ?_) (fun hc20 => ?_)
      · have hf := itp hc20 hf
        refine lv_iinc (v := (v3 + (-1 : Int32))) (lv' := [(3, .int (v3 + (-1 : Int32))), (0, .ref (ad 0)), (1, .int v1), (2, .int v2)]) hx hb dX4_eachFor_60 hl (k := 3) rfl rfl (by decide) rfl (fun ls hl => ?_)
        refine lv_goto (tgt := 30) hx hb dX4_eachFor_63 (by decide) ?_
        exact ih G (lv_sub hl [1, 2, 3, 0] rfl) hf
      · have hf := itn hc20 hf
        refine lv_iload_n hx hb dX4_eachFor_58 rfl (lv_at hl 3 rfl) ?_
        obtain ⟨rfl, rfl, rfl, rfl, rfl, rfl, rfl, rfl, rfl⟩ := inj9 hf
        exact ret_i C0 G dX4_eachFor_59
set_option maxHeartbeats 4000000 in
set_option maxRecDepth 100000 in
theorem b4_eachFor_0 {ta adK adV : Nat → Nat} {p : Program} {l : Launch} {e : Env} {s : State} {m : MethodId} {args : Array Value} {below : List Frame} {meth : Method} {c : Code} {D : va_G} {cI cB cG cS : ClassId} {ad : Nat → Nat} {A : Nat → Prop} {hp1 : Nat → Int32} {st1 : Nat → Int32} {tr1 : Nat → Nat → Int32} {sp1 : Nat → Int32} {vis1 : Int32} {day1 : Int32} {z1 : Int32} {hp2 : Nat → Int32} {st2 : Nat → Int32} {tr2 : Nat → Nat → Int32} {sp2 : Nat → Int32} {vis2 : Int32} {day2 : Int32} {z2 : Int32} {tb : Nat → Int32} {tl : Int32} {rtok : Int32} {rbg : Int32} {ren : Int32} {rvl : Int32} {shn : Nat → Nat → Int32} {shb : Nat → Int32} {shz : Nat → Int32} {isK : Int32} {r0 : Int32} {o_hp3 : Nat → Int32} {o_st3 : Nat → Int32} {o_tr3 : Nat → Nat → Int32} {o_sp3 : Nat → Int32} {o_vis3 : Int32} {o_day3 : Int32} {o_z3 : Int32} {o_fd : Nat → Int32} (C0 : CX (XS ta adK adV) p s m args meth c cX4_eachFor 4 (some .int) RX4 A) : ∀ {hp3 : Nat → Int32} {st3 : Nat → Int32} {tr3 : Nat → Nat → Int32} {sp3 : Nat → Int32} {vis3 : Int32} {day3 : Int32} {z3 : Int32} {fd : Nat → Int32} {v1 : Int32} {v2 : Int32} {H : Heap} {locs : List Loc} {ls : Array Slot}, GX (XS ta adK adV) D (tyC cI cB cG cS) A s (wS cI cB cG cS ad hp1 st1 tr1 sp1 vis1 day1 z1 hp2 st2 tr2 sp2 vis2 day2 z2 hp3 st3 tr3 sp3 vis3 day3 z3 tb tl rtok rbg ren rvl shn shb shz fd isK) H locs → lv_has ls 4 [(0, .ref (ad 0)), (1, .int v1), (2, .int v2)] → f4_eachFor hp1 st1 tr1 sp1 vis1 day1 z1 hp3 st3 tr3 sp3 vis3 day3 z3 fd v1 v2 = some (r0, o_hp3, o_st3, o_tr3, o_sp3, o_vis3, o_day3, o_z3, o_fd) → W p l e ({ frames := 6, cells := 0, slots := 0, locals := 132 }) s m args below meth c H locs 0 0 (MQ below (QcI D (tyC cI cB cG cS) (wS cI cB cG cS ad hp1 st1 tr1 sp1 vis1 day1 z1 hp2 st2 tr2 sp2 vis2 day2 z2 o_hp3 o_st3 o_tr3 o_sp3 o_vis3 o_day3 o_z3 tb tl rtok rbg ren rvl shn shb shz o_fd isK) A r0) args s 0 0 A) (F0 m 0 ls []) := by
  have hx := C0.1
  have hb := C0.2.1
  have hown := C0.2.2.2.2.1
  have hts := C0.2.2.2.2.2.1
  have hX := C0.2.2.2.2.2.2.2.2
  intro hp3 st3 tr3 sp3 vis3 day3 z3 fd v1 v2 H locs ls G hl hf
  unfold f4_eachFor at hf
  refine lv_aload_n hx hb dX4_eachFor_0 rfl (lv_at hl 0 rfl) ?_
  refine lv_iload_n hx hb dX4_eachFor_1 rfl (lv_at hl 1 rfl) ?_
  refine go_i C0 G (runV_of (n := 1) (q0 := 0) (As := [.int v1]) (rest := []) C0 G (c4_isVisitor hX rfl) q261 q49 q258 q260 q1 o4_isVisitor ⟨rfl, rfl⟩ ⟨Nat.le_of_ble_eq_true rfl, Nat.le_of_ble_eq_true rfl⟩ rfl rfl rfl hl.1 rfl (Nat.le_of_ble_eq_true rfl) dX4_eachFor_2) (fun H locs G => ?_)
  refine lv_if_eq (tgt := 18) hx hb dX4_eachFor_5 (by decide) (fun hc1 => ?_) (fun hc1 => ?_)
  · have hf := itp hc1 hf
    exact b4_eachFor_18 C0  G (lv_sub hl [0] rfl) hf
  · have hf := itn hc1 hf
    refine lv_iload_n hx hb dX4_eachFor_8 rfl (lv_at hl 2 rfl) ?_
    refine lv_iconst (v := (0 : Int32)) hx hb dX4_eachFor_9 (by decide) ?_
    refine lv_bipush (v := (40 : Int32)) hx hb dX4_eachFor_10 (by decide) ?_
    refine go_i C0 G (runS_of (n := 3) (As := [.int v2, .int (0 : Int32), .int (40 : Int32)]) (rest := []) C0 G (c4_within hX rfl) q204 q49 q202 q203 o4_within ⟨rfl, rfl⟩ ⟨Nat.le_of_ble_eq_true rfl, Nat.le_of_ble_eq_true rfl⟩ rfl hl.1 rfl (Nat.le_of_ble_eq_true rfl) dX4_eachFor_12) (fun H locs G => ?_)
    refine lv_if_ne (tgt := 24) hx hb dX4_eachFor_15 (by decide) (fun hc2 => ?_) (fun hc2 => ?_)
    · have hf := itn hc2 hf
      refine s_gets C0 G (xa_5 G.2.2.2.2) q292 dX4_eachFor_24 ?_
      refine lv_iconst (v := (4 : Int32)) hx hb dX4_eachFor_27 (by decide) ?_
      refine s_ti (k := 4) C0 G (xa_5 G.2.2.2.2) (vin (by decide)) (by decide) dX4_eachFor_28 ?_
      refine lv_istore_n (lv' := [(3, .int (kTM 4)), (0, .ref (ad 0)), (1, .int v1), (2, .int v2)]) hx hb dX4_eachFor_29 rfl hl (by decide) rfl (fun ls hl => ?_)
      exact b4_eachFor_30 C0  1000 G (lv_sub hl [1, 2, 3, 0] rfl) hf
    · have hf := itp hc2 hf
      exact b4_eachFor_18 C0  G (lv_sub hl [0] rfl) hf
theorem o4_eachFor : okName yX4_eachFor 2 := ⟨by decide, by decide, by decide +kernel⟩
set_option maxHeartbeats 4000000 in
set_option maxRecDepth 100000 in
theorem c4_eachFor {ta adK adV : Nat → Nat} (hX : XT (XS ta adK adV)) {l : Launch} {D : va_G} {cI cB cG cS : ClassId} {ad : Nat → Nat} {sz : Nat} {hp1 : Nat → Int32} {st1 : Nat → Int32} {tr1 : Nat → Nat → Int32} {sp1 : Nat → Int32} {vis1 : Int32} {day1 : Int32} {z1 : Int32} {hp2 : Nat → Int32} {st2 : Nat → Int32} {tr2 : Nat → Nat → Int32} {sp2 : Nat → Int32} {vis2 : Int32} {day2 : Int32} {z2 : Int32} {hp3 : Nat → Int32} {st3 : Nat → Int32} {tr3 : Nat → Nat → Int32} {sp3 : Nat → Int32} {vis3 : Int32} {day3 : Int32} {z3 : Int32} {tb : Nat → Int32} {tl : Int32} {rtok : Int32} {rbg : Int32} {ren : Int32} {rvl : Int32} {shn : Nat → Nat → Int32} {shb : Nat → Int32} {shz : Nat → Int32} {fd : Nat → Int32} {isK : Int32} {v1 : Int32} {v2 : Int32} {r0 : Int32} {o_hp3 : Nat → Int32} {o_st3 : Nat → Int32} {o_tr3 : Nat → Nat → Int32} {o_sp3 : Nat → Int32} {o_vis3 : Int32} {o_day3 : Int32} {o_z3 : Int32} {o_fd : Nat → Int32} (hf : f4_eachFor hp1 st1 tr1 sp1 vis1 day1 z1 hp3 st3 tr3 sp3 vis3 day3 z3 fd v1 v2 = some (r0, o_hp3, o_st3, o_tr3, o_sp3, o_vis3, o_day3, o_z3, o_fd)) : Met l yX4_eachFor (wU yX4_eachFor cX4_eachFor 4 (some .int)) ({ frames := 6, cells := 0, slots := 0, locals := 132 }) (va_Pc [.ref (ad 0), .int v1, .int v2] (PreW (XS ta adK adV) D (tyC cI cB cG cS) (wS cI cB cG cS ad hp1 st1 tr1 sp1 vis1 day1 z1 hp2 st2 tr2 sp2 vis2 day2 z2 hp3 st3 tr3 sp3 vis3 day3 z3 tb tl rtok rbg ren rvl shn shb shz fd isK) sz)) (QcI D (tyC cI cB cG cS) (wS cI cB cG cS ad hp1 st1 tr1 sp1 vis1 day1 z1 hp2 st2 tr2 sp2 vis2 day2 z2 o_hp3 o_st3 o_tr3 o_sp3 o_vis3 o_day3 o_z3 tb tl rtok rbg ren rvl shn shb shz o_fd isK) (va_A (wS cI cB cG cS ad hp1 st1 tr1 sp1 vis1 day1 z1 hp2 st2 tr2 sp2 vis2 day2 z2 hp3 st3 tr3 sp3 vis3 day3 z3 tb tl rtok rbg ren rvl shn shb shz fd isK) sz) r0) 0 0 (va_A (wS cI cB cG cS ad hp1 st1 tr1 sp1 vis1 day1 z1 hp2 st2 tr2 sp2 vis2 day2 z2 hp3 st3 tr3 sp3 vis3 day3 z3 tb tl rtok rbg ren rvl shn shb shz fd isK) sz) := by
  refine startW hX (own := RX4) (by decide) rfl (Nat.le_of_ble_eq_true rfl) (fun p e s m args below meth c ls C0 G hl => ?_)
  exact b4_eachFor_0 C0 G hl hf
/-! 4_kindFor -/
theorem dX4_kindFor_0 : decode cX4_kindFor 0 = .ok (.aload_n 0, 1) := by decide +kernel
theorem dX4_kindFor_1 : decode cX4_kindFor 1 = .ok (.iload_n 1, 1) := by decide +kernel
theorem dX4_kindFor_2 : decode cX4_kindFor 2 = .ok (.invokevirtual 73, 3) := by decide +kernel
theorem dX4_kindFor_5 : decode cX4_kindFor 5 = .ok (.ifCond .eq 13, 3) := by decide +kernel
theorem dX4_kindFor_8 : decode cX4_kindFor 8 = .ok (.iload_n 2, 1) := by decide +kernel
theorem dX4_kindFor_9 : decode cX4_kindFor 9 = .ok (.iconst 0, 1) := by decide +kernel
theorem dX4_kindFor_10 : decode cX4_kindFor 10 = .ok (.bipush 40, 2) := by decide +kernel
theorem dX4_kindFor_12 : decode cX4_kindFor 12 = .ok (.invokestatic 45, 3) := by decide +kernel
theorem dX4_kindFor_15 : decode cX4_kindFor 15 = .ok (.ifCond .ne 9, 3) := by decide +kernel
theorem dX4_kindFor_18 : decode cX4_kindFor 18 = .ok (.aload_n 0, 1) := by decide +kernel
theorem dX4_kindFor_19 : decode cX4_kindFor 19 = .ok (.iconst 0, 1) := by decide +kernel
theorem dX4_kindFor_20 : decode cX4_kindFor 20 = .ok (.invokevirtual 49, 3) := by decide +kernel
theorem dX4_kindFor_23 : decode cX4_kindFor 23 = .ok (.ireturn, 1) := by decide +kernel
theorem dX4_kindFor_24 : decode cX4_kindFor 24 = .ok (.aload_n 0, 1) := by decide +kernel
theorem dX4_kindFor_25 : decode cX4_kindFor 25 = .ok (.iload_n 1, 1) := by decide +kernel
theorem dX4_kindFor_26 : decode cX4_kindFor 26 = .ok (.iconst 0, 1) := by decide +kernel
theorem dX4_kindFor_27 : decode cX4_kindFor 27 = .ok (.iload_n 2, 1) := by decide +kernel
theorem dX4_kindFor_28 : decode cX4_kindFor 28 = .ok (.invokevirtual 135, 3) := by decide +kernel
theorem dX4_kindFor_31 : decode cX4_kindFor 31 = .ok (.ireturn, 1) := by decide +kernel
def j4_kindFor_18  (hp1 : Nat → Int32) (st1 : Nat → Int32) (tr1 : Nat → Nat → Int32) (sp1 : Nat → Int32) (vis1 : Int32) (day1 : Int32) (z1 : Int32) (hp3 : Nat → Int32) (st3 : Nat → Int32) (tr3 : Nat → Nat → Int32) (sp3 : Nat → Int32) (vis3 : Int32) (day3 : Int32) (z3 : Int32) (fd : Nat → Int32)  : Option (Int32 × (Nat → Int32) × (Nat → Int32) × (Nat → Nat → Int32) × (Nat → Int32) × Int32 × Int32 × Int32 × (Nat → Int32)) :=
  ob2 (f4_found fd (0 : Int32)) (fun r12 fd_13 =>
  some (r12, hp3, st3, tr3, sp3, vis3, day3, z3, fd_13))
def f4_kindFor (hp1 : Nat → Int32) (st1 : Nat → Int32) (tr1 : Nat → Nat → Int32) (sp1 : Nat → Int32) (vis1 : Int32) (day1 : Int32) (z1 : Int32) (hp3 : Nat → Int32) (st3 : Nat → Int32) (tr3 : Nat → Nat → Int32) (sp3 : Nat → Int32) (vis3 : Int32) (day3 : Int32) (z3 : Int32) (fd : Nat → Int32) (v1 : Int32) (v2 : Int32) : Option (Int32 × (Nat → Int32) × (Nat → Int32) × (Nat → Nat → Int32) × (Nat → Int32) × Int32 × Int32 × Int32 × (Nat → Int32)) :=
  if (f4_isVisitor vis1 v1) = (0 : Int32) then (
    j4_kindFor_18 hp1 st1 tr1 sp1 vis1 day1 z1 hp3 st3 tr3 sp3 vis3 day3 z3 fd)
  else (
    if (f4_within v2 (0 : Int32) (40 : Int32)) = (0 : Int32) then (
      j4_kindFor_18 hp1 st1 tr1 sp1 vis1 day1 z1 hp3 st3 tr3 sp3 vis3 day3 z3 fd)
    else (
      ob8 (f4_forLongestRoad hp1 st1 tr1 sp1 vis1 day1 z1 hp3 st3 tr3 sp3 vis3 day3 z3 v1 (0 : Int32) v2) (fun r3 hp3_4 st3_5 tr3_6 sp3_7 vis3_8 day3_9 z3_10 =>
      some (r3, hp3_4, st3_5, tr3_6, sp3_7, vis3_8, day3_9, z3_10, fd))))
set_option maxHeartbeats 4000000 in
set_option maxRecDepth 100000 in
theorem b4_kindFor_18 {ta adK adV : Nat → Nat} {p : Program} {l : Launch} {e : Env} {s : State} {m : MethodId} {args : Array Value} {below : List Frame} {meth : Method} {c : Code} {D : va_G} {cI cB cG cS : ClassId} {ad : Nat → Nat} {A : Nat → Prop} {hp1 : Nat → Int32} {st1 : Nat → Int32} {tr1 : Nat → Nat → Int32} {sp1 : Nat → Int32} {vis1 : Int32} {day1 : Int32} {z1 : Int32} {hp2 : Nat → Int32} {st2 : Nat → Int32} {tr2 : Nat → Nat → Int32} {sp2 : Nat → Int32} {vis2 : Int32} {day2 : Int32} {z2 : Int32} {tb : Nat → Int32} {tl : Int32} {rtok : Int32} {rbg : Int32} {ren : Int32} {rvl : Int32} {shn : Nat → Nat → Int32} {shb : Nat → Int32} {shz : Nat → Int32} {isK : Int32} {r0 : Int32} {o_hp3 : Nat → Int32} {o_st3 : Nat → Int32} {o_tr3 : Nat → Nat → Int32} {o_sp3 : Nat → Int32} {o_vis3 : Int32} {o_day3 : Int32} {o_z3 : Int32} {o_fd : Nat → Int32} (C0 : CX (XS ta adK adV) p s m args meth c cX4_kindFor 3 (some .int) RX4 A) : ∀ {hp3 : Nat → Int32} {st3 : Nat → Int32} {tr3 : Nat → Nat → Int32} {sp3 : Nat → Int32} {vis3 : Int32} {day3 : Int32} {z3 : Int32} {fd : Nat → Int32} {H : Heap} {locs : List Loc} {ls : Array Slot}, GX (XS ta adK adV) D (tyC cI cB cG cS) A s (wS cI cB cG cS ad hp1 st1 tr1 sp1 vis1 day1 z1 hp2 st2 tr2 sp2 vis2 day2 z2 hp3 st3 tr3 sp3 vis3 day3 z3 tb tl rtok rbg ren rvl shn shb shz fd isK) H locs → lv_has ls 3 [(0, .ref (ad 0))] → j4_kindFor_18  hp1 st1 tr1 sp1 vis1 day1 z1 hp3 st3 tr3 sp3 vis3 day3 z3 fd = some (r0, o_hp3, o_st3, o_tr3, o_sp3, o_vis3, o_day3, o_z3, o_fd) → W p l e ({ frames := 7, cells := 0, slots := 0, locals := 159 }) s m args below meth c H locs 0 0 (MQ below (QcI D (tyC cI cB cG cS) (wS cI cB cG cS ad hp1 st1 tr1 sp1 vis1 day1 z1 hp2 st2 tr2 sp2 vis2 day2 z2 o_hp3 o_st3 o_tr3 o_sp3 o_vis3 o_day3 o_z3 tb tl rtok rbg ren rvl shn shb shz o_fd isK) A r0) args s 0 0 A) (F0 m 18 ls []) := by
  have hx := C0.1
  have hb := C0.2.1
  have hown := C0.2.2.2.2.1
  have hts := C0.2.2.2.2.2.1
  have hX := C0.2.2.2.2.2.2.2.2
  intro hp3 st3 tr3 sp3 vis3 day3 z3 fd H locs ls G hl hf
  unfold j4_kindFor_18 at hf
  refine lv_aload_n hx hb dX4_kindFor_18 rfl (lv_at hl 0 rfl) ?_
  refine lv_iconst (v := (0 : Int32)) hx hb dX4_kindFor_19 (by decide) ?_
  obtain ⟨r12, fd_13, hc14, hf⟩ := ob2_s hf
  refine go_i C0 G (runV_of (n := 1) (q0 := 0) (As := [.int (0 : Int32)]) (rest := []) C0 G (c4_found hX hc14) q208 q49 q205 q207 q0 o4_found ⟨rfl, rfl⟩ ⟨Nat.le_of_ble_eq_true rfl, Nat.le_of_ble_eq_true rfl⟩ rfl rfl rfl hl.1 rfl (Nat.le_of_ble_eq_true rfl) dX4_kindFor_20) (fun H locs G => ?_)
  obtain ⟨rfl, rfl, rfl, rfl, rfl, rfl, rfl, rfl, rfl⟩ := inj9 hf
  exact ret_i C0 G dX4_kindFor_23
set_option maxHeartbeats 4000000 in
set_option maxRecDepth 100000 in
theorem b4_kindFor_0 {ta adK adV : Nat → Nat} {p : Program} {l : Launch} {e : Env} {s : State} {m : MethodId} {args : Array Value} {below : List Frame} {meth : Method} {c : Code} {D : va_G} {cI cB cG cS : ClassId} {ad : Nat → Nat} {A : Nat → Prop} {hp1 : Nat → Int32} {st1 : Nat → Int32} {tr1 : Nat → Nat → Int32} {sp1 : Nat → Int32} {vis1 : Int32} {day1 : Int32} {z1 : Int32} {hp2 : Nat → Int32} {st2 : Nat → Int32} {tr2 : Nat → Nat → Int32} {sp2 : Nat → Int32} {vis2 : Int32} {day2 : Int32} {z2 : Int32} {tb : Nat → Int32} {tl : Int32} {rtok : Int32} {rbg : Int32} {ren : Int32} {rvl : Int32} {shn : Nat → Nat → Int32} {shb : Nat → Int32} {shz : Nat → Int32} {isK : Int32} {r0 : Int32} {o_hp3 : Nat → Int32} {o_st3 : Nat → Int32} {o_tr3 : Nat → Nat → Int32} {o_sp3 : Nat → Int32} {o_vis3 : Int32} {o_day3 : Int32} {o_z3 : Int32} {o_fd : Nat → Int32} (C0 : CX (XS ta adK adV) p s m args meth c cX4_kindFor 3 (some .int) RX4 A) : ∀ {hp3 : Nat → Int32} {st3 : Nat → Int32} {tr3 : Nat → Nat → Int32} {sp3 : Nat → Int32} {vis3 : Int32} {day3 : Int32} {z3 : Int32} {fd : Nat → Int32} {v1 : Int32} {v2 : Int32} {H : Heap} {locs : List Loc} {ls : Array Slot}, GX (XS ta adK adV) D (tyC cI cB cG cS) A s (wS cI cB cG cS ad hp1 st1 tr1 sp1 vis1 day1 z1 hp2 st2 tr2 sp2 vis2 day2 z2 hp3 st3 tr3 sp3 vis3 day3 z3 tb tl rtok rbg ren rvl shn shb shz fd isK) H locs → lv_has ls 3 [(0, .ref (ad 0)), (1, .int v1), (2, .int v2)] → f4_kindFor hp1 st1 tr1 sp1 vis1 day1 z1 hp3 st3 tr3 sp3 vis3 day3 z3 fd v1 v2 = some (r0, o_hp3, o_st3, o_tr3, o_sp3, o_vis3, o_day3, o_z3, o_fd) → W p l e ({ frames := 7, cells := 0, slots := 0, locals := 159 }) s m args below meth c H locs 0 0 (MQ below (QcI D (tyC cI cB cG cS) (wS cI cB cG cS ad hp1 st1 tr1 sp1 vis1 day1 z1 hp2 st2 tr2 sp2 vis2 day2 z2 o_hp3 o_st3 o_tr3 o_sp3 o_vis3 o_day3 o_z3 tb tl rtok rbg ren rvl shn shb shz o_fd isK) A r0) args s 0 0 A) (F0 m 0 ls []) := by
  have hx := C0.1
  have hb := C0.2.1
  have hown := C0.2.2.2.2.1
  have hts := C0.2.2.2.2.2.1
  have hX := C0.2.2.2.2.2.2.2.2
  intro hp3 st3 tr3 sp3 vis3 day3 z3 fd v1 v2 H locs ls G hl hf
  unfold f4_kindFor at hf
  refine lv_aload_n hx hb dX4_kindFor_0 rfl (lv_at hl 0 rfl) ?_
  refine lv_iload_n hx hb dX4_kindFor_1 rfl (lv_at hl 1 rfl) ?_
  refine go_i C0 G (runV_of (n := 1) (q0 := 0) (As := [.int v1]) (rest := []) C0 G (c4_isVisitor hX rfl) q261 q49 q258 q260 q1 o4_isVisitor ⟨rfl, rfl⟩ ⟨Nat.le_of_ble_eq_true rfl, Nat.le_of_ble_eq_true rfl⟩ rfl rfl rfl hl.1 rfl (Nat.le_of_ble_eq_true rfl) dX4_kindFor_2) (fun H locs G => ?_)
  refine lv_if_eq (tgt := 18) hx hb dX4_kindFor_5 (by decide) (fun hc1 => ?_) (fun hc1 => ?_)
  · have hf := itp hc1 hf
    exact b4_kindFor_18 C0  G (lv_sub hl [0] rfl) hf
  · have hf := itn hc1 hf
    refine lv_iload_n hx hb dX4_kindFor_8 rfl (lv_at hl 2 rfl) ?_
    refine lv_iconst (v := (0 : Int32)) hx hb dX4_kindFor_9 (by decide) ?_
    refine lv_bipush (v := (40 : Int32)) hx hb dX4_kindFor_10 (by decide) ?_
    refine go_i C0 G (runS_of (n := 3) (As := [.int v2, .int (0 : Int32), .int (40 : Int32)]) (rest := []) C0 G (c4_within hX rfl) q204 q49 q202 q203 o4_within ⟨rfl, rfl⟩ ⟨Nat.le_of_ble_eq_true rfl, Nat.le_of_ble_eq_true rfl⟩ rfl hl.1 rfl (Nat.le_of_ble_eq_true rfl) dX4_kindFor_12) (fun H locs G => ?_)
    refine lv_if_ne (tgt := 24) hx hb dX4_kindFor_15 (by decide) (fun hc2 => ?_) (fun hc2 => ?_)
    · have hf := itn hc2 hf
      refine lv_aload_n hx hb dX4_kindFor_24 rfl (lv_at hl 0 rfl) ?_
      refine lv_iload_n hx hb dX4_kindFor_25 rfl (lv_at hl 1 rfl) ?_
      refine lv_iconst (v := (0 : Int32)) hx hb dX4_kindFor_26 (by decide) ?_
      refine lv_iload_n hx hb dX4_kindFor_27 rfl (lv_at hl 2 rfl) ?_
      obtain ⟨r3, hp3_4, st3_5, tr3_6, sp3_7, vis3_8, day3_9, z3_10, hc11, hf⟩ := ob8_s hf
      refine go_i C0 G (runV_of (n := 3) (q0 := 0) (As := [.int v1, .int (0 : Int32), .int v2]) (rest := []) C0 G (c4_forLongestRoad hX hc11) q415 q49 q412 q414 q4 o4_forLongestRoad ⟨rfl, rfl⟩ ⟨Nat.le_of_ble_eq_true rfl, Nat.le_of_ble_eq_true rfl⟩ rfl rfl rfl hl.1 rfl (Nat.le_of_ble_eq_true rfl) dX4_kindFor_28) (fun H locs G => ?_)
      obtain ⟨rfl, rfl, rfl, rfl, rfl, rfl, rfl, rfl, rfl⟩ := inj9 hf
      exact ret_i C0 G dX4_kindFor_31
    · have hf := itp hc2 hf
      exact b4_kindFor_18 C0  G (lv_sub hl [0] rfl) hf
theorem o4_kindFor : okName yX4_kindFor 2 := ⟨by decide, by decide, by decide +kernel⟩
set_option maxHeartbeats 4000000 in
set_option maxRecDepth 100000 in
theorem c4_kindFor {ta adK adV : Nat → Nat} (hX : XT (XS ta adK adV)) {l : Launch} {D : va_G} {cI cB cG cS : ClassId} {ad : Nat → Nat} {sz : Nat} {hp1 : Nat → Int32} {st1 : Nat → Int32} {tr1 : Nat → Nat → Int32} {sp1 : Nat → Int32} {vis1 : Int32} {day1 : Int32} {z1 : Int32} {hp2 : Nat → Int32} {st2 : Nat → Int32} {tr2 : Nat → Nat → Int32} {sp2 : Nat → Int32} {vis2 : Int32} {day2 : Int32} {z2 : Int32} {hp3 : Nat → Int32} {st3 : Nat → Int32} {tr3 : Nat → Nat → Int32} {sp3 : Nat → Int32} {vis3 : Int32} {day3 : Int32} {z3 : Int32} {tb : Nat → Int32} {tl : Int32} {rtok : Int32} {rbg : Int32} {ren : Int32} {rvl : Int32} {shn : Nat → Nat → Int32} {shb : Nat → Int32} {shz : Nat → Int32} {fd : Nat → Int32} {isK : Int32} {v1 : Int32} {v2 : Int32} {r0 : Int32} {o_hp3 : Nat → Int32} {o_st3 : Nat → Int32} {o_tr3 : Nat → Nat → Int32} {o_sp3 : Nat → Int32} {o_vis3 : Int32} {o_day3 : Int32} {o_z3 : Int32} {o_fd : Nat → Int32} (hf : f4_kindFor hp1 st1 tr1 sp1 vis1 day1 z1 hp3 st3 tr3 sp3 vis3 day3 z3 fd v1 v2 = some (r0, o_hp3, o_st3, o_tr3, o_sp3, o_vis3, o_day3, o_z3, o_fd)) : Met l yX4_kindFor (wU yX4_kindFor cX4_kindFor 3 (some .int)) ({ frames := 7, cells := 0, slots := 0, locals := 159 }) (va_Pc [.ref (ad 0), .int v1, .int v2] (PreW (XS ta adK adV) D (tyC cI cB cG cS) (wS cI cB cG cS ad hp1 st1 tr1 sp1 vis1 day1 z1 hp2 st2 tr2 sp2 vis2 day2 z2 hp3 st3 tr3 sp3 vis3 day3 z3 tb tl rtok rbg ren rvl shn shb shz fd isK) sz)) (QcI D (tyC cI cB cG cS) (wS cI cB cG cS ad hp1 st1 tr1 sp1 vis1 day1 z1 hp2 st2 tr2 sp2 vis2 day2 z2 o_hp3 o_st3 o_tr3 o_sp3 o_vis3 o_day3 o_z3 tb tl rtok rbg ren rvl shn shb shz o_fd isK) (va_A (wS cI cB cG cS ad hp1 st1 tr1 sp1 vis1 day1 z1 hp2 st2 tr2 sp2 vis2 day2 z2 hp3 st3 tr3 sp3 vis3 day3 z3 tb tl rtok rbg ren rvl shn shb shz fd isK) sz) r0) 0 0 (va_A (wS cI cB cG cS ad hp1 st1 tr1 sp1 vis1 day1 z1 hp2 st2 tr2 sp2 vis2 day2 z2 hp3 st3 tr3 sp3 vis3 day3 z3 tb tl rtok rbg ren rvl shn shb shz fd isK) sz) := by
  refine startW hX (own := RX4) (by decide) rfl (Nat.le_of_ble_eq_true rfl) (fun p e s m args below meth c ls C0 G hl => ?_)
  exact b4_kindFor_0 C0 G hl hf
/-! 4_windFor -/
theorem dX4_windFor_0 : decode cX4_windFor 0 = .ok (.aload_n 0, 1) := by decide +kernel
theorem dX4_windFor_1 : decode cX4_windFor 1 = .ok (.iload_n 1, 1) := by decide +kernel
theorem dX4_windFor_2 : decode cX4_windFor 2 = .ok (.invokevirtual 73, 3) := by decide +kernel
theorem dX4_windFor_5 : decode cX4_windFor 5 = .ok (.ifCond .eq 13, 3) := by decide +kernel
theorem dX4_windFor_8 : decode cX4_windFor 8 = .ok (.iload_n 2, 1) := by decide +kernel
theorem dX4_windFor_9 : decode cX4_windFor 9 = .ok (.iconst 0, 1) := by decide +kernel
theorem dX4_windFor_10 : decode cX4_windFor 10 = .ok (.bipush 40, 2) := by decide +kernel
theorem dX4_windFor_12 : decode cX4_windFor 12 = .ok (.invokestatic 45, 3) := by decide +kernel
theorem dX4_windFor_15 : decode cX4_windFor 15 = .ok (.ifCond .ne 9, 3) := by decide +kernel
theorem dX4_windFor_18 : decode cX4_windFor 18 = .ok (.aload_n 0, 1) := by decide +kernel
theorem dX4_windFor_19 : decode cX4_windFor 19 = .ok (.iconst 0, 1) := by decide +kernel
theorem dX4_windFor_20 : decode cX4_windFor 20 = .ok (.invokevirtual 49, 3) := by decide +kernel
theorem dX4_windFor_23 : decode cX4_windFor 23 = .ok (.ireturn, 1) := by decide +kernel
theorem dX4_windFor_24 : decode cX4_windFor 24 = .ok (.getstatic 59, 3) := by decide +kernel
theorem dX4_windFor_27 : decode cX4_windFor 27 = .ok (.iconst 1, 1) := by decide +kernel
theorem dX4_windFor_28 : decode cX4_windFor 28 = .ok (.iaload, 1) := by decide +kernel
theorem dX4_windFor_29 : decode cX4_windFor 29 = .ok (.istore_n 3, 1) := by decide +kernel
theorem dX4_windFor_30 : decode cX4_windFor 30 = .ok (.iload_n 3, 1) := by decide +kernel
theorem dX4_windFor_31 : decode cX4_windFor 31 = .ok (.ifCond .lt 52, 3) := by decide +kernel
theorem dX4_windFor_34 : decode cX4_windFor 34 = .ok (.aload_n 0, 1) := by decide +kernel
theorem dX4_windFor_35 : decode cX4_windFor 35 = .ok (.getfield 19, 3) := by decide +kernel
theorem dX4_windFor_38 : decode cX4_windFor 38 = .ok (.aload_n 0, 1) := by decide +kernel
theorem dX4_windFor_39 : decode cX4_windFor 39 = .ok (.getfield 10, 3) := by decide +kernel
theorem dX4_windFor_42 : decode cX4_windFor 42 = .ok (.invokevirtual 128, 3) := by decide +kernel
theorem dX4_windFor_45 : decode cX4_windFor 45 = .ok (.aload_n 0, 1) := by decide +kernel
theorem dX4_windFor_46 : decode cX4_windFor 46 = .ok (.getfield 19, 3) := by decide +kernel
theorem dX4_windFor_49 : decode cX4_windFor 49 = .ok (.getfield 62, 3) := by decide +kernel
theorem dX4_windFor_52 : decode cX4_windFor 52 = .ok (.iconst 1, 1) := by decide +kernel
theorem dX4_windFor_53 : decode cX4_windFor 53 = .ok (.iload_n 3, 1) := by decide +kernel
theorem dX4_windFor_54 : decode cX4_windFor 54 = .ok (.iastore, 1) := by decide +kernel
theorem dX4_windFor_55 : decode cX4_windFor 55 = .ok (.aload_n 0, 1) := by decide +kernel
theorem dX4_windFor_56 : decode cX4_windFor 56 = .ok (.getfield 19, 3) := by decide +kernel
theorem dX4_windFor_59 : decode cX4_windFor 59 = .ok (.iload_n 2, 1) := by decide +kernel
theorem dX4_windFor_60 : decode cX4_windFor 60 = .ok (.iconst 0, 1) := by decide +kernel
theorem dX4_windFor_61 : decode cX4_windFor 61 = .ok (.invokevirtual 105, 3) := by decide +kernel
theorem dX4_windFor_64 : decode cX4_windFor 64 = .ok (.aload_n 0, 1) := by decide +kernel
theorem dX4_windFor_65 : decode cX4_windFor 65 = .ok (.getfield 19, 3) := by decide +kernel
theorem dX4_windFor_68 : decode cX4_windFor 68 = .ok (.iload_n 1, 1) := by decide +kernel
theorem dX4_windFor_69 : decode cX4_windFor 69 = .ok (.invokevirtual 86, 3) := by decide +kernel
theorem dX4_windFor_72 : decode cX4_windFor 72 = .ok (.ifCond .eq 5, 3) := by decide +kernel
theorem dX4_windFor_75 : decode cX4_windFor 75 = .ok (.iload_n 3, 1) := by decide +kernel
theorem dX4_windFor_76 : decode cX4_windFor 76 = .ok (.ireturn, 1) := by decide +kernel
theorem dX4_windFor_77 : decode cX4_windFor 77 = .ok (.iinc 3 (-1), 3) := by decide +kernel
theorem dX4_windFor_80 : decode cX4_windFor 80 = .ok (.goto (-50), 3) := by decide +kernel
theorem dX4_windFor_83 : decode cX4_windFor 83 = .ok (.aload_n 0, 1) := by decide +kernel
theorem dX4_windFor_84 : decode cX4_windFor 84 = .ok (.iconst 3, 1) := by decide +kernel
theorem dX4_windFor_85 : decode cX4_windFor 85 = .ok (.invokevirtual 49, 3) := by decide +kernel
theorem dX4_windFor_88 : decode cX4_windFor 88 = .ok (.ireturn, 1) := by decide +kernel
def j4_windFor_18  (hp1 : Nat → Int32) (st1 : Nat → Int32) (tr1 : Nat → Nat → Int32) (sp1 : Nat → Int32) (vis1 : Int32) (day1 : Int32) (z1 : Int32) (hp3 : Nat → Int32) (st3 : Nat → Int32) (tr3 : Nat → Nat → Int32) (sp3 : Nat → Int32) (vis3 : Int32) (day3 : Int32) (z3 : Int32) (fd : Nat → Int32)  : Option (Int32 × (Nat → Int32) × (Nat → Int32) × (Nat → Nat → Int32) × (Nat → Int32) × Int32 × Int32 × Int32 × (Nat → Int32)) :=
  ob2 (f4_found fd (0 : Int32)) (fun r3 fd_4 =>
  some (r3, hp3, st3, tr3, sp3, vis3, day3, z3, fd_4))
def l4_windFor_30  : Nat → (Nat → Int32) → (Nat → Int32) → (Nat → Nat → Int32) → (Nat → Int32) → Int32 → Int32 → Int32 → (Nat → Int32) → (Nat → Int32) → (Nat → Nat → Int32) → (Nat → Int32) → Int32 → Int32 → Int32 → (Nat → Int32) → Int32 → Int32 → Int32 → Option (Int32 × (Nat → Int32) × (Nat → Int32) × (Nat → Nat → Int32) × (Nat → Int32) × Int32 × Int32 × Int32 × (Nat → Int32))
  | 0, _, _, _, _, _, _, _, _, _, _, _, _, _, _, _, _, _, _ => none
  | n + 1, hp1, st1, tr1, sp1, vis1, day1, z1, hp3, st3, tr3, sp3, vis3, day3, z3, fd, v1, v2, v3 =>
    if v3 < (0 : Int32) then (
      ob2 (f4_found fd (3 : Int32)) (fun r7 fd_8 =>
      some (r7, hp3, st3, tr3, sp3, vis3, day3, z3, fd_8)))
    else (
      ob7 (f0_become hp3 st3 tr3 sp3 vis3 day3 z3 hp1 st1 tr1 sp1 vis1 day1 z1) (fun hp3_10 st3_11 tr3_12 sp3_13 vis3_14 day3_15 z3_16 =>
      ob4 (f0_passDays hp3_10 (upd st3_11 1 v3) tr3_12 vis3_14 day3_15 v2 (0 : Int32)) (fun hp3_18 st3_19 tr3_20 day3_21 =>
      ob1 (f0_isUp hp3_18 st3_19 tr3_20 v1) (fun r23 =>
      if r23 = (0 : Int32) then (
        (l4_windFor_30 n) hp1 st1 tr1 sp1 vis1 day1 z1 hp3_18 st3_19 tr3_20 sp3_13 vis3_14 day3_21 z3_16 fd v1 v2 (v3 + (-1 : Int32)))
      else (
        some (v3, hp3_18, st3_19, tr3_20, sp3_13, vis3_14, day3_21, z3_16, fd))))))
def f4_windFor (hp1 : Nat → Int32) (st1 : Nat → Int32) (tr1 : Nat → Nat → Int32) (sp1 : Nat → Int32) (vis1 : Int32) (day1 : Int32) (z1 : Int32) (hp3 : Nat → Int32) (st3 : Nat → Int32) (tr3 : Nat → Nat → Int32) (sp3 : Nat → Int32) (vis3 : Int32) (day3 : Int32) (z3 : Int32) (fd : Nat → Int32) (v1 : Int32) (v2 : Int32) : Option (Int32 × (Nat → Int32) × (Nat → Int32) × (Nat → Nat → Int32) × (Nat → Int32) × Int32 × Int32 × Int32 × (Nat → Int32)) :=
  if (f4_isVisitor vis1 v1) = (0 : Int32) then (
    j4_windFor_18 hp1 st1 tr1 sp1 vis1 day1 z1 hp3 st3 tr3 sp3 vis3 day3 z3 fd)
  else (
    if (f4_within v2 (0 : Int32) (40 : Int32)) = (0 : Int32) then (
      j4_windFor_18 hp1 st1 tr1 sp1 vis1 day1 z1 hp3 st3 tr3 sp3 vis3 day3 z3 fd)
    else (
      l4_windFor_30 1000 hp1 st1 tr1 sp1 vis1 day1 z1 hp3 st3 tr3 sp3 vis3 day3 z3 fd v1 v2 (kSM 1)))
set_option maxHeartbeats 4000000 in
set_option maxRecDepth 100000 in
theorem b4_windFor_18 {ta adK adV : Nat → Nat} {p : Program} {l : Launch} {e : Env} {s : State} {m : MethodId} {args : Array Value} {below : List Frame} {meth : Method} {c : Code} {D : va_G} {cI cB cG cS : ClassId} {ad : Nat → Nat} {A : Nat → Prop} {hp1 : Nat → Int32} {st1 : Nat → Int32} {tr1 : Nat → Nat → Int32} {sp1 : Nat → Int32} {vis1 : Int32} {day1 : Int32} {z1 : Int32} {hp2 : Nat → Int32} {st2 : Nat → Int32} {tr2 : Nat → Nat → Int32} {sp2 : Nat → Int32} {vis2 : Int32} {day2 : Int32} {z2 : Int32} {tb : Nat → Int32} {tl : Int32} {rtok : Int32} {rbg : Int32} {ren : Int32} {rvl : Int32} {shn : Nat → Nat → Int32} {shb : Nat → Int32} {shz : Nat → Int32} {isK : Int32} {r0 : Int32} {o_hp3 : Nat → Int32} {o_st3 : Nat → Int32} {o_tr3 : Nat → Nat → Int32} {o_sp3 : Nat → Int32} {o_vis3 : Int32} {o_day3 : Int32} {o_z3 : Int32} {o_fd : Nat → Int32} (C0 : CX (XS ta adK adV) p s m args meth c cX4_windFor 4 (some .int) RX4 A) : ∀ {hp3 : Nat → Int32} {st3 : Nat → Int32} {tr3 : Nat → Nat → Int32} {sp3 : Nat → Int32} {vis3 : Int32} {day3 : Int32} {z3 : Int32} {fd : Nat → Int32} {H : Heap} {locs : List Loc} {ls : Array Slot}, GX (XS ta adK adV) D (tyC cI cB cG cS) A s (wS cI cB cG cS ad hp1 st1 tr1 sp1 vis1 day1 z1 hp2 st2 tr2 sp2 vis2 day2 z2 hp3 st3 tr3 sp3 vis3 day3 z3 tb tl rtok rbg ren rvl shn shb shz fd isK) H locs → lv_has ls 4 [(0, .ref (ad 0))] → j4_windFor_18  hp1 st1 tr1 sp1 vis1 day1 z1 hp3 st3 tr3 sp3 vis3 day3 z3 fd = some (r0, o_hp3, o_st3, o_tr3, o_sp3, o_vis3, o_day3, o_z3, o_fd) → W p l e ({ frames := 5, cells := 0, slots := 0, locals := 108 }) s m args below meth c H locs 0 0 (MQ below (QcI D (tyC cI cB cG cS) (wS cI cB cG cS ad hp1 st1 tr1 sp1 vis1 day1 z1 hp2 st2 tr2 sp2 vis2 day2 z2 o_hp3 o_st3 o_tr3 o_sp3 o_vis3 o_day3 o_z3 tb tl rtok rbg ren rvl shn shb shz o_fd isK) A r0) args s 0 0 A) (F0 m 18 ls []) := by
  have hx := C0.1
  have hb := C0.2.1
  have hown := C0.2.2.2.2.1
  have hts := C0.2.2.2.2.2.1
  have hX := C0.2.2.2.2.2.2.2.2
  intro hp3 st3 tr3 sp3 vis3 day3 z3 fd H locs ls G hl hf
  unfold j4_windFor_18 at hf
  refine lv_aload_n hx hb dX4_windFor_18 rfl (lv_at hl 0 rfl) ?_
  refine lv_iconst (v := (0 : Int32)) hx hb dX4_windFor_19 (by decide) ?_
  obtain ⟨r3, fd_4, hc5, hf⟩ := ob2_s hf
  refine go_i C0 G (runV_of (n := 1) (q0 := 0) (As := [.int (0 : Int32)]) (rest := []) C0 G (c4_found hX hc5) q208 q49 q205 q207 q0 o4_found ⟨rfl, rfl⟩ ⟨Nat.le_of_ble_eq_true rfl, Nat.le_of_ble_eq_true rfl⟩ rfl rfl rfl hl.1 rfl (Nat.le_of_ble_eq_true rfl) dX4_windFor_20) (fun H locs G => ?_)
  obtain ⟨rfl, rfl, rfl, rfl, rfl, rfl, rfl, rfl, rfl⟩ := inj9 hf
  exact ret_i C0 G dX4_windFor_23
set_option maxHeartbeats 4000000 in
set_option maxRecDepth 100000 in
theorem b4_windFor_30 {ta adK adV : Nat → Nat} {p : Program} {l : Launch} {e : Env} {s : State} {m : MethodId} {args : Array Value} {below : List Frame} {meth : Method} {c : Code} {D : va_G} {cI cB cG cS : ClassId} {ad : Nat → Nat} {A : Nat → Prop} {hp1 : Nat → Int32} {st1 : Nat → Int32} {tr1 : Nat → Nat → Int32} {sp1 : Nat → Int32} {vis1 : Int32} {day1 : Int32} {z1 : Int32} {hp2 : Nat → Int32} {st2 : Nat → Int32} {tr2 : Nat → Nat → Int32} {sp2 : Nat → Int32} {vis2 : Int32} {day2 : Int32} {z2 : Int32} {tb : Nat → Int32} {tl : Int32} {rtok : Int32} {rbg : Int32} {ren : Int32} {rvl : Int32} {shn : Nat → Nat → Int32} {shb : Nat → Int32} {shz : Nat → Int32} {isK : Int32} {r0 : Int32} {o_hp3 : Nat → Int32} {o_st3 : Nat → Int32} {o_tr3 : Nat → Nat → Int32} {o_sp3 : Nat → Int32} {o_vis3 : Int32} {o_day3 : Int32} {o_z3 : Int32} {o_fd : Nat → Int32} (C0 : CX (XS ta adK adV) p s m args meth c cX4_windFor 4 (some .int) RX4 A) : ∀ (n : Nat) {hp3 : Nat → Int32} {st3 : Nat → Int32} {tr3 : Nat → Nat → Int32} {sp3 : Nat → Int32} {vis3 : Int32} {day3 : Int32} {z3 : Int32} {fd : Nat → Int32} {v1 : Int32} {v2 : Int32} {v3 : Int32} {H : Heap} {locs : List Loc} {ls : Array Slot}, GX (XS ta adK adV) D (tyC cI cB cG cS) A s (wS cI cB cG cS ad hp1 st1 tr1 sp1 vis1 day1 z1 hp2 st2 tr2 sp2 vis2 day2 z2 hp3 st3 tr3 sp3 vis3 day3 z3 tb tl rtok rbg ren rvl shn shb shz fd isK) H locs → lv_has ls 4 [(0, .ref (ad 0)), (1, .int v1), (2, .int v2), (3, .int v3)] → l4_windFor_30  n hp1 st1 tr1 sp1 vis1 day1 z1 hp3 st3 tr3 sp3 vis3 day3 z3 fd v1 v2 v3 = some (r0, o_hp3, o_st3, o_tr3, o_sp3, o_vis3, o_day3, o_z3, o_fd) → W p l e ({ frames := 5, cells := 0, slots := 0, locals := 108 }) s m args below meth c H locs 0 0 (MQ below (QcI D (tyC cI cB cG cS) (wS cI cB cG cS ad hp1 st1 tr1 sp1 vis1 day1 z1 hp2 st2 tr2 sp2 vis2 day2 z2 o_hp3 o_st3 o_tr3 o_sp3 o_vis3 o_day3 o_z3 tb tl rtok rbg ren rvl shn shb shz o_fd isK) A r0) args s 0 0 A) (F0 m 30 ls []) := by
  have hx := C0.1
  have hb := C0.2.1
  have hown := C0.2.2.2.2.1
  have hts := C0.2.2.2.2.2.1
  have hX := C0.2.2.2.2.2.2.2.2
  intro n
  induction n with
  | zero =>
    intro _ _ _ _ _ _ _ _ _ _ _ _ _ _ G hl hf
    cases hf
  | succ n ih =>
    intro hp3 st3 tr3 sp3 vis3 day3 z3 fd v1 v2 v3 H locs ls G hl hf
    rw [l4_windFor_30] at hf
    refine lv_iload_n hx hb dX4_windFor_30 rfl (lv_at hl 3 rfl) ?_
    refine lv_if_lt (tgt := 83) hx hb dX4_windFor_31 (by decide) (fun hc6 => ?_) (fun hc6 => ?_)
    · have hf := itp hc6 hf
      refine lv_aload_n hx hb dX4_windFor_83 rfl (lv_at hl 0 rfl) ?_
      refine lv_iconst (v := (3 : Int32)) hx hb dX4_windFor_84 (by decide) ?_
      obtain ⟨r7, fd_8, hc9, hf⟩ := ob2_s hf
      refine go_i C0 G (runV_of (n := 1) (q0 := 0) (As := [.int (3 : Int32)]) (rest := []) C0 G (c4_found hX hc9) q208 q49 q205 q207 q0 o4_found ⟨rfl, rfl⟩ ⟨Nat.le_of_ble_eq_true rfl, Nat.le_of_ble_eq_true rfl⟩ rfl rfl rfl hl.1 rfl (Nat.le_of_ble_eq_true rfl) dX4_windFor_85) (fun H locs G => ?_)
      obtain ⟨rfl, rfl, rfl, rfl, rfl, rfl, rfl, rfl, rfl⟩ := inj9 hf
      exact ret_i C0 G dX4_windFor_88
    · have hf := itn hc6 hf
      refine lv_aload_n hx hb dX4_windFor_34 rfl (lv_at hl 0 rfl) ?_
      refine s_get (C := RX4) (T := TX4) C0 G i_X4 0 2 rfl rfl (by decide) q175 rfl dX4_windFor_35 ?_
      refine lv_aload_n hx hb dX4_windFor_38 rfl (lv_at hl 0 rfl) ?_
      refine s_get (C := RX4) (T := TX4) C0 G i_X4 0 0 rfl rfl (by decide) q173 rfl dX4_windFor_39 ?_
      obtain ⟨hp3_10, st3_11, tr3_12, sp3_13, vis3_14, day3_15, z3_16, hc17, hf⟩ := ob7_s hf
      refine go_v_sub C0 G s_pp31 o_pp31 (runV_sub (n := 1) (q0 := 25) (As := [.ref (ad 1)]) (rest := []) C0 G s_pp31 (c0_become hX (ad := fun k => ad (25 + k)) (ae := fun k => ad (1 + k))  hc17) q376 q50 q373 q374 q375 o0_become ⟨rfl, rfl⟩ ⟨Nat.le_of_ble_eq_true rfl, Nat.le_of_ble_eq_true rfl⟩ rfl rfl rfl hl.1 rfl (Nat.le_of_ble_eq_true rfl) dX4_windFor_42) (fun H locs G => ?_)
      refine lv_aload_n hx hb dX4_windFor_45 rfl (lv_at hl 0 rfl) ?_
      refine s_get (C := RX4) (T := TX4) C0 G i_X4 0 2 rfl rfl (by decide) q175 rfl dX4_windFor_46 ?_
      refine s_get (C := RX0) (T := TX0) C0 G i_X0 25 1 rfl rfl (by decide) q84 rfl dX4_windFor_49 ?_
      refine lv_iconst (v := (1 : Int32)) hx hb dX4_windFor_52 (by decide) ?_
      refine lv_iload_n hx hb dX4_windFor_53 rfl (lv_at hl 3 rfl) ?_
      refine s_iast (k := 1) (w' := (wS cI cB cG cS ad hp1 st1 tr1 sp1 vis1 day1 z1 hp2 st2 tr2 sp2 vis2 day2 z2 hp3_10 (upd st3_11 1 v3) tr3_12 sp3_13 vis3_14 day3_15 z3_16 tb tl rtok rbg ren rvl shn shb shz fd isK)) C0 G 27 0 rfl rfl (vin (by decide)) (by decide) rfl dX4_windFor_54 (fun H locs G => ?_)
      refine lv_aload_n hx hb dX4_windFor_55 rfl (lv_at hl 0 rfl) ?_
      refine s_get (C := RX4) (T := TX4) C0 G i_X4 0 2 rfl rfl (by decide) q175 rfl dX4_windFor_56 ?_
      refine lv_iload_n hx hb dX4_windFor_59 rfl (lv_at hl 2 rfl) ?_
      refine lv_iconst (v := (0 : Int32)) hx hb dX4_windFor_60 (by decide) ?_
      obtain ⟨hp3_18, st3_19, tr3_20, day3_21, hc22, hf⟩ := ob4_s hf
      refine go_v_sub C0 G s_pit3 o_pit3 (runV_sub (n := 2) (q0 := 25) (As := [.int v2, .int (0 : Int32)]) (rest := []) C0 G s_pit3 (c0_passDays hX hc22) q322 q50 q319 q320 q321 o0_passDays ⟨rfl, rfl⟩ ⟨Nat.le_of_ble_eq_true rfl, Nat.le_of_ble_eq_true rfl⟩ rfl rfl rfl hl.1 rfl (Nat.le_of_ble_eq_true rfl) dX4_windFor_61) (fun H locs G => ?_)
      refine lv_aload_n hx hb dX4_windFor_64 rfl (lv_at hl 0 rfl) ?_
      refine s_get (C := RX4) (T := TX4) C0 G i_X4 0 2 rfl rfl (by decide) q175 rfl dX4_windFor_65 ?_
      refine lv_iload_n hx hb dX4_windFor_68 rfl (lv_at hl 1 rfl) ?_
      obtain ⟨r23, hc24, hf⟩ := ob1_s hf
      refine go_i_sub C0 G s_pit3 o_pit3 (runV_sub (n := 1) (q0 := 25) (As := [.int v1]) (rest := []) C0 G s_pit3 (c0_isUp hX hc24) q277 q50 q274 q275 q276 o0_isUp ⟨rfl, rfl⟩ ⟨Nat.le_of_ble_eq_true rfl, Nat.le_of_ble_eq_true rfl⟩ rfl rfl rfl hl.1 rfl (Nat.le_of_ble_eq_true rfl) dX4_windFor_69) (fun H locs G => ?_)
      refine lv_if_eq (tgt := 77) hx hb dX4_windFor_72 (by decide) (fun hc25 => ?_) (fun hc25 => ?_)
      · have hf := itp hc25 hf
        refine lv_iinc (v := (v3 + (-1 : Int32))) (lv' := [(3, .int (v3 + (-1 : Int32))), (0, .ref (ad 0)), (1, .int v1), (2, .int v2)]) hx hb dX4_windFor_77 hl (k := 3) rfl rfl (by decide) rfl (fun ls hl => ?_)
        refine lv_goto (tgt := 30) hx hb dX4_windFor_80 (by decide) ?_
        exact ih G (lv_sub hl [1, 2, 3, 0] rfl) hf
      · have hf := itn hc25 hf
        refine lv_iload_n hx hb dX4_windFor_75 rfl (lv_at hl 3 rfl) ?_
        obtain ⟨rfl, rfl, rfl, rfl, rfl, rfl, rfl, rfl, rfl⟩ := inj9 hf
        exact ret_i C0 G dX4_windFor_76
set_option maxHeartbeats 4000000 in
set_option maxRecDepth 100000 in
theorem b4_windFor_0 {ta adK adV : Nat → Nat} {p : Program} {l : Launch} {e : Env} {s : State} {m : MethodId} {args : Array Value} {below : List Frame} {meth : Method} {c : Code} {D : va_G} {cI cB cG cS : ClassId} {ad : Nat → Nat} {A : Nat → Prop} {hp1 : Nat → Int32} {st1 : Nat → Int32} {tr1 : Nat → Nat → Int32} {sp1 : Nat → Int32} {vis1 : Int32} {day1 : Int32} {z1 : Int32} {hp2 : Nat → Int32} {st2 : Nat → Int32} {tr2 : Nat → Nat → Int32} {sp2 : Nat → Int32} {vis2 : Int32} {day2 : Int32} {z2 : Int32} {tb : Nat → Int32} {tl : Int32} {rtok : Int32} {rbg : Int32} {ren : Int32} {rvl : Int32} {shn : Nat → Nat → Int32} {shb : Nat → Int32} {shz : Nat → Int32} {isK : Int32} {r0 : Int32} {o_hp3 : Nat → Int32} {o_st3 : Nat → Int32} {o_tr3 : Nat → Nat → Int32} {o_sp3 : Nat → Int32} {o_vis3 : Int32} {o_day3 : Int32} {o_z3 : Int32} {o_fd : Nat → Int32} (C0 : CX (XS ta adK adV) p s m args meth c cX4_windFor 4 (some .int) RX4 A) : ∀ {hp3 : Nat → Int32} {st3 : Nat → Int32} {tr3 : Nat → Nat → Int32} {sp3 : Nat → Int32} {vis3 : Int32} {day3 : Int32} {z3 : Int32} {fd : Nat → Int32} {v1 : Int32} {v2 : Int32} {H : Heap} {locs : List Loc} {ls : Array Slot}, GX (XS ta adK adV) D (tyC cI cB cG cS) A s (wS cI cB cG cS ad hp1 st1 tr1 sp1 vis1 day1 z1 hp2 st2 tr2 sp2 vis2 day2 z2 hp3 st3 tr3 sp3 vis3 day3 z3 tb tl rtok rbg ren rvl shn shb shz fd isK) H locs → lv_has ls 4 [(0, .ref (ad 0)), (1, .int v1), (2, .int v2)] → f4_windFor hp1 st1 tr1 sp1 vis1 day1 z1 hp3 st3 tr3 sp3 vis3 day3 z3 fd v1 v2 = some (r0, o_hp3, o_st3, o_tr3, o_sp3, o_vis3, o_day3, o_z3, o_fd) → W p l e ({ frames := 5, cells := 0, slots := 0, locals := 108 }) s m args below meth c H locs 0 0 (MQ below (QcI D (tyC cI cB cG cS) (wS cI cB cG cS ad hp1 st1 tr1 sp1 vis1 day1 z1 hp2 st2 tr2 sp2 vis2 day2 z2 o_hp3 o_st3 o_tr3 o_sp3 o_vis3 o_day3 o_z3 tb tl rtok rbg ren rvl shn shb shz o_fd isK) A r0) args s 0 0 A) (F0 m 0 ls []) := by
  have hx := C0.1
  have hb := C0.2.1
  have hown := C0.2.2.2.2.1
  have hts := C0.2.2.2.2.2.1
  have hX := C0.2.2.2.2.2.2.2.2
  intro hp3 st3 tr3 sp3 vis3 day3 z3 fd v1 v2 H locs ls G hl hf
  unfold f4_windFor at hf
  refine lv_aload_n hx hb dX4_windFor_0 rfl (lv_at hl 0 rfl) ?_
  refine lv_iload_n hx hb dX4_windFor_1 rfl (lv_at hl 1 rfl) ?_
  refine go_i C0 G (runV_of (n := 1) (q0 := 0) (As := [.int v1]) (rest := []) C0 G (c4_isVisitor hX rfl) q261 q49 q258 q260 q1 o4_isVisitor ⟨rfl, rfl⟩ ⟨Nat.le_of_ble_eq_true rfl, Nat.le_of_ble_eq_true rfl⟩ rfl rfl rfl hl.1 rfl (Nat.le_of_ble_eq_true rfl) dX4_windFor_2) (fun H locs G => ?_)
  refine lv_if_eq (tgt := 18) hx hb dX4_windFor_5 (by decide) (fun hc1 => ?_) (fun hc1 => ?_)
  · have hf := itp hc1 hf
    exact b4_windFor_18 C0  G (lv_sub hl [0] rfl) hf
  · have hf := itn hc1 hf
    refine lv_iload_n hx hb dX4_windFor_8 rfl (lv_at hl 2 rfl) ?_
    refine lv_iconst (v := (0 : Int32)) hx hb dX4_windFor_9 (by decide) ?_
    refine lv_bipush (v := (40 : Int32)) hx hb dX4_windFor_10 (by decide) ?_
    refine go_i C0 G (runS_of (n := 3) (As := [.int v2, .int (0 : Int32), .int (40 : Int32)]) (rest := []) C0 G (c4_within hX rfl) q204 q49 q202 q203 o4_within ⟨rfl, rfl⟩ ⟨Nat.le_of_ble_eq_true rfl, Nat.le_of_ble_eq_true rfl⟩ rfl hl.1 rfl (Nat.le_of_ble_eq_true rfl) dX4_windFor_12) (fun H locs G => ?_)
    refine lv_if_ne (tgt := 24) hx hb dX4_windFor_15 (by decide) (fun hc2 => ?_) (fun hc2 => ?_)
    · have hf := itn hc2 hf
      refine s_gets C0 G (xa_1 G.2.2.2.2) q237 dX4_windFor_24 ?_
      refine lv_iconst (v := (1 : Int32)) hx hb dX4_windFor_27 (by decide) ?_
      refine s_ti (k := 1) C0 G (xa_1 G.2.2.2.2) (vin (by decide)) (by decide) dX4_windFor_28 ?_
      refine lv_istore_n (lv' := [(3, .int (kSM 1)), (0, .ref (ad 0)), (1, .int v1), (2, .int v2)]) hx hb dX4_windFor_29 rfl hl (by decide) rfl (fun ls hl => ?_)
      exact b4_windFor_30 C0  1000 G (lv_sub hl [1, 2, 3, 0] rfl) hf
    · have hf := itp hc2 hf
      exact b4_windFor_18 C0  G (lv_sub hl [0] rfl) hf
theorem o4_windFor : okName yX4_windFor 2 := ⟨by decide, by decide, by decide +kernel⟩
set_option maxHeartbeats 4000000 in
set_option maxRecDepth 100000 in
theorem c4_windFor {ta adK adV : Nat → Nat} (hX : XT (XS ta adK adV)) {l : Launch} {D : va_G} {cI cB cG cS : ClassId} {ad : Nat → Nat} {sz : Nat} {hp1 : Nat → Int32} {st1 : Nat → Int32} {tr1 : Nat → Nat → Int32} {sp1 : Nat → Int32} {vis1 : Int32} {day1 : Int32} {z1 : Int32} {hp2 : Nat → Int32} {st2 : Nat → Int32} {tr2 : Nat → Nat → Int32} {sp2 : Nat → Int32} {vis2 : Int32} {day2 : Int32} {z2 : Int32} {hp3 : Nat → Int32} {st3 : Nat → Int32} {tr3 : Nat → Nat → Int32} {sp3 : Nat → Int32} {vis3 : Int32} {day3 : Int32} {z3 : Int32} {tb : Nat → Int32} {tl : Int32} {rtok : Int32} {rbg : Int32} {ren : Int32} {rvl : Int32} {shn : Nat → Nat → Int32} {shb : Nat → Int32} {shz : Nat → Int32} {fd : Nat → Int32} {isK : Int32} {v1 : Int32} {v2 : Int32} {r0 : Int32} {o_hp3 : Nat → Int32} {o_st3 : Nat → Int32} {o_tr3 : Nat → Nat → Int32} {o_sp3 : Nat → Int32} {o_vis3 : Int32} {o_day3 : Int32} {o_z3 : Int32} {o_fd : Nat → Int32} (hf : f4_windFor hp1 st1 tr1 sp1 vis1 day1 z1 hp3 st3 tr3 sp3 vis3 day3 z3 fd v1 v2 = some (r0, o_hp3, o_st3, o_tr3, o_sp3, o_vis3, o_day3, o_z3, o_fd)) : Met l yX4_windFor (wU yX4_windFor cX4_windFor 4 (some .int)) ({ frames := 5, cells := 0, slots := 0, locals := 108 }) (va_Pc [.ref (ad 0), .int v1, .int v2] (PreW (XS ta adK adV) D (tyC cI cB cG cS) (wS cI cB cG cS ad hp1 st1 tr1 sp1 vis1 day1 z1 hp2 st2 tr2 sp2 vis2 day2 z2 hp3 st3 tr3 sp3 vis3 day3 z3 tb tl rtok rbg ren rvl shn shb shz fd isK) sz)) (QcI D (tyC cI cB cG cS) (wS cI cB cG cS ad hp1 st1 tr1 sp1 vis1 day1 z1 hp2 st2 tr2 sp2 vis2 day2 z2 o_hp3 o_st3 o_tr3 o_sp3 o_vis3 o_day3 o_z3 tb tl rtok rbg ren rvl shn shb shz o_fd isK) (va_A (wS cI cB cG cS ad hp1 st1 tr1 sp1 vis1 day1 z1 hp2 st2 tr2 sp2 vis2 day2 z2 hp3 st3 tr3 sp3 vis3 day3 z3 tb tl rtok rbg ren rvl shn shb shz fd isK) sz) r0) 0 0 (va_A (wS cI cB cG cS ad hp1 st1 tr1 sp1 vis1 day1 z1 hp2 st2 tr2 sp2 vis2 day2 z2 hp3 st3 tr3 sp3 vis3 day3 z3 tb tl rtok rbg ren rvl shn shb shz fd isK) sz) := by
  refine startW hX (own := RX4) (by decide) rfl (Nat.le_of_ble_eq_true rfl) (fun p e s m args below meth c ls C0 G hl => ?_)
  exact b4_windFor_0 C0 G hl hf
/-! 6_bitCount -/
theorem dJ6_bitCount_0f7a4_0 : decode cJ6_bitCount_0f7a4 0 = .ok (.iload_n 0, 1) := by decide +kernel
theorem dJ6_bitCount_0f7a4_1 : decode cJ6_bitCount_0f7a4 1 = .ok (.iload_n 0, 1) := by decide +kernel
theorem dJ6_bitCount_0f7a4_2 : decode cJ6_bitCount_0f7a4 2 = .ok (.iconst 1, 1) := by decide +kernel
theorem dJ6_bitCount_0f7a4_3 : decode cJ6_bitCount_0f7a4 3 = .ok (.iushr, 1) := by decide +kernel
theorem dJ6_bitCount_0f7a4_4 : decode cJ6_bitCount_0f7a4 4 = .ok (.ldc_w 265, 3) := by decide +kernel
theorem dJ6_bitCount_0f7a4_7 : decode cJ6_bitCount_0f7a4 7 = .ok (.iand, 1) := by decide +kernel
theorem dJ6_bitCount_0f7a4_8 : decode cJ6_bitCount_0f7a4 8 = .ok (.isub, 1) := by decide +kernel
theorem dJ6_bitCount_0f7a4_9 : decode cJ6_bitCount_0f7a4 9 = .ok (.istore_n 0, 1) := by decide +kernel
theorem dJ6_bitCount_0f7a4_10 : decode cJ6_bitCount_0f7a4 10 = .ok (.iload_n 0, 1) := by decide +kernel
theorem dJ6_bitCount_0f7a4_11 : decode cJ6_bitCount_0f7a4 11 = .ok (.ldc_w 266, 3) := by decide +kernel
theorem dJ6_bitCount_0f7a4_14 : decode cJ6_bitCount_0f7a4 14 = .ok (.iand, 1) := by decide +kernel
theorem dJ6_bitCount_0f7a4_15 : decode cJ6_bitCount_0f7a4 15 = .ok (.iload_n 0, 1) := by decide +kernel
theorem dJ6_bitCount_0f7a4_16 : decode cJ6_bitCount_0f7a4 16 = .ok (.iconst 2, 1) := by decide +kernel
theorem dJ6_bitCount_0f7a4_17 : decode cJ6_bitCount_0f7a4 17 = .ok (.iushr, 1) := by decide +kernel
theorem dJ6_bitCount_0f7a4_18 : decode cJ6_bitCount_0f7a4 18 = .ok (.ldc_w 266, 3) := by decide +kernel
theorem dJ6_bitCount_0f7a4_21 : decode cJ6_bitCount_0f7a4 21 = .ok (.iand, 1) := by decide +kernel
theorem dJ6_bitCount_0f7a4_22 : decode cJ6_bitCount_0f7a4 22 = .ok (.iadd, 1) := by decide +kernel
theorem dJ6_bitCount_0f7a4_23 : decode cJ6_bitCount_0f7a4 23 = .ok (.istore_n 0, 1) := by decide +kernel
theorem dJ6_bitCount_0f7a4_24 : decode cJ6_bitCount_0f7a4 24 = .ok (.iload_n 0, 1) := by decide +kernel
theorem dJ6_bitCount_0f7a4_25 : decode cJ6_bitCount_0f7a4 25 = .ok (.iload_n 0, 1) := by decide +kernel
theorem dJ6_bitCount_0f7a4_26 : decode cJ6_bitCount_0f7a4 26 = .ok (.iconst 4, 1) := by decide +kernel
theorem dJ6_bitCount_0f7a4_27 : decode cJ6_bitCount_0f7a4 27 = .ok (.iushr, 1) := by decide +kernel
theorem dJ6_bitCount_0f7a4_28 : decode cJ6_bitCount_0f7a4 28 = .ok (.iadd, 1) := by decide +kernel
theorem dJ6_bitCount_0f7a4_29 : decode cJ6_bitCount_0f7a4 29 = .ok (.ldc_w 267, 3) := by decide +kernel
theorem dJ6_bitCount_0f7a4_32 : decode cJ6_bitCount_0f7a4 32 = .ok (.iand, 1) := by decide +kernel
theorem dJ6_bitCount_0f7a4_33 : decode cJ6_bitCount_0f7a4 33 = .ok (.istore_n 0, 1) := by decide +kernel
theorem dJ6_bitCount_0f7a4_34 : decode cJ6_bitCount_0f7a4 34 = .ok (.iload_n 0, 1) := by decide +kernel
theorem dJ6_bitCount_0f7a4_35 : decode cJ6_bitCount_0f7a4 35 = .ok (.iload_n 0, 1) := by decide +kernel
theorem dJ6_bitCount_0f7a4_36 : decode cJ6_bitCount_0f7a4 36 = .ok (.bipush 8, 2) := by decide +kernel
theorem dJ6_bitCount_0f7a4_38 : decode cJ6_bitCount_0f7a4 38 = .ok (.iushr, 1) := by decide +kernel
theorem dJ6_bitCount_0f7a4_39 : decode cJ6_bitCount_0f7a4 39 = .ok (.iadd, 1) := by decide +kernel
theorem dJ6_bitCount_0f7a4_40 : decode cJ6_bitCount_0f7a4 40 = .ok (.istore_n 0, 1) := by decide +kernel
theorem dJ6_bitCount_0f7a4_41 : decode cJ6_bitCount_0f7a4 41 = .ok (.iload_n 0, 1) := by decide +kernel
theorem dJ6_bitCount_0f7a4_42 : decode cJ6_bitCount_0f7a4 42 = .ok (.iload_n 0, 1) := by decide +kernel
theorem dJ6_bitCount_0f7a4_43 : decode cJ6_bitCount_0f7a4 43 = .ok (.bipush 16, 2) := by decide +kernel
theorem dJ6_bitCount_0f7a4_45 : decode cJ6_bitCount_0f7a4 45 = .ok (.iushr, 1) := by decide +kernel
theorem dJ6_bitCount_0f7a4_46 : decode cJ6_bitCount_0f7a4 46 = .ok (.iadd, 1) := by decide +kernel
theorem dJ6_bitCount_0f7a4_47 : decode cJ6_bitCount_0f7a4 47 = .ok (.istore_n 0, 1) := by decide +kernel
theorem dJ6_bitCount_0f7a4_48 : decode cJ6_bitCount_0f7a4 48 = .ok (.iload_n 0, 1) := by decide +kernel
theorem dJ6_bitCount_0f7a4_49 : decode cJ6_bitCount_0f7a4 49 = .ok (.bipush 63, 2) := by decide +kernel
theorem dJ6_bitCount_0f7a4_51 : decode cJ6_bitCount_0f7a4 51 = .ok (.iand, 1) := by decide +kernel
theorem dJ6_bitCount_0f7a4_52 : decode cJ6_bitCount_0f7a4 52 = .ok (.ireturn, 1) := by decide +kernel
def f6_bitCount  (v0 : Int32) : Int32 :=
  ((((((((v0 - (((v0).toUInt32 >>> (((1 : Int32)).toUInt32 &&& Int32.toUInt32 31)).toInt32 &&& (1431655765 : Int32))) &&& (858993459 : Int32)) + ((((v0 - (((v0).toUInt32 >>> (((1 : Int32)).toUInt32 &&& Int32.toUInt32 31)).toInt32 &&& (1431655765 : Int32)))).toUInt32 >>> (((2 : Int32)).toUInt32 &&& Int32.toUInt32 31)).toInt32 &&& (858993459 : Int32))) + (((((v0 - (((v0).toUInt32 >>> (((1 : Int32)).toUInt32 &&& Int32.toUInt32 31)).toInt32 &&& (1431655765 : Int32))) &&& (858993459 : Int32)) + ((((v0 - (((v0).toUInt32 >>> (((1 : Int32)).toUInt32 &&& Int32.toUInt32 31)).toInt32 &&& (1431655765 : Int32)))).toUInt32 >>> (((2 : Int32)).toUInt32 &&& Int32.toUInt32 31)).toInt32 &&& (858993459 : Int32)))).toUInt32 >>> (((4 : Int32)).toUInt32 &&& Int32.toUInt32 31)).toInt32) &&& (252645135 : Int32)) + (((((((v0 - (((v0).toUInt32 >>> (((1 : Int32)).toUInt32 &&& Int32.toUInt32 31)).toInt32 &&& (1431655765 : Int32))) &&& (858993459 : Int32)) + ((((v0 - (((v0).toUInt32 >>> (((1 : Int32)).toUInt32 &&& Int32.toUInt32 31)).toInt32 &&& (1431655765 : Int32)))).toUInt32 >>> (((2 : Int32)).toUInt32 &&& Int32.toUInt32 31)).toInt32 &&& (858993459 : Int32))) + (((((v0 - (((v0).toUInt32 >>> (((1 : Int32)).toUInt32 &&& Int32.toUInt32 31)).toInt32 &&& (1431655765 : Int32))) &&& (858993459 : Int32)) + ((((v0 - (((v0).toUInt32 >>> (((1 : Int32)).toUInt32 &&& Int32.toUInt32 31)).toInt32 &&& (1431655765 : Int32)))).toUInt32 >>> (((2 : Int32)).toUInt32 &&& Int32.toUInt32 31)).toInt32 &&& (858993459 : Int32)))).toUInt32 >>> (((4 : Int32)).toUInt32 &&& Int32.toUInt32 31)).toInt32) &&& (252645135 : Int32))).toUInt32 >>> (((8 : Int32)).toUInt32 &&& Int32.toUInt32 31)).toInt32) + ((((((((v0 - (((v0).toUInt32 >>> (((1 : Int32)).toUInt32 &&& Int32.toUInt32 31)).toInt32 &&& (1431655765 : Int32))) &&& (858993459 : Int32)) + ((((v0 - (((v0).toUInt32 >>> (((1 : Int32)).toUInt32 &&& Int32.toUInt32 31)).toInt32 &&& (1431655765 : Int32)))).toUInt32 >>> (((2 : Int32)).toUInt32 &&& Int32.toUInt32 31)).toInt32 &&& (858993459 : Int32))) + (((((v0 - (((v0).toUInt32 >>> (((1 : Int32)).toUInt32 &&& Int32.toUInt32 31)).toInt32 &&& (1431655765 : Int32))) &&& (858993459 : Int32)) + ((((v0 - (((v0).toUInt32 >>> (((1 : Int32)).toUInt32 &&& Int32.toUInt32 31)).toInt32 &&& (1431655765 : Int32)))).toUInt32 >>> (((2 : Int32)).toUInt32 &&& Int32.toUInt32 31)).toInt32 &&& (858993459 : Int32)))).toUInt32 >>> (((4 : Int32)).toUInt32 &&& Int32.toUInt32 31)).toInt32) &&& (252645135 : Int32)) + (((((((v0 - (((v0).toUInt32 >>> (((1 : Int32)).toUInt32 &&& Int32.toUInt32 31)).toInt32 &&& (1431655765 : Int32))) &&& (858993459 : Int32)) + ((((v0 - (((v0).toUInt32 >>> (((1 : Int32)).toUInt32 &&& Int32.toUInt32 31)).toInt32 &&& (1431655765 : Int32)))).toUInt32 >>> (((2 : Int32)).toUInt32 &&& Int32.toUInt32 31)).toInt32 &&& (858993459 : Int32))) + (((((v0 - (((v0).toUInt32 >>> (((1 : Int32)).toUInt32 &&& Int32.toUInt32 31)).toInt32 &&& (1431655765 : Int32))) &&& (858993459 : Int32)) + ((((v0 - (((v0).toUInt32 >>> (((1 : Int32)).toUInt32 &&& Int32.toUInt32 31)).toInt32 &&& (1431655765 : Int32)))).toUInt32 >>> (((2 : Int32)).toUInt32 &&& Int32.toUInt32 31)).toInt32 &&& (858993459 : Int32)))).toUInt32 >>> (((4 : Int32)).toUInt32 &&& Int32.toUInt32 31)).toInt32) &&& (252645135 : Int32))).toUInt32 >>> (((8 : Int32)).toUInt32 &&& Int32.toUInt32 31)).toInt32)).toUInt32 >>> (((16 : Int32)).toUInt32 &&& Int32.toUInt32 31)).toInt32) &&& (63 : Int32))
set_option maxHeartbeats 4000000 in
set_option maxRecDepth 100000 in
theorem b6_bitCount_0 {ta adK adV : Nat → Nat} {p : Program} {l : Launch} {e : Env} {s : State} {m : MethodId} {args : Array Value} {below : List Frame} {meth : Method} {c : Code} {D : va_G} {tys : List (ClassId × FieldType)} {w0 : va_W} {A : Nat → Prop}  {r0 : Int32} (C0 : CX (XS ta adK adV) p s m args meth c cJ6_bitCount_0f7a4 1 (some .int) RJ6 A) : ∀ {v0 : Int32} {H : Heap} {locs : List Loc} {ls : Array Slot}, GX (XS ta adK adV) D tys A s w0 H locs → lv_has ls 1 [(0, .int v0)] → f6_bitCount v0 = r0 → W p l e ({ frames := 0, cells := 0, slots := 0, locals := 0 }) s m args below meth c H locs 0 0 (MQ below (QcI D tys w0 A r0) args s 0 0 A) (F0 m 0 ls []) := by
  have hx := C0.1
  have hb := C0.2.1
  have hown := C0.2.2.2.2.1
  have hts := C0.2.2.2.2.2.1
  have hX := C0.2.2.2.2.2.2.2.2
  intro v0 H locs ls G hl hf
  unfold f6_bitCount at hf
  refine lv_iload_n hx hb dJ6_bitCount_0f7a4_0 rfl (lv_at hl 0 rfl) ?_
  refine lv_iload_n hx hb dJ6_bitCount_0f7a4_1 rfl (lv_at hl 0 rfl) ?_
  refine lv_iconst (v := (1 : Int32)) hx hb dJ6_bitCount_0f7a4_2 (by decide) ?_
  refine lv_iushr hx hb dJ6_bitCount_0f7a4_3 rfl ?_
  refine lv_ldcw (v := (1431655765 : Int32)) hx hb hown (hts _ q443) dJ6_bitCount_0f7a4_4 ?_
  refine lv_iand hx hb dJ6_bitCount_0f7a4_7 ?_
  refine lv_isub hx hb dJ6_bitCount_0f7a4_8 ?_
  refine lv_istore_n (lv' := [(0, .int (v0 - (((v0).toUInt32 >>> (((1 : Int32)).toUInt32 &&& Int32.toUInt32 31)).toInt32 &&& (1431655765 : Int32))))]) hx hb dJ6_bitCount_0f7a4_9 rfl hl (by decide) rfl (fun ls hl => ?_)
  refine lv_iload_n hx hb dJ6_bitCount_0f7a4_10 rfl (lv_at hl 0 rfl) ?_
  refine lv_ldcw (v := (858993459 : Int32)) hx hb hown (hts _ q444) dJ6_bitCount_0f7a4_11 ?_
  refine lv_iand hx hb dJ6_bitCount_0f7a4_14 ?_
  refine lv_iload_n hx hb dJ6_bitCount_0f7a4_15 rfl (lv_at hl 0 rfl) ?_
  refine lv_iconst (v := (2 : Int32)) hx hb dJ6_bitCount_0f7a4_16 (by decide) ?_
  refine lv_iushr hx hb dJ6_bitCount_0f7a4_17 rfl ?_
  refine lv_ldcw (v := (858993459 : Int32)) hx hb hown (hts _ q444) dJ6_bitCount_0f7a4_18 ?_
  refine lv_iand hx hb dJ6_bitCount_0f7a4_21 ?_
  refine lv_iadd hx hb dJ6_bitCount_0f7a4_22 ?_
  refine lv_istore_n (lv' := [(0, .int (((v0 - (((v0).toUInt32 >>> (((1 : Int32)).toUInt32 &&& Int32.toUInt32 31)).toInt32 &&& (1431655765 : Int32))) &&& (858993459 : Int32)) + ((((v0 - (((v0).toUInt32 >>> (((1 : Int32)).toUInt32 &&& Int32.toUInt32 31)).toInt32 &&& (1431655765 : Int32)))).toUInt32 >>> (((2 : Int32)).toUInt32 &&& Int32.toUInt32 31)).toInt32 &&& (858993459 : Int32))))]) hx hb dJ6_bitCount_0f7a4_23 rfl hl (by decide) rfl (fun ls hl => ?_)
  refine lv_iload_n hx hb dJ6_bitCount_0f7a4_24 rfl (lv_at hl 0 rfl) ?_
  refine lv_iload_n hx hb dJ6_bitCount_0f7a4_25 rfl (lv_at hl 0 rfl) ?_
  refine lv_iconst (v := (4 : Int32)) hx hb dJ6_bitCount_0f7a4_26 (by decide) ?_
  refine lv_iushr hx hb dJ6_bitCount_0f7a4_27 rfl ?_
  refine lv_iadd hx hb dJ6_bitCount_0f7a4_28 ?_
  refine lv_ldcw (v := (252645135 : Int32)) hx hb hown (hts _ q445) dJ6_bitCount_0f7a4_29 ?_
  refine lv_iand hx hb dJ6_bitCount_0f7a4_32 ?_
  refine lv_istore_n (lv' := [(0, .int (((((v0 - (((v0).toUInt32 >>> (((1 : Int32)).toUInt32 &&& Int32.toUInt32 31)).toInt32 &&& (1431655765 : Int32))) &&& (858993459 : Int32)) + ((((v0 - (((v0).toUInt32 >>> (((1 : Int32)).toUInt32 &&& Int32.toUInt32 31)).toInt32 &&& (1431655765 : Int32)))).toUInt32 >>> (((2 : Int32)).toUInt32 &&& Int32.toUInt32 31)).toInt32 &&& (858993459 : Int32))) + (((((v0 - (((v0).toUInt32 >>> (((1 : Int32)).toUInt32 &&& Int32.toUInt32 31)).toInt32 &&& (1431655765 : Int32))) &&& (858993459 : Int32)) + ((((v0 - (((v0).toUInt32 >>> (((1 : Int32)).toUInt32 &&& Int32.toUInt32 31)).toInt32 &&& (1431655765 : Int32)))).toUInt32 >>> (((2 : Int32)).toUInt32 &&& Int32.toUInt32 31)).toInt32 &&& (858993459 : Int32)))).toUInt32 >>> (((4 : Int32)).toUInt32 &&& Int32.toUInt32 31)).toInt32) &&& (252645135 : Int32)))]) hx hb dJ6_bitCount_0f7a4_33 rfl hl (by decide) rfl (fun ls hl => ?_)
  refine lv_iload_n hx hb dJ6_bitCount_0f7a4_34 rfl (lv_at hl 0 rfl) ?_
  refine lv_iload_n hx hb dJ6_bitCount_0f7a4_35 rfl (lv_at hl 0 rfl) ?_
  refine lv_bipush (v := (8 : Int32)) hx hb dJ6_bitCount_0f7a4_36 (by decide) ?_
  refine lv_iushr hx hb dJ6_bitCount_0f7a4_38 rfl ?_
  refine lv_iadd hx hb dJ6_bitCount_0f7a4_39 ?_
  refine lv_istore_n (lv' := [(0, .int ((((((v0 - (((v0).toUInt32 >>> (((1 : Int32)).toUInt32 &&& Int32.toUInt32 31)).toInt32 &&& (1431655765 : Int32))) &&& (858993459 : Int32)) + ((((v0 - (((v0).toUInt32 >>> (((1 : Int32)).toUInt32 &&& Int32.toUInt32 31)).toInt32 &&& (1431655765 : Int32)))).toUInt32 >>> (((2 : Int32)).toUInt32 &&& Int32.toUInt32 31)).toInt32 &&& (858993459 : Int32))) + (((((v0 - (((v0).toUInt32 >>> (((1 : Int32)).toUInt32 &&& Int32.toUInt32 31)).toInt32 &&& (1431655765 : Int32))) &&& (858993459 : Int32)) + ((((v0 - (((v0).toUInt32 >>> (((1 : Int32)).toUInt32 &&& Int32.toUInt32 31)).toInt32 &&& (1431655765 : Int32)))).toUInt32 >>> (((2 : Int32)).toUInt32 &&& Int32.toUInt32 31)).toInt32 &&& (858993459 : Int32)))).toUInt32 >>> (((4 : Int32)).toUInt32 &&& Int32.toUInt32 31)).toInt32) &&& (252645135 : Int32)) + (((((((v0 - (((v0).toUInt32 >>> (((1 : Int32)).toUInt32 &&& Int32.toUInt32 31)).toInt32 &&& (1431655765 : Int32))) &&& (858993459 : Int32)) + ((((v0 - (((v0).toUInt32 >>> (((1 : Int32)).toUInt32 &&& Int32.toUInt32 31)).toInt32 &&& (1431655765 : Int32)))).toUInt32 >>> (((2 : Int32)).toUInt32 &&& Int32.toUInt32 31)).toInt32 &&& (858993459 : Int32))) + (((((v0 - (((v0).toUInt32 >>> (((1 : Int32)).toUInt32 &&& Int32.toUInt32 31)).toInt32 &&& (1431655765 : Int32))) &&& (858993459 : Int32)) + ((((v0 - (((v0).toUInt32 >>> (((1 : Int32)).toUInt32 &&& Int32.toUInt32 31)).toInt32 &&& (1431655765 : Int32)))).toUInt32 >>> (((2 : Int32)).toUInt32 &&& Int32.toUInt32 31)).toInt32 &&& (858993459 : Int32)))).toUInt32 >>> (((4 : Int32)).toUInt32 &&& Int32.toUInt32 31)).toInt32) &&& (252645135 : Int32))).toUInt32 >>> (((8 : Int32)).toUInt32 &&& Int32.toUInt32 31)).toInt32))]) hx hb dJ6_bitCount_0f7a4_40 rfl hl (by decide) rfl (fun ls hl => ?_)
  refine lv_iload_n hx hb dJ6_bitCount_0f7a4_41 rfl (lv_at hl 0 rfl) ?_
  refine lv_iload_n hx hb dJ6_bitCount_0f7a4_42 rfl (lv_at hl 0 rfl) ?_
  refine lv_bipush (v := (16 : Int32)) hx hb dJ6_bitCount_0f7a4_43 (by decide) ?_
  refine lv_iushr hx hb dJ6_bitCount_0f7a4_45 rfl ?_
  refine lv_iadd hx hb dJ6_bitCount_0f7a4_46 ?_
  refine lv_istore_n (lv' := [(0, .int (((((((v0 - (((v0).toUInt32 >>> (((1 : Int32)).toUInt32 &&& Int32.toUInt32 31)).toInt32 &&& (1431655765 : Int32))) &&& (858993459 : Int32)) + ((((v0 - (((v0).toUInt32 >>> (((1 : Int32)).toUInt32 &&& Int32.toUInt32 31)).toInt32 &&& (1431655765 : Int32)))).toUInt32 >>> (((2 : Int32)).toUInt32 &&& Int32.toUInt32 31)).toInt32 &&& (858993459 : Int32))) + (((((v0 - (((v0).toUInt32 >>> (((1 : Int32)).toUInt32 &&& Int32.toUInt32 31)).toInt32 &&& (1431655765 : Int32))) &&& (858993459 : Int32)) + ((((v0 - (((v0).toUInt32 >>> (((1 : Int32)).toUInt32 &&& Int32.toUInt32 31)).toInt32 &&& (1431655765 : Int32)))).toUInt32 >>> (((2 : Int32)).toUInt32 &&& Int32.toUInt32 31)).toInt32 &&& (858993459 : Int32)))).toUInt32 >>> (((4 : Int32)).toUInt32 &&& Int32.toUInt32 31)).toInt32) &&& (252645135 : Int32)) + (((((((v0 - (((v0).toUInt32 >>> (((1 : Int32)).toUInt32 &&& Int32.toUInt32 31)).toInt32 &&& (1431655765 : Int32))) &&& (858993459 : Int32)) + ((((v0 - (((v0).toUInt32 >>> (((1 : Int32)).toUInt32 &&& Int32.toUInt32 31)).toInt32 &&& (1431655765 : Int32)))).toUInt32 >>> (((2 : Int32)).toUInt32 &&& Int32.toUInt32 31)).toInt32 &&& (858993459 : Int32))) + (((((v0 - (((v0).toUInt32 >>> (((1 : Int32)).toUInt32 &&& Int32.toUInt32 31)).toInt32 &&& (1431655765 : Int32))) &&& (858993459 : Int32)) + ((((v0 - (((v0).toUInt32 >>> (((1 : Int32)).toUInt32 &&& Int32.toUInt32 31)).toInt32 &&& (1431655765 : Int32)))).toUInt32 >>> (((2 : Int32)).toUInt32 &&& Int32.toUInt32 31)).toInt32 &&& (858993459 : Int32)))).toUInt32 >>> (((4 : Int32)).toUInt32 &&& Int32.toUInt32 31)).toInt32) &&& (252645135 : Int32))).toUInt32 >>> (((8 : Int32)).toUInt32 &&& Int32.toUInt32 31)).toInt32) + ((((((((v0 - (((v0).toUInt32 >>> (((1 : Int32)).toUInt32 &&& Int32.toUInt32 31)).toInt32 &&& (1431655765 : Int32))) &&& (858993459 : Int32)) + ((((v0 - (((v0).toUInt32 >>> (((1 : Int32)).toUInt32 &&& Int32.toUInt32 31)).toInt32 &&& (1431655765 : Int32)))).toUInt32 >>> (((2 : Int32)).toUInt32 &&& Int32.toUInt32 31)).toInt32 &&& (858993459 : Int32))) + (((((v0 - (((v0).toUInt32 >>> (((1 : Int32)).toUInt32 &&& Int32.toUInt32 31)).toInt32 &&& (1431655765 : Int32))) &&& (858993459 : Int32)) + ((((v0 - (((v0).toUInt32 >>> (((1 : Int32)).toUInt32 &&& Int32.toUInt32 31)).toInt32 &&& (1431655765 : Int32)))).toUInt32 >>> (((2 : Int32)).toUInt32 &&& Int32.toUInt32 31)).toInt32 &&& (858993459 : Int32)))).toUInt32 >>> (((4 : Int32)).toUInt32 &&& Int32.toUInt32 31)).toInt32) &&& (252645135 : Int32)) + (((((((v0 - (((v0).toUInt32 >>> (((1 : Int32)).toUInt32 &&& Int32.toUInt32 31)).toInt32 &&& (1431655765 : Int32))) &&& (858993459 : Int32)) + ((((v0 - (((v0).toUInt32 >>> (((1 : Int32)).toUInt32 &&& Int32.toUInt32 31)).toInt32 &&& (1431655765 : Int32)))).toUInt32 >>> (((2 : Int32)).toUInt32 &&& Int32.toUInt32 31)).toInt32 &&& (858993459 : Int32))) + (((((v0 - (((v0).toUInt32 >>> (((1 : Int32)).toUInt32 &&& Int32.toUInt32 31)).toInt32 &&& (1431655765 : Int32))) &&& (858993459 : Int32)) + ((((v0 - (((v0).toUInt32 >>> (((1 : Int32)).toUInt32 &&& Int32.toUInt32 31)).toInt32 &&& (1431655765 : Int32)))).toUInt32 >>> (((2 : Int32)).toUInt32 &&& Int32.toUInt32 31)).toInt32 &&& (858993459 : Int32)))).toUInt32 >>> (((4 : Int32)).toUInt32 &&& Int32.toUInt32 31)).toInt32) &&& (252645135 : Int32))).toUInt32 >>> (((8 : Int32)).toUInt32 &&& Int32.toUInt32 31)).toInt32)).toUInt32 >>> (((16 : Int32)).toUInt32 &&& Int32.toUInt32 31)).toInt32))]) hx hb dJ6_bitCount_0f7a4_47 rfl hl (by decide) rfl (fun ls hl => ?_)
  refine lv_iload_n hx hb dJ6_bitCount_0f7a4_48 rfl (lv_at hl 0 rfl) ?_
  refine lv_bipush (v := (63 : Int32)) hx hb dJ6_bitCount_0f7a4_49 (by decide) ?_
  refine lv_iand hx hb dJ6_bitCount_0f7a4_51 ?_
  obtain rfl := tnj1 hf
  exact ret_i C0 G dJ6_bitCount_0f7a4_52
theorem o6_bitCount : okName yJ6_bitCount_0f7a4 1 := ⟨by decide, by decide, by decide +kernel⟩
set_option maxHeartbeats 4000000 in
set_option maxRecDepth 100000 in
theorem c6_bitCount {ta adK adV : Nat → Nat} (hX : XT (XS ta adK adV)) {l : Launch} {D : va_G} {tys : List (ClassId × FieldType)} {w0 : va_W} {sz : Nat}  {v0 : Int32} {r0 : Int32} (hf : f6_bitCount v0 = r0) : Met l yJ6_bitCount_0f7a4 (wU yJ6_bitCount_0f7a4 cJ6_bitCount_0f7a4 1 (some .int)) ({ frames := 0, cells := 0, slots := 0, locals := 0 }) (va_Pc [.int v0] (PreW (XS ta adK adV) D tys w0 sz)) (QcI D tys w0 (va_A w0 sz) r0) 0 0 (va_A w0 sz) := by
  refine startW hX (own := RJ6) (by decide) rfl (Nat.le_of_ble_eq_true rfl) (fun p e s m args below meth c ls C0 G hl => ?_)
  exact b6_bitCount_0 C0 G hl hf
/-! 4_isUpWithout -/
theorem dX4_isUpWithout_0 : decode cX4_isUpWithout 0 = .ok (.aload_n 0, 1) := by decide +kernel
theorem dX4_isUpWithout_1 : decode cX4_isUpWithout 1 = .ok (.getfield 19, 3) := by decide +kernel
theorem dX4_isUpWithout_4 : decode cX4_isUpWithout 4 = .ok (.aload_n 0, 1) := by decide +kernel
theorem dX4_isUpWithout_5 : decode cX4_isUpWithout 5 = .ok (.getfield 10, 3) := by decide +kernel
theorem dX4_isUpWithout_8 : decode cX4_isUpWithout 8 = .ok (.invokevirtual 128, 3) := by decide +kernel
theorem dX4_isUpWithout_11 : decode cX4_isUpWithout 11 = .ok (.aload_n 0, 1) := by decide +kernel
theorem dX4_isUpWithout_12 : decode cX4_isUpWithout 12 = .ok (.getfield 19, 3) := by decide +kernel
theorem dX4_isUpWithout_15 : decode cX4_isUpWithout 15 = .ok (.iload_n 3, 1) := by decide +kernel
theorem dX4_isUpWithout_16 : decode cX4_isUpWithout 16 = .ok (.iload_n 1, 1) := by decide +kernel
theorem dX4_isUpWithout_17 : decode cX4_isUpWithout 17 = .ok (.invokevirtual 105, 3) := by decide +kernel
theorem dX4_isUpWithout_20 : decode cX4_isUpWithout 20 = .ok (.aload_n 0, 1) := by decide +kernel
theorem dX4_isUpWithout_21 : decode cX4_isUpWithout 21 = .ok (.getfield 19, 3) := by decide +kernel
theorem dX4_isUpWithout_24 : decode cX4_isUpWithout 24 = .ok (.iload_n 2, 1) := by decide +kernel
theorem dX4_isUpWithout_25 : decode cX4_isUpWithout 25 = .ok (.invokevirtual 86, 3) := by decide +kernel
theorem dX4_isUpWithout_28 : decode cX4_isUpWithout 28 = .ok (.ireturn, 1) := by decide +kernel
def f4_isUpWithout (hp1 : Nat → Int32) (st1 : Nat → Int32) (tr1 : Nat → Nat → Int32) (sp1 : Nat → Int32) (vis1 : Int32) (day1 : Int32) (z1 : Int32) (hp3 : Nat → Int32) (st3 : Nat → Int32) (tr3 : Nat → Nat → Int32) (sp3 : Nat → Int32) (vis3 : Int32) (day3 : Int32) (z3 : Int32) (v1 : Int32) (v2 : Int32) (v3 : Int32) : Option (Int32 × (Nat → Int32) × (Nat → Int32) × (Nat → Nat → Int32) × (Nat → Int32) × Int32 × Int32 × Int32) :=
  ob7 (f0_become hp3 st3 tr3 sp3 vis3 day3 z3 hp1 st1 tr1 sp1 vis1 day1 z1) (fun hp3_1 st3_2 tr3_3 sp3_4 vis3_5 day3_6 z3_7 =>
  ob4 (f0_passDays hp3_1 st3_2 tr3_3 vis3_5 day3_6 v3 v1) (fun hp3_9 st3_10 tr3_11 day3_12 =>
  ob1 (f0_isUp hp3_9 st3_10 tr3_11 v2) (fun r14 =>
  gd (b01 r14) (
  some (r14, hp3_9, st3_10, tr3_11, sp3_4, vis3_5, day3_12, z3_7)))))
set_option maxHeartbeats 4000000 in
set_option maxRecDepth 100000 in
theorem b4_isUpWithout_0 {ta adK adV : Nat → Nat} {p : Program} {l : Launch} {e : Env} {s : State} {m : MethodId} {args : Array Value} {below : List Frame} {meth : Method} {c : Code} {D : va_G} {cI cB cG cS : ClassId} {ad : Nat → Nat} {A : Nat → Prop} {hp1 : Nat → Int32} {st1 : Nat → Int32} {tr1 : Nat → Nat → Int32} {sp1 : Nat → Int32} {vis1 : Int32} {day1 : Int32} {z1 : Int32} {hp2 : Nat → Int32} {st2 : Nat → Int32} {tr2 : Nat → Nat → Int32} {sp2 : Nat → Int32} {vis2 : Int32} {day2 : Int32} {z2 : Int32} {tb : Nat → Int32} {tl : Int32} {rtok : Int32} {rbg : Int32} {ren : Int32} {rvl : Int32} {shn : Nat → Nat → Int32} {shb : Nat → Int32} {shz : Nat → Int32} {fd : Nat → Int32} {isK : Int32} {r0 : Int32} {o_hp3 : Nat → Int32} {o_st3 : Nat → Int32} {o_tr3 : Nat → Nat → Int32} {o_sp3 : Nat → Int32} {o_vis3 : Int32} {o_day3 : Int32} {o_z3 : Int32} (C0 : CX (XS ta adK adV) p s m args meth c cX4_isUpWithout 4 (some .boolean) RX4 A) : ∀ {hp3 : Nat → Int32} {st3 : Nat → Int32} {tr3 : Nat → Nat → Int32} {sp3 : Nat → Int32} {vis3 : Int32} {day3 : Int32} {z3 : Int32} {v1 : Int32} {v2 : Int32} {v3 : Int32} {H : Heap} {locs : List Loc} {ls : Array Slot}, GX (XS ta adK adV) D (tyC cI cB cG cS) A s (wS cI cB cG cS ad hp1 st1 tr1 sp1 vis1 day1 z1 hp2 st2 tr2 sp2 vis2 day2 z2 hp3 st3 tr3 sp3 vis3 day3 z3 tb tl rtok rbg ren rvl shn shb shz fd isK) H locs → lv_has ls 4 [(0, .ref (ad 0)), (1, .int v1), (2, .int v2), (3, .int v3)] → f4_isUpWithout hp1 st1 tr1 sp1 vis1 day1 z1 hp3 st3 tr3 sp3 vis3 day3 z3 v1 v2 v3 = some (r0, o_hp3, o_st3, o_tr3, o_sp3, o_vis3, o_day3, o_z3) → W p l e ({ frames := 5, cells := 0, slots := 0, locals := 108 }) s m args below meth c H locs 0 0 (MQ below (QcI D (tyC cI cB cG cS) (wS cI cB cG cS ad hp1 st1 tr1 sp1 vis1 day1 z1 hp2 st2 tr2 sp2 vis2 day2 z2 o_hp3 o_st3 o_tr3 o_sp3 o_vis3 o_day3 o_z3 tb tl rtok rbg ren rvl shn shb shz fd isK) A r0) args s 0 0 A) (F0 m 0 ls []) := by
  have hx := C0.1
  have hb := C0.2.1
  have hown := C0.2.2.2.2.1
  have hts := C0.2.2.2.2.2.1
  have hX := C0.2.2.2.2.2.2.2.2
  intro hp3 st3 tr3 sp3 vis3 day3 z3 v1 v2 v3 H locs ls G hl hf
  unfold f4_isUpWithout at hf
  refine lv_aload_n hx hb dX4_isUpWithout_0 rfl (lv_at hl 0 rfl) ?_
  refine s_get (C := RX4) (T := TX4) C0 G i_X4 0 2 rfl rfl (by decide) q175 rfl dX4_isUpWithout_1 ?_
  refine lv_aload_n hx hb dX4_isUpWithout_4 rfl (lv_at hl 0 rfl) ?_
  refine s_get (C := RX4) (T := TX4) C0 G i_X4 0 0 rfl rfl (by decide) q173 rfl dX4_isUpWithout_5 ?_
  obtain ⟨hp3_1, st3_2, tr3_3, sp3_4, vis3_5, day3_6, z3_7, hc8, hf⟩ := ob7_s hf
  refine go_v_sub C0 G s_pp31 o_pp31 (runV_sub (n := 1) (q0 := 25) (As := [.ref (ad 1)]) (rest := []) C0 G s_pp31 (c0_become hX (ad := fun k => ad (25 + k)) (ae := fun k => ad (1 + k))  hc8) q376 q50 q373 q374 q375 o0_become ⟨rfl, rfl⟩ ⟨Nat.le_of_ble_eq_true rfl, Nat.le_of_ble_eq_true rfl⟩ rfl rfl rfl hl.1 rfl (Nat.le_of_ble_eq_true rfl) dX4_isUpWithout_8) (fun H locs G => ?_)
  refine lv_aload_n hx hb dX4_isUpWithout_11 rfl (lv_at hl 0 rfl) ?_
  refine s_get (C := RX4) (T := TX4) C0 G i_X4 0 2 rfl rfl (by decide) q175 rfl dX4_isUpWithout_12 ?_
  refine lv_iload_n hx hb dX4_isUpWithout_15 rfl (lv_at hl 3 rfl) ?_
  refine lv_iload_n hx hb dX4_isUpWithout_16 rfl (lv_at hl 1 rfl) ?_
  obtain ⟨hp3_9, st3_10, tr3_11, day3_12, hc13, hf⟩ := ob4_s hf
  refine go_v_sub C0 G s_pit3 o_pit3 (runV_sub (n := 2) (q0 := 25) (As := [.int v3, .int v1]) (rest := []) C0 G s_pit3 (c0_passDays hX hc13) q322 q50 q319 q320 q321 o0_passDays ⟨rfl, rfl⟩ ⟨Nat.le_of_ble_eq_true rfl, Nat.le_of_ble_eq_true rfl⟩ rfl rfl rfl hl.1 rfl (Nat.le_of_ble_eq_true rfl) dX4_isUpWithout_17) (fun H locs G => ?_)
  refine lv_aload_n hx hb dX4_isUpWithout_20 rfl (lv_at hl 0 rfl) ?_
  refine s_get (C := RX4) (T := TX4) C0 G i_X4 0 2 rfl rfl (by decide) q175 rfl dX4_isUpWithout_21 ?_
  refine lv_iload_n hx hb dX4_isUpWithout_24 rfl (lv_at hl 2 rfl) ?_
  obtain ⟨r14, hc15, hf⟩ := ob1_s hf
  refine go_i_sub C0 G s_pit3 o_pit3 (runV_sub (n := 1) (q0 := 25) (As := [.int v2]) (rest := []) C0 G s_pit3 (c0_isUp hX hc15) q277 q50 q274 q275 q276 o0_isUp ⟨rfl, rfl⟩ ⟨Nat.le_of_ble_eq_true rfl, Nat.le_of_ble_eq_true rfl⟩ rfl rfl rfl hl.1 rfl (Nat.le_of_ble_eq_true rfl) dX4_isUpWithout_25) (fun H locs G => ?_)
  obtain ⟨hz16, hf⟩ := gd_s hf
  obtain ⟨rfl, rfl, rfl, rfl, rfl, rfl, rfl, rfl⟩ := inj8 hf
  exact ret_z C0 G (b01_n hz16) dX4_isUpWithout_28
theorem o4_isUpWithout : okName yX4_isUpWithout 3 := ⟨by decide, by decide, by decide +kernel⟩
set_option maxHeartbeats 4000000 in
set_option maxRecDepth 100000 in
theorem c4_isUpWithout {ta adK adV : Nat → Nat} (hX : XT (XS ta adK adV)) {l : Launch} {D : va_G} {cI cB cG cS : ClassId} {ad : Nat → Nat} {sz : Nat} {hp1 : Nat → Int32} {st1 : Nat → Int32} {tr1 : Nat → Nat → Int32} {sp1 : Nat → Int32} {vis1 : Int32} {day1 : Int32} {z1 : Int32} {hp2 : Nat → Int32} {st2 : Nat → Int32} {tr2 : Nat → Nat → Int32} {sp2 : Nat → Int32} {vis2 : Int32} {day2 : Int32} {z2 : Int32} {hp3 : Nat → Int32} {st3 : Nat → Int32} {tr3 : Nat → Nat → Int32} {sp3 : Nat → Int32} {vis3 : Int32} {day3 : Int32} {z3 : Int32} {tb : Nat → Int32} {tl : Int32} {rtok : Int32} {rbg : Int32} {ren : Int32} {rvl : Int32} {shn : Nat → Nat → Int32} {shb : Nat → Int32} {shz : Nat → Int32} {fd : Nat → Int32} {isK : Int32} {v1 : Int32} {v2 : Int32} {v3 : Int32} {r0 : Int32} {o_hp3 : Nat → Int32} {o_st3 : Nat → Int32} {o_tr3 : Nat → Nat → Int32} {o_sp3 : Nat → Int32} {o_vis3 : Int32} {o_day3 : Int32} {o_z3 : Int32} (hf : f4_isUpWithout hp1 st1 tr1 sp1 vis1 day1 z1 hp3 st3 tr3 sp3 vis3 day3 z3 v1 v2 v3 = some (r0, o_hp3, o_st3, o_tr3, o_sp3, o_vis3, o_day3, o_z3)) : Met l yX4_isUpWithout (wU yX4_isUpWithout cX4_isUpWithout 4 (some .boolean)) ({ frames := 5, cells := 0, slots := 0, locals := 108 }) (va_Pc [.ref (ad 0), .int v1, .int v2, .int v3] (PreW (XS ta adK adV) D (tyC cI cB cG cS) (wS cI cB cG cS ad hp1 st1 tr1 sp1 vis1 day1 z1 hp2 st2 tr2 sp2 vis2 day2 z2 hp3 st3 tr3 sp3 vis3 day3 z3 tb tl rtok rbg ren rvl shn shb shz fd isK) sz)) (QcI D (tyC cI cB cG cS) (wS cI cB cG cS ad hp1 st1 tr1 sp1 vis1 day1 z1 hp2 st2 tr2 sp2 vis2 day2 z2 o_hp3 o_st3 o_tr3 o_sp3 o_vis3 o_day3 o_z3 tb tl rtok rbg ren rvl shn shb shz fd isK) (va_A (wS cI cB cG cS ad hp1 st1 tr1 sp1 vis1 day1 z1 hp2 st2 tr2 sp2 vis2 day2 z2 hp3 st3 tr3 sp3 vis3 day3 z3 tb tl rtok rbg ren rvl shn shb shz fd isK) sz) r0) 0 0 (va_A (wS cI cB cG cS ad hp1 st1 tr1 sp1 vis1 day1 z1 hp2 st2 tr2 sp2 vis2 day2 z2 hp3 st3 tr3 sp3 vis3 day3 z3 tb tl rtok rbg ren rvl shn shb shz fd isK) sz) := by
  refine startW hX (own := RX4) (by decide) rfl (Nat.le_of_ble_eq_true rfl) (fun p e s m args below meth c ls C0 G hl => ?_)
  exact b4_isUpWithout_0 C0 G hl hf
