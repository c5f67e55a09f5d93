/-! 4_count -/
theorem dX4_count_0 : decode cX4_count 0 = .ok (.iload_n 1, 1) := by decide +kernel
theorem dX4_count_1 : decode cX4_count 1 = .ok (.tableswitch 113 0 7 #[47, 55, 63, 71, 81, 89, 97, 105], 47) := by decide +kernel
theorem dX4_count_48 : decode cX4_count 48 = .ok (.aload_n 0, 1) := by decide +kernel
theorem dX4_count_49 : decode cX4_count 49 = .ok (.getfield 10, 3) := by decide +kernel
theorem dX4_count_52 : decode cX4_count 52 = .ok (.getfield 100, 3) := by decide +kernel
theorem dX4_count_55 : decode cX4_count 55 = .ok (.ireturn, 1) := by decide +kernel
theorem dX4_count_56 : decode cX4_count 56 = .ok (.aload_n 0, 1) := by decide +kernel
theorem dX4_count_57 : decode cX4_count 57 = .ok (.getfield 10, 3) := by decide +kernel
theorem dX4_count_60 : decode cX4_count 60 = .ok (.getfield 149, 3) := by decide +kernel
theorem dX4_count_63 : decode cX4_count 63 = .ok (.ireturn, 1) := by decide +kernel
theorem dX4_count_64 : decode cX4_count 64 = .ok (.aload_n 0, 1) := by decide +kernel
theorem dX4_count_65 : decode cX4_count 65 = .ok (.getfield 10, 3) := by decide +kernel
theorem dX4_count_68 : decode cX4_count 68 = .ok (.invokevirtual 113, 3) := by decide +kernel
theorem dX4_count_71 : decode cX4_count 71 = .ok (.ireturn, 1) := by decide +kernel
theorem dX4_count_72 : decode cX4_count 72 = .ok (.aload_n 0, 1) := by decide +kernel
theorem dX4_count_73 : decode cX4_count 73 = .ok (.getfield 10, 3) := by decide +kernel
theorem dX4_count_76 : decode cX4_count 76 = .ok (.getfield 62, 3) := by decide +kernel
theorem dX4_count_79 : decode cX4_count 79 = .ok (.iconst 0, 1) := by decide +kernel
theorem dX4_count_80 : decode cX4_count 80 = .ok (.iaload, 1) := by decide +kernel
theorem dX4_count_81 : decode cX4_count 81 = .ok (.ireturn, 1) := by decide +kernel
theorem dX4_count_82 : decode cX4_count 82 = .ok (.aload_n 0, 1) := by decide +kernel
theorem dX4_count_83 : decode cX4_count 83 = .ok (.getfield 10, 3) := by decide +kernel
theorem dX4_count_86 : decode cX4_count 86 = .ok (.invokevirtual 122, 3) := by decide +kernel
theorem dX4_count_89 : decode cX4_count 89 = .ok (.ireturn, 1) := by decide +kernel
theorem dX4_count_90 : decode cX4_count 90 = .ok (.aload_n 0, 1) := by decide +kernel
theorem dX4_count_91 : decode cX4_count 91 = .ok (.getfield 33, 3) := by decide +kernel
theorem dX4_count_94 : decode cX4_count 94 = .ok (.getfield 177, 3) := by decide +kernel
theorem dX4_count_97 : decode cX4_count 97 = .ok (.ireturn, 1) := by decide +kernel
theorem dX4_count_98 : decode cX4_count 98 = .ok (.aload_n 0, 1) := by decide +kernel
theorem dX4_count_99 : decode cX4_count 99 = .ok (.getfield 10, 3) := by decide +kernel
theorem dX4_count_102 : decode cX4_count 102 = .ok (.getfield 174, 3) := by decide +kernel
theorem dX4_count_105 : decode cX4_count 105 = .ok (.ireturn, 1) := by decide +kernel
theorem dX4_count_106 : decode cX4_count 106 = .ok (.aload_n 0, 1) := by decide +kernel
theorem dX4_count_107 : decode cX4_count 107 = .ok (.getfield 10, 3) := by decide +kernel
theorem dX4_count_110 : decode cX4_count 110 = .ok (.invokevirtual 234, 3) := by decide +kernel
theorem dX4_count_113 : decode cX4_count 113 = .ok (.ireturn, 1) := by decide +kernel
theorem dX4_count_114 : decode cX4_count 114 = .ok (.aload_n 0, 1) := by decide +kernel
theorem dX4_count_115 : decode cX4_count 115 = .ok (.iconst 0, 1) := by decide +kernel
theorem dX4_count_116 : decode cX4_count 116 = .ok (.invokevirtual 49, 3) := by decide +kernel
theorem dX4_count_119 : decode cX4_count 119 = .ok (.ireturn, 1) := by decide +kernel
def f4_count (hp1 : Nat → Int32) (st1 : Nat → Int32) (tr1 : Nat → Nat → Int32) (sp1 : Nat → Int32) (vis1 : Int32) (day1 : Int32) (z1 : Int32) (tl : Int32) (fd : Nat → Int32) (v1 : Int32) : Option (Int32 × (Nat → Int32)) :=
  if v1 = (0 : Int32) then (
    some (day1, fd))
  else
  if v1 = (1 : Int32) then (
    some (vis1, fd))
  else
  if v1 = (2 : Int32) then (
    ob1 (f0_sandInAll hp1) (fun r4 =>
    some (r4, fd)))
  else
  if v1 = (3 : Int32) then (
    some ((st1 0), fd))
  else
  if v1 = (4 : Int32) then (
    ob1 (f0_builtInAll tr1 vis1) (fun r8 =>
    some (r8, fd)))
  else
  if v1 = (5 : Int32) then (
    some (tl, fd))
  else
  if v1 = (6 : Int32) then (
    some (z1, fd))
  else
  if v1 = (7 : Int32) then (
    ob1 (f0_spotsHolding sp1) (fun r13 =>
    some (r13, fd)))
  else
  ob2 (f4_found fd (0 : Int32)) (fun r15 fd_16 =>
  some (r15, fd_16))
set_option maxHeartbeats 4000000 in
set_option maxRecDepth 100000 in
theorem b4_count_0 {ta adK adV : Nat → Nat} {p : Program} {l : Launch} {e : Env} {s : State} {m : MethodId} {args : Array Value} {below : List Frame} {meth : Method} {c : Code} {D : va_G} {cI cB cG cS : ClassId} {ad : Nat → Nat} {A : Nat → Prop} {hp1 : Nat → Int32} {st1 : Nat → Int32} {tr1 : Nat → Nat → Int32} {sp1 : Nat → Int32} {vis1 : Int32} {day1 : Int32} {z1 : Int32} {hp2 : Nat → Int32} {st2 : Nat → Int32} {tr2 : Nat → Nat → Int32} {sp2 : Nat → Int32} {vis2 : Int32} {day2 : Int32} {z2 : Int32} {hp3 : Nat → Int32} {st3 : Nat → Int32} {tr3 : Nat → Nat → Int32} {sp3 : Nat → Int32} {vis3 : Int32} {day3 : Int32} {z3 : Int32} {tb : Nat → Int32} {tl : Int32} {rtok : Int32} {rbg : Int32} {ren : Int32} {rvl : Int32} {shn : Nat → Nat → Int32} {shb : Nat → Int32} {shz : Nat → Int32} {isK : Int32} {r0 : Int32} {o_fd : Nat → Int32} (C0 : CX (XS ta adK adV) p s m args meth c cX4_count 2 (some .int) RX4 A) : ∀ {fd : Nat → Int32} {v1 : Int32} {H : Heap} {locs : List Loc} {ls : Array Slot}, GX (XS ta adK adV) D (tyC cI cB cG cS) A s (wS cI cB cG cS ad hp1 st1 tr1 sp1 vis1 day1 z1 hp2 st2 tr2 sp2 vis2 day2 z2 hp3 st3 tr3 sp3 vis3 day3 z3 tb tl rtok rbg ren rvl shn shb shz fd isK) H locs → lv_has ls 2 [(0, .ref (ad 0)), (1, .int v1)] → f4_count hp1 st1 tr1 sp1 vis1 day1 z1 tl fd v1 = some (r0, o_fd) → W p l e ({ frames := 1, cells := 0, slots := 0, locals := 22 }) s m args below meth c H locs 0 0 (MQ below (QcI D (tyC cI cB cG cS) (wS cI cB cG cS ad hp1 st1 tr1 sp1 vis1 day1 z1 hp2 st2 tr2 sp2 vis2 day2 z2 hp3 st3 tr3 sp3 vis3 day3 z3 tb tl rtok rbg ren rvl shn shb shz o_fd isK) A r0) args s 0 0 A) (F0 m 0 ls []) := by
  have hx := C0.1
  have hb := C0.2.1
  have hown := C0.2.2.2.2.1
  have hts := C0.2.2.2.2.2.1
  have hX := C0.2.2.2.2.2.2.2.2
  intro fd v1 H locs ls G hl hf
  unfold f4_count at hf
  refine lv_iload_n hx hb dX4_count_0 rfl (lv_at hl 1 rfl) ?_
  by_cases hs1 : v1 = (0 : Int32)
  · have hf := itp hs1 hf
    refine lv_tableIn (tgt := 48) hx hb dX4_count_1 (by rw [hs1]; decide) (by rw [hs1]; decide) (by rw [hs1]; rfl) (by decide) ?_
    refine lv_aload_n hx hb dX4_count_48 rfl (lv_at hl 0 rfl) ?_
    refine s_get (C := RX4) (T := TX4) C0 G i_X4 0 0 rfl rfl (by decide) q173 rfl dX4_count_49 ?_
    refine s_get (C := RX0) (T := TX0) C0 G i_X0 1 5 rfl rfl (by decide) q94 rfl dX4_count_52 ?_
    obtain ⟨rfl, rfl⟩ := inj2 hf
    exact ret_i C0 G dX4_count_55
  have hf := itn hs1 hf
  by_cases hs2 : v1 = (1 : Int32)
  · have hf := itp hs2 hf
    refine lv_tableIn (tgt := 56) hx hb dX4_count_1 (by rw [hs2]; decide) (by rw [hs2]; decide) (by rw [hs2]; rfl) (by decide) ?_
    refine lv_aload_n hx hb dX4_count_56 rfl (lv_at hl 0 rfl) ?_
    refine s_get (C := RX4) (T := TX4) C0 G i_X4 0 0 rfl rfl (by decide) q173 rfl dX4_count_57 ?_
    refine s_get (C := RX0) (T := TX0) C0 G i_X0 1 4 rfl rfl (by decide) q92 rfl dX4_count_60 ?_
    obtain ⟨rfl, rfl⟩ := inj2 hf
    exact ret_i C0 G dX4_count_63
  have hf := itn hs2 hf
  by_cases hs3 : v1 = (2 : Int32)
  · have hf := itp hs3 hf
    refine lv_tableIn (tgt := 64) hx hb dX4_count_1 (by rw [hs3]; decide) (by rw [hs3]; decide) (by rw [hs3]; rfl) (by decide) ?_
    refine lv_aload_n hx hb dX4_count_64 rfl (lv_at hl 0 rfl) ?_
    refine s_get (C := RX4) (T := TX4) C0 G i_X4 0 0 rfl rfl (by decide) q173 rfl dX4_count_65 ?_
    obtain ⟨r4, hc5, hf⟩ := ob1_s hf
    refine go_i_sub C0 G s_pit1 o_pit1 (runV_sub (n := 0) (q0 := 1) (As := []) (rest := []) C0 G s_pit1 (c0_sandInAll hX hc5) q352 q50 q349 q350 q351 o0_sandInAll ⟨rfl, rfl⟩ ⟨Nat.le_of_ble_eq_true rfl, Nat.le_of_ble_eq_true rfl⟩ rfl rfl rfl hl.1 rfl (Nat.le_of_ble_eq_true rfl) dX4_count_68) (fun H locs G => ?_)
    obtain ⟨rfl, rfl⟩ := inj2 hf
    exact ret_i C0 G dX4_count_71
  have hf := itn hs3 hf
  by_cases hs6 : v1 = (3 : Int32)
  · have hf := itp hs6 hf
    refine lv_tableIn (tgt := 72) hx hb dX4_count_1 (by rw [hs6]; decide) (by rw [hs6]; decide) (by rw [hs6]; rfl) (by decide) ?_
    refine lv_aload_n hx hb dX4_count_72 rfl (lv_at hl 0 rfl) ?_
    refine s_get (C := RX4) (T := TX4) C0 G i_X4 0 0 rfl rfl (by decide) q173 rfl dX4_count_73 ?_
    refine s_get (C := RX0) (T := TX0) C0 G i_X0 1 1 rfl rfl (by decide) q84 rfl dX4_count_76 ?_
    refine lv_iconst (v := (0 : Int32)) hx hb dX4_count_79 (by decide) ?_
    refine s_iald (k := 0) C0 G 3 0 rfl rfl (vin (by decide)) (by decide) dX4_count_80 ?_
    obtain ⟨rfl, rfl⟩ := inj2 hf
    exact ret_i C0 G dX4_count_81
  have hf := itn hs6 hf
  by_cases hs7 : v1 = (4 : Int32)
  · have hf := itp hs7 hf
    refine lv_tableIn (tgt := 82) hx hb dX4_count_1 (by rw [hs7]; decide) (by rw [hs7]; decide) (by rw [hs7]; rfl) (by decide) ?_
    refine lv_aload_n hx hb dX4_count_82 rfl (lv_at hl 0 rfl) ?_
    refine s_get (C := RX4) (T := TX4) C0 G i_X4 0 0 rfl rfl (by decide) q173 rfl dX4_count_83 ?_
    obtain ⟨r8, hc9, hf⟩ := ob1_s hf
    refine go_i_sub C0 G s_pit1 o_pit1 (runV_sub (n := 0) (q0 := 1) (As := []) (rest := []) C0 G s_pit1 (c0_builtInAll hX hc9) q364 q50 q361 q362 q363 o0_builtInAll ⟨rfl, rfl⟩ ⟨Nat.le_of_ble_eq_true rfl, Nat.le_of_ble_eq_true rfl⟩ rfl rfl rfl hl.1 rfl (Nat.le_of_ble_eq_true rfl) dX4_count_86) (fun H locs G => ?_)
    obtain ⟨rfl, rfl⟩ := inj2 hf
    exact ret_i C0 G dX4_count_89
  have hf := itn hs7 hf
  by_cases hs10 : v1 = (5 : Int32)
  · have hf := itp hs10 hf
    refine lv_tableIn (tgt := 90) hx hb dX4_count_1 (by rw [hs10]; decide) (by rw [hs10]; decide) (by rw [hs10]; rfl) (by decide) ?_
    refine lv_aload_n hx hb dX4_count_90 rfl (lv_at hl 0 rfl) ?_
    refine s_get (C := RX4) (T := TX4) C0 G i_X4 0 4 rfl rfl (by decide) q177 rfl dX4_count_91 ?_
    refine s_get (C := RX2) (T := TX2) C0 G i_X2 37 1 rfl rfl (by decide) q129 rfl dX4_count_94 ?_
    obtain ⟨rfl, rfl⟩ := inj2 hf
    exact ret_i C0 G dX4_count_97
  have hf := itn hs10 hf
  by_cases hs11 : v1 = (6 : Int32)
  · have hf := itp hs11 hf
    refine lv_tableIn (tgt := 98) hx hb dX4_count_1 (by rw [hs11]; decide) (by rw [hs11]; decide) (by rw [hs11]; rfl) (by decide) ?_
    refine lv_aload_n hx hb dX4_count_98 rfl (lv_at hl 0 rfl) ?_
    refine s_get (C := RX4) (T := TX4) C0 G i_X4 0 0 rfl rfl (by decide) q173 rfl dX4_count_99 ?_
    refine s_get (C := RX0) (T := TX0) C0 G i_X0 1 6 rfl rfl (by decide) q96 rfl dX4_count_102 ?_
    obtain ⟨rfl, rfl⟩ := inj2 hf
    exact ret_i C0 G dX4_count_105
  have hf := itn hs11 hf
  by_cases hs12 : v1 = (7 : Int32)
  · have hf := itp hs12 hf
    refine lv_tableIn (tgt := 106) hx hb dX4_count_1 (by rw [hs12]; decide) (by rw [hs12]; decide) (by rw [hs12]; rfl) (by decide) ?_
    refine lv_aload_n hx hb dX4_count_106 rfl (lv_at hl 0 rfl) ?_
    refine s_get (C := RX4) (T := TX4) C0 G i_X4 0 0 rfl rfl (by decide) q173 rfl dX4_count_107 ?_
    obtain ⟨r13, hc14, hf⟩ := ob1_s hf
    refine go_i_sub C0 G s_pit1 o_pit1 (runV_sub (n := 0) (q0 := 1) (As := []) (rest := []) C0 G s_pit1 (c0_spotsHolding hX hc14) q698 q50 q695 q696 q697 o0_spotsHolding ⟨rfl, rfl⟩ ⟨Nat.le_of_ble_eq_true rfl, Nat.le_of_ble_eq_true rfl⟩ rfl rfl rfl hl.1 rfl (Nat.le_of_ble_eq_true rfl) dX4_count_110) (fun H locs G => ?_)
    obtain ⟨rfl, rfl⟩ := inj2 hf
    exact ret_i C0 G dX4_count_113
  have hf := itn hs12 hf
  refine lv_tableOut (tgt := 114) hx hb dX4_count_1 (by have := lv_neT (a := 0) hs1 (by decide); have := lv_neT (a := 1) hs2 (by decide); have := lv_neT (a := 2) hs3 (by decide); have := lv_neT (a := 3) hs6 (by decide); have := lv_neT (a := 4) hs7 (by decide); have := lv_neT (a := 5) hs10 (by decide); have := lv_neT (a := 6) hs11 (by decide); have := lv_neT (a := 7) hs12 (by decide); omega) (by decide) ?_
  refine lv_aload_n hx hb dX4_count_114 rfl (lv_at hl 0 rfl) ?_
  refine lv_iconst (v := (0 : Int32)) hx hb dX4_count_115 (by decide) ?_
  obtain ⟨r15, fd_16, hc17, hf⟩ := ob2_s hf
  refine go_i C0 G (runV_of (n := 1) (q0 := 0) (As := [.int (0 : Int32)]) (rest := []) C0 G (c4_found hX hc17) q208 q49 q205 q207 q0 o4_found ⟨rfl, rfl⟩ ⟨Nat.le_of_ble_eq_true rfl, Nat.le_of_ble_eq_true rfl⟩ rfl rfl rfl hl.1 rfl (Nat.le_of_ble_eq_true rfl) dX4_count_116) (fun H locs G => ?_)
  obtain ⟨rfl, rfl⟩ := inj2 hf
  exact ret_i C0 G dX4_count_119
theorem o4_count : okName yX4_count 1 := ⟨by decide, by decide, by decide +kernel⟩
set_option maxHeartbeats 4000000 in
set_option maxRecDepth 100000 in
theorem c4_count {ta adK adV : Nat → Nat} (hX : XT (XS ta adK adV)) {l : Launch} {D : va_G} {cI cB cG cS : ClassId} {ad : Nat → Nat} {sz : Nat} {hp1 : Nat → Int32} {st1 : Nat → Int32} {tr1 : Nat → Nat → Int32} {sp1 : Nat → Int32} {vis1 : Int32} {day1 : Int32} {z1 : Int32} {hp2 : Nat → Int32} {st2 : Nat → Int32} {tr2 : Nat → Nat → Int32} {sp2 : Nat → Int32} {vis2 : Int32} {day2 : Int32} {z2 : Int32} {hp3 : Nat → Int32} {st3 : Nat → Int32} {tr3 : Nat → Nat → Int32} {sp3 : Nat → Int32} {vis3 : Int32} {day3 : Int32} {z3 : Int32} {tb : Nat → Int32} {tl : Int32} {rtok : Int32} {rbg : Int32} {ren : Int32} {rvl : Int32} {shn : Nat → Nat → Int32} {shb : Nat → Int32} {shz : Nat → Int32} {fd : Nat → Int32} {isK : Int32} {v1 : Int32} {r0 : Int32} {o_fd : Nat → Int32} (hf : f4_count hp1 st1 tr1 sp1 vis1 day1 z1 tl fd v1 = some (r0, o_fd)) : Met l yX4_count (wU yX4_count cX4_count 2 (some .int)) ({ frames := 1, cells := 0, slots := 0, locals := 22 }) (va_Pc [.ref (ad 0), .int v1] (PreW (XS ta adK adV) D (tyC cI cB cG cS) (wS cI cB cG cS ad hp1 st1 tr1 sp1 vis1 day1 z1 hp2 st2 tr2 sp2 vis2 day2 z2 hp3 st3 tr3 sp3 vis3 day3 z3 tb tl rtok rbg ren rvl shn shb shz fd isK) sz)) (QcI D (tyC cI cB cG cS) (wS cI cB cG cS ad hp1 st1 tr1 sp1 vis1 day1 z1 hp2 st2 tr2 sp2 vis2 day2 z2 hp3 st3 tr3 sp3 vis3 day3 z3 tb tl rtok rbg ren rvl shn shb shz o_fd isK) (va_A (wS cI cB cG cS ad hp1 st1 tr1 sp1 vis1 day1 z1 hp2 st2 tr2 sp2 vis2 day2 z2 hp3 st3 tr3 sp3 vis3 day3 z3 tb tl rtok rbg ren rvl shn shb shz fd isK) sz) r0) 0 0 (va_A (wS cI cB cG cS ad hp1 st1 tr1 sp1 vis1 day1 z1 hp2 st2 tr2 sp2 vis2 day2 z2 hp3 st3 tr3 sp3 vis3 day3 z3 tb tl rtok rbg ren rvl shn shb shz fd isK) sz) := by
  refine startW hX (own := RX4) (by decide) rfl (Nat.le_of_ble_eq_true rfl) (fun p e s m args below meth c ls C0 G hl => ?_)
  exact b4_count_0 C0 G hl hf
/-! 4_findingsInAll -/
theorem dX4_findingsInAll_0 : decode cX4_findingsInAll 0 = .ok (.iconst 0, 1) := by decide +kernel
theorem dX4_findingsInAll_1 : decode cX4_findingsInAll 1 = .ok (.istore_n 1, 1) := by decide +kernel
theorem dX4_findingsInAll_2 : decode cX4_findingsInAll 2 = .ok (.iconst 0, 1) := by decide +kernel
theorem dX4_findingsInAll_3 : decode cX4_findingsInAll 3 = .ok (.istore_n 2, 1) := by decide +kernel
theorem dX4_findingsInAll_4 : decode cX4_findingsInAll 4 = .ok (.iload_n 2, 1) := by decide +kernel
theorem dX4_findingsInAll_5 : decode cX4_findingsInAll 5 = .ok (.bipush 7, 2) := by decide +kernel
theorem dX4_findingsInAll_7 : decode cX4_findingsInAll 7 = .ok (.if_icmp .ge 18, 3) := by decide +kernel
theorem dX4_findingsInAll_10 : decode cX4_findingsInAll 10 = .ok (.iload_n 1, 1) := by decide +kernel
theorem dX4_findingsInAll_11 : decode cX4_findingsInAll 11 = .ok (.aload_n 0, 1) := by decide +kernel
theorem dX4_findingsInAll_12 : decode cX4_findingsInAll 12 = .ok (.getfield 40, 3) := by decide +kernel
theorem dX4_findingsInAll_15 : decode cX4_findingsInAll 15 = .ok (.iload_n 2, 1) := by decide +kernel
theorem dX4_findingsInAll_16 : decode cX4_findingsInAll 16 = .ok (.iaload, 1) := by decide +kernel
theorem dX4_findingsInAll_17 : decode cX4_findingsInAll 17 = .ok (.iadd, 1) := by decide +kernel
theorem dX4_findingsInAll_18 : decode cX4_findingsInAll 18 = .ok (.istore_n 1, 1) := by decide +kernel
theorem dX4_findingsInAll_19 : decode cX4_findingsInAll 19 = .ok (.iinc 2 1, 3) := by decide +kernel
theorem dX4_findingsInAll_22 : decode cX4_findingsInAll 22 = .ok (.goto (-18), 3) := by decide +kernel
theorem dX4_findingsInAll_25 : decode cX4_findingsInAll 25 = .ok (.iload_n 1, 1) := by decide +kernel
theorem dX4_findingsInAll_26 : decode cX4_findingsInAll 26 = .ok (.ireturn, 1) := by decide +kernel
def l4_findingsInAll_4  : Nat → (Nat → Int32) → Int32 → Int32 → Option (Int32)
  | 0, _, _, _ => none
  | n + 1, fd, v1, v2 =>
    if (7 : Int32) ≤ v2 then (
      some v1)
    else (
      gd (inb v2 7) (
      (l4_findingsInAll_4 n) fd (v1 + (fd v2.toNatClampNeg)) (v2 + (1 : Int32))))
def f4_findingsInAll (fd : Nat → Int32)  : Option (Int32) :=
  l4_findingsInAll_4 1000 fd (0 : Int32) (0 : Int32)
set_option maxHeartbeats 4000000 in
set_option maxRecDepth 100000 in
theorem b4_findingsInAll_4 {ta adK adV : Nat → Nat} {p : Program} {l : Launch} {e : Env} {s : State} {m : MethodId} {args : Array Value} {below : List Frame} {meth : Method} {c : Code} {D : va_G} {cI cB cG cS : ClassId} {ad : Nat → Nat} {A : Nat → Prop} {hp1 : Nat → Int32} {st1 : Nat → Int32} {tr1 : Nat → Nat → Int32} {sp1 : Nat → Int32} {vis1 : Int32} {day1 : Int32} {z1 : Int32} {hp2 : Nat → Int32} {st2 : Nat → Int32} {tr2 : Nat → Nat → Int32} {sp2 : Nat → Int32} {vis2 : Int32} {day2 : Int32} {z2 : Int32} {hp3 : Nat → Int32} {st3 : Nat → Int32} {tr3 : Nat → Nat → Int32} {sp3 : Nat → Int32} {vis3 : Int32} {day3 : Int32} {z3 : Int32} {tb : Nat → Int32} {tl : Int32} {rtok : Int32} {rbg : Int32} {ren : Int32} {rvl : Int32} {shn : Nat → Nat → Int32} {shb : Nat → Int32} {shz : Nat → Int32} {fd : Nat → Int32} {isK : Int32} {r0 : Int32} (C0 : CX (XS ta adK adV) p s m args meth c cX4_findingsInAll 3 (some .int) RX4 A) : ∀ (n : Nat) {v1 : Int32} {v2 : Int32} {H : Heap} {locs : List Loc} {ls : Array Slot}, GX (XS ta adK adV) D (tyC cI cB cG cS) A s (wS cI cB cG cS ad hp1 st1 tr1 sp1 vis1 day1 z1 hp2 st2 tr2 sp2 vis2 day2 z2 hp3 st3 tr3 sp3 vis3 day3 z3 tb tl rtok rbg ren rvl shn shb shz fd isK) H locs → lv_has ls 3 [(0, .ref (ad 0)), (1, .int v1), (2, .int v2)] → l4_findingsInAll_4  n fd v1 v2 = some r0 → W p l e ({ frames := 0, cells := 0, slots := 0, locals := 0 }) s m args below meth c H locs 0 0 (MQ below (QcI D (tyC cI cB cG cS) (wS cI cB cG cS ad hp1 st1 tr1 sp1 vis1 day1 z1 hp2 st2 tr2 sp2 vis2 day2 z2 hp3 st3 tr3 sp3 vis3 day3 z3 tb tl rtok rbg ren rvl shn shb shz fd isK) A r0) args s 0 0 A) (F0 m 4 ls []) := by
  have hx := C0.1
  have hb := C0.2.1
  have hown := C0.2.2.2.2.1
  have hts := C0.2.2.2.2.2.1
  have hX := C0.2.2.2.2.2.2.2.2
  intro n
  induction n with
  | zero =>
    intro _ _ _ _ _ G hl hf
    cases hf
  | succ n ih =>
    intro v1 v2 H locs ls G hl hf
    rw [l4_findingsInAll_4] at hf
    refine lv_iload_n hx hb dX4_findingsInAll_4 rfl (lv_at hl 2 rfl) ?_
    refine lv_bipush (v := (7 : Int32)) hx hb dX4_findingsInAll_5 (by decide) ?_
    refine lv_icmp_ge (tgt := 25) hx hb dX4_findingsInAll_7 (by decide) (fun hc1 => ?_) (fun hc1 => ?_)
    · have hf := itp hc1 hf
      refine lv_iload_n hx hb dX4_findingsInAll_25 rfl (lv_at hl 1 rfl) ?_
      obtain rfl := inj1 hf
      exact ret_i C0 G dX4_findingsInAll_26
    · have hf := itn hc1 hf
      refine lv_iload_n hx hb dX4_findingsInAll_10 rfl (lv_at hl 1 rfl) ?_
      refine lv_aload_n hx hb dX4_findingsInAll_11 rfl (lv_at hl 0 rfl) ?_
      refine s_get (C := RX4) (T := TX4) C0 G i_X4 0 6 rfl rfl (by decide) q179 rfl dX4_findingsInAll_12 ?_
      refine lv_iload_n hx hb dX4_findingsInAll_15 rfl (lv_at hl 2 rfl) ?_
      obtain ⟨hi2, hf⟩ := gd_s hf
      refine s_iald (k := v2.toNatClampNeg) C0 G 49 0 rfl rfl (vin hi2) rfl dX4_findingsInAll_16 ?_
      refine lv_iadd hx hb dX4_findingsInAll_17 ?_
      refine lv_istore_n (lv' := [(1, .int (v1 + (fd v2.toNatClampNeg))), (0, .ref (ad 0)), (2, .int v2)]) hx hb dX4_findingsInAll_18 rfl hl (by decide) rfl (fun ls hl => ?_)
      refine lv_iinc (v := (v2 + (1 : Int32))) (lv' := [(2, .int (v2 + (1 : Int32))), (1, .int (v1 + (fd v2.toNatClampNeg))), (0, .ref (ad 0))]) hx hb dX4_findingsInAll_19 hl (k := 2) rfl rfl (by decide) rfl (fun ls hl => ?_)
      refine lv_goto (tgt := 4) hx hb dX4_findingsInAll_22 (by decide) ?_
      exact ih G (lv_sub hl [2, 1, 0] rfl) hf
set_option maxHeartbeats 4000000 in
set_option maxRecDepth 100000 in
theorem b4_findingsInAll_0 {ta adK adV : Nat → Nat} {p : Program} {l : Launch} {e : Env} {s : State} {m : MethodId} {args : Array Value} {below : List Frame} {meth : Method} {c : Code} {D : va_G} {cI cB cG cS : ClassId} {ad : Nat → Nat} {A : Nat → Prop} {hp1 : Nat → Int32} {st1 : Nat → Int32} {tr1 : Nat → Nat → Int32} {sp1 : Nat → Int32} {vis1 : Int32} {day1 : Int32} {z1 : Int32} {hp2 : Nat → Int32} {st2 : Nat → Int32} {tr2 : Nat → Nat → Int32} {sp2 : Nat → Int32} {vis2 : Int32} {day2 : Int32} {z2 : Int32} {hp3 : Nat → Int32} {st3 : Nat → Int32} {tr3 : Nat → Nat → Int32} {sp3 : Nat → Int32} {vis3 : Int32} {day3 : Int32} {z3 : Int32} {tb : Nat → Int32} {tl : Int32} {rtok : Int32} {rbg : Int32} {ren : Int32} {rvl : Int32} {shn : Nat → Nat → Int32} {shb : Nat → Int32} {shz : Nat → Int32} {fd : Nat → Int32} {isK : Int32} {r0 : Int32} (C0 : CX (XS ta adK adV) p s m args meth c cX4_findingsInAll 3 (some .int) RX4 A) : ∀ {H : Heap} {locs : List Loc} {ls : Array Slot}, GX (XS ta adK adV) D (tyC cI cB cG cS) A s (wS cI cB cG cS ad hp1 st1 tr1 sp1 vis1 day1 z1 hp2 st2 tr2 sp2 vis2 day2 z2 hp3 st3 tr3 sp3 vis3 day3 z3 tb tl rtok rbg ren rvl shn shb shz fd isK) H locs → lv_has ls 3 [(0, .ref (ad 0))] → f4_findingsInAll fd = some r0 → W p l e ({ frames := 0, cells := 0, slots := 0, locals := 0 }) s m args below meth c H locs 0 0 (MQ below (QcI D (tyC cI cB cG cS) (wS cI cB cG cS ad hp1 st1 tr1 sp1 vis1 day1 z1 hp2 st2 tr2 sp2 vis2 day2 z2 hp3 st3 tr3 sp3 vis3 day3 z3 tb tl rtok rbg ren rvl shn shb shz fd isK) A r0) args s 0 0 A) (F0 m 0 ls []) := by
  have hx := C0.1
  have hb := C0.2.1
  have hown := C0.2.2.2.2.1
  have hts := C0.2.2.2.2.2.1
  have hX := C0.2.2.2.2.2.2.2.2
  intro H locs ls G hl hf
  unfold f4_findingsInAll at hf
  refine lv_iconst (v := (0 : Int32)) hx hb dX4_findingsInAll_0 (by decide) ?_
  refine lv_istore_n (lv' := [(1, .int (0 : Int32)), (0, .ref (ad 0))]) hx hb dX4_findingsInAll_1 rfl hl (by decide) rfl (fun ls hl => ?_)
  refine lv_iconst (v := (0 : Int32)) hx hb dX4_findingsInAll_2 (by decide) ?_
  refine lv_istore_n (lv' := [(2, .int (0 : Int32)), (1, .int (0 : Int32)), (0, .ref (ad 0))]) hx hb dX4_findingsInAll_3 rfl hl (by decide) rfl (fun ls hl => ?_)
  exact b4_findingsInAll_4 C0  1000 G (lv_sub hl [2, 1, 0] rfl) hf
theorem o4_findingsInAll : okName yX4_findingsInAll 0 := ⟨by decide, by decide, by decide +kernel⟩
set_option maxHeartbeats 4000000 in
set_option maxRecDepth 100000 in
theorem c4_findingsInAll {ta adK adV : Nat → Nat} (hX : XT (XS ta adK adV)) {l : Launch} {D : va_G} {cI cB cG cS : ClassId} {ad : Nat → Nat} {sz : Nat} {hp1 : Nat → Int32} {st1 : Nat → Int32} {tr1 : Nat → Nat → Int32} {sp1 : Nat → Int32} {vis1 : Int32} {day1 : Int32} {z1 : Int32} {hp2 : Nat → Int32} {st2 : Nat → Int32} {tr2 : Nat → Nat → Int32} {sp2 : Nat → Int32} {vis2 : Int32} {day2 : Int32} {z2 : Int32} {hp3 : Nat → Int32} {st3 : Nat → Int32} {tr3 : Nat → Nat → Int32} {sp3 : Nat → Int32} {vis3 : Int32} {day3 : Int32} {z3 : Int32} {tb : Nat → Int32} {tl : Int32} {rtok : Int32} {rbg : Int32} {ren : Int32} {rvl : Int32} {shn : Nat → Nat → Int32} {shb : Nat → Int32} {shz : Nat → Int32} {fd : Nat → Int32} {isK : Int32}  {r0 : Int32} (hf : f4_findingsInAll fd = some r0) : Met l yX4_findingsInAll (wU yX4_findingsInAll cX4_findingsInAll 3 (some .int)) ({ frames := 0, cells := 0, slots := 0, locals := 0 }) (va_Pc [.ref (ad 0)] (PreW (XS ta adK adV) D (tyC cI cB cG cS) (wS cI cB cG cS ad hp1 st1 tr1 sp1 vis1 day1 z1 hp2 st2 tr2 sp2 vis2 day2 z2 hp3 st3 tr3 sp3 vis3 day3 z3 tb tl rtok rbg ren rvl shn shb shz fd isK) sz)) (QcI D (tyC cI cB cG cS) (wS cI cB cG cS ad hp1 st1 tr1 sp1 vis1 day1 z1 hp2 st2 tr2 sp2 vis2 day2 z2 hp3 st3 tr3 sp3 vis3 day3 z3 tb tl rtok rbg ren rvl shn shb shz fd isK) (va_A (wS cI cB cG cS ad hp1 st1 tr1 sp1 vis1 day1 z1 hp2 st2 tr2 sp2 vis2 day2 z2 hp3 st3 tr3 sp3 vis3 day3 z3 tb tl rtok rbg ren rvl shn shb shz fd isK) sz) r0) 0 0 (va_A (wS cI cB cG cS ad hp1 st1 tr1 sp1 vis1 day1 z1 hp2 st2 tr2 sp2 vis2 day2 z2 hp3 st3 tr3 sp3 vis3 day3 z3 tb tl rtok rbg ren rvl shn shb shz fd isK) sz) := by
  refine startW hX (own := RX4) (by decide) rfl (Nat.le_of_ble_eq_true rfl) (fun p e s m args below meth c ls C0 G hl => ?_)
  exact b4_findingsInAll_0 C0 G hl hf
/-! 4_status -/
theorem dX4_status_0 : decode cX4_status 0 = .ok (.iload_n 1, 1) := by decide +kernel
theorem dX4_status_1 : decode cX4_status 1 = .ok (.iconst (-1), 1) := by decide +kernel
theorem dX4_status_2 : decode cX4_status 2 = .ok (.bipush 6, 2) := by decide +kernel
theorem dX4_status_4 : decode cX4_status 4 = .ok (.invokestatic 45, 3) := by decide +kernel
theorem dX4_status_7 : decode cX4_status 7 = .ok (.ifCond .ne 9, 3) := by decide +kernel
theorem dX4_status_10 : decode cX4_status 10 = .ok (.aload_n 0, 1) := by decide +kernel
theorem dX4_status_11 : decode cX4_status 11 = .ok (.iconst 0, 1) := by decide +kernel
theorem dX4_status_12 : decode cX4_status 12 = .ok (.invokevirtual 49, 3) := by decide +kernel
theorem dX4_status_15 : decode cX4_status 15 = .ok (.ireturn, 1) := by decide +kernel
theorem dX4_status_16 : decode cX4_status 16 = .ok (.iload_n 1, 1) := by decide +kernel
theorem dX4_status_17 : decode cX4_status 17 = .ok (.iconst (-1), 1) := by decide +kernel
theorem dX4_status_18 : decode cX4_status 18 = .ok (.if_icmp .ne 10, 3) := by decide +kernel
theorem dX4_status_21 : decode cX4_status 21 = .ok (.aload_n 0, 1) := by decide +kernel
theorem dX4_status_22 : decode cX4_status 22 = .ok (.invokevirtual 237, 3) := by decide +kernel
theorem dX4_status_25 : decode cX4_status 25 = .ok (.goto 9, 3) := by decide +kernel
theorem dX4_status_28 : decode cX4_status 28 = .ok (.aload_n 0, 1) := by decide +kernel
theorem dX4_status_29 : decode cX4_status 29 = .ok (.getfield 40, 3) := by decide +kernel
theorem dX4_status_32 : decode cX4_status 32 = .ok (.iload_n 1, 1) := by decide +kernel
theorem dX4_status_33 : decode cX4_status 33 = .ok (.iaload, 1) := by decide +kernel
theorem dX4_status_34 : decode cX4_status 34 = .ok (.ireturn, 1) := by decide +kernel
def f4_status (fd : Nat → Int32) (v1 : Int32) : Option (Int32 × (Nat → Int32)) :=
  if (f4_within v1 (-1 : Int32) (6 : Int32)) = (0 : Int32) then (
    ob2 (f4_found fd (0 : Int32)) (fun r6 fd_7 =>
    some (r6, fd_7)))
  else (
    if v1 = (-1 : Int32) then (
      ob1 (f4_findingsInAll fd) (fun r4 =>
      some (r4, fd)))
    else (
      gd (inb v1 7) (
      some ((fd v1.toNatClampNeg), fd))))
set_option maxHeartbeats 4000000 in
set_option maxRecDepth 100000 in
theorem b4_status_0 {ta adK adV : Nat → Nat} {p : Program} {l : Launch} {e : Env} {s : State} {m : MethodId} {args : Array Value} {below : List Frame} {meth : Method} {c : Code} {D : va_G} {cI cB cG cS : ClassId} {ad : Nat → Nat} {A : Nat → Prop} {hp1 : Nat → Int32} {st1 : Nat → Int32} {tr1 : Nat → Nat → Int32} {sp1 : Nat → Int32} {vis1 : Int32} {day1 : Int32} {z1 : Int32} {hp2 : Nat → Int32} {st2 : Nat → Int32} {tr2 : Nat → Nat → Int32} {sp2 : Nat → Int32} {vis2 : Int32} {day2 : Int32} {z2 : Int32} {hp3 : Nat → Int32} {st3 : Nat → Int32} {tr3 : Nat → Nat → Int32} {sp3 : Nat → Int32} {vis3 : Int32} {day3 : Int32} {z3 : Int32} {tb : Nat → Int32} {tl : Int32} {rtok : Int32} {rbg : Int32} {ren : Int32} {rvl : Int32} {shn : Nat → Nat → Int32} {shb : Nat → Int32} {shz : Nat → Int32} {isK : Int32} {r0 : Int32} {o_fd : Nat → Int32} (C0 : CX (XS ta adK adV) p s m args meth c cX4_status 2 (some .int) RX4 A) : ∀ {fd : Nat → Int32} {v1 : Int32} {H : Heap} {locs : List Loc} {ls : Array Slot}, GX (XS ta adK adV) D (tyC cI cB cG cS) A s (wS cI cB cG cS ad hp1 st1 tr1 sp1 vis1 day1 z1 hp2 st2 tr2 sp2 vis2 day2 z2 hp3 st3 tr3 sp3 vis3 day3 z3 tb tl rtok rbg ren rvl shn shb shz fd isK) H locs → lv_has ls 2 [(0, .ref (ad 0)), (1, .int v1)] → f4_status fd v1 = some (r0, o_fd) → W p l e ({ frames := 1, cells := 0, slots := 0, locals := 22 }) s m args below meth c H locs 0 0 (MQ below (QcI D (tyC cI cB cG cS) (wS cI cB cG cS ad hp1 st1 tr1 sp1 vis1 day1 z1 hp2 st2 tr2 sp2 vis2 day2 z2 hp3 st3 tr3 sp3 vis3 day3 z3 tb tl rtok rbg ren rvl shn shb shz o_fd isK) A r0) args s 0 0 A) (F0 m 0 ls []) := by
  have hx := C0.1
  have hb := C0.2.1
  have hown := C0.2.2.2.2.1
  have hts := C0.2.2.2.2.2.1
  have hX := C0.2.2.2.2.2.2.2.2
  intro fd v1 H locs ls G hl hf
  unfold f4_status at hf
  refine lv_iload_n hx hb dX4_status_0 rfl (lv_at hl 1 rfl) ?_
  refine lv_iconst (v := (-1 : Int32)) hx hb dX4_status_1 (by decide) ?_
  refine lv_bipush (v := (6 : Int32)) hx hb dX4_status_2 (by decide) ?_
  refine go_i C0 G (runS_of (n := 3) (As := [.int v1, .int (-1 : Int32), .int (6 : Int32)]) (rest := []) C0 G (c4_within hX rfl) q204 q49 q202 q203 o4_within ⟨rfl, rfl⟩ ⟨Nat.le_of_ble_eq_true rfl, Nat.le_of_ble_eq_true rfl⟩ rfl hl.1 rfl (Nat.le_of_ble_eq_true rfl) dX4_status_4) (fun H locs G => ?_)
  refine lv_if_ne (tgt := 16) hx hb dX4_status_7 (by decide) (fun hc1 => ?_) (fun hc1 => ?_)
  · have hf := itn hc1 hf
    refine lv_iload_n hx hb dX4_status_16 rfl (lv_at hl 1 rfl) ?_
    refine lv_iconst (v := (-1 : Int32)) hx hb dX4_status_17 (by decide) ?_
    refine lv_icmp_ne (tgt := 28) hx hb dX4_status_18 (by decide) (fun hc2 => ?_) (fun hc2 => ?_)
    · have hf := itn hc2 hf
      refine lv_aload_n hx hb dX4_status_28 rfl (lv_at hl 0 rfl) ?_
      refine s_get (C := RX4) (T := TX4) C0 G i_X4 0 6 rfl rfl (by decide) q179 rfl dX4_status_29 ?_
      refine lv_iload_n hx hb dX4_status_32 rfl (lv_at hl 1 rfl) ?_
      obtain ⟨hi3, hf⟩ := gd_s hf
      refine s_iald (k := v1.toNatClampNeg) C0 G 49 0 rfl rfl (vin hi3) rfl dX4_status_33 ?_
      obtain ⟨rfl, rfl⟩ := inj2 hf
      exact ret_i C0 G dX4_status_34
    · have hf := itp hc2 hf
      refine lv_aload_n hx hb dX4_status_21 rfl (lv_at hl 0 rfl) ?_
      obtain ⟨r4, hc5, hf⟩ := ob1_s hf
      refine go_i C0 G (runV_of (n := 0) (q0 := 0) (As := []) (rest := []) C0 G (c4_findingsInAll hX hc5) q706 q49 q703 q705 q8 o4_findingsInAll ⟨rfl, rfl⟩ ⟨Nat.le_of_ble_eq_true rfl, Nat.le_of_ble_eq_true rfl⟩ rfl rfl rfl hl.1 rfl (Nat.le_of_ble_eq_true rfl) dX4_status_22) (fun H locs G => ?_)
      refine lv_goto (tgt := 34) hx hb dX4_status_25 (by decide) ?_
      obtain ⟨rfl, rfl⟩ := inj2 hf
      exact ret_i C0 G dX4_status_34
  · have hf := itp hc1 hf
    refine lv_aload_n hx hb dX4_status_10 rfl (lv_at hl 0 rfl) ?_
    refine lv_iconst (v := (0 : Int32)) hx hb dX4_status_11 (by decide) ?_
    obtain ⟨r6, fd_7, hc8, hf⟩ := ob2_s hf
    refine go_i C0 G (runV_of (n := 1) (q0 := 0) (As := [.int (0 : Int32)]) (rest := []) C0 G (c4_found hX hc8) q208 q49 q205 q207 q0 o4_found ⟨rfl, rfl⟩ ⟨Nat.le_of_ble_eq_true rfl, Nat.le_of_ble_eq_true rfl⟩ rfl rfl rfl hl.1 rfl (Nat.le_of_ble_eq_true rfl) dX4_status_12) (fun H locs G => ?_)
    obtain ⟨rfl, rfl⟩ := inj2 hf
    exact ret_i C0 G dX4_status_15
theorem o4_status : okName yX4_status 1 := ⟨by decide, by decide, by decide +kernel⟩
set_option maxHeartbeats 4000000 in
set_option maxRecDepth 100000 in
theorem c4_status {ta adK adV : Nat → Nat} (hX : XT (XS ta adK adV)) {l : Launch} {D : va_G} {cI cB cG cS : ClassId} {ad : Nat → Nat} {sz : Nat} {hp1 : Nat → Int32} {st1 : Nat → Int32} {tr1 : Nat → Nat → Int32} {sp1 : Nat → Int32} {vis1 : Int32} {day1 : Int32} {z1 : Int32} {hp2 : Nat → Int32} {st2 : Nat → Int32} {tr2 : Nat → Nat → Int32} {sp2 : Nat → Int32} {vis2 : Int32} {day2 : Int32} {z2 : Int32} {hp3 : Nat → Int32} {st3 : Nat → Int32} {tr3 : Nat → Nat → Int32} {sp3 : Nat → Int32} {vis3 : Int32} {day3 : Int32} {z3 : Int32} {tb : Nat → Int32} {tl : Int32} {rtok : Int32} {rbg : Int32} {ren : Int32} {rvl : Int32} {shn : Nat → Nat → Int32} {shb : Nat → Int32} {shz : Nat → Int32} {fd : Nat → Int32} {isK : Int32} {v1 : Int32} {r0 : Int32} {o_fd : Nat → Int32} (hf : f4_status fd v1 = some (r0, o_fd)) : Met l yX4_status (wU yX4_status cX4_status 2 (some .int)) ({ frames := 1, cells := 0, slots := 0, locals := 22 }) (va_Pc [.ref (ad 0), .int v1] (PreW (XS ta adK adV) D (tyC cI cB cG cS) (wS cI cB cG cS ad hp1 st1 tr1 sp1 vis1 day1 z1 hp2 st2 tr2 sp2 vis2 day2 z2 hp3 st3 tr3 sp3 vis3 day3 z3 tb tl rtok rbg ren rvl shn shb shz fd isK) sz)) (QcI D (tyC cI cB cG cS) (wS cI cB cG cS ad hp1 st1 tr1 sp1 vis1 day1 z1 hp2 st2 tr2 sp2 vis2 day2 z2 hp3 st3 tr3 sp3 vis3 day3 z3 tb tl rtok rbg ren rvl shn shb shz o_fd isK) (va_A (wS cI cB cG cS ad hp1 st1 tr1 sp1 vis1 day1 z1 hp2 st2 tr2 sp2 vis2 day2 z2 hp3 st3 tr3 sp3 vis3 day3 z3 tb tl rtok rbg ren rvl shn shb shz fd isK) sz) r0) 0 0 (va_A (wS cI cB cG cS ad hp1 st1 tr1 sp1 vis1 day1 z1 hp2 st2 tr2 sp2 vis2 day2 z2 hp3 st3 tr3 sp3 vis3 day3 z3 tb tl rtok rbg ren rvl shn shb shz fd isK) sz) := by
  refine startW hX (own := RX4) (by decide) rfl (Nat.le_of_ble_eq_true rfl) (fun p e s m args below meth c ls C0 G hl => ?_)
  exact b4_status_0 C0 G hl hf
