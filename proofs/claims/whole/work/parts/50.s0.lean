/-! 4_found -/
theorem dX4_found_0 : decode cX4_found 0 = .ok (.aload_n 0, 1) := by decide +kernel
theorem dX4_found_1 : decode cX4_found 1 = .ok (.getfield 40, 3) := by decide +kernel
theorem dX4_found_4 : decode cX4_found 4 = .ok (.iload_n 1, 1) := by decide +kernel
theorem dX4_found_5 : decode cX4_found 5 = .ok (.dup2, 1) := by decide +kernel
theorem dX4_found_6 : decode cX4_found 6 = .ok (.iaload, 1) := by decide +kernel
theorem dX4_found_7 : decode cX4_found 7 = .ok (.iconst 1, 1) := by decide +kernel
theorem dX4_found_8 : decode cX4_found 8 = .ok (.iadd, 1) := by decide +kernel
theorem dX4_found_9 : decode cX4_found 9 = .ok (.iastore, 1) := by decide +kernel
theorem dX4_found_10 : decode cX4_found 10 = .ok (.ldc 243, 2) := by decide +kernel
theorem dX4_found_12 : decode cX4_found 12 = .ok (.iload_n 1, 1) := by decide +kernel
theorem dX4_found_13 : decode cX4_found 13 = .ok (.isub, 1) := by decide +kernel
theorem dX4_found_14 : decode cX4_found 14 = .ok (.ireturn, 1) := by decide +kernel
def f4_found (fd : Nat → Int32) (v1 : Int32) : Option (Int32 × (Nat → Int32)) :=
  gd (inb v1 7) (
  gd (inb v1 7) (
  some (((-1000001 : Int32) - v1), (upd fd v1.toNatClampNeg ((fd v1.toNatClampNeg) + (1 : Int32))))))
set_option maxHeartbeats 4000000 in
set_option maxRecDepth 100000 in
theorem b4_found_0 {ta adK adV : Nat → Nat} {p : Program} {l : Launch} {e : Env} {s : State} {m : MethodId} {args : Array Value} {below : List Frame} {meth : Method} {c : Code} {D : va_G} {cI cB cG cS : ClassId} {ad : Nat → Nat} {A : Nat → Prop} {hp1 : Nat → Int32} {st1 : Nat → Int32} {tr1 : Nat → Nat → Int32} {sp1 : Nat → Int32} {vis1 : Int32} {day1 : Int32} {z1 : Int32} {hp2 : Nat → Int32} {st2 : Nat → Int32} {tr2 : Nat → Nat → Int32} {sp2 : Nat → Int32} {vis2 : Int32} {day2 : Int32} {z2 : Int32} {hp3 : Nat → Int32} {st3 : Nat → Int32} {tr3 : Nat → Nat → Int32} {sp3 : Nat → Int32} {vis3 : Int32} {day3 : Int32} {z3 : Int32} {tb : Nat → Int32} {tl : Int32} {rtok : Int32} {rbg : Int32} {ren : Int32} {rvl : Int32} {shn : Nat → Nat → Int32} {shb : Nat → Int32} {shz : Nat → Int32} {isK : Int32} {r0 : Int32} {o_fd : Nat → Int32} (C0 : CX (XS ta adK adV) p s m args meth c cX4_found 2 (some .int) RX4 A) : ∀ {fd : Nat → Int32} {v1 : Int32} {H : Heap} {locs : List Loc} {ls : Array Slot}, GX (XS ta adK adV) D (tyC cI cB cG cS) A s (wS cI cB cG cS ad hp1 st1 tr1 sp1 vis1 day1 z1 hp2 st2 tr2 sp2 vis2 day2 z2 hp3 st3 tr3 sp3 vis3 day3 z3 tb tl rtok rbg ren rvl shn shb shz fd isK) H locs → lv_has ls 2 [(0, .ref (ad 0)), (1, .int v1)] → f4_found fd v1 = some (r0, o_fd) → W p l e ({ frames := 0, cells := 0, slots := 0, locals := 0 }) s m args below meth c H locs 0 0 (MQ below (QcI D (tyC cI cB cG cS) (wS cI cB cG cS ad hp1 st1 tr1 sp1 vis1 day1 z1 hp2 st2 tr2 sp2 vis2 day2 z2 hp3 st3 tr3 sp3 vis3 day3 z3 tb tl rtok rbg ren rvl shn shb shz o_fd isK) A r0) args s 0 0 A) (F0 m 0 ls []) := by
  have hx := C0.1
  have hb := C0.2.1
  have hown := C0.2.2.2.2.1
  have hts := C0.2.2.2.2.2.1
  have hX := C0.2.2.2.2.2.2.2.2
  intro fd v1 H locs ls G hl hf
  unfold f4_found at hf
  refine lv_aload_n hx hb dX4_found_0 rfl (lv_at hl 0 rfl) ?_
  refine s_get (C := RX4) (T := TX4) C0 G i_X4 0 6 rfl rfl (by decide) q179 rfl dX4_found_1 ?_
  refine lv_iload_n hx hb dX4_found_4 rfl (lv_at hl 1 rfl) ?_
  refine lv_dup2_11 hx hb dX4_found_5 rfl rfl ?_
  obtain ⟨hi1, hf⟩ := gd_s hf
  refine s_iald (k := v1.toNatClampNeg) C0 G 49 0 rfl rfl (vin hi1) rfl dX4_found_6 ?_
  refine lv_iconst (v := (1 : Int32)) hx hb dX4_found_7 (by decide) ?_
  refine lv_iadd hx hb dX4_found_8 ?_
  obtain ⟨hi2, hf⟩ := gd_s hf
  refine s_iast (k := v1.toNatClampNeg) (w' := (wS cI cB cG cS ad hp1 st1 tr1 sp1 vis1 day1 z1 hp2 st2 tr2 sp2 vis2 day2 z2 hp3 st3 tr3 sp3 vis3 day3 z3 tb tl rtok rbg ren rvl shn shb shz (upd fd v1.toNatClampNeg ((fd v1.toNatClampNeg) + (1 : Int32))) isK)) C0 G 49 0 rfl rfl (vin hi2) rfl rfl dX4_found_9 (fun H locs G => ?_)
  refine lv_ldc (v := (-1000001 : Int32)) hx hb hown (hts _ q209) dX4_found_10 ?_
  refine lv_iload_n hx hb dX4_found_12 rfl (lv_at hl 1 rfl) ?_
  refine lv_isub hx hb dX4_found_13 ?_
  obtain ⟨rfl, rfl⟩ := inj2 hf
  exact ret_i C0 G dX4_found_14
theorem o4_found : okName yX4_found 1 := ⟨by decide, by decide, by decide +kernel⟩
set_option maxHeartbeats 4000000 in
set_option maxRecDepth 100000 in
theorem c4_found {ta adK adV : Nat → Nat} (hX : XT (XS ta adK adV)) {l : Launch} {D : va_G} {cI cB cG cS : ClassId} {ad : Nat → Nat} {sz : Nat} {hp1 : Nat → Int32} {st1 : Nat → Int32} {tr1 : Nat → Nat → Int32} {sp1 : Nat → Int32} {vis1 : Int32} {day1 : Int32} {z1 : Int32} {hp2 : Nat → Int32} {st2 : Nat → Int32} {tr2 : Nat → Nat → Int32} {sp2 : Nat → Int32} {vis2 : Int32} {day2 : Int32} {z2 : Int32} {hp3 : Nat → Int32} {st3 : Nat → Int32} {tr3 : Nat → Nat → Int32} {sp3 : Nat → Int32} {vis3 : Int32} {day3 : Int32} {z3 : Int32} {tb : Nat → Int32} {tl : Int32} {rtok : Int32} {rbg : Int32} {ren : Int32} {rvl : Int32} {shn : Nat → Nat → Int32} {shb : Nat → Int32} {shz : Nat → Int32} {fd : Nat → Int32} {isK : Int32} {v1 : Int32} {r0 : Int32} {o_fd : Nat → Int32} (hf : f4_found fd v1 = some (r0, o_fd)) : Met l yX4_found (wU yX4_found cX4_found 2 (some .int)) ({ frames := 0, cells := 0, slots := 0, locals := 0 }) (va_Pc [.ref (ad 0), .int v1] (PreW (XS ta adK adV) D (tyC cI cB cG cS) (wS cI cB cG cS ad hp1 st1 tr1 sp1 vis1 day1 z1 hp2 st2 tr2 sp2 vis2 day2 z2 hp3 st3 tr3 sp3 vis3 day3 z3 tb tl rtok rbg ren rvl shn shb shz fd isK) sz)) (QcI D (tyC cI cB cG cS) (wS cI cB cG cS ad hp1 st1 tr1 sp1 vis1 day1 z1 hp2 st2 tr2 sp2 vis2 day2 z2 hp3 st3 tr3 sp3 vis3 day3 z3 tb tl rtok rbg ren rvl shn shb shz o_fd isK) (va_A (wS cI cB cG cS ad hp1 st1 tr1 sp1 vis1 day1 z1 hp2 st2 tr2 sp2 vis2 day2 z2 hp3 st3 tr3 sp3 vis3 day3 z3 tb tl rtok rbg ren rvl shn shb shz fd isK) sz) r0) 0 0 (va_A (wS cI cB cG cS ad hp1 st1 tr1 sp1 vis1 day1 z1 hp2 st2 tr2 sp2 vis2 day2 z2 hp3 st3 tr3 sp3 vis3 day3 z3 tb tl rtok rbg ren rvl shn shb shz fd isK) sz) := by
  refine startW hX (own := RX4) (by decide) rfl (Nat.le_of_ble_eq_true rfl) (fun p e s m args below meth c ls C0 G hl => ?_)
  exact b4_found_0 C0 G hl hf
/-! 4_sand -/
theorem dX4_sand_0 : decode cX4_sand 0 = .ok (.iload_n 1, 1) := by decide +kernel
theorem dX4_sand_1 : decode cX4_sand 1 = .ok (.iconst 0, 1) := by decide +kernel
theorem dX4_sand_2 : decode cX4_sand 2 = .ok (.bipush 15, 2) := by decide +kernel
theorem dX4_sand_4 : decode cX4_sand 4 = .ok (.invokestatic 45, 3) := by decide +kernel
theorem dX4_sand_7 : decode cX4_sand 7 = .ok (.ifCond .eq 13, 3) := by decide +kernel
theorem dX4_sand_10 : decode cX4_sand 10 = .ok (.iload_n 2, 1) := by decide +kernel
theorem dX4_sand_11 : decode cX4_sand 11 = .ok (.iconst 0, 1) := by decide +kernel
theorem dX4_sand_12 : decode cX4_sand 12 = .ok (.bipush 30, 2) := by decide +kernel
theorem dX4_sand_14 : decode cX4_sand 14 = .ok (.invokestatic 45, 3) := by decide +kernel
theorem dX4_sand_17 : decode cX4_sand 17 = .ok (.ifCond .ne 9, 3) := by decide +kernel
theorem dX4_sand_20 : decode cX4_sand 20 = .ok (.aload_n 0, 1) := by decide +kernel
theorem dX4_sand_21 : decode cX4_sand 21 = .ok (.iconst 0, 1) := by decide +kernel
theorem dX4_sand_22 : decode cX4_sand 22 = .ok (.invokevirtual 49, 3) := by decide +kernel
theorem dX4_sand_25 : decode cX4_sand 25 = .ok (.ireturn, 1) := by decide +kernel
theorem dX4_sand_26 : decode cX4_sand 26 = .ok (.aload_n 0, 1) := by decide +kernel
theorem dX4_sand_27 : decode cX4_sand 27 = .ok (.getfield 10, 3) := by decide +kernel
theorem dX4_sand_30 : decode cX4_sand 30 = .ok (.getfield 53, 3) := by decide +kernel
theorem dX4_sand_33 : decode cX4_sand 33 = .ok (.iload_n 1, 1) := by decide +kernel
theorem dX4_sand_34 : decode cX4_sand 34 = .ok (.iaload, 1) := by decide +kernel
theorem dX4_sand_35 : decode cX4_sand 35 = .ok (.istore_n 3, 1) := by decide +kernel
theorem dX4_sand_36 : decode cX4_sand 36 = .ok (.aload_n 0, 1) := by decide +kernel
theorem dX4_sand_37 : decode cX4_sand 37 = .ok (.getfield 10, 3) := by decide +kernel
theorem dX4_sand_40 : decode cX4_sand 40 = .ok (.getfield 53, 3) := by decide +kernel
theorem dX4_sand_43 : decode cX4_sand 43 = .ok (.iload_n 1, 1) := by decide +kernel
theorem dX4_sand_44 : decode cX4_sand 44 = .ok (.iload_n 2, 1) := by decide +kernel
theorem dX4_sand_45 : decode cX4_sand 45 = .ok (.iastore, 1) := by decide +kernel
theorem dX4_sand_46 : decode cX4_sand 46 = .ok (.iload_n 3, 1) := by decide +kernel
theorem dX4_sand_47 : decode cX4_sand 47 = .ok (.ireturn, 1) := by decide +kernel
def j4_sand_20  (hp1 : Nat → Int32) (fd : Nat → Int32)  : Option (Int32 × (Nat → Int32) × (Nat → Int32)) :=
  ob2 (f4_found fd (0 : Int32)) (fun r5 fd_6 =>
  some (r5, hp1, fd_6))
def f4_sand (hp1 : Nat → Int32) (fd : Nat → Int32) (v1 : Int32) (v2 : Int32) : Option (Int32 × (Nat → Int32) × (Nat → Int32)) :=
  if (f4_within v1 (0 : Int32) (15 : Int32)) = (0 : Int32) then (
    j4_sand_20 hp1 fd)
  else (
    if (f4_within v2 (0 : Int32) (30 : Int32)) = (0 : Int32) then (
      j4_sand_20 hp1 fd)
    else (
      gd (inb v1 16) (
      gd (inb v1 16) (
      some ((hp1 v1.toNatClampNeg), (upd hp1 v1.toNatClampNeg v2), fd)))))
set_option maxHeartbeats 4000000 in
set_option maxRecDepth 100000 in
theorem b4_sand_20 {ta adK adV : Nat → Nat} {p : Program} {l : Launch} {e : Env} {s : State} {m : MethodId} {args : Array Value} {below : List Frame} {meth : Method} {c : Code} {D : va_G} {cI cB cG cS : ClassId} {ad : Nat → Nat} {A : Nat → Prop} {st1 : Nat → Int32} {tr1 : Nat → Nat → Int32} {sp1 : Nat → Int32} {vis1 : Int32} {day1 : Int32} {z1 : Int32} {hp2 : Nat → Int32} {st2 : Nat → Int32} {tr2 : Nat → Nat → Int32} {sp2 : Nat → Int32} {vis2 : Int32} {day2 : Int32} {z2 : Int32} {hp3 : Nat → Int32} {st3 : Nat → Int32} {tr3 : Nat → Nat → Int32} {sp3 : Nat → Int32} {vis3 : Int32} {day3 : Int32} {z3 : Int32} {tb : Nat → Int32} {tl : Int32} {rtok : Int32} {rbg : Int32} {ren : Int32} {rvl : Int32} {shn : Nat → Nat → Int32} {shb : Nat → Int32} {shz : Nat → Int32} {isK : Int32} {r0 : Int32} {o_hp1 : Nat → Int32} {o_fd : Nat → Int32} (C0 : CX (XS ta adK adV) p s m args meth c cX4_sand 4 (some .int) RX4 A) : ∀ {hp1 : Nat → Int32} {fd : Nat → Int32} {H : Heap} {locs : List Loc} {ls : Array Slot}, GX (XS ta adK adV) D (tyC cI cB cG cS) A s (wS cI cB cG cS ad hp1 st1 tr1 sp1 vis1 day1 z1 hp2 st2 tr2 sp2 vis2 day2 z2 hp3 st3 tr3 sp3 vis3 day3 z3 tb tl rtok rbg ren rvl shn shb shz fd isK) H locs → lv_has ls 4 [(0, .ref (ad 0))] → j4_sand_20  hp1 fd = some (r0, o_hp1, o_fd) → W p l e ({ frames := 1, cells := 0, slots := 0, locals := 22 }) s m args below meth c H locs 0 0 (MQ below (QcI D (tyC cI cB cG cS) (wS cI cB cG cS ad o_hp1 st1 tr1 sp1 vis1 day1 z1 hp2 st2 tr2 sp2 vis2 day2 z2 hp3 st3 tr3 sp3 vis3 day3 z3 tb tl rtok rbg ren rvl shn shb shz o_fd isK) A r0) args s 0 0 A) (F0 m 20 ls []) := by
  have hx := C0.1
  have hb := C0.2.1
  have hown := C0.2.2.2.2.1
  have hts := C0.2.2.2.2.2.1
  have hX := C0.2.2.2.2.2.2.2.2
  intro hp1 fd H locs ls G hl hf
  unfold j4_sand_20 at hf
  refine lv_aload_n hx hb dX4_sand_20 rfl (lv_at hl 0 rfl) ?_
  refine lv_iconst (v := (0 : Int32)) hx hb dX4_sand_21 (by decide) ?_
  obtain ⟨r5, fd_6, hc7, hf⟩ := ob2_s hf
  refine go_i C0 G (runV_of (n := 1) (q0 := 0) (As := [.int (0 : Int32)]) (rest := []) C0 G (c4_found hX hc7) q208 q49 q205 q207 q0 o4_found ⟨rfl, rfl⟩ ⟨Nat.le_of_ble_eq_true rfl, Nat.le_of_ble_eq_true rfl⟩ rfl rfl rfl hl.1 rfl (Nat.le_of_ble_eq_true rfl) dX4_sand_22) (fun H locs G => ?_)
  obtain ⟨rfl, rfl, rfl⟩ := inj3 hf
  exact ret_i C0 G dX4_sand_25
set_option maxHeartbeats 4000000 in
set_option maxRecDepth 100000 in
theorem b4_sand_0 {ta adK adV : Nat → Nat} {p : Program} {l : Launch} {e : Env} {s : State} {m : MethodId} {args : Array Value} {below : List Frame} {meth : Method} {c : Code} {D : va_G} {cI cB cG cS : ClassId} {ad : Nat → Nat} {A : Nat → Prop} {st1 : Nat → Int32} {tr1 : Nat → Nat → Int32} {sp1 : Nat → Int32} {vis1 : Int32} {day1 : Int32} {z1 : Int32} {hp2 : Nat → Int32} {st2 : Nat → Int32} {tr2 : Nat → Nat → Int32} {sp2 : Nat → Int32} {vis2 : Int32} {day2 : Int32} {z2 : Int32} {hp3 : Nat → Int32} {st3 : Nat → Int32} {tr3 : Nat → Nat → Int32} {sp3 : Nat → Int32} {vis3 : Int32} {day3 : Int32} {z3 : Int32} {tb : Nat → Int32} {tl : Int32} {rtok : Int32} {rbg : Int32} {ren : Int32} {rvl : Int32} {shn : Nat → Nat → Int32} {shb : Nat → Int32} {shz : Nat → Int32} {isK : Int32} {r0 : Int32} {o_hp1 : Nat → Int32} {o_fd : Nat → Int32} (C0 : CX (XS ta adK adV) p s m args meth c cX4_sand 4 (some .int) RX4 A) : ∀ {hp1 : Nat → Int32} {fd : Nat → Int32} {v1 : Int32} {v2 : Int32} {H : Heap} {locs : List Loc} {ls : Array Slot}, GX (XS ta adK adV) D (tyC cI cB cG cS) A s (wS cI cB cG cS ad hp1 st1 tr1 sp1 vis1 day1 z1 hp2 st2 tr2 sp2 vis2 day2 z2 hp3 st3 tr3 sp3 vis3 day3 z3 tb tl rtok rbg ren rvl shn shb shz fd isK) H locs → lv_has ls 4 [(0, .ref (ad 0)), (1, .int v1), (2, .int v2)] → f4_sand hp1 fd v1 v2 = some (r0, o_hp1, o_fd) → W p l e ({ frames := 1, cells := 0, slots := 0, locals := 22 }) s m args below meth c H locs 0 0 (MQ below (QcI D (tyC cI cB cG cS) (wS cI cB cG cS ad o_hp1 st1 tr1 sp1 vis1 day1 z1 hp2 st2 tr2 sp2 vis2 day2 z2 hp3 st3 tr3 sp3 vis3 day3 z3 tb tl rtok rbg ren rvl shn shb shz o_fd isK) A r0) args s 0 0 A) (F0 m 0 ls []) := by
  have hx := C0.1
  have hb := C0.2.1
  have hown := C0.2.2.2.2.1
  have hts := C0.2.2.2.2.2.1
  have hX := C0.2.2.2.2.2.2.2.2
  intro hp1 fd v1 v2 H locs ls G hl hf
  unfold f4_sand at hf
  refine lv_iload_n hx hb dX4_sand_0 rfl (lv_at hl 1 rfl) ?_
  refine lv_iconst (v := (0 : Int32)) hx hb dX4_sand_1 (by decide) ?_
  refine lv_bipush (v := (15 : Int32)) hx hb dX4_sand_2 (by decide) ?_
  refine go_i C0 G (runS_of (n := 3) (As := [.int v1, .int (0 : Int32), .int (15 : Int32)]) (rest := []) C0 G (c4_within hX rfl) q204 q49 q202 q203 o4_within ⟨rfl, rfl⟩ ⟨Nat.le_of_ble_eq_true rfl, Nat.le_of_ble_eq_true rfl⟩ rfl hl.1 rfl (Nat.le_of_ble_eq_true rfl) dX4_sand_4) (fun H locs G => ?_)
  refine lv_if_eq (tgt := 20) hx hb dX4_sand_7 (by decide) (fun hc1 => ?_) (fun hc1 => ?_)
  · have hf := itp hc1 hf
    exact b4_sand_20 C0  G (lv_sub hl [0] rfl) hf
  · have hf := itn hc1 hf
    refine lv_iload_n hx hb dX4_sand_10 rfl (lv_at hl 2 rfl) ?_
    refine lv_iconst (v := (0 : Int32)) hx hb dX4_sand_11 (by decide) ?_
    refine lv_bipush (v := (30 : Int32)) hx hb dX4_sand_12 (by decide) ?_
    refine go_i C0 G (runS_of (n := 3) (As := [.int v2, .int (0 : Int32), .int (30 : Int32)]) (rest := []) C0 G (c4_within hX rfl) q204 q49 q202 q203 o4_within ⟨rfl, rfl⟩ ⟨Nat.le_of_ble_eq_true rfl, Nat.le_of_ble_eq_true rfl⟩ rfl hl.1 rfl (Nat.le_of_ble_eq_true rfl) dX4_sand_14) (fun H locs G => ?_)
    refine lv_if_ne (tgt := 26) hx hb dX4_sand_17 (by decide) (fun hc2 => ?_) (fun hc2 => ?_)
    · have hf := itn hc2 hf
      refine lv_aload_n hx hb dX4_sand_26 rfl (lv_at hl 0 rfl) ?_
      refine s_get (C := RX4) (T := TX4) C0 G i_X4 0 0 rfl rfl (by decide) q173 rfl dX4_sand_27 ?_
      refine s_get (C := RX0) (T := TX0) C0 G i_X0 1 0 rfl rfl (by decide) q81 rfl dX4_sand_30 ?_
      refine lv_iload_n hx hb dX4_sand_33 rfl (lv_at hl 1 rfl) ?_
      obtain ⟨hi3, hf⟩ := gd_s hf
      refine s_iald (k := v1.toNatClampNeg) C0 G 2 0 rfl rfl (vin hi3) rfl dX4_sand_34 ?_
      refine lv_istore_n (lv' := [(3, .int (hp1 v1.toNatClampNeg)), (0, .ref (ad 0)), (1, .int v1), (2, .int v2)]) hx hb dX4_sand_35 rfl hl (by decide) rfl (fun ls hl => ?_)
      refine lv_aload_n hx hb dX4_sand_36 rfl (lv_at hl 1 rfl) ?_
      refine s_get (C := RX4) (T := TX4) C0 G i_X4 0 0 rfl rfl (by decide) q173 rfl dX4_sand_37 ?_
      refine s_get (C := RX0) (T := TX0) C0 G i_X0 1 0 rfl rfl (by decide) q81 rfl dX4_sand_40 ?_
      refine lv_iload_n hx hb dX4_sand_43 rfl (lv_at hl 2 rfl) ?_
      refine lv_iload_n hx hb dX4_sand_44 rfl (lv_at hl 3 rfl) ?_
      obtain ⟨hi4, hf⟩ := gd_s hf
      refine s_iast (k := v1.toNatClampNeg) (w' := (wS cI cB cG cS ad (upd hp1 v1.toNatClampNeg v2) st1 tr1 sp1 vis1 day1 z1 hp2 st2 tr2 sp2 vis2 day2 z2 hp3 st3 tr3 sp3 vis3 day3 z3 tb tl rtok rbg ren rvl shn shb shz fd isK)) C0 G 2 0 rfl rfl (vin hi4) rfl rfl dX4_sand_45 (fun H locs G => ?_)
      refine lv_iload_n hx hb dX4_sand_46 rfl (lv_at hl 0 rfl) ?_
      obtain ⟨rfl, rfl, rfl⟩ := inj3 hf
      exact ret_i C0 G dX4_sand_47
    · have hf := itp hc2 hf
      exact b4_sand_20 C0  G (lv_sub hl [0] rfl) hf
theorem o4_sand : okName yX4_sand 2 := ⟨by decide, by decide, by decide +kernel⟩
set_option maxHeartbeats 4000000 in
set_option maxRecDepth 100000 in
theorem c4_sand {ta adK adV : Nat → Nat} (hX : XT (XS ta adK adV)) {l : Launch} {D : va_G} {cI cB cG cS : ClassId} {ad : Nat → Nat} {sz : Nat} {hp1 : Nat → Int32} {st1 : Nat → Int32} {tr1 : Nat → Nat → Int32} {sp1 : Nat → Int32} {vis1 : Int32} {day1 : Int32} {z1 : Int32} {hp2 : Nat → Int32} {st2 : Nat → Int32} {tr2 : Nat → Nat → Int32} {sp2 : Nat → Int32} {vis2 : Int32} {day2 : Int32} {z2 : Int32} {hp3 : Nat → Int32} {st3 : Nat → Int32} {tr3 : Nat → Nat → Int32} {sp3 : Nat → Int32} {vis3 : Int32} {day3 : Int32} {z3 : Int32} {tb : Nat → Int32} {tl : Int32} {rtok : Int32} {rbg : Int32} {ren : Int32} {rvl : Int32} {shn : Nat → Nat → Int32} {shb : Nat → Int32} {shz : Nat → Int32} {fd : Nat → Int32} {isK : Int32} {v1 : Int32} {v2 : Int32} {r0 : Int32} {o_hp1 : Nat → Int32} {o_fd : Nat → Int32} (hf : f4_sand hp1 fd v1 v2 = some (r0, o_hp1, o_fd)) : Met l yX4_sand (wU yX4_sand cX4_sand 4 (some .int)) ({ frames := 1, cells := 0, slots := 0, locals := 22 }) (va_Pc [.ref (ad 0), .int v1, .int v2] (PreW (XS ta adK adV) D (tyC cI cB cG cS) (wS cI cB cG cS ad hp1 st1 tr1 sp1 vis1 day1 z1 hp2 st2 tr2 sp2 vis2 day2 z2 hp3 st3 tr3 sp3 vis3 day3 z3 tb tl rtok rbg ren rvl shn shb shz fd isK) sz)) (QcI D (tyC cI cB cG cS) (wS cI cB cG cS ad o_hp1 st1 tr1 sp1 vis1 day1 z1 hp2 st2 tr2 sp2 vis2 day2 z2 hp3 st3 tr3 sp3 vis3 day3 z3 tb tl rtok rbg ren rvl shn shb shz o_fd isK) (va_A (wS cI cB cG cS ad hp1 st1 tr1 sp1 vis1 day1 z1 hp2 st2 tr2 sp2 vis2 day2 z2 hp3 st3 tr3 sp3 vis3 day3 z3 tb tl rtok rbg ren rvl shn shb shz fd isK) sz) r0) 0 0 (va_A (wS cI cB cG cS ad hp1 st1 tr1 sp1 vis1 day1 z1 hp2 st2 tr2 sp2 vis2 day2 z2 hp3 st3 tr3 sp3 vis3 day3 z3 tb tl rtok rbg ren rvl shn shb shz fd isK) sz) := by
  refine startW hX (own := RX4) (by decide) rfl (Nat.le_of_ble_eq_true rfl) (fun p e s m args below meth c ls C0 G hl => ?_)
  exact b4_sand_0 C0 G hl hf
/-! 4_cell -/
theorem dX4_cell_0 : decode cX4_cell 0 = .ok (.iload_n 1, 1) := by decide +kernel
theorem dX4_cell_1 : decode cX4_cell 1 = .ok (.iconst 0, 1) := by decide +kernel
theorem dX4_cell_2 : decode cX4_cell 2 = .ok (.bipush 15, 2) := by decide +kernel
theorem dX4_cell_4 : decode cX4_cell 4 = .ok (.invokestatic 45, 3) := by decide +kernel
theorem dX4_cell_7 : decode cX4_cell 7 = .ok (.ifCond .eq 12, 3) := by decide +kernel
theorem dX4_cell_10 : decode cX4_cell 10 = .ok (.iload_n 2, 1) := by decide +kernel
theorem dX4_cell_11 : decode cX4_cell 11 = .ok (.iconst 0, 1) := by decide +kernel
theorem dX4_cell_12 : decode cX4_cell 12 = .ok (.iconst 1, 1) := by decide +kernel
theorem dX4_cell_13 : decode cX4_cell 13 = .ok (.invokestatic 45, 3) := by decide +kernel
theorem dX4_cell_16 : decode cX4_cell 16 = .ok (.ifCond .ne 9, 3) := by decide +kernel
theorem dX4_cell_19 : decode cX4_cell 19 = .ok (.aload_n 0, 1) := by decide +kernel
theorem dX4_cell_20 : decode cX4_cell 20 = .ok (.iconst 0, 1) := by decide +kernel
theorem dX4_cell_21 : decode cX4_cell 21 = .ok (.invokevirtual 49, 3) := by decide +kernel
theorem dX4_cell_24 : decode cX4_cell 24 = .ok (.ireturn, 1) := by decide +kernel
theorem dX4_cell_25 : decode cX4_cell 25 = .ok (.iload_n 2, 1) := by decide +kernel
theorem dX4_cell_26 : decode cX4_cell 26 = .ok (.ifCond .ne 15, 3) := by decide +kernel
theorem dX4_cell_29 : decode cX4_cell 29 = .ok (.aload_n 0, 1) := by decide +kernel
theorem dX4_cell_30 : decode cX4_cell 30 = .ok (.getfield 10, 3) := by decide +kernel
theorem dX4_cell_33 : decode cX4_cell 33 = .ok (.getfield 53, 3) := by decide +kernel
theorem dX4_cell_36 : decode cX4_cell 36 = .ok (.iload_n 1, 1) := by decide +kernel
theorem dX4_cell_37 : decode cX4_cell 37 = .ok (.iaload, 1) := by decide +kernel
theorem dX4_cell_38 : decode cX4_cell 38 = .ok (.goto 11, 3) := by decide +kernel
theorem dX4_cell_41 : decode cX4_cell 41 = .ok (.aload_n 0, 1) := by decide +kernel
theorem dX4_cell_42 : decode cX4_cell 42 = .ok (.getfield 10, 3) := by decide +kernel
theorem dX4_cell_45 : decode cX4_cell 45 = .ok (.iload_n 1, 1) := by decide +kernel
theorem dX4_cell_46 : decode cX4_cell 46 = .ok (.invokevirtual 56, 3) := by decide +kernel
theorem dX4_cell_49 : decode cX4_cell 49 = .ok (.ireturn, 1) := by decide +kernel
def j4_cell_19  (hp1 : Nat → Int32) (tr1 : Nat → Nat → Int32) (vis1 : Int32) (fd : Nat → Int32)  : Option (Int32 × (Nat → Int32)) :=
  ob2 (f4_found fd (0 : Int32)) (fun r7 fd_8 =>
  some (r7, fd_8))
def f4_cell (hp1 : Nat → Int32) (tr1 : Nat → Nat → Int32) (vis1 : Int32) (fd : Nat → Int32) (v1 : Int32) (v2 : Int32) : Option (Int32 × (Nat → Int32)) :=
  if (f4_within v1 (0 : Int32) (15 : Int32)) = (0 : Int32) then (
    j4_cell_19 hp1 tr1 vis1 fd)
  else (
    if (f4_within v2 (0 : Int32) (1 : Int32)) = (0 : Int32) then (
      j4_cell_19 hp1 tr1 vis1 fd)
    else (
      if v2 = (0 : Int32) then (
        gd (inb v1 16) (
        some ((hp1 v1.toNatClampNeg), fd)))
      else (
        ob1 (f0_visitorsAt tr1 vis1 v1) (fun r4 =>
        some (r4, fd)))))
set_option maxHeartbeats 4000000 in
set_option maxRecDepth 100000 in
theorem b4_cell_19 {ta adK adV : Nat → Nat} {p : Program} {l : Launch} {e : Env} {s : State} {m : MethodId} {args : Array Value} {below : List Frame} {meth : Method} {c : Code} {D : va_G} {cI cB cG cS : ClassId} {ad : Nat → Nat} {A : Nat → Prop} {hp1 : Nat → Int32} {st1 : Nat → Int32} {tr1 : Nat → Nat → Int32} {sp1 : Nat → Int32} {vis1 : Int32} {day1 : Int32} {z1 : Int32} {hp2 : Nat → Int32} {st2 : Nat → Int32} {tr2 : Nat → Nat → Int32} {sp2 : Nat → Int32} {vis2 : Int32} {day2 : Int32} {z2 : Int32} {hp3 : Nat → Int32} {st3 : Nat → Int32} {tr3 : Nat → Nat → Int32} {sp3 : Nat → Int32} {vis3 : Int32} {day3 : Int32} {z3 : Int32} {tb : Nat → Int32} {tl : Int32} {rtok : Int32} {rbg : Int32} {ren : Int32} {rvl : Int32} {shn : Nat → Nat → Int32} {shb : Nat → Int32} {shz : Nat → Int32} {isK : Int32} {r0 : Int32} {o_fd : Nat → Int32} (C0 : CX (XS ta adK adV) p s m args meth c cX4_cell 3 (some .int) RX4 A) : ∀ {fd : Nat → Int32} {H : Heap} {locs : List Loc} {ls : Array Slot}, GX (XS ta adK adV) D (tyC cI cB cG cS) A s (wS cI cB cG cS ad hp1 st1 tr1 sp1 vis1 day1 z1 hp2 st2 tr2 sp2 vis2 day2 z2 hp3 st3 tr3 sp3 vis3 day3 z3 tb tl rtok rbg ren rvl shn shb shz fd isK) H locs → lv_has ls 3 [(0, .ref (ad 0))] → j4_cell_19  hp1 tr1 vis1 fd = some (r0, o_fd) → W p l e ({ frames := 3, cells := 0, slots := 0, locals := 58 }) s m args below meth c H locs 0 0 (MQ below (QcI D (tyC cI cB cG cS) (wS cI cB cG cS ad hp1 st1 tr1 sp1 vis1 day1 z1 hp2 st2 tr2 sp2 vis2 day2 z2 hp3 st3 tr3 sp3 vis3 day3 z3 tb tl rtok rbg ren rvl shn shb shz o_fd isK) A r0) args s 0 0 A) (F0 m 19 ls []) := by
  have hx := C0.1
  have hb := C0.2.1
  have hown := C0.2.2.2.2.1
  have hts := C0.2.2.2.2.2.1
  have hX := C0.2.2.2.2.2.2.2.2
  intro fd H locs ls G hl hf
  unfold j4_cell_19 at hf
  refine lv_aload_n hx hb dX4_cell_19 rfl (lv_at hl 0 rfl) ?_
  refine lv_iconst (v := (0 : Int32)) hx hb dX4_cell_20 (by decide) ?_
  obtain ⟨r7, fd_8, hc9, hf⟩ := ob2_s hf
  refine go_i C0 G (runV_of (n := 1) (q0 := 0) (As := [.int (0 : Int32)]) (rest := []) C0 G (c4_found hX hc9) q208 q49 q205 q207 q0 o4_found ⟨rfl, rfl⟩ ⟨Nat.le_of_ble_eq_true rfl, Nat.le_of_ble_eq_true rfl⟩ rfl rfl rfl hl.1 rfl (Nat.le_of_ble_eq_true rfl) dX4_cell_21) (fun H locs G => ?_)
  obtain ⟨rfl, rfl⟩ := inj2 hf
  exact ret_i C0 G dX4_cell_24
set_option maxHeartbeats 4000000 in
set_option maxRecDepth 100000 in
theorem b4_cell_0 {ta adK adV : Nat → Nat} {p : Program} {l : Launch} {e : Env} {s : State} {m : MethodId} {args : Array Value} {below : List Frame} {meth : Method} {c : Code} {D : va_G} {cI cB cG cS : ClassId} {ad : Nat → Nat} {A : Nat → Prop} {hp1 : Nat → Int32} {st1 : Nat → Int32} {tr1 : Nat → Nat → Int32} {sp1 : Nat → Int32} {vis1 : Int32} {day1 : Int32} {z1 : Int32} {hp2 : Nat → Int32} {st2 : Nat → Int32} {tr2 : Nat → Nat → Int32} {sp2 : Nat → Int32} {vis2 : Int32} {day2 : Int32} {z2 : Int32} {hp3 : Nat → Int32} {st3 : Nat → Int32} {tr3 : Nat → Nat → Int32} {sp3 : Nat → Int32} {vis3 : Int32} {day3 : Int32} {z3 : Int32} {tb : Nat → Int32} {tl : Int32} {rtok : Int32} {rbg : Int32} {ren : Int32} {rvl : Int32} {shn : Nat → Nat → Int32} {shb : Nat → Int32} {shz : Nat → Int32} {isK : Int32} {r0 : Int32} {o_fd : Nat → Int32} (C0 : CX (XS ta adK adV) p s m args meth c cX4_cell 3 (some .int) RX4 A) : ∀ {fd : Nat → Int32} {v1 : Int32} {v2 : Int32} {H : Heap} {locs : List Loc} {ls : Array Slot}, GX (XS ta adK adV) D (tyC cI cB cG cS) A s (wS cI cB cG cS ad hp1 st1 tr1 sp1 vis1 day1 z1 hp2 st2 tr2 sp2 vis2 day2 z2 hp3 st3 tr3 sp3 vis3 day3 z3 tb tl rtok rbg ren rvl shn shb shz fd isK) H locs → lv_has ls 3 [(0, .ref (ad 0)), (1, .int v1), (2, .int v2)] → f4_cell hp1 tr1 vis1 fd v1 v2 = some (r0, o_fd) → W p l e ({ frames := 3, cells := 0, slots := 0, locals := 58 }) s m args below meth c H locs 0 0 (MQ below (QcI D (tyC cI cB cG cS) (wS cI cB cG cS ad hp1 st1 tr1 sp1 vis1 day1 z1 hp2 st2 tr2 sp2 vis2 day2 z2 hp3 st3 tr3 sp3 vis3 day3 z3 tb tl rtok rbg ren rvl shn shb shz o_fd isK) A r0) args s 0 0 A) (F0 m 0 ls []) := by
  have hx := C0.1
  have hb := C0.2.1
  have hown := C0.2.2.2.2.1
  have hts := C0.2.2.2.2.2.1
  have hX := C0.2.2.2.2.2.2.2.2
  intro fd v1 v2 H locs ls G hl hf
  unfold f4_cell at hf
  refine lv_iload_n hx hb dX4_cell_0 rfl (lv_at hl 1 rfl) ?_
  refine lv_iconst (v := (0 : Int32)) hx hb dX4_cell_1 (by decide) ?_
  refine lv_bipush (v := (15 : Int32)) hx hb dX4_cell_2 (by decide) ?_
  refine go_i C0 G (runS_of (n := 3) (As := [.int v1, .int (0 : Int32), .int (15 : Int32)]) (rest := []) C0 G (c4_within hX rfl) q204 q49 q202 q203 o4_within ⟨rfl, rfl⟩ ⟨Nat.le_of_ble_eq_true rfl, Nat.le_of_ble_eq_true rfl⟩ rfl hl.1 rfl (Nat.le_of_ble_eq_true rfl) dX4_cell_4) (fun H locs G => ?_)
  refine lv_if_eq (tgt := 19) hx hb dX4_cell_7 (by decide) (fun hc1 => ?_) (fun hc1 => ?_)
  · have hf := itp hc1 hf
    exact b4_cell_19 C0  G (lv_sub hl [0] rfl) hf
  · have hf := itn hc1 hf
    refine lv_iload_n hx hb dX4_cell_10 rfl (lv_at hl 2 rfl) ?_
    refine lv_iconst (v := (0 : Int32)) hx hb dX4_cell_11 (by decide) ?_
    refine lv_iconst (v := (1 : Int32)) hx hb dX4_cell_12 (by decide) ?_
    refine go_i C0 G (runS_of (n := 3) (As := [.int v2, .int (0 : Int32), .int (1 : Int32)]) (rest := []) C0 G (c4_within hX rfl) q204 q49 q202 q203 o4_within ⟨rfl, rfl⟩ ⟨Nat.le_of_ble_eq_true rfl, Nat.le_of_ble_eq_true rfl⟩ rfl hl.1 rfl (Nat.le_of_ble_eq_true rfl) dX4_cell_13) (fun H locs G => ?_)
    refine lv_if_ne (tgt := 25) hx hb dX4_cell_16 (by decide) (fun hc2 => ?_) (fun hc2 => ?_)
    · have hf := itn hc2 hf
      refine lv_iload_n hx hb dX4_cell_25 rfl (lv_at hl 2 rfl) ?_
      refine lv_if_ne (tgt := 41) hx hb dX4_cell_26 (by decide) (fun hc3 => ?_) (fun hc3 => ?_)
      · have hf := itn hc3 hf
        refine lv_aload_n hx hb dX4_cell_41 rfl (lv_at hl 0 rfl) ?_
        refine s_get (C := RX4) (T := TX4) C0 G i_X4 0 0 rfl rfl (by decide) q173 rfl dX4_cell_42 ?_
        refine lv_iload_n hx hb dX4_cell_45 rfl (lv_at hl 1 rfl) ?_
        obtain ⟨r4, hc5, hf⟩ := ob1_s hf
        refine go_i_sub C0 G s_pit1 o_pit1 (runV_sub (n := 1) (q0 := 1) (As := [.int v1]) (rest := []) C0 G s_pit1 (c0_visitorsAt hX hc5) q217 q50 q214 q215 q216 o0_visitorsAt ⟨rfl, rfl⟩ ⟨Nat.le_of_ble_eq_true rfl, Nat.le_of_ble_eq_true rfl⟩ rfl rfl rfl hl.1 rfl (Nat.le_of_ble_eq_true rfl) dX4_cell_46) (fun H locs G => ?_)
        obtain ⟨rfl, rfl⟩ := inj2 hf
        exact ret_i C0 G dX4_cell_49
      · have hf := itp hc3 hf
        refine lv_aload_n hx hb dX4_cell_29 rfl (lv_at hl 0 rfl) ?_
        refine s_get (C := RX4) (T := TX4) C0 G i_X4 0 0 rfl rfl (by decide) q173 rfl dX4_cell_30 ?_
        refine s_get (C := RX0) (T := TX0) C0 G i_X0 1 0 rfl rfl (by decide) q81 rfl dX4_cell_33 ?_
        refine lv_iload_n hx hb dX4_cell_36 rfl (lv_at hl 1 rfl) ?_
        obtain ⟨hi6, hf⟩ := gd_s hf
        refine s_iald (k := v1.toNatClampNeg) C0 G 2 0 rfl rfl (vin hi6) rfl dX4_cell_37 ?_
        refine lv_goto (tgt := 49) hx hb dX4_cell_38 (by decide) ?_
        obtain ⟨rfl, rfl⟩ := inj2 hf
        exact ret_i C0 G dX4_cell_49
    · have hf := itp hc2 hf
      exact b4_cell_19 C0  G (lv_sub hl [0] rfl) hf
theorem o4_cell : okName yX4_cell 2 := ⟨by decide, by decide, by decide +kernel⟩
set_option maxHeartbeats 4000000 in
set_option maxRecDepth 100000 in
theorem c4_cell {ta adK adV : Nat → Nat} (hX : XT (XS ta adK adV)) {l : Launch} {D : va_G} {cI cB cG cS : ClassId} {ad : Nat → Nat} {sz : Nat} {hp1 : Nat → Int32} {st1 : Nat → Int32} {tr1 : Nat → Nat → Int32} {sp1 : Nat → Int32} {vis1 : Int32} {day1 : Int32} {z1 : Int32} {hp2 : Nat → Int32} {st2 : Nat → Int32} {tr2 : Nat → Nat → Int32} {sp2 : Nat → Int32} {vis2 : Int32} {day2 : Int32} {z2 : Int32} {hp3 : Nat → Int32} {st3 : Nat → Int32} {tr3 : Nat → Nat → Int32} {sp3 : Nat → Int32} {vis3 : Int32} {day3 : Int32} {z3 : Int32} {tb : Nat → Int32} {tl : Int32} {rtok : Int32} {rbg : Int32} {ren : Int32} {rvl : Int32} {shn : Nat → Nat → Int32} {shb : Nat → Int32} {shz : Nat → Int32} {fd : Nat → Int32} {isK : Int32} {v1 : Int32} {v2 : Int32} {r0 : Int32} {o_fd : Nat → Int32} (hf : f4_cell hp1 tr1 vis1 fd v1 v2 = some (r0, o_fd)) : Met l yX4_cell (wU yX4_cell cX4_cell 3 (some .int)) ({ frames := 3, cells := 0, slots := 0, locals := 58 }) (va_Pc [.ref (ad 0), .int v1, .int v2] (PreW (XS ta adK adV) D (tyC cI cB cG cS) (wS cI cB cG cS ad hp1 st1 tr1 sp1 vis1 day1 z1 hp2 st2 tr2 sp2 vis2 day2 z2 hp3 st3 tr3 sp3 vis3 day3 z3 tb tl rtok rbg ren rvl shn shb shz fd isK) sz)) (QcI D (tyC cI cB cG cS) (wS cI cB cG cS ad hp1 st1 tr1 sp1 vis1 day1 z1 hp2 st2 tr2 sp2 vis2 day2 z2 hp3 st3 tr3 sp3 vis3 day3 z3 tb tl rtok rbg ren rvl shn shb shz o_fd isK) (va_A (wS cI cB cG cS ad hp1 st1 tr1 sp1 vis1 day1 z1 hp2 st2 tr2 sp2 vis2 day2 z2 hp3 st3 tr3 sp3 vis3 day3 z3 tb tl rtok rbg ren rvl shn shb shz fd isK) sz) r0) 0 0 (va_A (wS cI cB cG cS ad hp1 st1 tr1 sp1 vis1 day1 z1 hp2 st2 tr2 sp2 vis2 day2 z2 hp3 st3 tr3 sp3 vis3 day3 z3 tb tl rtok rbg ren rvl shn shb shz fd isK) sz) := by
  refine startW hX (own := RX4) (by decide) rfl (Nat.le_of_ble_eq_true rfl) (fun p e s m args below meth c ls C0 G hl => ?_)
  exact b4_cell_0 C0 G hl hf
/-! 4_set -/
theorem dX4_set_0 : decode cX4_set 0 = .ok (.iload_n 1, 1) := by decide +kernel
theorem dX4_set_1 : decode cX4_set 1 = .ok (.iconst 0, 1) := by decide +kernel
theorem dX4_set_2 : decode cX4_set 2 = .ok (.iconst 2, 1) := by decide +kernel
theorem dX4_set_3 : decode cX4_set 3 = .ok (.invokestatic 45, 3) := by decide +kernel
theorem dX4_set_6 : decode cX4_set 6 = .ok (.ifCond .eq 16, 3) := by decide +kernel
theorem dX4_set_9 : decode cX4_set 9 = .ok (.iload_n 2, 1) := by decide +kernel
theorem dX4_set_10 : decode cX4_set 10 = .ok (.iconst 0, 1) := by decide +kernel
theorem dX4_set_11 : decode cX4_set 11 = .ok (.getstatic 59, 3) := by decide +kernel
theorem dX4_set_14 : decode cX4_set 14 = .ok (.iload_n 1, 1) := by decide +kernel
theorem dX4_set_15 : decode cX4_set 15 = .ok (.iaload, 1) := by decide +kernel
theorem dX4_set_16 : decode cX4_set 16 = .ok (.invokestatic 45, 3) := by decide +kernel
theorem dX4_set_19 : decode cX4_set 19 = .ok (.ifCond .ne 9, 3) := by decide +kernel
theorem dX4_set_22 : decode cX4_set 22 = .ok (.aload_n 0, 1) := by decide +kernel
theorem dX4_set_23 : decode cX4_set 23 = .ok (.iconst 0, 1) := by decide +kernel
theorem dX4_set_24 : decode cX4_set 24 = .ok (.invokevirtual 49, 3) := by decide +kernel
theorem dX4_set_27 : decode cX4_set 27 = .ok (.ireturn, 1) := by decide +kernel
theorem dX4_set_28 : decode cX4_set 28 = .ok (.aload_n 0, 1) := by decide +kernel
theorem dX4_set_29 : decode cX4_set 29 = .ok (.getfield 10, 3) := by decide +kernel
theorem dX4_set_32 : decode cX4_set 32 = .ok (.getfield 62, 3) := by decide +kernel
theorem dX4_set_35 : decode cX4_set 35 = .ok (.iload_n 1, 1) := by decide +kernel
theorem dX4_set_36 : decode cX4_set 36 = .ok (.iaload, 1) := by decide +kernel
theorem dX4_set_37 : decode cX4_set 37 = .ok (.istore_n 3, 1) := by decide +kernel
theorem dX4_set_38 : decode cX4_set 38 = .ok (.aload_n 0, 1) := by decide +kernel
theorem dX4_set_39 : decode cX4_set 39 = .ok (.getfield 10, 3) := by decide +kernel
theorem dX4_set_42 : decode cX4_set 42 = .ok (.getfield 62, 3) := by decide +kernel
theorem dX4_set_45 : decode cX4_set 45 = .ok (.iload_n 1, 1) := by decide +kernel
theorem dX4_set_46 : decode cX4_set 46 = .ok (.iload_n 2, 1) := by decide +kernel
theorem dX4_set_47 : decode cX4_set 47 = .ok (.iastore, 1) := by decide +kernel
theorem dX4_set_48 : decode cX4_set 48 = .ok (.iload_n 3, 1) := by decide +kernel
theorem dX4_set_49 : decode cX4_set 49 = .ok (.ireturn, 1) := by decide +kernel
def j4_set_22  (st1 : Nat → Int32) (fd : Nat → Int32)  : Option (Int32 × (Nat → Int32) × (Nat → Int32)) :=
  ob2 (f4_found fd (0 : Int32)) (fun r6 fd_7 =>
  some (r6, st1, fd_7))
def f4_set (st1 : Nat → Int32) (fd : Nat → Int32) (v1 : Int32) (v2 : Int32) : Option (Int32 × (Nat → Int32) × (Nat → Int32)) :=
  if (f4_within v1 (0 : Int32) (2 : Int32)) = (0 : Int32) then (
    j4_set_22 st1 fd)
  else (
    gd (inb v1 3) (
    if (f4_within v2 (0 : Int32) (kSM v1.toNatClampNeg)) = (0 : Int32) then (
      j4_set_22 st1 fd)
    else (
      gd (inb v1 3) (
      gd (inb v1 3) (
      some ((st1 v1.toNatClampNeg), (upd st1 v1.toNatClampNeg v2), fd))))))
set_option maxHeartbeats 4000000 in
set_option maxRecDepth 100000 in
theorem b4_set_22 {ta adK adV : Nat → Nat} {p : Program} {l : Launch} {e : Env} {s : State} {m : MethodId} {args : Array Value} {below : List Frame} {meth : Method} {c : Code} {D : va_G} {cI cB cG cS : ClassId} {ad : Nat → Nat} {A : Nat → Prop} {hp1 : Nat → Int32} {tr1 : Nat → Nat → Int32} {sp1 : Nat → Int32} {vis1 : Int32} {day1 : Int32} {z1 : Int32} {hp2 : Nat → Int32} {st2 : Nat → Int32} {tr2 : Nat → Nat → Int32} {sp2 : Nat → Int32} {vis2 : Int32} {day2 : Int32} {z2 : Int32} {hp3 : Nat → Int32} {st3 : Nat → Int32} {tr3 : Nat → Nat → Int32} {sp3 : Nat → Int32} {vis3 : Int32} {day3 : Int32} {z3 : Int32} {tb : Nat → Int32} {tl : Int32} {rtok : Int32} {rbg : Int32} {ren : Int32} {rvl : Int32} {shn : Nat → Nat → Int32} {shb : Nat → Int32} {shz : Nat → Int32} {isK : Int32} {r0 : Int32} {o_st1 : Nat → Int32} {o_fd : Nat → Int32} (C0 : CX (XS ta adK adV) p s m args meth c cX4_set 4 (some .int) RX4 A) : ∀ {st1 : Nat → Int32} {fd : Nat → Int32} {H : Heap} {locs : List Loc} {ls : Array Slot}, GX (XS ta adK adV) D (tyC cI cB cG cS) A s (wS cI cB cG cS ad hp1 st1 tr1 sp1 vis1 day1 z1 hp2 st2 tr2 sp2 vis2 day2 z2 hp3 st3 tr3 sp3 vis3 day3 z3 tb tl rtok rbg ren rvl shn shb shz fd isK) H locs → lv_has ls 4 [(0, .ref (ad 0))] → j4_set_22  st1 fd = some (r0, o_st1, o_fd) → W p l e ({ frames := 1, cells := 0, slots := 0, locals := 22 }) s m args below meth c H locs 0 0 (MQ below (QcI D (tyC cI cB cG cS) (wS cI cB cG cS ad hp1 o_st1 tr1 sp1 vis1 day1 z1 hp2 st2 tr2 sp2 vis2 day2 z2 hp3 st3 tr3 sp3 vis3 day3 z3 tb tl rtok rbg ren rvl shn shb shz o_fd isK) A r0) args s 0 0 A) (F0 m 22 ls []) := by
  have hx := C0.1
  have hb := C0.2.1
  have hown := C0.2.2.2.2.1
  have hts := C0.2.2.2.2.2.1
  have hX := C0.2.2.2.2.2.2.2.2
  intro st1 fd H locs ls G hl hf
  unfold j4_set_22 at hf
  refine lv_aload_n hx hb dX4_set_22 rfl (lv_at hl 0 rfl) ?_
  refine lv_iconst (v := (0 : Int32)) hx hb dX4_set_23 (by decide) ?_
  obtain ⟨r6, fd_7, hc8, hf⟩ := ob2_s hf
  refine go_i C0 G (runV_of (n := 1) (q0 := 0) (As := [.int (0 : Int32)]) (rest := []) C0 G (c4_found hX hc8) q208 q49 q205 q207 q0 o4_found ⟨rfl, rfl⟩ ⟨Nat.le_of_ble_eq_true rfl, Nat.le_of_ble_eq_true rfl⟩ rfl rfl rfl hl.1 rfl (Nat.le_of_ble_eq_true rfl) dX4_set_24) (fun H locs G => ?_)
  obtain ⟨rfl, rfl, rfl⟩ := inj3 hf
  exact ret_i C0 G dX4_set_27
set_option maxHeartbeats 4000000 in
set_option maxRecDepth 100000 in
theorem b4_set_0 {ta adK adV : Nat → Nat} {p : Program} {l : Launch} {e : Env} {s : State} {m : MethodId} {args : Array Value} {below : List Frame} {meth : Method} {c : Code} {D : va_G} {cI cB cG cS : ClassId} {ad : Nat → Nat} {A : Nat → Prop} {hp1 : Nat → Int32} {tr1 : Nat → Nat → Int32} {sp1 : Nat → Int32} {vis1 : Int32} {day1 : Int32} {z1 : Int32} {hp2 : Nat → Int32} {st2 : Nat → Int32} {tr2 : Nat → Nat → Int32} {sp2 : Nat → Int32} {vis2 : Int32} {day2 : Int32} {z2 : Int32} {hp3 : Nat → Int32} {st3 : Nat → Int32} {tr3 : Nat → Nat → Int32} {sp3 : Nat → Int32} {vis3 : Int32} {day3 : Int32} {z3 : Int32} {tb : Nat → Int32} {tl : Int32} {rtok : Int32} {rbg : Int32} {ren : Int32} {rvl : Int32} {shn : Nat → Nat → Int32} {shb : Nat → Int32} {shz : Nat → Int32} {isK : Int32} {r0 : Int32} {o_st1 : Nat → Int32} {o_fd : Nat → Int32} (C0 : CX (XS ta adK adV) p s m args meth c cX4_set 4 (some .int) RX4 A) : ∀ {st1 : Nat → Int32} {fd : Nat → Int32} {v1 : Int32} {v2 : Int32} {H : Heap} {locs : List Loc} {ls : Array Slot}, GX (XS ta adK adV) D (tyC cI cB cG cS) A s (wS cI cB cG cS ad hp1 st1 tr1 sp1 vis1 day1 z1 hp2 st2 tr2 sp2 vis2 day2 z2 hp3 st3 tr3 sp3 vis3 day3 z3 tb tl rtok rbg ren rvl shn shb shz fd isK) H locs → lv_has ls 4 [(0, .ref (ad 0)), (1, .int v1), (2, .int v2)] → f4_set st1 fd v1 v2 = some (r0, o_st1, o_fd) → W p l e ({ frames := 1, cells := 0, slots := 0, locals := 22 }) s m args below meth c H locs 0 0 (MQ below (QcI D (tyC cI cB cG cS) (wS cI cB cG cS ad hp1 o_st1 tr1 sp1 vis1 day1 z1 hp2 st2 tr2 sp2 vis2 day2 z2 hp3 st3 tr3 sp3 vis3 day3 z3 tb tl rtok rbg ren rvl shn shb shz o_fd isK) A r0) args s 0 0 A) (F0 m 0 ls []) := by
  have hx := C0.1
  have hb := C0.2.1
  have hown := C0.2.2.2.2.1
  have hts := C0.2.2.2.2.2.1
  have hX := C0.2.2.2.2.2.2.2.2
  intro st1 fd v1 v2 H locs ls G hl hf
  unfold f4_set at hf
  refine lv_iload_n hx hb dX4_set_0 rfl (lv_at hl 1 rfl) ?_
  refine lv_iconst (v := (0 : Int32)) hx hb dX4_set_1 (by decide) ?_
  refine lv_iconst (v := (2 : Int32)) hx hb dX4_set_2 (by decide) ?_
  refine go_i C0 G (runS_of (n := 3) (As := [.int v1, .int (0 : Int32), .int (2 : Int32)]) (rest := []) C0 G (c4_within hX rfl) q204 q49 q202 q203 o4_within ⟨rfl, rfl⟩ ⟨Nat.le_of_ble_eq_true rfl, Nat.le_of_ble_eq_true rfl⟩ rfl hl.1 rfl (Nat.le_of_ble_eq_true rfl) dX4_set_3) (fun H locs G => ?_)
  refine lv_if_eq (tgt := 22) hx hb dX4_set_6 (by decide) (fun hc1 => ?_) (fun hc1 => ?_)
  · have hf := itp hc1 hf
    exact b4_set_22 C0  G (lv_sub hl [0] rfl) hf
  · have hf := itn hc1 hf
    refine lv_iload_n hx hb dX4_set_9 rfl (lv_at hl 2 rfl) ?_
    refine lv_iconst (v := (0 : Int32)) hx hb dX4_set_10 (by decide) ?_
    refine s_gets C0 G (xa_1 G.2.2.2.2) q237 dX4_set_11 ?_
    refine lv_iload_n hx hb dX4_set_14 rfl (lv_at hl 1 rfl) ?_
    obtain ⟨hi2, hf⟩ := gd_s hf
    refine s_ti (k := v1.toNatClampNeg) C0 G (xa_1 G.2.2.2.2) (vin hi2) rfl dX4_set_15 ?_
    refine go_i C0 G (runS_of (n := 3) (As := [.int v2, .int (0 : Int32), .int (kSM v1.toNatClampNeg)]) (rest := []) C0 G (c4_within hX rfl) q204 q49 q202 q203 o4_within ⟨rfl, rfl⟩ ⟨Nat.le_of_ble_eq_true rfl, Nat.le_of_ble_eq_true rfl⟩ rfl hl.1 rfl (Nat.le_of_ble_eq_true rfl) dX4_set_16) (fun H locs G => ?_)
    refine lv_if_ne (tgt := 28) hx hb dX4_set_19 (by decide) (fun hc3 => ?_) (fun hc3 => ?_)
    · have hf := itn hc3 hf
      refine lv_aload_n hx hb dX4_set_28 rfl (lv_at hl 0 rfl) ?_
      refine s_get (C := RX4) (T := TX4) C0 G i_X4 0 0 rfl rfl (by decide) q173 rfl dX4_set_29 ?_
      refine s_get (C := RX0) (T := TX0) C0 G i_X0 1 1 rfl rfl (by decide) q84 rfl dX4_set_32 ?_
      refine lv_iload_n hx hb dX4_set_35 rfl (lv_at hl 1 rfl) ?_
      obtain ⟨hi4, hf⟩ := gd_s hf
      refine s_iald (k := v1.toNatClampNeg) C0 G 3 0 rfl rfl (vin hi4) rfl dX4_set_36 ?_
      refine lv_istore_n (lv' := [(3, .int (st1 v1.toNatClampNeg)), (0, .ref (ad 0)), (1, .int v1), (2, .int v2)]) hx hb dX4_set_37 rfl hl (by decide) rfl (fun ls hl => ?_)
      refine lv_aload_n hx hb dX4_set_38 rfl (lv_at hl 1 rfl) ?_
      refine s_get (C := RX4) (T := TX4) C0 G i_X4 0 0 rfl rfl (by decide) q173 rfl dX4_set_39 ?_
      refine s_get (C := RX0) (T := TX0) C0 G i_X0 1 1 rfl rfl (by decide) q84 rfl dX4_set_42 ?_
      refine lv_iload_n hx hb dX4_set_45 rfl (lv_at hl 2 rfl) ?_
      refine lv_iload_n hx hb dX4_set_46 rfl (lv_at hl 3 rfl) ?_
      obtain ⟨hi5, hf⟩ := gd_s hf
      refine s_iast (k := v1.toNatClampNeg) (w' := (wS cI cB cG cS ad hp1 (upd st1 v1.toNatClampNeg v2) tr1 sp1 vis1 day1 z1 hp2 st2 tr2 sp2 vis2 day2 z2 hp3 st3 tr3 sp3 vis3 day3 z3 tb tl rtok rbg ren rvl shn shb shz fd isK)) C0 G 3 0 rfl rfl (vin hi5) rfl rfl dX4_set_47 (fun H locs G => ?_)
      refine lv_iload_n hx hb dX4_set_48 rfl (lv_at hl 0 rfl) ?_
      obtain ⟨rfl, rfl, rfl⟩ := inj3 hf
      exact ret_i C0 G dX4_set_49
    · have hf := itp hc3 hf
      exact b4_set_22 C0  G (lv_sub hl [0] rfl) hf
theorem o4_set : okName yX4_set 2 := ⟨by decide, by decide, by decide +kernel⟩
set_option maxHeartbeats 4000000 in
set_option maxRecDepth 100000 in
theorem c4_set {ta adK adV : Nat → Nat} (hX : XT (XS ta adK adV)) {l : Launch} {D : va_G} {cI cB cG cS : ClassId} {ad : Nat → Nat} {sz : Nat} {hp1 : Nat → Int32} {st1 : Nat → Int32} {tr1 : Nat → Nat → Int32} {sp1 : Nat → Int32} {vis1 : Int32} {day1 : Int32} {z1 : Int32} {hp2 : Nat → Int32} {st2 : Nat → Int32} {tr2 : Nat → Nat → Int32} {sp2 : Nat → Int32} {vis2 : Int32} {day2 : Int32} {z2 : Int32} {hp3 : Nat → Int32} {st3 : Nat → Int32} {tr3 : Nat → Nat → Int32} {sp3 : Nat → Int32} {vis3 : Int32} {day3 : Int32} {z3 : Int32} {tb : Nat → Int32} {tl : Int32} {rtok : Int32} {rbg : Int32} {ren : Int32} {rvl : Int32} {shn : Nat → Nat → Int32} {shb : Nat → Int32} {shz : Nat → Int32} {fd : Nat → Int32} {isK : Int32} {v1 : Int32} {v2 : Int32} {r0 : Int32} {o_st1 : Nat → Int32} {o_fd : Nat → Int32} (hf : f4_set st1 fd v1 v2 = some (r0, o_st1, o_fd)) : Met l yX4_set (wU yX4_set cX4_set 4 (some .int)) ({ frames := 1, cells := 0, slots := 0, locals := 22 }) (va_Pc [.ref (ad 0), .int v1, .int v2] (PreW (XS ta adK adV) D (tyC cI cB cG cS) (wS cI cB cG cS ad hp1 st1 tr1 sp1 vis1 day1 z1 hp2 st2 tr2 sp2 vis2 day2 z2 hp3 st3 tr3 sp3 vis3 day3 z3 tb tl rtok rbg ren rvl shn shb shz fd isK) sz)) (QcI D (tyC cI cB cG cS) (wS cI cB cG cS ad hp1 o_st1 tr1 sp1 vis1 day1 z1 hp2 st2 tr2 sp2 vis2 day2 z2 hp3 st3 tr3 sp3 vis3 day3 z3 tb tl rtok rbg ren rvl shn shb shz o_fd isK) (va_A (wS cI cB cG cS ad hp1 st1 tr1 sp1 vis1 day1 z1 hp2 st2 tr2 sp2 vis2 day2 z2 hp3 st3 tr3 sp3 vis3 day3 z3 tb tl rtok rbg ren rvl shn shb shz fd isK) sz) r0) 0 0 (va_A (wS cI cB cG cS ad hp1 st1 tr1 sp1 vis1 day1 z1 hp2 st2 tr2 sp2 vis2 day2 z2 hp3 st3 tr3 sp3 vis3 day3 z3 tb tl rtok rbg ren rvl shn shb shz fd isK) sz) := by
  refine startW hX (own := RX4) (by decide) rfl (Nat.le_of_ble_eq_true rfl) (fun p e s m args below meth c ls C0 G hl => ?_)
  exact b4_set_0 C0 G hl hf
/-! 4_visitor -/
theorem dX4_visitor_0 : decode cX4_visitor 0 = .ok (.iload_n 1, 1) := by decide +kernel
theorem dX4_visitor_1 : decode cX4_visitor 1 = .ok (.iconst 0, 1) := by decide +kernel
theorem dX4_visitor_2 : decode cX4_visitor 2 = .ok (.bipush 6, 2) := by decide +kernel
theorem dX4_visitor_4 : decode cX4_visitor 4 = .ok (.invokestatic 45, 3) := by decide +kernel
theorem dX4_visitor_7 : decode cX4_visitor 7 = .ok (.ifCond .eq 13, 3) := by decide +kernel
theorem dX4_visitor_10 : decode cX4_visitor 10 = .ok (.iload_n 2, 1) := by decide +kernel
theorem dX4_visitor_11 : decode cX4_visitor 11 = .ok (.iconst 0, 1) := by decide +kernel
theorem dX4_visitor_12 : decode cX4_visitor 12 = .ok (.bipush 15, 2) := by decide +kernel
theorem dX4_visitor_14 : decode cX4_visitor 14 = .ok (.invokestatic 45, 3) := by decide +kernel
theorem dX4_visitor_17 : decode cX4_visitor 17 = .ok (.ifCond .ne 9, 3) := by decide +kernel
theorem dX4_visitor_20 : decode cX4_visitor 20 = .ok (.aload_n 0, 1) := by decide +kernel
theorem dX4_visitor_21 : decode cX4_visitor 21 = .ok (.iconst 0, 1) := by decide +kernel
theorem dX4_visitor_22 : decode cX4_visitor 22 = .ok (.invokevirtual 49, 3) := by decide +kernel
theorem dX4_visitor_25 : decode cX4_visitor 25 = .ok (.ireturn, 1) := by decide +kernel
theorem dX4_visitor_26 : decode cX4_visitor 26 = .ok (.aload_n 0, 1) := by decide +kernel
theorem dX4_visitor_27 : decode cX4_visitor 27 = .ok (.getfield 10, 3) := by decide +kernel
theorem dX4_visitor_30 : decode cX4_visitor 30 = .ok (.invokevirtual 65, 3) := by decide +kernel
theorem dX4_visitor_33 : decode cX4_visitor 33 = .ok (.ifCond .eq 9, 3) := by decide +kernel
theorem dX4_visitor_36 : decode cX4_visitor 36 = .ok (.aload_n 0, 1) := by decide +kernel
theorem dX4_visitor_37 : decode cX4_visitor 37 = .ok (.iconst 1, 1) := by decide +kernel
theorem dX4_visitor_38 : decode cX4_visitor 38 = .ok (.invokevirtual 49, 3) := by decide +kernel
theorem dX4_visitor_41 : decode cX4_visitor 41 = .ok (.ireturn, 1) := by decide +kernel
theorem dX4_visitor_42 : decode cX4_visitor 42 = .ok (.aload_n 0, 1) := by decide +kernel
theorem dX4_visitor_43 : decode cX4_visitor 43 = .ok (.getfield 10, 3) := by decide +kernel
theorem dX4_visitor_46 : decode cX4_visitor 46 = .ok (.iload_n 1, 1) := by decide +kernel
theorem dX4_visitor_47 : decode cX4_visitor 47 = .ok (.iload_n 2, 1) := by decide +kernel
theorem dX4_visitor_48 : decode cX4_visitor 48 = .ok (.invokevirtual 69, 3) := by decide +kernel
theorem dX4_visitor_51 : decode cX4_visitor 51 = .ok (.ireturn, 1) := by decide +kernel
def j4_visitor_20  (tr1 : Nat → Nat → Int32) (vis1 : Int32) (fd : Nat → Int32)  : Option (Int32 × (Nat → Nat → Int32) × Int32 × (Nat → Int32)) :=
  ob2 (f4_found fd (0 : Int32)) (fun r11 fd_12 =>
  some (r11, tr1, vis1, fd_12))
def f4_visitor (tr1 : Nat → Nat → Int32) (vis1 : Int32) (fd : Nat → Int32) (v1 : Int32) (v2 : Int32) : Option (Int32 × (Nat → Nat → Int32) × Int32 × (Nat → Int32)) :=
  if (f4_within v1 (0 : Int32) (6 : Int32)) = (0 : Int32) then (
    j4_visitor_20 tr1 vis1 fd)
  else (
    if (f4_within v2 (0 : Int32) (15 : Int32)) = (0 : Int32) then (
      j4_visitor_20 tr1 vis1 fd)
    else (
      if (f0_isFull vis1) = (0 : Int32) then (
        ob3 (f0_admit tr1 vis1 v1 v2) (fun r4 tr1_5 vis1_6 =>
        some (r4, tr1_5, vis1_6, fd)))
      else (
        ob2 (f4_found fd (1 : Int32)) (fun r8 fd_9 =>
        some (r8, tr1, vis1, fd_9)))))
set_option maxHeartbeats 4000000 in
set_option maxRecDepth 100000 in
theorem b4_visitor_20 {ta adK adV : Nat → Nat} {p : Program} {l : Launch} {e : Env} {s : State} {m : MethodId} {args : Array Value} {below : List Frame} {meth : Method} {c : Code} {D : va_G} {cI cB cG cS : ClassId} {ad : Nat → Nat} {A : Nat → Prop} {hp1 : Nat → Int32} {st1 : Nat → Int32} {sp1 : Nat → Int32} {day1 : Int32} {z1 : Int32} {hp2 : Nat → Int32} {st2 : Nat → Int32} {tr2 : Nat → Nat → Int32} {sp2 : Nat → Int32} {vis2 : Int32} {day2 : Int32} {z2 : Int32} {hp3 : Nat → Int32} {st3 : Nat → Int32} {tr3 : Nat → Nat → Int32} {sp3 : Nat → Int32} {vis3 : Int32} {day3 : Int32} {z3 : Int32} {tb : Nat → Int32} {tl : Int32} {rtok : Int32} {rbg : Int32} {ren : Int32} {rvl : Int32} {shn : Nat → Nat → Int32} {shb : Nat → Int32} {shz : Nat → Int32} {isK : Int32} {r0 : Int32} {o_tr1 : Nat → Nat → Int32} {o_vis1 : Int32} {o_fd : Nat → Int32} (C0 : CX (XS ta adK adV) p s m args meth c cX4_visitor 3 (some .int) RX4 A) : ∀ {tr1 : Nat → Nat → Int32} {vis1 : Int32} {fd : Nat → Int32} {H : Heap} {locs : List Loc} {ls : Array Slot}, GX (XS ta adK adV) D (tyC cI cB cG cS) A s (wS cI cB cG cS ad hp1 st1 tr1 sp1 vis1 day1 z1 hp2 st2 tr2 sp2 vis2 day2 z2 hp3 st3 tr3 sp3 vis3 day3 z3 tb tl rtok rbg ren rvl shn shb shz fd isK) H locs → lv_has ls 3 [(0, .ref (ad 0))] → j4_visitor_20  tr1 vis1 fd = some (r0, o_tr1, o_vis1, o_fd) → W p l e ({ frames := 2, cells := 0, slots := 0, locals := 43 }) s m args below meth c H locs 0 0 (MQ below (QcI D (tyC cI cB cG cS) (wS cI cB cG cS ad hp1 st1 o_tr1 sp1 o_vis1 day1 z1 hp2 st2 tr2 sp2 vis2 day2 z2 hp3 st3 tr3 sp3 vis3 day3 z3 tb tl rtok rbg ren rvl shn shb shz o_fd isK) A r0) args s 0 0 A) (F0 m 20 ls []) := by
  have hx := C0.1
  have hb := C0.2.1
  have hown := C0.2.2.2.2.1
  have hts := C0.2.2.2.2.2.1
  have hX := C0.2.2.2.2.2.2.2.2
  intro tr1 vis1 fd H locs ls G hl hf
  unfold j4_visitor_20 at hf
  refine lv_aload_n hx hb dX4_visitor_20 rfl (lv_at hl 0 rfl) ?_
  refine lv_iconst (v := (0 : Int32)) hx hb dX4_visitor_21 (by decide) ?_
  obtain ⟨r11, fd_12, hc13, hf⟩ := ob2_s hf
  refine go_i C0 G (runV_of (n := 1) (q0 := 0) (As := [.int (0 : Int32)]) (rest := []) C0 G (c4_found hX hc13) q208 q49 q205 q207 q0 o4_found ⟨rfl, rfl⟩ ⟨Nat.le_of_ble_eq_true rfl, Nat.le_of_ble_eq_true rfl⟩ rfl rfl rfl hl.1 rfl (Nat.le_of_ble_eq_true rfl) dX4_visitor_22) (fun H locs G => ?_)
  obtain ⟨rfl, rfl, rfl, rfl⟩ := inj4 hf
  exact ret_i C0 G dX4_visitor_25
set_option maxHeartbeats 4000000 in
set_option maxRecDepth 100000 in
theorem b4_visitor_0 {ta adK adV : Nat → Nat} {p : Program} {l : Launch} {e : Env} {s : State} {m : MethodId} {args : Array Value} {below : List Frame} {meth : Method} {c : Code} {D : va_G} {cI cB cG cS : ClassId} {ad : Nat → Nat} {A : Nat → Prop} {hp1 : Nat → Int32} {st1 : Nat → Int32} {sp1 : Nat → Int32} {day1 : Int32} {z1 : Int32} {hp2 : Nat → Int32} {st2 : Nat → Int32} {tr2 : Nat → Nat → Int32} {sp2 : Nat → Int32} {vis2 : Int32} {day2 : Int32} {z2 : Int32} {hp3 : Nat → Int32} {st3 : Nat → Int32} {tr3 : Nat → Nat → Int32} {sp3 : Nat → Int32} {vis3 : Int32} {day3 : Int32} {z3 : Int32} {tb : Nat → Int32} {tl : Int32} {rtok : Int32} {rbg : Int32} {ren : Int32} {rvl : Int32} {shn : Nat → Nat → Int32} {shb : Nat → Int32} {shz : Nat → Int32} {isK : Int32} {r0 : Int32} {o_tr1 : Nat → Nat → Int32} {o_vis1 : Int32} {o_fd : Nat → Int32} (C0 : CX (XS ta adK adV) p s m args meth c cX4_visitor 3 (some .int) RX4 A) : ∀ {tr1 : Nat → Nat → Int32} {vis1 : Int32} {fd : Nat → Int32} {v1 : Int32} {v2 : Int32} {H : Heap} {locs : List Loc} {ls : Array Slot}, GX (XS ta adK adV) D (tyC cI cB cG cS) A s (wS cI cB cG cS ad hp1 st1 tr1 sp1 vis1 day1 z1 hp2 st2 tr2 sp2 vis2 day2 z2 hp3 st3 tr3 sp3 vis3 day3 z3 tb tl rtok rbg ren rvl shn shb shz fd isK) H locs → lv_has ls 3 [(0, .ref (ad 0)), (1, .int v1), (2, .int v2)] → f4_visitor tr1 vis1 fd v1 v2 = some (r0, o_tr1, o_vis1, o_fd) → W p l e ({ frames := 2, cells := 0, slots := 0, locals := 43 }) s m args below meth c H locs 0 0 (MQ below (QcI D (tyC cI cB cG cS) (wS cI cB cG cS ad hp1 st1 o_tr1 sp1 o_vis1 day1 z1 hp2 st2 tr2 sp2 vis2 day2 z2 hp3 st3 tr3 sp3 vis3 day3 z3 tb tl rtok rbg ren rvl shn shb shz o_fd isK) A r0) args s 0 0 A) (F0 m 0 ls []) := by
  have hx := C0.1
  have hb := C0.2.1
  have hown := C0.2.2.2.2.1
  have hts := C0.2.2.2.2.2.1
  have hX := C0.2.2.2.2.2.2.2.2
  intro tr1 vis1 fd v1 v2 H locs ls G hl hf
  unfold f4_visitor at hf
  refine lv_iload_n hx hb dX4_visitor_0 rfl (lv_at hl 1 rfl) ?_
  refine lv_iconst (v := (0 : Int32)) hx hb dX4_visitor_1 (by decide) ?_
  refine lv_bipush (v := (6 : Int32)) hx hb dX4_visitor_2 (by decide) ?_
  refine go_i C0 G (runS_of (n := 3) (As := [.int v1, .int (0 : Int32), .int (6 : Int32)]) (rest := []) C0 G (c4_within hX rfl) q204 q49 q202 q203 o4_within ⟨rfl, rfl⟩ ⟨Nat.le_of_ble_eq_true rfl, Nat.le_of_ble_eq_true rfl⟩ rfl hl.1 rfl (Nat.le_of_ble_eq_true rfl) dX4_visitor_4) (fun H locs G => ?_)
  refine lv_if_eq (tgt := 20) hx hb dX4_visitor_7 (by decide) (fun hc1 => ?_) (fun hc1 => ?_)
  · have hf := itp hc1 hf
    exact b4_visitor_20 C0  G (lv_sub hl [0] rfl) hf
  · have hf := itn hc1 hf
    refine lv_iload_n hx hb dX4_visitor_10 rfl (lv_at hl 2 rfl) ?_
    refine lv_iconst (v := (0 : Int32)) hx hb dX4_visitor_11 (by decide) ?_
    refine lv_bipush (v := (15 : Int32)) hx hb dX4_visitor_12 (by decide) ?_
    refine go_i C0 G (runS_of (n := 3) (As := [.int v2, .int (0 : Int32), .int (15 : Int32)]) (rest := []) C0 G (c4_within hX rfl) q204 q49 q202 q203 o4_within ⟨rfl, rfl⟩ ⟨Nat.le_of_ble_eq_true rfl, Nat.le_of_ble_eq_true rfl⟩ rfl hl.1 rfl (Nat.le_of_ble_eq_true rfl) dX4_visitor_14) (fun H locs G => ?_)
    refine lv_if_ne (tgt := 26) hx hb dX4_visitor_17 (by decide) (fun hc2 => ?_) (fun hc2 => ?_)
    · have hf := itn hc2 hf
      refine lv_aload_n hx hb dX4_visitor_26 rfl (lv_at hl 0 rfl) ?_
      refine s_get (C := RX4) (T := TX4) C0 G i_X4 0 0 rfl rfl (by decide) q173 rfl dX4_visitor_27 ?_
      refine go_i_sub C0 G s_pit1 o_pit1 (runV_sub (n := 0) (q0 := 1) (As := []) (rest := []) C0 G s_pit1 (c0_isFull hX rfl) q246 q50 q243 q244 q245 o0_isFull ⟨rfl, rfl⟩ ⟨Nat.le_of_ble_eq_true rfl, Nat.le_of_ble_eq_true rfl⟩ rfl rfl rfl hl.1 rfl (Nat.le_of_ble_eq_true rfl) dX4_visitor_30) (fun H locs G => ?_)
      refine lv_if_eq (tgt := 42) hx hb dX4_visitor_33 (by decide) (fun hc3 => ?_) (fun hc3 => ?_)
      · have hf := itp hc3 hf
        refine lv_aload_n hx hb dX4_visitor_42 rfl (lv_at hl 0 rfl) ?_
        refine s_get (C := RX4) (T := TX4) C0 G i_X4 0 0 rfl rfl (by decide) q173 rfl dX4_visitor_43 ?_
        refine lv_iload_n hx hb dX4_visitor_46 rfl (lv_at hl 1 rfl) ?_
        refine lv_iload_n hx hb dX4_visitor_47 rfl (lv_at hl 2 rfl) ?_
        obtain ⟨r4, tr1_5, vis1_6, hc7, hf⟩ := ob3_s hf
        refine go_i_sub C0 G s_pit1 o_pit1 (runV_sub (n := 2) (q0 := 1) (As := [.int v1, .int v2]) (rest := []) C0 G s_pit1 (c0_admit hX hc7) q250 q50 q247 q248 q249 o0_admit ⟨rfl, rfl⟩ ⟨Nat.le_of_ble_eq_true rfl, Nat.le_of_ble_eq_true rfl⟩ rfl rfl rfl hl.1 rfl (Nat.le_of_ble_eq_true rfl) dX4_visitor_48) (fun H locs G => ?_)
        obtain ⟨rfl, rfl, rfl, rfl⟩ := inj4 hf
        exact ret_i C0 G dX4_visitor_51
      · have hf := itn hc3 hf
        refine lv_aload_n hx hb dX4_visitor_36 rfl (lv_at hl 0 rfl) ?_
        refine lv_iconst (v := (1 : Int32)) hx hb dX4_visitor_37 (by decide) ?_
        obtain ⟨r8, fd_9, hc10, hf⟩ := ob2_s hf
        refine go_i C0 G (runV_of (n := 1) (q0 := 0) (As := [.int (1 : Int32)]) (rest := []) C0 G (c4_found hX hc10) q208 q49 q205 q207 q0 o4_found ⟨rfl, rfl⟩ ⟨Nat.le_of_ble_eq_true rfl, Nat.le_of_ble_eq_true rfl⟩ rfl rfl rfl hl.1 rfl (Nat.le_of_ble_eq_true rfl) dX4_visitor_38) (fun H locs G => ?_)
        obtain ⟨rfl, rfl, rfl, rfl⟩ := inj4 hf
        exact ret_i C0 G dX4_visitor_41
    · have hf := itp hc2 hf
      exact b4_visitor_20 C0  G (lv_sub hl [0] rfl) hf
theorem o4_visitor : okName yX4_visitor 2 := ⟨by decide, by decide, by decide +kernel⟩
set_option maxHeartbeats 4000000 in
set_option maxRecDepth 100000 in
theorem c4_visitor {ta adK adV : Nat → Nat} (hX : XT (XS ta adK adV)) {l : Launch} {D : va_G} {cI cB cG cS : ClassId} {ad : Nat → Nat} {sz : Nat} {hp1 : Nat → Int32} {st1 : Nat → Int32} {tr1 : Nat → Nat → Int32} {sp1 : Nat → Int32} {vis1 : Int32} {day1 : Int32} {z1 : Int32} {hp2 : Nat → Int32} {st2 : Nat → Int32} {tr2 : Nat → Nat → Int32} {sp2 : Nat → Int32} {vis2 : Int32} {day2 : Int32} {z2 : Int32} {hp3 : Nat → Int32} {st3 : Nat → Int32} {tr3 : Nat → Nat → Int32} {sp3 : Nat → Int32} {vis3 : Int32} {day3 : Int32} {z3 : Int32} {tb : Nat → Int32} {tl : Int32} {rtok : Int32} {rbg : Int32} {ren : Int32} {rvl : Int32} {shn : Nat → Nat → Int32} {shb : Nat → Int32} {shz : Nat → Int32} {fd : Nat → Int32} {isK : Int32} {v1 : Int32} {v2 : Int32} {r0 : Int32} {o_tr1 : Nat → Nat → Int32} {o_vis1 : Int32} {o_fd : Nat → Int32} (hf : f4_visitor tr1 vis1 fd v1 v2 = some (r0, o_tr1, o_vis1, o_fd)) : Met l yX4_visitor (wU yX4_visitor cX4_visitor 3 (some .int)) ({ frames := 2, cells := 0, slots := 0, locals := 43 }) (va_Pc [.ref (ad 0), .int v1, .int v2] (PreW (XS ta adK adV) D (tyC cI cB cG cS) (wS cI cB cG cS ad hp1 st1 tr1 sp1 vis1 day1 z1 hp2 st2 tr2 sp2 vis2 day2 z2 hp3 st3 tr3 sp3 vis3 day3 z3 tb tl rtok rbg ren rvl shn shb shz fd isK) sz)) (QcI D (tyC cI cB cG cS) (wS cI cB cG cS ad hp1 st1 o_tr1 sp1 o_vis1 day1 z1 hp2 st2 tr2 sp2 vis2 day2 z2 hp3 st3 tr3 sp3 vis3 day3 z3 tb tl rtok rbg ren rvl shn shb shz o_fd isK) (va_A (wS cI cB cG cS ad hp1 st1 tr1 sp1 vis1 day1 z1 hp2 st2 tr2 sp2 vis2 day2 z2 hp3 st3 tr3 sp3 vis3 day3 z3 tb tl rtok rbg ren rvl shn shb shz fd isK) sz) r0) 0 0 (va_A (wS cI cB cG cS ad hp1 st1 tr1 sp1 vis1 day1 z1 hp2 st2 tr2 sp2 vis2 day2 z2 hp3 st3 tr3 sp3 vis3 day3 z3 tb tl rtok rbg ren rvl shn shb shz fd isK) sz) := by
  refine startW hX (own := RX4) (by decide) rfl (Nat.le_of_ble_eq_true rfl) (fun p e s m args below meth c ls C0 G hl => ?_)
  exact b4_visitor_0 C0 G hl hf
/-! 4_isVisitor -/
theorem dX4_isVisitor_0 : decode cX4_isVisitor 0 = .ok (.iload_n 1, 1) := by decide +kernel
theorem dX4_isVisitor_1 : decode cX4_isVisitor 1 = .ok (.iconst 0, 1) := by decide +kernel
theorem dX4_isVisitor_2 : decode cX4_isVisitor 2 = .ok (.aload_n 0, 1) := by decide +kernel
theorem dX4_isVisitor_3 : decode cX4_isVisitor 3 = .ok (.getfield 10, 3) := by decide +kernel
theorem dX4_isVisitor_6 : decode cX4_isVisitor 6 = .ok (.getfield 149, 3) := by decide +kernel
theorem dX4_isVisitor_9 : decode cX4_isVisitor 9 = .ok (.iconst 1, 1) := by decide +kernel
theorem dX4_isVisitor_10 : decode cX4_isVisitor 10 = .ok (.isub, 1) := by decide +kernel
theorem dX4_isVisitor_11 : decode cX4_isVisitor 11 = .ok (.invokestatic 45, 3) := by decide +kernel
theorem dX4_isVisitor_14 : decode cX4_isVisitor 14 = .ok (.ireturn, 1) := by decide +kernel
def f4_isVisitor (vis1 : Int32) (v1 : Int32) : Int32 :=
  (f4_within v1 (0 : Int32) (vis1 - (1 : Int32)))
set_option maxHeartbeats 4000000 in
set_option maxRecDepth 100000 in
theorem b4_isVisitor_0 {ta adK adV : Nat → Nat} {p : Program} {l : Launch} {e : Env} {s : State} {m : MethodId} {args : Array Value} {below : List Frame} {meth : Method} {c : Code} {D : va_G} {cI cB cG cS : ClassId} {ad : Nat → Nat} {A : Nat → Prop} {hp1 : Nat → Int32} {st1 : Nat → Int32} {tr1 : Nat → Nat → Int32} {sp1 : Nat → Int32} {vis1 : Int32} {day1 : Int32} {z1 : Int32} {hp2 : Nat → Int32} {st2 : Nat → Int32} {tr2 : Nat → Nat → Int32} {sp2 : Nat → Int32} {vis2 : Int32} {day2 : Int32} {z2 : Int32} {hp3 : Nat → Int32} {st3 : Nat → Int32} {tr3 : Nat → Nat → Int32} {sp3 : Nat → Int32} {vis3 : Int32} {day3 : Int32} {z3 : Int32} {tb : Nat → Int32} {tl : Int32} {rtok : Int32} {rbg : Int32} {ren : Int32} {rvl : Int32} {shn : Nat → Nat → Int32} {shb : Nat → Int32} {shz : Nat → Int32} {fd : Nat → Int32} {isK : Int32} {r0 : Int32} (C0 : CX (XS ta adK adV) p s m args meth c cX4_isVisitor 2 (some .boolean) RX4 A) : ∀ {v1 : Int32} {H : Heap} {locs : List Loc} {ls : Array Slot}, GX (XS ta adK adV) D (tyC cI cB cG cS) A s (wS cI cB cG cS ad hp1 st1 tr1 sp1 vis1 day1 z1 hp2 st2 tr2 sp2 vis2 day2 z2 hp3 st3 tr3 sp3 vis3 day3 z3 tb tl rtok rbg ren rvl shn shb shz fd isK) H locs → lv_has ls 2 [(0, .ref (ad 0)), (1, .int v1)] → f4_isVisitor vis1 v1 = r0 → W p l e ({ frames := 1, cells := 0, slots := 0, locals := 22 }) s m args below meth c H locs 0 0 (MQ below (QcI D (tyC cI cB cG cS) (wS cI cB cG cS ad hp1 st1 tr1 sp1 vis1 day1 z1 hp2 st2 tr2 sp2 vis2 day2 z2 hp3 st3 tr3 sp3 vis3 day3 z3 tb tl rtok rbg ren rvl shn shb shz fd isK) A r0) args s 0 0 A) (F0 m 0 ls []) := by
  have hx := C0.1
  have hb := C0.2.1
  have hown := C0.2.2.2.2.1
  have hts := C0.2.2.2.2.2.1
  have hX := C0.2.2.2.2.2.2.2.2
  intro v1 H locs ls G hl hf
  unfold f4_isVisitor at hf
  refine lv_iload_n hx hb dX4_isVisitor_0 rfl (lv_at hl 1 rfl) ?_
  refine lv_iconst (v := (0 : Int32)) hx hb dX4_isVisitor_1 (by decide) ?_
  refine lv_aload_n hx hb dX4_isVisitor_2 rfl (lv_at hl 0 rfl) ?_
  refine s_get (C := RX4) (T := TX4) C0 G i_X4 0 0 rfl rfl (by decide) q173 rfl dX4_isVisitor_3 ?_
  refine s_get (C := RX0) (T := TX0) C0 G i_X0 1 4 rfl rfl (by decide) q92 rfl dX4_isVisitor_6 ?_
  refine lv_iconst (v := (1 : Int32)) hx hb dX4_isVisitor_9 (by decide) ?_
  refine lv_isub hx hb dX4_isVisitor_10 ?_
  refine go_i C0 G (runS_of (n := 3) (As := [.int v1, .int (0 : Int32), .int (vis1 - (1 : Int32))]) (rest := []) C0 G (c4_within hX rfl) q204 q49 q202 q203 o4_within ⟨rfl, rfl⟩ ⟨Nat.le_of_ble_eq_true rfl, Nat.le_of_ble_eq_true rfl⟩ rfl hl.1 rfl (Nat.le_of_ble_eq_true rfl) dX4_isVisitor_11) (fun H locs G => ?_)
  obtain rfl := tnj1 hf
  exact ret_z C0 G (b01_n (z4_within _ _ _)) dX4_isVisitor_14
theorem z4_isVisitor (vis1 : Int32) (v1 : Int32) : b01 (f4_isVisitor vis1 v1) = true := by
  unfold f4_isVisitor
  (repeat' split) <;> first | rfl | exact z4_within _ _ _
theorem o4_isVisitor : okName yX4_isVisitor 1 := ⟨by decide, by decide, by decide +kernel⟩
set_option maxHeartbeats 4000000 in
set_option maxRecDepth 100000 in
theorem c4_isVisitor {ta adK adV : Nat → Nat} (hX : XT (XS ta adK adV)) {l : Launch} {D : va_G} {cI cB cG cS : ClassId} {ad : Nat → Nat} {sz : Nat} {hp1 : Nat → Int32} {st1 : Nat → Int32} {tr1 : Nat → Nat → Int32} {sp1 : Nat → Int32} {vis1 : Int32} {day1 : Int32} {z1 : Int32} {hp2 : Nat → Int32} {st2 : Nat → Int32} {tr2 : Nat → Nat → Int32} {sp2 : Nat → Int32} {vis2 : Int32} {day2 : Int32} {z2 : Int32} {hp3 : Nat → Int32} {st3 : Nat → Int32} {tr3 : Nat → Nat → Int32} {sp3 : Nat → Int32} {vis3 : Int32} {day3 : Int32} {z3 : Int32} {tb : Nat → Int32} {tl : Int32} {rtok : Int32} {rbg : Int32} {ren : Int32} {rvl : Int32} {shn : Nat → Nat → Int32} {shb : Nat → Int32} {shz : Nat → Int32} {fd : Nat → Int32} {isK : Int32} {v1 : Int32} {r0 : Int32} (hf : f4_isVisitor vis1 v1 = r0) : Met l yX4_isVisitor (wU yX4_isVisitor cX4_isVisitor 2 (some .boolean)) ({ frames := 1, cells := 0, slots := 0, locals := 22 }) (va_Pc [.ref (ad 0), .int v1] (PreW (XS ta adK adV) D (tyC cI cB cG cS) (wS cI cB cG cS ad hp1 st1 tr1 sp1 vis1 day1 z1 hp2 st2 tr2 sp2 vis2 day2 z2 hp3 st3 tr3 sp3 vis3 day3 z3 tb tl rtok rbg ren rvl shn shb shz fd isK) sz)) (QcI D (tyC cI cB cG cS) (wS cI cB cG cS ad hp1 st1 tr1 sp1 vis1 day1 z1 hp2 st2 tr2 sp2 vis2 day2 z2 hp3 st3 tr3 sp3 vis3 day3 z3 tb tl rtok rbg ren rvl shn shb shz fd isK) (va_A (wS cI cB cG cS ad hp1 st1 tr1 sp1 vis1 day1 z1 hp2 st2 tr2 sp2 vis2 day2 z2 hp3 st3 tr3 sp3 vis3 day3 z3 tb tl rtok rbg ren rvl shn shb shz fd isK) sz) r0) 0 0 (va_A (wS cI cB cG cS ad hp1 st1 tr1 sp1 vis1 day1 z1 hp2 st2 tr2 sp2 vis2 day2 z2 hp3 st3 tr3 sp3 vis3 day3 z3 tb tl rtok rbg ren rvl shn shb shz fd isK) sz) := by
  refine startW hX (own := RX4) (by decide) rfl (Nat.le_of_ble_eq_true rfl) (fun p e s m args below meth c ls C0 G hl => ?_)
  exact b4_isVisitor_0 C0 G hl hf
/-! 4_of -/
theorem dX4_of_0 : decode cX4_of 0 = .ok (.aload_n 0, 1) := by decide +kernel
theorem dX4_of_1 : decode cX4_of 1 = .ok (.iload_n 1, 1) := by decide +kernel
theorem dX4_of_2 : decode cX4_of 2 = .ok (.invokevirtual 73, 3) := by decide +kernel
theorem dX4_of_5 : decode cX4_of 5 = .ok (.ifCond .eq 13, 3) := by decide +kernel
theorem dX4_of_8 : decode cX4_of 8 = .ok (.iload_n 2, 1) := by decide +kernel
theorem dX4_of_9 : decode cX4_of 9 = .ok (.iconst 0, 1) := by decide +kernel
theorem dX4_of_10 : decode cX4_of 10 = .ok (.bipush 10, 2) := by decide +kernel
theorem dX4_of_12 : decode cX4_of 12 = .ok (.invokestatic 45, 3) := by decide +kernel
theorem dX4_of_15 : decode cX4_of 15 = .ok (.ifCond .ne 9, 3) := by decide +kernel
theorem dX4_of_18 : decode cX4_of 18 = .ok (.aload_n 0, 1) := by decide +kernel
theorem dX4_of_19 : decode cX4_of 19 = .ok (.iconst 0, 1) := by decide +kernel
theorem dX4_of_20 : decode cX4_of 20 = .ok (.invokevirtual 49, 3) := by decide +kernel
theorem dX4_of_23 : decode cX4_of 23 = .ok (.ireturn, 1) := by decide +kernel
theorem dX4_of_24 : decode cX4_of 24 = .ok (.iload_n 2, 1) := by decide +kernel
theorem dX4_of_25 : decode cX4_of 25 = .ok (.tableswitch 75 7 10 #[31, 40, 49, 58], 31) := by decide +kernel
theorem dX4_of_56 : decode cX4_of 56 = .ok (.aload_n 0, 1) := by decide +kernel
theorem dX4_of_57 : decode cX4_of 57 = .ok (.getfield 10, 3) := by decide +kernel
theorem dX4_of_60 : decode cX4_of 60 = .ok (.iload_n 1, 1) := by decide +kernel
theorem dX4_of_61 : decode cX4_of 61 = .ok (.invokevirtual 77, 3) := by decide +kernel
theorem dX4_of_64 : decode cX4_of 64 = .ok (.ireturn, 1) := by decide +kernel
theorem dX4_of_65 : decode cX4_of 65 = .ok (.aload_n 0, 1) := by decide +kernel
theorem dX4_of_66 : decode cX4_of 66 = .ok (.getfield 10, 3) := by decide +kernel
theorem dX4_of_69 : decode cX4_of 69 = .ok (.iload_n 1, 1) := by decide +kernel
theorem dX4_of_70 : decode cX4_of 70 = .ok (.invokevirtual 80, 3) := by decide +kernel
theorem dX4_of_73 : decode cX4_of 73 = .ok (.ireturn, 1) := by decide +kernel
theorem dX4_of_74 : decode cX4_of 74 = .ok (.aload_n 0, 1) := by decide +kernel
theorem dX4_of_75 : decode cX4_of 75 = .ok (.getfield 10, 3) := by decide +kernel
theorem dX4_of_78 : decode cX4_of 78 = .ok (.iload_n 1, 1) := by decide +kernel
theorem dX4_of_79 : decode cX4_of 79 = .ok (.invokevirtual 83, 3) := by decide +kernel
theorem dX4_of_82 : decode cX4_of 82 = .ok (.ireturn, 1) := by decide +kernel
theorem dX4_of_83 : decode cX4_of 83 = .ok (.aload_n 0, 1) := by decide +kernel
theorem dX4_of_84 : decode cX4_of 84 = .ok (.getfield 10, 3) := by decide +kernel
theorem dX4_of_87 : decode cX4_of 87 = .ok (.iload_n 1, 1) := by decide +kernel
theorem dX4_of_88 : decode cX4_of 88 = .ok (.invokevirtual 86, 3) := by decide +kernel
theorem dX4_of_91 : decode cX4_of 91 = .ok (.ifCond .eq 7, 3) := by decide +kernel
theorem dX4_of_94 : decode cX4_of 94 = .ok (.iconst 1, 1) := by decide +kernel
theorem dX4_of_95 : decode cX4_of 95 = .ok (.goto 4, 3) := by decide +kernel
theorem dX4_of_98 : decode cX4_of 98 = .ok (.iconst 0, 1) := by decide +kernel
theorem dX4_of_99 : decode cX4_of 99 = .ok (.ireturn, 1) := by decide +kernel
theorem dX4_of_100 : decode cX4_of 100 = .ok (.aload_n 0, 1) := by decide +kernel
theorem dX4_of_101 : decode cX4_of 101 = .ok (.getfield 10, 3) := by decide +kernel
theorem dX4_of_104 : decode cX4_of 104 = .ok (.getfield 89, 3) := by decide +kernel
theorem dX4_of_107 : decode cX4_of 107 = .ok (.iload_n 2, 1) := by decide +kernel
theorem dX4_of_108 : decode cX4_of 108 = .ok (.aaload, 1) := by decide +kernel
theorem dX4_of_109 : decode cX4_of 109 = .ok (.iload_n 1, 1) := by decide +kernel
theorem dX4_of_110 : decode cX4_of 110 = .ok (.iaload, 1) := by decide +kernel
theorem dX4_of_111 : decode cX4_of 111 = .ok (.ireturn, 1) := by decide +kernel
def j4_of_18  (hp1 : Nat → Int32) (st1 : Nat → Int32) (tr1 : Nat → Nat → Int32) (vis1 : Int32) (fd : Nat → Int32)  : Option (Int32 × (Nat → Int32)) :=
  ob2 (f4_found fd (0 : Int32)) (fun r18 fd_19 =>
  some (r18, fd_19))
def f4_of (hp1 : Nat → Int32) (st1 : Nat → Int32) (tr1 : Nat → Nat → Int32) (vis1 : Int32) (fd : Nat → Int32) (v1 : Int32) (v2 : Int32) : Option (Int32 × (Nat → Int32)) :=
  if (f4_isVisitor vis1 v1) = (0 : Int32) then (
    j4_of_18 hp1 st1 tr1 vis1 fd)
  else (
    if (f4_within v2 (0 : Int32) (10 : Int32)) = (0 : Int32) then (
      j4_of_18 hp1 st1 tr1 vis1 fd)
    else (
      if v2 = (7 : Int32) then (
        ob1 (f0_spanOf tr1 v1) (fun r4 =>
        some (r4, fd)))
      else
      if v2 = (8 : Int32) then (
        ob1 (f0_raisesOf st1 tr1 v1) (fun r7 =>
        some (r7, fd)))
      else
      if v2 = (9 : Int32) then (
        ob1 (f0_movesOf st1 tr1 v1) (fun r10 =>
        some (r10, fd)))
      else
      if v2 = (10 : Int32) then (
        ob1 (f0_isUp hp1 st1 tr1 v1) (fun r13 =>
        if r13 = (0 : Int32) then (
          some ((0 : Int32), fd))
        else (
          some ((1 : Int32), fd))))
      else
      gd (inb v2 7) (
      gd (inb v1 8) (
      some (((tr1 v2.toNatClampNeg) v1.toNatClampNeg), fd)))))
set_option maxHeartbeats 4000000 in
set_option maxRecDepth 100000 in
theorem b4_of_18 {ta adK adV : Nat → Nat} {p : Program} {l : Launch} {e : Env} {s : State} {m : MethodId} {args : Array Value} {below : List Frame} {meth : Method} {c : Code} {D : va_G} {cI cB cG cS : ClassId} {ad : Nat → Nat} {A : Nat → Prop} {hp1 : Nat → Int32} {st1 : Nat → Int32} {tr1 : Nat → Nat → Int32} {sp1 : Nat → Int32} {vis1 : Int32} {day1 : Int32} {z1 : Int32} {hp2 : Nat → Int32} {st2 : Nat → Int32} {tr2 : Nat → Nat → Int32} {sp2 : Nat → Int32} {vis2 : Int32} {day2 : Int32} {z2 : Int32} {hp3 : Nat → Int32} {st3 : Nat → Int32} {tr3 : Nat → Nat → Int32} {sp3 : Nat → Int32} {vis3 : Int32} {day3 : Int32} {z3 : Int32} {tb : Nat → Int32} {tl : Int32} {rtok : Int32} {rbg : Int32} {ren : Int32} {rvl : Int32} {shn : Nat → Nat → Int32} {shb : Nat → Int32} {shz : Nat → Int32} {isK : Int32} {r0 : Int32} {o_fd : Nat → Int32} (C0 : CX (XS ta adK adV) p s m args meth c cX4_of 3 (some .int) RX4 A) : ∀ {fd : Nat → Int32} {H : Heap} {locs : List Loc} {ls : Array Slot}, GX (XS ta adK adV) D (tyC cI cB cG cS) A s (wS cI cB cG cS ad hp1 st1 tr1 sp1 vis1 day1 z1 hp2 st2 tr2 sp2 vis2 day2 z2 hp3 st3 tr3 sp3 vis3 day3 z3 tb tl rtok rbg ren rvl shn shb shz fd isK) H locs → lv_has ls 3 [(0, .ref (ad 0))] → j4_of_18  hp1 st1 tr1 vis1 fd = some (r0, o_fd) → W p l e ({ frames := 3, cells := 0, slots := 0, locals := 60 }) s m args below meth c H locs 0 0 (MQ below (QcI D (tyC cI cB cG cS) (wS cI cB cG cS ad hp1 st1 tr1 sp1 vis1 day1 z1 hp2 st2 tr2 sp2 vis2 day2 z2 hp3 st3 tr3 sp3 vis3 day3 z3 tb tl rtok rbg ren rvl shn shb shz o_fd isK) A r0) args s 0 0 A) (F0 m 18 ls []) := by
  have hx := C0.1
  have hb := C0.2.1
  have hown := C0.2.2.2.2.1
  have hts := C0.2.2.2.2.2.1
  have hX := C0.2.2.2.2.2.2.2.2
  intro fd H locs ls G hl hf
  unfold j4_of_18 at hf
  refine lv_aload_n hx hb dX4_of_18 rfl (lv_at hl 0 rfl) ?_
  refine lv_iconst (v := (0 : Int32)) hx hb dX4_of_19 (by decide) ?_
  obtain ⟨r18, fd_19, hc20, hf⟩ := ob2_s hf
  refine go_i C0 G (runV_of (n := 1) (q0 := 0) (As := [.int (0 : Int32)]) (rest := []) C0 G (c4_found hX hc20) q208 q49 q205 q207 q0 o4_found ⟨rfl, rfl⟩ ⟨Nat.le_of_ble_eq_true rfl, Nat.le_of_ble_eq_true rfl⟩ rfl rfl rfl hl.1 rfl (Nat.le_of_ble_eq_true rfl) dX4_of_20) (fun H locs G => ?_)
  obtain ⟨rfl, rfl⟩ := inj2 hf
  exact ret_i C0 G dX4_of_23
set_option maxHeartbeats 4000000 in
set_option maxRecDepth 100000 in
theorem b4_of_0 {ta adK adV : Nat → Nat} {p : Program} {l : Launch} {e : Env} {s : State} {m : MethodId} {args : Array Value} {below : List Frame} {meth : Method} {c : Code} {D : va_G} {cI cB cG cS : ClassId} {ad : Nat → Nat} {A : Nat → Prop} {hp1 : Nat → Int32} {st1 : Nat → Int32} {tr1 : Nat → Nat → Int32} {sp1 : Nat → Int32} {vis1 : Int32} {day1 : Int32} {z1 : Int32} {hp2 : Nat → Int32} {st2 : Nat → Int32} {tr2 : Nat → Nat → Int32} {sp2 : Nat → Int32} {vis2 : Int32} {day2 : Int32} {z2 : Int32} {hp3 : Nat → Int32} {st3 : Nat → Int32} {tr3 : Nat → Nat → Int32} {sp3 : Nat → Int32} {vis3 : Int32} {day3 : Int32} {z3 : Int32} {tb : Nat → Int32} {tl : Int32} {rtok : Int32} {rbg : Int32} {ren : Int32} {rvl : Int32} {shn : Nat → Nat → Int32} {shb : Nat → Int32} {shz : Nat → Int32} {isK : Int32} {r0 : Int32} {o_fd : Nat → Int32} (C0 : CX (XS ta adK adV) p s m args meth c cX4_of 3 (some .int) RX4 A) : ∀ {fd : Nat → Int32} {v1 : Int32} {v2 : Int32} {H : Heap} {locs : List Loc} {ls : Array Slot}, GX (XS ta adK adV) D (tyC cI cB cG cS) A s (wS cI cB cG cS ad hp1 st1 tr1 sp1 vis1 day1 z1 hp2 st2 tr2 sp2 vis2 day2 z2 hp3 st3 tr3 sp3 vis3 day3 z3 tb tl rtok rbg ren rvl shn shb shz fd isK) H locs → lv_has ls 3 [(0, .ref (ad 0)), (1, .int v1), (2, .int v2)] → f4_of hp1 st1 tr1 vis1 fd v1 v2 = some (r0, o_fd) → W p l e ({ frames := 3, cells := 0, slots := 0, locals := 60 }) s m args below meth c H locs 0 0 (MQ below (QcI D (tyC cI cB cG cS) (wS cI cB cG cS ad hp1 st1 tr1 sp1 vis1 day1 z1 hp2 st2 tr2 sp2 vis2 day2 z2 hp3 st3 tr3 sp3 vis3 day3 z3 tb tl rtok rbg ren rvl shn shb shz o_fd isK) A r0) args s 0 0 A) (F0 m 0 ls []) := by
  have hx := C0.1
  have hb := C0.2.1
  have hown := C0.2.2.2.2.1
  have hts := C0.2.2.2.2.2.1
  have hX := C0.2.2.2.2.2.2.2.2
  intro fd v1 v2 H locs ls G hl hf
  unfold f4_of at hf
  refine lv_aload_n hx hb dX4_of_0 rfl (lv_at hl 0 rfl) ?_
  refine lv_iload_n hx hb dX4_of_1 rfl (lv_at hl 1 rfl) ?_
  refine go_i C0 G (runV_of (n := 1) (q0 := 0) (As := [.int v1]) (rest := []) C0 G (c4_isVisitor hX rfl) q261 q49 q258 q260 q1 o4_isVisitor ⟨rfl, rfl⟩ ⟨Nat.le_of_ble_eq_true rfl, Nat.le_of_ble_eq_true rfl⟩ rfl rfl rfl hl.1 rfl (Nat.le_of_ble_eq_true rfl) dX4_of_2) (fun H locs G => ?_)
  refine lv_if_eq (tgt := 18) hx hb dX4_of_5 (by decide) (fun hc1 => ?_) (fun hc1 => ?_)
  · have hf := itp hc1 hf
    exact b4_of_18 C0  G (lv_sub hl [0] rfl) hf
  · have hf := itn hc1 hf
    refine lv_iload_n hx hb dX4_of_8 rfl (lv_at hl 2 rfl) ?_
    refine lv_iconst (v := (0 : Int32)) hx hb dX4_of_9 (by decide) ?_
    refine lv_bipush (v := (10 : Int32)) hx hb dX4_of_10 (by decide) ?_
    refine go_i C0 G (runS_of (n := 3) (As := [.int v2, .int (0 : Int32), .int (10 : Int32)]) (rest := []) C0 G (c4_within hX rfl) q204 q49 q202 q203 o4_within ⟨rfl, rfl⟩ ⟨Nat.le_of_ble_eq_true rfl, Nat.le_of_ble_eq_true rfl⟩ rfl hl.1 rfl (Nat.le_of_ble_eq_true rfl) dX4_of_12) (fun H locs G => ?_)
    refine lv_if_ne (tgt := 24) hx hb dX4_of_15 (by decide) (fun hc2 => ?_) (fun hc2 => ?_)
    · have hf := itn hc2 hf
      refine lv_iload_n hx hb dX4_of_24 rfl (lv_at hl 2 rfl) ?_
      by_cases hs3 : v2 = (7 : Int32)
      · have hf := itp hs3 hf
        refine lv_tableIn (tgt := 56) hx hb dX4_of_25 (by rw [hs3]; decide) (by rw [hs3]; decide) (by rw [hs3]; rfl) (by decide) ?_
        refine lv_aload_n hx hb dX4_of_56 rfl (lv_at hl 0 rfl) ?_
        refine s_get (C := RX4) (T := TX4) C0 G i_X4 0 0 rfl rfl (by decide) q173 rfl dX4_of_57 ?_
        refine lv_iload_n hx hb dX4_of_60 rfl (lv_at hl 1 rfl) ?_
        obtain ⟨r4, hc5, hf⟩ := ob1_s hf
        refine go_i_sub C0 G s_pit1 o_pit1 (runV_sub (n := 1) (q0 := 1) (As := [.int v1]) (rest := []) C0 G s_pit1 (c0_spanOf hX hc5) q265 q50 q262 q263 q264 o0_spanOf ⟨rfl, rfl⟩ ⟨Nat.le_of_ble_eq_true rfl, Nat.le_of_ble_eq_true rfl⟩ rfl rfl rfl hl.1 rfl (Nat.le_of_ble_eq_true rfl) dX4_of_61) (fun H locs G => ?_)
        obtain ⟨rfl, rfl⟩ := inj2 hf
        exact ret_i C0 G dX4_of_64
      have hf := itn hs3 hf
      by_cases hs6 : v2 = (8 : Int32)
      · have hf := itp hs6 hf
        refine lv_tableIn (tgt := 65) hx hb dX4_of_25 (by rw [hs6]; decide) (by rw [hs6]; decide) (by rw [hs6]; rfl) (by decide) ?_
        refine lv_aload_n hx hb dX4_of_65 rfl (lv_at hl 0 rfl) ?_
        refine s_get (C := RX4) (T := TX4) C0 G i_X4 0 0 rfl rfl (by decide) q173 rfl dX4_of_66 ?_
        refine lv_iload_n hx hb dX4_of_69 rfl (lv_at hl 1 rfl) ?_
        obtain ⟨r7, hc8, hf⟩ := ob1_s hf
        refine go_i_sub C0 G s_pit1 o_pit1 (runV_sub (n := 1) (q0 := 1) (As := [.int v1]) (rest := []) C0 G s_pit1 (c0_raisesOf hX hc8) q269 q50 q266 q267 q268 o0_raisesOf ⟨rfl, rfl⟩ ⟨Nat.le_of_ble_eq_true rfl, Nat.le_of_ble_eq_true rfl⟩ rfl rfl rfl hl.1 rfl (Nat.le_of_ble_eq_true rfl) dX4_of_70) (fun H locs G => ?_)
        obtain ⟨rfl, rfl⟩ := inj2 hf
        exact ret_i C0 G dX4_of_73
      have hf := itn hs6 hf
      by_cases hs9 : v2 = (9 : Int32)
      · have hf := itp hs9 hf
        refine lv_tableIn (tgt := 74) hx hb dX4_of_25 (by rw [hs9]; decide) (by rw [hs9]; decide) (by rw [hs9]; rfl) (by decide) ?_
        refine lv_aload_n hx hb dX4_of_74 rfl (lv_at hl 0 rfl) ?_
        refine s_get (C := RX4) (T := TX4) C0 G i_X4 0 0 rfl rfl (by decide) q173 rfl dX4_of_75 ?_
        refine lv_iload_n hx hb dX4_of_78 rfl (lv_at hl 1 rfl) ?_
        obtain ⟨r10, hc11, hf⟩ := ob1_s hf
        refine go_i_sub C0 G s_pit1 o_pit1 (runV_sub (n := 1) (q0 := 1) (As := [.int v1]) (rest := []) C0 G s_pit1 (c0_movesOf hX hc11) q273 q50 q270 q271 q272 o0_movesOf ⟨rfl, rfl⟩ ⟨Nat.le_of_ble_eq_true rfl, Nat.le_of_ble_eq_true rfl⟩ rfl rfl rfl hl.1 rfl (Nat.le_of_ble_eq_true rfl) dX4_of_79) (fun H locs G => ?_)
        obtain ⟨rfl, rfl⟩ := inj2 hf
        exact ret_i C0 G dX4_of_82
      have hf := itn hs9 hf
      by_cases hs12 : v2 = (10 : Int32)
      · have hf := itp hs12 hf
        refine lv_tableIn (tgt := 83) hx hb dX4_of_25 (by rw [hs12]; decide) (by rw [hs12]; decide) (by rw [hs12]; rfl) (by decide) ?_
        refine lv_aload_n hx hb dX4_of_83 rfl (lv_at hl 0 rfl) ?_
        refine s_get (C := RX4) (T := TX4) C0 G i_X4 0 0 rfl rfl (by decide) q173 rfl dX4_of_84 ?_
        refine lv_iload_n hx hb dX4_of_87 rfl (lv_at hl 1 rfl) ?_
        obtain ⟨r13, hc14, hf⟩ := ob1_s hf
        refine go_i_sub C0 G s_pit1 o_pit1 (runV_sub (n := 1) (q0 := 1) (As := [.int v1]) (rest := []) C0 G s_pit1 (c0_isUp hX hc14) q277 q50 q274 q275 q276 o0_isUp ⟨rfl, rfl⟩ ⟨Nat.le_of_ble_eq_true rfl, Nat.le_of_ble_eq_true rfl⟩ rfl rfl rfl hl.1 rfl (Nat.le_of_ble_eq_true rfl) dX4_of_88) (fun H locs G => ?_)
        refine lv_if_eq (tgt := 98) hx hb dX4_of_91 (by decide) (fun hc15 => ?_) (fun hc15 => ?_)
        · have hf := itp hc15 hf
          refine lv_iconst (v := (0 : Int32)) hx hb dX4_of_98 (by decide) ?_
          obtain ⟨rfl, rfl⟩ := inj2 hf
          exact ret_i C0 G dX4_of_99
        · have hf := itn hc15 hf
          refine lv_iconst (v := (1 : Int32)) hx hb dX4_of_94 (by decide) ?_
          refine lv_goto (tgt := 99) hx hb dX4_of_95 (by decide) ?_
          obtain ⟨rfl, rfl⟩ := inj2 hf
          exact ret_i C0 G dX4_of_99
      have hf := itn hs12 hf
      refine lv_tableOut (tgt := 100) hx hb dX4_of_25 (by have := lv_neT (a := 7) hs3 (by decide); have := lv_neT (a := 8) hs6 (by decide); have := lv_neT (a := 9) hs9 (by decide); have := lv_neT (a := 10) hs12 (by decide); omega) (by decide) ?_
      refine lv_aload_n hx hb dX4_of_100 rfl (lv_at hl 0 rfl) ?_
      refine s_get (C := RX4) (T := TX4) C0 G i_X4 0 0 rfl rfl (by decide) q173 rfl dX4_of_101 ?_
      refine s_get (C := RX0) (T := TX0) C0 G i_X0 1 2 rfl rfl (by decide) q88 rfl dX4_of_104 ?_
      refine lv_iload_n hx hb dX4_of_107 rfl (lv_at hl 2 rfl) ?_
      obtain ⟨hi16, hf⟩ := gd_s hf
      refine s_aldg (k := v2.toNatClampNeg) (b := ad (1 + (4 + v2.toNatClampNeg))) C0 G 4 2 rfl rfl (vin hi16) rfl rfl dX4_of_108 ?_
      refine lv_iload_n hx hb dX4_of_109 rfl (lv_at hl 1 rfl) ?_
      obtain ⟨hi17, hf⟩ := gd_s hf
      refine s_iald (k := v1.toNatClampNeg) C0 G (5 + v2.toNatClampNeg) 0 (wS_row1 (inb_lt hi16)) rfl (vin hi17) rfl dX4_of_110 ?_
      obtain ⟨rfl, rfl⟩ := inj2 hf
      exact ret_i C0 G dX4_of_111
    · have hf := itp hc2 hf
      exact b4_of_18 C0  G (lv_sub hl [0] rfl) hf
theorem o4_of : okName yX4_of 2 := ⟨by decide, by decide, by decide +kernel⟩
set_option maxHeartbeats 4000000 in
set_option maxRecDepth 100000 in
theorem c4_of {ta adK adV : Nat → Nat} (hX : XT (XS ta adK adV)) {l : Launch} {D : va_G} {cI cB cG cS : ClassId} {ad : Nat → Nat} {sz : Nat} {hp1 : Nat → Int32} {st1 : Nat → Int32} {tr1 : Nat → Nat → Int32} {sp1 : Nat → Int32} {vis1 : Int32} {day1 : Int32} {z1 : Int32} {hp2 : Nat → Int32} {st2 : Nat → Int32} {tr2 : Nat → Nat → Int32} {sp2 : Nat → Int32} {vis2 : Int32} {day2 : Int32} {z2 : Int32} {hp3 : Nat → Int32} {st3 : Nat → Int32} {tr3 : Nat → Nat → Int32} {sp3 : Nat → Int32} {vis3 : Int32} {day3 : Int32} {z3 : Int32} {tb : Nat → Int32} {tl : Int32} {rtok : Int32} {rbg : Int32} {ren : Int32} {rvl : Int32} {shn : Nat → Nat → Int32} {shb : Nat → Int32} {shz : Nat → Int32} {fd : Nat → Int32} {isK : Int32} {v1 : Int32} {v2 : Int32} {r0 : Int32} {o_fd : Nat → Int32} (hf : f4_of hp1 st1 tr1 vis1 fd v1 v2 = some (r0, o_fd)) : Met l yX4_of (wU yX4_of cX4_of 3 (some .int)) ({ frames := 3, cells := 0, slots := 0, locals := 60 }) (va_Pc [.ref (ad 0), .int v1, .int v2] (PreW (XS ta adK adV) D (tyC cI cB cG cS) (wS cI cB cG cS ad hp1 st1 tr1 sp1 vis1 day1 z1 hp2 st2 tr2 sp2 vis2 day2 z2 hp3 st3 tr3 sp3 vis3 day3 z3 tb tl rtok rbg ren rvl shn shb shz fd isK) sz)) (QcI D (tyC cI cB cG cS) (wS cI cB cG cS ad hp1 st1 tr1 sp1 vis1 day1 z1 hp2 st2 tr2 sp2 vis2 day2 z2 hp3 st3 tr3 sp3 vis3 day3 z3 tb tl rtok rbg ren rvl shn shb shz o_fd isK) (va_A (wS cI cB cG cS ad hp1 st1 tr1 sp1 vis1 day1 z1 hp2 st2 tr2 sp2 vis2 day2 z2 hp3 st3 tr3 sp3 vis3 day3 z3 tb tl rtok rbg ren rvl shn shb shz fd isK) sz) r0) 0 0 (va_A (wS cI cB cG cS ad hp1 st1 tr1 sp1 vis1 day1 z1 hp2 st2 tr2 sp2 vis2 day2 z2 hp3 st3 tr3 sp3 vis3 day3 z3 tb tl rtok rbg ren rvl shn shb shz fd isK) sz) := by
  refine startW hX (own := RX4) (by decide) rfl (Nat.le_of_ble_eq_true rfl) (fun p e s m args below meth c ls C0 G hl => ?_)
  exact b4_of_0 C0 G hl hf
/-! 4_isTrait -/
theorem dX4_isTrait_0 : decode cX4_isTrait 0 = .ok (.iload_n 1, 1) := by decide +kernel
theorem dX4_isTrait_1 : decode cX4_isTrait 1 = .ok (.getstatic 142, 3) := by decide +kernel
theorem dX4_isTrait_4 : decode cX4_isTrait 4 = .ok (.iload_n 0, 1) := by decide +kernel
theorem dX4_isTrait_5 : decode cX4_isTrait 5 = .ok (.iaload, 1) := by decide +kernel
theorem dX4_isTrait_6 : decode cX4_isTrait 6 = .ok (.getstatic 139, 3) := by decide +kernel
theorem dX4_isTrait_9 : decode cX4_isTrait 9 = .ok (.iload_n 0, 1) := by decide +kernel
theorem dX4_isTrait_10 : decode cX4_isTrait 10 = .ok (.iaload, 1) := by decide +kernel
theorem dX4_isTrait_11 : decode cX4_isTrait 11 = .ok (.invokestatic 45, 3) := by decide +kernel
theorem dX4_isTrait_14 : decode cX4_isTrait 14 = .ok (.ireturn, 1) := by decide +kernel
def f4_isTrait  (v0 : Int32) (v1 : Int32) : Option (Int32) :=
  gd (inb v0 7) (
  gd (inb v0 7) (
  some (f4_within v1 (kTL v0.toNatClampNeg) (kTM v0.toNatClampNeg))))
set_option maxHeartbeats 4000000 in
set_option maxRecDepth 100000 in
theorem b4_isTrait_0 {ta adK adV : Nat → Nat} {p : Program} {l : Launch} {e : Env} {s : State} {m : MethodId} {args : Array Value} {below : List Frame} {meth : Method} {c : Code} {D : va_G} {tys : List (ClassId × FieldType)} {w0 : va_W} {A : Nat → Prop}  {r0 : Int32} (C0 : CX (XS ta adK adV) p s m args meth c cX4_isTrait 2 (some .boolean) RX4 A) : ∀ {v0 : Int32} {v1 : Int32} {H : Heap} {locs : List Loc} {ls : Array Slot}, GX (XS ta adK adV) D tys A s w0 H locs → lv_has ls 2 [(0, .int v0), (1, .int v1)] → f4_isTrait v0 v1 = some r0 → W p l e ({ frames := 1, cells := 0, slots := 0, locals := 22 }) s m args below meth c H locs 0 0 (MQ below (QcI D tys w0 A r0) args s 0 0 A) (F0 m 0 ls []) := by
  have hx := C0.1
  have hb := C0.2.1
  have hown := C0.2.2.2.2.1
  have hts := C0.2.2.2.2.2.1
  have hX := C0.2.2.2.2.2.2.2.2
  intro v0 v1 H locs ls G hl hf
  unfold f4_isTrait at hf
  refine lv_iload_n hx hb dX4_isTrait_0 rfl (lv_at hl 1 rfl) ?_
  refine s_gets C0 G (xa_4 G.2.2.2.2) q290 dX4_isTrait_1 ?_
  refine lv_iload_n hx hb dX4_isTrait_4 rfl (lv_at hl 0 rfl) ?_
  obtain ⟨hi1, hf⟩ := gd_s hf
  refine s_ti (k := v0.toNatClampNeg) C0 G (xa_4 G.2.2.2.2) (vin hi1) rfl dX4_isTrait_5 ?_
  refine s_gets C0 G (xa_5 G.2.2.2.2) q292 dX4_isTrait_6 ?_
  refine lv_iload_n hx hb dX4_isTrait_9 rfl (lv_at hl 0 rfl) ?_
  obtain ⟨hi2, hf⟩ := gd_s hf
  refine s_ti (k := v0.toNatClampNeg) C0 G (xa_5 G.2.2.2.2) (vin hi2) rfl dX4_isTrait_10 ?_
  refine go_i C0 G (runS_of (n := 3) (As := [.int v1, .int (kTL v0.toNatClampNeg), .int (kTM v0.toNatClampNeg)]) (rest := []) C0 G (c4_within hX rfl) q204 q49 q202 q203 o4_within ⟨rfl, rfl⟩ ⟨Nat.le_of_ble_eq_true rfl, Nat.le_of_ble_eq_true rfl⟩ rfl hl.1 rfl (Nat.le_of_ble_eq_true rfl) dX4_isTrait_11) (fun H locs G => ?_)
  obtain rfl := inj1 hf
  exact ret_z C0 G (b01_n (z4_within _ _ _)) dX4_isTrait_14
theorem o4_isTrait : okName yX4_isTrait 2 := ⟨by decide, by decide, by decide +kernel⟩
set_option maxHeartbeats 4000000 in
set_option maxRecDepth 100000 in
theorem c4_isTrait {ta adK adV : Nat → Nat} (hX : XT (XS ta adK adV)) {l : Launch} {D : va_G} {tys : List (ClassId × FieldType)} {w0 : va_W} {sz : Nat}  {v0 : Int32} {v1 : Int32} {r0 : Int32} (hf : f4_isTrait v0 v1 = some r0) : Met l yX4_isTrait (wU yX4_isTrait cX4_isTrait 2 (some .boolean)) ({ frames := 1, cells := 0, slots := 0, locals := 22 }) (va_Pc [.int v0, .int v1] (PreW (XS ta adK adV) D tys w0 sz)) (QcI D tys w0 (va_A w0 sz) r0) 0 0 (va_A w0 sz) := by
  refine startW hX (own := RX4) (by decide) rfl (Nat.le_of_ble_eq_true rfl) (fun p e s m args below meth c ls C0 G hl => ?_)
  exact b4_isTrait_0 C0 G hl hf
/-! 4_change -/
theorem dX4_change_0 : decode cX4_change 0 = .ok (.aload_n 0, 1) := by decide +kernel
theorem dX4_change_1 : decode cX4_change 1 = .ok (.iload_n 1, 1) := by decide +kernel
theorem dX4_change_2 : decode cX4_change 2 = .ok (.invokevirtual 73, 3) := by decide +kernel
theorem dX4_change_5 : decode cX4_change 5 = .ok (.ifCond .eq 21, 3) := by decide +kernel
theorem dX4_change_8 : decode cX4_change 8 = .ok (.iload_n 2, 1) := by decide +kernel
theorem dX4_change_9 : decode cX4_change 9 = .ok (.iconst 0, 1) := by decide +kernel
theorem dX4_change_10 : decode cX4_change 10 = .ok (.bipush 6, 2) := by decide +kernel
theorem dX4_change_12 : decode cX4_change 12 = .ok (.invokestatic 45, 3) := by decide +kernel
theorem dX4_change_15 : decode cX4_change 15 = .ok (.ifCond .eq 11, 3) := by decide +kernel
theorem dX4_change_18 : decode cX4_change 18 = .ok (.iload_n 2, 1) := by decide +kernel
theorem dX4_change_19 : decode cX4_change 19 = .ok (.iload_n 3, 1) := by decide +kernel
theorem dX4_change_20 : decode cX4_change 20 = .ok (.invokestatic 93, 3) := by decide +kernel
theorem dX4_change_23 : decode cX4_change 23 = .ok (.ifCond .ne 9, 3) := by decide +kernel
theorem dX4_change_26 : decode cX4_change 26 = .ok (.aload_n 0, 1) := by decide +kernel
theorem dX4_change_27 : decode cX4_change 27 = .ok (.iconst 0, 1) := by decide +kernel
theorem dX4_change_28 : decode cX4_change 28 = .ok (.invokevirtual 49, 3) := by decide +kernel
theorem dX4_change_31 : decode cX4_change 31 = .ok (.ireturn, 1) := by decide +kernel
theorem dX4_change_32 : decode cX4_change 32 = .ok (.aload_n 0, 1) := by decide +kernel
theorem dX4_change_33 : decode cX4_change 33 = .ok (.getfield 10, 3) := by decide +kernel
theorem dX4_change_36 : decode cX4_change 36 = .ok (.getfield 89, 3) := by decide +kernel
theorem dX4_change_39 : decode cX4_change 39 = .ok (.iload_n 2, 1) := by decide +kernel
theorem dX4_change_40 : decode cX4_change 40 = .ok (.aaload, 1) := by decide +kernel
theorem dX4_change_41 : decode cX4_change 41 = .ok (.iload_n 1, 1) := by decide +kernel
theorem dX4_change_42 : decode cX4_change 42 = .ok (.iaload, 1) := by decide +kernel
theorem dX4_change_43 : decode cX4_change 43 = .ok (.istore 4, 2) := by decide +kernel
theorem dX4_change_45 : decode cX4_change 45 = .ok (.aload_n 0, 1) := by decide +kernel
theorem dX4_change_46 : decode cX4_change 46 = .ok (.getfield 10, 3) := by decide +kernel
theorem dX4_change_49 : decode cX4_change 49 = .ok (.getfield 89, 3) := by decide +kernel
theorem dX4_change_52 : decode cX4_change 52 = .ok (.iload_n 2, 1) := by decide +kernel
theorem dX4_change_53 : decode cX4_change 53 = .ok (.aaload, 1) := by decide +kernel
theorem dX4_change_54 : decode cX4_change 54 = .ok (.iload_n 1, 1) := by decide +kernel
theorem dX4_change_55 : decode cX4_change 55 = .ok (.iload_n 3, 1) := by decide +kernel
theorem dX4_change_56 : decode cX4_change 56 = .ok (.iastore, 1) := by decide +kernel
theorem dX4_change_57 : decode cX4_change 57 = .ok (.iload 4, 2) := by decide +kernel
theorem dX4_change_59 : decode cX4_change 59 = .ok (.ireturn, 1) := by decide +kernel
def j4_change_26  (tr1 : Nat → Nat → Int32) (vis1 : Int32) (fd : Nat → Int32)  : Option (Int32 × (Nat → Nat → Int32) × (Nat → Int32)) :=
  ob2 (f4_found fd (0 : Int32)) (fun r10 fd_11 =>
  some (r10, tr1, fd_11))
def f4_change (tr1 : Nat → Nat → Int32) (vis1 : Int32) (fd : Nat → Int32) (v1 : Int32) (v2 : Int32) (v3 : Int32) : Option (Int32 × (Nat → Nat → Int32) × (Nat → Int32)) :=
  if (f4_isVisitor vis1 v1) = (0 : Int32) then (
    j4_change_26 tr1 vis1 fd)
  else (
    if (f4_within v2 (0 : Int32) (6 : Int32)) = (0 : Int32) then (
      j4_change_26 tr1 vis1 fd)
    else (
      ob1 (f4_isTrait v2 v3) (fun r3 =>
      if r3 = (0 : Int32) then (
        j4_change_26 tr1 vis1 fd)
      else (
        gd (inb v2 7) (
        gd (inb v1 8) (
        gd (inb v2 7) (
        gd (inb v1 8) (
        some (((tr1 v2.toNatClampNeg) v1.toNatClampNeg), (upd2 tr1 v2.toNatClampNeg v1.toNatClampNeg v3), fd)))))))))
set_option maxHeartbeats 4000000 in
set_option maxRecDepth 100000 in
theorem b4_change_26 {ta adK adV : Nat → Nat} {p : Program} {l : Launch} {e : Env} {s : State} {m : MethodId} {args : Array Value} {below : List Frame} {meth : Method} {c : Code} {D : va_G} {cI cB cG cS : ClassId} {ad : Nat → Nat} {A : Nat → Prop} {hp1 : Nat → Int32} {st1 : Nat → Int32} {sp1 : Nat → Int32} {vis1 : Int32} {day1 : Int32} {z1 : Int32} {hp2 : Nat → Int32} {st2 : Nat → Int32} {tr2 : Nat → Nat → Int32} {sp2 : Nat → Int32} {vis2 : Int32} {day2 : Int32} {z2 : Int32} {hp3 : Nat → Int32} {st3 : Nat → Int32} {tr3 : Nat → Nat → Int32} {sp3 : Nat → Int32} {vis3 : Int32} {day3 : Int32} {z3 : Int32} {tb : Nat → Int32} {tl : Int32} {rtok : Int32} {rbg : Int32} {ren : Int32} {rvl : Int32} {shn : Nat → Nat → Int32} {shb : Nat → Int32} {shz : Nat → Int32} {isK : Int32} {r0 : Int32} {o_tr1 : Nat → Nat → Int32} {o_fd : Nat → Int32} (C0 : CX (XS ta adK adV) p s m args meth c cX4_change 5 (some .int) RX4 A) : ∀ {tr1 : Nat → Nat → Int32} {fd : Nat → Int32} {H : Heap} {locs : List Loc} {ls : Array Slot}, GX (XS ta adK adV) D (tyC cI cB cG cS) A s (wS cI cB cG cS ad hp1 st1 tr1 sp1 vis1 day1 z1 hp2 st2 tr2 sp2 vis2 day2 z2 hp3 st3 tr3 sp3 vis3 day3 z3 tb tl rtok rbg ren rvl shn shb shz fd isK) H locs → lv_has ls 5 [(0, .ref (ad 0))] → j4_change_26  tr1 vis1 fd = some (r0, o_tr1, o_fd) → W p l e ({ frames := 2, cells := 0, slots := 0, locals := 43 }) s m args below meth c H locs 0 0 (MQ below (QcI D (tyC cI cB cG cS) (wS cI cB cG cS ad hp1 st1 o_tr1 sp1 vis1 day1 z1 hp2 st2 tr2 sp2 vis2 day2 z2 hp3 st3 tr3 sp3 vis3 day3 z3 tb tl rtok rbg ren rvl shn shb shz o_fd isK) A r0) args s 0 0 A) (F0 m 26 ls []) := by
  have hx := C0.1
  have hb := C0.2.1
  have hown := C0.2.2.2.2.1
  have hts := C0.2.2.2.2.2.1
  have hX := C0.2.2.2.2.2.2.2.2
  intro tr1 fd H locs ls G hl hf
  unfold j4_change_26 at hf
  refine lv_aload_n hx hb dX4_change_26 rfl (lv_at hl 0 rfl) ?_
  refine lv_iconst (v := (0 : Int32)) hx hb dX4_change_27 (by decide) ?_
  obtain ⟨r10, fd_11, hc12, hf⟩ := ob2_s hf
  refine go_i C0 G (runV_of (n := 1) (q0 := 0) (As := [.int (0 : Int32)]) (rest := []) C0 G (c4_found hX hc12) q208 q49 q205 q207 q0 o4_found ⟨rfl, rfl⟩ ⟨Nat.le_of_ble_eq_true rfl, Nat.le_of_ble_eq_true rfl⟩ rfl rfl rfl hl.1 rfl (Nat.le_of_ble_eq_true rfl) dX4_change_28) (fun H locs G => ?_)
  obtain ⟨rfl, rfl, rfl⟩ := inj3 hf
  exact ret_i C0 G dX4_change_31
set_option maxHeartbeats 4000000 in
set_option maxRecDepth 100000 in
theorem b4_change_0 {ta adK adV : Nat → Nat} {p : Program} {l : Launch} {e : Env} {s : State} {m : MethodId} {args : Array Value} {below : List Frame} {meth : Method} {c : Code} {D : va_G} {cI cB cG cS : ClassId} {ad : Nat → Nat} {A : Nat → Prop} {hp1 : Nat → Int32} {st1 : Nat → Int32} {sp1 : Nat → Int32} {vis1 : Int32} {day1 : Int32} {z1 : Int32} {hp2 : Nat → Int32} {st2 : Nat → Int32} {tr2 : Nat → Nat → Int32} {sp2 : Nat → Int32} {vis2 : Int32} {day2 : Int32} {z2 : Int32} {hp3 : Nat → Int32} {st3 : Nat → Int32} {tr3 : Nat → Nat → Int32} {sp3 : Nat → Int32} {vis3 : Int32} {day3 : Int32} {z3 : Int32} {tb : Nat → Int32} {tl : Int32} {rtok : Int32} {rbg : Int32} {ren : Int32} {rvl : Int32} {shn : Nat → Nat → Int32} {shb : Nat → Int32} {shz : Nat → Int32} {isK : Int32} {r0 : Int32} {o_tr1 : Nat → Nat → Int32} {o_fd : Nat → Int32} (C0 : CX (XS ta adK adV) p s m args meth c cX4_change 5 (some .int) RX4 A) : ∀ {tr1 : Nat → Nat → Int32} {fd : Nat → Int32} {v1 : Int32} {v2 : Int32} {v3 : Int32} {H : Heap} {locs : List Loc} {ls : Array Slot}, GX (XS ta adK adV) D (tyC cI cB cG cS) A s (wS cI cB cG cS ad hp1 st1 tr1 sp1 vis1 day1 z1 hp2 st2 tr2 sp2 vis2 day2 z2 hp3 st3 tr3 sp3 vis3 day3 z3 tb tl rtok rbg ren rvl shn shb shz fd isK) H locs → lv_has ls 5 [(0, .ref (ad 0)), (1, .int v1), (2, .int v2), (3, .int v3)] → f4_change tr1 vis1 fd v1 v2 v3 = some (r0, o_tr1, o_fd) → W p l e ({ frames := 2, cells := 0, slots := 0, locals := 43 }) s m args below meth c H locs 0 0 (MQ below (QcI D (tyC cI cB cG cS) (wS cI cB cG cS ad hp1 st1 o_tr1 sp1 vis1 day1 z1 hp2 st2 tr2 sp2 vis2 day2 z2 hp3 st3 tr3 sp3 vis3 day3 z3 tb tl rtok rbg ren rvl shn shb shz o_fd isK) A r0) args s 0 0 A) (F0 m 0 ls []) := by
  have hx := C0.1
  have hb := C0.2.1
  have hown := C0.2.2.2.2.1
  have hts := C0.2.2.2.2.2.1
  have hX := C0.2.2.2.2.2.2.2.2
  intro tr1 fd v1 v2 v3 H locs ls G hl hf
  unfold f4_change at hf
  refine lv_aload_n hx hb dX4_change_0 rfl (lv_at hl 0 rfl) ?_
  refine lv_iload_n hx hb dX4_change_1 rfl (lv_at hl 1 rfl) ?_
  refine go_i C0 G (runV_of (n := 1) (q0 := 0) (As := [.int v1]) (rest := []) C0 G (c4_isVisitor hX rfl) q261 q49 q258 q260 q1 o4_isVisitor ⟨rfl, rfl⟩ ⟨Nat.le_of_ble_eq_true rfl, Nat.le_of_ble_eq_true rfl⟩ rfl rfl rfl hl.1 rfl (Nat.le_of_ble_eq_true rfl) dX4_change_2) (fun H locs G => ?_)
  refine lv_if_eq (tgt := 26) hx hb dX4_change_5 (by decide) (fun hc1 => ?_) (fun hc1 => ?_)
  · have hf := itp hc1 hf
    exact b4_change_26 C0  G (lv_sub hl [0] rfl) hf
  · have hf := itn hc1 hf
    refine lv_iload_n hx hb dX4_change_8 rfl (lv_at hl 2 rfl) ?_
    refine lv_iconst (v := (0 : Int32)) hx hb dX4_change_9 (by decide) ?_
    refine lv_bipush (v := (6 : Int32)) hx hb dX4_change_10 (by decide) ?_
    refine go_i C0 G (runS_of (n := 3) (As := [.int v2, .int (0 : Int32), .int (6 : Int32)]) (rest := []) C0 G (c4_within hX rfl) q204 q49 q202 q203 o4_within ⟨rfl, rfl⟩ ⟨Nat.le_of_ble_eq_true rfl, Nat.le_of_ble_eq_true rfl⟩ rfl hl.1 rfl (Nat.le_of_ble_eq_true rfl) dX4_change_12) (fun H locs G => ?_)
    refine lv_if_eq (tgt := 26) hx hb dX4_change_15 (by decide) (fun hc2 => ?_) (fun hc2 => ?_)
    · have hf := itp hc2 hf
      exact b4_change_26 C0  G (lv_sub hl [0] rfl) hf
    · have hf := itn hc2 hf
      refine lv_iload_n hx hb dX4_change_18 rfl (lv_at hl 2 rfl) ?_
      refine lv_iload_n hx hb dX4_change_19 rfl (lv_at hl 3 rfl) ?_
      obtain ⟨r3, hc4, hf⟩ := ob1_s hf
      refine go_i C0 G (runS_of (n := 2) (As := [.int v2, .int v3]) (rest := []) C0 G (c4_isTrait hX hc4) q289 q49 q287 q288 o4_isTrait ⟨rfl, rfl⟩ ⟨Nat.le_of_ble_eq_true rfl, Nat.le_of_ble_eq_true rfl⟩ rfl hl.1 rfl (Nat.le_of_ble_eq_true rfl) dX4_change_20) (fun H locs G => ?_)
      refine lv_if_ne (tgt := 32) hx hb dX4_change_23 (by decide) (fun hc5 => ?_) (fun hc5 => ?_)
      · have hf := itn hc5 hf
        refine lv_aload_n hx hb dX4_change_32 rfl (lv_at hl 0 rfl) ?_
        refine s_get (C := RX4) (T := TX4) C0 G i_X4 0 0 rfl rfl (by decide) q173 rfl dX4_change_33 ?_
        refine s_get (C := RX0) (T := TX0) C0 G i_X0 1 2 rfl rfl (by decide) q88 rfl dX4_change_36 ?_
        refine lv_iload_n hx hb dX4_change_39 rfl (lv_at hl 2 rfl) ?_
        obtain ⟨hi6, hf⟩ := gd_s hf
        refine s_aldg (k := v2.toNatClampNeg) (b := ad (1 + (4 + v2.toNatClampNeg))) C0 G 4 2 rfl rfl (vin hi6) rfl rfl dX4_change_40 ?_
        refine lv_iload_n hx hb dX4_change_41 rfl (lv_at hl 1 rfl) ?_
        obtain ⟨hi7, hf⟩ := gd_s hf
        refine s_iald (k := v1.toNatClampNeg) C0 G (5 + v2.toNatClampNeg) 0 (wS_row1 (inb_lt hi6)) rfl (vin hi7) rfl dX4_change_42 ?_
        refine lv_istore (lv' := [(4, .int ((tr1 v2.toNatClampNeg) v1.toNatClampNeg)), (0, .ref (ad 0)), (1, .int v1), (2, .int v2), (3, .int v3)]) hx hb dX4_change_43 hl (by decide) rfl (fun ls hl => ?_)
        refine lv_aload_n hx hb dX4_change_45 rfl (lv_at hl 1 rfl) ?_
        refine s_get (C := RX4) (T := TX4) C0 G i_X4 0 0 rfl rfl (by decide) q173 rfl dX4_change_46 ?_
        refine s_get (C := RX0) (T := TX0) C0 G i_X0 1 2 rfl rfl (by decide) q88 rfl dX4_change_49 ?_
        refine lv_iload_n hx hb dX4_change_52 rfl (lv_at hl 3 rfl) ?_
        obtain ⟨hi8, hf⟩ := gd_s hf
        refine s_aldg (k := v2.toNatClampNeg) (b := ad (1 + (4 + v2.toNatClampNeg))) C0 G 4 2 rfl rfl (vin hi8) rfl rfl dX4_change_53 ?_
        refine lv_iload_n hx hb dX4_change_54 rfl (lv_at hl 2 rfl) ?_
        refine lv_iload_n hx hb dX4_change_55 rfl (lv_at hl 4 rfl) ?_
        obtain ⟨hi9, hf⟩ := gd_s hf
        refine s_iast (k := v1.toNatClampNeg) (w' := (wS cI cB cG cS ad hp1 st1 (upd2 tr1 v2.toNatClampNeg v1.toNatClampNeg v3) sp1 vis1 day1 z1 hp2 st2 tr2 sp2 vis2 day2 z2 hp3 st3 tr3 sp3 vis3 day3 z3 tb tl rtok rbg ren rvl shn shb shz fd isK)) C0 G (5 + v2.toNatClampNeg) 0 (wS_row1 (inb_lt hi8)) rfl (vin hi9) rfl (wS_set1 (inb_lt hi8)) dX4_change_56 (fun H locs G => ?_)
        refine lv_iload hx hb dX4_change_57 (lv_at hl 0 rfl) ?_
        obtain ⟨rfl, rfl, rfl⟩ := inj3 hf
        exact ret_i C0 G dX4_change_59
      · have hf := itp hc5 hf
        exact b4_change_26 C0  G (lv_sub hl [0] rfl) hf
theorem o4_change : okName yX4_change 3 := ⟨by decide, by decide, by decide +kernel⟩
set_option maxHeartbeats 4000000 in
set_option maxRecDepth 100000 in
theorem c4_change {ta adK adV : Nat → Nat} (hX : XT (XS ta adK adV)) {l : Launch} {D : va_G} {cI cB cG cS : ClassId} {ad : Nat → Nat} {sz : Nat} {hp1 : Nat → Int32} {st1 : Nat → Int32} {tr1 : Nat → Nat → Int32} {sp1 : Nat → Int32} {vis1 : Int32} {day1 : Int32} {z1 : Int32} {hp2 : Nat → Int32} {st2 : Nat → Int32} {tr2 : Nat → Nat → Int32} {sp2 : Nat → Int32} {vis2 : Int32} {day2 : Int32} {z2 : Int32} {hp3 : Nat → Int32} {st3 : Nat → Int32} {tr3 : Nat → Nat → Int32} {sp3 : Nat → Int32} {vis3 : Int32} {day3 : Int32} {z3 : Int32} {tb : Nat → Int32} {tl : Int32} {rtok : Int32} {rbg : Int32} {ren : Int32} {rvl : Int32} {shn : Nat → Nat → Int32} {shb : Nat → Int32} {shz : Nat → Int32} {fd : Nat → Int32} {isK : Int32} {v1 : Int32} {v2 : Int32} {v3 : Int32} {r0 : Int32} {o_tr1 : Nat → Nat → Int32} {o_fd : Nat → Int32} (hf : f4_change tr1 vis1 fd v1 v2 v3 = some (r0, o_tr1, o_fd)) : Met l yX4_change (wU yX4_change cX4_change 5 (some .int)) ({ frames := 2, cells := 0, slots := 0, locals := 43 }) (va_Pc [.ref (ad 0), .int v1, .int v2, .int v3] (PreW (XS ta adK adV) D (tyC cI cB cG cS) (wS cI cB cG cS ad hp1 st1 tr1 sp1 vis1 day1 z1 hp2 st2 tr2 sp2 vis2 day2 z2 hp3 st3 tr3 sp3 vis3 day3 z3 tb tl rtok rbg ren rvl shn shb shz fd isK) sz)) (QcI D (tyC cI cB cG cS) (wS cI cB cG cS ad hp1 st1 o_tr1 sp1 vis1 day1 z1 hp2 st2 tr2 sp2 vis2 day2 z2 hp3 st3 tr3 sp3 vis3 day3 z3 tb tl rtok rbg ren rvl shn shb shz o_fd isK) (va_A (wS cI cB cG cS ad hp1 st1 tr1 sp1 vis1 day1 z1 hp2 st2 tr2 sp2 vis2 day2 z2 hp3 st3 tr3 sp3 vis3 day3 z3 tb tl rtok rbg ren rvl shn shb shz fd isK) sz) r0) 0 0 (va_A (wS cI cB cG cS ad hp1 st1 tr1 sp1 vis1 day1 z1 hp2 st2 tr2 sp2 vis2 day2 z2 hp3 st3 tr3 sp3 vis3 day3 z3 tb tl rtok rbg ren rvl shn shb shz fd isK) sz) := by
  refine startW hX (own := RX4) (by decide) rfl (Nat.le_of_ble_eq_true rfl) (fun p e s m args below meth c ls C0 G hl => ?_)
  exact b4_change_0 C0 G hl hf
/-! 4_come -/
theorem dX4_come_0 : decode cX4_come 0 = .ok (.aload_n 0, 1) := by decide +kernel
theorem dX4_come_1 : decode cX4_come 1 = .ok (.iload_n 1, 1) := by decide +kernel
theorem dX4_come_2 : decode cX4_come 2 = .ok (.invokevirtual 73, 3) := by decide +kernel
theorem dX4_come_5 : decode cX4_come 5 = .ok (.ifCond .ne 9, 3) := by decide +kernel
theorem dX4_come_8 : decode cX4_come 8 = .ok (.aload_n 0, 1) := by decide +kernel
theorem dX4_come_9 : decode cX4_come 9 = .ok (.iconst 0, 1) := by decide +kernel
theorem dX4_come_10 : decode cX4_come 10 = .ok (.invokevirtual 49, 3) := by decide +kernel
theorem dX4_come_13 : decode cX4_come 13 = .ok (.ireturn, 1) := by decide +kernel
theorem dX4_come_14 : decode cX4_come 14 = .ok (.aload_n 0, 1) := by decide +kernel
theorem dX4_come_15 : decode cX4_come 15 = .ok (.getfield 10, 3) := by decide +kernel
theorem dX4_come_18 : decode cX4_come 18 = .ok (.iload_n 1, 1) := by decide +kernel
theorem dX4_come_19 : decode cX4_come 19 = .ok (.invokevirtual 97, 3) := by decide +kernel
theorem dX4_come_22 : decode cX4_come 22 = .ok (.ireturn, 1) := by decide +kernel
def f4_come (hp1 : Nat → Int32) (st1 : Nat → Int32) (tr1 : Nat → Nat → Int32) (vis1 : Int32) (fd : Nat → Int32) (v1 : Int32) : Option (Int32 × (Nat → Int32) × (Nat → Int32) × (Nat → Nat → Int32) × (Nat → Int32)) :=
  if (f4_isVisitor vis1 v1) = (0 : Int32) then (
    ob2 (f4_found fd (0 : Int32)) (fun r7 fd_8 =>
    some (r7, hp1, st1, tr1, fd_8)))
  else (
    ob4 (f0_receive hp1 st1 tr1 v1) (fun r2 hp1_3 st1_4 tr1_5 =>
    some (r2, hp1_3, st1_4, tr1_5, fd)))
set_option maxHeartbeats 4000000 in
set_option maxRecDepth 100000 in
theorem b4_come_0 {ta adK adV : Nat → Nat} {p : Program} {l : Launch} {e : Env} {s : State} {m : MethodId} {args : Array Value} {below : List Frame} {meth : Method} {c : Code} {D : va_G} {cI cB cG cS : ClassId} {ad : Nat → Nat} {A : Nat → Prop} {sp1 : Nat → Int32} {vis1 : Int32} {day1 : Int32} {z1 : Int32} {hp2 : Nat → Int32} {st2 : Nat → Int32} {tr2 : Nat → Nat → Int32} {sp2 : Nat → Int32} {vis2 : Int32} {day2 : Int32} {z2 : Int32} {hp3 : Nat → Int32} {st3 : Nat → Int32} {tr3 : Nat → Nat → Int32} {sp3 : Nat → Int32} {vis3 : Int32} {day3 : Int32} {z3 : Int32} {tb : Nat → Int32} {tl : Int32} {rtok : Int32} {rbg : Int32} {ren : Int32} {rvl : Int32} {shn : Nat → Nat → Int32} {shb : Nat → Int32} {shz : Nat → Int32} {isK : Int32} {r0 : Int32} {o_hp1 : Nat → Int32} {o_st1 : Nat → Int32} {o_tr1 : Nat → Nat → Int32} {o_fd : Nat → Int32} (C0 : CX (XS ta adK adV) p s m args meth c cX4_come 2 (some .int) RX4 A) : ∀ {hp1 : Nat → Int32} {st1 : Nat → Int32} {tr1 : Nat → Nat → Int32} {fd : Nat → Int32} {v1 : Int32} {H : Heap} {locs : List Loc} {ls : Array Slot}, GX (XS ta adK adV) D (tyC cI cB cG cS) A s (wS cI cB cG cS ad hp1 st1 tr1 sp1 vis1 day1 z1 hp2 st2 tr2 sp2 vis2 day2 z2 hp3 st3 tr3 sp3 vis3 day3 z3 tb tl rtok rbg ren rvl shn shb shz fd isK) H locs → lv_has ls 2 [(0, .ref (ad 0)), (1, .int v1)] → f4_come hp1 st1 tr1 vis1 fd v1 = some (r0, o_hp1, o_st1, o_tr1, o_fd) → W p l e ({ frames := 4, cells := 0, slots := 0, locals := 84 }) s m args below meth c H locs 0 0 (MQ below (QcI D (tyC cI cB cG cS) (wS cI cB cG cS ad o_hp1 o_st1 o_tr1 sp1 vis1 day1 z1 hp2 st2 tr2 sp2 vis2 day2 z2 hp3 st3 tr3 sp3 vis3 day3 z3 tb tl rtok rbg ren rvl shn shb shz o_fd isK) A r0) args s 0 0 A) (F0 m 0 ls []) := by
  have hx := C0.1
  have hb := C0.2.1
  have hown := C0.2.2.2.2.1
  have hts := C0.2.2.2.2.2.1
  have hX := C0.2.2.2.2.2.2.2.2
  intro hp1 st1 tr1 fd v1 H locs ls G hl hf
  unfold f4_come at hf
  refine lv_aload_n hx hb dX4_come_0 rfl (lv_at hl 0 rfl) ?_
  refine lv_iload_n hx hb dX4_come_1 rfl (lv_at hl 1 rfl) ?_
  refine go_i C0 G (runV_of (n := 1) (q0 := 0) (As := [.int v1]) (rest := []) C0 G (c4_isVisitor hX rfl) q261 q49 q258 q260 q1 o4_isVisitor ⟨rfl, rfl⟩ ⟨Nat.le_of_ble_eq_true rfl, Nat.le_of_ble_eq_true rfl⟩ rfl rfl rfl hl.1 rfl (Nat.le_of_ble_eq_true rfl) dX4_come_2) (fun H locs G => ?_)
  refine lv_if_ne (tgt := 14) hx hb dX4_come_5 (by decide) (fun hc1 => ?_) (fun hc1 => ?_)
  · have hf := itn hc1 hf
    refine lv_aload_n hx hb dX4_come_14 rfl (lv_at hl 0 rfl) ?_
    refine s_get (C := RX4) (T := TX4) C0 G i_X4 0 0 rfl rfl (by decide) q173 rfl dX4_come_15 ?_
    refine lv_iload_n hx hb dX4_come_18 rfl (lv_at hl 1 rfl) ?_
    obtain ⟨r2, hp1_3, st1_4, tr1_5, hc6, hf⟩ := ob4_s hf
    refine go_i_sub C0 G s_pit1 o_pit1 (runV_sub (n := 1) (q0 := 1) (As := [.int v1]) (rest := []) C0 G s_pit1 (c0_receive hX hc6) q301 q50 q298 q299 q300 o0_receive ⟨rfl, rfl⟩ ⟨Nat.le_of_ble_eq_true rfl, Nat.le_of_ble_eq_true rfl⟩ rfl rfl rfl hl.1 rfl (Nat.le_of_ble_eq_true rfl) dX4_come_19) (fun H locs G => ?_)
    obtain ⟨rfl, rfl, rfl, rfl, rfl⟩ := inj5 hf
    exact ret_i C0 G dX4_come_22
  · have hf := itp hc1 hf
    refine lv_aload_n hx hb dX4_come_8 rfl (lv_at hl 0 rfl) ?_
    refine lv_iconst (v := (0 : Int32)) hx hb dX4_come_9 (by decide) ?_
    obtain ⟨r7, fd_8, hc9, hf⟩ := ob2_s hf
    refine go_i C0 G (runV_of (n := 1) (q0 := 0) (As := [.int (0 : Int32)]) (rest := []) C0 G (c4_found hX hc9) q208 q49 q205 q207 q0 o4_found ⟨rfl, rfl⟩ ⟨Nat.le_of_ble_eq_true rfl, Nat.le_of_ble_eq_true rfl⟩ rfl rfl rfl hl.1 rfl (Nat.le_of_ble_eq_true rfl) dX4_come_10) (fun H locs G => ?_)
    obtain ⟨rfl, rfl, rfl, rfl, rfl⟩ := inj5 hf
    exact ret_i C0 G dX4_come_13
theorem o4_come : okName yX4_come 1 := ⟨by decide, by decide, by decide +kernel⟩
set_option maxHeartbeats 4000000 in
set_option maxRecDepth 100000 in
theorem c4_come {ta adK adV : Nat → Nat} (hX : XT (XS ta adK adV)) {l : Launch} {D : va_G} {cI cB cG cS : ClassId} {ad : Nat → Nat} {sz : Nat} {hp1 : Nat → Int32} {st1 : Nat → Int32} {tr1 : Nat → Nat → Int32} {sp1 : Nat → Int32} {vis1 : Int32} {day1 : Int32} {z1 : Int32} {hp2 : Nat → Int32} {st2 : Nat → Int32} {tr2 : Nat → Nat → Int32} {sp2 : Nat → Int32} {vis2 : Int32} {day2 : Int32} {z2 : Int32} {hp3 : Nat → Int32} {st3 : Nat → Int32} {tr3 : Nat → Nat → Int32} {sp3 : Nat → Int32} {vis3 : Int32} {day3 : Int32} {z3 : Int32} {tb : Nat → Int32} {tl : Int32} {rtok : Int32} {rbg : Int32} {ren : Int32} {rvl : Int32} {shn : Nat → Nat → Int32} {shb : Nat → Int32} {shz : Nat → Int32} {fd : Nat → Int32} {isK : Int32} {v1 : Int32} {r0 : Int32} {o_hp1 : Nat → Int32} {o_st1 : Nat → Int32} {o_tr1 : Nat → Nat → Int32} {o_fd : Nat → Int32} (hf : f4_come hp1 st1 tr1 vis1 fd v1 = some (r0, o_hp1, o_st1, o_tr1, o_fd)) : Met l yX4_come (wU yX4_come cX4_come 2 (some .int)) ({ frames := 4, cells := 0, slots := 0, locals := 84 }) (va_Pc [.ref (ad 0), .int v1] (PreW (XS ta adK adV) D (tyC cI cB cG cS) (wS cI cB cG cS ad hp1 st1 tr1 sp1 vis1 day1 z1 hp2 st2 tr2 sp2 vis2 day2 z2 hp3 st3 tr3 sp3 vis3 day3 z3 tb tl rtok rbg ren rvl shn shb shz fd isK) sz)) (QcI D (tyC cI cB cG cS) (wS cI cB cG cS ad o_hp1 o_st1 o_tr1 sp1 vis1 day1 z1 hp2 st2 tr2 sp2 vis2 day2 z2 hp3 st3 tr3 sp3 vis3 day3 z3 tb tl rtok rbg ren rvl shn shb shz o_fd isK) (va_A (wS cI cB cG cS ad hp1 st1 tr1 sp1 vis1 day1 z1 hp2 st2 tr2 sp2 vis2 day2 z2 hp3 st3 tr3 sp3 vis3 day3 z3 tb tl rtok rbg ren rvl shn shb shz fd isK) sz) r0) 0 0 (va_A (wS cI cB cG cS ad hp1 st1 tr1 sp1 vis1 day1 z1 hp2 st2 tr2 sp2 vis2 day2 z2 hp3 st3 tr3 sp3 vis3 day3 z3 tb tl rtok rbg ren rvl shn shb shz fd isK) sz) := by
  refine startW hX (own := RX4) (by decide) rfl (Nat.le_of_ble_eq_true rfl) (fun p e s m args below meth c ls C0 G hl => ?_)
  exact b4_come_0 C0 G hl hf
/-! 4_go -/
theorem dX4_go_0 : decode cX4_go 0 = .ok (.iload_n 1, 1) := by decide +kernel
theorem dX4_go_1 : decode cX4_go 1 = .ok (.iconst 1, 1) := by decide +kernel
theorem dX4_go_2 : decode cX4_go 2 = .ok (.bipush 60, 2) := by decide +kernel
theorem dX4_go_4 : decode cX4_go 4 = .ok (.invokestatic 45, 3) := by decide +kernel
theorem dX4_go_7 : decode cX4_go 7 = .ok (.ifCond .ne 9, 3) := by decide +kernel
theorem dX4_go_10 : decode cX4_go 10 = .ok (.aload_n 0, 1) := by decide +kernel
theorem dX4_go_11 : decode cX4_go 11 = .ok (.iconst 0, 1) := by decide +kernel
theorem dX4_go_12 : decode cX4_go 12 = .ok (.invokevirtual 49, 3) := by decide +kernel
theorem dX4_go_15 : decode cX4_go 15 = .ok (.ireturn, 1) := by decide +kernel
theorem dX4_go_16 : decode cX4_go 16 = .ok (.aload_n 0, 1) := by decide +kernel
theorem dX4_go_17 : decode cX4_go 17 = .ok (.getfield 10, 3) := by decide +kernel
theorem dX4_go_20 : decode cX4_go 20 = .ok (.getfield 100, 3) := by decide +kernel
theorem dX4_go_23 : decode cX4_go 23 = .ok (.iload_n 1, 1) := by decide +kernel
theorem dX4_go_24 : decode cX4_go 24 = .ok (.iadd, 1) := by decide +kernel
theorem dX4_go_25 : decode cX4_go 25 = .ok (.ldc 104, 2) := by decide +kernel
theorem dX4_go_27 : decode cX4_go 27 = .ok (.if_icmp .le 9, 3) := by decide +kernel
theorem dX4_go_30 : decode cX4_go 30 = .ok (.aload_n 0, 1) := by decide +kernel
theorem dX4_go_31 : decode cX4_go 31 = .ok (.iconst 4, 1) := by decide +kernel
theorem dX4_go_32 : decode cX4_go 32 = .ok (.invokevirtual 49, 3) := by decide +kernel
theorem dX4_go_35 : decode cX4_go 35 = .ok (.ireturn, 1) := by decide +kernel
theorem dX4_go_36 : decode cX4_go 36 = .ok (.aload_n 0, 1) := by decide +kernel
theorem dX4_go_37 : decode cX4_go 37 = .ok (.getfield 10, 3) := by decide +kernel
theorem dX4_go_40 : decode cX4_go 40 = .ok (.iload_n 1, 1) := by decide +kernel
theorem dX4_go_41 : decode cX4_go 41 = .ok (.iconst 0, 1) := by decide +kernel
theorem dX4_go_42 : decode cX4_go 42 = .ok (.invokevirtual 105, 3) := by decide +kernel
theorem dX4_go_45 : decode cX4_go 45 = .ok (.aload_n 0, 1) := by decide +kernel
theorem dX4_go_46 : decode cX4_go 46 = .ok (.getfield 10, 3) := by decide +kernel
theorem dX4_go_49 : decode cX4_go 49 = .ok (.invokevirtual 109, 3) := by decide +kernel
theorem dX4_go_52 : decode cX4_go 52 = .ok (.ireturn, 1) := by decide +kernel
def f4_go (hp1 : Nat → Int32) (st1 : Nat → Int32) (tr1 : Nat → Nat → Int32) (vis1 : Int32) (day1 : Int32) (fd : Nat → Int32) (v1 : Int32) : Option (Int32 × (Nat → Int32) × (Nat → Int32) × (Nat → Nat → Int32) × Int32 × (Nat → Int32)) :=
  if (f4_within v1 (1 : Int32) (60 : Int32)) = (0 : Int32) then (
    ob2 (f4_found fd (0 : Int32)) (fun r13 fd_14 =>
    some (r13, hp1, st1, tr1, day1, fd_14)))
  else (
    if (day1 + v1) ≤ (99999 : Int32) then (
      ob4 (f0_passDays hp1 st1 tr1 vis1 day1 v1 (0 : Int32)) (fun hp1_3 st1_4 tr1_5 day1_6 =>
      ob1 (f0_roadLength hp1_3) (fun r8 =>
      some (r8, hp1_3, st1_4, tr1_5, day1_6, fd))))
    else (
      ob2 (f4_found fd (4 : Int32)) (fun r10 fd_11 =>
      some (r10, hp1, st1, tr1, day1, fd_11))))
set_option maxHeartbeats 4000000 in
set_option maxRecDepth 100000 in
theorem b4_go_0 {ta adK adV : Nat → Nat} {p : Program} {l : Launch} {e : Env} {s : State} {m : MethodId} {args : Array Value} {below : List Frame} {meth : Method} {c : Code} {D : va_G} {cI cB cG cS : ClassId} {ad : Nat → Nat} {A : Nat → Prop} {sp1 : Nat → Int32} {vis1 : Int32} {z1 : Int32} {hp2 : Nat → Int32} {st2 : Nat → Int32} {tr2 : Nat → Nat → Int32} {sp2 : Nat → Int32} {vis2 : Int32} {day2 : Int32} {z2 : Int32} {hp3 : Nat → Int32} {st3 : Nat → Int32} {tr3 : Nat → Nat → Int32} {sp3 : Nat → Int32} {vis3 : Int32} {day3 : Int32} {z3 : Int32} {tb : Nat → Int32} {tl : Int32} {rtok : Int32} {rbg : Int32} {ren : Int32} {rvl : Int32} {shn : Nat → Nat → Int32} {shb : Nat → Int32} {shz : Nat → Int32} {isK : Int32} {r0 : Int32} {o_hp1 : Nat → Int32} {o_st1 : Nat → Int32} {o_tr1 : Nat → Nat → Int32} {o_day1 : Int32} {o_fd : Nat → Int32} (C0 : CX (XS ta adK adV) p s m args meth c cX4_go 2 (some .int) RX4 A) : ∀ {hp1 : Nat → Int32} {st1 : Nat → Int32} {tr1 : Nat → Nat → Int32} {day1 : Int32} {fd : Nat → Int32} {v1 : Int32} {H : Heap} {locs : List Loc} {ls : Array Slot}, GX (XS ta adK adV) D (tyC cI cB cG cS) A s (wS cI cB cG cS ad hp1 st1 tr1 sp1 vis1 day1 z1 hp2 st2 tr2 sp2 vis2 day2 z2 hp3 st3 tr3 sp3 vis3 day3 z3 tb tl rtok rbg ren rvl shn shb shz fd isK) H locs → lv_has ls 2 [(0, .ref (ad 0)), (1, .int v1)] → f4_go hp1 st1 tr1 vis1 day1 fd v1 = some (r0, o_hp1, o_st1, o_tr1, o_day1, o_fd) → W p l e ({ frames := 5, cells := 0, slots := 0, locals := 108 }) s m args below meth c H locs 0 0 (MQ below (QcI D (tyC cI cB cG cS) (wS cI cB cG cS ad o_hp1 o_st1 o_tr1 sp1 vis1 o_day1 z1 hp2 st2 tr2 sp2 vis2 day2 z2 hp3 st3 tr3 sp3 vis3 day3 z3 tb tl rtok rbg ren rvl shn shb shz o_fd isK) A r0) args s 0 0 A) (F0 m 0 ls []) := by
  have hx := C0.1
  have hb := C0.2.1
  have hown := C0.2.2.2.2.1
  have hts := C0.2.2.2.2.2.1
  have hX := C0.2.2.2.2.2.2.2.2
  intro hp1 st1 tr1 day1 fd v1 H locs ls G hl hf
  unfold f4_go at hf
  refine lv_iload_n hx hb dX4_go_0 rfl (lv_at hl 1 rfl) ?_
  refine lv_iconst (v := (1 : Int32)) hx hb dX4_go_1 (by decide) ?_
  refine lv_bipush (v := (60 : Int32)) hx hb dX4_go_2 (by decide) ?_
  refine go_i C0 G (runS_of (n := 3) (As := [.int v1, .int (1 : Int32), .int (60 : Int32)]) (rest := []) C0 G (c4_within hX rfl) q204 q49 q202 q203 o4_within ⟨rfl, rfl⟩ ⟨Nat.le_of_ble_eq_true rfl, Nat.le_of_ble_eq_true rfl⟩ rfl hl.1 rfl (Nat.le_of_ble_eq_true rfl) dX4_go_4) (fun H locs G => ?_)
  refine lv_if_ne (tgt := 16) hx hb dX4_go_7 (by decide) (fun hc1 => ?_) (fun hc1 => ?_)
  · have hf := itn hc1 hf
    refine lv_aload_n hx hb dX4_go_16 rfl (lv_at hl 0 rfl) ?_
    refine s_get (C := RX4) (T := TX4) C0 G i_X4 0 0 rfl rfl (by decide) q173 rfl dX4_go_17 ?_
    refine s_get (C := RX0) (T := TX0) C0 G i_X0 1 5 rfl rfl (by decide) q94 rfl dX4_go_20 ?_
    refine lv_iload_n hx hb dX4_go_23 rfl (lv_at hl 1 rfl) ?_
    refine lv_iadd hx hb dX4_go_24 ?_
    refine lv_ldc (v := (99999 : Int32)) hx hb hown (hts _ q318) dX4_go_25 ?_
    refine lv_icmp_le (tgt := 36) hx hb dX4_go_27 (by decide) (fun hc2 => ?_) (fun hc2 => ?_)
    · have hf := itp hc2 hf
      refine lv_aload_n hx hb dX4_go_36 rfl (lv_at hl 0 rfl) ?_
      refine s_get (C := RX4) (T := TX4) C0 G i_X4 0 0 rfl rfl (by decide) q173 rfl dX4_go_37 ?_
      refine lv_iload_n hx hb dX4_go_40 rfl (lv_at hl 1 rfl) ?_
      refine lv_iconst (v := (0 : Int32)) hx hb dX4_go_41 (by decide) ?_
      obtain ⟨hp1_3, st1_4, tr1_5, day1_6, hc7, hf⟩ := ob4_s hf
      refine go_v_sub C0 G s_pit1 o_pit1 (runV_sub (n := 2) (q0 := 1) (As := [.int v1, .int (0 : Int32)]) (rest := []) C0 G s_pit1 (c0_passDays hX hc7) q322 q50 q319 q320 q321 o0_passDays ⟨rfl, rfl⟩ ⟨Nat.le_of_ble_eq_true rfl, Nat.le_of_ble_eq_true rfl⟩ rfl rfl rfl hl.1 rfl (Nat.le_of_ble_eq_true rfl) dX4_go_42) (fun H locs G => ?_)
      refine lv_aload_n hx hb dX4_go_45 rfl (lv_at hl 0 rfl) ?_
      refine s_get (C := RX4) (T := TX4) C0 G i_X4 0 0 rfl rfl (by decide) q173 rfl dX4_go_46 ?_
      obtain ⟨r8, hc9, hf⟩ := ob1_s hf
      refine go_i_sub C0 G s_pit1 o_pit1 (runV_sub (n := 0) (q0 := 1) (As := []) (rest := []) C0 G s_pit1 (c0_roadLength hX hc9) q344 q50 q341 q342 q343 o0_roadLength ⟨rfl, rfl⟩ ⟨Nat.le_of_ble_eq_true rfl, Nat.le_of_ble_eq_true rfl⟩ rfl rfl rfl hl.1 rfl (Nat.le_of_ble_eq_true rfl) dX4_go_49) (fun H locs G => ?_)
      obtain ⟨rfl, rfl, rfl, rfl, rfl, rfl⟩ := inj6 hf
      exact ret_i C0 G dX4_go_52
    · have hf := itn hc2 hf
      refine lv_aload_n hx hb dX4_go_30 rfl (lv_at hl 0 rfl) ?_
      refine lv_iconst (v := (4 : Int32)) hx hb dX4_go_31 (by decide) ?_
      obtain ⟨r10, fd_11, hc12, hf⟩ := ob2_s hf
      refine go_i C0 G (runV_of (n := 1) (q0 := 0) (As := [.int (4 : Int32)]) (rest := []) C0 G (c4_found hX hc12) q208 q49 q205 q207 q0 o4_found ⟨rfl, rfl⟩ ⟨Nat.le_of_ble_eq_true rfl, Nat.le_of_ble_eq_true rfl⟩ rfl rfl rfl hl.1 rfl (Nat.le_of_ble_eq_true rfl) dX4_go_32) (fun H locs G => ?_)
      obtain ⟨rfl, rfl, rfl, rfl, rfl, rfl⟩ := inj6 hf
      exact ret_i C0 G dX4_go_35
  · have hf := itp hc1 hf
    refine lv_aload_n hx hb dX4_go_10 rfl (lv_at hl 0 rfl) ?_
    refine lv_iconst (v := (0 : Int32)) hx hb dX4_go_11 (by decide) ?_
    obtain ⟨r13, fd_14, hc15, hf⟩ := ob2_s hf
    refine go_i C0 G (runV_of (n := 1) (q0 := 0) (As := [.int (0 : Int32)]) (rest := []) C0 G (c4_found hX hc15) q208 q49 q205 q207 q0 o4_found ⟨rfl, rfl⟩ ⟨Nat.le_of_ble_eq_true rfl, Nat.le_of_ble_eq_true rfl⟩ rfl rfl rfl hl.1 rfl (Nat.le_of_ble_eq_true rfl) dX4_go_12) (fun H locs G => ?_)
    obtain ⟨rfl, rfl, rfl, rfl, rfl, rfl⟩ := inj6 hf
    exact ret_i C0 G dX4_go_15
theorem o4_go : okName yX4_go 1 := ⟨by decide, by decide, by decide +kernel⟩
set_option maxHeartbeats 4000000 in
set_option maxRecDepth 100000 in
theorem c4_go {ta adK adV : Nat → Nat} (hX : XT (XS ta adK adV)) {l : Launch} {D : va_G} {cI cB cG cS : ClassId} {ad : Nat → Nat} {sz : Nat} {hp1 : Nat → Int32} {st1 : Nat → Int32} {tr1 : Nat → Nat → Int32} {sp1 : Nat → Int32} {vis1 : Int32} {day1 : Int32} {z1 : Int32} {hp2 : Nat → Int32} {st2 : Nat → Int32} {tr2 : Nat → Nat → Int32} {sp2 : Nat → Int32} {vis2 : Int32} {day2 : Int32} {z2 : Int32} {hp3 : Nat → Int32} {st3 : Nat → Int32} {tr3 : Nat → Nat → Int32} {sp3 : Nat → Int32} {vis3 : Int32} {day3 : Int32} {z3 : Int32} {tb : Nat → Int32} {tl : Int32} {rtok : Int32} {rbg : Int32} {ren : Int32} {rvl : Int32} {shn : Nat → Nat → Int32} {shb : Nat → Int32} {shz : Nat → Int32} {fd : Nat → Int32} {isK : Int32} {v1 : Int32} {r0 : Int32} {o_hp1 : Nat → Int32} {o_st1 : Nat → Int32} {o_tr1 : Nat → Nat → Int32} {o_day1 : Int32} {o_fd : Nat → Int32} (hf : f4_go hp1 st1 tr1 vis1 day1 fd v1 = some (r0, o_hp1, o_st1, o_tr1, o_day1, o_fd)) : Met l yX4_go (wU yX4_go cX4_go 2 (some .int)) ({ frames := 5, cells := 0, slots := 0, locals := 108 }) (va_Pc [.ref (ad 0), .int v1] (PreW (XS ta adK adV) D (tyC cI cB cG cS) (wS cI cB cG cS ad hp1 st1 tr1 sp1 vis1 day1 z1 hp2 st2 tr2 sp2 vis2 day2 z2 hp3 st3 tr3 sp3 vis3 day3 z3 tb tl rtok rbg ren rvl shn shb shz fd isK) sz)) (QcI D (tyC cI cB cG cS) (wS cI cB cG cS ad o_hp1 o_st1 o_tr1 sp1 vis1 o_day1 z1 hp2 st2 tr2 sp2 vis2 day2 z2 hp3 st3 tr3 sp3 vis3 day3 z3 tb tl rtok rbg ren rvl shn shb shz o_fd isK) (va_A (wS cI cB cG cS ad hp1 st1 tr1 sp1 vis1 day1 z1 hp2 st2 tr2 sp2 vis2 day2 z2 hp3 st3 tr3 sp3 vis3 day3 z3 tb tl rtok rbg ren rvl shn shb shz fd isK) sz) r0) 0 0 (va_A (wS cI cB cG cS ad hp1 st1 tr1 sp1 vis1 day1 z1 hp2 st2 tr2 sp2 vis2 day2 z2 hp3 st3 tr3 sp3 vis3 day3 z3 tb tl rtok rbg ren rvl shn shb shz fd isK) sz) := by
  refine startW hX (own := RX4) (by decide) rfl (Nat.le_of_ble_eq_true rfl) (fun p e s m args below meth c ls C0 G hl => ?_)
  exact b4_go_0 C0 G hl hf
/-! 4_now -/
theorem dX4_now_0 : decode cX4_now 0 = .ok (.iload_n 1, 1) := by decide +kernel
theorem dX4_now_1 : decode cX4_now 1 = .ok (.tableswitch 113 0 7 #[47, 55, 63, 71, 81, 89, 97, 105], 47) := by decide +kernel
theorem dX4_now_48 : decode cX4_now 48 = .ok (.aload_n 0, 1) := by decide +kernel
theorem dX4_now_49 : decode cX4_now 49 = .ok (.getfield 10, 3) := by decide +kernel
theorem dX4_now_52 : decode cX4_now 52 = .ok (.getfield 100, 3) := by decide +kernel
theorem dX4_now_55 : decode cX4_now 55 = .ok (.ireturn, 1) := by decide +kernel
theorem dX4_now_56 : decode cX4_now 56 = .ok (.aload_n 0, 1) := by decide +kernel
theorem dX4_now_57 : decode cX4_now 57 = .ok (.getfield 10, 3) := by decide +kernel
theorem dX4_now_60 : decode cX4_now 60 = .ok (.invokevirtual 109, 3) := by decide +kernel
theorem dX4_now_63 : decode cX4_now 63 = .ok (.ireturn, 1) := by decide +kernel
theorem dX4_now_64 : decode cX4_now 64 = .ok (.aload_n 0, 1) := by decide +kernel
theorem dX4_now_65 : decode cX4_now 65 = .ok (.getfield 10, 3) := by decide +kernel
theorem dX4_now_68 : decode cX4_now 68 = .ok (.invokevirtual 113, 3) := by decide +kernel
theorem dX4_now_71 : decode cX4_now 71 = .ok (.ireturn, 1) := by decide +kernel
theorem dX4_now_72 : decode cX4_now 72 = .ok (.aload_n 0, 1) := by decide +kernel
theorem dX4_now_73 : decode cX4_now 73 = .ok (.getfield 10, 3) := by decide +kernel
theorem dX4_now_76 : decode cX4_now 76 = .ok (.getfield 62, 3) := by decide +kernel
theorem dX4_now_79 : decode cX4_now 79 = .ok (.iconst 0, 1) := by decide +kernel
theorem dX4_now_80 : decode cX4_now 80 = .ok (.iaload, 1) := by decide +kernel
theorem dX4_now_81 : decode cX4_now 81 = .ok (.ireturn, 1) := by decide +kernel
theorem dX4_now_82 : decode cX4_now 82 = .ok (.aload_n 0, 1) := by decide +kernel
theorem dX4_now_83 : decode cX4_now 83 = .ok (.getfield 10, 3) := by decide +kernel
theorem dX4_now_86 : decode cX4_now 86 = .ok (.invokevirtual 116, 3) := by decide +kernel
theorem dX4_now_89 : decode cX4_now 89 = .ok (.ireturn, 1) := by decide +kernel
theorem dX4_now_90 : decode cX4_now 90 = .ok (.aload_n 0, 1) := by decide +kernel
theorem dX4_now_91 : decode cX4_now 91 = .ok (.getfield 10, 3) := by decide +kernel
theorem dX4_now_94 : decode cX4_now 94 = .ok (.invokevirtual 119, 3) := by decide +kernel
theorem dX4_now_97 : decode cX4_now 97 = .ok (.ireturn, 1) := by decide +kernel
theorem dX4_now_98 : decode cX4_now 98 = .ok (.aload_n 0, 1) := by decide +kernel
theorem dX4_now_99 : decode cX4_now 99 = .ok (.getfield 10, 3) := by decide +kernel
theorem dX4_now_102 : decode cX4_now 102 = .ok (.invokevirtual 122, 3) := by decide +kernel
theorem dX4_now_105 : decode cX4_now 105 = .ok (.ireturn, 1) := by decide +kernel
theorem dX4_now_106 : decode cX4_now 106 = .ok (.aload_n 0, 1) := by decide +kernel
theorem dX4_now_107 : decode cX4_now 107 = .ok (.getfield 10, 3) := by decide +kernel
theorem dX4_now_110 : decode cX4_now 110 = .ok (.invokevirtual 125, 3) := by decide +kernel
theorem dX4_now_113 : decode cX4_now 113 = .ok (.ireturn, 1) := by decide +kernel
theorem dX4_now_114 : decode cX4_now 114 = .ok (.aload_n 0, 1) := by decide +kernel
theorem dX4_now_115 : decode cX4_now 115 = .ok (.iconst 0, 1) := by decide +kernel
theorem dX4_now_116 : decode cX4_now 116 = .ok (.invokevirtual 49, 3) := by decide +kernel
theorem dX4_now_119 : decode cX4_now 119 = .ok (.ireturn, 1) := by decide +kernel
def f4_now (hp1 : Nat → Int32) (st1 : Nat → Int32) (tr1 : Nat → Nat → Int32) (vis1 : Int32) (day1 : Int32) (fd : Nat → Int32) (v1 : Int32) : Option (Int32 × (Nat → Int32)) :=
  if v1 = (0 : Int32) then (
    some (day1, fd))
  else
  if v1 = (1 : Int32) then (
    ob1 (f0_roadLength hp1) (fun r3 =>
    some (r3, fd)))
  else
  if v1 = (2 : Int32) then (
    ob1 (f0_sandInAll hp1) (fun r6 =>
    some (r6, fd)))
  else
  if v1 = (3 : Int32) then (
    some ((st1 0), fd))
  else
  if v1 = (4 : Int32) then (
    ob1 (f0_standing hp1 st1 tr1 vis1) (fun r10 =>
    some (r10, fd)))
  else
  if v1 = (5 : Int32) then (
    ob1 (f0_highestCell hp1) (fun r13 =>
    some (r13, fd)))
  else
  if v1 = (6 : Int32) then (
    ob1 (f0_builtInAll tr1 vis1) (fun r16 =>
    some (r16, fd)))
  else
  if v1 = (7 : Int32) then (
    ob1 (f0_comingToday tr1 vis1 day1) (fun r19 =>
    some (r19, fd)))
  else
  ob2 (f4_found fd (0 : Int32)) (fun r21 fd_22 =>
  some (r21, fd_22))
set_option maxHeartbeats 4000000 in
set_option maxRecDepth 100000 in
theorem b4_now_0 {ta adK adV : Nat → Nat} {p : Program} {l : Launch} {e : Env} {s : State} {m : MethodId} {args : Array Value} {below : List Frame} {meth : Method} {c : Code} {D : va_G} {cI cB cG cS : ClassId} {ad : Nat → Nat} {A : Nat → Prop} {hp1 : Nat → Int32} {st1 : Nat → Int32} {tr1 : Nat → Nat → Int32} {sp1 : Nat → Int32} {vis1 : Int32} {day1 : Int32} {z1 : Int32} {hp2 : Nat → Int32} {st2 : Nat → Int32} {tr2 : Nat → Nat → Int32} {sp2 : Nat → Int32} {vis2 : Int32} {day2 : Int32} {z2 : Int32} {hp3 : Nat → Int32} {st3 : Nat → Int32} {tr3 : Nat → Nat → Int32} {sp3 : Nat → Int32} {vis3 : Int32} {day3 : Int32} {z3 : Int32} {tb : Nat → Int32} {tl : Int32} {rtok : Int32} {rbg : Int32} {ren : Int32} {rvl : Int32} {shn : Nat → Nat → Int32} {shb : Nat → Int32} {shz : Nat → Int32} {isK : Int32} {r0 : Int32} {o_fd : Nat → Int32} (C0 : CX (XS ta adK adV) p s m args meth c cX4_now 2 (some .int) RX4 A) : ∀ {fd : Nat → Int32} {v1 : Int32} {H : Heap} {locs : List Loc} {ls : Array Slot}, GX (XS ta adK adV) D (tyC cI cB cG cS) A s (wS cI cB cG cS ad hp1 st1 tr1 sp1 vis1 day1 z1 hp2 st2 tr2 sp2 vis2 day2 z2 hp3 st3 tr3 sp3 vis3 day3 z3 tb tl rtok rbg ren rvl shn shb shz fd isK) H locs → lv_has ls 2 [(0, .ref (ad 0)), (1, .int v1)] → f4_now hp1 st1 tr1 vis1 day1 fd v1 = some (r0, o_fd) → W p l e ({ frames := 4, cells := 0, slots := 0, locals := 82 }) s m args below meth c H locs 0 0 (MQ below (QcI D (tyC cI cB cG cS) (wS cI cB cG cS ad hp1 st1 tr1 sp1 vis1 day1 z1 hp2 st2 tr2 sp2 vis2 day2 z2 hp3 st3 tr3 sp3 vis3 day3 z3 tb tl rtok rbg ren rvl shn shb shz o_fd isK) A r0) args s 0 0 A) (F0 m 0 ls []) := by
  have hx := C0.1
  have hb := C0.2.1
  have hown := C0.2.2.2.2.1
  have hts := C0.2.2.2.2.2.1
  have hX := C0.2.2.2.2.2.2.2.2
  intro fd v1 H locs ls G hl hf
  unfold f4_now at hf
  refine lv_iload_n hx hb dX4_now_0 rfl (lv_at hl 1 rfl) ?_
  by_cases hs1 : v1 = (0 : Int32)
  · have hf := itp hs1 hf
    refine lv_tableIn (tgt := 48) hx hb dX4_now_1 (by rw [hs1]; decide) (by rw [hs1]; decide) (by rw [hs1]; rfl) (by decide) ?_
    refine lv_aload_n hx hb dX4_now_48 rfl (lv_at hl 0 rfl) ?_
    refine s_get (C := RX4) (T := TX4) C0 G i_X4 0 0 rfl rfl (by decide) q173 rfl dX4_now_49 ?_
    refine s_get (C := RX0) (T := TX0) C0 G i_X0 1 5 rfl rfl (by decide) q94 rfl dX4_now_52 ?_
    obtain ⟨rfl, rfl⟩ := inj2 hf
    exact ret_i C0 G dX4_now_55
  have hf := itn hs1 hf
  by_cases hs2 : v1 = (1 : Int32)
  · have hf := itp hs2 hf
    refine lv_tableIn (tgt := 56) hx hb dX4_now_1 (by rw [hs2]; decide) (by rw [hs2]; decide) (by rw [hs2]; rfl) (by decide) ?_
    refine lv_aload_n hx hb dX4_now_56 rfl (lv_at hl 0 rfl) ?_
    refine s_get (C := RX4) (T := TX4) C0 G i_X4 0 0 rfl rfl (by decide) q173 rfl dX4_now_57 ?_
    obtain ⟨r3, hc4, hf⟩ := ob1_s hf
    refine go_i_sub C0 G s_pit1 o_pit1 (runV_sub (n := 0) (q0 := 1) (As := []) (rest := []) C0 G s_pit1 (c0_roadLength hX hc4) q344 q50 q341 q342 q343 o0_roadLength ⟨rfl, rfl⟩ ⟨Nat.le_of_ble_eq_true rfl, Nat.le_of_ble_eq_true rfl⟩ rfl rfl rfl hl.1 rfl (Nat.le_of_ble_eq_true rfl) dX4_now_60) (fun H locs G => ?_)
    obtain ⟨rfl, rfl⟩ := inj2 hf
    exact ret_i C0 G dX4_now_63
  have hf := itn hs2 hf
  by_cases hs5 : v1 = (2 : Int32)
  · have hf := itp hs5 hf
    refine lv_tableIn (tgt := 64) hx hb dX4_now_1 (by rw [hs5]; decide) (by rw [hs5]; decide) (by rw [hs5]; rfl) (by decide) ?_
    refine lv_aload_n hx hb dX4_now_64 rfl (lv_at hl 0 rfl) ?_
    refine s_get (C := RX4) (T := TX4) C0 G i_X4 0 0 rfl rfl (by decide) q173 rfl dX4_now_65 ?_
    obtain ⟨r6, hc7, hf⟩ := ob1_s hf
    refine go_i_sub C0 G s_pit1 o_pit1 (runV_sub (n := 0) (q0 := 1) (As := []) (rest := []) C0 G s_pit1 (c0_sandInAll hX hc7) q352 q50 q349 q350 q351 o0_sandInAll ⟨rfl, rfl⟩ ⟨Nat.le_of_ble_eq_true rfl, Nat.le_of_ble_eq_true rfl⟩ rfl rfl rfl hl.1 rfl (Nat.le_of_ble_eq_true rfl) dX4_now_68) (fun H locs G => ?_)
    obtain ⟨rfl, rfl⟩ := inj2 hf
    exact ret_i C0 G dX4_now_71
  have hf := itn hs5 hf
  by_cases hs8 : v1 = (3 : Int32)
  · have hf := itp hs8 hf
    refine lv_tableIn (tgt := 72) hx hb dX4_now_1 (by rw [hs8]; decide) (by rw [hs8]; decide) (by rw [hs8]; rfl) (by decide) ?_
    refine lv_aload_n hx hb dX4_now_72 rfl (lv_at hl 0 rfl) ?_
    refine s_get (C := RX4) (T := TX4) C0 G i_X4 0 0 rfl rfl (by decide) q173 rfl dX4_now_73 ?_
    refine s_get (C := RX0) (T := TX0) C0 G i_X0 1 1 rfl rfl (by decide) q84 rfl dX4_now_76 ?_
    refine lv_iconst (v := (0 : Int32)) hx hb dX4_now_79 (by decide) ?_
    refine s_iald (k := 0) C0 G 3 0 rfl rfl (vin (by decide)) (by decide) dX4_now_80 ?_
    obtain ⟨rfl, rfl⟩ := inj2 hf
    exact ret_i C0 G dX4_now_81
  have hf := itn hs8 hf
  by_cases hs9 : v1 = (4 : Int32)
  · have hf := itp hs9 hf
    refine lv_tableIn (tgt := 82) hx hb dX4_now_1 (by rw [hs9]; decide) (by rw [hs9]; decide) (by rw [hs9]; rfl) (by decide) ?_
    refine lv_aload_n hx hb dX4_now_82 rfl (lv_at hl 0 rfl) ?_
    refine s_get (C := RX4) (T := TX4) C0 G i_X4 0 0 rfl rfl (by decide) q173 rfl dX4_now_83 ?_
    obtain ⟨r10, hc11, hf⟩ := ob1_s hf
    refine go_i_sub C0 G s_pit1 o_pit1 (runV_sub (n := 0) (q0 := 1) (As := []) (rest := []) C0 G s_pit1 (c0_standing hX hc11) q356 q50 q353 q354 q355 o0_standing ⟨rfl, rfl⟩ ⟨Nat.le_of_ble_eq_true rfl, Nat.le_of_ble_eq_true rfl⟩ rfl rfl rfl hl.1 rfl (Nat.le_of_ble_eq_true rfl) dX4_now_86) (fun H locs G => ?_)
    obtain ⟨rfl, rfl⟩ := inj2 hf
    exact ret_i C0 G dX4_now_89
  have hf := itn hs9 hf
  by_cases hs12 : v1 = (5 : Int32)
  · have hf := itp hs12 hf
    refine lv_tableIn (tgt := 90) hx hb dX4_now_1 (by rw [hs12]; decide) (by rw [hs12]; decide) (by rw [hs12]; rfl) (by decide) ?_
    refine lv_aload_n hx hb dX4_now_90 rfl (lv_at hl 0 rfl) ?_
    refine s_get (C := RX4) (T := TX4) C0 G i_X4 0 0 rfl rfl (by decide) q173 rfl dX4_now_91 ?_
    obtain ⟨r13, hc14, hf⟩ := ob1_s hf
    refine go_i_sub C0 G s_pit1 o_pit1 (runV_sub (n := 0) (q0 := 1) (As := []) (rest := []) C0 G s_pit1 (c0_highestCell hX hc14) q360 q50 q357 q358 q359 o0_highestCell ⟨rfl, rfl⟩ ⟨Nat.le_of_ble_eq_true rfl, Nat.le_of_ble_eq_true rfl⟩ rfl rfl rfl hl.1 rfl (Nat.le_of_ble_eq_true rfl) dX4_now_94) (fun H locs G => ?_)
    obtain ⟨rfl, rfl⟩ := inj2 hf
    exact ret_i C0 G dX4_now_97
  have hf := itn hs12 hf
  by_cases hs15 : v1 = (6 : Int32)
  · have hf := itp hs15 hf
    refine lv_tableIn (tgt := 98) hx hb dX4_now_1 (by rw [hs15]; decide) (by rw [hs15]; decide) (by rw [hs15]; rfl) (by decide) ?_
    refine lv_aload_n hx hb dX4_now_98 rfl (lv_at hl 0 rfl) ?_
    refine s_get (C := RX4) (T := TX4) C0 G i_X4 0 0 rfl rfl (by decide) q173 rfl dX4_now_99 ?_
    obtain ⟨r16, hc17, hf⟩ := ob1_s hf
    refine go_i_sub C0 G s_pit1 o_pit1 (runV_sub (n := 0) (q0 := 1) (As := []) (rest := []) C0 G s_pit1 (c0_builtInAll hX hc17) q364 q50 q361 q362 q363 o0_builtInAll ⟨rfl, rfl⟩ ⟨Nat.le_of_ble_eq_true rfl, Nat.le_of_ble_eq_true rfl⟩ rfl rfl rfl hl.1 rfl (Nat.le_of_ble_eq_true rfl) dX4_now_102) (fun H locs G => ?_)
    obtain ⟨rfl, rfl⟩ := inj2 hf
    exact ret_i C0 G dX4_now_105
  have hf := itn hs15 hf
  by_cases hs18 : v1 = (7 : Int32)
  · have hf := itp hs18 hf
    refine lv_tableIn (tgt := 106) hx hb dX4_now_1 (by rw [hs18]; decide) (by rw [hs18]; decide) (by rw [hs18]; rfl) (by decide) ?_
    refine lv_aload_n hx hb dX4_now_106 rfl (lv_at hl 0 rfl) ?_
    refine s_get (C := RX4) (T := TX4) C0 G i_X4 0 0 rfl rfl (by decide) q173 rfl dX4_now_107 ?_
    obtain ⟨r19, hc20, hf⟩ := ob1_s hf
    refine go_i_sub C0 G s_pit1 o_pit1 (runV_sub (n := 0) (q0 := 1) (As := []) (rest := []) C0 G s_pit1 (c0_comingToday hX hc20) q368 q50 q365 q366 q367 o0_comingToday ⟨rfl, rfl⟩ ⟨Nat.le_of_ble_eq_true rfl, Nat.le_of_ble_eq_true rfl⟩ rfl rfl rfl hl.1 rfl (Nat.le_of_ble_eq_true rfl) dX4_now_110) (fun H locs G => ?_)
    obtain ⟨rfl, rfl⟩ := inj2 hf
    exact ret_i C0 G dX4_now_113
  have hf := itn hs18 hf
  refine lv_tableOut (tgt := 114) hx hb dX4_now_1 (by have := lv_neT (a := 0) hs1 (by decide); have := lv_neT (a := 1) hs2 (by decide); have := lv_neT (a := 2) hs5 (by decide); have := lv_neT (a := 3) hs8 (by decide); have := lv_neT (a := 4) hs9 (by decide); have := lv_neT (a := 5) hs12 (by decide); have := lv_neT (a := 6) hs15 (by decide); have := lv_neT (a := 7) hs18 (by decide); omega) (by decide) ?_
  refine lv_aload_n hx hb dX4_now_114 rfl (lv_at hl 0 rfl) ?_
  refine lv_iconst (v := (0 : Int32)) hx hb dX4_now_115 (by decide) ?_
  obtain ⟨r21, fd_22, hc23, hf⟩ := ob2_s hf
  refine go_i C0 G (runV_of (n := 1) (q0 := 0) (As := [.int (0 : Int32)]) (rest := []) C0 G (c4_found hX hc23) q208 q49 q205 q207 q0 o4_found ⟨rfl, rfl⟩ ⟨Nat.le_of_ble_eq_true rfl, Nat.le_of_ble_eq_true rfl⟩ rfl rfl rfl hl.1 rfl (Nat.le_of_ble_eq_true rfl) dX4_now_116) (fun H locs G => ?_)
  obtain ⟨rfl, rfl⟩ := inj2 hf
  exact ret_i C0 G dX4_now_119
theorem o4_now : okName yX4_now 1 := ⟨by decide, by decide, by decide +kernel⟩
set_option maxHeartbeats 4000000 in
set_option maxRecDepth 100000 in
theorem c4_now {ta adK adV : Nat → Nat} (hX : XT (XS ta adK adV)) {l : Launch} {D : va_G} {cI cB cG cS : ClassId} {ad : Nat → Nat} {sz : Nat} {hp1 : Nat → Int32} {st1 : Nat → Int32} {tr1 : Nat → Nat → Int32} {sp1 : Nat → Int32} {vis1 : Int32} {day1 : Int32} {z1 : Int32} {hp2 : Nat → Int32} {st2 : Nat → Int32} {tr2 : Nat → Nat → Int32} {sp2 : Nat → Int32} {vis2 : Int32} {day2 : Int32} {z2 : Int32} {hp3 : Nat → Int32} {st3 : Nat → Int32} {tr3 : Nat → Nat → Int32} {sp3 : Nat → Int32} {vis3 : Int32} {day3 : Int32} {z3 : Int32} {tb : Nat → Int32} {tl : Int32} {rtok : Int32} {rbg : Int32} {ren : Int32} {rvl : Int32} {shn : Nat → Nat → Int32} {shb : Nat → Int32} {shz : Nat → Int32} {fd : Nat → Int32} {isK : Int32} {v1 : Int32} {r0 : Int32} {o_fd : Nat → Int32} (hf : f4_now hp1 st1 tr1 vis1 day1 fd v1 = some (r0, o_fd)) : Met l yX4_now (wU yX4_now cX4_now 2 (some .int)) ({ frames := 4, cells := 0, slots := 0, locals := 82 }) (va_Pc [.ref (ad 0), .int v1] (PreW (XS ta adK adV) D (tyC cI cB cG cS) (wS cI cB cG cS ad hp1 st1 tr1 sp1 vis1 day1 z1 hp2 st2 tr2 sp2 vis2 day2 z2 hp3 st3 tr3 sp3 vis3 day3 z3 tb tl rtok rbg ren rvl shn shb shz fd isK) sz)) (QcI D (tyC cI cB cG cS) (wS cI cB cG cS ad hp1 st1 tr1 sp1 vis1 day1 z1 hp2 st2 tr2 sp2 vis2 day2 z2 hp3 st3 tr3 sp3 vis3 day3 z3 tb tl rtok rbg ren rvl shn shb shz o_fd isK) (va_A (wS cI cB cG cS ad hp1 st1 tr1 sp1 vis1 day1 z1 hp2 st2 tr2 sp2 vis2 day2 z2 hp3 st3 tr3 sp3 vis3 day3 z3 tb tl rtok rbg ren rvl shn shb shz fd isK) sz) r0) 0 0 (va_A (wS cI cB cG cS ad hp1 st1 tr1 sp1 vis1 day1 z1 hp2 st2 tr2 sp2 vis2 day2 z2 hp3 st3 tr3 sp3 vis3 day3 z3 tb tl rtok rbg ren rvl shn shb shz fd isK) sz) := by
  refine startW hX (own := RX4) (by decide) rfl (Nat.le_of_ble_eq_true rfl) (fun p e s m args below meth c ls C0 G hl => ?_)
  exact b4_now_0 C0 G hl hf
/-! 0_become -/
theorem dX0_become_0 : decode cX0_become 0 = .ok (.aload_n 1, 1) := by decide +kernel
theorem dX0_become_1 : decode cX0_become 1 = .ok (.getfield 9, 3) := by decide +kernel
theorem dX0_become_4 : decode cX0_become 4 = .ok (.iconst 0, 1) := by decide +kernel
theorem dX0_become_5 : decode cX0_become 5 = .ok (.aload_n 0, 1) := by decide +kernel
theorem dX0_become_6 : decode cX0_become 6 = .ok (.getfield 9, 3) := by decide +kernel
theorem dX0_become_9 : decode cX0_become 9 = .ok (.iconst 0, 1) := by decide +kernel
theorem dX0_become_10 : decode cX0_become 10 = .ok (.bipush 16, 2) := by decide +kernel
theorem dX0_become_12 : decode cX0_become 12 = .ok (.invokestatic 33, 3) := by decide +kernel
theorem dX0_become_15 : decode cX0_become 15 = .ok (.aload_n 1, 1) := by decide +kernel
theorem dX0_become_16 : decode cX0_become 16 = .ok (.getfield 15, 3) := by decide +kernel
theorem dX0_become_19 : decode cX0_become 19 = .ok (.iconst 0, 1) := by decide +kernel
theorem dX0_become_20 : decode cX0_become 20 = .ok (.aload_n 0, 1) := by decide +kernel
theorem dX0_become_21 : decode cX0_become 21 = .ok (.getfield 15, 3) := by decide +kernel
theorem dX0_become_24 : decode cX0_become 24 = .ok (.iconst 0, 1) := by decide +kernel
theorem dX0_become_25 : decode cX0_become 25 = .ok (.iconst 3, 1) := by decide +kernel
theorem dX0_become_26 : decode cX0_become 26 = .ok (.invokestatic 33, 3) := by decide +kernel
theorem dX0_become_29 : decode cX0_become 29 = .ok (.iconst 0, 1) := by decide +kernel
theorem dX0_become_30 : decode cX0_become 30 = .ok (.istore_n 2, 1) := by decide +kernel
theorem dX0_become_31 : decode cX0_become 31 = .ok (.iload_n 2, 1) := by decide +kernel
theorem dX0_become_32 : decode cX0_become 32 = .ok (.bipush 7, 2) := by decide +kernel
theorem dX0_become_34 : decode cX0_become 34 = .ok (.if_icmp .ge 28, 3) := by decide +kernel
theorem dX0_become_37 : decode cX0_become 37 = .ok (.aload_n 1, 1) := by decide +kernel
theorem dX0_become_38 : decode cX0_become 38 = .ok (.getfield 20, 3) := by decide +kernel
theorem dX0_become_41 : decode cX0_become 41 = .ok (.iload_n 2, 1) := by decide +kernel
theorem dX0_become_42 : decode cX0_become 42 = .ok (.aaload, 1) := by decide +kernel
theorem dX0_become_43 : decode cX0_become 43 = .ok (.iconst 0, 1) := by decide +kernel
theorem dX0_become_44 : decode cX0_become 44 = .ok (.aload_n 0, 1) := by decide +kernel
theorem dX0_become_45 : decode cX0_become 45 = .ok (.getfield 20, 3) := by decide +kernel
theorem dX0_become_48 : decode cX0_become 48 = .ok (.iload_n 2, 1) := by decide +kernel
theorem dX0_become_49 : decode cX0_become 49 = .ok (.aaload, 1) := by decide +kernel
theorem dX0_become_50 : decode cX0_become 50 = .ok (.iconst 0, 1) := by decide +kernel
theorem dX0_become_51 : decode cX0_become 51 = .ok (.bipush 8, 2) := by decide +kernel
theorem dX0_become_53 : decode cX0_become 53 = .ok (.invokestatic 33, 3) := by decide +kernel
theorem dX0_become_56 : decode cX0_become 56 = .ok (.iinc 2 1, 3) := by decide +kernel
theorem dX0_become_59 : decode cX0_become 59 = .ok (.goto (-28), 3) := by decide +kernel
theorem dX0_become_62 : decode cX0_become 62 = .ok (.aload_n 1, 1) := by decide +kernel
theorem dX0_become_63 : decode cX0_become 63 = .ok (.getfield 23, 3) := by decide +kernel
theorem dX0_become_66 : decode cX0_become 66 = .ok (.iconst 0, 1) := by decide +kernel
theorem dX0_become_67 : decode cX0_become 67 = .ok (.aload_n 0, 1) := by decide +kernel
theorem dX0_become_68 : decode cX0_become 68 = .ok (.getfield 23, 3) := by decide +kernel
theorem dX0_become_71 : decode cX0_become 71 = .ok (.iconst 0, 1) := by decide +kernel
theorem dX0_become_72 : decode cX0_become 72 = .ok (.bipush 10, 2) := by decide +kernel
theorem dX0_become_74 : decode cX0_become 74 = .ok (.invokestatic 33, 3) := by decide +kernel
theorem dX0_become_77 : decode cX0_become 77 = .ok (.aload_n 0, 1) := by decide +kernel
theorem dX0_become_78 : decode cX0_become 78 = .ok (.aload_n 1, 1) := by decide +kernel
theorem dX0_become_79 : decode cX0_become 79 = .ok (.getfield 39, 3) := by decide +kernel
theorem dX0_become_82 : decode cX0_become 82 = .ok (.putfield 39, 3) := by decide +kernel
theorem dX0_become_85 : decode cX0_become 85 = .ok (.aload_n 0, 1) := by decide +kernel
theorem dX0_become_86 : decode cX0_become 86 = .ok (.aload_n 1, 1) := by decide +kernel
theorem dX0_become_87 : decode cX0_become 87 = .ok (.getfield 42, 3) := by decide +kernel
theorem dX0_become_90 : decode cX0_become 90 = .ok (.putfield 42, 3) := by decide +kernel
theorem dX0_become_93 : decode cX0_become 93 = .ok (.aload_n 0, 1) := by decide +kernel
theorem dX0_become_94 : decode cX0_become 94 = .ok (.aload_n 1, 1) := by decide +kernel
theorem dX0_become_95 : decode cX0_become 95 = .ok (.getfield 26, 3) := by decide +kernel
theorem dX0_become_98 : decode cX0_become 98 = .ok (.putfield 26, 3) := by decide +kernel
theorem dX0_become_101 : decode cX0_become 101 = .ok (.return_, 1) := by decide +kernel
def l0_become_31  : Nat → (Nat → Int32) → (Nat → Int32) → (Nat → Nat → Int32) → (Nat → Int32) → Int32 → Int32 → Int32 → (Nat → Int32) → (Nat → Int32) → (Nat → Nat → Int32) → (Nat → Int32) → Int32 → Int32 → Int32 → Int32 → Option ((Nat → Int32) × (Nat → Int32) × (Nat → Nat → Int32) × (Nat → Int32) × Int32 × Int32 × Int32)
  | 0, _, _, _, _, _, _, _, _, _, _, _, _, _, _, _ => none
  | n + 1, hp1, st1, tr1, sp1, vis1, day1, z1, hp2, st2, tr2, sp2, vis2, day2, z2, v2 =>
    if (7 : Int32) ≤ v2 then (
      some (hp1, st1, tr1, sp2, vis2, day2, z2))
    else (
      gd (inb v2 7) (
      gd (inb v2 7) (
      (l0_become_31 n) hp1 st1 (updR tr1 v2.toNatClampNeg (tr2 v2.toNatClampNeg)) sp1 vis1 day1 z1 hp2 st2 tr2 sp2 vis2 day2 z2 (v2 + (1 : Int32)))))
def f0_become (hp1 : Nat → Int32) (st1 : Nat → Int32) (tr1 : Nat → Nat → Int32) (sp1 : Nat → Int32) (vis1 : Int32) (day1 : Int32) (z1 : Int32) (hp2 : Nat → Int32) (st2 : Nat → Int32) (tr2 : Nat → Nat → Int32) (sp2 : Nat → Int32) (vis2 : Int32) (day2 : Int32) (z2 : Int32)  : Option ((Nat → Int32) × (Nat → Int32) × (Nat → Nat → Int32) × (Nat → Int32) × Int32 × Int32 × Int32) :=
  l0_become_31 1000 hp2 st2 tr1 sp1 vis1 day1 z1 hp2 st2 tr2 sp2 vis2 day2 z2 (0 : Int32)
set_option maxHeartbeats 4000000 in
set_option maxRecDepth 100000 in
theorem b0_become_31 {ta adK adV : Nat → Nat} {p : Program} {l : Launch} {e : Env} {s : State} {m : MethodId} {args : Array Value} {below : List Frame} {meth : Method} {c : Code} {D : va_G} {cI cB cG cS : ClassId} {ad ae : Nat → Nat} {A : Nat → Prop} {hp2 : Nat → Int32} {st2 : Nat → Int32} {tr2 : Nat → Nat → Int32} {sp2 : Nat → Int32} {vis2 : Int32} {day2 : Int32} {z2 : Int32} {o_hp1 : Nat → Int32} {o_st1 : Nat → Int32} {o_tr1 : Nat → Nat → Int32} {o_sp1 : Nat → Int32} {o_vis1 : Int32} {o_day1 : Int32} {o_z1 : Int32} (C0 : CX (XS ta adK adV) p s m args meth c cX0_become 3 none RX0 A) : ∀ (n : Nat) {hp1 : Nat → Int32} {st1 : Nat → Int32} {tr1 : Nat → Nat → Int32} {sp1 : Nat → Int32} {vis1 : Int32} {day1 : Int32} {z1 : Int32} {v2 : Int32} {H : Heap} {locs : List Loc} {ls : Array Slot}, GX (XS ta adK adV) D (tyC cI cB cG cS) A s (wPP cI cG ad ae hp1 st1 tr1 sp1 vis1 day1 z1 hp2 st2 tr2 sp2 vis2 day2 z2) H locs → lv_has ls 3 [(0, .ref (ad 0)), (1, .ref (ae 0)), (2, .int v2)] → l0_become_31  n hp1 st1 tr1 sp1 vis1 day1 z1 hp2 st2 tr2 sp2 vis2 day2 z2 v2 = some (o_hp1, o_st1, o_tr1, o_sp1, o_vis1, o_day1, o_z1) → W p l e ({ frames := 1, cells := 0, slots := 0, locals := 60 }) s m args below meth c H locs 0 0 (MQ below (QcV D (tyC cI cB cG cS) (wPP cI cG ad ae o_hp1 o_st1 o_tr1 o_sp1 o_vis1 o_day1 o_z1 hp2 st2 tr2 sp2 vis2 day2 z2) A) args s 0 0 A) (F0 m 31 ls []) := by
  have hx := C0.1
  have hb := C0.2.1
  have hown := C0.2.2.2.2.1
  have hts := C0.2.2.2.2.2.1
  have hX := C0.2.2.2.2.2.2.2.2
  intro n
  induction n with
  | zero =>
    intro _ _ _ _ _ _ _ _ _ _ _ G hl hf
    cases hf
  | succ n ih =>
    intro hp1 st1 tr1 sp1 vis1 day1 z1 v2 H locs ls G hl hf
    rw [l0_become_31] at hf
    refine lv_iload_n hx hb dX0_become_31 rfl (lv_at hl 2 rfl) ?_
    refine lv_bipush (v := (7 : Int32)) hx hb dX0_become_32 (by decide) ?_
    refine lv_icmp_ge (tgt := 62) hx hb dX0_become_34 (by decide) (fun hc1 => ?_) (fun hc1 => ?_)
    · have hf := itp hc1 hf
      refine lv_aload_n hx hb dX0_become_62 rfl (lv_at hl 1 rfl) ?_
      refine s_get (C := RX0) (T := TX0) C0 G i_X0 12 3 rfl rfl (by decide) q89 rfl dX0_become_63 ?_
      refine lv_iconst (v := (0 : Int32)) hx hb dX0_become_66 (by decide) ?_
      refine lv_aload_n hx hb dX0_become_67 rfl (lv_at hl 0 rfl) ?_
      refine s_get (C := RX0) (T := TX0) C0 G i_X0 0 3 rfl rfl (by decide) q89 rfl dX0_become_68 ?_
      refine lv_iconst (v := (0 : Int32)) hx hb dX0_become_71 (by decide) ?_
      refine lv_bipush (v := (10 : Int32)) hx hb dX0_become_72 (by decide) ?_
      refine s_cpy (ks := 0) (kd := 0) (kn := 10) (f' := sp2) (w' := (wPP cI cG ad ae hp1 st1 tr1 sp2 vis1 day1 z1 hp2 st2 tr2 sp2 vis2 day2 z2)) C0 G hl.1 q377 23 11 0 rfl rfl rfl rfl (by decide) (by decide) (by decide) (by decide) (by decide) (by decide) (by decide) (by decide) cpy_all rfl ⟨Nat.le_of_ble_eq_true rfl, Nat.le_of_ble_eq_true rfl⟩ dX0_become_74 (fun H locs G => ?_)
      refine lv_aload_n hx hb dX0_become_77 rfl (lv_at hl 0 rfl) ?_
      refine lv_aload_n hx hb dX0_become_78 rfl (lv_at hl 1 rfl) ?_
      refine s_get (C := RX0) (T := TX0) C0 G i_X0 12 4 rfl rfl (by decide) q91 rfl dX0_become_79 ?_
      refine s_put (C := RX0) (T := TX0) (w' := (wPP cI cG ad ae hp1 st1 tr1 sp2 vis2 day1 z1 hp2 st2 tr2 sp2 vis2 day2 z2)) C0 G i_X0 tyX0 tyX0_ok nmX0 0 4 rfl rfl (by decide) q91 rfl (ty := .int) (by decide +kernel) rfl rfl (Nat.le_of_ble_eq_true rfl) rfl dX0_become_82 (fun H locs G => ?_)
      refine lv_aload_n hx hb dX0_become_85 rfl (lv_at hl 0 rfl) ?_
      refine lv_aload_n hx hb dX0_become_86 rfl (lv_at hl 1 rfl) ?_
      refine s_get (C := RX0) (T := TX0) C0 G i_X0 12 5 rfl rfl (by decide) q93 rfl dX0_become_87 ?_
      refine s_put (C := RX0) (T := TX0) (w' := (wPP cI cG ad ae hp1 st1 tr1 sp2 vis2 day2 z1 hp2 st2 tr2 sp2 vis2 day2 z2)) C0 G i_X0 tyX0 tyX0_ok nmX0 0 5 rfl rfl (by decide) q93 rfl (ty := .int) (by decide +kernel) rfl rfl (Nat.le_of_ble_eq_true rfl) rfl dX0_become_90 (fun H locs G => ?_)
      refine lv_aload_n hx hb dX0_become_93 rfl (lv_at hl 0 rfl) ?_
      refine lv_aload_n hx hb dX0_become_94 rfl (lv_at hl 1 rfl) ?_
      refine s_get (C := RX0) (T := TX0) C0 G i_X0 12 6 rfl rfl (by decide) q95 rfl dX0_become_95 ?_
      refine s_put (C := RX0) (T := TX0) (w' := (wPP cI cG ad ae hp1 st1 tr1 sp2 vis2 day2 z2 hp2 st2 tr2 sp2 vis2 day2 z2)) C0 G i_X0 tyX0 tyX0_ok nmX0 0 6 rfl rfl (by decide) q95 rfl (ty := .int) (by decide +kernel) rfl rfl (Nat.le_of_ble_eq_true rfl) rfl dX0_become_98 (fun H locs G => ?_)
      obtain ⟨rfl, rfl, rfl, rfl, rfl, rfl, rfl⟩ := inj7 hf
      exact ret_v C0 G dX0_become_101
    · have hf := itn hc1 hf
      refine lv_aload_n hx hb dX0_become_37 rfl (lv_at hl 1 rfl) ?_
      refine s_get (C := RX0) (T := TX0) C0 G i_X0 12 2 rfl rfl (by decide) q86 rfl dX0_become_38 ?_
      refine lv_iload_n hx hb dX0_become_41 rfl (lv_at hl 2 rfl) ?_
      obtain ⟨hi2, hf⟩ := gd_s hf
      refine s_aldg (k := v2.toNatClampNeg) (b := ae (4 + v2.toNatClampNeg)) C0 G 15 2 rfl rfl (vin hi2) rfl rfl dX0_become_42 ?_
      refine lv_iconst (v := (0 : Int32)) hx hb dX0_become_43 (by decide) ?_
      refine lv_aload_n hx hb dX0_become_44 rfl (lv_at hl 0 rfl) ?_
      refine s_get (C := RX0) (T := TX0) C0 G i_X0 0 2 rfl rfl (by decide) q86 rfl dX0_become_45 ?_
      refine lv_iload_n hx hb dX0_become_48 rfl (lv_at hl 2 rfl) ?_
      obtain ⟨hi3, hf⟩ := gd_s hf
      refine s_aldg (k := v2.toNatClampNeg) (b := ad (4 + v2.toNatClampNeg)) C0 G 3 2 rfl rfl (vin hi3) rfl rfl dX0_become_49 ?_
      refine lv_iconst (v := (0 : Int32)) hx hb dX0_become_50 (by decide) ?_
      refine lv_bipush (v := (8 : Int32)) hx hb dX0_become_51 (by decide) ?_
      refine s_cpy (ks := 0) (kd := 0) (kn := 8) (f' := (tr2 v2.toNatClampNeg)) (w' := (wPP cI cG ad ae hp1 st1 (updR tr1 v2.toNatClampNeg (tr2 v2.toNatClampNeg)) sp1 vis1 day1 z1 hp2 st2 tr2 sp2 vis2 day2 z2)) C0 G hl.1 q377 (16 + v2.toNatClampNeg) (4 + v2.toNatClampNeg) 0 (wPP_row2 (inb_lt hi2)) (wPP_row1 (inb_lt hi3)) rfl rfl (by decide) (by decide) (by decide) (by decide) (by decide) (by decide) (by decide) (by decide) cpy_all (wPP_setR (inb_lt hi3)) ⟨Nat.le_of_ble_eq_true rfl, Nat.le_of_ble_eq_true rfl⟩ dX0_become_53 (fun H locs G => ?_)
      refine lv_iinc (v := (v2 + (1 : Int32))) (lv' := [(2, .int (v2 + (1 : Int32))), (0, .ref (ad 0)), (1, .ref (ae 0))]) hx hb dX0_become_56 hl (k := 2) rfl rfl (by decide) rfl (fun ls hl => ?_)
      refine lv_goto (tgt := 31) hx hb dX0_become_59 (by decide) ?_
      exact ih G (lv_sub hl [1, 2, 0] rfl) hf
set_option maxHeartbeats 4000000 in
set_option maxRecDepth 100000 in
theorem b0_become_0 {ta adK adV : Nat → Nat} {p : Program} {l : Launch} {e : Env} {s : State} {m : MethodId} {args : Array Value} {below : List Frame} {meth : Method} {c : Code} {D : va_G} {cI cB cG cS : ClassId} {ad ae : Nat → Nat} {A : Nat → Prop} {hp2 : Nat → Int32} {st2 : Nat → Int32} {tr2 : Nat → Nat → Int32} {sp2 : Nat → Int32} {vis2 : Int32} {day2 : Int32} {z2 : Int32} {o_hp1 : Nat → Int32} {o_st1 : Nat → Int32} {o_tr1 : Nat → Nat → Int32} {o_sp1 : Nat → Int32} {o_vis1 : Int32} {o_day1 : Int32} {o_z1 : Int32} (C0 : CX (XS ta adK adV) p s m args meth c cX0_become 3 none RX0 A) : ∀ {hp1 : Nat → Int32} {st1 : Nat → Int32} {tr1 : Nat → Nat → Int32} {sp1 : Nat → Int32} {vis1 : Int32} {day1 : Int32} {z1 : Int32} {H : Heap} {locs : List Loc} {ls : Array Slot}, GX (XS ta adK adV) D (tyC cI cB cG cS) A s (wPP cI cG ad ae hp1 st1 tr1 sp1 vis1 day1 z1 hp2 st2 tr2 sp2 vis2 day2 z2) H locs → lv_has ls 3 [(0, .ref (ad 0)), (1, .ref (ae 0))] → f0_become hp1 st1 tr1 sp1 vis1 day1 z1 hp2 st2 tr2 sp2 vis2 day2 z2 = some (o_hp1, o_st1, o_tr1, o_sp1, o_vis1, o_day1, o_z1) → W p l e ({ frames := 1, cells := 0, slots := 0, locals := 60 }) s m args below meth c H locs 0 0 (MQ below (QcV D (tyC cI cB cG cS) (wPP cI cG ad ae o_hp1 o_st1 o_tr1 o_sp1 o_vis1 o_day1 o_z1 hp2 st2 tr2 sp2 vis2 day2 z2) A) args s 0 0 A) (F0 m 0 ls []) := by
  have hx := C0.1
  have hb := C0.2.1
  have hown := C0.2.2.2.2.1
  have hts := C0.2.2.2.2.2.1
  have hX := C0.2.2.2.2.2.2.2.2
  intro hp1 st1 tr1 sp1 vis1 day1 z1 H locs ls G hl hf
  unfold f0_become at hf
  refine lv_aload_n hx hb dX0_become_0 rfl (lv_at hl 1 rfl) ?_
  refine s_get (C := RX0) (T := TX0) C0 G i_X0 12 0 rfl rfl (by decide) q80 rfl dX0_become_1 ?_
  refine lv_iconst (v := (0 : Int32)) hx hb dX0_become_4 (by decide) ?_
  refine lv_aload_n hx hb dX0_become_5 rfl (lv_at hl 0 rfl) ?_
  refine s_get (C := RX0) (T := TX0) C0 G i_X0 0 0 rfl rfl (by decide) q80 rfl dX0_become_6 ?_
  refine lv_iconst (v := (0 : Int32)) hx hb dX0_become_9 (by decide) ?_
  refine lv_bipush (v := (16 : Int32)) hx hb dX0_become_10 (by decide) ?_
  refine s_cpy (ks := 0) (kd := 0) (kn := 16) (f' := hp2) (w' := (wPP cI cG ad ae hp2 st1 tr1 sp1 vis1 day1 z1 hp2 st2 tr2 sp2 vis2 day2 z2)) C0 G hl.1 q377 13 1 0 rfl rfl rfl rfl (by decide) (by decide) (by decide) (by decide) (by decide) (by decide) (by decide) (by decide) cpy_all rfl ⟨Nat.le_of_ble_eq_true rfl, Nat.le_of_ble_eq_true rfl⟩ dX0_become_12 (fun H locs G => ?_)
  refine lv_aload_n hx hb dX0_become_15 rfl (lv_at hl 1 rfl) ?_
  refine s_get (C := RX0) (T := TX0) C0 G i_X0 12 1 rfl rfl (by decide) q83 rfl dX0_become_16 ?_
  refine lv_iconst (v := (0 : Int32)) hx hb dX0_become_19 (by decide) ?_
  refine lv_aload_n hx hb dX0_become_20 rfl (lv_at hl 0 rfl) ?_
  refine s_get (C := RX0) (T := TX0) C0 G i_X0 0 1 rfl rfl (by decide) q83 rfl dX0_become_21 ?_
  refine lv_iconst (v := (0 : Int32)) hx hb dX0_become_24 (by decide) ?_
  refine lv_iconst (v := (3 : Int32)) hx hb dX0_become_25 (by decide) ?_
  refine s_cpy (ks := 0) (kd := 0) (kn := 3) (f' := st2) (w' := (wPP cI cG ad ae hp2 st2 tr1 sp1 vis1 day1 z1 hp2 st2 tr2 sp2 vis2 day2 z2)) C0 G hl.1 q377 14 2 0 rfl rfl rfl rfl (by decide) (by decide) (by decide) (by decide) (by decide) (by decide) (by decide) (by decide) cpy_all rfl ⟨Nat.le_of_ble_eq_true rfl, Nat.le_of_ble_eq_true rfl⟩ dX0_become_26 (fun H locs G => ?_)
  refine lv_iconst (v := (0 : Int32)) hx hb dX0_become_29 (by decide) ?_
  refine lv_istore_n (lv' := [(2, .int (0 : Int32)), (0, .ref (ad 0)), (1, .ref (ae 0))]) hx hb dX0_become_30 rfl hl (by decide) rfl (fun ls hl => ?_)
  exact b0_become_31 C0  1000 G (lv_sub hl [1, 2, 0] rfl) hf
theorem o0_become : okName yX0_become 1 := ⟨by decide, by decide, by decide +kernel⟩
set_option maxHeartbeats 4000000 in
set_option maxRecDepth 100000 in
theorem c0_become {ta adK adV : Nat → Nat} (hX : XT (XS ta adK adV)) {l : Launch} {D : va_G} {cI cB cG cS : ClassId} {ad ae : Nat → Nat} {sz : Nat} {hp1 : Nat → Int32} {st1 : Nat → Int32} {tr1 : Nat → Nat → Int32} {sp1 : Nat → Int32} {vis1 : Int32} {day1 : Int32} {z1 : Int32} {hp2 : Nat → Int32} {st2 : Nat → Int32} {tr2 : Nat → Nat → Int32} {sp2 : Nat → Int32} {vis2 : Int32} {day2 : Int32} {z2 : Int32}  {o_hp1 : Nat → Int32} {o_st1 : Nat → Int32} {o_tr1 : Nat → Nat → Int32} {o_sp1 : Nat → Int32} {o_vis1 : Int32} {o_day1 : Int32} {o_z1 : Int32} (hf : f0_become hp1 st1 tr1 sp1 vis1 day1 z1 hp2 st2 tr2 sp2 vis2 day2 z2 = some (o_hp1, o_st1, o_tr1, o_sp1, o_vis1, o_day1, o_z1)) : Met l yX0_become (wU yX0_become cX0_become 3 none) ({ frames := 1, cells := 0, slots := 0, locals := 60 }) (va_Pc [.ref (ad 0), .ref (ae 0)] (PreW (XS ta adK adV) D (tyC cI cB cG cS) (wPP cI cG ad ae hp1 st1 tr1 sp1 vis1 day1 z1 hp2 st2 tr2 sp2 vis2 day2 z2) sz)) (QcV D (tyC cI cB cG cS) (wPP cI cG ad ae o_hp1 o_st1 o_tr1 o_sp1 o_vis1 o_day1 o_z1 hp2 st2 tr2 sp2 vis2 day2 z2) (va_A (wPP cI cG ad ae hp1 st1 tr1 sp1 vis1 day1 z1 hp2 st2 tr2 sp2 vis2 day2 z2) sz)) 0 0 (va_A (wPP cI cG ad ae hp1 st1 tr1 sp1 vis1 day1 z1 hp2 st2 tr2 sp2 vis2 day2 z2) sz) := by
  refine startW hX (own := RX0) (by decide) rfl (Nat.le_of_ble_eq_true rfl) (fun p e s m args below meth c ls C0 G hl => ?_)
  exact b0_become_0 C0 G hl hf
/-! 4_high -/
theorem dX4_high_0 : decode cX4_high 0 = .ok (.iload_n 1, 1) := by decide +kernel
theorem dX4_high_1 : decode cX4_high 1 = .ok (.iconst 0, 1) := by decide +kernel
theorem dX4_high_2 : decode cX4_high 2 = .ok (.bipush 15, 2) := by decide +kernel
theorem dX4_high_4 : decode cX4_high 4 = .ok (.invokestatic 45, 3) := by decide +kernel
theorem dX4_high_7 : decode cX4_high 7 = .ok (.ifCond .eq 13, 3) := by decide +kernel
theorem dX4_high_10 : decode cX4_high 10 = .ok (.iload_n 2, 1) := by decide +kernel
theorem dX4_high_11 : decode cX4_high 11 = .ok (.iconst 0, 1) := by decide +kernel
theorem dX4_high_12 : decode cX4_high 12 = .ok (.bipush 100, 2) := by decide +kernel
theorem dX4_high_14 : decode cX4_high 14 = .ok (.invokestatic 45, 3) := by decide +kernel
theorem dX4_high_17 : decode cX4_high 17 = .ok (.ifCond .ne 9, 3) := by decide +kernel
theorem dX4_high_20 : decode cX4_high 20 = .ok (.aload_n 0, 1) := by decide +kernel
theorem dX4_high_21 : decode cX4_high 21 = .ok (.iconst 0, 1) := by decide +kernel
theorem dX4_high_22 : decode cX4_high 22 = .ok (.invokevirtual 49, 3) := by decide +kernel
theorem dX4_high_25 : decode cX4_high 25 = .ok (.ireturn, 1) := by decide +kernel
theorem dX4_high_26 : decode cX4_high 26 = .ok (.aload_n 0, 1) := by decide +kernel
theorem dX4_high_27 : decode cX4_high 27 = .ok (.getfield 19, 3) := by decide +kernel
theorem dX4_high_30 : decode cX4_high 30 = .ok (.aload_n 0, 1) := by decide +kernel
theorem dX4_high_31 : decode cX4_high 31 = .ok (.getfield 10, 3) := by decide +kernel
theorem dX4_high_34 : decode cX4_high 34 = .ok (.invokevirtual 128, 3) := by decide +kernel
theorem dX4_high_37 : decode cX4_high 37 = .ok (.aload_n 0, 1) := by decide +kernel
theorem dX4_high_38 : decode cX4_high 38 = .ok (.getfield 19, 3) := by decide +kernel
theorem dX4_high_41 : decode cX4_high 41 = .ok (.iload_n 2, 1) := by decide +kernel
theorem dX4_high_42 : decode cX4_high 42 = .ok (.iconst 0, 1) := by decide +kernel
theorem dX4_high_43 : decode cX4_high 43 = .ok (.invokevirtual 105, 3) := by decide +kernel
theorem dX4_high_46 : decode cX4_high 46 = .ok (.aload_n 0, 1) := by decide +kernel
theorem dX4_high_47 : decode cX4_high 47 = .ok (.getfield 19, 3) := by decide +kernel
theorem dX4_high_50 : decode cX4_high 50 = .ok (.getfield 53, 3) := by decide +kernel
theorem dX4_high_53 : decode cX4_high 53 = .ok (.iload_n 1, 1) := by decide +kernel
theorem dX4_high_54 : decode cX4_high 54 = .ok (.iaload, 1) := by decide +kernel
theorem dX4_high_55 : decode cX4_high 55 = .ok (.ireturn, 1) := by decide +kernel
def j4_high_20  (hp1 : Nat → Int32) (st1 : Nat → Int32) (tr1 : Nat → Nat → Int32) (sp1 : Nat → Int32) (vis1 : Int32) (day1 : Int32) (z1 : Int32) (hp3 : Nat → Int32) (st3 : Nat → Int32) (tr3 : Nat → Nat → Int32) (sp3 : Nat → Int32) (vis3 : Int32) (day3 : Int32) (z3 : Int32) (fd : Nat → Int32)  : Option (Int32 × (Nat → Int32) × (Nat → Int32) × (Nat → Nat → Int32) × (Nat → Int32) × Int32 × Int32 × Int32 × (Nat → Int32)) :=
  ob2 (f4_found fd (0 : Int32)) (fun r17 fd_18 =>
  some (r17, hp3, st3, tr3, sp3, vis3, day3, z3, fd_18))
def f4_high (hp1 : Nat → Int32) (st1 : Nat → Int32) (tr1 : Nat → Nat → Int32) (sp1 : Nat → Int32) (vis1 : Int32) (day1 : Int32) (z1 : Int32) (hp3 : Nat → Int32) (st3 : Nat → Int32) (tr3 : Nat → Nat → Int32) (sp3 : Nat → Int32) (vis3 : Int32) (day3 : Int32) (z3 : Int32) (fd : Nat → Int32) (v1 : Int32) (v2 : Int32) : Option (Int32 × (Nat → Int32) × (Nat → Int32) × (Nat → Nat → Int32) × (Nat → Int32) × Int32 × Int32 × Int32 × (Nat → Int32)) :=
  if (f4_within v1 (0 : Int32) (15 : Int32)) = (0 : Int32) then (
    j4_high_20 hp1 st1 tr1 sp1 vis1 day1 z1 hp3 st3 tr3 sp3 vis3 day3 z3 fd)
  else (
    if (f4_within v2 (0 : Int32) (100 : Int32)) = (0 : Int32) then (
      j4_high_20 hp1 st1 tr1 sp1 vis1 day1 z1 hp3 st3 tr3 sp3 vis3 day3 z3 fd)
    else (
      ob7 (f0_become hp3 st3 tr3 sp3 vis3 day3 z3 hp1 st1 tr1 sp1 vis1 day1 z1) (fun hp3_3 st3_4 tr3_5 sp3_6 vis3_7 day3_8 z3_9 =>
      ob4 (f0_passDays hp3_3 st3_4 tr3_5 vis3_7 day3_8 v2 (0 : Int32)) (fun hp3_11 st3_12 tr3_13 day3_14 =>
      gd (inb v1 16) (
      some ((hp3_11 v1.toNatClampNeg), hp3_11, st3_12, tr3_13, sp3_6, vis3_7, day3_14, z3_9, fd))))))
set_option maxHeartbeats 4000000 in
set_option maxRecDepth 100000 in
theorem b4_high_20 {ta adK adV : Nat → Nat} {p : Program} {l : Launch} {e : Env} {s : State} {m : MethodId} {args : Array Value} {below : List Frame} {meth : Method} {c : Code} {D : va_G} {cI cB cG cS : ClassId} {ad : Nat → Nat} {A : Nat → Prop} {hp1 : Nat → Int32} {st1 : Nat → Int32} {tr1 : Nat → Nat → Int32} {sp1 : Nat → Int32} {vis1 : Int32} {day1 : Int32} {z1 : Int32} {hp2 : Nat → Int32} {st2 : Nat → Int32} {tr2 : Nat → Nat → Int32} {sp2 : Nat → Int32} {vis2 : Int32} {day2 : Int32} {z2 : Int32} {tb : Nat → Int32} {tl : Int32} {rtok : Int32} {rbg : Int32} {ren : Int32} {rvl : Int32} {shn : Nat → Nat → Int32} {shb : Nat → Int32} {shz : Nat → Int32} {isK : Int32} {r0 : Int32} {o_hp3 : Nat → Int32} {o_st3 : Nat → Int32} {o_tr3 : Nat → Nat → Int32} {o_sp3 : Nat → Int32} {o_vis3 : Int32} {o_day3 : Int32} {o_z3 : Int32} {o_fd : Nat → Int32} (C0 : CX (XS ta adK adV) p s m args meth c cX4_high 3 (some .int) RX4 A) : ∀ {hp3 : Nat → Int32} {st3 : Nat → Int32} {tr3 : Nat → Nat → Int32} {sp3 : Nat → Int32} {vis3 : Int32} {day3 : Int32} {z3 : Int32} {fd : Nat → Int32} {H : Heap} {locs : List Loc} {ls : Array Slot}, GX (XS ta adK adV) D (tyC cI cB cG cS) A s (wS cI cB cG cS ad hp1 st1 tr1 sp1 vis1 day1 z1 hp2 st2 tr2 sp2 vis2 day2 z2 hp3 st3 tr3 sp3 vis3 day3 z3 tb tl rtok rbg ren rvl shn shb shz fd isK) H locs → lv_has ls 3 [(0, .ref (ad 0))] → j4_high_20  hp1 st1 tr1 sp1 vis1 day1 z1 hp3 st3 tr3 sp3 vis3 day3 z3 fd = some (r0, o_hp3, o_st3, o_tr3, o_sp3, o_vis3, o_day3, o_z3, o_fd) → W p l e ({ frames := 5, cells := 0, slots := 0, locals := 108 }) s m args below meth c H locs 0 0 (MQ below (QcI D (tyC cI cB cG cS) (wS cI cB cG cS ad hp1 st1 tr1 sp1 vis1 day1 z1 hp2 st2 tr2 sp2 vis2 day2 z2 o_hp3 o_st3 o_tr3 o_sp3 o_vis3 o_day3 o_z3 tb tl rtok rbg ren rvl shn shb shz o_fd isK) A r0) args s 0 0 A) (F0 m 20 ls []) := by
  have hx := C0.1
  have hb := C0.2.1
  have hown := C0.2.2.2.2.1
  have hts := C0.2.2.2.2.2.1
  have hX := C0.2.2.2.2.2.2.2.2
  intro hp3 st3 tr3 sp3 vis3 day3 z3 fd H locs ls G hl hf
  unfold j4_high_20 at hf
  refine lv_aload_n hx hb dX4_high_20 rfl (lv_at hl 0 rfl) ?_
  refine lv_iconst (v := (0 : Int32)) hx hb dX4_high_21 (by decide) ?_
  obtain ⟨r17, fd_18, hc19, hf⟩ := ob2_s hf
  refine go_i C0 G (runV_of (n := 1) (q0 := 0) (As := [.int (0 : Int32)]) (rest := []) C0 G (c4_found hX hc19) q208 q49 q205 q207 q0 o4_found ⟨rfl, rfl⟩ ⟨Nat.le_of_ble_eq_true rfl, Nat.le_of_ble_eq_true rfl⟩ rfl rfl rfl hl.1 rfl (Nat.le_of_ble_eq_true rfl) dX4_high_22) (fun H locs G => ?_)
  obtain ⟨rfl, rfl, rfl, rfl, rfl, rfl, rfl, rfl, rfl⟩ := inj9 hf
  exact ret_i C0 G dX4_high_25
set_option maxHeartbeats 4000000 in
set_option maxRecDepth 100000 in
theorem b4_high_0 {ta adK adV : Nat → Nat} {p : Program} {l : Launch} {e : Env} {s : State} {m : MethodId} {args : Array Value} {below : List Frame} {meth : Method} {c : Code} {D : va_G} {cI cB cG cS : ClassId} {ad : Nat → Nat} {A : Nat → Prop} {hp1 : Nat → Int32} {st1 : Nat → Int32} {tr1 : Nat → Nat → Int32} {sp1 : Nat → Int32} {vis1 : Int32} {day1 : Int32} {z1 : Int32} {hp2 : Nat → Int32} {st2 : Nat → Int32} {tr2 : Nat → Nat → Int32} {sp2 : Nat → Int32} {vis2 : Int32} {day2 : Int32} {z2 : Int32} {tb : Nat → Int32} {tl : Int32} {rtok : Int32} {rbg : Int32} {ren : Int32} {rvl : Int32} {shn : Nat → Nat → Int32} {shb : Nat → Int32} {shz : Nat → Int32} {isK : Int32} {r0 : Int32} {o_hp3 : Nat → Int32} {o_st3 : Nat → Int32} {o_tr3 : Nat → Nat → Int32} {o_sp3 : Nat → Int32} {o_vis3 : Int32} {o_day3 : Int32} {o_z3 : Int32} {o_fd : Nat → Int32} (C0 : CX (XS ta adK adV) p s m args meth c cX4_high 3 (some .int) RX4 A) : ∀ {hp3 : Nat → Int32} {st3 : Nat → Int32} {tr3 : Nat → Nat → Int32} {sp3 : Nat → Int32} {vis3 : Int32} {day3 : Int32} {z3 : Int32} {fd : Nat → Int32} {v1 : Int32} {v2 : Int32} {H : Heap} {locs : List Loc} {ls : Array Slot}, GX (XS ta adK adV) D (tyC cI cB cG cS) A s (wS cI cB cG cS ad hp1 st1 tr1 sp1 vis1 day1 z1 hp2 st2 tr2 sp2 vis2 day2 z2 hp3 st3 tr3 sp3 vis3 day3 z3 tb tl rtok rbg ren rvl shn shb shz fd isK) H locs → lv_has ls 3 [(0, .ref (ad 0)), (1, .int v1), (2, .int v2)] → f4_high hp1 st1 tr1 sp1 vis1 day1 z1 hp3 st3 tr3 sp3 vis3 day3 z3 fd v1 v2 = some (r0, o_hp3, o_st3, o_tr3, o_sp3, o_vis3, o_day3, o_z3, o_fd) → W p l e ({ frames := 5, cells := 0, slots := 0, locals := 108 }) s m args below meth c H locs 0 0 (MQ below (QcI D (tyC cI cB cG cS) (wS cI cB cG cS ad hp1 st1 tr1 sp1 vis1 day1 z1 hp2 st2 tr2 sp2 vis2 day2 z2 o_hp3 o_st3 o_tr3 o_sp3 o_vis3 o_day3 o_z3 tb tl rtok rbg ren rvl shn shb shz o_fd isK) A r0) args s 0 0 A) (F0 m 0 ls []) := by
  have hx := C0.1
  have hb := C0.2.1
  have hown := C0.2.2.2.2.1
  have hts := C0.2.2.2.2.2.1
  have hX := C0.2.2.2.2.2.2.2.2
  intro hp3 st3 tr3 sp3 vis3 day3 z3 fd v1 v2 H locs ls G hl hf
  unfold f4_high at hf
  refine lv_iload_n hx hb dX4_high_0 rfl (lv_at hl 1 rfl) ?_
  refine lv_iconst (v := (0 : Int32)) hx hb dX4_high_1 (by decide) ?_
  refine lv_bipush (v := (15 : Int32)) hx hb dX4_high_2 (by decide) ?_
  refine go_i C0 G (runS_of (n := 3) (As := [.int v1, .int (0 : Int32), .int (15 : Int32)]) (rest := []) C0 G (c4_within hX rfl) q204 q49 q202 q203 o4_within ⟨rfl, rfl⟩ ⟨Nat.le_of_ble_eq_true rfl, Nat.le_of_ble_eq_true rfl⟩ rfl hl.1 rfl (Nat.le_of_ble_eq_true rfl) dX4_high_4) (fun H locs G => ?_)
  refine lv_if_eq (tgt := 20) hx hb dX4_high_7 (by decide) (fun hc1 => ?_) (fun hc1 => ?_)
  · have hf := itp hc1 hf
    exact b4_high_20 C0  G (lv_sub hl [0] rfl) hf
  · have hf := itn hc1 hf
    refine lv_iload_n hx hb dX4_high_10 rfl (lv_at hl 2 rfl) ?_
    refine lv_iconst (v := (0 : Int32)) hx hb dX4_high_11 (by decide) ?_
    refine lv_bipush (v := (100 : Int32)) hx hb dX4_high_12 (by decide) ?_
    refine go_i C0 G (runS_of (n := 3) (As := [.int v2, .int (0 : Int32), .int (100 : Int32)]) (rest := []) C0 G (c4_within hX rfl) q204 q49 q202 q203 o4_within ⟨rfl, rfl⟩ ⟨Nat.le_of_ble_eq_true rfl, Nat.le_of_ble_eq_true rfl⟩ rfl hl.1 rfl (Nat.le_of_ble_eq_true rfl) dX4_high_14) (fun H locs G => ?_)
    refine lv_if_ne (tgt := 26) hx hb dX4_high_17 (by decide) (fun hc2 => ?_) (fun hc2 => ?_)
    · have hf := itn hc2 hf
      refine lv_aload_n hx hb dX4_high_26 rfl (lv_at hl 0 rfl) ?_
      refine s_get (C := RX4) (T := TX4) C0 G i_X4 0 2 rfl rfl (by decide) q175 rfl dX4_high_27 ?_
      refine lv_aload_n hx hb dX4_high_30 rfl (lv_at hl 0 rfl) ?_
      refine s_get (C := RX4) (T := TX4) C0 G i_X4 0 0 rfl rfl (by decide) q173 rfl dX4_high_31 ?_
      obtain ⟨hp3_3, st3_4, tr3_5, sp3_6, vis3_7, day3_8, z3_9, hc10, hf⟩ := ob7_s hf
      refine go_v_sub C0 G s_pp31 o_pp31 (runV_sub (n := 1) (q0 := 25) (As := [.ref (ad 1)]) (rest := []) C0 G s_pp31 (c0_become hX (ad := fun k => ad (25 + k)) (ae := fun k => ad (1 + k))  hc10) q376 q50 q373 q374 q375 o0_become ⟨rfl, rfl⟩ ⟨Nat.le_of_ble_eq_true rfl, Nat.le_of_ble_eq_true rfl⟩ rfl rfl rfl hl.1 rfl (Nat.le_of_ble_eq_true rfl) dX4_high_34) (fun H locs G => ?_)
      refine lv_aload_n hx hb dX4_high_37 rfl (lv_at hl 0 rfl) ?_
      refine s_get (C := RX4) (T := TX4) C0 G i_X4 0 2 rfl rfl (by decide) q175 rfl dX4_high_38 ?_
      refine lv_iload_n hx hb dX4_high_41 rfl (lv_at hl 2 rfl) ?_
      refine lv_iconst (v := (0 : Int32)) hx hb dX4_high_42 (by decide) ?_
      obtain ⟨hp3_11, st3_12, tr3_13, day3_14, hc15, hf⟩ := ob4_s hf
      refine go_v_sub C0 G s_pit3 o_pit3 (runV_sub (n := 2) (q0 := 25) (As := [.int v2, .int (0 : Int32)]) (rest := []) C0 G s_pit3 (c0_passDays hX hc15) q322 q50 q319 q320 q321 o0_passDays ⟨rfl, rfl⟩ ⟨Nat.le_of_ble_eq_true rfl, Nat.le_of_ble_eq_true rfl⟩ rfl rfl rfl hl.1 rfl (Nat.le_of_ble_eq_true rfl) dX4_high_43) (fun H locs G => ?_)
      refine lv_aload_n hx hb dX4_high_46 rfl (lv_at hl 0 rfl) ?_
      refine s_get (C := RX4) (T := TX4) C0 G i_X4 0 2 rfl rfl (by decide) q175 rfl dX4_high_47 ?_
      refine s_get (C := RX0) (T := TX0) C0 G i_X0 25 0 rfl rfl (by decide) q81 rfl dX4_high_50 ?_
      refine lv_iload_n hx hb dX4_high_53 rfl (lv_at hl 1 rfl) ?_
      obtain ⟨hi16, hf⟩ := gd_s hf
      refine s_iald (k := v1.toNatClampNeg) C0 G 26 0 rfl rfl (vin hi16) rfl dX4_high_54 ?_
      obtain ⟨rfl, rfl, rfl, rfl, rfl, rfl, rfl, rfl, rfl⟩ := inj9 hf
      exact ret_i C0 G dX4_high_55
    · have hf := itp hc2 hf
      exact b4_high_20 C0  G (lv_sub hl [0] rfl) hf
theorem o4_high : okName yX4_high 2 := ⟨by decide, by decide, by decide +kernel⟩
set_option maxHeartbeats 4000000 in
set_option maxRecDepth 100000 in
theorem c4_high {ta adK adV : Nat → Nat} (hX : XT (XS ta adK adV)) {l : Launch} {D : va_G} {cI cB cG cS : ClassId} {ad : Nat → Nat} {sz : Nat} {hp1 : Nat → Int32} {st1 : Nat → Int32} {tr1 : Nat → Nat → Int32} {sp1 : Nat → Int32} {vis1 : Int32} {day1 : Int32} {z1 : Int32} {hp2 : Nat → Int32} {st2 : Nat → Int32} {tr2 : Nat → Nat → Int32} {sp2 : Nat → Int32} {vis2 : Int32} {day2 : Int32} {z2 : Int32} {hp3 : Nat → Int32} {st3 : Nat → Int32} {tr3 : Nat → Nat → Int32} {sp3 : Nat → Int32} {vis3 : Int32} {day3 : Int32} {z3 : Int32} {tb : Nat → Int32} {tl : Int32} {rtok : Int32} {rbg : Int32} {ren : Int32} {rvl : Int32} {shn : Nat → Nat → Int32} {shb : Nat → Int32} {shz : Nat → Int32} {fd : Nat → Int32} {isK : Int32} {v1 : Int32} {v2 : Int32} {r0 : Int32} {o_hp3 : Nat → Int32} {o_st3 : Nat → Int32} {o_tr3 : Nat → Nat → Int32} {o_sp3 : Nat → Int32} {o_vis3 : Int32} {o_day3 : Int32} {o_z3 : Int32} {o_fd : Nat → Int32} (hf : f4_high hp1 st1 tr1 sp1 vis1 day1 z1 hp3 st3 tr3 sp3 vis3 day3 z3 fd v1 v2 = some (r0, o_hp3, o_st3, o_tr3, o_sp3, o_vis3, o_day3, o_z3, o_fd)) : Met l yX4_high (wU yX4_high cX4_high 3 (some .int)) ({ frames := 5, cells := 0, slots := 0, locals := 108 }) (va_Pc [.ref (ad 0), .int v1, .int v2] (PreW (XS ta adK adV) D (tyC cI cB cG cS) (wS cI cB cG cS ad hp1 st1 tr1 sp1 vis1 day1 z1 hp2 st2 tr2 sp2 vis2 day2 z2 hp3 st3 tr3 sp3 vis3 day3 z3 tb tl rtok rbg ren rvl shn shb shz fd isK) sz)) (QcI D (tyC cI cB cG cS) (wS cI cB cG cS ad hp1 st1 tr1 sp1 vis1 day1 z1 hp2 st2 tr2 sp2 vis2 day2 z2 o_hp3 o_st3 o_tr3 o_sp3 o_vis3 o_day3 o_z3 tb tl rtok rbg ren rvl shn shb shz o_fd isK) (va_A (wS cI cB cG cS ad hp1 st1 tr1 sp1 vis1 day1 z1 hp2 st2 tr2 sp2 vis2 day2 z2 hp3 st3 tr3 sp3 vis3 day3 z3 tb tl rtok rbg ren rvl shn shb shz fd isK) sz) r0) 0 0 (va_A (wS cI cB cG cS ad hp1 st1 tr1 sp1 vis1 day1 z1 hp2 st2 tr2 sp2 vis2 day2 z2 hp3 st3 tr3 sp3 vis3 day3 z3 tb tl rtok rbg ren rvl shn shb shz fd isK) sz) := by
  refine startW hX (own := RX4) (by decide) rfl (Nat.le_of_ble_eq_true rfl) (fun p e s m args below meth c ls C0 G hl => ?_)
  exact b4_high_0 C0 G hl hf
/-! 4_built -/
theorem dX4_built_0 : decode cX4_built 0 = .ok (.aload_n 0, 1) := by decide +kernel
theorem dX4_built_1 : decode cX4_built 1 = .ok (.iload_n 1, 1) := by decide +kernel
theorem dX4_built_2 : decode cX4_built 2 = .ok (.invokevirtual 73, 3) := by decide +kernel
theorem dX4_built_5 : decode cX4_built 5 = .ok (.ifCond .eq 13, 3) := by decide +kernel
theorem dX4_built_8 : decode cX4_built 8 = .ok (.iload_n 2, 1) := by decide +kernel
theorem dX4_built_9 : decode cX4_built 9 = .ok (.iconst 0, 1) := by decide +kernel
theorem dX4_built_10 : decode cX4_built 10 = .ok (.bipush 100, 2) := by decide +kernel
theorem dX4_built_12 : decode cX4_built 12 = .ok (.invokestatic 45, 3) := by decide +kernel
theorem dX4_built_15 : decode cX4_built 15 = .ok (.ifCond .ne 9, 3) := by decide +kernel
theorem dX4_built_18 : decode cX4_built 18 = .ok (.aload_n 0, 1) := by decide +kernel
theorem dX4_built_19 : decode cX4_built 19 = .ok (.iconst 0, 1) := by decide +kernel
theorem dX4_built_20 : decode cX4_built 20 = .ok (.invokevirtual 49, 3) := by decide +kernel
theorem dX4_built_23 : decode cX4_built 23 = .ok (.ireturn, 1) := by decide +kernel
theorem dX4_built_24 : decode cX4_built 24 = .ok (.aload_n 0, 1) := by decide +kernel
theorem dX4_built_25 : decode cX4_built 25 = .ok (.getfield 19, 3) := by decide +kernel
theorem dX4_built_28 : decode cX4_built 28 = .ok (.aload_n 0, 1) := by decide +kernel
theorem dX4_built_29 : decode cX4_built 29 = .ok (.getfield 10, 3) := by decide +kernel
theorem dX4_built_32 : decode cX4_built 32 = .ok (.invokevirtual 128, 3) := by decide +kernel
theorem dX4_built_35 : decode cX4_built 35 = .ok (.aload_n 0, 1) := by decide +kernel
theorem dX4_built_36 : decode cX4_built 36 = .ok (.getfield 19, 3) := by decide +kernel
theorem dX4_built_39 : decode cX4_built 39 = .ok (.iload_n 2, 1) := by decide +kernel
theorem dX4_built_40 : decode cX4_built 40 = .ok (.iconst 0, 1) := by decide +kernel
theorem dX4_built_41 : decode cX4_built 41 = .ok (.invokevirtual 105, 3) := by decide +kernel
theorem dX4_built_44 : decode cX4_built 44 = .ok (.aload_n 0, 1) := by decide +kernel
theorem dX4_built_45 : decode cX4_built 45 = .ok (.getfield 19, 3) := by decide +kernel
theorem dX4_built_48 : decode cX4_built 48 = .ok (.getfield 89, 3) := by decide +kernel
theorem dX4_built_51 : decode cX4_built 51 = .ok (.bipush 6, 2) := by decide +kernel
theorem dX4_built_53 : decode cX4_built 53 = .ok (.aaload, 1) := by decide +kernel
theorem dX4_built_54 : decode cX4_built 54 = .ok (.iload_n 1, 1) := by decide +kernel
theorem dX4_built_55 : decode cX4_built 55 = .ok (.iaload, 1) := by decide +kernel
theorem dX4_built_56 : decode cX4_built 56 = .ok (.ireturn, 1) := by decide +kernel
def j4_built_18  (hp1 : Nat → Int32) (st1 : Nat → Int32) (tr1 : Nat → Nat → Int32) (sp1 : Nat → Int32) (vis1 : Int32) (day1 : Int32) (z1 : Int32) (hp3 : Nat → Int32) (st3 : Nat → Int32) (tr3 : Nat → Nat → Int32) (sp3 : Nat → Int32) (vis3 : Int32) (day3 : Int32) (z3 : Int32) (fd : Nat → Int32)  : Option (Int32 × (Nat → Int32) × (Nat → Int32) × (Nat → Nat → Int32) × (Nat → Int32) × Int32 × Int32 × Int32 × (Nat → Int32)) :=
  ob2 (f4_found fd (0 : Int32)) (fun r17 fd_18 =>
  some (r17, hp3, st3, tr3, sp3, vis3, day3, z3, fd_18))
def f4_built (hp1 : Nat → Int32) (st1 : Nat → Int32) (tr1 : Nat → Nat → Int32) (sp1 : Nat → Int32) (vis1 : Int32) (day1 : Int32) (z1 : Int32) (hp3 : Nat → Int32) (st3 : Nat → Int32) (tr3 : Nat → Nat → Int32) (sp3 : Nat → Int32) (vis3 : Int32) (day3 : Int32) (z3 : Int32) (fd : Nat → Int32) (v1 : Int32) (v2 : Int32) : Option (Int32 × (Nat → Int32) × (Nat → Int32) × (Nat → Nat → Int32) × (Nat → Int32) × Int32 × Int32 × Int32 × (Nat → Int32)) :=
  if (f4_isVisitor vis1 v1) = (0 : Int32) then (
    j4_built_18 hp1 st1 tr1 sp1 vis1 day1 z1 hp3 st3 tr3 sp3 vis3 day3 z3 fd)
  else (
    if (f4_within v2 (0 : Int32) (100 : Int32)) = (0 : Int32) then (
      j4_built_18 hp1 st1 tr1 sp1 vis1 day1 z1 hp3 st3 tr3 sp3 vis3 day3 z3 fd)
    else (
      ob7 (f0_become hp3 st3 tr3 sp3 vis3 day3 z3 hp1 st1 tr1 sp1 vis1 day1 z1) (fun hp3_3 st3_4 tr3_5 sp3_6 vis3_7 day3_8 z3_9 =>
      ob4 (f0_passDays hp3_3 st3_4 tr3_5 vis3_7 day3_8 v2 (0 : Int32)) (fun hp3_11 st3_12 tr3_13 day3_14 =>
      gd (inb v1 8) (
      some (((tr3_13 6) v1.toNatClampNeg), hp3_11, st3_12, tr3_13, sp3_6, vis3_7, day3_14, z3_9, fd))))))
set_option maxHeartbeats 4000000 in
set_option maxRecDepth 100000 in
theorem b4_built_18 {ta adK adV : Nat → Nat} {p : Program} {l : Launch} {e : Env} {s : State} {m : MethodId} {args : Array Value} {below : List Frame} {meth : Method} {c : Code} {D : va_G} {cI cB cG cS : ClassId} {ad : Nat → Nat} {A : Nat → Prop} {hp1 : Nat → Int32} {st1 : Nat → Int32} {tr1 : Nat → Nat → Int32} {sp1 : Nat → Int32} {vis1 : Int32} {day1 : Int32} {z1 : Int32} {hp2 : Nat → Int32} {st2 : Nat → Int32} {tr2 : Nat → Nat → Int32} {sp2 : Nat → Int32} {vis2 : Int32} {day2 : Int32} {z2 : Int32} {tb : Nat → Int32} {tl : Int32} {rtok : Int32} {rbg : Int32} {ren : Int32} {rvl : Int32} {shn : Nat → Nat → Int32} {shb : Nat → Int32} {shz : Nat → Int32} {isK : Int32} {r0 : Int32} {o_hp3 : Nat → Int32} {o_st3 : Nat → Int32} {o_tr3 : Nat → Nat → Int32} {o_sp3 : Nat → Int32} {o_vis3 : Int32} {o_day3 : Int32} {o_z3 : Int32} {o_fd : Nat → Int32} (C0 : CX (XS ta adK adV) p s m args meth c cX4_built 3 (some .int) RX4 A) : ∀ {hp3 : Nat → Int32} {st3 : Nat → Int32} {tr3 : Nat → Nat → Int32} {sp3 : Nat → Int32} {vis3 : Int32} {day3 : Int32} {z3 : Int32} {fd : Nat → Int32} {H : Heap} {locs : List Loc} {ls : Array Slot}, GX (XS ta adK adV) D (tyC cI cB cG cS) A s (wS cI cB cG cS ad hp1 st1 tr1 sp1 vis1 day1 z1 hp2 st2 tr2 sp2 vis2 day2 z2 hp3 st3 tr3 sp3 vis3 day3 z3 tb tl rtok rbg ren rvl shn shb shz fd isK) H locs → lv_has ls 3 [(0, .ref (ad 0))] → j4_built_18  hp1 st1 tr1 sp1 vis1 day1 z1 hp3 st3 tr3 sp3 vis3 day3 z3 fd = some (r0, o_hp3, o_st3, o_tr3, o_sp3, o_vis3, o_day3, o_z3, o_fd) → W p l e ({ frames := 5, cells := 0, slots := 0, locals := 108 }) s m args below meth c H locs 0 0 (MQ below (QcI D (tyC cI cB cG cS) (wS cI cB cG cS ad hp1 st1 tr1 sp1 vis1 day1 z1 hp2 st2 tr2 sp2 vis2 day2 z2 o_hp3 o_st3 o_tr3 o_sp3 o_vis3 o_day3 o_z3 tb tl rtok rbg ren rvl shn shb shz o_fd isK) A r0) args s 0 0 A) (F0 m 18 ls []) := by
  have hx := C0.1
  have hb := C0.2.1
  have hown := C0.2.2.2.2.1
  have hts := C0.2.2.2.2.2.1
  have hX := C0.2.2.2.2.2.2.2.2
  intro hp3 st3 tr3 sp3 vis3 day3 z3 fd H locs ls G hl hf
  unfold j4_built_18 at hf
  refine lv_aload_n hx hb dX4_built_18 rfl (lv_at hl 0 rfl) ?_
  refine lv_iconst (v := (0 : Int32)) hx hb dX4_built_19 (by decide) ?_
  obtain ⟨r17, fd_18, hc19, hf⟩ := ob2_s hf
  refine go_i C0 G (runV_of (n := 1) (q0 := 0) (As := [.int (0 : Int32)]) (rest := []) C0 G (c4_found hX hc19) q208 q49 q205 q207 q0 o4_found ⟨rfl, rfl⟩ ⟨Nat.le_of_ble_eq_true rfl, Nat.le_of_ble_eq_true rfl⟩ rfl rfl rfl hl.1 rfl (Nat.le_of_ble_eq_true rfl) dX4_built_20) (fun H locs G => ?_)
  obtain ⟨rfl, rfl, rfl, rfl, rfl, rfl, rfl, rfl, rfl⟩ := inj9 hf
  exact ret_i C0 G dX4_built_23
set_option maxHeartbeats 4000000 in
set_option maxRecDepth 100000 in
theorem b4_built_0 {ta adK adV : Nat → Nat} {p : Program} {l : Launch} {e : Env} {s : State} {m : MethodId} {args : Array Value} {below : List Frame} {meth : Method} {c : Code} {D : va_G} {cI cB cG cS : ClassId} {ad : Nat → Nat} {A : Nat → Prop} {hp1 : Nat → Int32} {st1 : Nat → Int32} {tr1 : Nat → Nat → Int32} {sp1 : Nat → Int32} {vis1 : Int32} {day1 : Int32} {z1 : Int32} {hp2 : Nat → Int32} {st2 : Nat → Int32} {tr2 : Nat → Nat → Int32} {sp2 : Nat → Int32} {vis2 : Int32} {day2 : Int32} {z2 : Int32} {tb : Nat → Int32} {tl : Int32} {rtok : Int32} {rbg : Int32} {ren : Int32} {rvl : Int32} {shn : Nat → Nat → Int32} {shb : Nat → Int32} {shz : Nat → Int32} {isK : Int32} {r0 : Int32} {o_hp3 : Nat → Int32} {o_st3 : Nat → Int32} {o_tr3 : Nat → Nat → Int32} {o_sp3 : Nat → Int32} {o_vis3 : Int32} {o_day3 : Int32} {o_z3 : Int32} {o_fd : Nat → Int32} (C0 : CX (XS ta adK adV) p s m args meth c cX4_built 3 (some .int) RX4 A) : ∀ {hp3 : Nat → Int32} {st3 : Nat → Int32} {tr3 : Nat → Nat → Int32} {sp3 : Nat → Int32} {vis3 : Int32} {day3 : Int32} {z3 : Int32} {fd : Nat → Int32} {v1 : Int32} {v2 : Int32} {H : Heap} {locs : List Loc} {ls : Array Slot}, GX (XS ta adK adV) D (tyC cI cB cG cS) A s (wS cI cB cG cS ad hp1 st1 tr1 sp1 vis1 day1 z1 hp2 st2 tr2 sp2 vis2 day2 z2 hp3 st3 tr3 sp3 vis3 day3 z3 tb tl rtok rbg ren rvl shn shb shz fd isK) H locs → lv_has ls 3 [(0, .ref (ad 0)), (1, .int v1), (2, .int v2)] → f4_built hp1 st1 tr1 sp1 vis1 day1 z1 hp3 st3 tr3 sp3 vis3 day3 z3 fd v1 v2 = some (r0, o_hp3, o_st3, o_tr3, o_sp3, o_vis3, o_day3, o_z3, o_fd) → W p l e ({ frames := 5, cells := 0, slots := 0, locals := 108 }) s m args below meth c H locs 0 0 (MQ below (QcI D (tyC cI cB cG cS) (wS cI cB cG cS ad hp1 st1 tr1 sp1 vis1 day1 z1 hp2 st2 tr2 sp2 vis2 day2 z2 o_hp3 o_st3 o_tr3 o_sp3 o_vis3 o_day3 o_z3 tb tl rtok rbg ren rvl shn shb shz o_fd isK) A r0) args s 0 0 A) (F0 m 0 ls []) := by
  have hx := C0.1
  have hb := C0.2.1
  have hown := C0.2.2.2.2.1
  have hts := C0.2.2.2.2.2.1
  have hX := C0.2.2.2.2.2.2.2.2
  intro hp3 st3 tr3 sp3 vis3 day3 z3 fd v1 v2 H locs ls G hl hf
  unfold f4_built at hf
  refine lv_aload_n hx hb dX4_built_0 rfl (lv_at hl 0 rfl) ?_
  refine lv_iload_n hx hb dX4_built_1 rfl (lv_at hl 1 rfl) ?_
  refine go_i C0 G (runV_of (n := 1) (q0 := 0) (As := [.int v1]) (rest := []) C0 G (c4_isVisitor hX rfl) q261 q49 q258 q260 q1 o4_isVisitor ⟨rfl, rfl⟩ ⟨Nat.le_of_ble_eq_true rfl, Nat.le_of_ble_eq_true rfl⟩ rfl rfl rfl hl.1 rfl (Nat.le_of_ble_eq_true rfl) dX4_built_2) (fun H locs G => ?_)
  refine lv_if_eq (tgt := 18) hx hb dX4_built_5 (by decide) (fun hc1 => ?_) (fun hc1 => ?_)
  · have hf := itp hc1 hf
    exact b4_built_18 C0  G (lv_sub hl [0] rfl) hf
  · have hf := itn hc1 hf
    refine lv_iload_n hx hb dX4_built_8 rfl (lv_at hl 2 rfl) ?_
    refine lv_iconst (v := (0 : Int32)) hx hb dX4_built_9 (by decide) ?_
    refine lv_bipush (v := (100 : Int32)) hx hb dX4_built_10 (by decide) ?_
    refine go_i C0 G (runS_of (n := 3) (As := [.int v2, .int (0 : Int32), .int (100 : Int32)]) (rest := []) C0 G (c4_within hX rfl) q204 q49 q202 q203 o4_within ⟨rfl, rfl⟩ ⟨Nat.le_of_ble_eq_true rfl, Nat.le_of_ble_eq_true rfl⟩ rfl hl.1 rfl (Nat.le_of_ble_eq_true rfl) dX4_built_12) (fun H locs G => ?_)
    refine lv_if_ne (tgt := 24) hx hb dX4_built_15 (by decide) (fun hc2 => ?_) (fun hc2 => ?_)
    · have hf := itn hc2 hf
      refine lv_aload_n hx hb dX4_built_24 rfl (lv_at hl 0 rfl) ?_
      refine s_get (C := RX4) (T := TX4) C0 G i_X4 0 2 rfl rfl (by decide) q175 rfl dX4_built_25 ?_
      refine lv_aload_n hx hb dX4_built_28 rfl (lv_at hl 0 rfl) ?_
      refine s_get (C := RX4) (T := TX4) C0 G i_X4 0 0 rfl rfl (by decide) q173 rfl dX4_built_29 ?_
      obtain ⟨hp3_3, st3_4, tr3_5, sp3_6, vis3_7, day3_8, z3_9, hc10, hf⟩ := ob7_s hf
      refine go_v_sub C0 G s_pp31 o_pp31 (runV_sub (n := 1) (q0 := 25) (As := [.ref (ad 1)]) (rest := []) C0 G s_pp31 (c0_become hX (ad := fun k => ad (25 + k)) (ae := fun k => ad (1 + k))  hc10) q376 q50 q373 q374 q375 o0_become ⟨rfl, rfl⟩ ⟨Nat.le_of_ble_eq_true rfl, Nat.le_of_ble_eq_true rfl⟩ rfl rfl rfl hl.1 rfl (Nat.le_of_ble_eq_true rfl) dX4_built_32) (fun H locs G => ?_)
      refine lv_aload_n hx hb dX4_built_35 rfl (lv_at hl 0 rfl) ?_
      refine s_get (C := RX4) (T := TX4) C0 G i_X4 0 2 rfl rfl (by decide) q175 rfl dX4_built_36 ?_
      refine lv_iload_n hx hb dX4_built_39 rfl (lv_at hl 2 rfl) ?_
      refine lv_iconst (v := (0 : Int32)) hx hb dX4_built_40 (by decide) ?_
      obtain ⟨hp3_11, st3_12, tr3_13, day3_14, hc15, hf⟩ := ob4_s hf
      refine go_v_sub C0 G s_pit3 o_pit3 (runV_sub (n := 2) (q0 := 25) (As := [.int v2, .int (0 : Int32)]) (rest := []) C0 G s_pit3 (c0_passDays hX hc15) q322 q50 q319 q320 q321 o0_passDays ⟨rfl, rfl⟩ ⟨Nat.le_of_ble_eq_true rfl, Nat.le_of_ble_eq_true rfl⟩ rfl rfl rfl hl.1 rfl (Nat.le_of_ble_eq_true rfl) dX4_built_41) (fun H locs G => ?_)
      refine lv_aload_n hx hb dX4_built_44 rfl (lv_at hl 0 rfl) ?_
      refine s_get (C := RX4) (T := TX4) C0 G i_X4 0 2 rfl rfl (by decide) q175 rfl dX4_built_45 ?_
      refine s_get (C := RX0) (T := TX0) C0 G i_X0 25 2 rfl rfl (by decide) q88 rfl dX4_built_48 ?_
      refine lv_bipush (v := (6 : Int32)) hx hb dX4_built_51 (by decide) ?_
      refine s_aldg (k := 6) (b := ad 35) C0 G 28 2 rfl rfl (vin (by decide)) (by decide) rfl dX4_built_53 ?_
      refine lv_iload_n hx hb dX4_built_54 rfl (lv_at hl 1 rfl) ?_
      obtain ⟨hi16, hf⟩ := gd_s hf
      refine s_iald (k := v1.toNatClampNeg) C0 G 35 0 rfl rfl (vin hi16) rfl dX4_built_55 ?_
      obtain ⟨rfl, rfl, rfl, rfl, rfl, rfl, rfl, rfl, rfl⟩ := inj9 hf
      exact ret_i C0 G dX4_built_56
    · have hf := itp hc2 hf
      exact b4_built_18 C0  G (lv_sub hl [0] rfl) hf
theorem o4_built : okName yX4_built 2 := ⟨by decide, by decide, by decide +kernel⟩
set_option maxHeartbeats 4000000 in
set_option maxRecDepth 100000 in
theorem c4_built {ta adK adV : Nat → Nat} (hX : XT (XS ta adK adV)) {l : Launch} {D : va_G} {cI cB cG cS : ClassId} {ad : Nat → Nat} {sz : Nat} {hp1 : Nat → Int32} {st1 : Nat → Int32} {tr1 : Nat → Nat → Int32} {sp1 : Nat → Int32} {vis1 : Int32} {day1 : Int32} {z1 : Int32} {hp2 : Nat → Int32} {st2 : Nat → Int32} {tr2 : Nat → Nat → Int32} {sp2 : Nat → Int32} {vis2 : Int32} {day2 : Int32} {z2 : Int32} {hp3 : Nat → Int32} {st3 : Nat → Int32} {tr3 : Nat → Nat → Int32} {sp3 : Nat → Int32} {vis3 : Int32} {day3 : Int32} {z3 : Int32} {tb : Nat → Int32} {tl : Int32} {rtok : Int32} {rbg : Int32} {ren : Int32} {rvl : Int32} {shn : Nat → Nat → Int32} {shb : Nat → Int32} {shz : Nat → Int32} {fd : Nat → Int32} {isK : Int32} {v1 : Int32} {v2 : Int32} {r0 : Int32} {o_hp3 : Nat → Int32} {o_st3 : Nat → Int32} {o_tr3 : Nat → Nat → Int32} {o_sp3 : Nat → Int32} {o_vis3 : Int32} {o_day3 : Int32} {o_z3 : Int32} {o_fd : Nat → Int32} (hf : f4_built hp1 st1 tr1 sp1 vis1 day1 z1 hp3 st3 tr3 sp3 vis3 day3 z3 fd v1 v2 = some (r0, o_hp3, o_st3, o_tr3, o_sp3, o_vis3, o_day3, o_z3, o_fd)) : Met l yX4_built (wU yX4_built cX4_built 3 (some .int)) ({ frames := 5, cells := 0, slots := 0, locals := 108 }) (va_Pc [.ref (ad 0), .int v1, .int v2] (PreW (XS ta adK adV) D (tyC cI cB cG cS) (wS cI cB cG cS ad hp1 st1 tr1 sp1 vis1 day1 z1 hp2 st2 tr2 sp2 vis2 day2 z2 hp3 st3 tr3 sp3 vis3 day3 z3 tb tl rtok rbg ren rvl shn shb shz fd isK) sz)) (QcI D (tyC cI cB cG cS) (wS cI cB cG cS ad hp1 st1 tr1 sp1 vis1 day1 z1 hp2 st2 tr2 sp2 vis2 day2 z2 o_hp3 o_st3 o_tr3 o_sp3 o_vis3 o_day3 o_z3 tb tl rtok rbg ren rvl shn shb shz o_fd isK) (va_A (wS cI cB cG cS ad hp1 st1 tr1 sp1 vis1 day1 z1 hp2 st2 tr2 sp2 vis2 day2 z2 hp3 st3 tr3 sp3 vis3 day3 z3 tb tl rtok rbg ren rvl shn shb shz fd isK) sz) r0) 0 0 (va_A (wS cI cB cG cS ad hp1 st1 tr1 sp1 vis1 day1 z1 hp2 st2 tr2 sp2 vis2 day2 z2 hp3 st3 tr3 sp3 vis3 day3 z3 tb tl rtok rbg ren rvl shn shb shz fd isK) sz) := by
  refine startW hX (own := RX4) (by decide) rfl (Nat.le_of_ble_eq_true rfl) (fun p e s m args below meth c ls C0 G hl => ?_)
  exact b4_built_0 C0 G hl hf
