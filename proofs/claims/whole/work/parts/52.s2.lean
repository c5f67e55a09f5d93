/-! 4_away -/
theorem dX4_away_0 : decode cX4_away 0 = .ok (.aload_n 0, 1) := by decide +kernel
theorem dX4_away_1 : decode cX4_away 1 = .ok (.iload_n 1, 1) := by decide +kernel
theorem dX4_away_2 : decode cX4_away 2 = .ok (.invokevirtual 73, 3) := by decide +kernel
theorem dX4_away_5 : decode cX4_away 5 = .ok (.ifCond .eq 13, 3) := by decide +kernel
theorem dX4_away_8 : decode cX4_away 8 = .ok (.iload_n 2, 1) := by decide +kernel
theorem dX4_away_9 : decode cX4_away 9 = .ok (.iconst 0, 1) := by decide +kernel
theorem dX4_away_10 : decode cX4_away 10 = .ok (.bipush 12, 2) := by decide +kernel
theorem dX4_away_12 : decode cX4_away 12 = .ok (.invokestatic 45, 3) := by decide +kernel
theorem dX4_away_15 : decode cX4_away 15 = .ok (.ifCond .ne 9, 3) := by decide +kernel
theorem dX4_away_18 : decode cX4_away 18 = .ok (.aload_n 0, 1) := by decide +kernel
theorem dX4_away_19 : decode cX4_away 19 = .ok (.iconst 0, 1) := by decide +kernel
theorem dX4_away_20 : decode cX4_away 20 = .ok (.invokevirtual 49, 3) := by decide +kernel
theorem dX4_away_23 : decode cX4_away 23 = .ok (.ireturn, 1) := by decide +kernel
theorem dX4_away_24 : decode cX4_away 24 = .ok (.iconst 0, 1) := by decide +kernel
theorem dX4_away_25 : decode cX4_away 25 = .ok (.istore_n 3, 1) := by decide +kernel
theorem dX4_away_26 : decode cX4_away 26 = .ok (.iload_n 3, 1) := by decide +kernel
theorem dX4_away_27 : decode cX4_away 27 = .ok (.aload_n 0, 1) := by decide +kernel
theorem dX4_away_28 : decode cX4_away 28 = .ok (.getfield 10, 3) := by decide +kernel
theorem dX4_away_31 : decode cX4_away 31 = .ok (.getfield 149, 3) := by decide +kernel
theorem dX4_away_34 : decode cX4_away 34 = .ok (.if_icmp .gt 55, 3) := by decide +kernel
theorem dX4_away_37 : decode cX4_away 37 = .ok (.iconst 0, 1) := by decide +kernel
theorem dX4_away_38 : decode cX4_away 38 = .ok (.istore 4, 2) := by decide +kernel
theorem dX4_away_40 : decode cX4_away 40 = .ok (.iload 4, 2) := by decide +kernel
theorem dX4_away_42 : decode cX4_away 42 = .ok (.iconst 1, 1) := by decide +kernel
theorem dX4_away_43 : decode cX4_away 43 = .ok (.aload_n 0, 1) := by decide +kernel
theorem dX4_away_44 : decode cX4_away 44 = .ok (.getfield 10, 3) := by decide +kernel
theorem dX4_away_47 : decode cX4_away 47 = .ok (.getfield 149, 3) := by decide +kernel
theorem dX4_away_50 : decode cX4_away 50 = .ok (.ishl, 1) := by decide +kernel
theorem dX4_away_51 : decode cX4_away 51 = .ok (.if_icmp .ge 32, 3) := by decide +kernel
theorem dX4_away_54 : decode cX4_away 54 = .ok (.iload 4, 2) := by decide +kernel
theorem dX4_away_56 : decode cX4_away 56 = .ok (.invokestatic 152, 3) := by decide +kernel
theorem dX4_away_59 : decode cX4_away 59 = .ok (.iload_n 3, 1) := by decide +kernel
theorem dX4_away_60 : decode cX4_away 60 = .ok (.if_icmp .ne 17, 3) := by decide +kernel
theorem dX4_away_63 : decode cX4_away 63 = .ok (.aload_n 0, 1) := by decide +kernel
theorem dX4_away_64 : decode cX4_away 64 = .ok (.iload 4, 2) := by decide +kernel
theorem dX4_away_66 : decode cX4_away 66 = .ok (.iload_n 1, 1) := by decide +kernel
theorem dX4_away_67 : decode cX4_away 67 = .ok (.iload_n 2, 1) := by decide +kernel
theorem dX4_away_68 : decode cX4_away 68 = .ok (.invokevirtual 157, 3) := by decide +kernel
theorem dX4_away_71 : decode cX4_away 71 = .ok (.ifCond .eq 6, 3) := by decide +kernel
theorem dX4_away_74 : decode cX4_away 74 = .ok (.iload 4, 2) := by decide +kernel
theorem dX4_away_76 : decode cX4_away 76 = .ok (.ireturn, 1) := by decide +kernel
theorem dX4_away_77 : decode cX4_away 77 = .ok (.iinc 4 1, 3) := by decide +kernel
theorem dX4_away_80 : decode cX4_away 80 = .ok (.goto (-40), 3) := by decide +kernel
theorem dX4_away_83 : decode cX4_away 83 = .ok (.iinc 3 1, 3) := by decide +kernel
theorem dX4_away_86 : decode cX4_away 86 = .ok (.goto (-60), 3) := by decide +kernel
theorem dX4_away_89 : decode cX4_away 89 = .ok (.aload_n 0, 1) := by decide +kernel
theorem dX4_away_90 : decode cX4_away 90 = .ok (.iconst 3, 1) := by decide +kernel
theorem dX4_away_91 : decode cX4_away 91 = .ok (.invokevirtual 49, 3) := by decide +kernel
theorem dX4_away_94 : decode cX4_away 94 = .ok (.ireturn, 1) := by decide +kernel
def j4_away_18  (hp1 : Nat → Int32) (st1 : Nat → Int32) (tr1 : Nat → Nat → Int32) (sp1 : Nat → Int32) (vis1 : Int32) (day1 : Int32) (z1 : Int32) (hp3 : Nat → Int32) (st3 : Nat → Int32) (tr3 : Nat → Nat → Int32) (sp3 : Nat → Int32) (vis3 : Int32) (day3 : Int32) (z3 : Int32) (fd : Nat → Int32)  : Option (Int32 × (Nat → Int32) × (Nat → Int32) × (Nat → Nat → Int32) × (Nat → Int32) × Int32 × Int32 × Int32 × (Nat → Int32)) :=
  ob2 (f4_found fd (0 : Int32)) (fun r3 fd_4 =>
  some (r3, hp3, st3, tr3, sp3, vis3, day3, z3, fd_4))
def j4_away_77 (k26 : (Nat → Int32) → (Nat → Int32) → (Nat → Nat → Int32) → (Nat → Int32) → Int32 → Int32 → Int32 → (Nat → Int32) → (Nat → Int32) → (Nat → Nat → Int32) → (Nat → Int32) → Int32 → Int32 → Int32 → (Nat → Int32) → Int32 → Int32 → Int32 → Option (Int32 × (Nat → Int32) × (Nat → Int32) × (Nat → Nat → Int32) × (Nat → Int32) × Int32 × Int32 × Int32 × (Nat → Int32))) (k40 : (Nat → Int32) → (Nat → Int32) → (Nat → Nat → Int32) → (Nat → Int32) → Int32 → Int32 → Int32 → (Nat → Int32) → (Nat → Int32) → (Nat → Nat → Int32) → (Nat → Int32) → Int32 → Int32 → Int32 → (Nat → Int32) → Int32 → Int32 → Int32 → Int32 → Option (Int32 × (Nat → Int32) × (Nat → Int32) × (Nat → Nat → Int32) × (Nat → Int32) × Int32 × Int32 × Int32 × (Nat → Int32))) (hp1 : Nat → Int32) (st1 : Nat → Int32) (tr1 : Nat → Nat → Int32) (sp1 : Nat → Int32) (vis1 : Int32) (day1 : Int32) (z1 : Int32) (hp3 : Nat → Int32) (st3 : Nat → Int32) (tr3 : Nat → Nat → Int32) (sp3 : Nat → Int32) (vis3 : Int32) (day3 : Int32) (z3 : Int32) (fd : Nat → Int32) (v1 : Int32) (v2 : Int32) (v3 : Int32) (v4 : Int32) : Option (Int32 × (Nat → Int32) × (Nat → Int32) × (Nat → Nat → Int32) × (Nat → Int32) × Int32 × Int32 × Int32 × (Nat → Int32)) :=
  k40 hp1 st1 tr1 sp1 vis1 day1 z1 hp3 st3 tr3 sp3 vis3 day3 z3 fd v1 v2 v3 (v4 + (1 : Int32))
def l4_away_40 (k26 : (Nat → Int32) → (Nat → Int32) → (Nat → Nat → Int32) → (Nat → Int32) → Int32 → Int32 → Int32 → (Nat → Int32) → (Nat → Int32) → (Nat → Nat → Int32) → (Nat → Int32) → Int32 → Int32 → Int32 → (Nat → Int32) → Int32 → Int32 → Int32 → Option (Int32 × (Nat → Int32) × (Nat → Int32) × (Nat → Nat → Int32) × (Nat → Int32) × Int32 × Int32 × Int32 × (Nat → Int32))) : Nat → (Nat → Int32) → (Nat → Int32) → (Nat → Nat → Int32) → (Nat → Int32) → Int32 → Int32 → Int32 → (Nat → Int32) → (Nat → Int32) → (Nat → Nat → Int32) → (Nat → Int32) → Int32 → Int32 → Int32 → (Nat → Int32) → Int32 → Int32 → Int32 → Int32 → Option (Int32 × (Nat → Int32) × (Nat → Int32) × (Nat → Nat → Int32) × (Nat → Int32) × Int32 × Int32 × Int32 × (Nat → Int32))
  | 0, _, _, _, _, _, _, _, _, _, _, _, _, _, _, _, _, _, _, _ => none
  | n + 1, hp1, st1, tr1, sp1, vis1, day1, z1, hp3, st3, tr3, sp3, vis3, day3, z3, fd, v1, v2, v3, v4 =>
    if ((1 : Int32) <<< (vis1 &&& 31)) ≤ v4 then (
      k26 hp1 st1 tr1 sp1 vis1 day1 z1 hp3 st3 tr3 sp3 vis3 day3 z3 fd v1 v2 (v3 + (1 : Int32)))
    else (
      if (f6_bitCount v4) = v3 then (
        ob8 (f4_isUpWithout hp1 st1 tr1 sp1 vis1 day1 z1 hp3 st3 tr3 sp3 vis3 day3 z3 v4 v1 v2) (fun r12 hp3_13 st3_14 tr3_15 sp3_16 vis3_17 day3_18 z3_19 =>
        if r12 = (0 : Int32) then (
          j4_away_77 k26 (l4_away_40 k26 n) hp1 st1 tr1 sp1 vis1 day1 z1 hp3_13 st3_14 tr3_15 sp3_16 vis3_17 day3_18 z3_19 fd v1 v2 v3 v4)
        else (
          some (v4, hp3_13, st3_14, tr3_15, sp3_16, vis3_17, day3_18, z3_19, fd))))
      else (
        j4_away_77 k26 (l4_away_40 k26 n) hp1 st1 tr1 sp1 vis1 day1 z1 hp3 st3 tr3 sp3 vis3 day3 z3 fd v1 v2 v3 v4))
def l4_away_26  : Nat → (Nat → Int32) → (Nat → Int32) → (Nat → Nat → Int32) → (Nat → Int32) → Int32 → Int32 → Int32 → (Nat → Int32) → (Nat → Int32) → (Nat → Nat → Int32) → (Nat → Int32) → Int32 → Int32 → Int32 → (Nat → Int32) → Int32 → Int32 → Int32 → Option (Int32 × (Nat → Int32) × (Nat → Int32) × (Nat → Nat → Int32) × (Nat → Int32) × Int32 × Int32 × Int32 × (Nat → Int32))
  | 0, _, _, _, _, _, _, _, _, _, _, _, _, _, _, _, _, _, _ => none
  | n + 1, hp1, st1, tr1, sp1, vis1, day1, z1, hp3, st3, tr3, sp3, vis3, day3, z3, fd, v1, v2, v3 =>
    if vis1 < v3 then (
      ob2 (f4_found fd (3 : Int32)) (fun r7 fd_8 =>
      some (r7, hp3, st3, tr3, sp3, vis3, day3, z3, fd_8)))
    else (
      l4_away_40 (l4_away_26 n) 1000 hp1 st1 tr1 sp1 vis1 day1 z1 hp3 st3 tr3 sp3 vis3 day3 z3 fd v1 v2 v3 (0 : Int32))
def f4_away (hp1 : Nat → Int32) (st1 : Nat → Int32) (tr1 : Nat → Nat → Int32) (sp1 : Nat → Int32) (vis1 : Int32) (day1 : Int32) (z1 : Int32) (hp3 : Nat → Int32) (st3 : Nat → Int32) (tr3 : Nat → Nat → Int32) (sp3 : Nat → Int32) (vis3 : Int32) (day3 : Int32) (z3 : Int32) (fd : Nat → Int32) (v1 : Int32) (v2 : Int32) : Option (Int32 × (Nat → Int32) × (Nat → Int32) × (Nat → Nat → Int32) × (Nat → Int32) × Int32 × Int32 × Int32 × (Nat → Int32)) :=
  if (f4_isVisitor vis1 v1) = (0 : Int32) then (
    j4_away_18 hp1 st1 tr1 sp1 vis1 day1 z1 hp3 st3 tr3 sp3 vis3 day3 z3 fd)
  else (
    if (f4_within v2 (0 : Int32) (12 : Int32)) = (0 : Int32) then (
      j4_away_18 hp1 st1 tr1 sp1 vis1 day1 z1 hp3 st3 tr3 sp3 vis3 day3 z3 fd)
    else (
      l4_away_26 1000 hp1 st1 tr1 sp1 vis1 day1 z1 hp3 st3 tr3 sp3 vis3 day3 z3 fd v1 v2 (0 : Int32)))
set_option maxHeartbeats 4000000 in
set_option maxRecDepth 100000 in
theorem b4_away_18 {ta adK adV : Nat → Nat} {p : Program} {l : Launch} {e : Env} {s : State} {m : MethodId} {args : Array Value} {below : List Frame} {meth : Method} {c : Code} {D : va_G} {cI cB cG cS : ClassId} {ad : Nat → Nat} {A : Nat → Prop} {hp1 : Nat → Int32} {st1 : Nat → Int32} {tr1 : Nat → Nat → Int32} {sp1 : Nat → Int32} {vis1 : Int32} {day1 : Int32} {z1 : Int32} {hp2 : Nat → Int32} {st2 : Nat → Int32} {tr2 : Nat → Nat → Int32} {sp2 : Nat → Int32} {vis2 : Int32} {day2 : Int32} {z2 : Int32} {tb : Nat → Int32} {tl : Int32} {rtok : Int32} {rbg : Int32} {ren : Int32} {rvl : Int32} {shn : Nat → Nat → Int32} {shb : Nat → Int32} {shz : Nat → Int32} {isK : Int32} {r0 : Int32} {o_hp3 : Nat → Int32} {o_st3 : Nat → Int32} {o_tr3 : Nat → Nat → Int32} {o_sp3 : Nat → Int32} {o_vis3 : Int32} {o_day3 : Int32} {o_z3 : Int32} {o_fd : Nat → Int32} (C0 : CX (XS ta adK adV) p s m args meth c cX4_away 5 (some .int) RX4 A) : ∀ {hp3 : Nat → Int32} {st3 : Nat → Int32} {tr3 : Nat → Nat → Int32} {sp3 : Nat → Int32} {vis3 : Int32} {day3 : Int32} {z3 : Int32} {fd : Nat → Int32} {H : Heap} {locs : List Loc} {ls : Array Slot}, GX (XS ta adK adV) D (tyC cI cB cG cS) A s (wS cI cB cG cS ad hp1 st1 tr1 sp1 vis1 day1 z1 hp2 st2 tr2 sp2 vis2 day2 z2 hp3 st3 tr3 sp3 vis3 day3 z3 tb tl rtok rbg ren rvl shn shb shz fd isK) H locs → lv_has ls 5 [(0, .ref (ad 0))] → j4_away_18  hp1 st1 tr1 sp1 vis1 day1 z1 hp3 st3 tr3 sp3 vis3 day3 z3 fd = some (r0, o_hp3, o_st3, o_tr3, o_sp3, o_vis3, o_day3, o_z3, o_fd) → W p l e ({ frames := 6, cells := 0, slots := 0, locals := 131 }) s m args below meth c H locs 0 0 (MQ below (QcI D (tyC cI cB cG cS) (wS cI cB cG cS ad hp1 st1 tr1 sp1 vis1 day1 z1 hp2 st2 tr2 sp2 vis2 day2 z2 o_hp3 o_st3 o_tr3 o_sp3 o_vis3 o_day3 o_z3 tb tl rtok rbg ren rvl shn shb shz o_fd isK) A r0) args s 0 0 A) (F0 m 18 ls []) := by
  have hx := C0.1
  have hb := C0.2.1
  have hown := C0.2.2.2.2.1
  have hts := C0.2.2.2.2.2.1
  have hX := C0.2.2.2.2.2.2.2.2
  intro hp3 st3 tr3 sp3 vis3 day3 z3 fd H locs ls G hl hf
  unfold j4_away_18 at hf
  refine lv_aload_n hx hb dX4_away_18 rfl (lv_at hl 0 rfl) ?_
  refine lv_iconst (v := (0 : Int32)) hx hb dX4_away_19 (by decide) ?_
  obtain ⟨r3, fd_4, hc5, hf⟩ := ob2_s hf
  refine go_i C0 G (runV_of (n := 1) (q0 := 0) (As := [.int (0 : Int32)]) (rest := []) C0 G (c4_found hX hc5) q208 q49 q205 q207 q0 o4_found ⟨rfl, rfl⟩ ⟨Nat.le_of_ble_eq_true rfl, Nat.le_of_ble_eq_true rfl⟩ rfl rfl rfl hl.1 rfl (Nat.le_of_ble_eq_true rfl) dX4_away_20) (fun H locs G => ?_)
  obtain ⟨rfl, rfl, rfl, rfl, rfl, rfl, rfl, rfl, rfl⟩ := inj9 hf
  exact ret_i C0 G dX4_away_23
set_option maxHeartbeats 4000000 in
set_option maxRecDepth 100000 in
theorem b4_away_77 {ta adK adV : Nat → Nat} {p : Program} {l : Launch} {e : Env} {s : State} {m : MethodId} {args : Array Value} {below : List Frame} {meth : Method} {c : Code} {D : va_G} {cI cB cG cS : ClassId} {ad : Nat → Nat} {A : Nat → Prop} {hp1 : Nat → Int32} {st1 : Nat → Int32} {tr1 : Nat → Nat → Int32} {sp1 : Nat → Int32} {vis1 : Int32} {day1 : Int32} {z1 : Int32} {hp2 : Nat → Int32} {st2 : Nat → Int32} {tr2 : Nat → Nat → Int32} {sp2 : Nat → Int32} {vis2 : Int32} {day2 : Int32} {z2 : Int32} {tb : Nat → Int32} {tl : Int32} {rtok : Int32} {rbg : Int32} {ren : Int32} {rvl : Int32} {shn : Nat → Nat → Int32} {shb : Nat → Int32} {shz : Nat → Int32} {isK : Int32} {r0 : Int32} {o_hp3 : Nat → Int32} {o_st3 : Nat → Int32} {o_tr3 : Nat → Nat → Int32} {o_sp3 : Nat → Int32} {o_vis3 : Int32} {o_day3 : Int32} {o_z3 : Int32} {o_fd : Nat → Int32} (C0 : CX (XS ta adK adV) p s m args meth c cX4_away 5 (some .int) RX4 A) {k26 : (Nat → Int32) → (Nat → Int32) → (Nat → Nat → Int32) → (Nat → Int32) → Int32 → Int32 → Int32 → (Nat → Int32) → (Nat → Int32) → (Nat → Nat → Int32) → (Nat → Int32) → Int32 → Int32 → Int32 → (Nat → Int32) → Int32 → Int32 → Int32 → Option (Int32 × (Nat → Int32) × (Nat → Int32) × (Nat → Nat → Int32) × (Nat → Int32) × Int32 × Int32 × Int32 × (Nat → Int32))} (hk26 : ∀ {hp3 : Nat → Int32} {st3 : Nat → Int32} {tr3 : Nat → Nat → Int32} {sp3 : Nat → Int32} {vis3 : Int32} {day3 : Int32} {z3 : Int32} {fd : Nat → Int32} {v1 : Int32} {v2 : Int32} {v3 : Int32} {H : Heap} {locs : List Loc} {ls : Array Slot}, GX (XS ta adK adV) D (tyC cI cB cG cS) A s (wS cI cB cG cS ad hp1 st1 tr1 sp1 vis1 day1 z1 hp2 st2 tr2 sp2 vis2 day2 z2 hp3 st3 tr3 sp3 vis3 day3 z3 tb tl rtok rbg ren rvl shn shb shz fd isK) H locs → lv_has ls 5 [(0, .ref (ad 0)), (1, .int v1), (2, .int v2), (3, .int v3)] → k26 hp1 st1 tr1 sp1 vis1 day1 z1 hp3 st3 tr3 sp3 vis3 day3 z3 fd v1 v2 v3 = some (r0, o_hp3, o_st3, o_tr3, o_sp3, o_vis3, o_day3, o_z3, o_fd) → W p l e ({ frames := 6, cells := 0, slots := 0, locals := 131 }) s m args below meth c H locs 0 0 (MQ below (QcI D (tyC cI cB cG cS) (wS cI cB cG cS ad hp1 st1 tr1 sp1 vis1 day1 z1 hp2 st2 tr2 sp2 vis2 day2 z2 o_hp3 o_st3 o_tr3 o_sp3 o_vis3 o_day3 o_z3 tb tl rtok rbg ren rvl shn shb shz o_fd isK) A r0) args s 0 0 A) (F0 m 26 ls [])) {k40 : (Nat → Int32) → (Nat → Int32) → (Nat → Nat → Int32) → (Nat → Int32) → Int32 → Int32 → Int32 → (Nat → Int32) → (Nat → Int32) → (Nat → Nat → Int32) → (Nat → Int32) → Int32 → Int32 → Int32 → (Nat → Int32) → Int32 → Int32 → Int32 → Int32 → Option (Int32 × (Nat → Int32) × (Nat → Int32) × (Nat → Nat → Int32) × (Nat → Int32) × Int32 × Int32 × Int32 × (Nat → Int32))} (hk40 : ∀ {hp3 : Nat → Int32} {st3 : Nat → Int32} {tr3 : Nat → Nat → Int32} {sp3 : Nat → Int32} {vis3 : Int32} {day3 : Int32} {z3 : Int32} {fd : Nat → Int32} {v1 : Int32} {v2 : Int32} {v3 : Int32} {v4 : Int32} {H : Heap} {locs : List Loc} {ls : Array Slot}, GX (XS ta adK adV) D (tyC cI cB cG cS) A s (wS cI cB cG cS ad hp1 st1 tr1 sp1 vis1 day1 z1 hp2 st2 tr2 sp2 vis2 day2 z2 hp3 st3 tr3 sp3 vis3 day3 z3 tb tl rtok rbg ren rvl shn shb shz fd isK) H locs → lv_has ls 5 [(0, .ref (ad 0)), (1, .int v1), (2, .int v2), (3, .int v3), (4, .int v4)] → k40 hp1 st1 tr1 sp1 vis1 day1 z1 hp3 st3 tr3 sp3 vis3 day3 z3 fd v1 v2 v3 v4 = some (r0, o_hp3, o_st3, o_tr3, o_sp3, o_vis3, o_day3, o_z3, o_fd) → W p l e ({ frames := 6, cells := 0, slots := 0, locals := 131 }) s m args below meth c H locs 0 0 (MQ below (QcI D (tyC cI cB cG cS) (wS cI cB cG cS ad hp1 st1 tr1 sp1 vis1 day1 z1 hp2 st2 tr2 sp2 vis2 day2 z2 o_hp3 o_st3 o_tr3 o_sp3 o_vis3 o_day3 o_z3 tb tl rtok rbg ren rvl shn shb shz o_fd isK) A r0) args s 0 0 A) (F0 m 40 ls [])) : ∀ {hp3 : Nat → Int32} {st3 : Nat → Int32} {tr3 : Nat → Nat → Int32} {sp3 : Nat → Int32} {vis3 : Int32} {day3 : Int32} {z3 : Int32} {fd : Nat → Int32} {v1 : Int32} {v2 : Int32} {v3 : Int32} {v4 : Int32} {H : Heap} {locs : List Loc} {ls : Array Slot}, GX (XS ta adK adV) D (tyC cI cB cG cS) A s (wS cI cB cG cS ad hp1 st1 tr1 sp1 vis1 day1 z1 hp2 st2 tr2 sp2 vis2 day2 z2 hp3 st3 tr3 sp3 vis3 day3 z3 tb tl rtok rbg ren rvl shn shb shz fd isK) H locs → lv_has ls 5 [(0, .ref (ad 0)), (1, .int v1), (2, .int v2), (3, .int v3), (4, .int v4)] → j4_away_77 k26 k40 hp1 st1 tr1 sp1 vis1 day1 z1 hp3 st3 tr3 sp3 vis3 day3 z3 fd v1 v2 v3 v4 = some (r0, o_hp3, o_st3, o_tr3, o_sp3, o_vis3, o_day3, o_z3, o_fd) → W p l e ({ frames := 6, cells := 0, slots := 0, locals := 131 }) s m args below meth c H locs 0 0 (MQ below (QcI D (tyC cI cB cG cS) (wS cI cB cG cS ad hp1 st1 tr1 sp1 vis1 day1 z1 hp2 st2 tr2 sp2 vis2 day2 z2 o_hp3 o_st3 o_tr3 o_sp3 o_vis3 o_day3 o_z3 tb tl rtok rbg ren rvl shn shb shz o_fd isK) A r0) args s 0 0 A) (F0 m 77 ls []) := by
  have hx := C0.1
  have hb := C0.2.1
  have hown := C0.2.2.2.2.1
  have hts := C0.2.2.2.2.2.1
  have hX := C0.2.2.2.2.2.2.2.2
  intro hp3 st3 tr3 sp3 vis3 day3 z3 fd v1 v2 v3 v4 H locs ls G hl hf
  unfold j4_away_77 at hf
  refine lv_iinc (v := (v4 + (1 : Int32))) (lv' := [(4, .int (v4 + (1 : Int32))), (0, .ref (ad 0)), (1, .int v1), (2, .int v2), (3, .int v3)]) hx hb dX4_away_77 hl (k := 4) rfl rfl (by decide) rfl (fun ls hl => ?_)
  refine lv_goto (tgt := 40) hx hb dX4_away_80 (by decide) ?_
  exact hk40 G (lv_sub hl [1, 2, 3, 4, 0] rfl) hf
set_option maxHeartbeats 4000000 in
set_option maxRecDepth 100000 in
theorem b4_away_40 {ta adK adV : Nat → Nat} {p : Program} {l : Launch} {e : Env} {s : State} {m : MethodId} {args : Array Value} {below : List Frame} {meth : Method} {c : Code} {D : va_G} {cI cB cG cS : ClassId} {ad : Nat → Nat} {A : Nat → Prop} {hp1 : Nat → Int32} {st1 : Nat → Int32} {tr1 : Nat → Nat → Int32} {sp1 : Nat → Int32} {vis1 : Int32} {day1 : Int32} {z1 : Int32} {hp2 : Nat → Int32} {st2 : Nat → Int32} {tr2 : Nat → Nat → Int32} {sp2 : Nat → Int32} {vis2 : Int32} {day2 : Int32} {z2 : Int32} {tb : Nat → Int32} {tl : Int32} {rtok : Int32} {rbg : Int32} {ren : Int32} {rvl : Int32} {shn : Nat → Nat → Int32} {shb : Nat → Int32} {shz : Nat → Int32} {isK : Int32} {r0 : Int32} {o_hp3 : Nat → Int32} {o_st3 : Nat → Int32} {o_tr3 : Nat → Nat → Int32} {o_sp3 : Nat → Int32} {o_vis3 : Int32} {o_day3 : Int32} {o_z3 : Int32} {o_fd : Nat → Int32} (C0 : CX (XS ta adK adV) p s m args meth c cX4_away 5 (some .int) RX4 A) {k26 : (Nat → Int32) → (Nat → Int32) → (Nat → Nat → Int32) → (Nat → Int32) → Int32 → Int32 → Int32 → (Nat → Int32) → (Nat → Int32) → (Nat → Nat → Int32) → (Nat → Int32) → Int32 → Int32 → Int32 → (Nat → Int32) → Int32 → Int32 → Int32 → Option (Int32 × (Nat → Int32) × (Nat → Int32) × (Nat → Nat → Int32) × (Nat → Int32) × Int32 × Int32 × Int32 × (Nat → Int32))} (hk26 : ∀ {hp3 : Nat → Int32} {st3 : Nat → Int32} {tr3 : Nat → Nat → Int32} {sp3 : Nat → Int32} {vis3 : Int32} {day3 : Int32} {z3 : Int32} {fd : Nat → Int32} {v1 : Int32} {v2 : Int32} {v3 : Int32} {H : Heap} {locs : List Loc} {ls : Array Slot}, GX (XS ta adK adV) D (tyC cI cB cG cS) A s (wS cI cB cG cS ad hp1 st1 tr1 sp1 vis1 day1 z1 hp2 st2 tr2 sp2 vis2 day2 z2 hp3 st3 tr3 sp3 vis3 day3 z3 tb tl rtok rbg ren rvl shn shb shz fd isK) H locs → lv_has ls 5 [(0, .ref (ad 0)), (1, .int v1), (2, .int v2), (3, .int v3)] → k26 hp1 st1 tr1 sp1 vis1 day1 z1 hp3 st3 tr3 sp3 vis3 day3 z3 fd v1 v2 v3 = some (r0, o_hp3, o_st3, o_tr3, o_sp3, o_vis3, o_day3, o_z3, o_fd) → W p l e ({ frames := 6, cells := 0, slots := 0, locals := 131 }) s m args below meth c H locs 0 0 (MQ below (QcI D (tyC cI cB cG cS) (wS cI cB cG cS ad hp1 st1 tr1 sp1 vis1 day1 z1 hp2 st2 tr2 sp2 vis2 day2 z2 o_hp3 o_st3 o_tr3 o_sp3 o_vis3 o_day3 o_z3 tb tl rtok rbg ren rvl shn shb shz o_fd isK) A r0) args s 0 0 A) (F0 m 26 ls [])) : ∀ (n : Nat) {hp3 : Nat → Int32} {st3 : Nat → Int32} {tr3 : Nat → Nat → Int32} {sp3 : Nat → Int32} {vis3 : Int32} {day3 : Int32} {z3 : Int32} {fd : Nat → Int32} {v1 : Int32} {v2 : Int32} {v3 : Int32} {v4 : Int32} {H : Heap} {locs : List Loc} {ls : Array Slot}, GX (XS ta adK adV) D (tyC cI cB cG cS) A s (wS cI cB cG cS ad hp1 st1 tr1 sp1 vis1 day1 z1 hp2 st2 tr2 sp2 vis2 day2 z2 hp3 st3 tr3 sp3 vis3 day3 z3 tb tl rtok rbg ren rvl shn shb shz fd isK) H locs → lv_has ls 5 [(0, .ref (ad 0)), (1, .int v1), (2, .int v2), (3, .int v3), (4, .int v4)] → l4_away_40 k26 n hp1 st1 tr1 sp1 vis1 day1 z1 hp3 st3 tr3 sp3 vis3 day3 z3 fd v1 v2 v3 v4 = some (r0, o_hp3, o_st3, o_tr3, o_sp3, o_vis3, o_day3, o_z3, o_fd) → W p l e ({ frames := 6, cells := 0, slots := 0, locals := 131 }) s m args below meth c H locs 0 0 (MQ below (QcI D (tyC cI cB cG cS) (wS cI cB cG cS ad hp1 st1 tr1 sp1 vis1 day1 z1 hp2 st2 tr2 sp2 vis2 day2 z2 o_hp3 o_st3 o_tr3 o_sp3 o_vis3 o_day3 o_z3 tb tl rtok rbg ren rvl shn shb shz o_fd isK) A r0) args s 0 0 A) (F0 m 40 ls []) := by
  have hx := C0.1
  have hb := C0.2.1
  have hown := C0.2.2.2.2.1
  have hts := C0.2.2.2.2.2.1
  have hX := C0.2.2.2.2.2.2.2.2
  intro n
  induction n with
  | zero =>
    intro _ _ _ _ _ _ _ _ _ _ _ _ _ _ _ G hl hf
    cases hf
  | succ n ih =>
    intro hp3 st3 tr3 sp3 vis3 day3 z3 fd v1 v2 v3 v4 H locs ls G hl hf
    rw [l4_away_40] at hf
    refine lv_iload hx hb dX4_away_40 (lv_at hl 4 rfl) ?_
    refine lv_iconst (v := (1 : Int32)) hx hb dX4_away_42 (by decide) ?_
    refine lv_aload_n hx hb dX4_away_43 rfl (lv_at hl 0 rfl) ?_
    refine s_get (C := RX4) (T := TX4) C0 G i_X4 0 0 rfl rfl (by decide) q173 rfl dX4_away_44 ?_
    refine s_get (C := RX0) (T := TX0) C0 G i_X0 1 4 rfl rfl (by decide) q92 rfl dX4_away_47 ?_
    refine lv_ishl hx hb dX4_away_50 ?_
    refine lv_icmp_ge (tgt := 83) hx hb dX4_away_51 (by decide) (fun hc10 => ?_) (fun hc10 => ?_)
    · have hf := itp hc10 hf
      refine lv_iinc (v := (v3 + (1 : Int32))) (lv' := [(3, .int (v3 + (1 : Int32))), (0, .ref (ad 0)), (1, .int v1), (2, .int v2), (4, .int v4)]) hx hb dX4_away_83 hl (k := 3) rfl rfl (by decide) rfl (fun ls hl => ?_)
      refine lv_goto (tgt := 26) hx hb dX4_away_86 (by decide) ?_
      exact hk26 G (lv_sub hl [1, 2, 3, 0] rfl) hf
    · have hf := itn hc10 hf
      refine lv_iload hx hb dX4_away_54 (lv_at hl 4 rfl) ?_
      refine go_i C0 G (runS_of (n := 1) (As := [.int v4]) (rest := []) C0 G (c6_bitCount hX rfl) q442 q57 q440 q441 o6_bitCount ⟨rfl, rfl⟩ ⟨Nat.le_of_ble_eq_true rfl, Nat.le_of_ble_eq_true rfl⟩ rfl hl.1 rfl (Nat.le_of_ble_eq_true rfl) dX4_away_56) (fun H locs G => ?_)
      refine lv_iload_n hx hb dX4_away_59 rfl (lv_at hl 3 rfl) ?_
      refine lv_icmp_ne (tgt := 77) hx hb dX4_away_60 (by decide) (fun hc11 => ?_) (fun hc11 => ?_)
      · have hf := itn hc11 hf
        exact b4_away_77 C0 hk26 ih G (lv_sub hl [0, 1, 2, 3, 4] rfl) hf
      · have hf := itp hc11 hf
        refine lv_aload_n hx hb dX4_away_63 rfl (lv_at hl 0 rfl) ?_
        refine lv_iload hx hb dX4_away_64 (lv_at hl 4 rfl) ?_
        refine lv_iload_n hx hb dX4_away_66 rfl (lv_at hl 1 rfl) ?_
        refine lv_iload_n hx hb dX4_away_67 rfl (lv_at hl 2 rfl) ?_
        obtain ⟨r12, hp3_13, st3_14, tr3_15, sp3_16, vis3_17, day3_18, z3_19, hc20, hf⟩ := ob8_s hf
        refine go_i C0 G (runV_of (n := 3) (q0 := 0) (As := [.int v4, .int v1, .int v2]) (rest := []) C0 G (c4_isUpWithout hX hc20) q449 q49 q446 q448 q6 o4_isUpWithout ⟨rfl, rfl⟩ ⟨Nat.le_of_ble_eq_true rfl, Nat.le_of_ble_eq_true rfl⟩ rfl rfl rfl hl.1 rfl (Nat.le_of_ble_eq_true rfl) dX4_away_68) (fun H locs G => ?_)
        refine lv_if_eq (tgt := 77) hx hb dX4_away_71 (by decide) (fun hc21 => ?_) (fun hc21 => ?_)
        · have hf := itp hc21 hf
          exact b4_away_77 C0 hk26 ih G (lv_sub hl [0, 1, 2, 3, 4] rfl) hf
        · have hf := itn hc21 hf
          refine lv_iload hx hb dX4_away_74 (lv_at hl 4 rfl) ?_
          obtain ⟨rfl, rfl, rfl, rfl, rfl, rfl, rfl, rfl, rfl⟩ := inj9 hf
          exact ret_i C0 G dX4_away_76
set_option maxHeartbeats 4000000 in
set_option maxRecDepth 100000 in
theorem b4_away_26 {ta adK adV : Nat → Nat} {p : Program} {l : Launch} {e : Env} {s : State} {m : MethodId} {args : Array Value} {below : List Frame} {meth : Method} {c : Code} {D : va_G} {cI cB cG cS : ClassId} {ad : Nat → Nat} {A : Nat → Prop} {hp1 : Nat → Int32} {st1 : Nat → Int32} {tr1 : Nat → Nat → Int32} {sp1 : Nat → Int32} {vis1 : Int32} {day1 : Int32} {z1 : Int32} {hp2 : Nat → Int32} {st2 : Nat → Int32} {tr2 : Nat → Nat → Int32} {sp2 : Nat → Int32} {vis2 : Int32} {day2 : Int32} {z2 : Int32} {tb : Nat → Int32} {tl : Int32} {rtok : Int32} {rbg : Int32} {ren : Int32} {rvl : Int32} {shn : Nat → Nat → Int32} {shb : Nat → Int32} {shz : Nat → Int32} {isK : Int32} {r0 : Int32} {o_hp3 : Nat → Int32} {o_st3 : Nat → Int32} {o_tr3 : Nat → Nat → Int32} {o_sp3 : Nat → Int32} {o_vis3 : Int32} {o_day3 : Int32} {o_z3 : Int32} {o_fd : Nat → Int32} (C0 : CX (XS ta adK adV) p s m args meth c cX4_away 5 (some .int) RX4 A) : ∀ (n : Nat) {hp3 : Nat → Int32} {st3 : Nat → Int32} {tr3 : Nat → Nat → Int32} {sp3 : Nat → Int32} {vis3 : Int32} {day3 : Int32} {z3 : Int32} {fd : Nat → Int32} {v1 : Int32} {v2 : Int32} {v3 : Int32} {H : Heap} {locs : List Loc} {ls : Array Slot}, GX (XS ta adK adV) D (tyC cI cB cG cS) A s (wS cI cB cG cS ad hp1 st1 tr1 sp1 vis1 day1 z1 hp2 st2 tr2 sp2 vis2 day2 z2 hp3 st3 tr3 sp3 vis3 day3 z3 tb tl rtok rbg ren rvl shn shb shz fd isK) H locs → lv_has ls 5 [(0, .ref (ad 0)), (1, .int v1), (2, .int v2), (3, .int v3)] → l4_away_26  n hp1 st1 tr1 sp1 vis1 day1 z1 hp3 st3 tr3 sp3 vis3 day3 z3 fd v1 v2 v3 = some (r0, o_hp3, o_st3, o_tr3, o_sp3, o_vis3, o_day3, o_z3, o_fd) → W p l e ({ frames := 6, cells := 0, slots := 0, locals := 131 }) s m args below meth c H locs 0 0 (MQ below (QcI D (tyC cI cB cG cS) (wS cI cB cG cS ad hp1 st1 tr1 sp1 vis1 day1 z1 hp2 st2 tr2 sp2 vis2 day2 z2 o_hp3 o_st3 o_tr3 o_sp3 o_vis3 o_day3 o_z3 tb tl rtok rbg ren rvl shn shb shz o_fd isK) A r0) args s 0 0 A) (F0 m 26 ls []) := by
  have hx := C0.1
  have hb := C0.2.1
  have hown := C0.2.2.2.2.1
  have hts := C0.2.2.2.2.2.1
  have hX := C0.2.2.2.2.2.2.2.2
  intro n
  induction n with
  | zero =>
    intro _ _ _ _ _ _ _ _ _ _ _ _ _ _ G hl hf
    cases hf
  | succ n ih =>
    intro hp3 st3 tr3 sp3 vis3 day3 z3 fd v1 v2 v3 H locs ls G hl hf
    rw [l4_away_26] at hf
    refine lv_iload_n hx hb dX4_away_26 rfl (lv_at hl 3 rfl) ?_
    refine lv_aload_n hx hb dX4_away_27 rfl (lv_at hl 0 rfl) ?_
    refine s_get (C := RX4) (T := TX4) C0 G i_X4 0 0 rfl rfl (by decide) q173 rfl dX4_away_28 ?_
    refine s_get (C := RX0) (T := TX0) C0 G i_X0 1 4 rfl rfl (by decide) q92 rfl dX4_away_31 ?_
    refine lv_icmp_gt (tgt := 89) hx hb dX4_away_34 (by decide) (fun hc6 => ?_) (fun hc6 => ?_)
    · have hf := itp hc6 hf
      refine lv_aload_n hx hb dX4_away_89 rfl (lv_at hl 0 rfl) ?_
      refine lv_iconst (v := (3 : Int32)) hx hb dX4_away_90 (by decide) ?_
      obtain ⟨r7, fd_8, hc9, hf⟩ := ob2_s hf
      refine go_i C0 G (runV_of (n := 1) (q0 := 0) (As := [.int (3 : Int32)]) (rest := []) C0 G (c4_found hX hc9) q208 q49 q205 q207 q0 o4_found ⟨rfl, rfl⟩ ⟨Nat.le_of_ble_eq_true rfl, Nat.le_of_ble_eq_true rfl⟩ rfl rfl rfl hl.1 rfl (Nat.le_of_ble_eq_true rfl) dX4_away_91) (fun H locs G => ?_)
      obtain ⟨rfl, rfl, rfl, rfl, rfl, rfl, rfl, rfl, rfl⟩ := inj9 hf
      exact ret_i C0 G dX4_away_94
    · have hf := itn hc6 hf
      refine lv_iconst (v := (0 : Int32)) hx hb dX4_away_37 (by decide) ?_
      refine lv_istore (lv' := [(4, .int (0 : Int32)), (0, .ref (ad 0)), (1, .int v1), (2, .int v2), (3, .int v3)]) hx hb dX4_away_38 hl (by decide) rfl (fun ls hl => ?_)
      exact b4_away_40 C0 ih 1000 G (lv_sub hl [1, 2, 3, 4, 0] rfl) hf
set_option maxHeartbeats 4000000 in
set_option maxRecDepth 100000 in
theorem b4_away_0 {ta adK adV : Nat → Nat} {p : Program} {l : Launch} {e : Env} {s : State} {m : MethodId} {args : Array Value} {below : List Frame} {meth : Method} {c : Code} {D : va_G} {cI cB cG cS : ClassId} {ad : Nat → Nat} {A : Nat → Prop} {hp1 : Nat → Int32} {st1 : Nat → Int32} {tr1 : Nat → Nat → Int32} {sp1 : Nat → Int32} {vis1 : Int32} {day1 : Int32} {z1 : Int32} {hp2 : Nat → Int32} {st2 : Nat → Int32} {tr2 : Nat → Nat → Int32} {sp2 : Nat → Int32} {vis2 : Int32} {day2 : Int32} {z2 : Int32} {tb : Nat → Int32} {tl : Int32} {rtok : Int32} {rbg : Int32} {ren : Int32} {rvl : Int32} {shn : Nat → Nat → Int32} {shb : Nat → Int32} {shz : Nat → Int32} {isK : Int32} {r0 : Int32} {o_hp3 : Nat → Int32} {o_st3 : Nat → Int32} {o_tr3 : Nat → Nat → Int32} {o_sp3 : Nat → Int32} {o_vis3 : Int32} {o_day3 : Int32} {o_z3 : Int32} {o_fd : Nat → Int32} (C0 : CX (XS ta adK adV) p s m args meth c cX4_away 5 (some .int) RX4 A) : ∀ {hp3 : Nat → Int32} {st3 : Nat → Int32} {tr3 : Nat → Nat → Int32} {sp3 : Nat → Int32} {vis3 : Int32} {day3 : Int32} {z3 : Int32} {fd : Nat → Int32} {v1 : Int32} {v2 : Int32} {H : Heap} {locs : List Loc} {ls : Array Slot}, GX (XS ta adK adV) D (tyC cI cB cG cS) A s (wS cI cB cG cS ad hp1 st1 tr1 sp1 vis1 day1 z1 hp2 st2 tr2 sp2 vis2 day2 z2 hp3 st3 tr3 sp3 vis3 day3 z3 tb tl rtok rbg ren rvl shn shb shz fd isK) H locs → lv_has ls 5 [(0, .ref (ad 0)), (1, .int v1), (2, .int v2)] → f4_away hp1 st1 tr1 sp1 vis1 day1 z1 hp3 st3 tr3 sp3 vis3 day3 z3 fd v1 v2 = some (r0, o_hp3, o_st3, o_tr3, o_sp3, o_vis3, o_day3, o_z3, o_fd) → W p l e ({ frames := 6, cells := 0, slots := 0, locals := 131 }) s m args below meth c H locs 0 0 (MQ below (QcI D (tyC cI cB cG cS) (wS cI cB cG cS ad hp1 st1 tr1 sp1 vis1 day1 z1 hp2 st2 tr2 sp2 vis2 day2 z2 o_hp3 o_st3 o_tr3 o_sp3 o_vis3 o_day3 o_z3 tb tl rtok rbg ren rvl shn shb shz o_fd isK) A r0) args s 0 0 A) (F0 m 0 ls []) := by
  have hx := C0.1
  have hb := C0.2.1
  have hown := C0.2.2.2.2.1
  have hts := C0.2.2.2.2.2.1
  have hX := C0.2.2.2.2.2.2.2.2
  intro hp3 st3 tr3 sp3 vis3 day3 z3 fd v1 v2 H locs ls G hl hf
  unfold f4_away at hf
  refine lv_aload_n hx hb dX4_away_0 rfl (lv_at hl 0 rfl) ?_
  refine lv_iload_n hx hb dX4_away_1 rfl (lv_at hl 1 rfl) ?_
  refine go_i C0 G (runV_of (n := 1) (q0 := 0) (As := [.int v1]) (rest := []) C0 G (c4_isVisitor hX rfl) q261 q49 q258 q260 q1 o4_isVisitor ⟨rfl, rfl⟩ ⟨Nat.le_of_ble_eq_true rfl, Nat.le_of_ble_eq_true rfl⟩ rfl rfl rfl hl.1 rfl (Nat.le_of_ble_eq_true rfl) dX4_away_2) (fun H locs G => ?_)
  refine lv_if_eq (tgt := 18) hx hb dX4_away_5 (by decide) (fun hc1 => ?_) (fun hc1 => ?_)
  · have hf := itp hc1 hf
    exact b4_away_18 C0  G (lv_sub hl [0] rfl) hf
  · have hf := itn hc1 hf
    refine lv_iload_n hx hb dX4_away_8 rfl (lv_at hl 2 rfl) ?_
    refine lv_iconst (v := (0 : Int32)) hx hb dX4_away_9 (by decide) ?_
    refine lv_bipush (v := (12 : Int32)) hx hb dX4_away_10 (by decide) ?_
    refine go_i C0 G (runS_of (n := 3) (As := [.int v2, .int (0 : Int32), .int (12 : Int32)]) (rest := []) C0 G (c4_within hX rfl) q204 q49 q202 q203 o4_within ⟨rfl, rfl⟩ ⟨Nat.le_of_ble_eq_true rfl, Nat.le_of_ble_eq_true rfl⟩ rfl hl.1 rfl (Nat.le_of_ble_eq_true rfl) dX4_away_12) (fun H locs G => ?_)
    refine lv_if_ne (tgt := 24) hx hb dX4_away_15 (by decide) (fun hc2 => ?_) (fun hc2 => ?_)
    · have hf := itn hc2 hf
      refine lv_iconst (v := (0 : Int32)) hx hb dX4_away_24 (by decide) ?_
      refine lv_istore_n (lv' := [(3, .int (0 : Int32)), (0, .ref (ad 0)), (1, .int v1), (2, .int v2)]) hx hb dX4_away_25 rfl hl (by decide) rfl (fun ls hl => ?_)
      exact b4_away_26 C0  1000 G (lv_sub hl [1, 2, 3, 0] rfl) hf
    · have hf := itp hc2 hf
      exact b4_away_18 C0  G (lv_sub hl [0] rfl) hf
theorem o4_away : okName yX4_away 2 := ⟨by decide, by decide, by decide +kernel⟩
set_option maxHeartbeats 4000000 in
set_option maxRecDepth 100000 in
theorem c4_away {ta adK adV : Nat → Nat} (hX : XT (XS ta adK adV)) {l : Launch} {D : va_G} {cI cB cG cS : ClassId} {ad : Nat → Nat} {sz : Nat} {hp1 : Nat → Int32} {st1 : Nat → Int32} {tr1 : Nat → Nat → Int32} {sp1 : Nat → Int32} {vis1 : Int32} {day1 : Int32} {z1 : Int32} {hp2 : Nat → Int32} {st2 : Nat → Int32} {tr2 : Nat → Nat → Int32} {sp2 : Nat → Int32} {vis2 : Int32} {day2 : Int32} {z2 : Int32} {hp3 : Nat → Int32} {st3 : Nat → Int32} {tr3 : Nat → Nat → Int32} {sp3 : Nat → Int32} {vis3 : Int32} {day3 : Int32} {z3 : Int32} {tb : Nat → Int32} {tl : Int32} {rtok : Int32} {rbg : Int32} {ren : Int32} {rvl : Int32} {shn : Nat → Nat → Int32} {shb : Nat → Int32} {shz : Nat → Int32} {fd : Nat → Int32} {isK : Int32} {v1 : Int32} {v2 : Int32} {r0 : Int32} {o_hp3 : Nat → Int32} {o_st3 : Nat → Int32} {o_tr3 : Nat → Nat → Int32} {o_sp3 : Nat → Int32} {o_vis3 : Int32} {o_day3 : Int32} {o_z3 : Int32} {o_fd : Nat → Int32} (hf : f4_away hp1 st1 tr1 sp1 vis1 day1 z1 hp3 st3 tr3 sp3 vis3 day3 z3 fd v1 v2 = some (r0, o_hp3, o_st3, o_tr3, o_sp3, o_vis3, o_day3, o_z3, o_fd)) : Met l yX4_away (wU yX4_away cX4_away 5 (some .int)) ({ frames := 6, cells := 0, slots := 0, locals := 131 }) (va_Pc [.ref (ad 0), .int v1, .int v2] (PreW (XS ta adK adV) D (tyC cI cB cG cS) (wS cI cB cG cS ad hp1 st1 tr1 sp1 vis1 day1 z1 hp2 st2 tr2 sp2 vis2 day2 z2 hp3 st3 tr3 sp3 vis3 day3 z3 tb tl rtok rbg ren rvl shn shb shz fd isK) sz)) (QcI D (tyC cI cB cG cS) (wS cI cB cG cS ad hp1 st1 tr1 sp1 vis1 day1 z1 hp2 st2 tr2 sp2 vis2 day2 z2 o_hp3 o_st3 o_tr3 o_sp3 o_vis3 o_day3 o_z3 tb tl rtok rbg ren rvl shn shb shz o_fd isK) (va_A (wS cI cB cG cS ad hp1 st1 tr1 sp1 vis1 day1 z1 hp2 st2 tr2 sp2 vis2 day2 z2 hp3 st3 tr3 sp3 vis3 day3 z3 tb tl rtok rbg ren rvl shn shb shz fd isK) sz) r0) 0 0 (va_A (wS cI cB cG cS ad hp1 st1 tr1 sp1 vis1 day1 z1 hp2 st2 tr2 sp2 vis2 day2 z2 hp3 st3 tr3 sp3 vis3 day3 z3 tb tl rtok rbg ren rvl shn shb shz fd isK) sz) := by
  refine startW hX (own := RX4) (by decide) rfl (Nat.le_of_ble_eq_true rfl) (fun p e s m args below meth c ls C0 G hl => ?_)
  exact b4_away_0 C0 G hl hf
/-! 4_isSheet -/
theorem dX4_isSheet_0 : decode cX4_isSheet 0 = .ok (.iload_n 0, 1) := by decide +kernel
theorem dX4_isSheet_1 : decode cX4_isSheet 1 = .ok (.iconst 0, 1) := by decide +kernel
theorem dX4_isSheet_2 : decode cX4_isSheet 2 = .ok (.iconst 3, 1) := by decide +kernel
theorem dX4_isSheet_3 : decode cX4_isSheet 3 = .ok (.invokestatic 45, 3) := by decide +kernel
theorem dX4_isSheet_6 : decode cX4_isSheet 6 = .ok (.ireturn, 1) := by decide +kernel
def f4_isSheet  (v0 : Int32) : Int32 :=
  (f4_within v0 (0 : Int32) (3 : Int32))
set_option maxHeartbeats 4000000 in
set_option maxRecDepth 100000 in
theorem b4_isSheet_0 {ta adK adV : Nat → Nat} {p : Program} {l : Launch} {e : Env} {s : State} {m : MethodId} {args : Array Value} {below : List Frame} {meth : Method} {c : Code} {D : va_G} {tys : List (ClassId × FieldType)} {w0 : va_W} {A : Nat → Prop}  {r0 : Int32} (C0 : CX (XS ta adK adV) p s m args meth c cX4_isSheet 1 (some .boolean) RX4 A) : ∀ {v0 : Int32} {H : Heap} {locs : List Loc} {ls : Array Slot}, GX (XS ta adK adV) D tys A s w0 H locs → lv_has ls 1 [(0, .int v0)] → f4_isSheet v0 = r0 → W p l e ({ frames := 1, cells := 0, slots := 0, locals := 22 }) s m args below meth c H locs 0 0 (MQ below (QcI D tys w0 A r0) args s 0 0 A) (F0 m 0 ls []) := by
  have hx := C0.1
  have hb := C0.2.1
  have hown := C0.2.2.2.2.1
  have hts := C0.2.2.2.2.2.1
  have hX := C0.2.2.2.2.2.2.2.2
  intro v0 H locs ls G hl hf
  unfold f4_isSheet at hf
  refine lv_iload_n hx hb dX4_isSheet_0 rfl (lv_at hl 0 rfl) ?_
  refine lv_iconst (v := (0 : Int32)) hx hb dX4_isSheet_1 (by decide) ?_
  refine lv_iconst (v := (3 : Int32)) hx hb dX4_isSheet_2 (by decide) ?_
  refine go_i C0 G (runS_of (n := 3) (As := [.int v0, .int (0 : Int32), .int (3 : Int32)]) (rest := []) C0 G (c4_within hX rfl) q204 q49 q202 q203 o4_within ⟨rfl, rfl⟩ ⟨Nat.le_of_ble_eq_true rfl, Nat.le_of_ble_eq_true rfl⟩ rfl hl.1 rfl (Nat.le_of_ble_eq_true rfl) dX4_isSheet_3) (fun H locs G => ?_)
  obtain rfl := tnj1 hf
  exact ret_z C0 G (b01_n (z4_within _ _ _)) dX4_isSheet_6
theorem z4_isSheet  (v0 : Int32) : b01 (f4_isSheet v0) = true := by
  unfold f4_isSheet
  (repeat' split) <;> first | rfl | exact z4_within _ _ _
theorem o4_isSheet : okName yX4_isSheet 1 := ⟨by decide, by decide, by decide +kernel⟩
set_option maxHeartbeats 4000000 in
set_option maxRecDepth 100000 in
theorem c4_isSheet {ta adK adV : Nat → Nat} (hX : XT (XS ta adK adV)) {l : Launch} {D : va_G} {tys : List (ClassId × FieldType)} {w0 : va_W} {sz : Nat}  {v0 : Int32} {r0 : Int32} (hf : f4_isSheet v0 = r0) : Met l yX4_isSheet (wU yX4_isSheet cX4_isSheet 1 (some .boolean)) ({ frames := 1, cells := 0, slots := 0, locals := 22 }) (va_Pc [.int v0] (PreW (XS ta adK adV) D tys w0 sz)) (QcI D tys w0 (va_A w0 sz) r0) 0 0 (va_A w0 sz) := by
  refine startW hX (own := RX4) (by decide) rfl (Nat.le_of_ble_eq_true rfl) (fun p e s m args below meth c ls C0 G hl => ?_)
  exact b4_isSheet_0 C0 G hl hf
/-! 1_isMissing -/
theorem dX1_isMissing_0 : decode cX1_isMissing 0 = .ok (.aload_n 0, 1) := by decide +kernel
theorem dX1_isMissing_1 : decode cX1_isMissing 1 = .ok (.getfield 15, 3) := by decide +kernel
theorem dX1_isMissing_4 : decode cX1_isMissing 4 = .ok (.ifCond .ne 7, 3) := by decide +kernel
theorem dX1_isMissing_7 : decode cX1_isMissing 7 = .ok (.iconst 1, 1) := by decide +kernel
theorem dX1_isMissing_8 : decode cX1_isMissing 8 = .ok (.goto 4, 3) := by decide +kernel
theorem dX1_isMissing_11 : decode cX1_isMissing 11 = .ok (.iconst 0, 1) := by decide +kernel
theorem dX1_isMissing_12 : decode cX1_isMissing 12 = .ok (.ireturn, 1) := by decide +kernel
def f1_isMissing (t : Nat) (shb : Nat → Int32)  : Int32 :=
  if (shb t) = (0 : Int32) then (
    (1 : Int32))
  else (
    (0 : Int32))
set_option maxHeartbeats 4000000 in
set_option maxRecDepth 100000 in
theorem b1_isMissing_0 {ta adK adV : Nat → Nat} {p : Program} {l : Launch} {e : Env} {s : State} {m : MethodId} {args : Array Value} {below : List Frame} {meth : Method} {c : Code} {D : va_G} {cI cB cG cS : ClassId} {ad : Nat → Nat} {A : Nat → Prop} {t : Nat} {shn : Nat → Nat → Int32} {shb : Nat → Int32} {shz : Nat → Int32} {r0 : Int32} (C0 : CX (XS ta adK adV) p s m args meth c cX1_isMissing 1 (some .boolean) RX1 A) (ht : t < 4) : ∀ {H : Heap} {locs : List Loc} {ls : Array Slot}, GX (XS ta adK adV) D (tyC cI cB cG cS) A s (wH cI ad shn shb shz) H locs → lv_has ls 1 [(0, .ref (ad (2 * t)))] → f1_isMissing t shb = r0 → W p l e ({ frames := 0, cells := 0, slots := 0, locals := 0 }) s m args below meth c H locs 0 0 (MQ below (QcI D (tyC cI cB cG cS) (wH cI ad shn shb shz) A r0) args s 0 0 A) (F0 m 0 ls []) := by
  have hx := C0.1
  have hb := C0.2.1
  have hown := C0.2.2.2.2.1
  have hts := C0.2.2.2.2.2.1
  have hX := C0.2.2.2.2.2.2.2.2
  intro H locs ls G hl hf
  unfold f1_isMissing at hf
  refine lv_aload_n hx hb dX1_isMissing_0 rfl (lv_at hl 0 rfl) ?_
  refine s_get (C := RX1) (T := TX1) C0 G i_X1 (2 * t) 1 (wH_sh ht) rfl (by decide) q162 rfl dX1_isMissing_1 ?_
  refine lv_if_ne (tgt := 11) hx hb dX1_isMissing_4 (by decide) (fun hc1 => ?_) (fun hc1 => ?_)
  · have hf := itn hc1 hf
    refine lv_iconst (v := (0 : Int32)) hx hb dX1_isMissing_11 (by decide) ?_
    obtain rfl := tnj1 hf
    exact ret_z C0 G rfl dX1_isMissing_12
  · have hf := itp hc1 hf
    refine lv_iconst (v := (1 : Int32)) hx hb dX1_isMissing_7 (by decide) ?_
    refine lv_goto (tgt := 12) hx hb dX1_isMissing_8 (by decide) ?_
    obtain rfl := tnj1 hf
    exact ret_z C0 G rfl dX1_isMissing_12
theorem z1_isMissing (t : Nat) (shb : Nat → Int32)  : b01 (f1_isMissing t shb) = true := by
  unfold f1_isMissing
  (repeat' split) <;> first | rfl
theorem o1_isMissing : okName yX1_isMissing 0 := ⟨by decide, by decide, by decide +kernel⟩
set_option maxHeartbeats 4000000 in
set_option maxRecDepth 100000 in
theorem c1_isMissing {ta adK adV : Nat → Nat} (hX : XT (XS ta adK adV)) {l : Launch} {D : va_G} {cI cB cG cS : ClassId} {ad : Nat → Nat} {sz : Nat} {t : Nat} {shn : Nat → Nat → Int32} {shb : Nat → Int32} {shz : Nat → Int32}  {r0 : Int32} (ht : t < 4) (hf : f1_isMissing t shb = r0) : Met l yX1_isMissing (wU yX1_isMissing cX1_isMissing 1 (some .boolean)) ({ frames := 0, cells := 0, slots := 0, locals := 0 }) (va_Pc [.ref (ad (2 * t))] (PreW (XS ta adK adV) D (tyC cI cB cG cS) (wH cI ad shn shb shz) sz)) (QcI D (tyC cI cB cG cS) (wH cI ad shn shb shz) (va_A (wH cI ad shn shb shz) sz) r0) 0 0 (va_A (wH cI ad shn shb shz) sz) := by
  refine startW hX (own := RX1) (by decide) rfl (Nat.le_of_ble_eq_true rfl) (fun p e s m args below meth c ls C0 G hl => ?_)
  exact b1_isMissing_0 C0 ht G hl hf
/-! 1_tells -/
theorem dX1_tells_0 : decode cX1_tells 0 = .ok (.aload_n 0, 1) := by decide +kernel
theorem dX1_tells_1 : decode cX1_tells 1 = .ok (.getfield 19, 3) := by decide +kernel
theorem dX1_tells_4 : decode cX1_tells 4 = .ok (.aload_n 1, 1) := by decide +kernel
theorem dX1_tells_5 : decode cX1_tells 5 = .ok (.arraylength, 1) := by decide +kernel
theorem dX1_tells_6 : decode cX1_tells 6 = .ok (.invokestatic 22, 3) := by decide +kernel
theorem dX1_tells_9 : decode cX1_tells 9 = .ok (.istore_n 2, 1) := by decide +kernel
theorem dX1_tells_10 : decode cX1_tells 10 = .ok (.iconst 0, 1) := by decide +kernel
theorem dX1_tells_11 : decode cX1_tells 11 = .ok (.istore_n 3, 1) := by decide +kernel
theorem dX1_tells_12 : decode cX1_tells 12 = .ok (.iload_n 3, 1) := by decide +kernel
theorem dX1_tells_13 : decode cX1_tells 13 = .ok (.iload_n 2, 1) := by decide +kernel
theorem dX1_tells_14 : decode cX1_tells 14 = .ok (.if_icmp .ge 33, 3) := by decide +kernel
theorem dX1_tells_17 : decode cX1_tells 17 = .ok (.aload_n 0, 1) := by decide +kernel
theorem dX1_tells_18 : decode cX1_tells 18 = .ok (.getfield 9, 3) := by decide +kernel
theorem dX1_tells_21 : decode cX1_tells 21 = .ok (.iload_n 3, 1) := by decide +kernel
theorem dX1_tells_22 : decode cX1_tells 22 = .ok (.iaload, 1) := by decide +kernel
theorem dX1_tells_23 : decode cX1_tells 23 = .ok (.iconst (-1), 1) := by decide +kernel
theorem dX1_tells_24 : decode cX1_tells 24 = .ok (.if_icmp .eq 17, 3) := by decide +kernel
theorem dX1_tells_27 : decode cX1_tells 27 = .ok (.aload_n 0, 1) := by decide +kernel
theorem dX1_tells_28 : decode cX1_tells 28 = .ok (.getfield 9, 3) := by decide +kernel
theorem dX1_tells_31 : decode cX1_tells 31 = .ok (.iload_n 3, 1) := by decide +kernel
theorem dX1_tells_32 : decode cX1_tells 32 = .ok (.iaload, 1) := by decide +kernel
theorem dX1_tells_33 : decode cX1_tells 33 = .ok (.aload_n 1, 1) := by decide +kernel
theorem dX1_tells_34 : decode cX1_tells 34 = .ok (.iload_n 3, 1) := by decide +kernel
theorem dX1_tells_35 : decode cX1_tells 35 = .ok (.iaload, 1) := by decide +kernel
theorem dX1_tells_36 : decode cX1_tells 36 = .ok (.if_icmp .eq 5, 3) := by decide +kernel
theorem dX1_tells_39 : decode cX1_tells 39 = .ok (.iconst 0, 1) := by decide +kernel
theorem dX1_tells_40 : decode cX1_tells 40 = .ok (.ireturn, 1) := by decide +kernel
theorem dX1_tells_41 : decode cX1_tells 41 = .ok (.iinc 3 1, 3) := by decide +kernel
theorem dX1_tells_44 : decode cX1_tells 44 = .ok (.goto (-32), 3) := by decide +kernel
theorem dX1_tells_47 : decode cX1_tells 47 = .ok (.iconst 1, 1) := by decide +kernel
theorem dX1_tells_48 : decode cX1_tells 48 = .ok (.ireturn, 1) := by decide +kernel
def j1_tells_41 (k12 : Nat → (Nat → Nat → Int32) → (Nat → Int32) → (Nat → Int32) → Int32 → Int32 → Option (Int32)) (t : Nat) (shn : Nat → Nat → Int32) (shz : Nat → Int32) (hp : Nat → Int32) (v2 : Int32) (v3 : Int32) : Option (Int32) :=
  k12 t shn shz hp v2 (v3 + (1 : Int32))
def l1_tells_12  : Nat → Nat → (Nat → Nat → Int32) → (Nat → Int32) → (Nat → Int32) → Int32 → Int32 → Option (Int32)
  | 0, _, _, _, _, _, _ => none
  | n + 1, t, shn, shz, hp, v2, v3 =>
    if v2 ≤ v3 then (
      some (1 : Int32))
    else (
      gd (inb v3 40) (
      if ((shn t) v3.toNatClampNeg) = (-1 : Int32) then (
        j1_tells_41 (l1_tells_12 n) t shn shz hp v2 v3)
      else (
        gd (inb v3 40) (
        gd (inb v3 16) (
        if ((shn t) v3.toNatClampNeg) = (hp v3.toNatClampNeg) then (
          j1_tells_41 (l1_tells_12 n) t shn shz hp v2 v3)
        else (
          some (0 : Int32)))))))
def f1_tells (t : Nat) (shn : Nat → Nat → Int32) (shz : Nat → Int32) (hp : Nat → Int32)  : Option (Int32) :=
  l1_tells_12 1000 t shn shz hp (jmin (shz t) (16 : Int32)) (0 : Int32)
set_option maxHeartbeats 4000000 in
set_option maxRecDepth 100000 in
theorem b1_tells_41 {ta adK adV : Nat → Nat} {p : Program} {l : Launch} {e : Env} {s : State} {m : MethodId} {args : Array Value} {below : List Frame} {meth : Method} {c : Code} {D : va_G} {cI cB cG cS : ClassId} {ad : Nat → Nat} {ah : Nat} {A : Nat → Prop} {t : Nat} {shn : Nat → Nat → Int32} {shb : Nat → Int32} {shz : Nat → Int32} {hp : Nat → Int32} {r0 : Int32} (C0 : CX (XS ta adK adV) p s m args meth c cX1_tells 4 (some .boolean) RX1 A) (ht : t < 4) {k12 : Nat → (Nat → Nat → Int32) → (Nat → Int32) → (Nat → Int32) → Int32 → Int32 → Option (Int32)} (hk12 : ∀ {v2 : Int32} {v3 : Int32} {H : Heap} {locs : List Loc} {ls : Array Slot}, GX (XS ta adK adV) D (tyC cI cB cG cS) A s (wHp cI ad ah shn shb shz hp) H locs → lv_has ls 4 [(0, .ref (ad (2 * t))), (1, .ref ah), (2, .int v2), (3, .int v3)] → k12 t shn shz hp v2 v3 = some r0 → W p l e ({ frames := 1, cells := 0, slots := 0, locals := 13 }) s m args below meth c H locs 0 0 (MQ below (QcI D (tyC cI cB cG cS) (wHp cI ad ah shn shb shz hp) A r0) args s 0 0 A) (F0 m 12 ls [])) : ∀ {v2 : Int32} {v3 : Int32} {H : Heap} {locs : List Loc} {ls : Array Slot}, GX (XS ta adK adV) D (tyC cI cB cG cS) A s (wHp cI ad ah shn shb shz hp) H locs → lv_has ls 4 [(0, .ref (ad (2 * t))), (1, .ref ah), (2, .int v2), (3, .int v3)] → j1_tells_41 k12 t shn shz hp v2 v3 = some r0 → W p l e ({ frames := 1, cells := 0, slots := 0, locals := 13 }) s m args below meth c H locs 0 0 (MQ below (QcI D (tyC cI cB cG cS) (wHp cI ad ah shn shb shz hp) A r0) args s 0 0 A) (F0 m 41 ls []) := by
  have hx := C0.1
  have hb := C0.2.1
  have hown := C0.2.2.2.2.1
  have hts := C0.2.2.2.2.2.1
  have hX := C0.2.2.2.2.2.2.2.2
  intro v2 v3 H locs ls G hl hf
  unfold j1_tells_41 at hf
  refine lv_iinc (v := (v3 + (1 : Int32))) (lv' := [(3, .int (v3 + (1 : Int32))), (0, .ref (ad (2 * t))), (1, .ref ah), (2, .int v2)]) hx hb dX1_tells_41 hl (k := 3) rfl rfl (by decide) rfl (fun ls hl => ?_)
  refine lv_goto (tgt := 12) hx hb dX1_tells_44 (by decide) ?_
  exact hk12 G (lv_sub hl [1, 2, 3, 0] rfl) hf
set_option maxHeartbeats 4000000 in
set_option maxRecDepth 100000 in
theorem b1_tells_12 {ta adK adV : Nat → Nat} {p : Program} {l : Launch} {e : Env} {s : State} {m : MethodId} {args : Array Value} {below : List Frame} {meth : Method} {c : Code} {D : va_G} {cI cB cG cS : ClassId} {ad : Nat → Nat} {ah : Nat} {A : Nat → Prop} {t : Nat} {shn : Nat → Nat → Int32} {shb : Nat → Int32} {shz : Nat → Int32} {hp : Nat → Int32} {r0 : Int32} (C0 : CX (XS ta adK adV) p s m args meth c cX1_tells 4 (some .boolean) RX1 A) (ht : t < 4) : ∀ (n : Nat) {v2 : Int32} {v3 : Int32} {H : Heap} {locs : List Loc} {ls : Array Slot}, GX (XS ta adK adV) D (tyC cI cB cG cS) A s (wHp cI ad ah shn shb shz hp) H locs → lv_has ls 4 [(0, .ref (ad (2 * t))), (1, .ref ah), (2, .int v2), (3, .int v3)] → l1_tells_12  n t shn shz hp v2 v3 = some r0 → W p l e ({ frames := 1, cells := 0, slots := 0, locals := 13 }) s m args below meth c H locs 0 0 (MQ below (QcI D (tyC cI cB cG cS) (wHp cI ad ah shn shb shz hp) A r0) args s 0 0 A) (F0 m 12 ls []) := by
  have hx := C0.1
  have hb := C0.2.1
  have hown := C0.2.2.2.2.1
  have hts := C0.2.2.2.2.2.1
  have hX := C0.2.2.2.2.2.2.2.2
  intro n
  induction n with
  | zero =>
    intro _ _ _ _ _ G hl hf
    cases hf
  | succ n ih =>
    intro v2 v3 H locs ls G hl hf
    rw [l1_tells_12] at hf
    refine lv_iload_n hx hb dX1_tells_12 rfl (lv_at hl 3 rfl) ?_
    refine lv_iload_n hx hb dX1_tells_13 rfl (lv_at hl 2 rfl) ?_
    refine lv_icmp_ge (tgt := 47) hx hb dX1_tells_14 (by decide) (fun hc1 => ?_) (fun hc1 => ?_)
    · have hf := itp hc1 hf
      refine lv_iconst (v := (1 : Int32)) hx hb dX1_tells_47 (by decide) ?_
      obtain rfl := inj1 hf
      exact ret_z C0 G rfl dX1_tells_48
    · have hf := itn hc1 hf
      refine lv_aload_n hx hb dX1_tells_17 rfl (lv_at hl 0 rfl) ?_
      refine s_get (C := RX1) (T := TX1) C0 G i_X1 (2 * t) 0 (wHp_sh ht) rfl (by decide) q160 rfl dX1_tells_18 ?_
      refine lv_iload_n hx hb dX1_tells_21 rfl (lv_at hl 3 rfl) ?_
      obtain ⟨hi2, hf⟩ := gd_s hf
      refine s_iald (k := v3.toNatClampNeg) C0 G (2 * t + 1) 0 (wHp_shn ht) rfl (vin hi2) rfl dX1_tells_22 ?_
      refine lv_iconst (v := (-1 : Int32)) hx hb dX1_tells_23 (by decide) ?_
      refine lv_icmp_eq (tgt := 41) hx hb dX1_tells_24 (by decide) (fun hc3 => ?_) (fun hc3 => ?_)
      · have hf := itp hc3 hf
        exact b1_tells_41 C0 ht ih G (lv_sub hl [0, 1, 2, 3] rfl) hf
      · have hf := itn hc3 hf
        refine lv_aload_n hx hb dX1_tells_27 rfl (lv_at hl 0 rfl) ?_
        refine s_get (C := RX1) (T := TX1) C0 G i_X1 (2 * t) 0 (wHp_sh ht) rfl (by decide) q160 rfl dX1_tells_28 ?_
        refine lv_iload_n hx hb dX1_tells_31 rfl (lv_at hl 3 rfl) ?_
        obtain ⟨hi4, hf⟩ := gd_s hf
        refine s_iald (k := v3.toNatClampNeg) C0 G (2 * t + 1) 0 (wHp_shn ht) rfl (vin hi4) rfl dX1_tells_32 ?_
        refine lv_aload_n hx hb dX1_tells_33 rfl (lv_at hl 1 rfl) ?_
        refine lv_iload_n hx hb dX1_tells_34 rfl (lv_at hl 3 rfl) ?_
        obtain ⟨hi5, hf⟩ := gd_s hf
        refine s_iald (k := v3.toNatClampNeg) C0 G 8 0 rfl rfl (vin hi5) rfl dX1_tells_35 ?_
        refine lv_icmp_eq (tgt := 41) hx hb dX1_tells_36 (by decide) (fun hc6 => ?_) (fun hc6 => ?_)
        · have hf := itp hc6 hf
          exact b1_tells_41 C0 ht ih G (lv_sub hl [0, 1, 2, 3] rfl) hf
        · have hf := itn hc6 hf
          refine lv_iconst (v := (0 : Int32)) hx hb dX1_tells_39 (by decide) ?_
          obtain rfl := inj1 hf
          exact ret_z C0 G rfl dX1_tells_40
set_option maxHeartbeats 4000000 in
set_option maxRecDepth 100000 in
theorem b1_tells_0 {ta adK adV : Nat → Nat} {p : Program} {l : Launch} {e : Env} {s : State} {m : MethodId} {args : Array Value} {below : List Frame} {meth : Method} {c : Code} {D : va_G} {cI cB cG cS : ClassId} {ad : Nat → Nat} {ah : Nat} {A : Nat → Prop} {t : Nat} {shn : Nat → Nat → Int32} {shb : Nat → Int32} {shz : Nat → Int32} {hp : Nat → Int32} {r0 : Int32} (C0 : CX (XS ta adK adV) p s m args meth c cX1_tells 4 (some .boolean) RX1 A) (ht : t < 4) : ∀ {H : Heap} {locs : List Loc} {ls : Array Slot}, GX (XS ta adK adV) D (tyC cI cB cG cS) A s (wHp cI ad ah shn shb shz hp) H locs → lv_has ls 4 [(0, .ref (ad (2 * t))), (1, .ref ah)] → f1_tells t shn shz hp = some r0 → W p l e ({ frames := 1, cells := 0, slots := 0, locals := 13 }) s m args below meth c H locs 0 0 (MQ below (QcI D (tyC cI cB cG cS) (wHp cI ad ah shn shb shz hp) A r0) args s 0 0 A) (F0 m 0 ls []) := by
  have hx := C0.1
  have hb := C0.2.1
  have hown := C0.2.2.2.2.1
  have hts := C0.2.2.2.2.2.1
  have hX := C0.2.2.2.2.2.2.2.2
  intro H locs ls G hl hf
  unfold f1_tells at hf
  refine lv_aload_n hx hb dX1_tells_0 rfl (lv_at hl 0 rfl) ?_
  refine s_get (C := RX1) (T := TX1) C0 G i_X1 (2 * t) 2 (wHp_sh ht) rfl (by decide) q164 rfl dX1_tells_1 ?_
  refine lv_aload_n hx hb dX1_tells_4 rfl (lv_at hl 1 rfl) ?_
  refine s_alen C0 G 8 0 rfl rfl (x := (16 : Int32)) rfl dX1_tells_5 ?_
  refine s_min C0 hl.1 q469 ⟨Nat.le_of_ble_eq_true rfl, Nat.le_of_ble_eq_true rfl⟩ dX1_tells_6 ?_
  refine lv_istore_n (lv' := [(2, .int (jmin (shz t) (16 : Int32))), (0, .ref (ad (2 * t))), (1, .ref ah)]) hx hb dX1_tells_9 rfl hl (by decide) rfl (fun ls hl => ?_)
  refine lv_iconst (v := (0 : Int32)) hx hb dX1_tells_10 (by decide) ?_
  refine lv_istore_n (lv' := [(3, .int (0 : Int32)), (2, .int (jmin (shz t) (16 : Int32))), (0, .ref (ad (2 * t))), (1, .ref ah)]) hx hb dX1_tells_11 rfl hl (by decide) rfl (fun ls hl => ?_)
  exact b1_tells_12 C0 ht  1000 G (lv_sub hl [2, 3, 1, 0] rfl) hf
theorem o1_tells : okName yX1_tells 1 := ⟨by decide, by decide, by decide +kernel⟩
set_option maxHeartbeats 4000000 in
set_option maxRecDepth 100000 in
theorem c1_tells {ta adK adV : Nat → Nat} (hX : XT (XS ta adK adV)) {l : Launch} {D : va_G} {cI cB cG cS : ClassId} {ad : Nat → Nat} {ah : Nat} {sz : Nat} {t : Nat} {shn : Nat → Nat → Int32} {shb : Nat → Int32} {shz : Nat → Int32} {hp : Nat → Int32}  {r0 : Int32} (ht : t < 4) (hf : f1_tells t shn shz hp = some r0) : Met l yX1_tells (wU yX1_tells cX1_tells 4 (some .boolean)) ({ frames := 1, cells := 0, slots := 0, locals := 13 }) (va_Pc [.ref (ad (2 * t)), .ref ah] (PreW (XS ta adK adV) D (tyC cI cB cG cS) (wHp cI ad ah shn shb shz hp) sz)) (QcI D (tyC cI cB cG cS) (wHp cI ad ah shn shb shz hp) (va_A (wHp cI ad ah shn shb shz hp) sz) r0) 0 0 (va_A (wHp cI ad ah shn shb shz hp) sz) := by
  refine startW hX (own := RX1) (by decide) rfl (Nat.le_of_ble_eq_true rfl) (fun p e s m args below meth c ls C0 G hl => ?_)
  exact b1_tells_0 C0 ht G hl hf
/-! 4_toldBy -/
theorem dX4_toldBy_0 : decode cX4_toldBy 0 = .ok (.iload_n 1, 1) := by decide +kernel
theorem dX4_toldBy_1 : decode cX4_toldBy 1 = .ok (.invokestatic 195, 3) := by decide +kernel
theorem dX4_toldBy_4 : decode cX4_toldBy 4 = .ok (.ifCond .ne 9, 3) := by decide +kernel
theorem dX4_toldBy_7 : decode cX4_toldBy 7 = .ok (.aload_n 0, 1) := by decide +kernel
theorem dX4_toldBy_8 : decode cX4_toldBy 8 = .ok (.iconst 0, 1) := by decide +kernel
theorem dX4_toldBy_9 : decode cX4_toldBy 9 = .ok (.invokevirtual 49, 3) := by decide +kernel
theorem dX4_toldBy_12 : decode cX4_toldBy 12 = .ok (.ireturn, 1) := by decide +kernel
theorem dX4_toldBy_13 : decode cX4_toldBy 13 = .ok (.aload_n 0, 1) := by decide +kernel
theorem dX4_toldBy_14 : decode cX4_toldBy 14 = .ok (.getfield 36, 3) := by decide +kernel
theorem dX4_toldBy_17 : decode cX4_toldBy 17 = .ok (.iload_n 1, 1) := by decide +kernel
theorem dX4_toldBy_18 : decode cX4_toldBy 18 = .ok (.aaload, 1) := by decide +kernel
theorem dX4_toldBy_19 : decode cX4_toldBy 19 = .ok (.astore 5, 2) := by decide +kernel
theorem dX4_toldBy_21 : decode cX4_toldBy 21 = .ok (.aload 5, 2) := by decide +kernel
theorem dX4_toldBy_23 : decode cX4_toldBy 23 = .ok (.invokevirtual 204, 3) := by decide +kernel
theorem dX4_toldBy_26 : decode cX4_toldBy 26 = .ok (.ifCond .eq 9, 3) := by decide +kernel
theorem dX4_toldBy_29 : decode cX4_toldBy 29 = .ok (.aload_n 0, 1) := by decide +kernel
theorem dX4_toldBy_30 : decode cX4_toldBy 30 = .ok (.iconst 5, 1) := by decide +kernel
theorem dX4_toldBy_31 : decode cX4_toldBy 31 = .ok (.invokevirtual 49, 3) := by decide +kernel
theorem dX4_toldBy_34 : decode cX4_toldBy 34 = .ok (.ireturn, 1) := by decide +kernel
theorem dX4_toldBy_35 : decode cX4_toldBy 35 = .ok (.aload_n 0, 1) := by decide +kernel
theorem dX4_toldBy_36 : decode cX4_toldBy 36 = .ok (.iload_n 2, 1) := by decide +kernel
theorem dX4_toldBy_37 : decode cX4_toldBy 37 = .ok (.invokevirtual 73, 3) := by decide +kernel
theorem dX4_toldBy_40 : decode cX4_toldBy 40 = .ok (.ifCond .eq 14, 3) := by decide +kernel
theorem dX4_toldBy_43 : decode cX4_toldBy 43 = .ok (.iload 4, 2) := by decide +kernel
theorem dX4_toldBy_45 : decode cX4_toldBy 45 = .ok (.iconst 0, 1) := by decide +kernel
theorem dX4_toldBy_46 : decode cX4_toldBy 46 = .ok (.bipush 20, 2) := by decide +kernel
theorem dX4_toldBy_48 : decode cX4_toldBy 48 = .ok (.invokestatic 45, 3) := by decide +kernel
theorem dX4_toldBy_51 : decode cX4_toldBy 51 = .ok (.ifCond .ne 9, 3) := by decide +kernel
theorem dX4_toldBy_54 : decode cX4_toldBy 54 = .ok (.aload_n 0, 1) := by decide +kernel
theorem dX4_toldBy_55 : decode cX4_toldBy 55 = .ok (.iconst 0, 1) := by decide +kernel
theorem dX4_toldBy_56 : decode cX4_toldBy 56 = .ok (.invokevirtual 49, 3) := by decide +kernel
theorem dX4_toldBy_59 : decode cX4_toldBy 59 = .ok (.ireturn, 1) := by decide +kernel
theorem dX4_toldBy_60 : decode cX4_toldBy 60 = .ok (.iconst 0, 1) := by decide +kernel
theorem dX4_toldBy_61 : decode cX4_toldBy 61 = .ok (.istore 6, 2) := by decide +kernel
theorem dX4_toldBy_63 : decode cX4_toldBy 63 = .ok (.getstatic 142, 3) := by decide +kernel
theorem dX4_toldBy_66 : decode cX4_toldBy 66 = .ok (.iload_n 3, 1) := by decide +kernel
theorem dX4_toldBy_67 : decode cX4_toldBy 67 = .ok (.iaload, 1) := by decide +kernel
theorem dX4_toldBy_68 : decode cX4_toldBy 68 = .ok (.istore 7, 2) := by decide +kernel
theorem dX4_toldBy_70 : decode cX4_toldBy 70 = .ok (.iload 7, 2) := by decide +kernel
theorem dX4_toldBy_72 : decode cX4_toldBy 72 = .ok (.getstatic 139, 3) := by decide +kernel
theorem dX4_toldBy_75 : decode cX4_toldBy 75 = .ok (.iload_n 3, 1) := by decide +kernel
theorem dX4_toldBy_76 : decode cX4_toldBy 76 = .ok (.iaload, 1) := by decide +kernel
theorem dX4_toldBy_77 : decode cX4_toldBy 77 = .ok (.if_icmp .gt 43, 3) := by decide +kernel
theorem dX4_toldBy_80 : decode cX4_toldBy 80 = .ok (.aload_n 0, 1) := by decide +kernel
theorem dX4_toldBy_81 : decode cX4_toldBy 81 = .ok (.iload_n 2, 1) := by decide +kernel
theorem dX4_toldBy_82 : decode cX4_toldBy 82 = .ok (.iload_n 3, 1) := by decide +kernel
theorem dX4_toldBy_83 : decode cX4_toldBy 83 = .ok (.iload 7, 2) := by decide +kernel
theorem dX4_toldBy_85 : decode cX4_toldBy 85 = .ok (.iload 4, 2) := by decide +kernel
theorem dX4_toldBy_87 : decode cX4_toldBy 87 = .ok (.invokevirtual 145, 3) := by decide +kernel
theorem dX4_toldBy_90 : decode cX4_toldBy 90 = .ok (.aload 5, 2) := by decide +kernel
theorem dX4_toldBy_92 : decode cX4_toldBy 92 = .ok (.aload_n 0, 1) := by decide +kernel
theorem dX4_toldBy_93 : decode cX4_toldBy 93 = .ok (.getfield 19, 3) := by decide +kernel
theorem dX4_toldBy_96 : decode cX4_toldBy 96 = .ok (.getfield 53, 3) := by decide +kernel
theorem dX4_toldBy_99 : decode cX4_toldBy 99 = .ok (.invokevirtual 247, 3) := by decide +kernel
theorem dX4_toldBy_102 : decode cX4_toldBy 102 = .ok (.ifCond .eq 12, 3) := by decide +kernel
theorem dX4_toldBy_105 : decode cX4_toldBy 105 = .ok (.iload 6, 2) := by decide +kernel
theorem dX4_toldBy_107 : decode cX4_toldBy 107 = .ok (.iconst 1, 1) := by decide +kernel
theorem dX4_toldBy_108 : decode cX4_toldBy 108 = .ok (.iload 7, 2) := by decide +kernel
theorem dX4_toldBy_110 : decode cX4_toldBy 110 = .ok (.ishl, 1) := by decide +kernel
theorem dX4_toldBy_111 : decode cX4_toldBy 111 = .ok (.ior, 1) := by decide +kernel
theorem dX4_toldBy_112 : decode cX4_toldBy 112 = .ok (.istore 6, 2) := by decide +kernel
theorem dX4_toldBy_114 : decode cX4_toldBy 114 = .ok (.iinc 7 1, 3) := by decide +kernel
theorem dX4_toldBy_117 : decode cX4_toldBy 117 = .ok (.goto (-47), 3) := by decide +kernel
theorem dX4_toldBy_120 : decode cX4_toldBy 120 = .ok (.iload 6, 2) := by decide +kernel
theorem dX4_toldBy_122 : decode cX4_toldBy 122 = .ok (.ireturn, 1) := by decide +kernel
def j4_toldBy_54  (hp1 : Nat → Int32) (st1 : Nat → Int32) (tr1 : Nat → Nat → Int32) (sp1 : Nat → Int32) (vis1 : Int32) (day1 : Int32) (z1 : Int32) (hp3 : Nat → Int32) (st3 : Nat → Int32) (tr3 : Nat → Nat → Int32) (sp3 : Nat → Int32) (vis3 : Int32) (day3 : Int32) (z3 : Int32) (shn : Nat → Nat → Int32) (shb : Nat → Int32) (shz : Nat → Int32) (fd : Nat → Int32)  : Option (Int32 × (Nat → Int32) × (Nat → Int32) × (Nat → Nat → Int32) × (Nat → Int32) × Int32 × Int32 × Int32 × (Nat → Int32)) :=
  ob2 (f4_found fd (0 : Int32)) (fun r13 fd_14 =>
  some (r13, hp3, st3, tr3, sp3, vis3, day3, z3, fd_14))
def j4_toldBy_114 (k70 : (Nat → Int32) → (Nat → Int32) → (Nat → Nat → Int32) → (Nat → Int32) → Int32 → Int32 → Int32 → (Nat → Int32) → (Nat → Int32) → (Nat → Nat → Int32) → (Nat → Int32) → Int32 → Int32 → Int32 → (Nat → Nat → Int32) → (Nat → Int32) → (Nat → Int32) → (Nat → Int32) → Int32 → Int32 → Int32 → Nat → Int32 → Int32 → Option (Int32 × (Nat → Int32) × (Nat → Int32) × (Nat → Nat → Int32) × (Nat → Int32) × Int32 × Int32 × Int32 × (Nat → Int32))) (hp1 : Nat → Int32) (st1 : Nat → Int32) (tr1 : Nat → Nat → Int32) (sp1 : Nat → Int32) (vis1 : Int32) (day1 : Int32) (z1 : Int32) (hp3 : Nat → Int32) (st3 : Nat → Int32) (tr3 : Nat → Nat → Int32) (sp3 : Nat → Int32) (vis3 : Int32) (day3 : Int32) (z3 : Int32) (shn : Nat → Nat → Int32) (shb : Nat → Int32) (shz : Nat → Int32) (fd : Nat → Int32) (v2 : Int32) (v3 : Int32) (v4 : Int32) (g5 : Nat) (v6 : Int32) (v7 : Int32) : Option (Int32 × (Nat → Int32) × (Nat → Int32) × (Nat → Nat → Int32) × (Nat → Int32) × Int32 × Int32 × Int32 × (Nat → Int32)) :=
  k70 hp1 st1 tr1 sp1 vis1 day1 z1 hp3 st3 tr3 sp3 vis3 day3 z3 shn shb shz fd v2 v3 v4 g5 v6 (v7 + (1 : Int32))
def l4_toldBy_70  : Nat → (Nat → Int32) → (Nat → Int32) → (Nat → Nat → Int32) → (Nat → Int32) → Int32 → Int32 → Int32 → (Nat → Int32) → (Nat → Int32) → (Nat → Nat → Int32) → (Nat → Int32) → Int32 → Int32 → Int32 → (Nat → Nat → Int32) → (Nat → Int32) → (Nat → Int32) → (Nat → Int32) → Int32 → Int32 → Int32 → Nat → Int32 → Int32 → Option (Int32 × (Nat → Int32) × (Nat → Int32) × (Nat → Nat → Int32) × (Nat → Int32) × Int32 × Int32 × Int32 × (Nat → Int32))
  | 0, _, _, _, _, _, _, _, _, _, _, _, _, _, _, _, _, _, _, _, _, _, _, _, _ => none
  | n + 1, hp1, st1, tr1, sp1, vis1, day1, z1, hp3, st3, tr3, sp3, vis3, day3, z3, shn, shb, shz, fd, v2, v3, v4, g5, v6, v7 =>
    gd (inb v3 7) (
    if (kTM v3.toNatClampNeg) < v7 then (
      some (v6, hp3, st3, tr3, sp3, vis3, day3, z3, fd))
    else (
      ob7 (f4_tryTrait hp1 st1 tr1 sp1 vis1 day1 z1 hp3 st3 tr3 sp3 vis3 day3 z3 v2 v3 v7 v4) (fun hp3_18 st3_19 tr3_20 sp3_21 vis3_22 day3_23 z3_24 =>
      ob1 (f1_tells g5 shn shz hp3_18) (fun r26 =>
      if r26 = (0 : Int32) then (
        j4_toldBy_114 (l4_toldBy_70 n) hp1 st1 tr1 sp1 vis1 day1 z1 hp3_18 st3_19 tr3_20 sp3_21 vis3_22 day3_23 z3_24 shn shb shz fd v2 v3 v4 g5 v6 v7)
      else (
        j4_toldBy_114 (l4_toldBy_70 n) hp1 st1 tr1 sp1 vis1 day1 z1 hp3_18 st3_19 tr3_20 sp3_21 vis3_22 day3_23 z3_24 shn shb shz fd v2 v3 v4 g5 (v6 ||| ((1 : Int32) <<< (v7 &&& 31))) v7)))))
def f4_toldBy (hp1 : Nat → Int32) (st1 : Nat → Int32) (tr1 : Nat → Nat → Int32) (sp1 : Nat → Int32) (vis1 : Int32) (day1 : Int32) (z1 : Int32) (hp3 : Nat → Int32) (st3 : Nat → Int32) (tr3 : Nat → Nat → Int32) (sp3 : Nat → Int32) (vis3 : Int32) (day3 : Int32) (z3 : Int32) (shn : Nat → Nat → Int32) (shb : Nat → Int32) (shz : Nat → Int32) (fd : Nat → Int32) (v1 : Int32) (v2 : Int32) (v3 : Int32) (v4 : Int32) : Option (Int32 × (Nat → Int32) × (Nat → Int32) × (Nat → Nat → Int32) × (Nat → Int32) × Int32 × Int32 × Int32 × (Nat → Int32)) :=
  if (f4_isSheet v1) = (0 : Int32) then (
    ob2 (f4_found fd (0 : Int32)) (fun r10 fd_11 =>
    some (r10, hp3, st3, tr3, sp3, vis3, day3, z3, fd_11)))
  else (
    gd (inb v1 4) (
    if (f1_isMissing v1.toNatClampNeg shb) = (0 : Int32) then (
      if (f4_isVisitor vis1 v2) = (0 : Int32) then (
        j4_toldBy_54 hp1 st1 tr1 sp1 vis1 day1 z1 hp3 st3 tr3 sp3 vis3 day3 z3 shn shb shz fd)
      else (
        if (f4_within v4 (0 : Int32) (20 : Int32)) = (0 : Int32) then (
          j4_toldBy_54 hp1 st1 tr1 sp1 vis1 day1 z1 hp3 st3 tr3 sp3 vis3 day3 z3 shn shb shz fd)
        else (
          gd (inb v3 7) (
          l4_toldBy_70 1000 hp1 st1 tr1 sp1 vis1 day1 z1 hp3 st3 tr3 sp3 vis3 day3 z3 shn shb shz fd v2 v3 v4 v1.toNatClampNeg (0 : Int32) (kTL v3.toNatClampNeg)))))
    else (
      ob2 (f4_found fd (5 : Int32)) (fun r7 fd_8 =>
      some (r7, hp3, st3, tr3, sp3, vis3, day3, z3, fd_8)))))
set_option maxHeartbeats 4000000 in
set_option maxRecDepth 100000 in
theorem b4_toldBy_54 {ta adK adV : Nat → Nat} {p : Program} {l : Launch} {e : Env} {s : State} {m : MethodId} {args : Array Value} {below : List Frame} {meth : Method} {c : Code} {D : va_G} {cI cB cG cS : ClassId} {ad : Nat → Nat} {A : Nat → Prop} {hp1 : Nat → Int32} {st1 : Nat → Int32} {tr1 : Nat → Nat → Int32} {sp1 : Nat → Int32} {vis1 : Int32} {day1 : Int32} {z1 : Int32} {hp2 : Nat → Int32} {st2 : Nat → Int32} {tr2 : Nat → Nat → Int32} {sp2 : Nat → Int32} {vis2 : Int32} {day2 : Int32} {z2 : Int32} {tb : Nat → Int32} {tl : Int32} {rtok : Int32} {rbg : Int32} {ren : Int32} {rvl : Int32} {shn : Nat → Nat → Int32} {shb : Nat → Int32} {shz : Nat → Int32} {isK : Int32} {r0 : Int32} {o_hp3 : Nat → Int32} {o_st3 : Nat → Int32} {o_tr3 : Nat → Nat → Int32} {o_sp3 : Nat → Int32} {o_vis3 : Int32} {o_day3 : Int32} {o_z3 : Int32} {o_fd : Nat → Int32} (C0 : CX (XS ta adK adV) p s m args meth c cX4_toldBy 8 (some .int) RX4 A) : ∀ {hp3 : Nat → Int32} {st3 : Nat → Int32} {tr3 : Nat → Nat → Int32} {sp3 : Nat → Int32} {vis3 : Int32} {day3 : Int32} {z3 : Int32} {fd : Nat → Int32} {H : Heap} {locs : List Loc} {ls : Array Slot}, GX (XS ta adK adV) D (tyC cI cB cG cS) A s (wS cI cB cG cS ad hp1 st1 tr1 sp1 vis1 day1 z1 hp2 st2 tr2 sp2 vis2 day2 z2 hp3 st3 tr3 sp3 vis3 day3 z3 tb tl rtok rbg ren rvl shn shb shz fd isK) H locs → lv_has ls 8 [(0, .ref (ad 0))] → j4_toldBy_54  hp1 st1 tr1 sp1 vis1 day1 z1 hp3 st3 tr3 sp3 vis3 day3 z3 shn shb shz fd = some (r0, o_hp3, o_st3, o_tr3, o_sp3, o_vis3, o_day3, o_z3, o_fd) → W p l e ({ frames := 6, cells := 0, slots := 0, locals := 132 }) s m args below meth c H locs 0 0 (MQ below (QcI D (tyC cI cB cG cS) (wS cI cB cG cS ad hp1 st1 tr1 sp1 vis1 day1 z1 hp2 st2 tr2 sp2 vis2 day2 z2 o_hp3 o_st3 o_tr3 o_sp3 o_vis3 o_day3 o_z3 tb tl rtok rbg ren rvl shn shb shz o_fd isK) A r0) args s 0 0 A) (F0 m 54 ls []) := by
  have hx := C0.1
  have hb := C0.2.1
  have hown := C0.2.2.2.2.1
  have hts := C0.2.2.2.2.2.1
  have hX := C0.2.2.2.2.2.2.2.2
  intro hp3 st3 tr3 sp3 vis3 day3 z3 fd H locs ls G hl hf
  unfold j4_toldBy_54 at hf
  refine lv_aload_n hx hb dX4_toldBy_54 rfl (lv_at hl 0 rfl) ?_
  refine lv_iconst (v := (0 : Int32)) hx hb dX4_toldBy_55 (by decide) ?_
  obtain ⟨r13, fd_14, hc15, hf⟩ := ob2_s hf
  refine go_i C0 G (runV_of (n := 1) (q0 := 0) (As := [.int (0 : Int32)]) (rest := []) C0 G (c4_found hX hc15) q208 q49 q205 q207 q0 o4_found ⟨rfl, rfl⟩ ⟨Nat.le_of_ble_eq_true rfl, Nat.le_of_ble_eq_true rfl⟩ rfl rfl rfl hl.1 rfl (Nat.le_of_ble_eq_true rfl) dX4_toldBy_56) (fun H locs G => ?_)
  obtain ⟨rfl, rfl, rfl, rfl, rfl, rfl, rfl, rfl, rfl⟩ := inj9 hf
  exact ret_i C0 G dX4_toldBy_59
set_option maxHeartbeats 4000000 in
set_option maxRecDepth 100000 in
theorem b4_toldBy_114 {ta adK adV : Nat → Nat} {p : Program} {l : Launch} {e : Env} {s : State} {m : MethodId} {args : Array Value} {below : List Frame} {meth : Method} {c : Code} {D : va_G} {cI cB cG cS : ClassId} {ad : Nat → Nat} {A : Nat → Prop} {hp1 : Nat → Int32} {st1 : Nat → Int32} {tr1 : Nat → Nat → Int32} {sp1 : Nat → Int32} {vis1 : Int32} {day1 : Int32} {z1 : Int32} {hp2 : Nat → Int32} {st2 : Nat → Int32} {tr2 : Nat → Nat → Int32} {sp2 : Nat → Int32} {vis2 : Int32} {day2 : Int32} {z2 : Int32} {tb : Nat → Int32} {tl : Int32} {rtok : Int32} {rbg : Int32} {ren : Int32} {rvl : Int32} {shn : Nat → Nat → Int32} {shb : Nat → Int32} {shz : Nat → Int32} {isK : Int32} {r0 : Int32} {o_hp3 : Nat → Int32} {o_st3 : Nat → Int32} {o_tr3 : Nat → Nat → Int32} {o_sp3 : Nat → Int32} {o_vis3 : Int32} {o_day3 : Int32} {o_z3 : Int32} {o_fd : Nat → Int32} (C0 : CX (XS ta adK adV) p s m args meth c cX4_toldBy 8 (some .int) RX4 A) {k70 : (Nat → Int32) → (Nat → Int32) → (Nat → Nat → Int32) → (Nat → Int32) → Int32 → Int32 → Int32 → (Nat → Int32) → (Nat → Int32) → (Nat → Nat → Int32) → (Nat → Int32) → Int32 → Int32 → Int32 → (Nat → Nat → Int32) → (Nat → Int32) → (Nat → Int32) → (Nat → Int32) → Int32 → Int32 → Int32 → Nat → Int32 → Int32 → Option (Int32 × (Nat → Int32) × (Nat → Int32) × (Nat → Nat → Int32) × (Nat → Int32) × Int32 × Int32 × Int32 × (Nat → Int32))} (hk70 : ∀ {hp3 : Nat → Int32} {st3 : Nat → Int32} {tr3 : Nat → Nat → Int32} {sp3 : Nat → Int32} {vis3 : Int32} {day3 : Int32} {z3 : Int32} {fd : Nat → Int32} {v2 : Int32} {v3 : Int32} {v4 : Int32} {g5 : Nat} {v6 : Int32} {v7 : Int32} {H : Heap} {locs : List Loc} {ls : Array Slot}, g5 < 4 → GX (XS ta adK adV) D (tyC cI cB cG cS) A s (wS cI cB cG cS ad hp1 st1 tr1 sp1 vis1 day1 z1 hp2 st2 tr2 sp2 vis2 day2 z2 hp3 st3 tr3 sp3 vis3 day3 z3 tb tl rtok rbg ren rvl shn shb shz fd isK) H locs → lv_has ls 8 [(0, .ref (ad 0)), (2, .int v2), (3, .int v3), (4, .int v4), (5, .ref (ad (41 + 2 * g5))), (6, .int v6), (7, .int v7)] → k70 hp1 st1 tr1 sp1 vis1 day1 z1 hp3 st3 tr3 sp3 vis3 day3 z3 shn shb shz fd v2 v3 v4 g5 v6 v7 = some (r0, o_hp3, o_st3, o_tr3, o_sp3, o_vis3, o_day3, o_z3, o_fd) → W p l e ({ frames := 6, cells := 0, slots := 0, locals := 132 }) s m args below meth c H locs 0 0 (MQ below (QcI D (tyC cI cB cG cS) (wS cI cB cG cS ad hp1 st1 tr1 sp1 vis1 day1 z1 hp2 st2 tr2 sp2 vis2 day2 z2 o_hp3 o_st3 o_tr3 o_sp3 o_vis3 o_day3 o_z3 tb tl rtok rbg ren rvl shn shb shz o_fd isK) A r0) args s 0 0 A) (F0 m 70 ls [])) : ∀ {hp3 : Nat → Int32} {st3 : Nat → Int32} {tr3 : Nat → Nat → Int32} {sp3 : Nat → Int32} {vis3 : Int32} {day3 : Int32} {z3 : Int32} {fd : Nat → Int32} {v2 : Int32} {v3 : Int32} {v4 : Int32} {g5 : Nat} {v6 : Int32} {v7 : Int32} {H : Heap} {locs : List Loc} {ls : Array Slot}, g5 < 4 → GX (XS ta adK adV) D (tyC cI cB cG cS) A s (wS cI cB cG cS ad hp1 st1 tr1 sp1 vis1 day1 z1 hp2 st2 tr2 sp2 vis2 day2 z2 hp3 st3 tr3 sp3 vis3 day3 z3 tb tl rtok rbg ren rvl shn shb shz fd isK) H locs → lv_has ls 8 [(0, .ref (ad 0)), (2, .int v2), (3, .int v3), (4, .int v4), (5, .ref (ad (41 + 2 * g5))), (6, .int v6), (7, .int v7)] → j4_toldBy_114 k70 hp1 st1 tr1 sp1 vis1 day1 z1 hp3 st3 tr3 sp3 vis3 day3 z3 shn shb shz fd v2 v3 v4 g5 v6 v7 = some (r0, o_hp3, o_st3, o_tr3, o_sp3, o_vis3, o_day3, o_z3, o_fd) → W p l e ({ frames := 6, cells := 0, slots := 0, locals := 132 }) s m args below meth c H locs 0 0 (MQ below (QcI D (tyC cI cB cG cS) (wS cI cB cG cS ad hp1 st1 tr1 sp1 vis1 day1 z1 hp2 st2 tr2 sp2 vis2 day2 z2 o_hp3 o_st3 o_tr3 o_sp3 o_vis3 o_day3 o_z3 tb tl rtok rbg ren rvl shn shb shz o_fd isK) A r0) args s 0 0 A) (F0 m 114 ls []) := by
  have hx := C0.1
  have hb := C0.2.1
  have hown := C0.2.2.2.2.1
  have hts := C0.2.2.2.2.2.1
  have hX := C0.2.2.2.2.2.2.2.2
  intro hp3 st3 tr3 sp3 vis3 day3 z3 fd v2 v3 v4 g5 v6 v7 H locs ls hg5 G hl hf
  unfold j4_toldBy_114 at hf
  refine lv_iinc (v := (v7 + (1 : Int32))) (lv' := [(7, .int (v7 + (1 : Int32))), (0, .ref (ad 0)), (2, .int v2), (3, .int v3), (4, .int v4), (5, .ref (ad (41 + 2 * g5))), (6, .int v6)]) hx hb dX4_toldBy_114 hl (k := 6) rfl rfl (by decide) rfl (fun ls hl => ?_)
  refine lv_goto (tgt := 70) hx hb dX4_toldBy_117 (by decide) ?_
  exact hk70 hg5 G (lv_sub hl [1, 2, 3, 4, 5, 6, 0] rfl) hf
set_option maxHeartbeats 4000000 in
set_option maxRecDepth 100000 in
theorem b4_toldBy_70 {ta adK adV : Nat → Nat} {p : Program} {l : Launch} {e : Env} {s : State} {m : MethodId} {args : Array Value} {below : List Frame} {meth : Method} {c : Code} {D : va_G} {cI cB cG cS : ClassId} {ad : Nat → Nat} {A : Nat → Prop} {hp1 : Nat → Int32} {st1 : Nat → Int32} {tr1 : Nat → Nat → Int32} {sp1 : Nat → Int32} {vis1 : Int32} {day1 : Int32} {z1 : Int32} {hp2 : Nat → Int32} {st2 : Nat → Int32} {tr2 : Nat → Nat → Int32} {sp2 : Nat → Int32} {vis2 : Int32} {day2 : Int32} {z2 : Int32} {tb : Nat → Int32} {tl : Int32} {rtok : Int32} {rbg : Int32} {ren : Int32} {rvl : Int32} {shn : Nat → Nat → Int32} {shb : Nat → Int32} {shz : Nat → Int32} {isK : Int32} {r0 : Int32} {o_hp3 : Nat → Int32} {o_st3 : Nat → Int32} {o_tr3 : Nat → Nat → Int32} {o_sp3 : Nat → Int32} {o_vis3 : Int32} {o_day3 : Int32} {o_z3 : Int32} {o_fd : Nat → Int32} (C0 : CX (XS ta adK adV) p s m args meth c cX4_toldBy 8 (some .int) RX4 A) : ∀ (n : Nat) {hp3 : Nat → Int32} {st3 : Nat → Int32} {tr3 : Nat → Nat → Int32} {sp3 : Nat → Int32} {vis3 : Int32} {day3 : Int32} {z3 : Int32} {fd : Nat → Int32} {v2 : Int32} {v3 : Int32} {v4 : Int32} {g5 : Nat} {v6 : Int32} {v7 : Int32} {H : Heap} {locs : List Loc} {ls : Array Slot}, g5 < 4 → GX (XS ta adK adV) D (tyC cI cB cG cS) A s (wS cI cB cG cS ad hp1 st1 tr1 sp1 vis1 day1 z1 hp2 st2 tr2 sp2 vis2 day2 z2 hp3 st3 tr3 sp3 vis3 day3 z3 tb tl rtok rbg ren rvl shn shb shz fd isK) H locs → lv_has ls 8 [(0, .ref (ad 0)), (2, .int v2), (3, .int v3), (4, .int v4), (5, .ref (ad (41 + 2 * g5))), (6, .int v6), (7, .int v7)] → l4_toldBy_70  n hp1 st1 tr1 sp1 vis1 day1 z1 hp3 st3 tr3 sp3 vis3 day3 z3 shn shb shz fd v2 v3 v4 g5 v6 v7 = some (r0, o_hp3, o_st3, o_tr3, o_sp3, o_vis3, o_day3, o_z3, o_fd) → W p l e ({ frames := 6, cells := 0, slots := 0, locals := 132 }) s m args below meth c H locs 0 0 (MQ below (QcI D (tyC cI cB cG cS) (wS cI cB cG cS ad hp1 st1 tr1 sp1 vis1 day1 z1 hp2 st2 tr2 sp2 vis2 day2 z2 o_hp3 o_st3 o_tr3 o_sp3 o_vis3 o_day3 o_z3 tb tl rtok rbg ren rvl shn shb shz o_fd isK) A r0) args s 0 0 A) (F0 m 70 ls []) := by
  have hx := C0.1
  have hb := C0.2.1
  have hown := C0.2.2.2.2.1
  have hts := C0.2.2.2.2.2.1
  have hX := C0.2.2.2.2.2.2.2.2
  intro n
  induction n with
  | zero =>
    intro _ _ _ _ _ _ _ _ _ _ _ _ _ _ _ _ _ hg5 G hl hf
    cases hf
  | succ n ih =>
    intro hp3 st3 tr3 sp3 vis3 day3 z3 fd v2 v3 v4 g5 v6 v7 H locs ls hg5 G hl hf
    rw [l4_toldBy_70] at hf
    refine lv_iload hx hb dX4_toldBy_70 (lv_at hl 6 rfl) ?_
    refine s_gets C0 G (xa_5 G.2.2.2.2) q292 dX4_toldBy_72 ?_
    refine lv_iload_n hx hb dX4_toldBy_75 rfl (lv_at hl 2 rfl) ?_
    obtain ⟨hi16, hf⟩ := gd_s hf
    refine s_ti (k := v3.toNatClampNeg) C0 G (xa_5 G.2.2.2.2) (vin hi16) rfl dX4_toldBy_76 ?_
    refine lv_icmp_gt (tgt := 120) hx hb dX4_toldBy_77 (by decide) (fun hc17 => ?_) (fun hc17 => ?_)
    · have hf := itp hc17 hf
      refine lv_iload hx hb dX4_toldBy_120 (lv_at hl 5 rfl) ?_
      obtain ⟨rfl, rfl, rfl, rfl, rfl, rfl, rfl, rfl, rfl⟩ := inj9 hf
      exact ret_i C0 G dX4_toldBy_122
    · have hf := itn hc17 hf
      refine lv_aload_n hx hb dX4_toldBy_80 rfl (lv_at hl 0 rfl) ?_
      refine lv_iload_n hx hb dX4_toldBy_81 rfl (lv_at hl 1 rfl) ?_
      refine lv_iload_n hx hb dX4_toldBy_82 rfl (lv_at hl 2 rfl) ?_
      refine lv_iload hx hb dX4_toldBy_83 (lv_at hl 6 rfl) ?_
      refine lv_iload hx hb dX4_toldBy_85 (lv_at hl 3 rfl) ?_
      obtain ⟨hp3_18, st3_19, tr3_20, sp3_21, vis3_22, day3_23, z3_24, hc25, hf⟩ := ob7_s hf
      refine go_v C0 G (runV_of (n := 4) (q0 := 0) (As := [.int v2, .int v3, .int v7, .int v4]) (rest := []) C0 G (c4_tryTrait hX hc25) q419 q49 q416 q418 q5 o4_tryTrait ⟨rfl, rfl⟩ ⟨Nat.le_of_ble_eq_true rfl, Nat.le_of_ble_eq_true rfl⟩ rfl rfl rfl hl.1 rfl (Nat.le_of_ble_eq_true rfl) dX4_toldBy_87) (fun H locs G => ?_)
      refine lv_aload hx hb dX4_toldBy_90 (lv_at hl 4 rfl) ?_
      refine lv_aload_n hx hb dX4_toldBy_92 rfl (lv_at hl 0 rfl) ?_
      refine s_get (C := RX4) (T := TX4) C0 G i_X4 0 2 rfl rfl (by decide) q175 rfl dX4_toldBy_93 ?_
      refine s_get (C := RX0) (T := TX0) C0 G i_X0 25 0 rfl rfl (by decide) q81 rfl dX4_toldBy_96 ?_
      obtain ⟨r26, hc27, hf⟩ := ob1_s hf
      refine go_i_sub C0 G s_tells o_tells (runV_sub (n := 1) (q0 := (41 + 2 * g5)) (As := [.ref (ad 26)]) (rest := []) C0 G s_tells (c1_tells hX hg5 hc27) q468 q53 q465 q466 q467 o1_tells ⟨rfl, rfl⟩ ⟨Nat.le_of_ble_eq_true rfl, Nat.le_of_ble_eq_true rfl⟩ (wS_sh hg5) rfl rfl hl.1 rfl (Nat.le_of_ble_eq_true rfl) dX4_toldBy_99) (fun H locs G => ?_)
      refine lv_if_eq (tgt := 114) hx hb dX4_toldBy_102 (by decide) (fun hc28 => ?_) (fun hc28 => ?_)
      · have hf := itp hc28 hf
        exact b4_toldBy_114 C0 ih hg5 G (lv_sub hl [0, 1, 2, 3, 4, 5, 6] rfl) hf
      · have hf := itn hc28 hf
        refine lv_iload hx hb dX4_toldBy_105 (lv_at hl 5 rfl) ?_
        refine lv_iconst (v := (1 : Int32)) hx hb dX4_toldBy_107 (by decide) ?_
        refine lv_iload hx hb dX4_toldBy_108 (lv_at hl 6 rfl) ?_
        refine lv_ishl hx hb dX4_toldBy_110 ?_
        refine lv_ior hx hb dX4_toldBy_111 ?_
        refine lv_istore (lv' := [(6, .int (v6 ||| ((1 : Int32) <<< (v7 &&& 31)))), (0, .ref (ad 0)), (2, .int v2), (3, .int v3), (4, .int v4), (5, .ref (ad (41 + 2 * g5))), (7, .int v7)]) hx hb dX4_toldBy_112 hl (by decide) rfl (fun ls hl => ?_)
        exact b4_toldBy_114 C0 ih hg5 G (lv_sub hl [1, 2, 3, 4, 5, 0, 6] rfl) hf
set_option maxHeartbeats 4000000 in
set_option maxRecDepth 100000 in
theorem b4_toldBy_0 {ta adK adV : Nat → Nat} {p : Program} {l : Launch} {e : Env} {s : State} {m : MethodId} {args : Array Value} {below : List Frame} {meth : Method} {c : Code} {D : va_G} {cI cB cG cS : ClassId} {ad : Nat → Nat} {A : Nat → Prop} {hp1 : Nat → Int32} {st1 : Nat → Int32} {tr1 : Nat → Nat → Int32} {sp1 : Nat → Int32} {vis1 : Int32} {day1 : Int32} {z1 : Int32} {hp2 : Nat → Int32} {st2 : Nat → Int32} {tr2 : Nat → Nat → Int32} {sp2 : Nat → Int32} {vis2 : Int32} {day2 : Int32} {z2 : Int32} {tb : Nat → Int32} {tl : Int32} {rtok : Int32} {rbg : Int32} {ren : Int32} {rvl : Int32} {shn : Nat → Nat → Int32} {shb : Nat → Int32} {shz : Nat → Int32} {isK : Int32} {r0 : Int32} {o_hp3 : Nat → Int32} {o_st3 : Nat → Int32} {o_tr3 : Nat → Nat → Int32} {o_sp3 : Nat → Int32} {o_vis3 : Int32} {o_day3 : Int32} {o_z3 : Int32} {o_fd : Nat → Int32} (C0 : CX (XS ta adK adV) p s m args meth c cX4_toldBy 8 (some .int) RX4 A) : ∀ {hp3 : Nat → Int32} {st3 : Nat → Int32} {tr3 : Nat → Nat → Int32} {sp3 : Nat → Int32} {vis3 : Int32} {day3 : Int32} {z3 : Int32} {fd : Nat → Int32} {v1 : Int32} {v2 : Int32} {v3 : Int32} {v4 : Int32} {H : Heap} {locs : List Loc} {ls : Array Slot}, GX (XS ta adK adV) D (tyC cI cB cG cS) A s (wS cI cB cG cS ad hp1 st1 tr1 sp1 vis1 day1 z1 hp2 st2 tr2 sp2 vis2 day2 z2 hp3 st3 tr3 sp3 vis3 day3 z3 tb tl rtok rbg ren rvl shn shb shz fd isK) H locs → lv_has ls 8 [(0, .ref (ad 0)), (1, .int v1), (2, .int v2), (3, .int v3), (4, .int v4)] → f4_toldBy hp1 st1 tr1 sp1 vis1 day1 z1 hp3 st3 tr3 sp3 vis3 day3 z3 shn shb shz fd v1 v2 v3 v4 = some (r0, o_hp3, o_st3, o_tr3, o_sp3, o_vis3, o_day3, o_z3, o_fd) → W p l e ({ frames := 6, cells := 0, slots := 0, locals := 132 }) s m args below meth c H locs 0 0 (MQ below (QcI D (tyC cI cB cG cS) (wS cI cB cG cS ad hp1 st1 tr1 sp1 vis1 day1 z1 hp2 st2 tr2 sp2 vis2 day2 z2 o_hp3 o_st3 o_tr3 o_sp3 o_vis3 o_day3 o_z3 tb tl rtok rbg ren rvl shn shb shz o_fd isK) A r0) args s 0 0 A) (F0 m 0 ls []) := by
  have hx := C0.1
  have hb := C0.2.1
  have hown := C0.2.2.2.2.1
  have hts := C0.2.2.2.2.2.1
  have hX := C0.2.2.2.2.2.2.2.2
  intro hp3 st3 tr3 sp3 vis3 day3 z3 fd v1 v2 v3 v4 H locs ls G hl hf
  unfold f4_toldBy at hf
  refine lv_iload_n hx hb dX4_toldBy_0 rfl (lv_at hl 1 rfl) ?_
  refine go_i C0 G (runS_of (n := 1) (As := [.int v1]) (rest := []) C0 G (c4_isSheet hX rfl) q460 q49 q458 q459 o4_isSheet ⟨rfl, rfl⟩ ⟨Nat.le_of_ble_eq_true rfl, Nat.le_of_ble_eq_true rfl⟩ rfl hl.1 rfl (Nat.le_of_ble_eq_true rfl) dX4_toldBy_1) (fun H locs G => ?_)
  refine lv_if_ne (tgt := 13) hx hb dX4_toldBy_4 (by decide) (fun hc1 => ?_) (fun hc1 => ?_)
  · have hf := itn hc1 hf
    refine lv_aload_n hx hb dX4_toldBy_13 rfl (lv_at hl 0 rfl) ?_
    refine s_get (C := RX4) (T := TX4) C0 G i_X4 0 5 rfl rfl (by decide) q178 rfl dX4_toldBy_14 ?_
    refine lv_iload_n hx hb dX4_toldBy_17 rfl (lv_at hl 1 rfl) ?_
    obtain ⟨hi2, hf⟩ := gd_s hf
    refine s_aldo (k := v1.toNatClampNeg) (b := ad (41 + 2 * v1.toNatClampNeg)) C0 G 40 3 rfl rfl (vin hi2) rfl rfl dX4_toldBy_18 ?_
    refine lv_astore (lv' := [(5, .ref (ad (41 + 2 * v1.toNatClampNeg))), (0, .ref (ad 0)), (1, .int v1), (2, .int v2), (3, .int v3), (4, .int v4)]) hx hb dX4_toldBy_19 hl (by decide) rfl (fun ls hl => ?_)
    refine lv_aload hx hb dX4_toldBy_21 (lv_at hl 0 rfl) ?_
    refine go_i_sub C0 G s_sheets o_sheets (runV_sub (n := 0) (q0 := (41 + 2 * v1.toNatClampNeg)) (As := []) (rest := []) C0 G s_sheets (c1_isMissing hX (inb_lt hi2) rfl) q464 q53 q461 q462 q463 o1_isMissing ⟨rfl, rfl⟩ ⟨Nat.le_of_ble_eq_true rfl, Nat.le_of_ble_eq_true rfl⟩ (wS_sh (inb_lt hi2)) rfl rfl hl.1 rfl (Nat.le_of_ble_eq_true rfl) dX4_toldBy_23) (fun H locs G => ?_)
    refine lv_if_eq (tgt := 35) hx hb dX4_toldBy_26 (by decide) (fun hc3 => ?_) (fun hc3 => ?_)
    · have hf := itp hc3 hf
      refine lv_aload_n hx hb dX4_toldBy_35 rfl (lv_at hl 1 rfl) ?_
      refine lv_iload_n hx hb dX4_toldBy_36 rfl (lv_at hl 3 rfl) ?_
      refine go_i C0 G (runV_of (n := 1) (q0 := 0) (As := [.int v2]) (rest := []) C0 G (c4_isVisitor hX rfl) q261 q49 q258 q260 q1 o4_isVisitor ⟨rfl, rfl⟩ ⟨Nat.le_of_ble_eq_true rfl, Nat.le_of_ble_eq_true rfl⟩ rfl rfl rfl hl.1 rfl (Nat.le_of_ble_eq_true rfl) dX4_toldBy_37) (fun H locs G => ?_)
      refine lv_if_eq (tgt := 54) hx hb dX4_toldBy_40 (by decide) (fun hc4 => ?_) (fun hc4 => ?_)
      · have hf := itp hc4 hf
        exact b4_toldBy_54 C0  G (lv_sub hl [1] rfl) hf
      · have hf := itn hc4 hf
        refine lv_iload hx hb dX4_toldBy_43 (lv_at hl 5 rfl) ?_
        refine lv_iconst (v := (0 : Int32)) hx hb dX4_toldBy_45 (by decide) ?_
        refine lv_bipush (v := (20 : Int32)) hx hb dX4_toldBy_46 (by decide) ?_
        refine go_i C0 G (runS_of (n := 3) (As := [.int v4, .int (0 : Int32), .int (20 : Int32)]) (rest := []) C0 G (c4_within hX rfl) q204 q49 q202 q203 o4_within ⟨rfl, rfl⟩ ⟨Nat.le_of_ble_eq_true rfl, Nat.le_of_ble_eq_true rfl⟩ rfl hl.1 rfl (Nat.le_of_ble_eq_true rfl) dX4_toldBy_48) (fun H locs G => ?_)
        refine lv_if_ne (tgt := 60) hx hb dX4_toldBy_51 (by decide) (fun hc5 => ?_) (fun hc5 => ?_)
        · have hf := itn hc5 hf
          refine lv_iconst (v := (0 : Int32)) hx hb dX4_toldBy_60 (by decide) ?_
          refine lv_istore (lv' := [(6, .int (0 : Int32)), (5, .ref (ad (41 + 2 * v1.toNatClampNeg))), (0, .ref (ad 0)), (1, .int v1), (2, .int v2), (3, .int v3), (4, .int v4)]) hx hb dX4_toldBy_61 hl (by decide) rfl (fun ls hl => ?_)
          refine s_gets C0 G (xa_4 G.2.2.2.2) q290 dX4_toldBy_63 ?_
          refine lv_iload_n hx hb dX4_toldBy_66 rfl (lv_at hl 5 rfl) ?_
          obtain ⟨hi6, hf⟩ := gd_s hf
          refine s_ti (k := v3.toNatClampNeg) C0 G (xa_4 G.2.2.2.2) (vin hi6) rfl dX4_toldBy_67 ?_
          refine lv_istore (lv' := [(7, .int (kTL v3.toNatClampNeg)), (6, .int (0 : Int32)), (5, .ref (ad (41 + 2 * v1.toNatClampNeg))), (0, .ref (ad 0)), (1, .int v1), (2, .int v2), (3, .int v3), (4, .int v4)]) hx hb dX4_toldBy_68 hl (by decide) rfl (fun ls hl => ?_)
          exact b4_toldBy_70 C0  1000 (inb_lt hi2) G (lv_sub hl [3, 5, 6, 7, 2, 1, 0] rfl) hf
        · have hf := itp hc5 hf
          exact b4_toldBy_54 C0  G (lv_sub hl [1] rfl) hf
    · have hf := itn hc3 hf
      refine lv_aload_n hx hb dX4_toldBy_29 rfl (lv_at hl 1 rfl) ?_
      refine lv_iconst (v := (5 : Int32)) hx hb dX4_toldBy_30 (by decide) ?_
      obtain ⟨r7, fd_8, hc9, hf⟩ := ob2_s hf
      refine go_i C0 G (runV_of (n := 1) (q0 := 0) (As := [.int (5 : Int32)]) (rest := []) C0 G (c4_found hX hc9) q208 q49 q205 q207 q0 o4_found ⟨rfl, rfl⟩ ⟨Nat.le_of_ble_eq_true rfl, Nat.le_of_ble_eq_true rfl⟩ rfl rfl rfl hl.1 rfl (Nat.le_of_ble_eq_true rfl) dX4_toldBy_31) (fun H locs G => ?_)
      obtain ⟨rfl, rfl, rfl, rfl, rfl, rfl, rfl, rfl, rfl⟩ := inj9 hf
      exact ret_i C0 G dX4_toldBy_34
  · have hf := itp hc1 hf
    refine lv_aload_n hx hb dX4_toldBy_7 rfl (lv_at hl 0 rfl) ?_
    refine lv_iconst (v := (0 : Int32)) hx hb dX4_toldBy_8 (by decide) ?_
    obtain ⟨r10, fd_11, hc12, hf⟩ := ob2_s hf
    refine go_i C0 G (runV_of (n := 1) (q0 := 0) (As := [.int (0 : Int32)]) (rest := []) C0 G (c4_found hX hc12) q208 q49 q205 q207 q0 o4_found ⟨rfl, rfl⟩ ⟨Nat.le_of_ble_eq_true rfl, Nat.le_of_ble_eq_true rfl⟩ rfl rfl rfl hl.1 rfl (Nat.le_of_ble_eq_true rfl) dX4_toldBy_9) (fun H locs G => ?_)
    obtain ⟨rfl, rfl, rfl, rfl, rfl, rfl, rfl, rfl, rfl⟩ := inj9 hf
    exact ret_i C0 G dX4_toldBy_12
theorem o4_toldBy : okName yX4_toldBy 4 := ⟨by decide, by decide, by decide +kernel⟩
set_option maxHeartbeats 4000000 in
set_option maxRecDepth 100000 in
theorem c4_toldBy {ta adK adV : Nat → Nat} (hX : XT (XS ta adK adV)) {l : Launch} {D : va_G} {cI cB cG cS : ClassId} {ad : Nat → Nat} {sz : Nat} {hp1 : Nat → Int32} {st1 : Nat → Int32} {tr1 : Nat → Nat → Int32} {sp1 : Nat → Int32} {vis1 : Int32} {day1 : Int32} {z1 : Int32} {hp2 : Nat → Int32} {st2 : Nat → Int32} {tr2 : Nat → Nat → Int32} {sp2 : Nat → Int32} {vis2 : Int32} {day2 : Int32} {z2 : Int32} {hp3 : Nat → Int32} {st3 : Nat → Int32} {tr3 : Nat → Nat → Int32} {sp3 : Nat → Int32} {vis3 : Int32} {day3 : Int32} {z3 : Int32} {tb : Nat → Int32} {tl : Int32} {rtok : Int32} {rbg : Int32} {ren : Int32} {rvl : Int32} {shn : Nat → Nat → Int32} {shb : Nat → Int32} {shz : Nat → Int32} {fd : Nat → Int32} {isK : Int32} {v1 : Int32} {v2 : Int32} {v3 : Int32} {v4 : Int32} {r0 : Int32} {o_hp3 : Nat → Int32} {o_st3 : Nat → Int32} {o_tr3 : Nat → Nat → Int32} {o_sp3 : Nat → Int32} {o_vis3 : Int32} {o_day3 : Int32} {o_z3 : Int32} {o_fd : Nat → Int32} (hf : f4_toldBy hp1 st1 tr1 sp1 vis1 day1 z1 hp3 st3 tr3 sp3 vis3 day3 z3 shn shb shz fd v1 v2 v3 v4 = some (r0, o_hp3, o_st3, o_tr3, o_sp3, o_vis3, o_day3, o_z3, o_fd)) : Met l yX4_toldBy (wU yX4_toldBy cX4_toldBy 8 (some .int)) ({ frames := 6, cells := 0, slots := 0, locals := 132 }) (va_Pc [.ref (ad 0), .int v1, .int v2, .int v3, .int v4] (PreW (XS ta adK adV) D (tyC cI cB cG cS) (wS cI cB cG cS ad hp1 st1 tr1 sp1 vis1 day1 z1 hp2 st2 tr2 sp2 vis2 day2 z2 hp3 st3 tr3 sp3 vis3 day3 z3 tb tl rtok rbg ren rvl shn shb shz fd isK) sz)) (QcI D (tyC cI cB cG cS) (wS cI cB cG cS ad hp1 st1 tr1 sp1 vis1 day1 z1 hp2 st2 tr2 sp2 vis2 day2 z2 o_hp3 o_st3 o_tr3 o_sp3 o_vis3 o_day3 o_z3 tb tl rtok rbg ren rvl shn shb shz o_fd isK) (va_A (wS cI cB cG cS ad hp1 st1 tr1 sp1 vis1 day1 z1 hp2 st2 tr2 sp2 vis2 day2 z2 hp3 st3 tr3 sp3 vis3 day3 z3 tb tl rtok rbg ren rvl shn shb shz fd isK) sz) r0) 0 0 (va_A (wS cI cB cG cS ad hp1 st1 tr1 sp1 vis1 day1 z1 hp2 st2 tr2 sp2 vis2 day2 z2 hp3 st3 tr3 sp3 vis3 day3 z3 tb tl rtok rbg ren rvl shn shb shz fd isK) sz) := by
  refine startW hX (own := RX4) (by decide) rfl (Nat.le_of_ble_eq_true rfl) (fun p e s m args below meth c ls C0 G hl => ?_)
  exact b4_toldBy_0 C0 G hl hf
/-! 4_fits -/
theorem dX4_fits_0 : decode cX4_fits 0 = .ok (.aload_n 0, 1) := by decide +kernel
theorem dX4_fits_1 : decode cX4_fits 1 = .ok (.iload_n 1, 1) := by decide +kernel
theorem dX4_fits_2 : decode cX4_fits 2 = .ok (.iload_n 2, 1) := by decide +kernel
theorem dX4_fits_3 : decode cX4_fits 3 = .ok (.iconst 1, 1) := by decide +kernel
theorem dX4_fits_4 : decode cX4_fits 4 = .ok (.iload_n 3, 1) := by decide +kernel
theorem dX4_fits_5 : decode cX4_fits 5 = .ok (.invokevirtual 160, 3) := by decide +kernel
theorem dX4_fits_8 : decode cX4_fits 8 = .ok (.ireturn, 1) := by decide +kernel
def f4_fits (hp1 : Nat → Int32) (st1 : Nat → Int32) (tr1 : Nat → Nat → Int32) (sp1 : Nat → Int32) (vis1 : Int32) (day1 : Int32) (z1 : Int32) (hp3 : Nat → Int32) (st3 : Nat → Int32) (tr3 : Nat → Nat → Int32) (sp3 : Nat → Int32) (vis3 : Int32) (day3 : Int32) (z3 : Int32) (shn : Nat → Nat → Int32) (shb : Nat → Int32) (shz : Nat → Int32) (fd : Nat → Int32) (v1 : Int32) (v2 : Int32) (v3 : Int32) : Option (Int32 × (Nat → Int32) × (Nat → Int32) × (Nat → Nat → Int32) × (Nat → Int32) × Int32 × Int32 × Int32 × (Nat → Int32)) :=
  ob9 (f4_toldBy hp1 st1 tr1 sp1 vis1 day1 z1 hp3 st3 tr3 sp3 vis3 day3 z3 shn shb shz fd v1 v2 (1 : Int32) v3) (fun r1 hp3_2 st3_3 tr3_4 sp3_5 vis3_6 day3_7 z3_8 fd_9 =>
  some (r1, hp3_2, st3_3, tr3_4, sp3_5, vis3_6, day3_7, z3_8, fd_9))
set_option maxHeartbeats 4000000 in
set_option maxRecDepth 100000 in
theorem b4_fits_0 {ta adK adV : Nat → Nat} {p : Program} {l : Launch} {e : Env} {s : State} {m : MethodId} {args : Array Value} {below : List Frame} {meth : Method} {c : Code} {D : va_G} {cI cB cG cS : ClassId} {ad : Nat → Nat} {A : Nat → Prop} {hp1 : Nat → Int32} {st1 : Nat → Int32} {tr1 : Nat → Nat → Int32} {sp1 : Nat → Int32} {vis1 : Int32} {day1 : Int32} {z1 : Int32} {hp2 : Nat → Int32} {st2 : Nat → Int32} {tr2 : Nat → Nat → Int32} {sp2 : Nat → Int32} {vis2 : Int32} {day2 : Int32} {z2 : Int32} {tb : Nat → Int32} {tl : Int32} {rtok : Int32} {rbg : Int32} {ren : Int32} {rvl : Int32} {shn : Nat → Nat → Int32} {shb : Nat → Int32} {shz : Nat → Int32} {isK : Int32} {r0 : Int32} {o_hp3 : Nat → Int32} {o_st3 : Nat → Int32} {o_tr3 : Nat → Nat → Int32} {o_sp3 : Nat → Int32} {o_vis3 : Int32} {o_day3 : Int32} {o_z3 : Int32} {o_fd : Nat → Int32} (C0 : CX (XS ta adK adV) p s m args meth c cX4_fits 4 (some .int) RX4 A) : ∀ {hp3 : Nat → Int32} {st3 : Nat → Int32} {tr3 : Nat → Nat → Int32} {sp3 : Nat → Int32} {vis3 : Int32} {day3 : Int32} {z3 : Int32} {fd : Nat → Int32} {v1 : Int32} {v2 : Int32} {v3 : Int32} {H : Heap} {locs : List Loc} {ls : Array Slot}, GX (XS ta adK adV) D (tyC cI cB cG cS) A s (wS cI cB cG cS ad hp1 st1 tr1 sp1 vis1 day1 z1 hp2 st2 tr2 sp2 vis2 day2 z2 hp3 st3 tr3 sp3 vis3 day3 z3 tb tl rtok rbg ren rvl shn shb shz fd isK) H locs → lv_has ls 4 [(0, .ref (ad 0)), (1, .int v1), (2, .int v2), (3, .int v3)] → f4_fits hp1 st1 tr1 sp1 vis1 day1 z1 hp3 st3 tr3 sp3 vis3 day3 z3 shn shb shz fd v1 v2 v3 = some (r0, o_hp3, o_st3, o_tr3, o_sp3, o_vis3, o_day3, o_z3, o_fd) → W p l e ({ frames := 7, cells := 0, slots := 0, locals := 159 }) s m args below meth c H locs 0 0 (MQ below (QcI D (tyC cI cB cG cS) (wS cI cB cG cS ad hp1 st1 tr1 sp1 vis1 day1 z1 hp2 st2 tr2 sp2 vis2 day2 z2 o_hp3 o_st3 o_tr3 o_sp3 o_vis3 o_day3 o_z3 tb tl rtok rbg ren rvl shn shb shz o_fd isK) A r0) args s 0 0 A) (F0 m 0 ls []) := by
  have hx := C0.1
  have hb := C0.2.1
  have hown := C0.2.2.2.2.1
  have hts := C0.2.2.2.2.2.1
  have hX := C0.2.2.2.2.2.2.2.2
  intro hp3 st3 tr3 sp3 vis3 day3 z3 fd v1 v2 v3 H locs ls G hl hf
  unfold f4_fits at hf
  refine lv_aload_n hx hb dX4_fits_0 rfl (lv_at hl 0 rfl) ?_
  refine lv_iload_n hx hb dX4_fits_1 rfl (lv_at hl 1 rfl) ?_
  refine lv_iload_n hx hb dX4_fits_2 rfl (lv_at hl 2 rfl) ?_
  refine lv_iconst (v := (1 : Int32)) hx hb dX4_fits_3 (by decide) ?_
  refine lv_iload_n hx hb dX4_fits_4 rfl (lv_at hl 3 rfl) ?_
  obtain ⟨r1, hp3_2, st3_3, tr3_4, sp3_5, vis3_6, day3_7, z3_8, fd_9, hc10, hf⟩ := ob9_s hf
  refine go_i C0 G (runV_of (n := 4) (q0 := 0) (As := [.int v1, .int v2, .int (1 : Int32), .int v3]) (rest := []) C0 G (c4_toldBy hX hc10) q457 q49 q454 q456 q7 o4_toldBy ⟨rfl, rfl⟩ ⟨Nat.le_of_ble_eq_true rfl, Nat.le_of_ble_eq_true rfl⟩ rfl rfl rfl hl.1 rfl (Nat.le_of_ble_eq_true rfl) dX4_fits_5) (fun H locs G => ?_)
  obtain ⟨rfl, rfl, rfl, rfl, rfl, rfl, rfl, rfl, rfl⟩ := inj9 hf
  exact ret_i C0 G dX4_fits_8
theorem o4_fits : okName yX4_fits 3 := ⟨by decide, by decide, by decide +kernel⟩
set_option maxHeartbeats 4000000 in
set_option maxRecDepth 100000 in
theorem c4_fits {ta adK adV : Nat → Nat} (hX : XT (XS ta adK adV)) {l : Launch} {D : va_G} {cI cB cG cS : ClassId} {ad : Nat → Nat} {sz : Nat} {hp1 : Nat → Int32} {st1 : Nat → Int32} {tr1 : Nat → Nat → Int32} {sp1 : Nat → Int32} {vis1 : Int32} {day1 : Int32} {z1 : Int32} {hp2 : Nat → Int32} {st2 : Nat → Int32} {tr2 : Nat → Nat → Int32} {sp2 : Nat → Int32} {vis2 : Int32} {day2 : Int32} {z2 : Int32} {hp3 : Nat → Int32} {st3 : Nat → Int32} {tr3 : Nat → Nat → Int32} {sp3 : Nat → Int32} {vis3 : Int32} {day3 : Int32} {z3 : Int32} {tb : Nat → Int32} {tl : Int32} {rtok : Int32} {rbg : Int32} {ren : Int32} {rvl : Int32} {shn : Nat → Nat → Int32} {shb : Nat → Int32} {shz : Nat → Int32} {fd : Nat → Int32} {isK : Int32} {v1 : Int32} {v2 : Int32} {v3 : Int32} {r0 : Int32} {o_hp3 : Nat → Int32} {o_st3 : Nat → Int32} {o_tr3 : Nat → Nat → Int32} {o_sp3 : Nat → Int32} {o_vis3 : Int32} {o_day3 : Int32} {o_z3 : Int32} {o_fd : Nat → Int32} (hf : f4_fits hp1 st1 tr1 sp1 vis1 day1 z1 hp3 st3 tr3 sp3 vis3 day3 z3 shn shb shz fd v1 v2 v3 = some (r0, o_hp3, o_st3, o_tr3, o_sp3, o_vis3, o_day3, o_z3, o_fd)) : Met l yX4_fits (wU yX4_fits cX4_fits 4 (some .int)) ({ frames := 7, cells := 0, slots := 0, locals := 159 }) (va_Pc [.ref (ad 0), .int v1, .int v2, .int v3] (PreW (XS ta adK adV) D (tyC cI cB cG cS) (wS cI cB cG cS ad hp1 st1 tr1 sp1 vis1 day1 z1 hp2 st2 tr2 sp2 vis2 day2 z2 hp3 st3 tr3 sp3 vis3 day3 z3 tb tl rtok rbg ren rvl shn shb shz fd isK) sz)) (QcI D (tyC cI cB cG cS) (wS cI cB cG cS ad hp1 st1 tr1 sp1 vis1 day1 z1 hp2 st2 tr2 sp2 vis2 day2 z2 o_hp3 o_st3 o_tr3 o_sp3 o_vis3 o_day3 o_z3 tb tl rtok rbg ren rvl shn shb shz o_fd isK) (va_A (wS cI cB cG cS ad hp1 st1 tr1 sp1 vis1 day1 z1 hp2 st2 tr2 sp2 vis2 day2 z2 hp3 st3 tr3 sp3 vis3 day3 z3 tb tl rtok rbg ren rvl shn shb shz fd isK) sz) r0) 0 0 (va_A (wS cI cB cG cS ad hp1 st1 tr1 sp1 vis1 day1 z1 hp2 st2 tr2 sp2 vis2 day2 z2 hp3 st3 tr3 sp3 vis3 day3 z3 tb tl rtok rbg ren rvl shn shb shz fd isK) sz) := by
  refine startW hX (own := RX4) (by decide) rfl (Nat.le_of_ble_eq_true rfl) (fun p e s m args below meth c ls C0 G hl => ?_)
  exact b4_fits_0 C0 G hl hf
/-! 4_kinds -/
theorem dX4_kinds_0 : decode cX4_kinds 0 = .ok (.aload_n 0, 1) := by decide +kernel
theorem dX4_kinds_1 : decode cX4_kinds 1 = .ok (.iload_n 1, 1) := by decide +kernel
theorem dX4_kinds_2 : decode cX4_kinds 2 = .ok (.iload_n 2, 1) := by decide +kernel
theorem dX4_kinds_3 : decode cX4_kinds 3 = .ok (.iconst 0, 1) := by decide +kernel
theorem dX4_kinds_4 : decode cX4_kinds 4 = .ok (.iload_n 3, 1) := by decide +kernel
theorem dX4_kinds_5 : decode cX4_kinds 5 = .ok (.invokevirtual 160, 3) := by decide +kernel
theorem dX4_kinds_8 : decode cX4_kinds 8 = .ok (.ireturn, 1) := by decide +kernel
def f4_kinds (hp1 : Nat → Int32) (st1 : Nat → Int32) (tr1 : Nat → Nat → Int32) (sp1 : Nat → Int32) (vis1 : Int32) (day1 : Int32) (z1 : Int32) (hp3 : Nat → Int32) (st3 : Nat → Int32) (tr3 : Nat → Nat → Int32) (sp3 : Nat → Int32) (vis3 : Int32) (day3 : Int32) (z3 : Int32) (shn : Nat → Nat → Int32) (shb : Nat → Int32) (shz : Nat → Int32) (fd : Nat → Int32) (v1 : Int32) (v2 : Int32) (v3 : Int32) : Option (Int32 × (Nat → Int32) × (Nat → Int32) × (Nat → Nat → Int32) × (Nat → Int32) × Int32 × Int32 × Int32 × (Nat → Int32)) :=
  ob9 (f4_toldBy hp1 st1 tr1 sp1 vis1 day1 z1 hp3 st3 tr3 sp3 vis3 day3 z3 shn shb shz fd v1 v2 (0 : Int32) v3) (fun r1 hp3_2 st3_3 tr3_4 sp3_5 vis3_6 day3_7 z3_8 fd_9 =>
  some (r1, hp3_2, st3_3, tr3_4, sp3_5, vis3_6, day3_7, z3_8, fd_9))
set_option maxHeartbeats 4000000 in
set_option maxRecDepth 100000 in
theorem b4_kinds_0 {ta adK adV : Nat → Nat} {p : Program} {l : Launch} {e : Env} {s : State} {m : MethodId} {args : Array Value} {below : List Frame} {meth : Method} {c : Code} {D : va_G} {cI cB cG cS : ClassId} {ad : Nat → Nat} {A : Nat → Prop} {hp1 : Nat → Int32} {st1 : Nat → Int32} {tr1 : Nat → Nat → Int32} {sp1 : Nat → Int32} {vis1 : Int32} {day1 : Int32} {z1 : Int32} {hp2 : Nat → Int32} {st2 : Nat → Int32} {tr2 : Nat → Nat → Int32} {sp2 : Nat → Int32} {vis2 : Int32} {day2 : Int32} {z2 : Int32} {tb : Nat → Int32} {tl : Int32} {rtok : Int32} {rbg : Int32} {ren : Int32} {rvl : Int32} {shn : Nat → Nat → Int32} {shb : Nat → Int32} {shz : Nat → Int32} {isK : Int32} {r0 : Int32} {o_hp3 : Nat → Int32} {o_st3 : Nat → Int32} {o_tr3 : Nat → Nat → Int32} {o_sp3 : Nat → Int32} {o_vis3 : Int32} {o_day3 : Int32} {o_z3 : Int32} {o_fd : Nat → Int32} (C0 : CX (XS ta adK adV) p s m args meth c cX4_kinds 4 (some .int) RX4 A) : ∀ {hp3 : Nat → Int32} {st3 : Nat → Int32} {tr3 : Nat → Nat → Int32} {sp3 : Nat → Int32} {vis3 : Int32} {day3 : Int32} {z3 : Int32} {fd : Nat → Int32} {v1 : Int32} {v2 : Int32} {v3 : Int32} {H : Heap} {locs : List Loc} {ls : Array Slot}, GX (XS ta adK adV) D (tyC cI cB cG cS) A s (wS cI cB cG cS ad hp1 st1 tr1 sp1 vis1 day1 z1 hp2 st2 tr2 sp2 vis2 day2 z2 hp3 st3 tr3 sp3 vis3 day3 z3 tb tl rtok rbg ren rvl shn shb shz fd isK) H locs → lv_has ls 4 [(0, .ref (ad 0)), (1, .int v1), (2, .int v2), (3, .int v3)] → f4_kinds hp1 st1 tr1 sp1 vis1 day1 z1 hp3 st3 tr3 sp3 vis3 day3 z3 shn shb shz fd v1 v2 v3 = some (r0, o_hp3, o_st3, o_tr3, o_sp3, o_vis3, o_day3, o_z3, o_fd) → W p l e ({ frames := 7, cells := 0, slots := 0, locals := 159 }) s m args below meth c H locs 0 0 (MQ below (QcI D (tyC cI cB cG cS) (wS cI cB cG cS ad hp1 st1 tr1 sp1 vis1 day1 z1 hp2 st2 tr2 sp2 vis2 day2 z2 o_hp3 o_st3 o_tr3 o_sp3 o_vis3 o_day3 o_z3 tb tl rtok rbg ren rvl shn shb shz o_fd isK) A r0) args s 0 0 A) (F0 m 0 ls []) := by
  have hx := C0.1
  have hb := C0.2.1
  have hown := C0.2.2.2.2.1
  have hts := C0.2.2.2.2.2.1
  have hX := C0.2.2.2.2.2.2.2.2
  intro hp3 st3 tr3 sp3 vis3 day3 z3 fd v1 v2 v3 H locs ls G hl hf
  unfold f4_kinds at hf
  refine lv_aload_n hx hb dX4_kinds_0 rfl (lv_at hl 0 rfl) ?_
  refine lv_iload_n hx hb dX4_kinds_1 rfl (lv_at hl 1 rfl) ?_
  refine lv_iload_n hx hb dX4_kinds_2 rfl (lv_at hl 2 rfl) ?_
  refine lv_iconst (v := (0 : Int32)) hx hb dX4_kinds_3 (by decide) ?_
  refine lv_iload_n hx hb dX4_kinds_4 rfl (lv_at hl 3 rfl) ?_
  obtain ⟨r1, hp3_2, st3_3, tr3_4, sp3_5, vis3_6, day3_7, z3_8, fd_9, hc10, hf⟩ := ob9_s hf
  refine go_i C0 G (runV_of (n := 4) (q0 := 0) (As := [.int v1, .int v2, .int (0 : Int32), .int v3]) (rest := []) C0 G (c4_toldBy hX hc10) q457 q49 q454 q456 q7 o4_toldBy ⟨rfl, rfl⟩ ⟨Nat.le_of_ble_eq_true rfl, Nat.le_of_ble_eq_true rfl⟩ rfl rfl rfl hl.1 rfl (Nat.le_of_ble_eq_true rfl) dX4_kinds_5) (fun H locs G => ?_)
  obtain ⟨rfl, rfl, rfl, rfl, rfl, rfl, rfl, rfl, rfl⟩ := inj9 hf
  exact ret_i C0 G dX4_kinds_8
theorem o4_kinds : okName yX4_kinds 3 := ⟨by decide, by decide, by decide +kernel⟩
set_option maxHeartbeats 4000000 in
set_option maxRecDepth 100000 in
theorem c4_kinds {ta adK adV : Nat → Nat} (hX : XT (XS ta adK adV)) {l : Launch} {D : va_G} {cI cB cG cS : ClassId} {ad : Nat → Nat} {sz : Nat} {hp1 : Nat → Int32} {st1 : Nat → Int32} {tr1 : Nat → Nat → Int32} {sp1 : Nat → Int32} {vis1 : Int32} {day1 : Int32} {z1 : Int32} {hp2 : Nat → Int32} {st2 : Nat → Int32} {tr2 : Nat → Nat → Int32} {sp2 : Nat → Int32} {vis2 : Int32} {day2 : Int32} {z2 : Int32} {hp3 : Nat → Int32} {st3 : Nat → Int32} {tr3 : Nat → Nat → Int32} {sp3 : Nat → Int32} {vis3 : Int32} {day3 : Int32} {z3 : Int32} {tb : Nat → Int32} {tl : Int32} {rtok : Int32} {rbg : Int32} {ren : Int32} {rvl : Int32} {shn : Nat → Nat → Int32} {shb : Nat → Int32} {shz : Nat → Int32} {fd : Nat → Int32} {isK : Int32} {v1 : Int32} {v2 : Int32} {v3 : Int32} {r0 : Int32} {o_hp3 : Nat → Int32} {o_st3 : Nat → Int32} {o_tr3 : Nat → Nat → Int32} {o_sp3 : Nat → Int32} {o_vis3 : Int32} {o_day3 : Int32} {o_z3 : Int32} {o_fd : Nat → Int32} (hf : f4_kinds hp1 st1 tr1 sp1 vis1 day1 z1 hp3 st3 tr3 sp3 vis3 day3 z3 shn shb shz fd v1 v2 v3 = some (r0, o_hp3, o_st3, o_tr3, o_sp3, o_vis3, o_day3, o_z3, o_fd)) : Met l yX4_kinds (wU yX4_kinds cX4_kinds 4 (some .int)) ({ frames := 7, cells := 0, slots := 0, locals := 159 }) (va_Pc [.ref (ad 0), .int v1, .int v2, .int v3] (PreW (XS ta adK adV) D (tyC cI cB cG cS) (wS cI cB cG cS ad hp1 st1 tr1 sp1 vis1 day1 z1 hp2 st2 tr2 sp2 vis2 day2 z2 hp3 st3 tr3 sp3 vis3 day3 z3 tb tl rtok rbg ren rvl shn shb shz fd isK) sz)) (QcI D (tyC cI cB cG cS) (wS cI cB cG cS ad hp1 st1 tr1 sp1 vis1 day1 z1 hp2 st2 tr2 sp2 vis2 day2 z2 o_hp3 o_st3 o_tr3 o_sp3 o_vis3 o_day3 o_z3 tb tl rtok rbg ren rvl shn shb shz o_fd isK) (va_A (wS cI cB cG cS ad hp1 st1 tr1 sp1 vis1 day1 z1 hp2 st2 tr2 sp2 vis2 day2 z2 hp3 st3 tr3 sp3 vis3 day3 z3 tb tl rtok rbg ren rvl shn shb shz fd isK) sz) r0) 0 0 (va_A (wS cI cB cG cS ad hp1 st1 tr1 sp1 vis1 day1 z1 hp2 st2 tr2 sp2 vis2 day2 z2 hp3 st3 tr3 sp3 vis3 day3 z3 tb tl rtok rbg ren rvl shn shb shz fd isK) sz) := by
  refine startW hX (own := RX4) (by decide) rfl (Nat.le_of_ble_eq_true rfl) (fun p e s m args below meth c ls C0 G hl => ?_)
  exact b4_kinds_0 C0 G hl hf
/-! 4_comings -/
theorem dX4_comings_0 : decode cX4_comings 0 = .ok (.iload_n 1, 1) := by decide +kernel
theorem dX4_comings_1 : decode cX4_comings 1 = .ok (.iconst 1, 1) := by decide +kernel
theorem dX4_comings_2 : decode cX4_comings 2 = .ok (.bipush 20, 2) := by decide +kernel
theorem dX4_comings_4 : decode cX4_comings 4 = .ok (.invokestatic 45, 3) := by decide +kernel
theorem dX4_comings_7 : decode cX4_comings 7 = .ok (.ifCond .ne 9, 3) := by decide +kernel
theorem dX4_comings_10 : decode cX4_comings 10 = .ok (.aload_n 0, 1) := by decide +kernel
theorem dX4_comings_11 : decode cX4_comings 11 = .ok (.iconst 0, 1) := by decide +kernel
theorem dX4_comings_12 : decode cX4_comings 12 = .ok (.invokevirtual 49, 3) := by decide +kernel
theorem dX4_comings_15 : decode cX4_comings 15 = .ok (.ireturn, 1) := by decide +kernel
theorem dX4_comings_16 : decode cX4_comings 16 = .ok (.aload_n 0, 1) := by decide +kernel
theorem dX4_comings_17 : decode cX4_comings 17 = .ok (.getfield 10, 3) := by decide +kernel
theorem dX4_comings_20 : decode cX4_comings 20 = .ok (.getfield 100, 3) := by decide +kernel
theorem dX4_comings_23 : decode cX4_comings 23 = .ok (.iload_n 1, 1) := by decide +kernel
theorem dX4_comings_24 : decode cX4_comings 24 = .ok (.iadd, 1) := by decide +kernel
theorem dX4_comings_25 : decode cX4_comings 25 = .ok (.ldc 104, 2) := by decide +kernel
theorem dX4_comings_27 : decode cX4_comings 27 = .ok (.if_icmp .le 9, 3) := by decide +kernel
theorem dX4_comings_30 : decode cX4_comings 30 = .ok (.aload_n 0, 1) := by decide +kernel
theorem dX4_comings_31 : decode cX4_comings 31 = .ok (.iconst 4, 1) := by decide +kernel
theorem dX4_comings_32 : decode cX4_comings 32 = .ok (.invokevirtual 49, 3) := by decide +kernel
theorem dX4_comings_35 : decode cX4_comings 35 = .ok (.ireturn, 1) := by decide +kernel
theorem dX4_comings_36 : decode cX4_comings 36 = .ok (.iconst 0, 1) := by decide +kernel
theorem dX4_comings_37 : decode cX4_comings 37 = .ok (.istore_n 2, 1) := by decide +kernel
theorem dX4_comings_38 : decode cX4_comings 38 = .ok (.iload_n 2, 1) := by decide +kernel
theorem dX4_comings_39 : decode cX4_comings 39 = .ok (.iload_n 1, 1) := by decide +kernel
theorem dX4_comings_40 : decode cX4_comings 40 = .ok (.if_icmp .ge 71, 3) := by decide +kernel
theorem dX4_comings_43 : decode cX4_comings 43 = .ok (.aload_n 0, 1) := by decide +kernel
theorem dX4_comings_44 : decode cX4_comings 44 = .ok (.getfield 10, 3) := by decide +kernel
theorem dX4_comings_47 : decode cX4_comings 47 = .ok (.invokevirtual 164, 3) := by decide +kernel
theorem dX4_comings_50 : decode cX4_comings 50 = .ok (.bipush 8, 2) := by decide +kernel
theorem dX4_comings_52 : decode cX4_comings 52 = .ok (.irem, 1) := by decide +kernel
theorem dX4_comings_53 : decode cX4_comings 53 = .ok (.istore_n 3, 1) := by decide +kernel
theorem dX4_comings_54 : decode cX4_comings 54 = .ok (.aload_n 0, 1) := by decide +kernel
theorem dX4_comings_55 : decode cX4_comings 55 = .ok (.getfield 10, 3) := by decide +kernel
theorem dX4_comings_58 : decode cX4_comings 58 = .ok (.invokevirtual 164, 3) := by decide +kernel
theorem dX4_comings_61 : decode cX4_comings 61 = .ok (.bipush 16, 2) := by decide +kernel
theorem dX4_comings_63 : decode cX4_comings 63 = .ok (.irem, 1) := by decide +kernel
theorem dX4_comings_64 : decode cX4_comings 64 = .ok (.istore 4, 2) := by decide +kernel
theorem dX4_comings_66 : decode cX4_comings 66 = .ok (.aload_n 0, 1) := by decide +kernel
theorem dX4_comings_67 : decode cX4_comings 67 = .ok (.iload_n 3, 1) := by decide +kernel
theorem dX4_comings_68 : decode cX4_comings 68 = .ok (.invokevirtual 73, 3) := by decide +kernel
theorem dX4_comings_71 : decode cX4_comings 71 = .ok (.ifCond .eq 25, 3) := by decide +kernel
theorem dX4_comings_74 : decode cX4_comings 74 = .ok (.aload_n 0, 1) := by decide +kernel
theorem dX4_comings_75 : decode cX4_comings 75 = .ok (.getfield 10, 3) := by decide +kernel
theorem dX4_comings_78 : decode cX4_comings 78 = .ok (.getfield 89, 3) := by decide +kernel
theorem dX4_comings_81 : decode cX4_comings 81 = .ok (.iconst 1, 1) := by decide +kernel
theorem dX4_comings_82 : decode cX4_comings 82 = .ok (.aaload, 1) := by decide +kernel
theorem dX4_comings_83 : decode cX4_comings 83 = .ok (.iload_n 3, 1) := by decide +kernel
theorem dX4_comings_84 : decode cX4_comings 84 = .ok (.iload 4, 2) := by decide +kernel
theorem dX4_comings_86 : decode cX4_comings 86 = .ok (.iastore, 1) := by decide +kernel
theorem dX4_comings_87 : decode cX4_comings 87 = .ok (.aload_n 0, 1) := by decide +kernel
theorem dX4_comings_88 : decode cX4_comings 88 = .ok (.getfield 10, 3) := by decide +kernel
theorem dX4_comings_91 : decode cX4_comings 91 = .ok (.iload_n 3, 1) := by decide +kernel
theorem dX4_comings_92 : decode cX4_comings 92 = .ok (.invokevirtual 97, 3) := by decide +kernel
theorem dX4_comings_95 : decode cX4_comings 95 = .ok (.pop, 1) := by decide +kernel
theorem dX4_comings_96 : decode cX4_comings 96 = .ok (.aload_n 0, 1) := by decide +kernel
theorem dX4_comings_97 : decode cX4_comings 97 = .ok (.getfield 10, 3) := by decide +kernel
theorem dX4_comings_100 : decode cX4_comings 100 = .ok (.iconst 1, 1) := by decide +kernel
theorem dX4_comings_101 : decode cX4_comings 101 = .ok (.iconst 0, 1) := by decide +kernel
theorem dX4_comings_102 : decode cX4_comings 102 = .ok (.invokevirtual 105, 3) := by decide +kernel
theorem dX4_comings_105 : decode cX4_comings 105 = .ok (.iinc 2 1, 3) := by decide +kernel
theorem dX4_comings_108 : decode cX4_comings 108 = .ok (.goto (-70), 3) := by decide +kernel
theorem dX4_comings_111 : decode cX4_comings 111 = .ok (.aload_n 0, 1) := by decide +kernel
theorem dX4_comings_112 : decode cX4_comings 112 = .ok (.getfield 10, 3) := by decide +kernel
theorem dX4_comings_115 : decode cX4_comings 115 = .ok (.invokevirtual 109, 3) := by decide +kernel
theorem dX4_comings_118 : decode cX4_comings 118 = .ok (.ireturn, 1) := by decide +kernel
def j4_comings_96 (k38 : (Nat → Int32) → (Nat → Int32) → (Nat → Nat → Int32) → Int32 → Int32 → Int32 → (Nat → Int32) → Int32 → Int32 → Option (Int32 × (Nat → Int32) × (Nat → Int32) × (Nat → Nat → Int32) × Int32 × Int32 × (Nat → Int32))) (hp1 : Nat → Int32) (st1 : Nat → Int32) (tr1 : Nat → Nat → Int32) (vis1 : Int32) (day1 : Int32) (z1 : Int32) (fd : Nat → Int32) (v1 : Int32) (v2 : Int32) : Option (Int32 × (Nat → Int32) × (Nat → Int32) × (Nat → Nat → Int32) × Int32 × Int32 × (Nat → Int32)) :=
  ob4 (f0_passDays hp1 st1 tr1 vis1 day1 (1 : Int32) (0 : Int32)) (fun hp1_25 st1_26 tr1_27 day1_28 =>
  k38 hp1_25 st1_26 tr1_27 vis1 day1_28 z1 fd v1 (v2 + (1 : Int32)))
def l4_comings_38  : Nat → (Nat → Int32) → (Nat → Int32) → (Nat → Nat → Int32) → Int32 → Int32 → Int32 → (Nat → Int32) → Int32 → Int32 → Option (Int32 × (Nat → Int32) × (Nat → Int32) × (Nat → Nat → Int32) × Int32 × Int32 × (Nat → Int32))
  | 0, _, _, _, _, _, _, _, _, _ => none
  | n + 1, hp1, st1, tr1, vis1, day1, z1, fd, v1, v2 =>
    if v1 ≤ v2 then (
      ob1 (f0_roadLength hp1) (fun r10 =>
      some (r10, hp1, st1, tr1, day1, z1, fd)))
    else (
      ob2 (f0_draw z1) (fun r12 z1_13 =>
      ob2 (f0_draw z1_13) (fun r15 z1_16 =>
      if (f4_isVisitor vis1 (r12 - r12 / (8 : Int32) * (8 : Int32))) = (0 : Int32) then (
        j4_comings_96 (l4_comings_38 n) hp1 st1 tr1 vis1 day1 z1_16 fd v1 v2)
      else (
        gd (inb (r12 - r12 / (8 : Int32) * (8 : Int32)) 8) (
        ob4 (f0_receive hp1 st1 (upd2 tr1 1 ((r12 - r12 / (8 : Int32) * (8 : Int32)).toNatClampNeg) (r15 - r15 / (16 : Int32) * (16 : Int32))) (r12 - r12 / (8 : Int32) * (8 : Int32))) (fun r20 hp1_21 st1_22 tr1_23 =>
        j4_comings_96 (l4_comings_38 n) hp1_21 st1_22 tr1_23 vis1 day1 z1_16 fd v1 v2))))))
def f4_comings (hp1 : Nat → Int32) (st1 : Nat → Int32) (tr1 : Nat → Nat → Int32) (vis1 : Int32) (day1 : Int32) (z1 : Int32) (fd : Nat → Int32) (v1 : Int32) : Option (Int32 × (Nat → Int32) × (Nat → Int32) × (Nat → Nat → Int32) × Int32 × Int32 × (Nat → Int32)) :=
  if (f4_within v1 (1 : Int32) (20 : Int32)) = (0 : Int32) then (
    ob2 (f4_found fd (0 : Int32)) (fun r6 fd_7 =>
    some (r6, hp1, st1, tr1, day1, z1, fd_7)))
  else (
    if (day1 + v1) ≤ (99999 : Int32) then (
      l4_comings_38 1000 hp1 st1 tr1 vis1 day1 z1 fd v1 (0 : Int32))
    else (
      ob2 (f4_found fd (4 : Int32)) (fun r3 fd_4 =>
      some (r3, hp1, st1, tr1, day1, z1, fd_4))))
set_option maxHeartbeats 4000000 in
set_option maxRecDepth 100000 in
theorem b4_comings_96 {ta adK adV : Nat → Nat} {p : Program} {l : Launch} {e : Env} {s : State} {m : MethodId} {args : Array Value} {below : List Frame} {meth : Method} {c : Code} {D : va_G} {cI cB cG cS : ClassId} {ad : Nat → Nat} {A : Nat → Prop} {sp1 : Nat → Int32} {vis1 : Int32} {hp2 : Nat → Int32} {st2 : Nat → Int32} {tr2 : Nat → Nat → Int32} {sp2 : Nat → Int32} {vis2 : Int32} {day2 : Int32} {z2 : Int32} {hp3 : Nat → Int32} {st3 : Nat → Int32} {tr3 : Nat → Nat → Int32} {sp3 : Nat → Int32} {vis3 : Int32} {day3 : Int32} {z3 : Int32} {tb : Nat → Int32} {tl : Int32} {rtok : Int32} {rbg : Int32} {ren : Int32} {rvl : Int32} {shn : Nat → Nat → Int32} {shb : Nat → Int32} {shz : Nat → Int32} {isK : Int32} {r0 : Int32} {o_hp1 : Nat → Int32} {o_st1 : Nat → Int32} {o_tr1 : Nat → Nat → Int32} {o_day1 : Int32} {o_z1 : Int32} {o_fd : Nat → Int32} (C0 : CX (XS ta adK adV) p s m args meth c cX4_comings 5 (some .int) RX4 A) {k38 : (Nat → Int32) → (Nat → Int32) → (Nat → Nat → Int32) → Int32 → Int32 → Int32 → (Nat → Int32) → Int32 → Int32 → Option (Int32 × (Nat → Int32) × (Nat → Int32) × (Nat → Nat → Int32) × Int32 × Int32 × (Nat → Int32))} (hk38 : ∀ {hp1 : Nat → Int32} {st1 : Nat → Int32} {tr1 : Nat → Nat → Int32} {day1 : Int32} {z1 : Int32} {fd : Nat → Int32} {v1 : Int32} {v2 : Int32} {H : Heap} {locs : List Loc} {ls : Array Slot}, GX (XS ta adK adV) D (tyC cI cB cG cS) A s (wS cI cB cG cS ad hp1 st1 tr1 sp1 vis1 day1 z1 hp2 st2 tr2 sp2 vis2 day2 z2 hp3 st3 tr3 sp3 vis3 day3 z3 tb tl rtok rbg ren rvl shn shb shz fd isK) H locs → lv_has ls 5 [(0, .ref (ad 0)), (1, .int v1), (2, .int v2)] → k38 hp1 st1 tr1 vis1 day1 z1 fd v1 v2 = some (r0, o_hp1, o_st1, o_tr1, o_day1, o_z1, o_fd) → W p l e ({ frames := 5, cells := 0, slots := 0, locals := 108 }) s m args below meth c H locs 0 0 (MQ below (QcI D (tyC cI cB cG cS) (wS cI cB cG cS ad o_hp1 o_st1 o_tr1 sp1 vis1 o_day1 o_z1 hp2 st2 tr2 sp2 vis2 day2 z2 hp3 st3 tr3 sp3 vis3 day3 z3 tb tl rtok rbg ren rvl shn shb shz o_fd isK) A r0) args s 0 0 A) (F0 m 38 ls [])) : ∀ {hp1 : Nat → Int32} {st1 : Nat → Int32} {tr1 : Nat → Nat → Int32} {day1 : Int32} {z1 : Int32} {fd : Nat → Int32} {v1 : Int32} {v2 : Int32} {H : Heap} {locs : List Loc} {ls : Array Slot}, GX (XS ta adK adV) D (tyC cI cB cG cS) A s (wS cI cB cG cS ad hp1 st1 tr1 sp1 vis1 day1 z1 hp2 st2 tr2 sp2 vis2 day2 z2 hp3 st3 tr3 sp3 vis3 day3 z3 tb tl rtok rbg ren rvl shn shb shz fd isK) H locs → lv_has ls 5 [(0, .ref (ad 0)), (1, .int v1), (2, .int v2)] → j4_comings_96 k38 hp1 st1 tr1 vis1 day1 z1 fd v1 v2 = some (r0, o_hp1, o_st1, o_tr1, o_day1, o_z1, o_fd) → W p l e ({ frames := 5, cells := 0, slots := 0, locals := 108 }) s m args below meth c H locs 0 0 (MQ below (QcI D (tyC cI cB cG cS) (wS cI cB cG cS ad o_hp1 o_st1 o_tr1 sp1 vis1 o_day1 o_z1 hp2 st2 tr2 sp2 vis2 day2 z2 hp3 st3 tr3 sp3 vis3 day3 z3 tb tl rtok rbg ren rvl shn shb shz o_fd isK) A r0) args s 0 0 A) (F0 m 96 ls []) := by
  have hx := C0.1
  have hb := C0.2.1
  have hown := C0.2.2.2.2.1
  have hts := C0.2.2.2.2.2.1
  have hX := C0.2.2.2.2.2.2.2.2
  intro hp1 st1 tr1 day1 z1 fd v1 v2 H locs ls G hl hf
  unfold j4_comings_96 at hf
  refine lv_aload_n hx hb dX4_comings_96 rfl (lv_at hl 0 rfl) ?_
  refine s_get (C := RX4) (T := TX4) C0 G i_X4 0 0 rfl rfl (by decide) q173 rfl dX4_comings_97 ?_
  refine lv_iconst (v := (1 : Int32)) hx hb dX4_comings_100 (by decide) ?_
  refine lv_iconst (v := (0 : Int32)) hx hb dX4_comings_101 (by decide) ?_
  obtain ⟨hp1_25, st1_26, tr1_27, day1_28, hc29, hf⟩ := ob4_s hf
  refine go_v_sub C0 G s_pit1 o_pit1 (runV_sub (n := 2) (q0 := 1) (As := [.int (1 : Int32), .int (0 : Int32)]) (rest := []) C0 G s_pit1 (c0_passDays hX hc29) q322 q50 q319 q320 q321 o0_passDays ⟨rfl, rfl⟩ ⟨Nat.le_of_ble_eq_true rfl, Nat.le_of_ble_eq_true rfl⟩ rfl rfl rfl hl.1 rfl (Nat.le_of_ble_eq_true rfl) dX4_comings_102) (fun H locs G => ?_)
  refine lv_iinc (v := (v2 + (1 : Int32))) (lv' := [(2, .int (v2 + (1 : Int32))), (0, .ref (ad 0)), (1, .int v1)]) hx hb dX4_comings_105 hl (k := 2) rfl rfl (by decide) rfl (fun ls hl => ?_)
  refine lv_goto (tgt := 38) hx hb dX4_comings_108 (by decide) ?_
  exact hk38 G (lv_sub hl [1, 2, 0] rfl) hf
set_option maxHeartbeats 4000000 in
set_option maxRecDepth 100000 in
theorem b4_comings_38 {ta adK adV : Nat → Nat} {p : Program} {l : Launch} {e : Env} {s : State} {m : MethodId} {args : Array Value} {below : List Frame} {meth : Method} {c : Code} {D : va_G} {cI cB cG cS : ClassId} {ad : Nat → Nat} {A : Nat → Prop} {sp1 : Nat → Int32} {vis1 : Int32} {hp2 : Nat → Int32} {st2 : Nat → Int32} {tr2 : Nat → Nat → Int32} {sp2 : Nat → Int32} {vis2 : Int32} {day2 : Int32} {z2 : Int32} {hp3 : Nat → Int32} {st3 : Nat → Int32} {tr3 : Nat → Nat → Int32} {sp3 : Nat → Int32} {vis3 : Int32} {day3 : Int32} {z3 : Int32} {tb : Nat → Int32} {tl : Int32} {rtok : Int32} {rbg : Int32} {ren : Int32} {rvl : Int32} {shn : Nat → Nat → Int32} {shb : Nat → Int32} {shz : Nat → Int32} {isK : Int32} {r0 : Int32} {o_hp1 : Nat → Int32} {o_st1 : Nat → Int32} {o_tr1 : Nat → Nat → Int32} {o_day1 : Int32} {o_z1 : Int32} {o_fd : Nat → Int32} (C0 : CX (XS ta adK adV) p s m args meth c cX4_comings 5 (some .int) RX4 A) : ∀ (n : Nat) {hp1 : Nat → Int32} {st1 : Nat → Int32} {tr1 : Nat → Nat → Int32} {day1 : Int32} {z1 : Int32} {fd : Nat → Int32} {v1 : Int32} {v2 : Int32} {H : Heap} {locs : List Loc} {ls : Array Slot}, GX (XS ta adK adV) D (tyC cI cB cG cS) A s (wS cI cB cG cS ad hp1 st1 tr1 sp1 vis1 day1 z1 hp2 st2 tr2 sp2 vis2 day2 z2 hp3 st3 tr3 sp3 vis3 day3 z3 tb tl rtok rbg ren rvl shn shb shz fd isK) H locs → lv_has ls 5 [(0, .ref (ad 0)), (1, .int v1), (2, .int v2)] → l4_comings_38  n hp1 st1 tr1 vis1 day1 z1 fd v1 v2 = some (r0, o_hp1, o_st1, o_tr1, o_day1, o_z1, o_fd) → W p l e ({ frames := 5, cells := 0, slots := 0, locals := 108 }) s m args below meth c H locs 0 0 (MQ below (QcI D (tyC cI cB cG cS) (wS cI cB cG cS ad o_hp1 o_st1 o_tr1 sp1 vis1 o_day1 o_z1 hp2 st2 tr2 sp2 vis2 day2 z2 hp3 st3 tr3 sp3 vis3 day3 z3 tb tl rtok rbg ren rvl shn shb shz o_fd isK) A r0) args s 0 0 A) (F0 m 38 ls []) := by
  have hx := C0.1
  have hb := C0.2.1
  have hown := C0.2.2.2.2.1
  have hts := C0.2.2.2.2.2.1
  have hX := C0.2.2.2.2.2.2.2.2
  intro n
  induction n with
  | zero =>
    intro _ _ _ _ _ _ _ _ _ _ _ G hl hf
    cases hf
  | succ n ih =>
    intro hp1 st1 tr1 day1 z1 fd v1 v2 H locs ls G hl hf
    rw [l4_comings_38] at hf
    refine lv_iload_n hx hb dX4_comings_38 rfl (lv_at hl 2 rfl) ?_
    refine lv_iload_n hx hb dX4_comings_39 rfl (lv_at hl 1 rfl) ?_
    refine lv_icmp_ge (tgt := 111) hx hb dX4_comings_40 (by decide) (fun hc9 => ?_) (fun hc9 => ?_)
    · have hf := itp hc9 hf
      refine lv_aload_n hx hb dX4_comings_111 rfl (lv_at hl 0 rfl) ?_
      refine s_get (C := RX4) (T := TX4) C0 G i_X4 0 0 rfl rfl (by decide) q173 rfl dX4_comings_112 ?_
      obtain ⟨r10, hc11, hf⟩ := ob1_s hf
      refine go_i_sub C0 G s_pit1 o_pit1 (runV_sub (n := 0) (q0 := 1) (As := []) (rest := []) C0 G s_pit1 (c0_roadLength hX hc11) q344 q50 q341 q342 q343 o0_roadLength ⟨rfl, rfl⟩ ⟨Nat.le_of_ble_eq_true rfl, Nat.le_of_ble_eq_true rfl⟩ rfl rfl rfl hl.1 rfl (Nat.le_of_ble_eq_true rfl) dX4_comings_115) (fun H locs G => ?_)
      obtain ⟨rfl, rfl, rfl, rfl, rfl, rfl, rfl⟩ := inj7 hf
      exact ret_i C0 G dX4_comings_118
    · have hf := itn hc9 hf
      refine lv_aload_n hx hb dX4_comings_43 rfl (lv_at hl 0 rfl) ?_
      refine s_get (C := RX4) (T := TX4) C0 G i_X4 0 0 rfl rfl (by decide) q173 rfl dX4_comings_44 ?_
      obtain ⟨r12, z1_13, hc14, hf⟩ := ob2_s hf
      refine go_i_sub C0 G s_pit1 o_pit1 (runV_sub (n := 0) (q0 := 1) (As := []) (rest := []) C0 G s_pit1 (c0_draw hX hc14) q481 q50 q478 q479 q480 o0_draw ⟨rfl, rfl⟩ ⟨Nat.le_of_ble_eq_true rfl, Nat.le_of_ble_eq_true rfl⟩ rfl rfl rfl hl.1 rfl (Nat.le_of_ble_eq_true rfl) dX4_comings_47) (fun H locs G => ?_)
      refine lv_bipush (v := (8 : Int32)) hx hb dX4_comings_50 (by decide) ?_
      refine lv_irem hx hb dX4_comings_52 (by decide) ?_
      refine lv_istore_n (lv' := [(3, .int (r12 - r12 / (8 : Int32) * (8 : Int32))), (0, .ref (ad 0)), (1, .int v1), (2, .int v2)]) hx hb dX4_comings_53 rfl hl (by decide) rfl (fun ls hl => ?_)
      refine lv_aload_n hx hb dX4_comings_54 rfl (lv_at hl 1 rfl) ?_
      refine s_get (C := RX4) (T := TX4) C0 G i_X4 0 0 rfl rfl (by decide) q173 rfl dX4_comings_55 ?_
      obtain ⟨r15, z1_16, hc17, hf⟩ := ob2_s hf
      refine go_i_sub C0 G s_pit1 o_pit1 (runV_sub (n := 0) (q0 := 1) (As := []) (rest := []) C0 G s_pit1 (c0_draw hX hc17) q481 q50 q478 q479 q480 o0_draw ⟨rfl, rfl⟩ ⟨Nat.le_of_ble_eq_true rfl, Nat.le_of_ble_eq_true rfl⟩ rfl rfl rfl hl.1 rfl (Nat.le_of_ble_eq_true rfl) dX4_comings_58) (fun H locs G => ?_)
      refine lv_bipush (v := (16 : Int32)) hx hb dX4_comings_61 (by decide) ?_
      refine lv_irem hx hb dX4_comings_63 (by decide) ?_
      refine lv_istore (lv' := [(4, .int (r15 - r15 / (16 : Int32) * (16 : Int32))), (3, .int (r12 - r12 / (8 : Int32) * (8 : Int32))), (0, .ref (ad 0)), (1, .int v1), (2, .int v2)]) hx hb dX4_comings_64 hl (by decide) rfl (fun ls hl => ?_)
      refine lv_aload_n hx hb dX4_comings_66 rfl (lv_at hl 2 rfl) ?_
      refine lv_iload_n hx hb dX4_comings_67 rfl (lv_at hl 1 rfl) ?_
      refine go_i C0 G (runV_of (n := 1) (q0 := 0) (As := [.int (r12 - r12 / (8 : Int32) * (8 : Int32))]) (rest := []) C0 G (c4_isVisitor hX rfl) q261 q49 q258 q260 q1 o4_isVisitor ⟨rfl, rfl⟩ ⟨Nat.le_of_ble_eq_true rfl, Nat.le_of_ble_eq_true rfl⟩ rfl rfl rfl hl.1 rfl (Nat.le_of_ble_eq_true rfl) dX4_comings_68) (fun H locs G => ?_)
      refine lv_if_eq (tgt := 96) hx hb dX4_comings_71 (by decide) (fun hc18 => ?_) (fun hc18 => ?_)
      · have hf := itp hc18 hf
        exact b4_comings_96 C0 ih G (lv_sub hl [2, 3, 4] rfl) hf
      · have hf := itn hc18 hf
        refine lv_aload_n hx hb dX4_comings_74 rfl (lv_at hl 2 rfl) ?_
        refine s_get (C := RX4) (T := TX4) C0 G i_X4 0 0 rfl rfl (by decide) q173 rfl dX4_comings_75 ?_
        refine s_get (C := RX0) (T := TX0) C0 G i_X0 1 2 rfl rfl (by decide) q88 rfl dX4_comings_78 ?_
        refine lv_iconst (v := (1 : Int32)) hx hb dX4_comings_81 (by decide) ?_
        refine s_aldg (k := 1) (b := ad 6) C0 G 4 2 rfl rfl (vin (by decide)) (by decide) rfl dX4_comings_82 ?_
        refine lv_iload_n hx hb dX4_comings_83 rfl (lv_at hl 1 rfl) ?_
        refine lv_iload hx hb dX4_comings_84 (lv_at hl 0 rfl) ?_
        obtain ⟨hi19, hf⟩ := gd_s hf
        refine s_iast (k := (r12 - r12 / (8 : Int32) * (8 : Int32)).toNatClampNeg) (w' := (wS cI cB cG cS ad hp1 st1 (upd2 tr1 1 ((r12 - r12 / (8 : Int32) * (8 : Int32)).toNatClampNeg) (r15 - r15 / (16 : Int32) * (16 : Int32))) sp1 vis1 day1 z1_16 hp2 st2 tr2 sp2 vis2 day2 z2 hp3 st3 tr3 sp3 vis3 day3 z3 tb tl rtok rbg ren rvl shn shb shz fd isK)) C0 G 6 0 rfl rfl (vin hi19) rfl rfl dX4_comings_86 (fun H locs G => ?_)
        refine lv_aload_n hx hb dX4_comings_87 rfl (lv_at hl 2 rfl) ?_
        refine s_get (C := RX4) (T := TX4) C0 G i_X4 0 0 rfl rfl (by decide) q173 rfl dX4_comings_88 ?_
        refine lv_iload_n hx hb dX4_comings_91 rfl (lv_at hl 1 rfl) ?_
        obtain ⟨r20, hp1_21, st1_22, tr1_23, hc24, hf⟩ := ob4_s hf
        refine go_i_sub C0 G s_pit1 o_pit1 (runV_sub (n := 1) (q0 := 1) (As := [.int (r12 - r12 / (8 : Int32) * (8 : Int32))]) (rest := []) C0 G s_pit1 (c0_receive hX hc24) q301 q50 q298 q299 q300 o0_receive ⟨rfl, rfl⟩ ⟨Nat.le_of_ble_eq_true rfl, Nat.le_of_ble_eq_true rfl⟩ rfl rfl rfl hl.1 rfl (Nat.le_of_ble_eq_true rfl) dX4_comings_92) (fun H locs G => ?_)
        refine lv_pop hx hb dX4_comings_95 rfl ?_
        exact b4_comings_96 C0 ih G (lv_sub hl [2, 3, 4] rfl) hf
set_option maxHeartbeats 4000000 in
set_option maxRecDepth 100000 in
theorem b4_comings_0 {ta adK adV : Nat → Nat} {p : Program} {l : Launch} {e : Env} {s : State} {m : MethodId} {args : Array Value} {below : List Frame} {meth : Method} {c : Code} {D : va_G} {cI cB cG cS : ClassId} {ad : Nat → Nat} {A : Nat → Prop} {sp1 : Nat → Int32} {vis1 : Int32} {hp2 : Nat → Int32} {st2 : Nat → Int32} {tr2 : Nat → Nat → Int32} {sp2 : Nat → Int32} {vis2 : Int32} {day2 : Int32} {z2 : Int32} {hp3 : Nat → Int32} {st3 : Nat → Int32} {tr3 : Nat → Nat → Int32} {sp3 : Nat → Int32} {vis3 : Int32} {day3 : Int32} {z3 : Int32} {tb : Nat → Int32} {tl : Int32} {rtok : Int32} {rbg : Int32} {ren : Int32} {rvl : Int32} {shn : Nat → Nat → Int32} {shb : Nat → Int32} {shz : Nat → Int32} {isK : Int32} {r0 : Int32} {o_hp1 : Nat → Int32} {o_st1 : Nat → Int32} {o_tr1 : Nat → Nat → Int32} {o_day1 : Int32} {o_z1 : Int32} {o_fd : Nat → Int32} (C0 : CX (XS ta adK adV) p s m args meth c cX4_comings 5 (some .int) RX4 A) : ∀ {hp1 : Nat → Int32} {st1 : Nat → Int32} {tr1 : Nat → Nat → Int32} {day1 : Int32} {z1 : Int32} {fd : Nat → Int32} {v1 : Int32} {H : Heap} {locs : List Loc} {ls : Array Slot}, GX (XS ta adK adV) D (tyC cI cB cG cS) A s (wS cI cB cG cS ad hp1 st1 tr1 sp1 vis1 day1 z1 hp2 st2 tr2 sp2 vis2 day2 z2 hp3 st3 tr3 sp3 vis3 day3 z3 tb tl rtok rbg ren rvl shn shb shz fd isK) H locs → lv_has ls 5 [(0, .ref (ad 0)), (1, .int v1)] → f4_comings hp1 st1 tr1 vis1 day1 z1 fd v1 = some (r0, o_hp1, o_st1, o_tr1, o_day1, o_z1, o_fd) → W p l e ({ frames := 5, cells := 0, slots := 0, locals := 108 }) s m args below meth c H locs 0 0 (MQ below (QcI D (tyC cI cB cG cS) (wS cI cB cG cS ad o_hp1 o_st1 o_tr1 sp1 vis1 o_day1 o_z1 hp2 st2 tr2 sp2 vis2 day2 z2 hp3 st3 tr3 sp3 vis3 day3 z3 tb tl rtok rbg ren rvl shn shb shz o_fd isK) A r0) args s 0 0 A) (F0 m 0 ls []) := by
  have hx := C0.1
  have hb := C0.2.1
  have hown := C0.2.2.2.2.1
  have hts := C0.2.2.2.2.2.1
  have hX := C0.2.2.2.2.2.2.2.2
  intro hp1 st1 tr1 day1 z1 fd v1 H locs ls G hl hf
  unfold f4_comings at hf
  refine lv_iload_n hx hb dX4_comings_0 rfl (lv_at hl 1 rfl) ?_
  refine lv_iconst (v := (1 : Int32)) hx hb dX4_comings_1 (by decide) ?_
  refine lv_bipush (v := (20 : Int32)) hx hb dX4_comings_2 (by decide) ?_
  refine go_i C0 G (runS_of (n := 3) (As := [.int v1, .int (1 : Int32), .int (20 : Int32)]) (rest := []) C0 G (c4_within hX rfl) q204 q49 q202 q203 o4_within ⟨rfl, rfl⟩ ⟨Nat.le_of_ble_eq_true rfl, Nat.le_of_ble_eq_true rfl⟩ rfl hl.1 rfl (Nat.le_of_ble_eq_true rfl) dX4_comings_4) (fun H locs G => ?_)
  refine lv_if_ne (tgt := 16) hx hb dX4_comings_7 (by decide) (fun hc1 => ?_) (fun hc1 => ?_)
  · have hf := itn hc1 hf
    refine lv_aload_n hx hb dX4_comings_16 rfl (lv_at hl 0 rfl) ?_
    refine s_get (C := RX4) (T := TX4) C0 G i_X4 0 0 rfl rfl (by decide) q173 rfl dX4_comings_17 ?_
    refine s_get (C := RX0) (T := TX0) C0 G i_X0 1 5 rfl rfl (by decide) q94 rfl dX4_comings_20 ?_
    refine lv_iload_n hx hb dX4_comings_23 rfl (lv_at hl 1 rfl) ?_
    refine lv_iadd hx hb dX4_comings_24 ?_
    refine lv_ldc (v := (99999 : Int32)) hx hb hown (hts _ q318) dX4_comings_25 ?_
    refine lv_icmp_le (tgt := 36) hx hb dX4_comings_27 (by decide) (fun hc2 => ?_) (fun hc2 => ?_)
    · have hf := itp hc2 hf
      refine lv_iconst (v := (0 : Int32)) hx hb dX4_comings_36 (by decide) ?_
      refine lv_istore_n (lv' := [(2, .int (0 : Int32)), (0, .ref (ad 0)), (1, .int v1)]) hx hb dX4_comings_37 rfl hl (by decide) rfl (fun ls hl => ?_)
      exact b4_comings_38 C0  1000 G (lv_sub hl [1, 2, 0] rfl) hf
    · have hf := itn hc2 hf
      refine lv_aload_n hx hb dX4_comings_30 rfl (lv_at hl 0 rfl) ?_
      refine lv_iconst (v := (4 : Int32)) hx hb dX4_comings_31 (by decide) ?_
      obtain ⟨r3, fd_4, hc5, hf⟩ := ob2_s hf
      refine go_i C0 G (runV_of (n := 1) (q0 := 0) (As := [.int (4 : Int32)]) (rest := []) C0 G (c4_found hX hc5) q208 q49 q205 q207 q0 o4_found ⟨rfl, rfl⟩ ⟨Nat.le_of_ble_eq_true rfl, Nat.le_of_ble_eq_true rfl⟩ rfl rfl rfl hl.1 rfl (Nat.le_of_ble_eq_true rfl) dX4_comings_32) (fun H locs G => ?_)
      obtain ⟨rfl, rfl, rfl, rfl, rfl, rfl, rfl⟩ := inj7 hf
      exact ret_i C0 G dX4_comings_35
  · have hf := itp hc1 hf
    refine lv_aload_n hx hb dX4_comings_10 rfl (lv_at hl 0 rfl) ?_
    refine lv_iconst (v := (0 : Int32)) hx hb dX4_comings_11 (by decide) ?_
    obtain ⟨r6, fd_7, hc8, hf⟩ := ob2_s hf
    refine go_i C0 G (runV_of (n := 1) (q0 := 0) (As := [.int (0 : Int32)]) (rest := []) C0 G (c4_found hX hc8) q208 q49 q205 q207 q0 o4_found ⟨rfl, rfl⟩ ⟨Nat.le_of_ble_eq_true rfl, Nat.le_of_ble_eq_true rfl⟩ rfl rfl rfl hl.1 rfl (Nat.le_of_ble_eq_true rfl) dX4_comings_12) (fun H locs G => ?_)
    obtain ⟨rfl, rfl, rfl, rfl, rfl, rfl, rfl⟩ := inj7 hf
    exact ret_i C0 G dX4_comings_15
theorem o4_comings : okName yX4_comings 1 := ⟨by decide, by decide, by decide +kernel⟩
set_option maxHeartbeats 4000000 in
set_option maxRecDepth 100000 in
theorem c4_comings {ta adK adV : Nat → Nat} (hX : XT (XS ta adK adV)) {l : Launch} {D : va_G} {cI cB cG cS : ClassId} {ad : Nat → Nat} {sz : Nat} {hp1 : Nat → Int32} {st1 : Nat → Int32} {tr1 : Nat → Nat → Int32} {sp1 : Nat → Int32} {vis1 : Int32} {day1 : Int32} {z1 : Int32} {hp2 : Nat → Int32} {st2 : Nat → Int32} {tr2 : Nat → Nat → Int32} {sp2 : Nat → Int32} {vis2 : Int32} {day2 : Int32} {z2 : Int32} {hp3 : Nat → Int32} {st3 : Nat → Int32} {tr3 : Nat → Nat → Int32} {sp3 : Nat → Int32} {vis3 : Int32} {day3 : Int32} {z3 : Int32} {tb : Nat → Int32} {tl : Int32} {rtok : Int32} {rbg : Int32} {ren : Int32} {rvl : Int32} {shn : Nat → Nat → Int32} {shb : Nat → Int32} {shz : Nat → Int32} {fd : Nat → Int32} {isK : Int32} {v1 : Int32} {r0 : Int32} {o_hp1 : Nat → Int32} {o_st1 : Nat → Int32} {o_tr1 : Nat → Nat → Int32} {o_day1 : Int32} {o_z1 : Int32} {o_fd : Nat → Int32} (hf : f4_comings hp1 st1 tr1 vis1 day1 z1 fd v1 = some (r0, o_hp1, o_st1, o_tr1, o_day1, o_z1, o_fd)) : Met l yX4_comings (wU yX4_comings cX4_comings 5 (some .int)) ({ frames := 5, cells := 0, slots := 0, locals := 108 }) (va_Pc [.ref (ad 0), .int v1] (PreW (XS ta adK adV) D (tyC cI cB cG cS) (wS cI cB cG cS ad hp1 st1 tr1 sp1 vis1 day1 z1 hp2 st2 tr2 sp2 vis2 day2 z2 hp3 st3 tr3 sp3 vis3 day3 z3 tb tl rtok rbg ren rvl shn shb shz fd isK) sz)) (QcI D (tyC cI cB cG cS) (wS cI cB cG cS ad o_hp1 o_st1 o_tr1 sp1 vis1 o_day1 o_z1 hp2 st2 tr2 sp2 vis2 day2 z2 hp3 st3 tr3 sp3 vis3 day3 z3 tb tl rtok rbg ren rvl shn shb shz o_fd isK) (va_A (wS cI cB cG cS ad hp1 st1 tr1 sp1 vis1 day1 z1 hp2 st2 tr2 sp2 vis2 day2 z2 hp3 st3 tr3 sp3 vis3 day3 z3 tb tl rtok rbg ren rvl shn shb shz fd isK) sz) r0) 0 0 (va_A (wS cI cB cG cS ad hp1 st1 tr1 sp1 vis1 day1 z1 hp2 st2 tr2 sp2 vis2 day2 z2 hp3 st3 tr3 sp3 vis3 day3 z3 tb tl rtok rbg ren rvl shn shb shz fd isK) sz) := by
  refine startW hX (own := RX4) (by decide) rfl (Nat.le_of_ble_eq_true rfl) (fun p e s m args below meth c ls C0 G hl => ?_)
  exact b4_comings_0 C0 G hl hf
/-! 4_power -/
theorem dX4_power_0 : decode cX4_power 0 = .ok (.lconst 1, 1) := by decide +kernel
theorem dX4_power_1 : decode cX4_power 1 = .ok (.lstore_n 2, 1) := by decide +kernel
theorem dX4_power_2 : decode cX4_power 2 = .ok (.iconst 0, 1) := by decide +kernel
theorem dX4_power_3 : decode cX4_power 3 = .ok (.istore 4, 2) := by decide +kernel
theorem dX4_power_5 : decode cX4_power 5 = .ok (.iload 4, 2) := by decide +kernel
theorem dX4_power_7 : decode cX4_power 7 = .ok (.iload_n 1, 1) := by decide +kernel
theorem dX4_power_8 : decode cX4_power 8 = .ok (.if_icmp .ge 14, 3) := by decide +kernel
theorem dX4_power_11 : decode cX4_power 11 = .ok (.lload_n 2, 1) := by decide +kernel
theorem dX4_power_12 : decode cX4_power 12 = .ok (.iload_n 0, 1) := by decide +kernel
theorem dX4_power_13 : decode cX4_power 13 = .ok (.i2l, 1) := by decide +kernel
theorem dX4_power_14 : decode cX4_power 14 = .ok (.lmul, 1) := by decide +kernel
theorem dX4_power_15 : decode cX4_power 15 = .ok (.lstore_n 2, 1) := by decide +kernel
theorem dX4_power_16 : decode cX4_power 16 = .ok (.iinc 4 1, 3) := by decide +kernel
theorem dX4_power_19 : decode cX4_power 19 = .ok (.goto (-14), 3) := by decide +kernel
theorem dX4_power_22 : decode cX4_power 22 = .ok (.lload_n 2, 1) := by decide +kernel
theorem dX4_power_23 : decode cX4_power 23 = .ok (.lreturn, 1) := by decide +kernel
def l4_power_5  : Nat → Int32 → Int32 → Int64 → Int32 → Option (Int64)
  | 0, _, _, _, _ => none
  | n + 1, v0, v1, v2, v4 =>
    if v1 ≤ v4 then (
      some v2)
    else (
      (l4_power_5 n) v0 v1 (v2 * (v0.toInt64)) (v4 + (1 : Int32)))
def f4_power  (v0 : Int32) (v1 : Int32) : Option (Int64) :=
  l4_power_5 1000 v0 v1 (1 : Int64) (0 : Int32)
set_option maxHeartbeats 4000000 in
set_option maxRecDepth 100000 in
theorem b4_power_5 {ta adK adV : Nat → Nat} {p : Program} {l : Launch} {e : Env} {s : State} {m : MethodId} {args : Array Value} {below : List Frame} {meth : Method} {c : Code} {D : va_G} {tys : List (ClassId × FieldType)} {w0 : va_W} {A : Nat → Prop}  {r0 : Int64} (C0 : CX (XS ta adK adV) p s m args meth c cX4_power 5 (some .long) RX4 A) : ∀ (n : Nat) {v0 : Int32} {v1 : Int32} {v2 : Int64} {v4 : Int32} {H : Heap} {locs : List Loc} {ls : Array Slot}, GX (XS ta adK adV) D tys A s w0 H locs → lv_has ls 5 [(0, .int v0), (1, .int v1), (2, .long v2), (4, .int v4)] → l4_power_5  n v0 v1 v2 v4 = some r0 → W p l e ({ frames := 0, cells := 0, slots := 0, locals := 0 }) s m args below meth c H locs 0 0 (MQ below (QcL D tys w0 A r0) args s 0 0 A) (F0 m 5 ls []) := by
  have hx := C0.1
  have hb := C0.2.1
  have hown := C0.2.2.2.2.1
  have hts := C0.2.2.2.2.2.1
  have hX := C0.2.2.2.2.2.2.2.2
  intro n
  induction n with
  | zero =>
    intro _ _ _ _ _ _ _ G hl hf
    cases hf
  | succ n ih =>
    intro v0 v1 v2 v4 H locs ls G hl hf
    rw [l4_power_5] at hf
    refine lv_iload hx hb dX4_power_5 (lv_at hl 3 rfl) ?_
    refine lv_iload_n hx hb dX4_power_7 rfl (lv_at hl 1 rfl) ?_
    refine lv_icmp_ge (tgt := 22) hx hb dX4_power_8 (by decide) (fun hc1 => ?_) (fun hc1 => ?_)
    · have hf := itp hc1 hf
      refine lv_lload_n hx hb dX4_power_22 rfl (lv_at hl 2 rfl) ?_
      obtain rfl := inj1 hf
      exact ret_l C0 G dX4_power_23
    · have hf := itn hc1 hf
      refine lv_lload_n hx hb dX4_power_11 rfl (lv_at hl 2 rfl) ?_
      refine lv_iload_n hx hb dX4_power_12 rfl (lv_at hl 0 rfl) ?_
      refine lv_i2l hx hb dX4_power_13 rfl ?_
      refine lv_lmul hx hb dX4_power_14 ?_
      refine lv_lstore_n (lv' := [(2, .long (v2 * (v0.toInt64))), (0, .int v0), (1, .int v1), (4, .int v4)]) hx hb dX4_power_15 rfl hl (by decide) rfl (fun ls hl => ?_)
      refine lv_iinc (v := (v4 + (1 : Int32))) (lv' := [(4, .int (v4 + (1 : Int32))), (2, .long (v2 * (v0.toInt64))), (0, .int v0), (1, .int v1)]) hx hb dX4_power_16 hl (k := 3) rfl rfl (by decide) rfl (fun ls hl => ?_)
      refine lv_goto (tgt := 5) hx hb dX4_power_19 (by decide) ?_
      exact ih G (lv_sub hl [2, 3, 1, 0] rfl) hf
set_option maxHeartbeats 4000000 in
set_option maxRecDepth 100000 in
theorem b4_power_0 {ta adK adV : Nat → Nat} {p : Program} {l : Launch} {e : Env} {s : State} {m : MethodId} {args : Array Value} {below : List Frame} {meth : Method} {c : Code} {D : va_G} {tys : List (ClassId × FieldType)} {w0 : va_W} {A : Nat → Prop}  {r0 : Int64} (C0 : CX (XS ta adK adV) p s m args meth c cX4_power 5 (some .long) RX4 A) : ∀ {v0 : Int32} {v1 : Int32} {H : Heap} {locs : List Loc} {ls : Array Slot}, GX (XS ta adK adV) D tys A s w0 H locs → lv_has ls 5 [(0, .int v0), (1, .int v1)] → f4_power v0 v1 = some r0 → W p l e ({ frames := 0, cells := 0, slots := 0, locals := 0 }) s m args below meth c H locs 0 0 (MQ below (QcL D tys w0 A r0) args s 0 0 A) (F0 m 0 ls []) := by
  have hx := C0.1
  have hb := C0.2.1
  have hown := C0.2.2.2.2.1
  have hts := C0.2.2.2.2.2.1
  have hX := C0.2.2.2.2.2.2.2.2
  intro v0 v1 H locs ls G hl hf
  unfold f4_power at hf
  refine lv_lconst (v := (1 : Int64)) hx hb dX4_power_0 (by decide) ?_
  refine lv_lstore_n (lv' := [(2, .long (1 : Int64)), (0, .int v0), (1, .int v1)]) hx hb dX4_power_1 rfl hl (by decide) rfl (fun ls hl => ?_)
  refine lv_iconst (v := (0 : Int32)) hx hb dX4_power_2 (by decide) ?_
  refine lv_istore (lv' := [(4, .int (0 : Int32)), (2, .long (1 : Int64)), (0, .int v0), (1, .int v1)]) hx hb dX4_power_3 hl (by decide) rfl (fun ls hl => ?_)
  exact b4_power_5 C0  1000 G (lv_sub hl [2, 3, 1, 0] rfl) hf
theorem o4_power : okName yX4_power 2 := ⟨by decide, by decide, by decide +kernel⟩
set_option maxHeartbeats 4000000 in
set_option maxRecDepth 100000 in
theorem c4_power {ta adK adV : Nat → Nat} (hX : XT (XS ta adK adV)) {l : Launch} {D : va_G} {tys : List (ClassId × FieldType)} {w0 : va_W} {sz : Nat}  {v0 : Int32} {v1 : Int32} {r0 : Int64} (hf : f4_power v0 v1 = some r0) : Met l yX4_power (wU yX4_power cX4_power 5 (some .long)) ({ frames := 0, cells := 0, slots := 0, locals := 0 }) (va_Pc [.int v0, .int v1] (PreW (XS ta adK adV) D tys w0 sz)) (QcL D tys w0 (va_A w0 sz) r0) 0 0 (va_A w0 sz) := by
  refine startW hX (own := RX4) (by decide) rfl (Nat.le_of_ble_eq_true rfl) (fun p e s m args below meth c ls C0 G hl => ?_)
  exact b4_power_0 C0 G hl hf
/-! 4_odds -/
theorem dX4_odds_0 : decode cX4_odds 0 = .ok (.iload_n 1, 1) := by decide +kernel
theorem dX4_odds_1 : decode cX4_odds 1 = .ok (.iconst 0, 1) := by decide +kernel
theorem dX4_odds_2 : decode cX4_odds 2 = .ok (.bipush 15, 2) := by decide +kernel
theorem dX4_odds_4 : decode cX4_odds 4 = .ok (.invokestatic 45, 3) := by decide +kernel
theorem dX4_odds_7 : decode cX4_odds 7 = .ok (.ifCond .eq 12, 3) := by decide +kernel
theorem dX4_odds_10 : decode cX4_odds 10 = .ok (.iload_n 2, 1) := by decide +kernel
theorem dX4_odds_11 : decode cX4_odds 11 = .ok (.iconst 0, 1) := by decide +kernel
theorem dX4_odds_12 : decode cX4_odds 12 = .ok (.iconst 1, 1) := by decide +kernel
theorem dX4_odds_13 : decode cX4_odds 13 = .ok (.invokestatic 45, 3) := by decide +kernel
theorem dX4_odds_16 : decode cX4_odds 16 = .ok (.ifCond .ne 10, 3) := by decide +kernel
theorem dX4_odds_19 : decode cX4_odds 19 = .ok (.aload_n 0, 1) := by decide +kernel
theorem dX4_odds_20 : decode cX4_odds 20 = .ok (.iconst 0, 1) := by decide +kernel
theorem dX4_odds_21 : decode cX4_odds 21 = .ok (.invokevirtual 49, 3) := by decide +kernel
theorem dX4_odds_24 : decode cX4_odds 24 = .ok (.i2l, 1) := by decide +kernel
theorem dX4_odds_25 : decode cX4_odds 25 = .ok (.lreturn, 1) := by decide +kernel
theorem dX4_odds_26 : decode cX4_odds 26 = .ok (.aload_n 0, 1) := by decide +kernel
theorem dX4_odds_27 : decode cX4_odds 27 = .ok (.getfield 10, 3) := by decide +kernel
theorem dX4_odds_30 : decode cX4_odds 30 = .ok (.invokevirtual 167, 3) := by decide +kernel
theorem dX4_odds_33 : decode cX4_odds 33 = .ok (.istore_n 3, 1) := by decide +kernel
theorem dX4_odds_34 : decode cX4_odds 34 = .ok (.bipush 16, 2) := by decide +kernel
theorem dX4_odds_36 : decode cX4_odds 36 = .ok (.istore 4, 2) := by decide +kernel
theorem dX4_odds_38 : decode cX4_odds 38 = .ok (.iconst 0, 1) := by decide +kernel
theorem dX4_odds_39 : decode cX4_odds 39 = .ok (.istore 5, 2) := by decide +kernel
theorem dX4_odds_41 : decode cX4_odds 41 = .ok (.iload 5, 2) := by decide +kernel
theorem dX4_odds_43 : decode cX4_odds 43 = .ok (.iconst 4, 1) := by decide +kernel
theorem dX4_odds_44 : decode cX4_odds 44 = .ok (.if_icmp .ge 25, 3) := by decide +kernel
theorem dX4_odds_47 : decode cX4_odds 47 = .ok (.iload_n 3, 1) := by decide +kernel
theorem dX4_odds_48 : decode cX4_odds 48 = .ok (.iconst 2, 1) := by decide +kernel
theorem dX4_odds_49 : decode cX4_odds 49 = .ok (.irem, 1) := by decide +kernel
theorem dX4_odds_50 : decode cX4_odds 50 = .ok (.ifCond .ne 19, 3) := by decide +kernel
theorem dX4_odds_53 : decode cX4_odds 53 = .ok (.iload_n 3, 1) := by decide +kernel
theorem dX4_odds_54 : decode cX4_odds 54 = .ok (.iconst 2, 1) := by decide +kernel
theorem dX4_odds_55 : decode cX4_odds 55 = .ok (.idiv, 1) := by decide +kernel
theorem dX4_odds_56 : decode cX4_odds 56 = .ok (.istore_n 3, 1) := by decide +kernel
theorem dX4_odds_57 : decode cX4_odds 57 = .ok (.iload 4, 2) := by decide +kernel
theorem dX4_odds_59 : decode cX4_odds 59 = .ok (.iconst 2, 1) := by decide +kernel
theorem dX4_odds_60 : decode cX4_odds 60 = .ok (.idiv, 1) := by decide +kernel
theorem dX4_odds_61 : decode cX4_odds 61 = .ok (.istore 4, 2) := by decide +kernel
theorem dX4_odds_63 : decode cX4_odds 63 = .ok (.iinc 5 1, 3) := by decide +kernel
theorem dX4_odds_66 : decode cX4_odds 66 = .ok (.goto (-25), 3) := by decide +kernel
theorem dX4_odds_69 : decode cX4_odds 69 = .ok (.iload_n 2, 1) := by decide +kernel
theorem dX4_odds_70 : decode cX4_odds 70 = .ok (.ifCond .ne 7, 3) := by decide +kernel
theorem dX4_odds_73 : decode cX4_odds 73 = .ok (.iload_n 3, 1) := by decide +kernel
theorem dX4_odds_74 : decode cX4_odds 74 = .ok (.goto 5, 3) := by decide +kernel
theorem dX4_odds_77 : decode cX4_odds 77 = .ok (.iload 4, 2) := by decide +kernel
theorem dX4_odds_79 : decode cX4_odds 79 = .ok (.iload_n 1, 1) := by decide +kernel
theorem dX4_odds_80 : decode cX4_odds 80 = .ok (.invokestatic 170, 3) := by decide +kernel
theorem dX4_odds_83 : decode cX4_odds 83 = .ok (.lreturn, 1) := by decide +kernel
def j4_odds_19  (hp1 : Nat → Int32) (fd : Nat → Int32)  : Option (Int64 × (Nat → Int32)) :=
  ob2 (f4_found fd (0 : Int32)) (fun r5 fd_6 =>
  some ((r5.toInt64), fd_6))
def j4_odds_79  (hp1 : Nat → Int32) (fd : Nat → Int32) (v1 : Int32) (t0 : Int32) : Option (Int64 × (Nat → Int32)) :=
  ob1 (f4_power t0 v1) (fun r11 =>
  some (r11, fd))
def j4_odds_69  (hp1 : Nat → Int32) (fd : Nat → Int32) (v1 : Int32) (v2 : Int32) (v3 : Int32) (v4 : Int32) : Option (Int64 × (Nat → Int32)) :=
  if v2 = (0 : Int32) then (
    j4_odds_79 hp1 fd v1 v3)
  else (
    j4_odds_79 hp1 fd v1 v4)
def l4_odds_41  : Nat → (Nat → Int32) → (Nat → Int32) → Int32 → Int32 → Int32 → Int32 → Int32 → Option (Int64 × (Nat → Int32))
  | 0, _, _, _, _, _, _, _ => none
  | n + 1, hp1, fd, v1, v2, v3, v4, v5 =>
    if (4 : Int32) ≤ v5 then (
      j4_odds_69 hp1 fd v1 v2 v3 v4)
    else (
      if (v3 - v3 / (2 : Int32) * (2 : Int32)) = (0 : Int32) then (
        (l4_odds_41 n) hp1 fd v1 v2 (v3 / (2 : Int32)) (v4 / (2 : Int32)) (v5 + (1 : Int32)))
      else (
        j4_odds_69 hp1 fd v1 v2 v3 v4))
def f4_odds (hp1 : Nat → Int32) (fd : Nat → Int32) (v1 : Int32) (v2 : Int32) : Option (Int64 × (Nat → Int32)) :=
  if (f4_within v1 (0 : Int32) (15 : Int32)) = (0 : Int32) then (
    j4_odds_19 hp1 fd)
  else (
    if (f4_within v2 (0 : Int32) (1 : Int32)) = (0 : Int32) then (
      j4_odds_19 hp1 fd)
    else (
      ob1 (f0_roadCells hp1) (fun r3 =>
      l4_odds_41 1000 hp1 fd v1 v2 r3 (16 : Int32) (0 : Int32))))
set_option maxHeartbeats 4000000 in
set_option maxRecDepth 100000 in
theorem b4_odds_19 {ta adK adV : Nat → Nat} {p : Program} {l : Launch} {e : Env} {s : State} {m : MethodId} {args : Array Value} {below : List Frame} {meth : Method} {c : Code} {D : va_G} {cI cB cG cS : ClassId} {ad : Nat → Nat} {A : Nat → Prop} {hp1 : Nat → Int32} {st1 : Nat → Int32} {tr1 : Nat → Nat → Int32} {sp1 : Nat → Int32} {vis1 : Int32} {day1 : Int32} {z1 : Int32} {hp2 : Nat → Int32} {st2 : Nat → Int32} {tr2 : Nat → Nat → Int32} {sp2 : Nat → Int32} {vis2 : Int32} {day2 : Int32} {z2 : Int32} {hp3 : Nat → Int32} {st3 : Nat → Int32} {tr3 : Nat → Nat → Int32} {sp3 : Nat → Int32} {vis3 : Int32} {day3 : Int32} {z3 : Int32} {tb : Nat → Int32} {tl : Int32} {rtok : Int32} {rbg : Int32} {ren : Int32} {rvl : Int32} {shn : Nat → Nat → Int32} {shb : Nat → Int32} {shz : Nat → Int32} {isK : Int32} {r0 : Int64} {o_fd : Nat → Int32} (C0 : CX (XS ta adK adV) p s m args meth c cX4_odds 6 (some .long) RX4 A) : ∀ {fd : Nat → Int32} {H : Heap} {locs : List Loc} {ls : Array Slot}, GX (XS ta adK adV) D (tyC cI cB cG cS) A s (wS cI cB cG cS ad hp1 st1 tr1 sp1 vis1 day1 z1 hp2 st2 tr2 sp2 vis2 day2 z2 hp3 st3 tr3 sp3 vis3 day3 z3 tb tl rtok rbg ren rvl shn shb shz fd isK) H locs → lv_has ls 6 [(0, .ref (ad 0))] → j4_odds_19  hp1 fd = some (r0, o_fd) → W p l e ({ frames := 1, cells := 0, slots := 0, locals := 24 }) s m args below meth c H locs 0 0 (MQ below (QcL D (tyC cI cB cG cS) (wS cI cB cG cS ad hp1 st1 tr1 sp1 vis1 day1 z1 hp2 st2 tr2 sp2 vis2 day2 z2 hp3 st3 tr3 sp3 vis3 day3 z3 tb tl rtok rbg ren rvl shn shb shz o_fd isK) A r0) args s 0 0 A) (F0 m 19 ls []) := by
  have hx := C0.1
  have hb := C0.2.1
  have hown := C0.2.2.2.2.1
  have hts := C0.2.2.2.2.2.1
  have hX := C0.2.2.2.2.2.2.2.2
  intro fd H locs ls G hl hf
  unfold j4_odds_19 at hf
  refine lv_aload_n hx hb dX4_odds_19 rfl (lv_at hl 0 rfl) ?_
  refine lv_iconst (v := (0 : Int32)) hx hb dX4_odds_20 (by decide) ?_
  obtain ⟨r5, fd_6, hc7, hf⟩ := ob2_s hf
  refine go_i C0 G (runV_of (n := 1) (q0 := 0) (As := [.int (0 : Int32)]) (rest := []) C0 G (c4_found hX hc7) q208 q49 q205 q207 q0 o4_found ⟨rfl, rfl⟩ ⟨Nat.le_of_ble_eq_true rfl, Nat.le_of_ble_eq_true rfl⟩ rfl rfl rfl hl.1 rfl (Nat.le_of_ble_eq_true rfl) dX4_odds_21) (fun H locs G => ?_)
  refine lv_i2l hx hb dX4_odds_24 rfl ?_
  obtain ⟨rfl, rfl⟩ := inj2 hf
  exact ret_l C0 G dX4_odds_25
set_option maxHeartbeats 4000000 in
set_option maxRecDepth 100000 in
theorem b4_odds_79 {ta adK adV : Nat → Nat} {p : Program} {l : Launch} {e : Env} {s : State} {m : MethodId} {args : Array Value} {below : List Frame} {meth : Method} {c : Code} {D : va_G} {cI cB cG cS : ClassId} {ad : Nat → Nat} {A : Nat → Prop} {hp1 : Nat → Int32} {st1 : Nat → Int32} {tr1 : Nat → Nat → Int32} {sp1 : Nat → Int32} {vis1 : Int32} {day1 : Int32} {z1 : Int32} {hp2 : Nat → Int32} {st2 : Nat → Int32} {tr2 : Nat → Nat → Int32} {sp2 : Nat → Int32} {vis2 : Int32} {day2 : Int32} {z2 : Int32} {hp3 : Nat → Int32} {st3 : Nat → Int32} {tr3 : Nat → Nat → Int32} {sp3 : Nat → Int32} {vis3 : Int32} {day3 : Int32} {z3 : Int32} {tb : Nat → Int32} {tl : Int32} {rtok : Int32} {rbg : Int32} {ren : Int32} {rvl : Int32} {shn : Nat → Nat → Int32} {shb : Nat → Int32} {shz : Nat → Int32} {isK : Int32} {r0 : Int64} {o_fd : Nat → Int32} (C0 : CX (XS ta adK adV) p s m args meth c cX4_odds 6 (some .long) RX4 A) : ∀ {fd : Nat → Int32} {v1 : Int32} {t0 : Int32} {H : Heap} {locs : List Loc} {ls : Array Slot}, GX (XS ta adK adV) D (tyC cI cB cG cS) A s (wS cI cB cG cS ad hp1 st1 tr1 sp1 vis1 day1 z1 hp2 st2 tr2 sp2 vis2 day2 z2 hp3 st3 tr3 sp3 vis3 day3 z3 tb tl rtok rbg ren rvl shn shb shz fd isK) H locs → lv_has ls 6 [(1, .int v1)] → j4_odds_79  hp1 fd v1 t0 = some (r0, o_fd) → W p l e ({ frames := 1, cells := 0, slots := 0, locals := 24 }) s m args below meth c H locs 0 0 (MQ below (QcL D (tyC cI cB cG cS) (wS cI cB cG cS ad hp1 st1 tr1 sp1 vis1 day1 z1 hp2 st2 tr2 sp2 vis2 day2 z2 hp3 st3 tr3 sp3 vis3 day3 z3 tb tl rtok rbg ren rvl shn shb shz o_fd isK) A r0) args s 0 0 A) (F0 m 79 ls [.int t0]) := by
  have hx := C0.1
  have hb := C0.2.1
  have hown := C0.2.2.2.2.1
  have hts := C0.2.2.2.2.2.1
  have hX := C0.2.2.2.2.2.2.2.2
  intro fd v1 t0 H locs ls G hl hf
  unfold j4_odds_79 at hf
  refine lv_iload_n hx hb dX4_odds_79 rfl (lv_at hl 0 rfl) ?_
  obtain ⟨r11, hc12, hf⟩ := ob1_s hf
  refine go_l C0 G (runS_of (n := 2) (As := [.int t0, .int v1]) (rest := []) C0 G (c4_power hX hc12) q493 q49 q491 q492 o4_power ⟨rfl, rfl⟩ ⟨Nat.le_of_ble_eq_true rfl, Nat.le_of_ble_eq_true rfl⟩ rfl hl.1 rfl (Nat.le_of_ble_eq_true rfl) dX4_odds_80) (fun H locs G => ?_)
  obtain ⟨rfl, rfl⟩ := inj2 hf
  exact ret_l C0 G dX4_odds_83
set_option maxHeartbeats 4000000 in
set_option maxRecDepth 100000 in
theorem b4_odds_69 {ta adK adV : Nat → Nat} {p : Program} {l : Launch} {e : Env} {s : State} {m : MethodId} {args : Array Value} {below : List Frame} {meth : Method} {c : Code} {D : va_G} {cI cB cG cS : ClassId} {ad : Nat → Nat} {A : Nat → Prop} {hp1 : Nat → Int32} {st1 : Nat → Int32} {tr1 : Nat → Nat → Int32} {sp1 : Nat → Int32} {vis1 : Int32} {day1 : Int32} {z1 : Int32} {hp2 : Nat → Int32} {st2 : Nat → Int32} {tr2 : Nat → Nat → Int32} {sp2 : Nat → Int32} {vis2 : Int32} {day2 : Int32} {z2 : Int32} {hp3 : Nat → Int32} {st3 : Nat → Int32} {tr3 : Nat → Nat → Int32} {sp3 : Nat → Int32} {vis3 : Int32} {day3 : Int32} {z3 : Int32} {tb : Nat → Int32} {tl : Int32} {rtok : Int32} {rbg : Int32} {ren : Int32} {rvl : Int32} {shn : Nat → Nat → Int32} {shb : Nat → Int32} {shz : Nat → Int32} {isK : Int32} {r0 : Int64} {o_fd : Nat → Int32} (C0 : CX (XS ta adK adV) p s m args meth c cX4_odds 6 (some .long) RX4 A) : ∀ {fd : Nat → Int32} {v1 : Int32} {v2 : Int32} {v3 : Int32} {v4 : Int32} {H : Heap} {locs : List Loc} {ls : Array Slot}, GX (XS ta adK adV) D (tyC cI cB cG cS) A s (wS cI cB cG cS ad hp1 st1 tr1 sp1 vis1 day1 z1 hp2 st2 tr2 sp2 vis2 day2 z2 hp3 st3 tr3 sp3 vis3 day3 z3 tb tl rtok rbg ren rvl shn shb shz fd isK) H locs → lv_has ls 6 [(1, .int v1), (2, .int v2), (3, .int v3), (4, .int v4)] → j4_odds_69  hp1 fd v1 v2 v3 v4 = some (r0, o_fd) → W p l e ({ frames := 1, cells := 0, slots := 0, locals := 24 }) s m args below meth c H locs 0 0 (MQ below (QcL D (tyC cI cB cG cS) (wS cI cB cG cS ad hp1 st1 tr1 sp1 vis1 day1 z1 hp2 st2 tr2 sp2 vis2 day2 z2 hp3 st3 tr3 sp3 vis3 day3 z3 tb tl rtok rbg ren rvl shn shb shz o_fd isK) A r0) args s 0 0 A) (F0 m 69 ls []) := by
  have hx := C0.1
  have hb := C0.2.1
  have hown := C0.2.2.2.2.1
  have hts := C0.2.2.2.2.2.1
  have hX := C0.2.2.2.2.2.2.2.2
  intro fd v1 v2 v3 v4 H locs ls G hl hf
  unfold j4_odds_69 at hf
  refine lv_iload_n hx hb dX4_odds_69 rfl (lv_at hl 1 rfl) ?_
  refine lv_if_ne (tgt := 77) hx hb dX4_odds_70 (by decide) (fun hc10 => ?_) (fun hc10 => ?_)
  · have hf := itn hc10 hf
    refine lv_iload hx hb dX4_odds_77 (lv_at hl 3 rfl) ?_
    exact b4_odds_79 C0  G (lv_sub hl [0] rfl) hf
  · have hf := itp hc10 hf
    refine lv_iload_n hx hb dX4_odds_73 rfl (lv_at hl 2 rfl) ?_
    refine lv_goto (tgt := 79) hx hb dX4_odds_74 (by decide) ?_
    exact b4_odds_79 C0  G (lv_sub hl [0] rfl) hf
set_option maxHeartbeats 4000000 in
set_option maxRecDepth 100000 in
theorem b4_odds_41 {ta adK adV : Nat → Nat} {p : Program} {l : Launch} {e : Env} {s : State} {m : MethodId} {args : Array Value} {below : List Frame} {meth : Method} {c : Code} {D : va_G} {cI cB cG cS : ClassId} {ad : Nat → Nat} {A : Nat → Prop} {hp1 : Nat → Int32} {st1 : Nat → Int32} {tr1 : Nat → Nat → Int32} {sp1 : Nat → Int32} {vis1 : Int32} {day1 : Int32} {z1 : Int32} {hp2 : Nat → Int32} {st2 : Nat → Int32} {tr2 : Nat → Nat → Int32} {sp2 : Nat → Int32} {vis2 : Int32} {day2 : Int32} {z2 : Int32} {hp3 : Nat → Int32} {st3 : Nat → Int32} {tr3 : Nat → Nat → Int32} {sp3 : Nat → Int32} {vis3 : Int32} {day3 : Int32} {z3 : Int32} {tb : Nat → Int32} {tl : Int32} {rtok : Int32} {rbg : Int32} {ren : Int32} {rvl : Int32} {shn : Nat → Nat → Int32} {shb : Nat → Int32} {shz : Nat → Int32} {isK : Int32} {r0 : Int64} {o_fd : Nat → Int32} (C0 : CX (XS ta adK adV) p s m args meth c cX4_odds 6 (some .long) RX4 A) : ∀ (n : Nat) {fd : Nat → Int32} {v1 : Int32} {v2 : Int32} {v3 : Int32} {v4 : Int32} {v5 : Int32} {H : Heap} {locs : List Loc} {ls : Array Slot}, GX (XS ta adK adV) D (tyC cI cB cG cS) A s (wS cI cB cG cS ad hp1 st1 tr1 sp1 vis1 day1 z1 hp2 st2 tr2 sp2 vis2 day2 z2 hp3 st3 tr3 sp3 vis3 day3 z3 tb tl rtok rbg ren rvl shn shb shz fd isK) H locs → lv_has ls 6 [(1, .int v1), (2, .int v2), (3, .int v3), (4, .int v4), (5, .int v5)] → l4_odds_41  n hp1 fd v1 v2 v3 v4 v5 = some (r0, o_fd) → W p l e ({ frames := 1, cells := 0, slots := 0, locals := 24 }) s m args below meth c H locs 0 0 (MQ below (QcL D (tyC cI cB cG cS) (wS cI cB cG cS ad hp1 st1 tr1 sp1 vis1 day1 z1 hp2 st2 tr2 sp2 vis2 day2 z2 hp3 st3 tr3 sp3 vis3 day3 z3 tb tl rtok rbg ren rvl shn shb shz o_fd isK) A r0) args s 0 0 A) (F0 m 41 ls []) := by
  have hx := C0.1
  have hb := C0.2.1
  have hown := C0.2.2.2.2.1
  have hts := C0.2.2.2.2.2.1
  have hX := C0.2.2.2.2.2.2.2.2
  intro n
  induction n with
  | zero =>
    intro _ _ _ _ _ _ _ _ _ G hl hf
    cases hf
  | succ n ih =>
    intro fd v1 v2 v3 v4 v5 H locs ls G hl hf
    rw [l4_odds_41] at hf
    refine lv_iload hx hb dX4_odds_41 (lv_at hl 4 rfl) ?_
    refine lv_iconst (v := (4 : Int32)) hx hb dX4_odds_43 (by decide) ?_
    refine lv_icmp_ge (tgt := 69) hx hb dX4_odds_44 (by decide) (fun hc8 => ?_) (fun hc8 => ?_)
    · have hf := itp hc8 hf
      exact b4_odds_69 C0  G (lv_sub hl [0, 1, 2, 3] rfl) hf
    · have hf := itn hc8 hf
      refine lv_iload_n hx hb dX4_odds_47 rfl (lv_at hl 2 rfl) ?_
      refine lv_iconst (v := (2 : Int32)) hx hb dX4_odds_48 (by decide) ?_
      refine lv_irem hx hb dX4_odds_49 (by decide) ?_
      refine lv_if_ne (tgt := 69) hx hb dX4_odds_50 (by decide) (fun hc9 => ?_) (fun hc9 => ?_)
      · have hf := itn hc9 hf
        exact b4_odds_69 C0  G (lv_sub hl [0, 1, 2, 3] rfl) hf
      · have hf := itp hc9 hf
        refine lv_iload_n hx hb dX4_odds_53 rfl (lv_at hl 2 rfl) ?_
        refine lv_iconst (v := (2 : Int32)) hx hb dX4_odds_54 (by decide) ?_
        refine lv_idiv hx hb dX4_odds_55 (by decide) ?_
        refine lv_istore_n (lv' := [(3, .int (v3 / (2 : Int32))), (1, .int v1), (2, .int v2), (4, .int v4), (5, .int v5)]) hx hb dX4_odds_56 rfl hl (by decide) rfl (fun ls hl => ?_)
        refine lv_iload hx hb dX4_odds_57 (lv_at hl 3 rfl) ?_
        refine lv_iconst (v := (2 : Int32)) hx hb dX4_odds_59 (by decide) ?_
        refine lv_idiv hx hb dX4_odds_60 (by decide) ?_
        refine lv_istore (lv' := [(4, .int (v4 / (2 : Int32))), (3, .int (v3 / (2 : Int32))), (1, .int v1), (2, .int v2), (5, .int v5)]) hx hb dX4_odds_61 hl (by decide) rfl (fun ls hl => ?_)
        refine lv_iinc (v := (v5 + (1 : Int32))) (lv' := [(5, .int (v5 + (1 : Int32))), (4, .int (v4 / (2 : Int32))), (3, .int (v3 / (2 : Int32))), (1, .int v1), (2, .int v2)]) hx hb dX4_odds_63 hl (k := 4) rfl rfl (by decide) rfl (fun ls hl => ?_)
        refine lv_goto (tgt := 41) hx hb dX4_odds_66 (by decide) ?_
        exact ih G (lv_sub hl [3, 4, 2, 1, 0] rfl) hf
set_option maxHeartbeats 4000000 in
set_option maxRecDepth 100000 in
theorem b4_odds_0 {ta adK adV : Nat → Nat} {p : Program} {l : Launch} {e : Env} {s : State} {m : MethodId} {args : Array Value} {below : List Frame} {meth : Method} {c : Code} {D : va_G} {cI cB cG cS : ClassId} {ad : Nat → Nat} {A : Nat → Prop} {hp1 : Nat → Int32} {st1 : Nat → Int32} {tr1 : Nat → Nat → Int32} {sp1 : Nat → Int32} {vis1 : Int32} {day1 : Int32} {z1 : Int32} {hp2 : Nat → Int32} {st2 : Nat → Int32} {tr2 : Nat → Nat → Int32} {sp2 : Nat → Int32} {vis2 : Int32} {day2 : Int32} {z2 : Int32} {hp3 : Nat → Int32} {st3 : Nat → Int32} {tr3 : Nat → Nat → Int32} {sp3 : Nat → Int32} {vis3 : Int32} {day3 : Int32} {z3 : Int32} {tb : Nat → Int32} {tl : Int32} {rtok : Int32} {rbg : Int32} {ren : Int32} {rvl : Int32} {shn : Nat → Nat → Int32} {shb : Nat → Int32} {shz : Nat → Int32} {isK : Int32} {r0 : Int64} {o_fd : Nat → Int32} (C0 : CX (XS ta adK adV) p s m args meth c cX4_odds 6 (some .long) RX4 A) : ∀ {fd : Nat → Int32} {v1 : Int32} {v2 : Int32} {H : Heap} {locs : List Loc} {ls : Array Slot}, GX (XS ta adK adV) D (tyC cI cB cG cS) A s (wS cI cB cG cS ad hp1 st1 tr1 sp1 vis1 day1 z1 hp2 st2 tr2 sp2 vis2 day2 z2 hp3 st3 tr3 sp3 vis3 day3 z3 tb tl rtok rbg ren rvl shn shb shz fd isK) H locs → lv_has ls 6 [(0, .ref (ad 0)), (1, .int v1), (2, .int v2)] → f4_odds hp1 fd v1 v2 = some (r0, o_fd) → W p l e ({ frames := 1, cells := 0, slots := 0, locals := 24 }) s m args below meth c H locs 0 0 (MQ below (QcL D (tyC cI cB cG cS) (wS cI cB cG cS ad hp1 st1 tr1 sp1 vis1 day1 z1 hp2 st2 tr2 sp2 vis2 day2 z2 hp3 st3 tr3 sp3 vis3 day3 z3 tb tl rtok rbg ren rvl shn shb shz o_fd isK) A r0) args s 0 0 A) (F0 m 0 ls []) := by
  have hx := C0.1
  have hb := C0.2.1
  have hown := C0.2.2.2.2.1
  have hts := C0.2.2.2.2.2.1
  have hX := C0.2.2.2.2.2.2.2.2
  intro fd v1 v2 H locs ls G hl hf
  unfold f4_odds at hf
  refine lv_iload_n hx hb dX4_odds_0 rfl (lv_at hl 1 rfl) ?_
  refine lv_iconst (v := (0 : Int32)) hx hb dX4_odds_1 (by decide) ?_
  refine lv_bipush (v := (15 : Int32)) hx hb dX4_odds_2 (by decide) ?_
  refine go_i C0 G (runS_of (n := 3) (As := [.int v1, .int (0 : Int32), .int (15 : Int32)]) (rest := []) C0 G (c4_within hX rfl) q204 q49 q202 q203 o4_within ⟨rfl, rfl⟩ ⟨Nat.le_of_ble_eq_true rfl, Nat.le_of_ble_eq_true rfl⟩ rfl hl.1 rfl (Nat.le_of_ble_eq_true rfl) dX4_odds_4) (fun H locs G => ?_)
  refine lv_if_eq (tgt := 19) hx hb dX4_odds_7 (by decide) (fun hc1 => ?_) (fun hc1 => ?_)
  · have hf := itp hc1 hf
    exact b4_odds_19 C0  G (lv_sub hl [0] rfl) hf
  · have hf := itn hc1 hf
    refine lv_iload_n hx hb dX4_odds_10 rfl (lv_at hl 2 rfl) ?_
    refine lv_iconst (v := (0 : Int32)) hx hb dX4_odds_11 (by decide) ?_
    refine lv_iconst (v := (1 : Int32)) hx hb dX4_odds_12 (by decide) ?_
    refine go_i C0 G (runS_of (n := 3) (As := [.int v2, .int (0 : Int32), .int (1 : Int32)]) (rest := []) C0 G (c4_within hX rfl) q204 q49 q202 q203 o4_within ⟨rfl, rfl⟩ ⟨Nat.le_of_ble_eq_true rfl, Nat.le_of_ble_eq_true rfl⟩ rfl hl.1 rfl (Nat.le_of_ble_eq_true rfl) dX4_odds_13) (fun H locs G => ?_)
    refine lv_if_ne (tgt := 26) hx hb dX4_odds_16 (by decide) (fun hc2 => ?_) (fun hc2 => ?_)
    · have hf := itn hc2 hf
      refine lv_aload_n hx hb dX4_odds_26 rfl (lv_at hl 0 rfl) ?_
      refine s_get (C := RX4) (T := TX4) C0 G i_X4 0 0 rfl rfl (by decide) q173 rfl dX4_odds_27 ?_
      obtain ⟨r3, hc4, hf⟩ := ob1_s hf
      refine go_i_sub C0 G s_pit1 o_pit1 (runV_sub (n := 0) (q0 := 1) (As := []) (rest := []) C0 G s_pit1 (c0_roadCells hX hc4) q490 q50 q487 q488 q489 o0_roadCells ⟨rfl, rfl⟩ ⟨Nat.le_of_ble_eq_true rfl, Nat.le_of_ble_eq_true rfl⟩ rfl rfl rfl hl.1 rfl (Nat.le_of_ble_eq_true rfl) dX4_odds_30) (fun H locs G => ?_)
      refine lv_istore_n (lv' := [(3, .int r3), (0, .ref (ad 0)), (1, .int v1), (2, .int v2)]) hx hb dX4_odds_33 rfl hl (by decide) rfl (fun ls hl => ?_)
      refine lv_bipush (v := (16 : Int32)) hx hb dX4_odds_34 (by decide) ?_
      refine lv_istore (lv' := [(4, .int (16 : Int32)), (3, .int r3), (0, .ref (ad 0)), (1, .int v1), (2, .int v2)]) hx hb dX4_odds_36 hl (by decide) rfl (fun ls hl => ?_)
      refine lv_iconst (v := (0 : Int32)) hx hb dX4_odds_38 (by decide) ?_
      refine lv_istore (lv' := [(5, .int (0 : Int32)), (4, .int (16 : Int32)), (3, .int r3), (0, .ref (ad 0)), (1, .int v1), (2, .int v2)]) hx hb dX4_odds_39 hl (by decide) rfl (fun ls hl => ?_)
      exact b4_odds_41 C0  1000 G (lv_sub hl [4, 5, 2, 1, 0] rfl) hf
    · have hf := itp hc2 hf
      exact b4_odds_19 C0  G (lv_sub hl [0] rfl) hf
theorem o4_odds : okName yX4_odds 2 := ⟨by decide, by decide, by decide +kernel⟩
set_option maxHeartbeats 4000000 in
set_option maxRecDepth 100000 in
theorem c4_odds {ta adK adV : Nat → Nat} (hX : XT (XS ta adK adV)) {l : Launch} {D : va_G} {cI cB cG cS : ClassId} {ad : Nat → Nat} {sz : Nat} {hp1 : Nat → Int32} {st1 : Nat → Int32} {tr1 : Nat → Nat → Int32} {sp1 : Nat → Int32} {vis1 : Int32} {day1 : Int32} {z1 : Int32} {hp2 : Nat → Int32} {st2 : Nat → Int32} {tr2 : Nat → Nat → Int32} {sp2 : Nat → Int32} {vis2 : Int32} {day2 : Int32} {z2 : Int32} {hp3 : Nat → Int32} {st3 : Nat → Int32} {tr3 : Nat → Nat → Int32} {sp3 : Nat → Int32} {vis3 : Int32} {day3 : Int32} {z3 : Int32} {tb : Nat → Int32} {tl : Int32} {rtok : Int32} {rbg : Int32} {ren : Int32} {rvl : Int32} {shn : Nat → Nat → Int32} {shb : Nat → Int32} {shz : Nat → Int32} {fd : Nat → Int32} {isK : Int32} {v1 : Int32} {v2 : Int32} {r0 : Int64} {o_fd : Nat → Int32} (hf : f4_odds hp1 fd v1 v2 = some (r0, o_fd)) : Met l yX4_odds (wU yX4_odds cX4_odds 6 (some .long)) ({ frames := 1, cells := 0, slots := 0, locals := 24 }) (va_Pc [.ref (ad 0), .int v1, .int v2] (PreW (XS ta adK adV) D (tyC cI cB cG cS) (wS cI cB cG cS ad hp1 st1 tr1 sp1 vis1 day1 z1 hp2 st2 tr2 sp2 vis2 day2 z2 hp3 st3 tr3 sp3 vis3 day3 z3 tb tl rtok rbg ren rvl shn shb shz fd isK) sz)) (QcL D (tyC cI cB cG cS) (wS cI cB cG cS ad hp1 st1 tr1 sp1 vis1 day1 z1 hp2 st2 tr2 sp2 vis2 day2 z2 hp3 st3 tr3 sp3 vis3 day3 z3 tb tl rtok rbg ren rvl shn shb shz o_fd isK) (va_A (wS cI cB cG cS ad hp1 st1 tr1 sp1 vis1 day1 z1 hp2 st2 tr2 sp2 vis2 day2 z2 hp3 st3 tr3 sp3 vis3 day3 z3 tb tl rtok rbg ren rvl shn shb shz fd isK) sz) r0) 0 0 (va_A (wS cI cB cG cS ad hp1 st1 tr1 sp1 vis1 day1 z1 hp2 st2 tr2 sp2 vis2 day2 z2 hp3 st3 tr3 sp3 vis3 day3 z3 tb tl rtok rbg ren rvl shn shb shz fd isK) sz) := by
  refine startW hX (own := RX4) (by decide) rfl (Nat.le_of_ble_eq_true rfl) (fun p e s m args below meth c ls C0 G hl => ?_)
  exact b4_odds_0 C0 G hl hf
/-! 4_seed -/
theorem dX4_seed_0 : decode cX4_seed 0 = .ok (.aload_n 0, 1) := by decide +kernel
theorem dX4_seed_1 : decode cX4_seed 1 = .ok (.getfield 10, 3) := by decide +kernel
theorem dX4_seed_4 : decode cX4_seed 4 = .ok (.getfield 174, 3) := by decide +kernel
theorem dX4_seed_7 : decode cX4_seed 7 = .ok (.istore_n 2, 1) := by decide +kernel
theorem dX4_seed_8 : decode cX4_seed 8 = .ok (.aload_n 0, 1) := by decide +kernel
theorem dX4_seed_9 : decode cX4_seed 9 = .ok (.getfield 10, 3) := by decide +kernel
theorem dX4_seed_12 : decode cX4_seed 12 = .ok (.iload_n 1, 1) := by decide +kernel
theorem dX4_seed_13 : decode cX4_seed 13 = .ok (.putfield 174, 3) := by decide +kernel
theorem dX4_seed_16 : decode cX4_seed 16 = .ok (.iload_n 2, 1) := by decide +kernel
theorem dX4_seed_17 : decode cX4_seed 17 = .ok (.ireturn, 1) := by decide +kernel
def f4_seed (z1 : Int32) (v1 : Int32) : Option (Int32 × Int32) :=
  some (z1, v1)
set_option maxHeartbeats 4000000 in
set_option maxRecDepth 100000 in
theorem b4_seed_0 {ta adK adV : Nat → Nat} {p : Program} {l : Launch} {e : Env} {s : State} {m : MethodId} {args : Array Value} {below : List Frame} {meth : Method} {c : Code} {D : va_G} {cI cB cG cS : ClassId} {ad : Nat → Nat} {A : Nat → Prop} {hp1 : Nat → Int32} {st1 : Nat → Int32} {tr1 : Nat → Nat → Int32} {sp1 : Nat → Int32} {vis1 : Int32} {day1 : Int32} {hp2 : Nat → Int32} {st2 : Nat → Int32} {tr2 : Nat → Nat → Int32} {sp2 : Nat → Int32} {vis2 : Int32} {day2 : Int32} {z2 : Int32} {hp3 : Nat → Int32} {st3 : Nat → Int32} {tr3 : Nat → Nat → Int32} {sp3 : Nat → Int32} {vis3 : Int32} {day3 : Int32} {z3 : Int32} {tb : Nat → Int32} {tl : Int32} {rtok : Int32} {rbg : Int32} {ren : Int32} {rvl : Int32} {shn : Nat → Nat → Int32} {shb : Nat → Int32} {shz : Nat → Int32} {fd : Nat → Int32} {isK : Int32} {r0 : Int32} {o_z1 : Int32} (C0 : CX (XS ta adK adV) p s m args meth c cX4_seed 3 (some .int) RX4 A) : ∀ {z1 : Int32} {v1 : Int32} {H : Heap} {locs : List Loc} {ls : Array Slot}, GX (XS ta adK adV) D (tyC cI cB cG cS) A s (wS cI cB cG cS ad hp1 st1 tr1 sp1 vis1 day1 z1 hp2 st2 tr2 sp2 vis2 day2 z2 hp3 st3 tr3 sp3 vis3 day3 z3 tb tl rtok rbg ren rvl shn shb shz fd isK) H locs → lv_has ls 3 [(0, .ref (ad 0)), (1, .int v1)] → f4_seed z1 v1 = some (r0, o_z1) → W p l e ({ frames := 0, cells := 0, slots := 0, locals := 0 }) s m args below meth c H locs 0 0 (MQ below (QcI D (tyC cI cB cG cS) (wS cI cB cG cS ad hp1 st1 tr1 sp1 vis1 day1 o_z1 hp2 st2 tr2 sp2 vis2 day2 z2 hp3 st3 tr3 sp3 vis3 day3 z3 tb tl rtok rbg ren rvl shn shb shz fd isK) A r0) args s 0 0 A) (F0 m 0 ls []) := by
  have hx := C0.1
  have hb := C0.2.1
  have hown := C0.2.2.2.2.1
  have hts := C0.2.2.2.2.2.1
  have hX := C0.2.2.2.2.2.2.2.2
  intro z1 v1 H locs ls G hl hf
  unfold f4_seed at hf
  refine lv_aload_n hx hb dX4_seed_0 rfl (lv_at hl 0 rfl) ?_
  refine s_get (C := RX4) (T := TX4) C0 G i_X4 0 0 rfl rfl (by decide) q173 rfl dX4_seed_1 ?_
  refine s_get (C := RX0) (T := TX0) C0 G i_X0 1 6 rfl rfl (by decide) q96 rfl dX4_seed_4 ?_
  refine lv_istore_n (lv' := [(2, .int z1), (0, .ref (ad 0)), (1, .int v1)]) hx hb dX4_seed_7 rfl hl (by decide) rfl (fun ls hl => ?_)
  refine lv_aload_n hx hb dX4_seed_8 rfl (lv_at hl 1 rfl) ?_
  refine s_get (C := RX4) (T := TX4) C0 G i_X4 0 0 rfl rfl (by decide) q173 rfl dX4_seed_9 ?_
  refine lv_iload_n hx hb dX4_seed_12 rfl (lv_at hl 2 rfl) ?_
  refine s_put (C := RX0) (T := TX0) (w' := (wS cI cB cG cS ad hp1 st1 tr1 sp1 vis1 day1 v1 hp2 st2 tr2 sp2 vis2 day2 z2 hp3 st3 tr3 sp3 vis3 day3 z3 tb tl rtok rbg ren rvl shn shb shz fd isK)) C0 G i_X0 tyX0 tyX0_ok nmX0 1 6 rfl rfl (by decide) q96 rfl (ty := .int) (by decide +kernel) rfl rfl (Nat.le_of_ble_eq_true rfl) rfl dX4_seed_13 (fun H locs G => ?_)
  refine lv_iload_n hx hb dX4_seed_16 rfl (lv_at hl 0 rfl) ?_
  obtain ⟨rfl, rfl⟩ := inj2 hf
  exact ret_i C0 G dX4_seed_17
theorem o4_seed : okName yX4_seed 1 := ⟨by decide, by decide, by decide +kernel⟩
set_option maxHeartbeats 4000000 in
set_option maxRecDepth 100000 in
theorem c4_seed {ta adK adV : Nat → Nat} (hX : XT (XS ta adK adV)) {l : Launch} {D : va_G} {cI cB cG cS : ClassId} {ad : Nat → Nat} {sz : Nat} {hp1 : Nat → Int32} {st1 : Nat → Int32} {tr1 : Nat → Nat → Int32} {sp1 : Nat → Int32} {vis1 : Int32} {day1 : Int32} {z1 : Int32} {hp2 : Nat → Int32} {st2 : Nat → Int32} {tr2 : Nat → Nat → Int32} {sp2 : Nat → Int32} {vis2 : Int32} {day2 : Int32} {z2 : Int32} {hp3 : Nat → Int32} {st3 : Nat → Int32} {tr3 : Nat → Nat → Int32} {sp3 : Nat → Int32} {vis3 : Int32} {day3 : Int32} {z3 : Int32} {tb : Nat → Int32} {tl : Int32} {rtok : Int32} {rbg : Int32} {ren : Int32} {rvl : Int32} {shn : Nat → Nat → Int32} {shb : Nat → Int32} {shz : Nat → Int32} {fd : Nat → Int32} {isK : Int32} {v1 : Int32} {r0 : Int32} {o_z1 : Int32} (hf : f4_seed z1 v1 = some (r0, o_z1)) : Met l yX4_seed (wU yX4_seed cX4_seed 3 (some .int)) ({ frames := 0, cells := 0, slots := 0, locals := 0 }) (va_Pc [.ref (ad 0), .int v1] (PreW (XS ta adK adV) D (tyC cI cB cG cS) (wS cI cB cG cS ad hp1 st1 tr1 sp1 vis1 day1 z1 hp2 st2 tr2 sp2 vis2 day2 z2 hp3 st3 tr3 sp3 vis3 day3 z3 tb tl rtok rbg ren rvl shn shb shz fd isK) sz)) (QcI D (tyC cI cB cG cS) (wS cI cB cG cS ad hp1 st1 tr1 sp1 vis1 day1 o_z1 hp2 st2 tr2 sp2 vis2 day2 z2 hp3 st3 tr3 sp3 vis3 day3 z3 tb tl rtok rbg ren rvl shn shb shz fd isK) (va_A (wS cI cB cG cS ad hp1 st1 tr1 sp1 vis1 day1 z1 hp2 st2 tr2 sp2 vis2 day2 z2 hp3 st3 tr3 sp3 vis3 day3 z3 tb tl rtok rbg ren rvl shn shb shz fd isK) sz) r0) 0 0 (va_A (wS cI cB cG cS ad hp1 st1 tr1 sp1 vis1 day1 z1 hp2 st2 tr2 sp2 vis2 day2 z2 hp3 st3 tr3 sp3 vis3 day3 z3 tb tl rtok rbg ren rvl shn shb shz fd isK) sz) := by
  refine startW hX (own := RX4) (by decide) rfl (Nat.le_of_ble_eq_true rfl) (fun p e s m args below meth c ls C0 G hl => ?_)
  exact b4_seed_0 C0 G hl hf
/-! 2_append -/
theorem dX2_append_0 : decode cX2_append 0 = .ok (.iload_n 2, 1) := by decide +kernel
theorem dX2_append_1 : decode cX2_append 1 = .ok (.iconst 1, 1) := by decide +kernel
theorem dX2_append_2 : decode cX2_append 2 = .ok (.isub, 1) := by decide +kernel
theorem dX2_append_3 : decode cX2_append 3 = .ok (.istore_n 3, 1) := by decide +kernel
theorem dX2_append_4 : decode cX2_append 4 = .ok (.iload_n 3, 1) := by decide +kernel
theorem dX2_append_5 : decode cX2_append 5 = .ok (.ifCond .lt 44, 3) := by decide +kernel
theorem dX2_append_8 : decode cX2_append 8 = .ok (.aload_n 0, 1) := by decide +kernel
theorem dX2_append_9 : decode cX2_append 9 = .ok (.getfield 15, 3) := by decide +kernel
theorem dX2_append_12 : decode cX2_append 12 = .ok (.bipush 120, 2) := by decide +kernel
theorem dX2_append_14 : decode cX2_append 14 = .ok (.if_icmp .ge 35, 3) := by decide +kernel
theorem dX2_append_17 : decode cX2_append 17 = .ok (.aload_n 0, 1) := by decide +kernel
theorem dX2_append_18 : decode cX2_append 18 = .ok (.getfield 9, 3) := by decide +kernel
theorem dX2_append_21 : decode cX2_append 21 = .ok (.aload_n 0, 1) := by decide +kernel
theorem dX2_append_22 : decode cX2_append 22 = .ok (.getfield 15, 3) := by decide +kernel
theorem dX2_append_25 : decode cX2_append 25 = .ok (.iload_n 1, 1) := by decide +kernel
theorem dX2_append_26 : decode cX2_append 26 = .ok (.bipush 8, 2) := by decide +kernel
theorem dX2_append_28 : decode cX2_append 28 = .ok (.iload_n 3, 1) := by decide +kernel
theorem dX2_append_29 : decode cX2_append 29 = .ok (.imul, 1) := by decide +kernel
theorem dX2_append_30 : decode cX2_append 30 = .ok (.ishr, 1) := by decide +kernel
theorem dX2_append_31 : decode cX2_append 31 = .ok (.i2b, 1) := by decide +kernel
theorem dX2_append_32 : decode cX2_append 32 = .ok (.bastore, 1) := by decide +kernel
theorem dX2_append_33 : decode cX2_append 33 = .ok (.aload_n 0, 1) := by decide +kernel
theorem dX2_append_34 : decode cX2_append 34 = .ok (.dup, 1) := by decide +kernel
theorem dX2_append_35 : decode cX2_append 35 = .ok (.getfield 15, 3) := by decide +kernel
theorem dX2_append_38 : decode cX2_append 38 = .ok (.iconst 1, 1) := by decide +kernel
theorem dX2_append_39 : decode cX2_append 39 = .ok (.iadd, 1) := by decide +kernel
theorem dX2_append_40 : decode cX2_append 40 = .ok (.putfield 15, 3) := by decide +kernel
theorem dX2_append_43 : decode cX2_append 43 = .ok (.iinc 3 (-1), 3) := by decide +kernel
theorem dX2_append_46 : decode cX2_append 46 = .ok (.goto (-42), 3) := by decide +kernel
theorem dX2_append_49 : decode cX2_append 49 = .ok (.return_, 1) := by decide +kernel
def l2_append_4  : Nat → (Nat → Int32) → Int32 → Int32 → Int32 → Option ((Nat → Int32) × Int32)
  | 0, _, _, _, _ => none
  | n + 1, tb, tl, v1, v3 =>
    if v3 < (0 : Int32) then (
      some (tb, tl))
    else (
      if (120 : Int32) ≤ tl then (
        some (tb, tl))
      else (
        gd (inb tl 120) (
        (l2_append_4 n) (upd tb tl.toNatClampNeg (vp_nar .byte ((v1 >>> (((8 : Int32) * v3) &&& 31)).toInt8.toInt32))) (tl + (1 : Int32)) v1 (v3 + (-1 : Int32)))))
def f2_append (tb : Nat → Int32) (tl : Int32) (v1 : Int32) (v2 : Int32) : Option ((Nat → Int32) × Int32) :=
  l2_append_4 1000 tb tl v1 (v2 - (1 : Int32))
set_option maxHeartbeats 4000000 in
set_option maxRecDepth 100000 in
theorem b2_append_4 {ta adK adV : Nat → Nat} {p : Program} {l : Launch} {e : Env} {s : State} {m : MethodId} {args : Array Value} {below : List Frame} {meth : Method} {c : Code} {D : va_G} {cI cB cG cS : ClassId} {ad : Nat → Nat} {A : Nat → Prop}  {o_tb : Nat → Int32} {o_tl : Int32} (C0 : CX (XS ta adK adV) p s m args meth c cX2_append 4 none RX2 A) : ∀ (n : Nat) {tb : Nat → Int32} {tl : Int32} {v1 : Int32} {v3 : Int32} {H : Heap} {locs : List Loc} {ls : Array Slot}, GX (XS ta adK adV) D (tyC cI cB cG cS) A s (wTp cB ad tb tl) H locs → lv_has ls 4 [(0, .ref (ad 0)), (1, .int v1), (3, .int v3)] → l2_append_4  n tb tl v1 v3 = some (o_tb, o_tl) → W p l e ({ frames := 0, cells := 0, slots := 0, locals := 0 }) s m args below meth c H locs 0 0 (MQ below (QcV D (tyC cI cB cG cS) (wTp cB ad o_tb o_tl) A) args s 0 0 A) (F0 m 4 ls []) := by
  have hx := C0.1
  have hb := C0.2.1
  have hown := C0.2.2.2.2.1
  have hts := C0.2.2.2.2.2.1
  have hX := C0.2.2.2.2.2.2.2.2
  intro n
  induction n with
  | zero =>
    intro _ _ _ _ _ _ _ G hl hf
    cases hf
  | succ n ih =>
    intro tb tl v1 v3 H locs ls G hl hf
    rw [l2_append_4] at hf
    refine lv_iload_n hx hb dX2_append_4 rfl (lv_at hl 2 rfl) ?_
    refine lv_if_lt (tgt := 49) hx hb dX2_append_5 (by decide) (fun hc1 => ?_) (fun hc1 => ?_)
    · have hf := itp hc1 hf
      obtain ⟨rfl, rfl⟩ := inj2 hf
      exact ret_v C0 G dX2_append_49
    · have hf := itn hc1 hf
      refine lv_aload_n hx hb dX2_append_8 rfl (lv_at hl 0 rfl) ?_
      refine s_get (C := RX2) (T := TX2) C0 G i_X2 0 1 rfl rfl (by decide) q127 rfl dX2_append_9 ?_
      refine lv_bipush (v := (120 : Int32)) hx hb dX2_append_12 (by decide) ?_
      refine lv_icmp_ge (tgt := 49) hx hb dX2_append_14 (by decide) (fun hc2 => ?_) (fun hc2 => ?_)
      · have hf := itp hc2 hf
        obtain ⟨rfl, rfl⟩ := inj2 hf
        exact ret_v C0 G dX2_append_49
      · have hf := itn hc2 hf
        refine lv_aload_n hx hb dX2_append_17 rfl (lv_at hl 0 rfl) ?_
        refine s_get (C := RX2) (T := TX2) C0 G i_X2 0 0 rfl rfl (by decide) q125 rfl dX2_append_18 ?_
        refine lv_aload_n hx hb dX2_append_21 rfl (lv_at hl 0 rfl) ?_
        refine s_get (C := RX2) (T := TX2) C0 G i_X2 0 1 rfl rfl (by decide) q127 rfl dX2_append_22 ?_
        refine lv_iload_n hx hb dX2_append_25 rfl (lv_at hl 1 rfl) ?_
        refine lv_bipush (v := (8 : Int32)) hx hb dX2_append_26 (by decide) ?_
        refine lv_iload_n hx hb dX2_append_28 rfl (lv_at hl 2 rfl) ?_
        refine lv_imul hx hb dX2_append_29 ?_
        refine lv_ishr hx hb dX2_append_30 ?_
        refine lv_i2b hx hb dX2_append_31 rfl ?_
        obtain ⟨hi3, hf⟩ := gd_s hf
        refine s_bast (k := tl.toNatClampNeg) (w' := (wTp cB ad (upd tb tl.toNatClampNeg (vp_nar .byte ((v1 >>> (((8 : Int32) * v3) &&& 31)).toInt8.toInt32))) tl)) C0 G 1 1 rfl rfl (vin hi3) rfl rfl dX2_append_32 (fun H locs G => ?_)
        refine lv_aload_n hx hb dX2_append_33 rfl (lv_at hl 0 rfl) ?_
        refine lv_dup hx hb dX2_append_34 rfl ?_
        refine s_get (C := RX2) (T := TX2) C0 G i_X2 0 1 rfl rfl (by decide) q127 rfl dX2_append_35 ?_
        refine lv_iconst (v := (1 : Int32)) hx hb dX2_append_38 (by decide) ?_
        refine lv_iadd hx hb dX2_append_39 ?_
        refine s_put (C := RX2) (T := TX2) (w' := (wTp cB ad (upd tb tl.toNatClampNeg (vp_nar .byte ((v1 >>> (((8 : Int32) * v3) &&& 31)).toInt8.toInt32))) (tl + (1 : Int32)))) C0 G i_X2 tyX2 tyX2_ok nmX2 0 1 rfl rfl (by decide) q127 rfl (ty := .int) (by decide +kernel) rfl rfl (Nat.le_of_ble_eq_true rfl) rfl dX2_append_40 (fun H locs G => ?_)
        refine lv_iinc (v := (v3 + (-1 : Int32))) (lv' := [(3, .int (v3 + (-1 : Int32))), (0, .ref (ad 0)), (1, .int v1)]) hx hb dX2_append_43 hl (k := 2) rfl rfl (by decide) rfl (fun ls hl => ?_)
        refine lv_goto (tgt := 4) hx hb dX2_append_46 (by decide) ?_
        exact ih G (lv_sub hl [1, 2, 0] rfl) hf
set_option maxHeartbeats 4000000 in
set_option maxRecDepth 100000 in
theorem b2_append_0 {ta adK adV : Nat → Nat} {p : Program} {l : Launch} {e : Env} {s : State} {m : MethodId} {args : Array Value} {below : List Frame} {meth : Method} {c : Code} {D : va_G} {cI cB cG cS : ClassId} {ad : Nat → Nat} {A : Nat → Prop}  {o_tb : Nat → Int32} {o_tl : Int32} (C0 : CX (XS ta adK adV) p s m args meth c cX2_append 4 none RX2 A) : ∀ {tb : Nat → Int32} {tl : Int32} {v1 : Int32} {v2 : Int32} {H : Heap} {locs : List Loc} {ls : Array Slot}, GX (XS ta adK adV) D (tyC cI cB cG cS) A s (wTp cB ad tb tl) H locs → lv_has ls 4 [(0, .ref (ad 0)), (1, .int v1), (2, .int v2)] → f2_append tb tl v1 v2 = some (o_tb, o_tl) → W p l e ({ frames := 0, cells := 0, slots := 0, locals := 0 }) s m args below meth c H locs 0 0 (MQ below (QcV D (tyC cI cB cG cS) (wTp cB ad o_tb o_tl) A) args s 0 0 A) (F0 m 0 ls []) := by
  have hx := C0.1
  have hb := C0.2.1
  have hown := C0.2.2.2.2.1
  have hts := C0.2.2.2.2.2.1
  have hX := C0.2.2.2.2.2.2.2.2
  intro tb tl v1 v2 H locs ls G hl hf
  unfold f2_append at hf
  refine lv_iload_n hx hb dX2_append_0 rfl (lv_at hl 2 rfl) ?_
  refine lv_iconst (v := (1 : Int32)) hx hb dX2_append_1 (by decide) ?_
  refine lv_isub hx hb dX2_append_2 ?_
  refine lv_istore_n (lv' := [(3, .int (v2 - (1 : Int32))), (0, .ref (ad 0)), (1, .int v1), (2, .int v2)]) hx hb dX2_append_3 rfl hl (by decide) rfl (fun ls hl => ?_)
  exact b2_append_4 C0  1000 G (lv_sub hl [1, 2, 0] rfl) hf
theorem o2_append : okName yX2_append 2 := ⟨by decide, by decide, by decide +kernel⟩
set_option maxHeartbeats 4000000 in
set_option maxRecDepth 100000 in
theorem c2_append {ta adK adV : Nat → Nat} (hX : XT (XS ta adK adV)) {l : Launch} {D : va_G} {cI cB cG cS : ClassId} {ad : Nat → Nat} {sz : Nat} {tb : Nat → Int32} {tl : Int32} {v1 : Int32} {v2 : Int32} {o_tb : Nat → Int32} {o_tl : Int32} (hf : f2_append tb tl v1 v2 = some (o_tb, o_tl)) : Met l yX2_append (wU yX2_append cX2_append 4 none) ({ frames := 0, cells := 0, slots := 0, locals := 0 }) (va_Pc [.ref (ad 0), .int v1, .int v2] (PreW (XS ta adK adV) D (tyC cI cB cG cS) (wTp cB ad tb tl) sz)) (QcV D (tyC cI cB cG cS) (wTp cB ad o_tb o_tl) (va_A (wTp cB ad tb tl) sz)) 0 0 (va_A (wTp cB ad tb tl) sz) := by
  refine startW hX (own := RX2) (by decide) rfl (Nat.le_of_ble_eq_true rfl) (fun p e s m args below meth c ls C0 G hl => ?_)
  exact b2_append_0 C0 G hl hf
/-! 4_feed -/
theorem dX4_feed_0 : decode cX4_feed 0 = .ok (.iload_n 2, 1) := by decide +kernel
theorem dX4_feed_1 : decode cX4_feed 1 = .ok (.iconst 1, 1) := by decide +kernel
theorem dX4_feed_2 : decode cX4_feed 2 = .ok (.iconst 4, 1) := by decide +kernel
theorem dX4_feed_3 : decode cX4_feed 3 = .ok (.invokestatic 45, 3) := by decide +kernel
theorem dX4_feed_6 : decode cX4_feed 6 = .ok (.ifCond .ne 9, 3) := by decide +kernel
theorem dX4_feed_9 : decode cX4_feed 9 = .ok (.aload_n 0, 1) := by decide +kernel
theorem dX4_feed_10 : decode cX4_feed 10 = .ok (.iconst 0, 1) := by decide +kernel
theorem dX4_feed_11 : decode cX4_feed 11 = .ok (.invokevirtual 49, 3) := by decide +kernel
theorem dX4_feed_14 : decode cX4_feed 14 = .ok (.ireturn, 1) := by decide +kernel
theorem dX4_feed_15 : decode cX4_feed 15 = .ok (.aload_n 0, 1) := by decide +kernel
theorem dX4_feed_16 : decode cX4_feed 16 = .ok (.getfield 33, 3) := by decide +kernel
theorem dX4_feed_19 : decode cX4_feed 19 = .ok (.getfield 177, 3) := by decide +kernel
theorem dX4_feed_22 : decode cX4_feed 22 = .ok (.iload_n 2, 1) := by decide +kernel
theorem dX4_feed_23 : decode cX4_feed 23 = .ok (.iadd, 1) := by decide +kernel
theorem dX4_feed_24 : decode cX4_feed 24 = .ok (.bipush 120, 2) := by decide +kernel
theorem dX4_feed_26 : decode cX4_feed 26 = .ok (.if_icmp .le 9, 3) := by decide +kernel
theorem dX4_feed_29 : decode cX4_feed 29 = .ok (.aload_n 0, 1) := by decide +kernel
theorem dX4_feed_30 : decode cX4_feed 30 = .ok (.iconst 1, 1) := by decide +kernel
theorem dX4_feed_31 : decode cX4_feed 31 = .ok (.invokevirtual 49, 3) := by decide +kernel
theorem dX4_feed_34 : decode cX4_feed 34 = .ok (.ireturn, 1) := by decide +kernel
theorem dX4_feed_35 : decode cX4_feed 35 = .ok (.aload_n 0, 1) := by decide +kernel
theorem dX4_feed_36 : decode cX4_feed 36 = .ok (.getfield 33, 3) := by decide +kernel
theorem dX4_feed_39 : decode cX4_feed 39 = .ok (.iload_n 1, 1) := by decide +kernel
theorem dX4_feed_40 : decode cX4_feed 40 = .ok (.iload_n 2, 1) := by decide +kernel
theorem dX4_feed_41 : decode cX4_feed 41 = .ok (.invokevirtual 182, 3) := by decide +kernel
theorem dX4_feed_44 : decode cX4_feed 44 = .ok (.aload_n 0, 1) := by decide +kernel
theorem dX4_feed_45 : decode cX4_feed 45 = .ok (.getfield 33, 3) := by decide +kernel
theorem dX4_feed_48 : decode cX4_feed 48 = .ok (.getfield 177, 3) := by decide +kernel
theorem dX4_feed_51 : decode cX4_feed 51 = .ok (.ireturn, 1) := by decide +kernel
def f4_feed (tb : Nat → Int32) (tl : Int32) (fd : Nat → Int32) (v1 : Int32) (v2 : Int32) : Option (Int32 × (Nat → Int32) × Int32 × (Nat → Int32)) :=
  if (f4_within v2 (1 : Int32) (4 : Int32)) = (0 : Int32) then (
    ob2 (f4_found fd (0 : Int32)) (fun r9 fd_10 =>
    some (r9, tb, tl, fd_10)))
  else (
    if (tl + v2) ≤ (120 : Int32) then (
      ob2 (f2_append tb tl v1 v2) (fun tb_3 tl_4 =>
      some (tl_4, tb_3, tl_4, fd)))
    else (
      ob2 (f4_found fd (1 : Int32)) (fun r6 fd_7 =>
      some (r6, tb, tl, fd_7))))
set_option maxHeartbeats 4000000 in
set_option maxRecDepth 100000 in
theorem b4_feed_0 {ta adK adV : Nat → Nat} {p : Program} {l : Launch} {e : Env} {s : State} {m : MethodId} {args : Array Value} {below : List Frame} {meth : Method} {c : Code} {D : va_G} {cI cB cG cS : ClassId} {ad : Nat → Nat} {A : Nat → Prop} {hp1 : Nat → Int32} {st1 : Nat → Int32} {tr1 : Nat → Nat → Int32} {sp1 : Nat → Int32} {vis1 : Int32} {day1 : Int32} {z1 : Int32} {hp2 : Nat → Int32} {st2 : Nat → Int32} {tr2 : Nat → Nat → Int32} {sp2 : Nat → Int32} {vis2 : Int32} {day2 : Int32} {z2 : Int32} {hp3 : Nat → Int32} {st3 : Nat → Int32} {tr3 : Nat → Nat → Int32} {sp3 : Nat → Int32} {vis3 : Int32} {day3 : Int32} {z3 : Int32} {rtok : Int32} {rbg : Int32} {ren : Int32} {rvl : Int32} {shn : Nat → Nat → Int32} {shb : Nat → Int32} {shz : Nat → Int32} {isK : Int32} {r0 : Int32} {o_tb : Nat → Int32} {o_tl : Int32} {o_fd : Nat → Int32} (C0 : CX (XS ta adK adV) p s m args meth c cX4_feed 3 (some .int) RX4 A) : ∀ {tb : Nat → Int32} {tl : Int32} {fd : Nat → Int32} {v1 : Int32} {v2 : Int32} {H : Heap} {locs : List Loc} {ls : Array Slot}, GX (XS ta adK adV) D (tyC cI cB cG cS) A s (wS cI cB cG cS ad hp1 st1 tr1 sp1 vis1 day1 z1 hp2 st2 tr2 sp2 vis2 day2 z2 hp3 st3 tr3 sp3 vis3 day3 z3 tb tl rtok rbg ren rvl shn shb shz fd isK) H locs → lv_has ls 3 [(0, .ref (ad 0)), (1, .int v1), (2, .int v2)] → f4_feed tb tl fd v1 v2 = some (r0, o_tb, o_tl, o_fd) → W p l e ({ frames := 1, cells := 0, slots := 0, locals := 23 }) s m args below meth c H locs 0 0 (MQ below (QcI D (tyC cI cB cG cS) (wS cI cB cG cS ad hp1 st1 tr1 sp1 vis1 day1 z1 hp2 st2 tr2 sp2 vis2 day2 z2 hp3 st3 tr3 sp3 vis3 day3 z3 o_tb o_tl rtok rbg ren rvl shn shb shz o_fd isK) A r0) args s 0 0 A) (F0 m 0 ls []) := by
  have hx := C0.1
  have hb := C0.2.1
  have hown := C0.2.2.2.2.1
  have hts := C0.2.2.2.2.2.1
  have hX := C0.2.2.2.2.2.2.2.2
  intro tb tl fd v1 v2 H locs ls G hl hf
  unfold f4_feed at hf
  refine lv_iload_n hx hb dX4_feed_0 rfl (lv_at hl 2 rfl) ?_
  refine lv_iconst (v := (1 : Int32)) hx hb dX4_feed_1 (by decide) ?_
  refine lv_iconst (v := (4 : Int32)) hx hb dX4_feed_2 (by decide) ?_
  refine go_i C0 G (runS_of (n := 3) (As := [.int v2, .int (1 : Int32), .int (4 : Int32)]) (rest := []) C0 G (c4_within hX rfl) q204 q49 q202 q203 o4_within ⟨rfl, rfl⟩ ⟨Nat.le_of_ble_eq_true rfl, Nat.le_of_ble_eq_true rfl⟩ rfl hl.1 rfl (Nat.le_of_ble_eq_true rfl) dX4_feed_3) (fun H locs G => ?_)
  refine lv_if_ne (tgt := 15) hx hb dX4_feed_6 (by decide) (fun hc1 => ?_) (fun hc1 => ?_)
  · have hf := itn hc1 hf
    refine lv_aload_n hx hb dX4_feed_15 rfl (lv_at hl 0 rfl) ?_
    refine s_get (C := RX4) (T := TX4) C0 G i_X4 0 4 rfl rfl (by decide) q177 rfl dX4_feed_16 ?_
    refine s_get (C := RX2) (T := TX2) C0 G i_X2 37 1 rfl rfl (by decide) q129 rfl dX4_feed_19 ?_
    refine lv_iload_n hx hb dX4_feed_22 rfl (lv_at hl 2 rfl) ?_
    refine lv_iadd hx hb dX4_feed_23 ?_
    refine lv_bipush (v := (120 : Int32)) hx hb dX4_feed_24 (by decide) ?_
    refine lv_icmp_le (tgt := 35) hx hb dX4_feed_26 (by decide) (fun hc2 => ?_) (fun hc2 => ?_)
    · have hf := itp hc2 hf
      refine lv_aload_n hx hb dX4_feed_35 rfl (lv_at hl 0 rfl) ?_
      refine s_get (C := RX4) (T := TX4) C0 G i_X4 0 4 rfl rfl (by decide) q177 rfl dX4_feed_36 ?_
      refine lv_iload_n hx hb dX4_feed_39 rfl (lv_at hl 1 rfl) ?_
      refine lv_iload_n hx hb dX4_feed_40 rfl (lv_at hl 2 rfl) ?_
      obtain ⟨tb_3, tl_4, hc5, hf⟩ := ob2_s hf
      refine go_v_sub C0 G s_tape o_tape (runV_sub (n := 2) (q0 := 37) (As := [.int v1, .int v2]) (rest := []) C0 G s_tape (c2_append hX hc5) q505 q52 q502 q503 q504 o2_append ⟨rfl, rfl⟩ ⟨Nat.le_of_ble_eq_true rfl, Nat.le_of_ble_eq_true rfl⟩ rfl rfl rfl hl.1 rfl (Nat.le_of_ble_eq_true rfl) dX4_feed_41) (fun H locs G => ?_)
      refine lv_aload_n hx hb dX4_feed_44 rfl (lv_at hl 0 rfl) ?_
      refine s_get (C := RX4) (T := TX4) C0 G i_X4 0 4 rfl rfl (by decide) q177 rfl dX4_feed_45 ?_
      refine s_get (C := RX2) (T := TX2) C0 G i_X2 37 1 rfl rfl (by decide) q129 rfl dX4_feed_48 ?_
      obtain ⟨rfl, rfl, rfl, rfl⟩ := inj4 hf
      exact ret_i C0 G dX4_feed_51
    · have hf := itn hc2 hf
      refine lv_aload_n hx hb dX4_feed_29 rfl (lv_at hl 0 rfl) ?_
      refine lv_iconst (v := (1 : Int32)) hx hb dX4_feed_30 (by decide) ?_
      obtain ⟨r6, fd_7, hc8, hf⟩ := ob2_s hf
      refine go_i C0 G (runV_of (n := 1) (q0 := 0) (As := [.int (1 : Int32)]) (rest := []) C0 G (c4_found hX hc8) q208 q49 q205 q207 q0 o4_found ⟨rfl, rfl⟩ ⟨Nat.le_of_ble_eq_true rfl, Nat.le_of_ble_eq_true rfl⟩ rfl rfl rfl hl.1 rfl (Nat.le_of_ble_eq_true rfl) dX4_feed_31) (fun H locs G => ?_)
      obtain ⟨rfl, rfl, rfl, rfl⟩ := inj4 hf
      exact ret_i C0 G dX4_feed_34
  · have hf := itp hc1 hf
    refine lv_aload_n hx hb dX4_feed_9 rfl (lv_at hl 0 rfl) ?_
    refine lv_iconst (v := (0 : Int32)) hx hb dX4_feed_10 (by decide) ?_
    obtain ⟨r9, fd_10, hc11, hf⟩ := ob2_s hf
    refine go_i C0 G (runV_of (n := 1) (q0 := 0) (As := [.int (0 : Int32)]) (rest := []) C0 G (c4_found hX hc11) q208 q49 q205 q207 q0 o4_found ⟨rfl, rfl⟩ ⟨Nat.le_of_ble_eq_true rfl, Nat.le_of_ble_eq_true rfl⟩ rfl rfl rfl hl.1 rfl (Nat.le_of_ble_eq_true rfl) dX4_feed_11) (fun H locs G => ?_)
    obtain ⟨rfl, rfl, rfl, rfl⟩ := inj4 hf
    exact ret_i C0 G dX4_feed_14
theorem o4_feed : okName yX4_feed 2 := ⟨by decide, by decide, by decide +kernel⟩
set_option maxHeartbeats 4000000 in
set_option maxRecDepth 100000 in
theorem c4_feed {ta adK adV : Nat → Nat} (hX : XT (XS ta adK adV)) {l : Launch} {D : va_G} {cI cB cG cS : ClassId} {ad : Nat → Nat} {sz : Nat} {hp1 : Nat → Int32} {st1 : Nat → Int32} {tr1 : Nat → Nat → Int32} {sp1 : Nat → Int32} {vis1 : Int32} {day1 : Int32} {z1 : Int32} {hp2 : Nat → Int32} {st2 : Nat → Int32} {tr2 : Nat → Nat → Int32} {sp2 : Nat → Int32} {vis2 : Int32} {day2 : Int32} {z2 : Int32} {hp3 : Nat → Int32} {st3 : Nat → Int32} {tr3 : Nat → Nat → Int32} {sp3 : Nat → Int32} {vis3 : Int32} {day3 : Int32} {z3 : Int32} {tb : Nat → Int32} {tl : Int32} {rtok : Int32} {rbg : Int32} {ren : Int32} {rvl : Int32} {shn : Nat → Nat → Int32} {shb : Nat → Int32} {shz : Nat → Int32} {fd : Nat → Int32} {isK : Int32} {v1 : Int32} {v2 : Int32} {r0 : Int32} {o_tb : Nat → Int32} {o_tl : Int32} {o_fd : Nat → Int32} (hf : f4_feed tb tl fd v1 v2 = some (r0, o_tb, o_tl, o_fd)) : Met l yX4_feed (wU yX4_feed cX4_feed 3 (some .int)) ({ frames := 1, cells := 0, slots := 0, locals := 23 }) (va_Pc [.ref (ad 0), .int v1, .int v2] (PreW (XS ta adK adV) D (tyC cI cB cG cS) (wS cI cB cG cS ad hp1 st1 tr1 sp1 vis1 day1 z1 hp2 st2 tr2 sp2 vis2 day2 z2 hp3 st3 tr3 sp3 vis3 day3 z3 tb tl rtok rbg ren rvl shn shb shz fd isK) sz)) (QcI D (tyC cI cB cG cS) (wS cI cB cG cS ad hp1 st1 tr1 sp1 vis1 day1 z1 hp2 st2 tr2 sp2 vis2 day2 z2 hp3 st3 tr3 sp3 vis3 day3 z3 o_tb o_tl rtok rbg ren rvl shn shb shz o_fd isK) (va_A (wS cI cB cG cS ad hp1 st1 tr1 sp1 vis1 day1 z1 hp2 st2 tr2 sp2 vis2 day2 z2 hp3 st3 tr3 sp3 vis3 day3 z3 tb tl rtok rbg ren rvl shn shb shz fd isK) sz) r0) 0 0 (va_A (wS cI cB cG cS ad hp1 st1 tr1 sp1 vis1 day1 z1 hp2 st2 tr2 sp2 vis2 day2 z2 hp3 st3 tr3 sp3 vis3 day3 z3 tb tl rtok rbg ren rvl shn shb shz fd isK) sz) := by
  refine startW hX (own := RX4) (by decide) rfl (Nat.le_of_ble_eq_true rfl) (fun p e s m args below meth c ls C0 G hl => ?_)
  exact b4_feed_0 C0 G hl hf
/-! 4_wipe -/
theorem dX4_wipe_0 : decode cX4_wipe 0 = .ok (.aload_n 0, 1) := by decide +kernel
theorem dX4_wipe_1 : decode cX4_wipe 1 = .ok (.getfield 33, 3) := by decide +kernel
theorem dX4_wipe_4 : decode cX4_wipe 4 = .ok (.getfield 177, 3) := by decide +kernel
theorem dX4_wipe_7 : decode cX4_wipe 7 = .ok (.istore_n 1, 1) := by decide +kernel
theorem dX4_wipe_8 : decode cX4_wipe 8 = .ok (.aload_n 0, 1) := by decide +kernel
theorem dX4_wipe_9 : decode cX4_wipe 9 = .ok (.getfield 33, 3) := by decide +kernel
theorem dX4_wipe_12 : decode cX4_wipe 12 = .ok (.iconst 0, 1) := by decide +kernel
theorem dX4_wipe_13 : decode cX4_wipe 13 = .ok (.putfield 177, 3) := by decide +kernel
theorem dX4_wipe_16 : decode cX4_wipe 16 = .ok (.iload_n 1, 1) := by decide +kernel
theorem dX4_wipe_17 : decode cX4_wipe 17 = .ok (.ireturn, 1) := by decide +kernel
def f4_wipe (tl : Int32)  : Option (Int32 × Int32) :=
  some (tl, (0 : Int32))
set_option maxHeartbeats 4000000 in
set_option maxRecDepth 100000 in
theorem b4_wipe_0 {ta adK adV : Nat → Nat} {p : Program} {l : Launch} {e : Env} {s : State} {m : MethodId} {args : Array Value} {below : List Frame} {meth : Method} {c : Code} {D : va_G} {cI cB cG cS : ClassId} {ad : Nat → Nat} {A : Nat → Prop} {hp1 : Nat → Int32} {st1 : Nat → Int32} {tr1 : Nat → Nat → Int32} {sp1 : Nat → Int32} {vis1 : Int32} {day1 : Int32} {z1 : Int32} {hp2 : Nat → Int32} {st2 : Nat → Int32} {tr2 : Nat → Nat → Int32} {sp2 : Nat → Int32} {vis2 : Int32} {day2 : Int32} {z2 : Int32} {hp3 : Nat → Int32} {st3 : Nat → Int32} {tr3 : Nat → Nat → Int32} {sp3 : Nat → Int32} {vis3 : Int32} {day3 : Int32} {z3 : Int32} {tb : Nat → Int32} {rtok : Int32} {rbg : Int32} {ren : Int32} {rvl : Int32} {shn : Nat → Nat → Int32} {shb : Nat → Int32} {shz : Nat → Int32} {fd : Nat → Int32} {isK : Int32} {r0 : Int32} {o_tl : Int32} (C0 : CX (XS ta adK adV) p s m args meth c cX4_wipe 2 (some .int) RX4 A) : ∀ {tl : Int32} {H : Heap} {locs : List Loc} {ls : Array Slot}, GX (XS ta adK adV) D (tyC cI cB cG cS) A s (wS cI cB cG cS ad hp1 st1 tr1 sp1 vis1 day1 z1 hp2 st2 tr2 sp2 vis2 day2 z2 hp3 st3 tr3 sp3 vis3 day3 z3 tb tl rtok rbg ren rvl shn shb shz fd isK) H locs → lv_has ls 2 [(0, .ref (ad 0))] → f4_wipe tl = some (r0, o_tl) → W p l e ({ frames := 0, cells := 0, slots := 0, locals := 0 }) s m args below meth c H locs 0 0 (MQ below (QcI D (tyC cI cB cG cS) (wS cI cB cG cS ad hp1 st1 tr1 sp1 vis1 day1 z1 hp2 st2 tr2 sp2 vis2 day2 z2 hp3 st3 tr3 sp3 vis3 day3 z3 tb o_tl rtok rbg ren rvl shn shb shz fd isK) A r0) args s 0 0 A) (F0 m 0 ls []) := by
  have hx := C0.1
  have hb := C0.2.1
  have hown := C0.2.2.2.2.1
  have hts := C0.2.2.2.2.2.1
  have hX := C0.2.2.2.2.2.2.2.2
  intro tl H locs ls G hl hf
  unfold f4_wipe at hf
  refine lv_aload_n hx hb dX4_wipe_0 rfl (lv_at hl 0 rfl) ?_
  refine s_get (C := RX4) (T := TX4) C0 G i_X4 0 4 rfl rfl (by decide) q177 rfl dX4_wipe_1 ?_
  refine s_get (C := RX2) (T := TX2) C0 G i_X2 37 1 rfl rfl (by decide) q129 rfl dX4_wipe_4 ?_
  refine lv_istore_n (lv' := [(1, .int tl), (0, .ref (ad 0))]) hx hb dX4_wipe_7 rfl hl (by decide) rfl (fun ls hl => ?_)
  refine lv_aload_n hx hb dX4_wipe_8 rfl (lv_at hl 1 rfl) ?_
  refine s_get (C := RX4) (T := TX4) C0 G i_X4 0 4 rfl rfl (by decide) q177 rfl dX4_wipe_9 ?_
  refine lv_iconst (v := (0 : Int32)) hx hb dX4_wipe_12 (by decide) ?_
  refine s_put (C := RX2) (T := TX2) (w' := (wS cI cB cG cS ad hp1 st1 tr1 sp1 vis1 day1 z1 hp2 st2 tr2 sp2 vis2 day2 z2 hp3 st3 tr3 sp3 vis3 day3 z3 tb (0 : Int32) rtok rbg ren rvl shn shb shz fd isK)) C0 G i_X2 tyX2 tyX2_ok nmX2 37 1 rfl rfl (by decide) q129 rfl (ty := .int) (by decide +kernel) rfl rfl (Nat.le_of_ble_eq_true rfl) rfl dX4_wipe_13 (fun H locs G => ?_)
  refine lv_iload_n hx hb dX4_wipe_16 rfl (lv_at hl 0 rfl) ?_
  obtain ⟨rfl, rfl⟩ := inj2 hf
  exact ret_i C0 G dX4_wipe_17
theorem o4_wipe : okName yX4_wipe 0 := ⟨by decide, by decide, by decide +kernel⟩
set_option maxHeartbeats 4000000 in
set_option maxRecDepth 100000 in
theorem c4_wipe {ta adK adV : Nat → Nat} (hX : XT (XS ta adK adV)) {l : Launch} {D : va_G} {cI cB cG cS : ClassId} {ad : Nat → Nat} {sz : Nat} {hp1 : Nat → Int32} {st1 : Nat → Int32} {tr1 : Nat → Nat → Int32} {sp1 : Nat → Int32} {vis1 : Int32} {day1 : Int32} {z1 : Int32} {hp2 : Nat → Int32} {st2 : Nat → Int32} {tr2 : Nat → Nat → Int32} {sp2 : Nat → Int32} {vis2 : Int32} {day2 : Int32} {z2 : Int32} {hp3 : Nat → Int32} {st3 : Nat → Int32} {tr3 : Nat → Nat → Int32} {sp3 : Nat → Int32} {vis3 : Int32} {day3 : Int32} {z3 : Int32} {tb : Nat → Int32} {tl : Int32} {rtok : Int32} {rbg : Int32} {ren : Int32} {rvl : Int32} {shn : Nat → Nat → Int32} {shb : Nat → Int32} {shz : Nat → Int32} {fd : Nat → Int32} {isK : Int32}  {r0 : Int32} {o_tl : Int32} (hf : f4_wipe tl = some (r0, o_tl)) : Met l yX4_wipe (wU yX4_wipe cX4_wipe 2 (some .int)) ({ frames := 0, cells := 0, slots := 0, locals := 0 }) (va_Pc [.ref (ad 0)] (PreW (XS ta adK adV) D (tyC cI cB cG cS) (wS cI cB cG cS ad hp1 st1 tr1 sp1 vis1 day1 z1 hp2 st2 tr2 sp2 vis2 day2 z2 hp3 st3 tr3 sp3 vis3 day3 z3 tb tl rtok rbg ren rvl shn shb shz fd isK) sz)) (QcI D (tyC cI cB cG cS) (wS cI cB cG cS ad hp1 st1 tr1 sp1 vis1 day1 z1 hp2 st2 tr2 sp2 vis2 day2 z2 hp3 st3 tr3 sp3 vis3 day3 z3 tb o_tl rtok rbg ren rvl shn shb shz fd isK) (va_A (wS cI cB cG cS ad hp1 st1 tr1 sp1 vis1 day1 z1 hp2 st2 tr2 sp2 vis2 day2 z2 hp3 st3 tr3 sp3 vis3 day3 z3 tb tl rtok rbg ren rvl shn shb shz fd isK) sz) r0) 0 0 (va_A (wS cI cB cG cS ad hp1 st1 tr1 sp1 vis1 day1 z1 hp2 st2 tr2 sp2 vis2 day2 z2 hp3 st3 tr3 sp3 vis3 day3 z3 tb tl rtok rbg ren rvl shn shb shz fd isK) sz) := by
  refine startW hX (own := RX4) (by decide) rfl (Nat.le_of_ble_eq_true rfl) (fun p e s m args below meth c ls C0 G hl => ?_)
  exact b4_wipe_0 C0 G hl hf
/-! 4_hold -/
theorem dX4_hold_0 : decode cX4_hold 0 = .ok (.iload_n 1, 1) := by decide +kernel
theorem dX4_hold_1 : decode cX4_hold 1 = .ok (.iconst 0, 1) := by decide +kernel
theorem dX4_hold_2 : decode cX4_hold 2 = .ok (.bipush 9, 2) := by decide +kernel
theorem dX4_hold_4 : decode cX4_hold 4 = .ok (.invokestatic 45, 3) := by decide +kernel
theorem dX4_hold_7 : decode cX4_hold 7 = .ok (.ifCond .eq 16, 3) := by decide +kernel
theorem dX4_hold_10 : decode cX4_hold 10 = .ok (.iload_n 2, 1) := by decide +kernel
theorem dX4_hold_11 : decode cX4_hold 11 = .ok (.iconst (-1), 1) := by decide +kernel
theorem dX4_hold_12 : decode cX4_hold 12 = .ok (.if_icmp .eq 17, 3) := by decide +kernel
theorem dX4_hold_15 : decode cX4_hold 15 = .ok (.aload_n 0, 1) := by decide +kernel
theorem dX4_hold_16 : decode cX4_hold 16 = .ok (.iload_n 2, 1) := by decide +kernel
theorem dX4_hold_17 : decode cX4_hold 17 = .ok (.invokevirtual 73, 3) := by decide +kernel
theorem dX4_hold_20 : decode cX4_hold 20 = .ok (.ifCond .ne 9, 3) := by decide +kernel
theorem dX4_hold_23 : decode cX4_hold 23 = .ok (.aload_n 0, 1) := by decide +kernel
theorem dX4_hold_24 : decode cX4_hold 24 = .ok (.iconst 0, 1) := by decide +kernel
theorem dX4_hold_25 : decode cX4_hold 25 = .ok (.invokevirtual 49, 3) := by decide +kernel
theorem dX4_hold_28 : decode cX4_hold 28 = .ok (.ireturn, 1) := by decide +kernel
theorem dX4_hold_29 : decode cX4_hold 29 = .ok (.aload_n 0, 1) := by decide +kernel
theorem dX4_hold_30 : decode cX4_hold 30 = .ok (.getfield 10, 3) := by decide +kernel
theorem dX4_hold_33 : decode cX4_hold 33 = .ok (.getfield 189, 3) := by decide +kernel
theorem dX4_hold_36 : decode cX4_hold 36 = .ok (.iload_n 1, 1) := by decide +kernel
theorem dX4_hold_37 : decode cX4_hold 37 = .ok (.iload_n 2, 1) := by decide +kernel
theorem dX4_hold_38 : decode cX4_hold 38 = .ok (.iastore, 1) := by decide +kernel
theorem dX4_hold_39 : decode cX4_hold 39 = .ok (.iconst 1, 1) := by decide +kernel
theorem dX4_hold_40 : decode cX4_hold 40 = .ok (.ireturn, 1) := by decide +kernel
def j4_hold_23  (sp1 : Nat → Int32) (vis1 : Int32) (fd : Nat → Int32)  : Option (Int32 × (Nat → Int32) × (Nat → Int32)) :=
  ob2 (f4_found fd (0 : Int32)) (fun r4 fd_5 =>
  some (r4, sp1, fd_5))
def j4_hold_29  (sp1 : Nat → Int32) (vis1 : Int32) (fd : Nat → Int32) (v1 : Int32) (v2 : Int32) : Option (Int32 × (Nat → Int32) × (Nat → Int32)) :=
  gd (inb v1 10) (
  some ((1 : Int32), (upd sp1 v1.toNatClampNeg v2), fd))
def f4_hold (sp1 : Nat → Int32) (vis1 : Int32) (fd : Nat → Int32) (v1 : Int32) (v2 : Int32) : Option (Int32 × (Nat → Int32) × (Nat → Int32)) :=
  if (f4_within v1 (0 : Int32) (9 : Int32)) = (0 : Int32) then (
    j4_hold_23 sp1 vis1 fd)
  else (
    if v2 = (-1 : Int32) then (
      j4_hold_29 sp1 vis1 fd v1 v2)
    else (
      if (f4_isVisitor vis1 v2) = (0 : Int32) then (
        j4_hold_23 sp1 vis1 fd)
      else (
        j4_hold_29 sp1 vis1 fd v1 v2)))
set_option maxHeartbeats 4000000 in
set_option maxRecDepth 100000 in
theorem b4_hold_23 {ta adK adV : Nat → Nat} {p : Program} {l : Launch} {e : Env} {s : State} {m : MethodId} {args : Array Value} {below : List Frame} {meth : Method} {c : Code} {D : va_G} {cI cB cG cS : ClassId} {ad : Nat → Nat} {A : Nat → Prop} {hp1 : Nat → Int32} {st1 : Nat → Int32} {tr1 : Nat → Nat → Int32} {vis1 : Int32} {day1 : Int32} {z1 : Int32} {hp2 : Nat → Int32} {st2 : Nat → Int32} {tr2 : Nat → Nat → Int32} {sp2 : Nat → Int32} {vis2 : Int32} {day2 : Int32} {z2 : Int32} {hp3 : Nat → Int32} {st3 : Nat → Int32} {tr3 : Nat → Nat → Int32} {sp3 : Nat → Int32} {vis3 : Int32} {day3 : Int32} {z3 : Int32} {tb : Nat → Int32} {tl : Int32} {rtok : Int32} {rbg : Int32} {ren : Int32} {rvl : Int32} {shn : Nat → Nat → Int32} {shb : Nat → Int32} {shz : Nat → Int32} {isK : Int32} {r0 : Int32} {o_sp1 : Nat → Int32} {o_fd : Nat → Int32} (C0 : CX (XS ta adK adV) p s m args meth c cX4_hold 3 (some .int) RX4 A) : ∀ {sp1 : Nat → Int32} {fd : Nat → Int32} {H : Heap} {locs : List Loc} {ls : Array Slot}, GX (XS ta adK adV) D (tyC cI cB cG cS) A s (wS cI cB cG cS ad hp1 st1 tr1 sp1 vis1 day1 z1 hp2 st2 tr2 sp2 vis2 day2 z2 hp3 st3 tr3 sp3 vis3 day3 z3 tb tl rtok rbg ren rvl shn shb shz fd isK) H locs → lv_has ls 3 [(0, .ref (ad 0))] → j4_hold_23  sp1 vis1 fd = some (r0, o_sp1, o_fd) → W p l e ({ frames := 2, cells := 0, slots := 0, locals := 43 }) s m args below meth c H locs 0 0 (MQ below (QcI D (tyC cI cB cG cS) (wS cI cB cG cS ad hp1 st1 tr1 o_sp1 vis1 day1 z1 hp2 st2 tr2 sp2 vis2 day2 z2 hp3 st3 tr3 sp3 vis3 day3 z3 tb tl rtok rbg ren rvl shn shb shz o_fd isK) A r0) args s 0 0 A) (F0 m 23 ls []) := by
  have hx := C0.1
  have hb := C0.2.1
  have hown := C0.2.2.2.2.1
  have hts := C0.2.2.2.2.2.1
  have hX := C0.2.2.2.2.2.2.2.2
  intro sp1 fd H locs ls G hl hf
  unfold j4_hold_23 at hf
  refine lv_aload_n hx hb dX4_hold_23 rfl (lv_at hl 0 rfl) ?_
  refine lv_iconst (v := (0 : Int32)) hx hb dX4_hold_24 (by decide) ?_
  obtain ⟨r4, fd_5, hc6, hf⟩ := ob2_s hf
  refine go_i C0 G (runV_of (n := 1) (q0 := 0) (As := [.int (0 : Int32)]) (rest := []) C0 G (c4_found hX hc6) q208 q49 q205 q207 q0 o4_found ⟨rfl, rfl⟩ ⟨Nat.le_of_ble_eq_true rfl, Nat.le_of_ble_eq_true rfl⟩ rfl rfl rfl hl.1 rfl (Nat.le_of_ble_eq_true rfl) dX4_hold_25) (fun H locs G => ?_)
  obtain ⟨rfl, rfl, rfl⟩ := inj3 hf
  exact ret_i C0 G dX4_hold_28
set_option maxHeartbeats 4000000 in
set_option maxRecDepth 100000 in
theorem b4_hold_29 {ta adK adV : Nat → Nat} {p : Program} {l : Launch} {e : Env} {s : State} {m : MethodId} {args : Array Value} {below : List Frame} {meth : Method} {c : Code} {D : va_G} {cI cB cG cS : ClassId} {ad : Nat → Nat} {A : Nat → Prop} {hp1 : Nat → Int32} {st1 : Nat → Int32} {tr1 : Nat → Nat → Int32} {vis1 : Int32} {day1 : Int32} {z1 : Int32} {hp2 : Nat → Int32} {st2 : Nat → Int32} {tr2 : Nat → Nat → Int32} {sp2 : Nat → Int32} {vis2 : Int32} {day2 : Int32} {z2 : Int32} {hp3 : Nat → Int32} {st3 : Nat → Int32} {tr3 : Nat → Nat → Int32} {sp3 : Nat → Int32} {vis3 : Int32} {day3 : Int32} {z3 : Int32} {tb : Nat → Int32} {tl : Int32} {rtok : Int32} {rbg : Int32} {ren : Int32} {rvl : Int32} {shn : Nat → Nat → Int32} {shb : Nat → Int32} {shz : Nat → Int32} {isK : Int32} {r0 : Int32} {o_sp1 : Nat → Int32} {o_fd : Nat → Int32} (C0 : CX (XS ta adK adV) p s m args meth c cX4_hold 3 (some .int) RX4 A) : ∀ {sp1 : Nat → Int32} {fd : Nat → Int32} {v1 : Int32} {v2 : Int32} {H : Heap} {locs : List Loc} {ls : Array Slot}, GX (XS ta adK adV) D (tyC cI cB cG cS) A s (wS cI cB cG cS ad hp1 st1 tr1 sp1 vis1 day1 z1 hp2 st2 tr2 sp2 vis2 day2 z2 hp3 st3 tr3 sp3 vis3 day3 z3 tb tl rtok rbg ren rvl shn shb shz fd isK) H locs → lv_has ls 3 [(0, .ref (ad 0)), (1, .int v1), (2, .int v2)] → j4_hold_29  sp1 vis1 fd v1 v2 = some (r0, o_sp1, o_fd) → W p l e ({ frames := 2, cells := 0, slots := 0, locals := 43 }) s m args below meth c H locs 0 0 (MQ below (QcI D (tyC cI cB cG cS) (wS cI cB cG cS ad hp1 st1 tr1 o_sp1 vis1 day1 z1 hp2 st2 tr2 sp2 vis2 day2 z2 hp3 st3 tr3 sp3 vis3 day3 z3 tb tl rtok rbg ren rvl shn shb shz o_fd isK) A r0) args s 0 0 A) (F0 m 29 ls []) := by
  have hx := C0.1
  have hb := C0.2.1
  have hown := C0.2.2.2.2.1
  have hts := C0.2.2.2.2.2.1
  have hX := C0.2.2.2.2.2.2.2.2
  intro sp1 fd v1 v2 H locs ls G hl hf
  unfold j4_hold_29 at hf
  refine lv_aload_n hx hb dX4_hold_29 rfl (lv_at hl 0 rfl) ?_
  refine s_get (C := RX4) (T := TX4) C0 G i_X4 0 0 rfl rfl (by decide) q173 rfl dX4_hold_30 ?_
  refine s_get (C := RX0) (T := TX0) C0 G i_X0 1 3 rfl rfl (by decide) q90 rfl dX4_hold_33 ?_
  refine lv_iload_n hx hb dX4_hold_36 rfl (lv_at hl 1 rfl) ?_
  refine lv_iload_n hx hb dX4_hold_37 rfl (lv_at hl 2 rfl) ?_
  obtain ⟨hi7, hf⟩ := gd_s hf
  refine s_iast (k := v1.toNatClampNeg) (w' := (wS cI cB cG cS ad hp1 st1 tr1 (upd sp1 v1.toNatClampNeg v2) vis1 day1 z1 hp2 st2 tr2 sp2 vis2 day2 z2 hp3 st3 tr3 sp3 vis3 day3 z3 tb tl rtok rbg ren rvl shn shb shz fd isK)) C0 G 12 0 rfl rfl (vin hi7) rfl rfl dX4_hold_38 (fun H locs G => ?_)
  refine lv_iconst (v := (1 : Int32)) hx hb dX4_hold_39 (by decide) ?_
  obtain ⟨rfl, rfl, rfl⟩ := inj3 hf
  exact ret_i C0 G dX4_hold_40
set_option maxHeartbeats 4000000 in
set_option maxRecDepth 100000 in
theorem b4_hold_0 {ta adK adV : Nat → Nat} {p : Program} {l : Launch} {e : Env} {s : State} {m : MethodId} {args : Array Value} {below : List Frame} {meth : Method} {c : Code} {D : va_G} {cI cB cG cS : ClassId} {ad : Nat → Nat} {A : Nat → Prop} {hp1 : Nat → Int32} {st1 : Nat → Int32} {tr1 : Nat → Nat → Int32} {vis1 : Int32} {day1 : Int32} {z1 : Int32} {hp2 : Nat → Int32} {st2 : Nat → Int32} {tr2 : Nat → Nat → Int32} {sp2 : Nat → Int32} {vis2 : Int32} {day2 : Int32} {z2 : Int32} {hp3 : Nat → Int32} {st3 : Nat → Int32} {tr3 : Nat → Nat → Int32} {sp3 : Nat → Int32} {vis3 : Int32} {day3 : Int32} {z3 : Int32} {tb : Nat → Int32} {tl : Int32} {rtok : Int32} {rbg : Int32} {ren : Int32} {rvl : Int32} {shn : Nat → Nat → Int32} {shb : Nat → Int32} {shz : Nat → Int32} {isK : Int32} {r0 : Int32} {o_sp1 : Nat → Int32} {o_fd : Nat → Int32} (C0 : CX (XS ta adK adV) p s m args meth c cX4_hold 3 (some .int) RX4 A) : ∀ {sp1 : Nat → Int32} {fd : Nat → Int32} {v1 : Int32} {v2 : Int32} {H : Heap} {locs : List Loc} {ls : Array Slot}, GX (XS ta adK adV) D (tyC cI cB cG cS) A s (wS cI cB cG cS ad hp1 st1 tr1 sp1 vis1 day1 z1 hp2 st2 tr2 sp2 vis2 day2 z2 hp3 st3 tr3 sp3 vis3 day3 z3 tb tl rtok rbg ren rvl shn shb shz fd isK) H locs → lv_has ls 3 [(0, .ref (ad 0)), (1, .int v1), (2, .int v2)] → f4_hold sp1 vis1 fd v1 v2 = some (r0, o_sp1, o_fd) → W p l e ({ frames := 2, cells := 0, slots := 0, locals := 43 }) s m args below meth c H locs 0 0 (MQ below (QcI D (tyC cI cB cG cS) (wS cI cB cG cS ad hp1 st1 tr1 o_sp1 vis1 day1 z1 hp2 st2 tr2 sp2 vis2 day2 z2 hp3 st3 tr3 sp3 vis3 day3 z3 tb tl rtok rbg ren rvl shn shb shz o_fd isK) A r0) args s 0 0 A) (F0 m 0 ls []) := by
  have hx := C0.1
  have hb := C0.2.1
  have hown := C0.2.2.2.2.1
  have hts := C0.2.2.2.2.2.1
  have hX := C0.2.2.2.2.2.2.2.2
  intro sp1 fd v1 v2 H locs ls G hl hf
  unfold f4_hold at hf
  refine lv_iload_n hx hb dX4_hold_0 rfl (lv_at hl 1 rfl) ?_
  refine lv_iconst (v := (0 : Int32)) hx hb dX4_hold_1 (by decide) ?_
  refine lv_bipush (v := (9 : Int32)) hx hb dX4_hold_2 (by decide) ?_
  refine go_i C0 G (runS_of (n := 3) (As := [.int v1, .int (0 : Int32), .int (9 : Int32)]) (rest := []) C0 G (c4_within hX rfl) q204 q49 q202 q203 o4_within ⟨rfl, rfl⟩ ⟨Nat.le_of_ble_eq_true rfl, Nat.le_of_ble_eq_true rfl⟩ rfl hl.1 rfl (Nat.le_of_ble_eq_true rfl) dX4_hold_4) (fun H locs G => ?_)
  refine lv_if_eq (tgt := 23) hx hb dX4_hold_7 (by decide) (fun hc1 => ?_) (fun hc1 => ?_)
  · have hf := itp hc1 hf
    exact b4_hold_23 C0  G (lv_sub hl [0] rfl) hf
  · have hf := itn hc1 hf
    refine lv_iload_n hx hb dX4_hold_10 rfl (lv_at hl 2 rfl) ?_
    refine lv_iconst (v := (-1 : Int32)) hx hb dX4_hold_11 (by decide) ?_
    refine lv_icmp_eq (tgt := 29) hx hb dX4_hold_12 (by decide) (fun hc2 => ?_) (fun hc2 => ?_)
    · have hf := itp hc2 hf
      exact b4_hold_29 C0  G (lv_sub hl [0, 1, 2] rfl) hf
    · have hf := itn hc2 hf
      refine lv_aload_n hx hb dX4_hold_15 rfl (lv_at hl 0 rfl) ?_
      refine lv_iload_n hx hb dX4_hold_16 rfl (lv_at hl 2 rfl) ?_
      refine go_i C0 G (runV_of (n := 1) (q0 := 0) (As := [.int v2]) (rest := []) C0 G (c4_isVisitor hX rfl) q261 q49 q258 q260 q1 o4_isVisitor ⟨rfl, rfl⟩ ⟨Nat.le_of_ble_eq_true rfl, Nat.le_of_ble_eq_true rfl⟩ rfl rfl rfl hl.1 rfl (Nat.le_of_ble_eq_true rfl) dX4_hold_17) (fun H locs G => ?_)
      refine lv_if_ne (tgt := 29) hx hb dX4_hold_20 (by decide) (fun hc3 => ?_) (fun hc3 => ?_)
      · have hf := itn hc3 hf
        exact b4_hold_29 C0  G (lv_sub hl [0, 1, 2] rfl) hf
      · have hf := itp hc3 hf
        exact b4_hold_23 C0  G (lv_sub hl [0] rfl) hf
theorem o4_hold : okName yX4_hold 2 := ⟨by decide, by decide, by decide +kernel⟩
set_option maxHeartbeats 4000000 in
set_option maxRecDepth 100000 in
theorem c4_hold {ta adK adV : Nat → Nat} (hX : XT (XS ta adK adV)) {l : Launch} {D : va_G} {cI cB cG cS : ClassId} {ad : Nat → Nat} {sz : Nat} {hp1 : Nat → Int32} {st1 : Nat → Int32} {tr1 : Nat → Nat → Int32} {sp1 : Nat → Int32} {vis1 : Int32} {day1 : Int32} {z1 : Int32} {hp2 : Nat → Int32} {st2 : Nat → Int32} {tr2 : Nat → Nat → Int32} {sp2 : Nat → Int32} {vis2 : Int32} {day2 : Int32} {z2 : Int32} {hp3 : Nat → Int32} {st3 : Nat → Int32} {tr3 : Nat → Nat → Int32} {sp3 : Nat → Int32} {vis3 : Int32} {day3 : Int32} {z3 : Int32} {tb : Nat → Int32} {tl : Int32} {rtok : Int32} {rbg : Int32} {ren : Int32} {rvl : Int32} {shn : Nat → Nat → Int32} {shb : Nat → Int32} {shz : Nat → Int32} {fd : Nat → Int32} {isK : Int32} {v1 : Int32} {v2 : Int32} {r0 : Int32} {o_sp1 : Nat → Int32} {o_fd : Nat → Int32} (hf : f4_hold sp1 vis1 fd v1 v2 = some (r0, o_sp1, o_fd)) : Met l yX4_hold (wU yX4_hold cX4_hold 3 (some .int)) ({ frames := 2, cells := 0, slots := 0, locals := 43 }) (va_Pc [.ref (ad 0), .int v1, .int v2] (PreW (XS ta adK adV) D (tyC cI cB cG cS) (wS cI cB cG cS ad hp1 st1 tr1 sp1 vis1 day1 z1 hp2 st2 tr2 sp2 vis2 day2 z2 hp3 st3 tr3 sp3 vis3 day3 z3 tb tl rtok rbg ren rvl shn shb shz fd isK) sz)) (QcI D (tyC cI cB cG cS) (wS cI cB cG cS ad hp1 st1 tr1 o_sp1 vis1 day1 z1 hp2 st2 tr2 sp2 vis2 day2 z2 hp3 st3 tr3 sp3 vis3 day3 z3 tb tl rtok rbg ren rvl shn shb shz o_fd isK) (va_A (wS cI cB cG cS ad hp1 st1 tr1 sp1 vis1 day1 z1 hp2 st2 tr2 sp2 vis2 day2 z2 hp3 st3 tr3 sp3 vis3 day3 z3 tb tl rtok rbg ren rvl shn shb shz fd isK) sz) r0) 0 0 (va_A (wS cI cB cG cS ad hp1 st1 tr1 sp1 vis1 day1 z1 hp2 st2 tr2 sp2 vis2 day2 z2 hp3 st3 tr3 sp3 vis3 day3 z3 tb tl rtok rbg ren rvl shn shb shz fd isK) sz) := by
  refine startW hX (own := RX4) (by decide) rfl (Nat.le_of_ble_eq_true rfl) (fun p e s m args below meth c ls C0 G hl => ?_)
  exact b4_hold_0 C0 G hl hf
