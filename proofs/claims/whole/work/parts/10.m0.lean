/-! 5_in1 -/
theorem dX5_in1_0 : decode cX5_in1 0 = .ok (.iload_n 0, 1) := by decide +kernel
theorem dX5_in1_1 : decode cX5_in1 1 = .ok (.iload_n 1, 1) := by decide +kernel
theorem dX5_in1_2 : decode cX5_in1 2 = .ok (.if_icmp .lt 12, 3) := by decide +kernel
theorem dX5_in1_5 : decode cX5_in1 5 = .ok (.iload_n 0, 1) := by decide +kernel
theorem dX5_in1_6 : decode cX5_in1 6 = .ok (.iload_n 2, 1) := by decide +kernel
theorem dX5_in1_7 : decode cX5_in1 7 = .ok (.if_icmp .gt 7, 3) := by decide +kernel
theorem dX5_in1_10 : decode cX5_in1 10 = .ok (.iconst 1, 1) := by decide +kernel
theorem dX5_in1_11 : decode cX5_in1 11 = .ok (.goto 4, 3) := by decide +kernel
theorem dX5_in1_14 : decode cX5_in1 14 = .ok (.iconst 0, 1) := by decide +kernel
theorem dX5_in1_15 : decode cX5_in1 15 = .ok (.ireturn, 1) := by decide +kernel
def f5_in1  (v0 : Int32) (v1 : Int32) (v2 : Int32) : Int32 :=
  if v0 < v1 then (
    (0 : Int32))
  else (
    if v2 < v0 then (
      (0 : Int32))
    else (
      (1 : Int32)))
set_option maxHeartbeats 4000000 in
set_option maxRecDepth 100000 in
theorem b5_in1_0 {X : XP} {p : Program} {l : Launch} {e : Env} {s : State} {m : MethodId} {args : Array Value} {below : List Frame} {meth : Method} {c : Code} {D : va_G} {cI cC : ClassId} {ad : Nat → Nat} {A : Nat → Prop} {xs : Nat → Int32} {xkept : Nat → Int32} {xaside : Nat → Int32} {xisK : Int32} {xfound : Nat → Int32} {xgone : Int32} {xover : Nat → Int32} {xtape : Nat → Int32} {xtaped : Int32} {xtok : Int32} {xbeg : Int32} {xend : Int32} {xval : Int64} {xwid : Nat → Int32} {xsiz : Nat → Int32} {xcel : Nat → Int32} {xcar : Nat → Int32} {r0 : Int32} (C0 : CX X p s m args meth c cX5_in1 3 (some .boolean) RX5 A) : ∀ {v0 : Int32} {v1 : Int32} {v2 : Int32} {H : Heap} {locs : List Loc} {ls : Array Slot}, GX X D (tyM cI cC) A s (wM cI cC ad xs xkept xaside xisK xfound xgone xover xtape xtaped xtok xbeg xend xval xwid xsiz xcel xcar) H locs → lv_has ls 3 [(0, .int v0), (1, .int v1), (2, .int v2)] → f5_in1 v0 v1 v2 = r0 → W p l e ({ frames := 0, cells := 0, slots := 0, locals := 0 }) s m args below meth c H locs 0 0 (MQ below (QcI D (tyM cI cC) (wM cI cC ad xs xkept xaside xisK xfound xgone xover xtape xtaped xtok xbeg xend xval xwid xsiz xcel xcar) A r0) args s 0 0 A) (F0 m 0 ls []) := by
  have hx := C0.1
  have hb := C0.2.1
  have hown := C0.2.2.2.2.1
  have hts := C0.2.2.2.2.2.1
  have hX := C0.2.2.2.2.2.2.2.2
  intro v0 v1 v2 H locs ls G hl hf
  unfold f5_in1 at hf
  refine lv_iload_n hx hb dX5_in1_0 rfl (lv_at hl 0 rfl) ?_
  refine lv_iload_n hx hb dX5_in1_1 rfl (lv_at hl 1 rfl) ?_
  refine lv_icmp_lt (tgt := 14) hx hb dX5_in1_2 (by decide) (fun hc1 => ?_) (fun hc1 => ?_)
  · have hf := itp hc1 hf
    refine lv_iconst (v := (0 : Int32)) hx hb dX5_in1_14 (by decide) ?_
    obtain rfl := tnj1 hf
    exact ret_z C0 G rfl dX5_in1_15
  · have hf := itn hc1 hf
    refine lv_iload_n hx hb dX5_in1_5 rfl (lv_at hl 0 rfl) ?_
    refine lv_iload_n hx hb dX5_in1_6 rfl (lv_at hl 2 rfl) ?_
    refine lv_icmp_gt (tgt := 14) hx hb dX5_in1_7 (by decide) (fun hc2 => ?_) (fun hc2 => ?_)
    · have hf := itp hc2 hf
      refine lv_iconst (v := (0 : Int32)) hx hb dX5_in1_14 (by decide) ?_
      obtain rfl := tnj1 hf
      exact ret_z C0 G rfl dX5_in1_15
    · have hf := itn hc2 hf
      refine lv_iconst (v := (1 : Int32)) hx hb dX5_in1_10 (by decide) ?_
      refine lv_goto (tgt := 15) hx hb dX5_in1_11 (by decide) ?_
      obtain rfl := tnj1 hf
      exact ret_z C0 G rfl dX5_in1_15
theorem z5_in1  (v0 : Int32) (v1 : Int32) (v2 : Int32) : b01 (f5_in1 v0 v1 v2) = true := by
  unfold f5_in1
  (repeat' split) <;> first | rfl
theorem o5_in1 : okName yX5_in1 3 := ⟨by decide, by decide, by decide +kernel⟩
set_option maxHeartbeats 4000000 in
set_option maxRecDepth 100000 in
theorem c5_in1 {X : XP} (hX : XT X) {l : Launch} {D : va_G} {cI cC : ClassId} {ad : Nat → Nat} {sz : Nat} {xs : Nat → Int32} {xkept : Nat → Int32} {xaside : Nat → Int32} {xisK : Int32} {xfound : Nat → Int32} {xgone : Int32} {xover : Nat → Int32} {xtape : Nat → Int32} {xtaped : Int32} {xtok : Int32} {xbeg : Int32} {xend : Int32} {xval : Int64} {xwid : Nat → Int32} {xsiz : Nat → Int32} {xcel : Nat → Int32} {xcar : Nat → Int32} {v0 : Int32} {v1 : Int32} {v2 : Int32} {r0 : Int32} (hf : f5_in1 v0 v1 v2 = r0) : Met l yX5_in1 (wU yX5_in1 cX5_in1 3 (some .boolean)) ({ frames := 0, cells := 0, slots := 0, locals := 0 }) (va_Pc [.int v0, .int v1, .int v2] (PreW X D (tyM cI cC) (wM cI cC ad xs xkept xaside xisK xfound xgone xover xtape xtaped xtok xbeg xend xval xwid xsiz xcel xcar) sz)) (QcI D (tyM cI cC) (wM cI cC ad xs xkept xaside xisK xfound xgone xover xtape xtaped xtok xbeg xend xval xwid xsiz xcel xcar) (va_A (wM cI cC ad xs xkept xaside xisK xfound xgone xover xtape xtaped xtok xbeg xend xval xwid xsiz xcel xcar) sz) r0) 0 0 (va_A (wM cI cC ad xs xkept xaside xisK xfound xgone xover xtape xtaped xtok xbeg xend xval xwid xsiz xcel xcar) sz) := by
  refine startW hX (own := RX5) (by decide) rfl (Nat.le_of_ble_eq_true rfl) (fun p e s m args below meth c ls C0 G hl => ?_)
  exact b5_in1_0 C0 G hl hf
/-! 5_isCell -/
theorem dX5_isCell_0 : decode cX5_isCell 0 = .ok (.iload_n 0, 1) := by decide +kernel
theorem dX5_isCell_1 : decode cX5_isCell 1 = .ok (.iconst 0, 1) := by decide +kernel
theorem dX5_isCell_2 : decode cX5_isCell 2 = .ok (.bipush 15, 2) := by decide +kernel
theorem dX5_isCell_4 : decode cX5_isCell 4 = .ok (.invokestatic 51, 3) := by decide +kernel
theorem dX5_isCell_7 : decode cX5_isCell 7 = .ok (.ireturn, 1) := by decide +kernel
def f5_isCell  (v0 : Int32) : Int32 :=
  (f5_in1 v0 (0 : Int32) (15 : Int32))
set_option maxHeartbeats 4000000 in
set_option maxRecDepth 100000 in
theorem b5_isCell_0 {X : XP} {p : Program} {l : Launch} {e : Env} {s : State} {m : MethodId} {args : Array Value} {below : List Frame} {meth : Method} {c : Code} {D : va_G} {cI cC : ClassId} {ad : Nat → Nat} {A : Nat → Prop} {xs : Nat → Int32} {xkept : Nat → Int32} {xaside : Nat → Int32} {xisK : Int32} {xfound : Nat → Int32} {xgone : Int32} {xover : Nat → Int32} {xtape : Nat → Int32} {xtaped : Int32} {xtok : Int32} {xbeg : Int32} {xend : Int32} {xval : Int64} {xwid : Nat → Int32} {xsiz : Nat → Int32} {xcel : Nat → Int32} {xcar : Nat → Int32} {r0 : Int32} (C0 : CX X p s m args meth c cX5_isCell 1 (some .boolean) RX5 A) : ∀ {v0 : Int32} {H : Heap} {locs : List Loc} {ls : Array Slot}, GX X D (tyM cI cC) A s (wM cI cC ad xs xkept xaside xisK xfound xgone xover xtape xtaped xtok xbeg xend xval xwid xsiz xcel xcar) H locs → lv_has ls 1 [(0, .int v0)] → f5_isCell v0 = r0 → W p l e ({ frames := 1, cells := 0, slots := 0, locals := 22 }) s m args below meth c H locs 0 0 (MQ below (QcI D (tyM cI cC) (wM cI cC ad xs xkept xaside xisK xfound xgone xover xtape xtaped xtok xbeg xend xval xwid xsiz xcel xcar) A r0) args s 0 0 A) (F0 m 0 ls []) := by
  have hx := C0.1
  have hb := C0.2.1
  have hown := C0.2.2.2.2.1
  have hts := C0.2.2.2.2.2.1
  have hX := C0.2.2.2.2.2.2.2.2
  intro v0 H locs ls G hl hf
  unfold f5_isCell at hf
  refine lv_iload_n hx hb dX5_isCell_0 rfl (lv_at hl 0 rfl) ?_
  refine lv_iconst (v := (0 : Int32)) hx hb dX5_isCell_1 (by decide) ?_
  refine lv_bipush (v := (15 : Int32)) hx hb dX5_isCell_2 (by decide) ?_
  refine go_i C0 G (runS_of (n := 3) (As := [.int v0, .int (0 : Int32), .int (15 : Int32)]) (rest := []) C0 G (c5_in1 hX rfl) q784 q54 q782 q783 o5_in1 ⟨rfl, rfl⟩ ⟨Nat.le_of_ble_eq_true rfl, Nat.le_of_ble_eq_true rfl⟩ rfl hl.1 rfl (Nat.le_of_ble_eq_true rfl) dX5_isCell_4) (fun H locs G => ?_)
  obtain rfl := tnj1 hf
  exact ret_z C0 G (b01_n (z5_in1 _ _ _)) dX5_isCell_7
theorem z5_isCell  (v0 : Int32) : b01 (f5_isCell v0) = true := by
  unfold f5_isCell
  (repeat' split) <;> first | rfl | exact z5_in1 _ _ _
theorem o5_isCell : okName yX5_isCell 1 := ⟨by decide, by decide, by decide +kernel⟩
set_option maxHeartbeats 4000000 in
set_option maxRecDepth 100000 in
theorem c5_isCell {X : XP} (hX : XT X) {l : Launch} {D : va_G} {cI cC : ClassId} {ad : Nat → Nat} {sz : Nat} {xs : Nat → Int32} {xkept : Nat → Int32} {xaside : Nat → Int32} {xisK : Int32} {xfound : Nat → Int32} {xgone : Int32} {xover : Nat → Int32} {xtape : Nat → Int32} {xtaped : Int32} {xtok : Int32} {xbeg : Int32} {xend : Int32} {xval : Int64} {xwid : Nat → Int32} {xsiz : Nat → Int32} {xcel : Nat → Int32} {xcar : Nat → Int32} {v0 : Int32} {r0 : Int32} (hf : f5_isCell v0 = r0) : Met l yX5_isCell (wU yX5_isCell cX5_isCell 1 (some .boolean)) ({ frames := 1, cells := 0, slots := 0, locals := 22 }) (va_Pc [.int v0] (PreW X D (tyM cI cC) (wM cI cC ad xs xkept xaside xisK xfound xgone xover xtape xtaped xtok xbeg xend xval xwid xsiz xcel xcar) sz)) (QcI D (tyM cI cC) (wM cI cC ad xs xkept xaside xisK xfound xgone xover xtape xtaped xtok xbeg xend xval xwid xsiz xcel xcar) (va_A (wM cI cC ad xs xkept xaside xisK xfound xgone xover xtape xtaped xtok xbeg xend xval xwid xsiz xcel xcar) sz) r0) 0 0 (va_A (wM cI cC ad xs xkept xaside xisK xfound xgone xover xtape xtaped xtok xbeg xend xval xwid xsiz xcel xcar) sz) := by
  refine startW hX (own := RX5) (by decide) rfl (Nat.le_of_ble_eq_true rfl) (fun p e s m args below meth c ls C0 G hl => ?_)
  exact b5_isCell_0 C0 G hl hf
/-! 5_no -/
theorem dX5_no_0 : decode cX5_no 0 = .ok (.aload_n 0, 1) := by decide +kernel
theorem dX5_no_1 : decode cX5_no 1 = .ok (.getfield 19, 3) := by decide +kernel
theorem dX5_no_4 : decode cX5_no 4 = .ok (.iload_n 1, 1) := by decide +kernel
theorem dX5_no_5 : decode cX5_no 5 = .ok (.dup2, 1) := by decide +kernel
theorem dX5_no_6 : decode cX5_no 6 = .ok (.iaload, 1) := by decide +kernel
theorem dX5_no_7 : decode cX5_no 7 = .ok (.iconst 1, 1) := by decide +kernel
theorem dX5_no_8 : decode cX5_no 8 = .ok (.iadd, 1) := by decide +kernel
theorem dX5_no_9 : decode cX5_no 9 = .ok (.iastore, 1) := by decide +kernel
theorem dX5_no_10 : decode cX5_no 10 = .ok (.ldc 50, 2) := by decide +kernel
theorem dX5_no_12 : decode cX5_no 12 = .ok (.iload_n 1, 1) := by decide +kernel
theorem dX5_no_13 : decode cX5_no 13 = .ok (.isub, 1) := by decide +kernel
theorem dX5_no_14 : decode cX5_no 14 = .ok (.ireturn, 1) := by decide +kernel
def f5_no (xfound : Nat → Int32) (v1 : Int32) : Option (Int32 × (Nat → Int32)) :=
  gd (inb v1 7) (
  gd (inb v1 7) (
  some (((-1000001 : Int32) - v1), (upd xfound v1.toNatClampNeg ((xfound v1.toNatClampNeg) + (1 : Int32))))))
set_option maxHeartbeats 4000000 in
set_option maxRecDepth 100000 in
theorem b5_no_0 {X : XP} {p : Program} {l : Launch} {e : Env} {s : State} {m : MethodId} {args : Array Value} {below : List Frame} {meth : Method} {c : Code} {D : va_G} {cI cC : ClassId} {ad : Nat → Nat} {A : Nat → Prop} {xs : Nat → Int32} {xkept : Nat → Int32} {xaside : Nat → Int32} {xisK : Int32} {xgone : Int32} {xover : Nat → Int32} {xtape : Nat → Int32} {xtaped : Int32} {xtok : Int32} {xbeg : Int32} {xend : Int32} {xval : Int64} {xwid : Nat → Int32} {xsiz : Nat → Int32} {xcel : Nat → Int32} {xcar : Nat → Int32} {r0 : Int32} {o_xfound : Nat → Int32} (C0 : CX X p s m args meth c cX5_no 2 (some .int) RX5 A) : ∀ {xfound : Nat → Int32} {v1 : Int32} {H : Heap} {locs : List Loc} {ls : Array Slot}, GX X D (tyM cI cC) A s (wM cI cC ad xs xkept xaside xisK xfound xgone xover xtape xtaped xtok xbeg xend xval xwid xsiz xcel xcar) H locs → lv_has ls 2 [(0, .ref (ad 0)), (1, .int v1)] → f5_no xfound v1 = some (r0, o_xfound) → W p l e ({ frames := 0, cells := 0, slots := 0, locals := 0 }) s m args below meth c H locs 0 0 (MQ below (QcI D (tyM cI cC) (wM cI cC ad xs xkept xaside xisK o_xfound xgone xover xtape xtaped xtok xbeg xend xval xwid xsiz xcel xcar) A r0) args s 0 0 A) (F0 m 0 ls []) := by
  have hx := C0.1
  have hb := C0.2.1
  have hown := C0.2.2.2.2.1
  have hts := C0.2.2.2.2.2.1
  have hX := C0.2.2.2.2.2.2.2.2
  intro xfound v1 H locs ls G hl hf
  unfold f5_no at hf
  refine lv_aload_n hx hb dX5_no_0 rfl (lv_at hl 0 rfl) ?_
  refine s_get (C := RX5) (T := TX5) C0 G i_X5 0 4 rfl rfl (by decide) q717 rfl dX5_no_1 ?_
  refine lv_iload_n hx hb dX5_no_4 rfl (lv_at hl 1 rfl) ?_
  refine lv_dup2_11 hx hb dX5_no_5 rfl rfl ?_
  obtain ⟨hi1, hf⟩ := gd_s hf
  refine s_iald (k := v1.toNatClampNeg) C0 G 4 0 rfl rfl (vin hi1) rfl dX5_no_6 ?_
  refine lv_iconst (v := (1 : Int32)) hx hb dX5_no_7 (by decide) ?_
  refine lv_iadd hx hb dX5_no_8 ?_
  obtain ⟨hi2, hf⟩ := gd_s hf
  refine s_iast (k := v1.toNatClampNeg) (w' := (wM cI cC ad xs xkept xaside xisK (upd xfound v1.toNatClampNeg ((xfound v1.toNatClampNeg) + (1 : Int32))) xgone xover xtape xtaped xtok xbeg xend xval xwid xsiz xcel xcar)) C0 G 4 0 rfl rfl (vin hi2) rfl rfl dX5_no_9 (fun H locs G => ?_)
  refine lv_ldc (v := (-1000001 : Int32)) hx hb hown (hts _ q789) dX5_no_10 ?_
  refine lv_iload_n hx hb dX5_no_12 rfl (lv_at hl 1 rfl) ?_
  refine lv_isub hx hb dX5_no_13 ?_
  obtain ⟨rfl, rfl⟩ := inj2 hf
  exact ret_i C0 G dX5_no_14
theorem o5_no : okName yX5_no 1 := ⟨by decide, by decide, by decide +kernel⟩
set_option maxHeartbeats 4000000 in
set_option maxRecDepth 100000 in
theorem c5_no {X : XP} (hX : XT X) {l : Launch} {D : va_G} {cI cC : ClassId} {ad : Nat → Nat} {sz : Nat} {xs : Nat → Int32} {xkept : Nat → Int32} {xaside : Nat → Int32} {xisK : Int32} {xfound : Nat → Int32} {xgone : Int32} {xover : Nat → Int32} {xtape : Nat → Int32} {xtaped : Int32} {xtok : Int32} {xbeg : Int32} {xend : Int32} {xval : Int64} {xwid : Nat → Int32} {xsiz : Nat → Int32} {xcel : Nat → Int32} {xcar : Nat → Int32} {v1 : Int32} {r0 : Int32} {o_xfound : Nat → Int32} (hf : f5_no xfound v1 = some (r0, o_xfound)) : Met l yX5_no (wU yX5_no cX5_no 2 (some .int)) ({ frames := 0, cells := 0, slots := 0, locals := 0 }) (va_Pc [.ref (ad 0), .int v1] (PreW X D (tyM cI cC) (wM cI cC ad xs xkept xaside xisK xfound xgone xover xtape xtaped xtok xbeg xend xval xwid xsiz xcel xcar) sz)) (QcI D (tyM cI cC) (wM cI cC ad xs xkept xaside xisK o_xfound xgone xover xtape xtaped xtok xbeg xend xval xwid xsiz xcel xcar) (va_A (wM cI cC ad xs xkept xaside xisK xfound xgone xover xtape xtaped xtok xbeg xend xval xwid xsiz xcel xcar) sz) r0) 0 0 (va_A (wM cI cC ad xs xkept xaside xisK xfound xgone xover xtape xtaped xtok xbeg xend xval xwid xsiz xcel xcar) sz) := by
  refine startW hX (own := RX5) (by decide) rfl (Nat.le_of_ble_eq_true rfl) (fun p e s m args below meth c ls C0 G hl => ?_)
  exact b5_no_0 C0 G hl hf
/-! 5_sand -/
theorem dX5_sand_0 : decode cX5_sand 0 = .ok (.iload_n 1, 1) := by decide +kernel
theorem dX5_sand_1 : decode cX5_sand 1 = .ok (.invokestatic 59, 3) := by decide +kernel
theorem dX5_sand_4 : decode cX5_sand 4 = .ok (.ifCond .eq 13, 3) := by decide +kernel
theorem dX5_sand_7 : decode cX5_sand 7 = .ok (.iload_n 2, 1) := by decide +kernel
theorem dX5_sand_8 : decode cX5_sand 8 = .ok (.iconst 0, 1) := by decide +kernel
theorem dX5_sand_9 : decode cX5_sand 9 = .ok (.bipush 30, 2) := by decide +kernel
theorem dX5_sand_11 : decode cX5_sand 11 = .ok (.invokestatic 51, 3) := by decide +kernel
theorem dX5_sand_14 : decode cX5_sand 14 = .ok (.ifCond .ne 9, 3) := by decide +kernel
theorem dX5_sand_17 : decode cX5_sand 17 = .ok (.aload_n 0, 1) := by decide +kernel
theorem dX5_sand_18 : decode cX5_sand 18 = .ok (.iconst 0, 1) := by decide +kernel
theorem dX5_sand_19 : decode cX5_sand 19 = .ok (.invokevirtual 105, 3) := by decide +kernel
theorem dX5_sand_22 : decode cX5_sand 22 = .ok (.ireturn, 1) := by decide +kernel
theorem dX5_sand_23 : decode cX5_sand 23 = .ok (.aload_n 0, 1) := by decide +kernel
theorem dX5_sand_24 : decode cX5_sand 24 = .ok (.getfield 9, 3) := by decide +kernel
theorem dX5_sand_27 : decode cX5_sand 27 = .ok (.bipush 6, 2) := by decide +kernel
theorem dX5_sand_29 : decode cX5_sand 29 = .ok (.iload_n 1, 1) := by decide +kernel
theorem dX5_sand_30 : decode cX5_sand 30 = .ok (.iadd, 1) := by decide +kernel
theorem dX5_sand_31 : decode cX5_sand 31 = .ok (.iaload, 1) := by decide +kernel
theorem dX5_sand_32 : decode cX5_sand 32 = .ok (.istore_n 3, 1) := by decide +kernel
theorem dX5_sand_33 : decode cX5_sand 33 = .ok (.aload_n 0, 1) := by decide +kernel
theorem dX5_sand_34 : decode cX5_sand 34 = .ok (.getfield 9, 3) := by decide +kernel
theorem dX5_sand_37 : decode cX5_sand 37 = .ok (.bipush 6, 2) := by decide +kernel
theorem dX5_sand_39 : decode cX5_sand 39 = .ok (.iload_n 1, 1) := by decide +kernel
theorem dX5_sand_40 : decode cX5_sand 40 = .ok (.iadd, 1) := by decide +kernel
theorem dX5_sand_41 : decode cX5_sand 41 = .ok (.iload_n 2, 1) := by decide +kernel
theorem dX5_sand_42 : decode cX5_sand 42 = .ok (.iastore, 1) := by decide +kernel
theorem dX5_sand_43 : decode cX5_sand 43 = .ok (.iload_n 3, 1) := by decide +kernel
theorem dX5_sand_44 : decode cX5_sand 44 = .ok (.ireturn, 1) := by decide +kernel
def j5_sand_17  (xs : Nat → Int32) (xfound : Nat → Int32)  : Option (Int32 × (Nat → Int32) × (Nat → Int32)) :=
  ob2 (f5_no xfound (0 : Int32)) (fun r5 xfound_6 =>
  some (r5, xs, xfound_6))
def f5_sand (xs : Nat → Int32) (xfound : Nat → Int32) (v1 : Int32) (v2 : Int32) : Option (Int32 × (Nat → Int32) × (Nat → Int32)) :=
  if (f5_isCell v1) = (0 : Int32) then (
    j5_sand_17 xs xfound)
  else (
    if (f5_in1 v2 (0 : Int32) (30 : Int32)) = (0 : Int32) then (
      j5_sand_17 xs xfound)
    else (
      gd (inb ((6 : Int32) + v1) 88) (
      gd (inb ((6 : Int32) + v1) 88) (
      some ((xs (((6 : Int32) + v1).toNatClampNeg)), (upd xs (((6 : Int32) + v1).toNatClampNeg) v2), xfound)))))
set_option maxHeartbeats 4000000 in
set_option maxRecDepth 100000 in
theorem b5_sand_17 {X : XP} {p : Program} {l : Launch} {e : Env} {s : State} {m : MethodId} {args : Array Value} {below : List Frame} {meth : Method} {c : Code} {D : va_G} {cI cC : ClassId} {ad : Nat → Nat} {A : Nat → Prop} {xkept : Nat → Int32} {xaside : Nat → Int32} {xisK : Int32} {xgone : Int32} {xover : Nat → Int32} {xtape : Nat → Int32} {xtaped : Int32} {xtok : Int32} {xbeg : Int32} {xend : Int32} {xval : Int64} {xwid : Nat → Int32} {xsiz : Nat → Int32} {xcel : Nat → Int32} {xcar : Nat → Int32} {r0 : Int32} {o_xs : Nat → Int32} {o_xfound : Nat → Int32} (C0 : CX X p s m args meth c cX5_sand 4 (some .int) RX5 A) : ∀ {xs : Nat → Int32} {xfound : Nat → Int32} {H : Heap} {locs : List Loc} {ls : Array Slot}, GX X D (tyM cI cC) A s (wM cI cC ad xs xkept xaside xisK xfound xgone xover xtape xtaped xtok xbeg xend xval xwid xsiz xcel xcar) H locs → lv_has ls 4 [(0, .ref (ad 0))] → j5_sand_17  xs xfound = some (r0, o_xs, o_xfound) → W p l e ({ frames := 2, cells := 0, slots := 0, locals := 42 }) s m args below meth c H locs 0 0 (MQ below (QcI D (tyM cI cC) (wM cI cC ad o_xs xkept xaside xisK o_xfound xgone xover xtape xtaped xtok xbeg xend xval xwid xsiz xcel xcar) A r0) args s 0 0 A) (F0 m 17 ls []) := by
  have hx := C0.1
  have hb := C0.2.1
  have hown := C0.2.2.2.2.1
  have hts := C0.2.2.2.2.2.1
  have hX := C0.2.2.2.2.2.2.2.2
  intro xs xfound H locs ls G hl hf
  unfold j5_sand_17 at hf
  refine lv_aload_n hx hb dX5_sand_17 rfl (lv_at hl 0 rfl) ?_
  refine lv_iconst (v := (0 : Int32)) hx hb dX5_sand_18 (by decide) ?_
  obtain ⟨r5, xfound_6, hc7, hf⟩ := ob2_s hf
  refine go_i C0 G (runV_of (n := 1) (q0 := 0) (As := [.int (0 : Int32)]) (rest := []) C0 G (c5_no hX hc7) q788 q54 q785 q787 q9 o5_no ⟨rfl, rfl⟩ ⟨Nat.le_of_ble_eq_true rfl, Nat.le_of_ble_eq_true rfl⟩ rfl rfl rfl hl.1 rfl (Nat.le_of_ble_eq_true rfl) dX5_sand_19) (fun H locs G => ?_)
  obtain ⟨rfl, rfl, rfl⟩ := inj3 hf
  exact ret_i C0 G dX5_sand_22
set_option maxHeartbeats 4000000 in
set_option maxRecDepth 100000 in
theorem b5_sand_0 {X : XP} {p : Program} {l : Launch} {e : Env} {s : State} {m : MethodId} {args : Array Value} {below : List Frame} {meth : Method} {c : Code} {D : va_G} {cI cC : ClassId} {ad : Nat → Nat} {A : Nat → Prop} {xkept : Nat → Int32} {xaside : Nat → Int32} {xisK : Int32} {xgone : Int32} {xover : Nat → Int32} {xtape : Nat → Int32} {xtaped : Int32} {xtok : Int32} {xbeg : Int32} {xend : Int32} {xval : Int64} {xwid : Nat → Int32} {xsiz : Nat → Int32} {xcel : Nat → Int32} {xcar : Nat → Int32} {r0 : Int32} {o_xs : Nat → Int32} {o_xfound : Nat → Int32} (C0 : CX X p s m args meth c cX5_sand 4 (some .int) RX5 A) : ∀ {xs : Nat → Int32} {xfound : Nat → Int32} {v1 : Int32} {v2 : Int32} {H : Heap} {locs : List Loc} {ls : Array Slot}, GX X D (tyM cI cC) A s (wM cI cC ad xs xkept xaside xisK xfound xgone xover xtape xtaped xtok xbeg xend xval xwid xsiz xcel xcar) H locs → lv_has ls 4 [(0, .ref (ad 0)), (1, .int v1), (2, .int v2)] → f5_sand xs xfound v1 v2 = some (r0, o_xs, o_xfound) → W p l e ({ frames := 2, cells := 0, slots := 0, locals := 42 }) s m args below meth c H locs 0 0 (MQ below (QcI D (tyM cI cC) (wM cI cC ad o_xs xkept xaside xisK o_xfound xgone xover xtape xtaped xtok xbeg xend xval xwid xsiz xcel xcar) A r0) args s 0 0 A) (F0 m 0 ls []) := by
  have hx := C0.1
  have hb := C0.2.1
  have hown := C0.2.2.2.2.1
  have hts := C0.2.2.2.2.2.1
  have hX := C0.2.2.2.2.2.2.2.2
  intro xs xfound v1 v2 H locs ls G hl hf
  unfold f5_sand at hf
  refine lv_iload_n hx hb dX5_sand_0 rfl (lv_at hl 1 rfl) ?_
  refine go_i C0 G (runS_of (n := 1) (As := [.int v1]) (rest := []) C0 G (c5_isCell hX rfl) q781 q54 q779 q780 o5_isCell ⟨rfl, rfl⟩ ⟨Nat.le_of_ble_eq_true rfl, Nat.le_of_ble_eq_true rfl⟩ rfl hl.1 rfl (Nat.le_of_ble_eq_true rfl) dX5_sand_1) (fun H locs G => ?_)
  refine lv_if_eq (tgt := 17) hx hb dX5_sand_4 (by decide) (fun hc1 => ?_) (fun hc1 => ?_)
  · have hf := itp hc1 hf
    exact b5_sand_17 C0  G (lv_sub hl [0] rfl) hf
  · have hf := itn hc1 hf
    refine lv_iload_n hx hb dX5_sand_7 rfl (lv_at hl 2 rfl) ?_
    refine lv_iconst (v := (0 : Int32)) hx hb dX5_sand_8 (by decide) ?_
    refine lv_bipush (v := (30 : Int32)) hx hb dX5_sand_9 (by decide) ?_
    refine go_i C0 G (runS_of (n := 3) (As := [.int v2, .int (0 : Int32), .int (30 : Int32)]) (rest := []) C0 G (c5_in1 hX rfl) q784 q54 q782 q783 o5_in1 ⟨rfl, rfl⟩ ⟨Nat.le_of_ble_eq_true rfl, Nat.le_of_ble_eq_true rfl⟩ rfl hl.1 rfl (Nat.le_of_ble_eq_true rfl) dX5_sand_11) (fun H locs G => ?_)
    refine lv_if_ne (tgt := 23) hx hb dX5_sand_14 (by decide) (fun hc2 => ?_) (fun hc2 => ?_)
    · have hf := itn hc2 hf
      refine lv_aload_n hx hb dX5_sand_23 rfl (lv_at hl 0 rfl) ?_
      refine s_get (C := RX5) (T := TX5) C0 G i_X5 0 0 rfl rfl (by decide) q713 rfl dX5_sand_24 ?_
      refine lv_bipush (v := (6 : Int32)) hx hb dX5_sand_27 (by decide) ?_
      refine lv_iload_n hx hb dX5_sand_29 rfl (lv_at hl 1 rfl) ?_
      refine lv_iadd hx hb dX5_sand_30 ?_
      obtain ⟨hi3, hf⟩ := gd_s hf
      refine s_iald (k := ((6 : Int32) + v1).toNatClampNeg) C0 G 1 0 rfl rfl (vin hi3) rfl dX5_sand_31 ?_
      refine lv_istore_n (lv' := [(3, .int (xs (((6 : Int32) + v1).toNatClampNeg))), (0, .ref (ad 0)), (1, .int v1), (2, .int v2)]) hx hb dX5_sand_32 rfl hl (by decide) rfl (fun ls hl => ?_)
      refine lv_aload_n hx hb dX5_sand_33 rfl (lv_at hl 1 rfl) ?_
      refine s_get (C := RX5) (T := TX5) C0 G i_X5 0 0 rfl rfl (by decide) q713 rfl dX5_sand_34 ?_
      refine lv_bipush (v := (6 : Int32)) hx hb dX5_sand_37 (by decide) ?_
      refine lv_iload_n hx hb dX5_sand_39 rfl (lv_at hl 2 rfl) ?_
      refine lv_iadd hx hb dX5_sand_40 ?_
      refine lv_iload_n hx hb dX5_sand_41 rfl (lv_at hl 3 rfl) ?_
      obtain ⟨hi4, hf⟩ := gd_s hf
      refine s_iast (k := ((6 : Int32) + v1).toNatClampNeg) (w' := (wM cI cC ad (upd xs (((6 : Int32) + v1).toNatClampNeg) v2) xkept xaside xisK xfound xgone xover xtape xtaped xtok xbeg xend xval xwid xsiz xcel xcar)) C0 G 1 0 rfl rfl (vin hi4) rfl rfl dX5_sand_42 (fun H locs G => ?_)
      refine lv_iload_n hx hb dX5_sand_43 rfl (lv_at hl 0 rfl) ?_
      obtain ⟨rfl, rfl, rfl⟩ := inj3 hf
      exact ret_i C0 G dX5_sand_44
    · have hf := itp hc2 hf
      exact b5_sand_17 C0  G (lv_sub hl [0] rfl) hf
theorem o5_sand : okName yX5_sand 2 := ⟨by decide, by decide, by decide +kernel⟩
set_option maxHeartbeats 4000000 in
set_option maxRecDepth 100000 in
theorem c5_sand {X : XP} (hX : XT X) {l : Launch} {D : va_G} {cI cC : ClassId} {ad : Nat → Nat} {sz : Nat} {xs : Nat → Int32} {xkept : Nat → Int32} {xaside : Nat → Int32} {xisK : Int32} {xfound : Nat → Int32} {xgone : Int32} {xover : Nat → Int32} {xtape : Nat → Int32} {xtaped : Int32} {xtok : Int32} {xbeg : Int32} {xend : Int32} {xval : Int64} {xwid : Nat → Int32} {xsiz : Nat → Int32} {xcel : Nat → Int32} {xcar : Nat → Int32} {v1 : Int32} {v2 : Int32} {r0 : Int32} {o_xs : Nat → Int32} {o_xfound : Nat → Int32} (hf : f5_sand xs xfound v1 v2 = some (r0, o_xs, o_xfound)) : Met l yX5_sand (wU yX5_sand cX5_sand 4 (some .int)) ({ frames := 2, cells := 0, slots := 0, locals := 42 }) (va_Pc [.ref (ad 0), .int v1, .int v2] (PreW X D (tyM cI cC) (wM cI cC ad xs xkept xaside xisK xfound xgone xover xtape xtaped xtok xbeg xend xval xwid xsiz xcel xcar) sz)) (QcI D (tyM cI cC) (wM cI cC ad o_xs xkept xaside xisK o_xfound xgone xover xtape xtaped xtok xbeg xend xval xwid xsiz xcel xcar) (va_A (wM cI cC ad xs xkept xaside xisK xfound xgone xover xtape xtaped xtok xbeg xend xval xwid xsiz xcel xcar) sz) r0) 0 0 (va_A (wM cI cC ad xs xkept xaside xisK xfound xgone xover xtape xtaped xtok xbeg xend xval xwid xsiz xcel xcar) sz) := by
  refine startW hX (own := RX5) (by decide) rfl (Nat.le_of_ble_eq_true rfl) (fun p e s m args below meth c ls C0 G hl => ?_)
  exact b5_sand_0 C0 G hl hf
/-! 5_get -/
theorem dX5_get_0 : decode cX5_get 0 = .ok (.aload_n 0, 1) := by decide +kernel
theorem dX5_get_1 : decode cX5_get 1 = .ok (.getfield 9, 3) := by decide +kernel
theorem dX5_get_4 : decode cX5_get 4 = .ok (.bipush 22, 2) := by decide +kernel
theorem dX5_get_6 : decode cX5_get 6 = .ok (.bipush 7, 2) := by decide +kernel
theorem dX5_get_8 : decode cX5_get 8 = .ok (.iload_n 1, 1) := by decide +kernel
theorem dX5_get_9 : decode cX5_get 9 = .ok (.imul, 1) := by decide +kernel
theorem dX5_get_10 : decode cX5_get 10 = .ok (.iadd, 1) := by decide +kernel
theorem dX5_get_11 : decode cX5_get 11 = .ok (.iload_n 2, 1) := by decide +kernel
theorem dX5_get_12 : decode cX5_get 12 = .ok (.iadd, 1) := by decide +kernel
theorem dX5_get_13 : decode cX5_get 13 = .ok (.iaload, 1) := by decide +kernel
theorem dX5_get_14 : decode cX5_get 14 = .ok (.ireturn, 1) := by decide +kernel
def f5_get (xs : Nat → Int32) (v1 : Int32) (v2 : Int32) : Option (Int32) :=
  gd (inb (((22 : Int32) + ((7 : Int32) * v1)) + v2) 88) (
  some (xs ((((22 : Int32) + ((7 : Int32) * v1)) + v2).toNatClampNeg)))
set_option maxHeartbeats 4000000 in
set_option maxRecDepth 100000 in
theorem b5_get_0 {X : XP} {p : Program} {l : Launch} {e : Env} {s : State} {m : MethodId} {args : Array Value} {below : List Frame} {meth : Method} {c : Code} {D : va_G} {cI cC : ClassId} {ad : Nat → Nat} {A : Nat → Prop} {xs : Nat → Int32} {xkept : Nat → Int32} {xaside : Nat → Int32} {xisK : Int32} {xfound : Nat → Int32} {xgone : Int32} {xover : Nat → Int32} {xtape : Nat → Int32} {xtaped : Int32} {xtok : Int32} {xbeg : Int32} {xend : Int32} {xval : Int64} {xwid : Nat → Int32} {xsiz : Nat → Int32} {xcel : Nat → Int32} {xcar : Nat → Int32} {r0 : Int32} (C0 : CX X p s m args meth c cX5_get 3 (some .int) RX5 A) : ∀ {v1 : Int32} {v2 : Int32} {H : Heap} {locs : List Loc} {ls : Array Slot}, GX X D (tyM cI cC) A s (wM cI cC ad xs xkept xaside xisK xfound xgone xover xtape xtaped xtok xbeg xend xval xwid xsiz xcel xcar) H locs → lv_has ls 3 [(0, .ref (ad 0)), (1, .int v1), (2, .int v2)] → f5_get xs v1 v2 = some r0 → W p l e ({ frames := 0, cells := 0, slots := 0, locals := 0 }) s m args below meth c H locs 0 0 (MQ below (QcI D (tyM cI cC) (wM cI cC ad xs xkept xaside xisK xfound xgone xover xtape xtaped xtok xbeg xend xval xwid xsiz xcel xcar) A r0) args s 0 0 A) (F0 m 0 ls []) := by
  have hx := C0.1
  have hb := C0.2.1
  have hown := C0.2.2.2.2.1
  have hts := C0.2.2.2.2.2.1
  have hX := C0.2.2.2.2.2.2.2.2
  intro v1 v2 H locs ls G hl hf
  unfold f5_get at hf
  refine lv_aload_n hx hb dX5_get_0 rfl (lv_at hl 0 rfl) ?_
  refine s_get (C := RX5) (T := TX5) C0 G i_X5 0 0 rfl rfl (by decide) q713 rfl dX5_get_1 ?_
  refine lv_bipush (v := (22 : Int32)) hx hb dX5_get_4 (by decide) ?_
  refine lv_bipush (v := (7 : Int32)) hx hb dX5_get_6 (by decide) ?_
  refine lv_iload_n hx hb dX5_get_8 rfl (lv_at hl 1 rfl) ?_
  refine lv_imul hx hb dX5_get_9 ?_
  refine lv_iadd hx hb dX5_get_10 ?_
  refine lv_iload_n hx hb dX5_get_11 rfl (lv_at hl 2 rfl) ?_
  refine lv_iadd hx hb dX5_get_12 ?_
  obtain ⟨hi1, hf⟩ := gd_s hf
  refine s_iald (k := (((22 : Int32) + ((7 : Int32) * v1)) + v2).toNatClampNeg) C0 G 1 0 rfl rfl (vin hi1) rfl dX5_get_13 ?_
  obtain rfl := inj1 hf
  exact ret_i C0 G dX5_get_14
theorem o5_get : okName yX5_get 2 := ⟨by decide, by decide, by decide +kernel⟩
set_option maxHeartbeats 4000000 in
set_option maxRecDepth 100000 in
theorem c5_get {X : XP} (hX : XT X) {l : Launch} {D : va_G} {cI cC : ClassId} {ad : Nat → Nat} {sz : Nat} {xs : Nat → Int32} {xkept : Nat → Int32} {xaside : Nat → Int32} {xisK : Int32} {xfound : Nat → Int32} {xgone : Int32} {xover : Nat → Int32} {xtape : Nat → Int32} {xtaped : Int32} {xtok : Int32} {xbeg : Int32} {xend : Int32} {xval : Int64} {xwid : Nat → Int32} {xsiz : Nat → Int32} {xcel : Nat → Int32} {xcar : Nat → Int32} {v1 : Int32} {v2 : Int32} {r0 : Int32} (hf : f5_get xs v1 v2 = some r0) : Met l yX5_get (wU yX5_get cX5_get 3 (some .int)) ({ frames := 0, cells := 0, slots := 0, locals := 0 }) (va_Pc [.ref (ad 0), .int v1, .int v2] (PreW X D (tyM cI cC) (wM cI cC ad xs xkept xaside xisK xfound xgone xover xtape xtaped xtok xbeg xend xval xwid xsiz xcel xcar) sz)) (QcI D (tyM cI cC) (wM cI cC ad xs xkept xaside xisK xfound xgone xover xtape xtaped xtok xbeg xend xval xwid xsiz xcel xcar) (va_A (wM cI cC ad xs xkept xaside xisK xfound xgone xover xtape xtaped xtok xbeg xend xval xwid xsiz xcel xcar) sz) r0) 0 0 (va_A (wM cI cC ad xs xkept xaside xisK xfound xgone xover xtape xtaped xtok xbeg xend xval xwid xsiz xcel xcar) sz) := by
  refine startW hX (own := RX5) (by decide) rfl (Nat.le_of_ble_eq_true rfl) (fun p e s m args below meth c ls C0 G hl => ?_)
  exact b5_get_0 C0 G hl hf
/-! 5_spanOf -/
theorem dX5_spanOf_0 : decode cX5_spanOf 0 = .ok (.aload_n 0, 1) := by decide +kernel
theorem dX5_spanOf_1 : decode cX5_spanOf 1 = .ok (.iload_n 1, 1) := by decide +kernel
theorem dX5_spanOf_2 : decode cX5_spanOf 2 = .ok (.iconst 0, 1) := by decide +kernel
theorem dX5_spanOf_3 : decode cX5_spanOf 3 = .ok (.invokevirtual 55, 3) := by decide +kernel
theorem dX5_spanOf_6 : decode cX5_spanOf 6 = .ok (.istore_n 2, 1) := by decide +kernel
theorem dX5_spanOf_7 : decode cX5_spanOf 7 = .ok (.aload_n 0, 1) := by decide +kernel
theorem dX5_spanOf_8 : decode cX5_spanOf 8 = .ok (.iload_n 1, 1) := by decide +kernel
theorem dX5_spanOf_9 : decode cX5_spanOf 9 = .ok (.iconst 1, 1) := by decide +kernel
theorem dX5_spanOf_10 : decode cX5_spanOf 10 = .ok (.invokevirtual 55, 3) := by decide +kernel
theorem dX5_spanOf_13 : decode cX5_spanOf 13 = .ok (.istore_n 3, 1) := by decide +kernel
theorem dX5_spanOf_14 : decode cX5_spanOf 14 = .ok (.iload_n 2, 1) := by decide +kernel
theorem dX5_spanOf_15 : decode cX5_spanOf 15 = .ok (.iconst 5, 1) := by decide +kernel
theorem dX5_spanOf_16 : decode cX5_spanOf 16 = .ok (.if_icmp .ne 7, 3) := by decide +kernel
theorem dX5_spanOf_19 : decode cX5_spanOf 19 = .ok (.iconst 1, 1) := by decide +kernel
theorem dX5_spanOf_20 : decode cX5_spanOf 20 = .ok (.goto 9, 3) := by decide +kernel
theorem dX5_spanOf_23 : decode cX5_spanOf 23 = .ok (.aload_n 0, 1) := by decide +kernel
theorem dX5_spanOf_24 : decode cX5_spanOf 24 = .ok (.iload_n 1, 1) := by decide +kernel
theorem dX5_spanOf_25 : decode cX5_spanOf 25 = .ok (.iconst 2, 1) := by decide +kernel
theorem dX5_spanOf_26 : decode cX5_spanOf 26 = .ok (.invokevirtual 55, 3) := by decide +kernel
theorem dX5_spanOf_29 : decode cX5_spanOf 29 = .ok (.istore 4, 2) := by decide +kernel
theorem dX5_spanOf_31 : decode cX5_spanOf 31 = .ok (.iconst 0, 1) := by decide +kernel
theorem dX5_spanOf_32 : decode cX5_spanOf 32 = .ok (.istore 5, 2) := by decide +kernel
theorem dX5_spanOf_34 : decode cX5_spanOf 34 = .ok (.iconst 0, 1) := by decide +kernel
theorem dX5_spanOf_35 : decode cX5_spanOf 35 = .ok (.istore 6, 2) := by decide +kernel
theorem dX5_spanOf_37 : decode cX5_spanOf 37 = .ok (.iload 6, 2) := by decide +kernel
theorem dX5_spanOf_39 : decode cX5_spanOf 39 = .ok (.iload 4, 2) := by decide +kernel
theorem dX5_spanOf_41 : decode cX5_spanOf 41 = .ok (.if_icmp .ge 54, 3) := by decide +kernel
theorem dX5_spanOf_44 : decode cX5_spanOf 44 = .ok (.iload_n 2, 1) := by decide +kernel
theorem dX5_spanOf_45 : decode cX5_spanOf 45 = .ok (.iconst 2, 1) := by decide +kernel
theorem dX5_spanOf_46 : decode cX5_spanOf 46 = .ok (.if_icmp .eq 9, 3) := by decide +kernel
theorem dX5_spanOf_49 : decode cX5_spanOf 49 = .ok (.iload_n 2, 1) := by decide +kernel
theorem dX5_spanOf_50 : decode cX5_spanOf 50 = .ok (.bipush 6, 2) := by decide +kernel
theorem dX5_spanOf_52 : decode cX5_spanOf 52 = .ok (.if_icmp .ne 10, 3) := by decide +kernel
theorem dX5_spanOf_55 : decode cX5_spanOf 55 = .ok (.iload_n 3, 1) := by decide +kernel
theorem dX5_spanOf_56 : decode cX5_spanOf 56 = .ok (.iload 6, 2) := by decide +kernel
theorem dX5_spanOf_58 : decode cX5_spanOf 58 = .ok (.isub, 1) := by decide +kernel
theorem dX5_spanOf_59 : decode cX5_spanOf 59 = .ok (.goto 7, 3) := by decide +kernel
theorem dX5_spanOf_62 : decode cX5_spanOf 62 = .ok (.iload_n 3, 1) := by decide +kernel
theorem dX5_spanOf_63 : decode cX5_spanOf 63 = .ok (.iload 6, 2) := by decide +kernel
theorem dX5_spanOf_65 : decode cX5_spanOf 65 = .ok (.iadd, 1) := by decide +kernel
theorem dX5_spanOf_66 : decode cX5_spanOf 66 = .ok (.istore 7, 2) := by decide +kernel
theorem dX5_spanOf_68 : decode cX5_spanOf 68 = .ok (.iload 5, 2) := by decide +kernel
theorem dX5_spanOf_70 : decode cX5_spanOf 70 = .ok (.iload 7, 2) := by decide +kernel
theorem dX5_spanOf_72 : decode cX5_spanOf 72 = .ok (.invokestatic 59, 3) := by decide +kernel
theorem dX5_spanOf_75 : decode cX5_spanOf 75 = .ok (.ifCond .eq 10, 3) := by decide +kernel
theorem dX5_spanOf_78 : decode cX5_spanOf 78 = .ok (.iconst 1, 1) := by decide +kernel
theorem dX5_spanOf_79 : decode cX5_spanOf 79 = .ok (.iload 7, 2) := by decide +kernel
theorem dX5_spanOf_81 : decode cX5_spanOf 81 = .ok (.ishl, 1) := by decide +kernel
theorem dX5_spanOf_82 : decode cX5_spanOf 82 = .ok (.goto 4, 3) := by decide +kernel
theorem dX5_spanOf_85 : decode cX5_spanOf 85 = .ok (.iconst 0, 1) := by decide +kernel
theorem dX5_spanOf_86 : decode cX5_spanOf 86 = .ok (.ior, 1) := by decide +kernel
theorem dX5_spanOf_87 : decode cX5_spanOf 87 = .ok (.istore 5, 2) := by decide +kernel
theorem dX5_spanOf_89 : decode cX5_spanOf 89 = .ok (.iinc 6 1, 3) := by decide +kernel
theorem dX5_spanOf_92 : decode cX5_spanOf 92 = .ok (.goto (-55), 3) := by decide +kernel
theorem dX5_spanOf_95 : decode cX5_spanOf 95 = .ok (.iload_n 2, 1) := by decide +kernel
theorem dX5_spanOf_96 : decode cX5_spanOf 96 = .ok (.bipush 6, 2) := by decide +kernel
theorem dX5_spanOf_98 : decode cX5_spanOf 98 = .ok (.if_icmp .ne 23, 3) := by decide +kernel
theorem dX5_spanOf_101 : decode cX5_spanOf 101 = .ok (.iload_n 3, 1) := by decide +kernel
theorem dX5_spanOf_102 : decode cX5_spanOf 102 = .ok (.iconst 1, 1) := by decide +kernel
theorem dX5_spanOf_103 : decode cX5_spanOf 103 = .ok (.iadd, 1) := by decide +kernel
theorem dX5_spanOf_104 : decode cX5_spanOf 104 = .ok (.invokestatic 59, 3) := by decide +kernel
theorem dX5_spanOf_107 : decode cX5_spanOf 107 = .ok (.ifCond .eq 14, 3) := by decide +kernel
theorem dX5_spanOf_110 : decode cX5_spanOf 110 = .ok (.iload 5, 2) := by decide +kernel
theorem dX5_spanOf_112 : decode cX5_spanOf 112 = .ok (.iconst 1, 1) := by decide +kernel
theorem dX5_spanOf_113 : decode cX5_spanOf 113 = .ok (.iload_n 3, 1) := by decide +kernel
theorem dX5_spanOf_114 : decode cX5_spanOf 114 = .ok (.iconst 1, 1) := by decide +kernel
theorem dX5_spanOf_115 : decode cX5_spanOf 115 = .ok (.iadd, 1) := by decide +kernel
theorem dX5_spanOf_116 : decode cX5_spanOf 116 = .ok (.ishl, 1) := by decide +kernel
theorem dX5_spanOf_117 : decode cX5_spanOf 117 = .ok (.ior, 1) := by decide +kernel
theorem dX5_spanOf_118 : decode cX5_spanOf 118 = .ok (.goto 5, 3) := by decide +kernel
theorem dX5_spanOf_121 : decode cX5_spanOf 121 = .ok (.iload 5, 2) := by decide +kernel
theorem dX5_spanOf_123 : decode cX5_spanOf 123 = .ok (.ireturn, 1) := by decide +kernel
def j5_spanOf_86 (k37 : (Nat → Int32) → Int32 → Int32 → Int32 → Int32 → Int32 → Option (Int32)) (xs : Nat → Int32) (v2 : Int32) (v3 : Int32) (v4 : Int32) (v6 : Int32) (t0 : Int32) (t1 : Int32) : Option (Int32) :=
  k37 xs v2 v3 v4 (t0 ||| t1) (v6 + (1 : Int32))
def j5_spanOf_66 (k37 : (Nat → Int32) → Int32 → Int32 → Int32 → Int32 → Int32 → Option (Int32)) (xs : Nat → Int32) (v2 : Int32) (v3 : Int32) (v4 : Int32) (v5 : Int32) (v6 : Int32) (t0 : Int32) : Option (Int32) :=
  if (f5_isCell t0) = (0 : Int32) then (
    j5_spanOf_86 k37 xs v2 v3 v4 v6 v5 (0 : Int32))
  else (
    j5_spanOf_86 k37 xs v2 v3 v4 v6 v5 ((1 : Int32) <<< (t0 &&& 31)))
def j5_spanOf_55 (k37 : (Nat → Int32) → Int32 → Int32 → Int32 → Int32 → Int32 → Option (Int32)) (xs : Nat → Int32) (v2 : Int32) (v3 : Int32) (v4 : Int32) (v5 : Int32) (v6 : Int32) : Option (Int32) :=
  j5_spanOf_66 k37 xs v2 v3 v4 v5 v6 (v3 - v6)
def l5_spanOf_37  : Nat → (Nat → Int32) → Int32 → Int32 → Int32 → Int32 → Int32 → Option (Int32)
  | 0, _, _, _, _, _, _ => none
  | n + 1, xs, v2, v3, v4, v5, v6 =>
    if v4 ≤ v6 then (
      if v2 = (6 : Int32) then (
        if (f5_isCell (v3 + (1 : Int32))) = (0 : Int32) then (
          some v5)
        else (
          some (v5 ||| ((1 : Int32) <<< ((v3 + (1 : Int32)) &&& 31)))))
      else (
        some v5))
    else (
      if v2 = (2 : Int32) then (
        j5_spanOf_55 (l5_spanOf_37 n) xs v2 v3 v4 v5 v6)
      else (
        if v2 = (6 : Int32) then (
          j5_spanOf_55 (l5_spanOf_37 n) xs v2 v3 v4 v5 v6)
        else (
          j5_spanOf_66 (l5_spanOf_37 n) xs v2 v3 v4 v5 v6 (v3 + v6))))
def j5_spanOf_29  (xs : Nat → Int32) (v2 : Int32) (v3 : Int32) (t0 : Int32) : Option (Int32) :=
  l5_spanOf_37 1000 xs v2 v3 t0 (0 : Int32) (0 : Int32)
def f5_spanOf (xs : Nat → Int32) (v1 : Int32) : Option (Int32) :=
  ob1 (f5_get xs v1 (0 : Int32)) (fun r1 =>
  ob1 (f5_get xs v1 (1 : Int32)) (fun r3 =>
  if r1 = (5 : Int32) then (
    j5_spanOf_29 xs r1 r3 (1 : Int32))
  else (
    ob1 (f5_get xs v1 (2 : Int32)) (fun r6 =>
    j5_spanOf_29 xs r1 r3 r6))))
set_option maxHeartbeats 4000000 in
set_option maxRecDepth 100000 in
theorem b5_spanOf_86 {X : XP} {p : Program} {l : Launch} {e : Env} {s : State} {m : MethodId} {args : Array Value} {below : List Frame} {meth : Method} {c : Code} {D : va_G} {cI cC : ClassId} {ad : Nat → Nat} {A : Nat → Prop} {xs : Nat → Int32} {xkept : Nat → Int32} {xaside : Nat → Int32} {xisK : Int32} {xfound : Nat → Int32} {xgone : Int32} {xover : Nat → Int32} {xtape : Nat → Int32} {xtaped : Int32} {xtok : Int32} {xbeg : Int32} {xend : Int32} {xval : Int64} {xwid : Nat → Int32} {xsiz : Nat → Int32} {xcel : Nat → Int32} {xcar : Nat → Int32} {r0 : Int32} (C0 : CX X p s m args meth c cX5_spanOf 8 (some .int) RX5 A) {k37 : (Nat → Int32) → Int32 → Int32 → Int32 → Int32 → Int32 → Option (Int32)} (hk37 : ∀ {v2 : Int32} {v3 : Int32} {v4 : Int32} {v5 : Int32} {v6 : Int32} {H : Heap} {locs : List Loc} {ls : Array Slot}, GX X D (tyM cI cC) A s (wM cI cC ad xs xkept xaside xisK xfound xgone xover xtape xtaped xtok xbeg xend xval xwid xsiz xcel xcar) H locs → lv_has ls 8 [(2, .int v2), (3, .int v3), (4, .int v4), (5, .int v5), (6, .int v6)] → k37 xs v2 v3 v4 v5 v6 = some r0 → W p l e ({ frames := 2, cells := 0, slots := 0, locals := 42 }) s m args below meth c H locs 0 0 (MQ below (QcI D (tyM cI cC) (wM cI cC ad xs xkept xaside xisK xfound xgone xover xtape xtaped xtok xbeg xend xval xwid xsiz xcel xcar) A r0) args s 0 0 A) (F0 m 37 ls [])) : ∀ {v2 : Int32} {v3 : Int32} {v4 : Int32} {v6 : Int32} {t0 : Int32} {t1 : Int32} {H : Heap} {locs : List Loc} {ls : Array Slot}, GX X D (tyM cI cC) A s (wM cI cC ad xs xkept xaside xisK xfound xgone xover xtape xtaped xtok xbeg xend xval xwid xsiz xcel xcar) H locs → lv_has ls 8 [(2, .int v2), (3, .int v3), (4, .int v4), (6, .int v6)] → j5_spanOf_86 k37 xs v2 v3 v4 v6 t0 t1 = some r0 → W p l e ({ frames := 2, cells := 0, slots := 0, locals := 42 }) s m args below meth c H locs 0 0 (MQ below (QcI D (tyM cI cC) (wM cI cC ad xs xkept xaside xisK xfound xgone xover xtape xtaped xtok xbeg xend xval xwid xsiz xcel xcar) A r0) args s 0 0 A) (F0 m 86 ls [.int t1, .int t0]) := by
  have hx := C0.1
  have hb := C0.2.1
  have hown := C0.2.2.2.2.1
  have hts := C0.2.2.2.2.2.1
  have hX := C0.2.2.2.2.2.2.2.2
  intro v2 v3 v4 v6 t0 t1 H locs ls G hl hf
  unfold j5_spanOf_86 at hf
  refine lv_ior hx hb dX5_spanOf_86 ?_
  refine lv_istore (lv' := [(5, .int (t0 ||| t1)), (2, .int v2), (3, .int v3), (4, .int v4), (6, .int v6)]) hx hb dX5_spanOf_87 hl (by decide) rfl (fun ls hl => ?_)
  refine lv_iinc (v := (v6 + (1 : Int32))) (lv' := [(6, .int (v6 + (1 : Int32))), (5, .int (t0 ||| t1)), (2, .int v2), (3, .int v3), (4, .int v4)]) hx hb dX5_spanOf_89 hl (k := 4) rfl rfl (by decide) rfl (fun ls hl => ?_)
  refine lv_goto (tgt := 37) hx hb dX5_spanOf_92 (by decide) ?_
  exact hk37 G (lv_sub hl [2, 3, 4, 1, 0] rfl) hf
set_option maxHeartbeats 4000000 in
set_option maxRecDepth 100000 in
theorem b5_spanOf_66 {X : XP} {p : Program} {l : Launch} {e : Env} {s : State} {m : MethodId} {args : Array Value} {below : List Frame} {meth : Method} {c : Code} {D : va_G} {cI cC : ClassId} {ad : Nat → Nat} {A : Nat → Prop} {xs : Nat → Int32} {xkept : Nat → Int32} {xaside : Nat → Int32} {xisK : Int32} {xfound : Nat → Int32} {xgone : Int32} {xover : Nat → Int32} {xtape : Nat → Int32} {xtaped : Int32} {xtok : Int32} {xbeg : Int32} {xend : Int32} {xval : Int64} {xwid : Nat → Int32} {xsiz : Nat → Int32} {xcel : Nat → Int32} {xcar : Nat → Int32} {r0 : Int32} (C0 : CX X p s m args meth c cX5_spanOf 8 (some .int) RX5 A) {k37 : (Nat → Int32) → Int32 → Int32 → Int32 → Int32 → Int32 → Option (Int32)} (hk37 : ∀ {v2 : Int32} {v3 : Int32} {v4 : Int32} {v5 : Int32} {v6 : Int32} {H : Heap} {locs : List Loc} {ls : Array Slot}, GX X D (tyM cI cC) A s (wM cI cC ad xs xkept xaside xisK xfound xgone xover xtape xtaped xtok xbeg xend xval xwid xsiz xcel xcar) H locs → lv_has ls 8 [(2, .int v2), (3, .int v3), (4, .int v4), (5, .int v5), (6, .int v6)] → k37 xs v2 v3 v4 v5 v6 = some r0 → W p l e ({ frames := 2, cells := 0, slots := 0, locals := 42 }) s m args below meth c H locs 0 0 (MQ below (QcI D (tyM cI cC) (wM cI cC ad xs xkept xaside xisK xfound xgone xover xtape xtaped xtok xbeg xend xval xwid xsiz xcel xcar) A r0) args s 0 0 A) (F0 m 37 ls [])) : ∀ {v2 : Int32} {v3 : Int32} {v4 : Int32} {v5 : Int32} {v6 : Int32} {t0 : Int32} {H : Heap} {locs : List Loc} {ls : Array Slot}, GX X D (tyM cI cC) A s (wM cI cC ad xs xkept xaside xisK xfound xgone xover xtape xtaped xtok xbeg xend xval xwid xsiz xcel xcar) H locs → lv_has ls 8 [(2, .int v2), (3, .int v3), (4, .int v4), (5, .int v5), (6, .int v6)] → j5_spanOf_66 k37 xs v2 v3 v4 v5 v6 t0 = some r0 → W p l e ({ frames := 2, cells := 0, slots := 0, locals := 42 }) s m args below meth c H locs 0 0 (MQ below (QcI D (tyM cI cC) (wM cI cC ad xs xkept xaside xisK xfound xgone xover xtape xtaped xtok xbeg xend xval xwid xsiz xcel xcar) A r0) args s 0 0 A) (F0 m 66 ls [.int t0]) := by
  have hx := C0.1
  have hb := C0.2.1
  have hown := C0.2.2.2.2.1
  have hts := C0.2.2.2.2.2.1
  have hX := C0.2.2.2.2.2.2.2.2
  intro v2 v3 v4 v5 v6 t0 H locs ls G hl hf
  unfold j5_spanOf_66 at hf
  refine lv_istore (lv' := [(7, .int t0), (2, .int v2), (3, .int v3), (4, .int v4), (5, .int v5), (6, .int v6)]) hx hb dX5_spanOf_66 hl (by decide) rfl (fun ls hl => ?_)
  refine lv_iload hx hb dX5_spanOf_68 (lv_at hl 4 rfl) ?_
  refine lv_iload hx hb dX5_spanOf_70 (lv_at hl 0 rfl) ?_
  refine go_i C0 G (runS_of (n := 1) (As := [.int t0]) (rest := [.int v5]) C0 G (c5_isCell hX rfl) q781 q54 q779 q780 o5_isCell ⟨rfl, rfl⟩ ⟨Nat.le_of_ble_eq_true rfl, Nat.le_of_ble_eq_true rfl⟩ rfl hl.1 rfl (Nat.le_of_ble_eq_true rfl) dX5_spanOf_72) (fun H locs G => ?_)
  refine lv_if_eq (tgt := 85) hx hb dX5_spanOf_75 (by decide) (fun hc13 => ?_) (fun hc13 => ?_)
  · have hf := itp hc13 hf
    refine lv_iconst (v := (0 : Int32)) hx hb dX5_spanOf_85 (by decide) ?_
    exact b5_spanOf_86 C0 hk37 G (lv_sub hl [1, 2, 3, 5] rfl) hf
  · have hf := itn hc13 hf
    refine lv_iconst (v := (1 : Int32)) hx hb dX5_spanOf_78 (by decide) ?_
    refine lv_iload hx hb dX5_spanOf_79 (lv_at hl 0 rfl) ?_
    refine lv_ishl hx hb dX5_spanOf_81 ?_
    refine lv_goto (tgt := 86) hx hb dX5_spanOf_82 (by decide) ?_
    exact b5_spanOf_86 C0 hk37 G (lv_sub hl [1, 2, 3, 5] rfl) hf
set_option maxHeartbeats 4000000 in
set_option maxRecDepth 100000 in
theorem b5_spanOf_55 {X : XP} {p : Program} {l : Launch} {e : Env} {s : State} {m : MethodId} {args : Array Value} {below : List Frame} {meth : Method} {c : Code} {D : va_G} {cI cC : ClassId} {ad : Nat → Nat} {A : Nat → Prop} {xs : Nat → Int32} {xkept : Nat → Int32} {xaside : Nat → Int32} {xisK : Int32} {xfound : Nat → Int32} {xgone : Int32} {xover : Nat → Int32} {xtape : Nat → Int32} {xtaped : Int32} {xtok : Int32} {xbeg : Int32} {xend : Int32} {xval : Int64} {xwid : Nat → Int32} {xsiz : Nat → Int32} {xcel : Nat → Int32} {xcar : Nat → Int32} {r0 : Int32} (C0 : CX X p s m args meth c cX5_spanOf 8 (some .int) RX5 A) {k37 : (Nat → Int32) → Int32 → Int32 → Int32 → Int32 → Int32 → Option (Int32)} (hk37 : ∀ {v2 : Int32} {v3 : Int32} {v4 : Int32} {v5 : Int32} {v6 : Int32} {H : Heap} {locs : List Loc} {ls : Array Slot}, GX X D (tyM cI cC) A s (wM cI cC ad xs xkept xaside xisK xfound xgone xover xtape xtaped xtok xbeg xend xval xwid xsiz xcel xcar) H locs → lv_has ls 8 [(2, .int v2), (3, .int v3), (4, .int v4), (5, .int v5), (6, .int v6)] → k37 xs v2 v3 v4 v5 v6 = some r0 → W p l e ({ frames := 2, cells := 0, slots := 0, locals := 42 }) s m args below meth c H locs 0 0 (MQ below (QcI D (tyM cI cC) (wM cI cC ad xs xkept xaside xisK xfound xgone xover xtape xtaped xtok xbeg xend xval xwid xsiz xcel xcar) A r0) args s 0 0 A) (F0 m 37 ls [])) : ∀ {v2 : Int32} {v3 : Int32} {v4 : Int32} {v5 : Int32} {v6 : Int32} {H : Heap} {locs : List Loc} {ls : Array Slot}, GX X D (tyM cI cC) A s (wM cI cC ad xs xkept xaside xisK xfound xgone xover xtape xtaped xtok xbeg xend xval xwid xsiz xcel xcar) H locs → lv_has ls 8 [(2, .int v2), (3, .int v3), (4, .int v4), (5, .int v5), (6, .int v6)] → j5_spanOf_55 k37 xs v2 v3 v4 v5 v6 = some r0 → W p l e ({ frames := 2, cells := 0, slots := 0, locals := 42 }) s m args below meth c H locs 0 0 (MQ below (QcI D (tyM cI cC) (wM cI cC ad xs xkept xaside xisK xfound xgone xover xtape xtaped xtok xbeg xend xval xwid xsiz xcel xcar) A r0) args s 0 0 A) (F0 m 55 ls []) := by
  have hx := C0.1
  have hb := C0.2.1
  have hown := C0.2.2.2.2.1
  have hts := C0.2.2.2.2.2.1
  have hX := C0.2.2.2.2.2.2.2.2
  intro v2 v3 v4 v5 v6 H locs ls G hl hf
  unfold j5_spanOf_55 at hf
  refine lv_iload_n hx hb dX5_spanOf_55 rfl (lv_at hl 1 rfl) ?_
  refine lv_iload hx hb dX5_spanOf_56 (lv_at hl 4 rfl) ?_
  refine lv_isub hx hb dX5_spanOf_58 ?_
  refine lv_goto (tgt := 66) hx hb dX5_spanOf_59 (by decide) ?_
  exact b5_spanOf_66 C0 hk37 G (lv_sub hl [0, 1, 2, 3, 4] rfl) hf
set_option maxHeartbeats 4000000 in
set_option maxRecDepth 100000 in
theorem b5_spanOf_37 {X : XP} {p : Program} {l : Launch} {e : Env} {s : State} {m : MethodId} {args : Array Value} {below : List Frame} {meth : Method} {c : Code} {D : va_G} {cI cC : ClassId} {ad : Nat → Nat} {A : Nat → Prop} {xs : Nat → Int32} {xkept : Nat → Int32} {xaside : Nat → Int32} {xisK : Int32} {xfound : Nat → Int32} {xgone : Int32} {xover : Nat → Int32} {xtape : Nat → Int32} {xtaped : Int32} {xtok : Int32} {xbeg : Int32} {xend : Int32} {xval : Int64} {xwid : Nat → Int32} {xsiz : Nat → Int32} {xcel : Nat → Int32} {xcar : Nat → Int32} {r0 : Int32} (C0 : CX X p s m args meth c cX5_spanOf 8 (some .int) RX5 A) : ∀ (n : Nat) {v2 : Int32} {v3 : Int32} {v4 : Int32} {v5 : Int32} {v6 : Int32} {H : Heap} {locs : List Loc} {ls : Array Slot}, GX X D (tyM cI cC) A s (wM cI cC ad xs xkept xaside xisK xfound xgone xover xtape xtaped xtok xbeg xend xval xwid xsiz xcel xcar) H locs → lv_has ls 8 [(2, .int v2), (3, .int v3), (4, .int v4), (5, .int v5), (6, .int v6)] → l5_spanOf_37  n xs v2 v3 v4 v5 v6 = some r0 → W p l e ({ frames := 2, cells := 0, slots := 0, locals := 42 }) s m args below meth c H locs 0 0 (MQ below (QcI D (tyM cI cC) (wM cI cC ad xs xkept xaside xisK xfound xgone xover xtape xtaped xtok xbeg xend xval xwid xsiz xcel xcar) A r0) args s 0 0 A) (F0 m 37 ls []) := by
  have hx := C0.1
  have hb := C0.2.1
  have hown := C0.2.2.2.2.1
  have hts := C0.2.2.2.2.2.1
  have hX := C0.2.2.2.2.2.2.2.2
  intro n
  induction n with
  | zero =>
    intro _ _ _ _ _ _ _ _ G hl hf
    cases hf
  | succ n ih =>
    intro v2 v3 v4 v5 v6 H locs ls G hl hf
    rw [l5_spanOf_37] at hf
    refine lv_iload hx hb dX5_spanOf_37 (lv_at hl 4 rfl) ?_
    refine lv_iload hx hb dX5_spanOf_39 (lv_at hl 2 rfl) ?_
    refine lv_icmp_ge (tgt := 95) hx hb dX5_spanOf_41 (by decide) (fun hc8 => ?_) (fun hc8 => ?_)
    · have hf := itp hc8 hf
      refine lv_iload_n hx hb dX5_spanOf_95 rfl (lv_at hl 0 rfl) ?_
      refine lv_bipush (v := (6 : Int32)) hx hb dX5_spanOf_96 (by decide) ?_
      refine lv_icmp_ne (tgt := 121) hx hb dX5_spanOf_98 (by decide) (fun hc9 => ?_) (fun hc9 => ?_)
      · have hf := itn hc9 hf
        refine lv_iload hx hb dX5_spanOf_121 (lv_at hl 3 rfl) ?_
        obtain rfl := inj1 hf
        exact ret_i C0 G dX5_spanOf_123
      · have hf := itp hc9 hf
        refine lv_iload_n hx hb dX5_spanOf_101 rfl (lv_at hl 1 rfl) ?_
        refine lv_iconst (v := (1 : Int32)) hx hb dX5_spanOf_102 (by decide) ?_
        refine lv_iadd hx hb dX5_spanOf_103 ?_
        refine go_i C0 G (runS_of (n := 1) (As := [.int (v3 + (1 : Int32))]) (rest := []) C0 G (c5_isCell hX rfl) q781 q54 q779 q780 o5_isCell ⟨rfl, rfl⟩ ⟨Nat.le_of_ble_eq_true rfl, Nat.le_of_ble_eq_true rfl⟩ rfl hl.1 rfl (Nat.le_of_ble_eq_true rfl) dX5_spanOf_104) (fun H locs G => ?_)
        refine lv_if_eq (tgt := 121) hx hb dX5_spanOf_107 (by decide) (fun hc10 => ?_) (fun hc10 => ?_)
        · have hf := itp hc10 hf
          refine lv_iload hx hb dX5_spanOf_121 (lv_at hl 3 rfl) ?_
          obtain rfl := inj1 hf
          exact ret_i C0 G dX5_spanOf_123
        · have hf := itn hc10 hf
          refine lv_iload hx hb dX5_spanOf_110 (lv_at hl 3 rfl) ?_
          refine lv_iconst (v := (1 : Int32)) hx hb dX5_spanOf_112 (by decide) ?_
          refine lv_iload_n hx hb dX5_spanOf_113 rfl (lv_at hl 1 rfl) ?_
          refine lv_iconst (v := (1 : Int32)) hx hb dX5_spanOf_114 (by decide) ?_
          refine lv_iadd hx hb dX5_spanOf_115 ?_
          refine lv_ishl hx hb dX5_spanOf_116 ?_
          refine lv_ior hx hb dX5_spanOf_117 ?_
          refine lv_goto (tgt := 123) hx hb dX5_spanOf_118 (by decide) ?_
          obtain rfl := inj1 hf
          exact ret_i C0 G dX5_spanOf_123
    · have hf := itn hc8 hf
      refine lv_iload_n hx hb dX5_spanOf_44 rfl (lv_at hl 0 rfl) ?_
      refine lv_iconst (v := (2 : Int32)) hx hb dX5_spanOf_45 (by decide) ?_
      refine lv_icmp_eq (tgt := 55) hx hb dX5_spanOf_46 (by decide) (fun hc11 => ?_) (fun hc11 => ?_)
      · have hf := itp hc11 hf
        exact b5_spanOf_55 C0 ih G (lv_sub hl [0, 1, 2, 3, 4] rfl) hf
      · have hf := itn hc11 hf
        refine lv_iload_n hx hb dX5_spanOf_49 rfl (lv_at hl 0 rfl) ?_
        refine lv_bipush (v := (6 : Int32)) hx hb dX5_spanOf_50 (by decide) ?_
        refine lv_icmp_ne (tgt := 62) hx hb dX5_spanOf_52 (by decide) (fun hc12 => ?_) (fun hc12 => ?_)
        · have hf := itn hc12 hf
          refine lv_iload_n hx hb dX5_spanOf_62 rfl (lv_at hl 1 rfl) ?_
          refine lv_iload hx hb dX5_spanOf_63 (lv_at hl 4 rfl) ?_
          refine lv_iadd hx hb dX5_spanOf_65 ?_
          exact b5_spanOf_66 C0 ih G (lv_sub hl [0, 1, 2, 3, 4] rfl) hf
        · have hf := itp hc12 hf
          exact b5_spanOf_55 C0 ih G (lv_sub hl [0, 1, 2, 3, 4] rfl) hf
set_option maxHeartbeats 4000000 in
set_option maxRecDepth 100000 in
theorem b5_spanOf_29 {X : XP} {p : Program} {l : Launch} {e : Env} {s : State} {m : MethodId} {args : Array Value} {below : List Frame} {meth : Method} {c : Code} {D : va_G} {cI cC : ClassId} {ad : Nat → Nat} {A : Nat → Prop} {xs : Nat → Int32} {xkept : Nat → Int32} {xaside : Nat → Int32} {xisK : Int32} {xfound : Nat → Int32} {xgone : Int32} {xover : Nat → Int32} {xtape : Nat → Int32} {xtaped : Int32} {xtok : Int32} {xbeg : Int32} {xend : Int32} {xval : Int64} {xwid : Nat → Int32} {xsiz : Nat → Int32} {xcel : Nat → Int32} {xcar : Nat → Int32} {r0 : Int32} (C0 : CX X p s m args meth c cX5_spanOf 8 (some .int) RX5 A) : ∀ {v2 : Int32} {v3 : Int32} {t0 : Int32} {H : Heap} {locs : List Loc} {ls : Array Slot}, GX X D (tyM cI cC) A s (wM cI cC ad xs xkept xaside xisK xfound xgone xover xtape xtaped xtok xbeg xend xval xwid xsiz xcel xcar) H locs → lv_has ls 8 [(2, .int v2), (3, .int v3)] → j5_spanOf_29  xs v2 v3 t0 = some r0 → W p l e ({ frames := 2, cells := 0, slots := 0, locals := 42 }) s m args below meth c H locs 0 0 (MQ below (QcI D (tyM cI cC) (wM cI cC ad xs xkept xaside xisK xfound xgone xover xtape xtaped xtok xbeg xend xval xwid xsiz xcel xcar) A r0) args s 0 0 A) (F0 m 29 ls [.int t0]) := by
  have hx := C0.1
  have hb := C0.2.1
  have hown := C0.2.2.2.2.1
  have hts := C0.2.2.2.2.2.1
  have hX := C0.2.2.2.2.2.2.2.2
  intro v2 v3 t0 H locs ls G hl hf
  unfold j5_spanOf_29 at hf
  refine lv_istore (lv' := [(4, .int t0), (2, .int v2), (3, .int v3)]) hx hb dX5_spanOf_29 hl (by decide) rfl (fun ls hl => ?_)
  refine lv_iconst (v := (0 : Int32)) hx hb dX5_spanOf_31 (by decide) ?_
  refine lv_istore (lv' := [(5, .int (0 : Int32)), (4, .int t0), (2, .int v2), (3, .int v3)]) hx hb dX5_spanOf_32 hl (by decide) rfl (fun ls hl => ?_)
  refine lv_iconst (v := (0 : Int32)) hx hb dX5_spanOf_34 (by decide) ?_
  refine lv_istore (lv' := [(6, .int (0 : Int32)), (5, .int (0 : Int32)), (4, .int t0), (2, .int v2), (3, .int v3)]) hx hb dX5_spanOf_35 hl (by decide) rfl (fun ls hl => ?_)
  exact b5_spanOf_37 C0  1000 G (lv_sub hl [3, 4, 2, 1, 0] rfl) hf
set_option maxHeartbeats 4000000 in
set_option maxRecDepth 100000 in
theorem b5_spanOf_0 {X : XP} {p : Program} {l : Launch} {e : Env} {s : State} {m : MethodId} {args : Array Value} {below : List Frame} {meth : Method} {c : Code} {D : va_G} {cI cC : ClassId} {ad : Nat → Nat} {A : Nat → Prop} {xs : Nat → Int32} {xkept : Nat → Int32} {xaside : Nat → Int32} {xisK : Int32} {xfound : Nat → Int32} {xgone : Int32} {xover : Nat → Int32} {xtape : Nat → Int32} {xtaped : Int32} {xtok : Int32} {xbeg : Int32} {xend : Int32} {xval : Int64} {xwid : Nat → Int32} {xsiz : Nat → Int32} {xcel : Nat → Int32} {xcar : Nat → Int32} {r0 : Int32} (C0 : CX X p s m args meth c cX5_spanOf 8 (some .int) RX5 A) : ∀ {v1 : Int32} {H : Heap} {locs : List Loc} {ls : Array Slot}, GX X D (tyM cI cC) A s (wM cI cC ad xs xkept xaside xisK xfound xgone xover xtape xtaped xtok xbeg xend xval xwid xsiz xcel xcar) H locs → lv_has ls 8 [(0, .ref (ad 0)), (1, .int v1)] → f5_spanOf xs v1 = some r0 → W p l e ({ frames := 2, cells := 0, slots := 0, locals := 42 }) s m args below meth c H locs 0 0 (MQ below (QcI D (tyM cI cC) (wM cI cC ad xs xkept xaside xisK xfound xgone xover xtape xtaped xtok xbeg xend xval xwid xsiz xcel xcar) A r0) args s 0 0 A) (F0 m 0 ls []) := by
  have hx := C0.1
  have hb := C0.2.1
  have hown := C0.2.2.2.2.1
  have hts := C0.2.2.2.2.2.1
  have hX := C0.2.2.2.2.2.2.2.2
  intro v1 H locs ls G hl hf
  unfold f5_spanOf at hf
  refine lv_aload_n hx hb dX5_spanOf_0 rfl (lv_at hl 0 rfl) ?_
  refine lv_iload_n hx hb dX5_spanOf_1 rfl (lv_at hl 1 rfl) ?_
  refine lv_iconst (v := (0 : Int32)) hx hb dX5_spanOf_2 (by decide) ?_
  obtain ⟨r1, hc2, hf⟩ := ob1_s hf
  refine go_i C0 G (runV_of (n := 2) (q0 := 0) (As := [.int v1, .int (0 : Int32)]) (rest := []) C0 G (c5_get hX hc2) q801 q54 q798 q800 q11 o5_get ⟨rfl, rfl⟩ ⟨Nat.le_of_ble_eq_true rfl, Nat.le_of_ble_eq_true rfl⟩ rfl rfl rfl hl.1 rfl (Nat.le_of_ble_eq_true rfl) dX5_spanOf_3) (fun H locs G => ?_)
  refine lv_istore_n (lv' := [(2, .int r1), (0, .ref (ad 0)), (1, .int v1)]) hx hb dX5_spanOf_6 rfl hl (by decide) rfl (fun ls hl => ?_)
  refine lv_aload_n hx hb dX5_spanOf_7 rfl (lv_at hl 1 rfl) ?_
  refine lv_iload_n hx hb dX5_spanOf_8 rfl (lv_at hl 2 rfl) ?_
  refine lv_iconst (v := (1 : Int32)) hx hb dX5_spanOf_9 (by decide) ?_
  obtain ⟨r3, hc4, hf⟩ := ob1_s hf
  refine go_i C0 G (runV_of (n := 2) (q0 := 0) (As := [.int v1, .int (1 : Int32)]) (rest := []) C0 G (c5_get hX hc4) q801 q54 q798 q800 q11 o5_get ⟨rfl, rfl⟩ ⟨Nat.le_of_ble_eq_true rfl, Nat.le_of_ble_eq_true rfl⟩ rfl rfl rfl hl.1 rfl (Nat.le_of_ble_eq_true rfl) dX5_spanOf_10) (fun H locs G => ?_)
  refine lv_istore_n (lv' := [(3, .int r3), (2, .int r1), (0, .ref (ad 0)), (1, .int v1)]) hx hb dX5_spanOf_13 rfl hl (by decide) rfl (fun ls hl => ?_)
  refine lv_iload_n hx hb dX5_spanOf_14 rfl (lv_at hl 1 rfl) ?_
  refine lv_iconst (v := (5 : Int32)) hx hb dX5_spanOf_15 (by decide) ?_
  refine lv_icmp_ne (tgt := 23) hx hb dX5_spanOf_16 (by decide) (fun hc5 => ?_) (fun hc5 => ?_)
  · have hf := itn hc5 hf
    refine lv_aload_n hx hb dX5_spanOf_23 rfl (lv_at hl 2 rfl) ?_
    refine lv_iload_n hx hb dX5_spanOf_24 rfl (lv_at hl 3 rfl) ?_
    refine lv_iconst (v := (2 : Int32)) hx hb dX5_spanOf_25 (by decide) ?_
    obtain ⟨r6, hc7, hf⟩ := ob1_s hf
    refine go_i C0 G (runV_of (n := 2) (q0 := 0) (As := [.int v1, .int (2 : Int32)]) (rest := []) C0 G (c5_get hX hc7) q801 q54 q798 q800 q11 o5_get ⟨rfl, rfl⟩ ⟨Nat.le_of_ble_eq_true rfl, Nat.le_of_ble_eq_true rfl⟩ rfl rfl rfl hl.1 rfl (Nat.le_of_ble_eq_true rfl) dX5_spanOf_26) (fun H locs G => ?_)
    exact b5_spanOf_29 C0  G (lv_sub hl [1, 0] rfl) hf
  · have hf := itp hc5 hf
    refine lv_iconst (v := (1 : Int32)) hx hb dX5_spanOf_19 (by decide) ?_
    refine lv_goto (tgt := 29) hx hb dX5_spanOf_20 (by decide) ?_
    exact b5_spanOf_29 C0  G (lv_sub hl [1, 0] rfl) hf
theorem o5_spanOf : okName yX5_spanOf 1 := ⟨by decide, by decide, by decide +kernel⟩
set_option maxHeartbeats 4000000 in
set_option maxRecDepth 100000 in
theorem c5_spanOf {X : XP} (hX : XT X) {l : Launch} {D : va_G} {cI cC : ClassId} {ad : Nat → Nat} {sz : Nat} {xs : Nat → Int32} {xkept : Nat → Int32} {xaside : Nat → Int32} {xisK : Int32} {xfound : Nat → Int32} {xgone : Int32} {xover : Nat → Int32} {xtape : Nat → Int32} {xtaped : Int32} {xtok : Int32} {xbeg : Int32} {xend : Int32} {xval : Int64} {xwid : Nat → Int32} {xsiz : Nat → Int32} {xcel : Nat → Int32} {xcar : Nat → Int32} {v1 : Int32} {r0 : Int32} (hf : f5_spanOf xs v1 = some r0) : Met l yX5_spanOf (wU yX5_spanOf cX5_spanOf 8 (some .int)) ({ frames := 2, cells := 0, slots := 0, locals := 42 }) (va_Pc [.ref (ad 0), .int v1] (PreW X D (tyM cI cC) (wM cI cC ad xs xkept xaside xisK xfound xgone xover xtape xtaped xtok xbeg xend xval xwid xsiz xcel xcar) sz)) (QcI D (tyM cI cC) (wM cI cC ad xs xkept xaside xisK xfound xgone xover xtape xtaped xtok xbeg xend xval xwid xsiz xcel xcar) (va_A (wM cI cC ad xs xkept xaside xisK xfound xgone xover xtape xtaped xtok xbeg xend xval xwid xsiz xcel xcar) sz) r0) 0 0 (va_A (wM cI cC ad xs xkept xaside xisK xfound xgone xover xtape xtaped xtok xbeg xend xval xwid xsiz xcel xcar) sz) := by
  refine startW hX (own := RX5) (by decide) rfl (Nat.le_of_ble_eq_true rfl) (fun p e s m args below meth c ls C0 G hl => ?_)
  exact b5_spanOf_0 C0 G hl hf
/-! 5_cell -/
theorem dX5_cell_0 : decode cX5_cell 0 = .ok (.iload_n 1, 1) := by decide +kernel
theorem dX5_cell_1 : decode cX5_cell 1 = .ok (.invokestatic 59, 3) := by decide +kernel
theorem dX5_cell_4 : decode cX5_cell 4 = .ok (.ifCond .eq 12, 3) := by decide +kernel
theorem dX5_cell_7 : decode cX5_cell 7 = .ok (.iload_n 2, 1) := by decide +kernel
theorem dX5_cell_8 : decode cX5_cell 8 = .ok (.iconst 0, 1) := by decide +kernel
theorem dX5_cell_9 : decode cX5_cell 9 = .ok (.iconst 1, 1) := by decide +kernel
theorem dX5_cell_10 : decode cX5_cell 10 = .ok (.invokestatic 51, 3) := by decide +kernel
theorem dX5_cell_13 : decode cX5_cell 13 = .ok (.ifCond .ne 9, 3) := by decide +kernel
theorem dX5_cell_16 : decode cX5_cell 16 = .ok (.aload_n 0, 1) := by decide +kernel
theorem dX5_cell_17 : decode cX5_cell 17 = .ok (.iconst 0, 1) := by decide +kernel
theorem dX5_cell_18 : decode cX5_cell 18 = .ok (.invokevirtual 105, 3) := by decide +kernel
theorem dX5_cell_21 : decode cX5_cell 21 = .ok (.ireturn, 1) := by decide +kernel
theorem dX5_cell_22 : decode cX5_cell 22 = .ok (.iconst 0, 1) := by decide +kernel
theorem dX5_cell_23 : decode cX5_cell 23 = .ok (.istore_n 3, 1) := by decide +kernel
theorem dX5_cell_24 : decode cX5_cell 24 = .ok (.iconst 0, 1) := by decide +kernel
theorem dX5_cell_25 : decode cX5_cell 25 = .ok (.istore 4, 2) := by decide +kernel
theorem dX5_cell_27 : decode cX5_cell 27 = .ok (.iload 4, 2) := by decide +kernel
theorem dX5_cell_29 : decode cX5_cell 29 = .ok (.aload_n 0, 1) := by decide +kernel
theorem dX5_cell_30 : decode cX5_cell 30 = .ok (.getfield 9, 3) := by decide +kernel
theorem dX5_cell_33 : decode cX5_cell 33 = .ok (.iconst 1, 1) := by decide +kernel
theorem dX5_cell_34 : decode cX5_cell 34 = .ok (.iaload, 1) := by decide +kernel
theorem dX5_cell_35 : decode cX5_cell 35 = .ok (.if_icmp .ge 25, 3) := by decide +kernel
theorem dX5_cell_38 : decode cX5_cell 38 = .ok (.iload_n 3, 1) := by decide +kernel
theorem dX5_cell_39 : decode cX5_cell 39 = .ok (.aload_n 0, 1) := by decide +kernel
theorem dX5_cell_40 : decode cX5_cell 40 = .ok (.iload 4, 2) := by decide +kernel
theorem dX5_cell_42 : decode cX5_cell 42 = .ok (.invokevirtual 66, 3) := by decide +kernel
theorem dX5_cell_45 : decode cX5_cell 45 = .ok (.iload_n 1, 1) := by decide +kernel
theorem dX5_cell_46 : decode cX5_cell 46 = .ok (.ishr, 1) := by decide +kernel
theorem dX5_cell_47 : decode cX5_cell 47 = .ok (.iconst 1, 1) := by decide +kernel
theorem dX5_cell_48 : decode cX5_cell 48 = .ok (.iand, 1) := by decide +kernel
theorem dX5_cell_49 : decode cX5_cell 49 = .ok (.iload 4, 2) := by decide +kernel
theorem dX5_cell_51 : decode cX5_cell 51 = .ok (.ishl, 1) := by decide +kernel
theorem dX5_cell_52 : decode cX5_cell 52 = .ok (.ior, 1) := by decide +kernel
theorem dX5_cell_53 : decode cX5_cell 53 = .ok (.istore_n 3, 1) := by decide +kernel
theorem dX5_cell_54 : decode cX5_cell 54 = .ok (.iinc 4 1, 3) := by decide +kernel
theorem dX5_cell_57 : decode cX5_cell 57 = .ok (.goto (-30), 3) := by decide +kernel
theorem dX5_cell_60 : decode cX5_cell 60 = .ok (.iload_n 2, 1) := by decide +kernel
theorem dX5_cell_61 : decode cX5_cell 61 = .ok (.ifCond .ne 15, 3) := by decide +kernel
theorem dX5_cell_64 : decode cX5_cell 64 = .ok (.aload_n 0, 1) := by decide +kernel
theorem dX5_cell_65 : decode cX5_cell 65 = .ok (.getfield 9, 3) := by decide +kernel
theorem dX5_cell_68 : decode cX5_cell 68 = .ok (.bipush 6, 2) := by decide +kernel
theorem dX5_cell_70 : decode cX5_cell 70 = .ok (.iload_n 1, 1) := by decide +kernel
theorem dX5_cell_71 : decode cX5_cell 71 = .ok (.iadd, 1) := by decide +kernel
theorem dX5_cell_72 : decode cX5_cell 72 = .ok (.iaload, 1) := by decide +kernel
theorem dX5_cell_73 : decode cX5_cell 73 = .ok (.goto 4, 3) := by decide +kernel
theorem dX5_cell_76 : decode cX5_cell 76 = .ok (.iload_n 3, 1) := by decide +kernel
theorem dX5_cell_77 : decode cX5_cell 77 = .ok (.ireturn, 1) := by decide +kernel
def j5_cell_16  (xs : Nat → Int32) (xfound : Nat → Int32)  : Option (Int32 × (Nat → Int32)) :=
  ob2 (f5_no xfound (0 : Int32)) (fun r3 xfound_4 =>
  some (r3, xfound_4))
def l5_cell_27  : Nat → (Nat → Int32) → (Nat → Int32) → Int32 → Int32 → Int32 → Int32 → Option (Int32 × (Nat → Int32))
  | 0, _, _, _, _, _, _ => none
  | n + 1, xs, xfound, v1, v2, v3, v4 =>
    if (xs 1) ≤ v4 then (
      if v2 = (0 : Int32) then (
        gd (inb ((6 : Int32) + v1) 88) (
        some ((xs (((6 : Int32) + v1).toNatClampNeg)), xfound)))
      else (
        some (v3, xfound)))
    else (
      ob1 (f5_spanOf xs v4) (fun r9 =>
      (l5_cell_27 n) xs xfound v1 v2 (v3 ||| (((r9 >>> (v1 &&& 31)) &&& (1 : Int32)) <<< (v4 &&& 31))) (v4 + (1 : Int32))))
def f5_cell (xs : Nat → Int32) (xfound : Nat → Int32) (v1 : Int32) (v2 : Int32) : Option (Int32 × (Nat → Int32)) :=
  if (f5_isCell v1) = (0 : Int32) then (
    j5_cell_16 xs xfound)
  else (
    if (f5_in1 v2 (0 : Int32) (1 : Int32)) = (0 : Int32) then (
      j5_cell_16 xs xfound)
    else (
      l5_cell_27 1000 xs xfound v1 v2 (0 : Int32) (0 : Int32)))
set_option maxHeartbeats 4000000 in
set_option maxRecDepth 100000 in
theorem b5_cell_16 {X : XP} {p : Program} {l : Launch} {e : Env} {s : State} {m : MethodId} {args : Array Value} {below : List Frame} {meth : Method} {c : Code} {D : va_G} {cI cC : ClassId} {ad : Nat → Nat} {A : Nat → Prop} {xs : Nat → Int32} {xkept : Nat → Int32} {xaside : Nat → Int32} {xisK : Int32} {xgone : Int32} {xover : Nat → Int32} {xtape : Nat → Int32} {xtaped : Int32} {xtok : Int32} {xbeg : Int32} {xend : Int32} {xval : Int64} {xwid : Nat → Int32} {xsiz : Nat → Int32} {xcel : Nat → Int32} {xcar : Nat → Int32} {r0 : Int32} {o_xfound : Nat → Int32} (C0 : CX X p s m args meth c cX5_cell 5 (some .int) RX5 A) : ∀ {xfound : Nat → Int32} {H : Heap} {locs : List Loc} {ls : Array Slot}, GX X D (tyM cI cC) A s (wM cI cC ad xs xkept xaside xisK xfound xgone xover xtape xtaped xtok xbeg xend xval xwid xsiz xcel xcar) H locs → lv_has ls 5 [(0, .ref (ad 0))] → j5_cell_16  xs xfound = some (r0, o_xfound) → W p l e ({ frames := 3, cells := 0, slots := 0, locals := 69 }) s m args below meth c H locs 0 0 (MQ below (QcI D (tyM cI cC) (wM cI cC ad xs xkept xaside xisK o_xfound xgone xover xtape xtaped xtok xbeg xend xval xwid xsiz xcel xcar) A r0) args s 0 0 A) (F0 m 16 ls []) := by
  have hx := C0.1
  have hb := C0.2.1
  have hown := C0.2.2.2.2.1
  have hts := C0.2.2.2.2.2.1
  have hX := C0.2.2.2.2.2.2.2.2
  intro xfound H locs ls G hl hf
  unfold j5_cell_16 at hf
  refine lv_aload_n hx hb dX5_cell_16 rfl (lv_at hl 0 rfl) ?_
  refine lv_iconst (v := (0 : Int32)) hx hb dX5_cell_17 (by decide) ?_
  obtain ⟨r3, xfound_4, hc5, hf⟩ := ob2_s hf
  refine go_i C0 G (runV_of (n := 1) (q0 := 0) (As := [.int (0 : Int32)]) (rest := []) C0 G (c5_no hX hc5) q788 q54 q785 q787 q9 o5_no ⟨rfl, rfl⟩ ⟨Nat.le_of_ble_eq_true rfl, Nat.le_of_ble_eq_true rfl⟩ rfl rfl rfl hl.1 rfl (Nat.le_of_ble_eq_true rfl) dX5_cell_18) (fun H locs G => ?_)
  obtain ⟨rfl, rfl⟩ := inj2 hf
  exact ret_i C0 G dX5_cell_21
set_option maxHeartbeats 4000000 in
set_option maxRecDepth 100000 in
theorem b5_cell_27 {X : XP} {p : Program} {l : Launch} {e : Env} {s : State} {m : MethodId} {args : Array Value} {below : List Frame} {meth : Method} {c : Code} {D : va_G} {cI cC : ClassId} {ad : Nat → Nat} {A : Nat → Prop} {xs : Nat → Int32} {xkept : Nat → Int32} {xaside : Nat → Int32} {xisK : Int32} {xgone : Int32} {xover : Nat → Int32} {xtape : Nat → Int32} {xtaped : Int32} {xtok : Int32} {xbeg : Int32} {xend : Int32} {xval : Int64} {xwid : Nat → Int32} {xsiz : Nat → Int32} {xcel : Nat → Int32} {xcar : Nat → Int32} {r0 : Int32} {o_xfound : Nat → Int32} (C0 : CX X p s m args meth c cX5_cell 5 (some .int) RX5 A) : ∀ (n : Nat) {xfound : Nat → Int32} {v1 : Int32} {v2 : Int32} {v3 : Int32} {v4 : Int32} {H : Heap} {locs : List Loc} {ls : Array Slot}, GX X D (tyM cI cC) A s (wM cI cC ad xs xkept xaside xisK xfound xgone xover xtape xtaped xtok xbeg xend xval xwid xsiz xcel xcar) H locs → lv_has ls 5 [(0, .ref (ad 0)), (1, .int v1), (2, .int v2), (3, .int v3), (4, .int v4)] → l5_cell_27  n xs xfound v1 v2 v3 v4 = some (r0, o_xfound) → W p l e ({ frames := 3, cells := 0, slots := 0, locals := 69 }) s m args below meth c H locs 0 0 (MQ below (QcI D (tyM cI cC) (wM cI cC ad xs xkept xaside xisK o_xfound xgone xover xtape xtaped xtok xbeg xend xval xwid xsiz xcel xcar) A r0) args s 0 0 A) (F0 m 27 ls []) := by
  have hx := C0.1
  have hb := C0.2.1
  have hown := C0.2.2.2.2.1
  have hts := C0.2.2.2.2.2.1
  have hX := C0.2.2.2.2.2.2.2.2
  intro n
  induction n with
  | zero =>
    intro _ _ _ _ _ _ _ _ G hl hf
    cases hf
  | succ n ih =>
    intro xfound v1 v2 v3 v4 H locs ls G hl hf
    rw [l5_cell_27] at hf
    refine lv_iload hx hb dX5_cell_27 (lv_at hl 4 rfl) ?_
    refine lv_aload_n hx hb dX5_cell_29 rfl (lv_at hl 0 rfl) ?_
    refine s_get (C := RX5) (T := TX5) C0 G i_X5 0 0 rfl rfl (by decide) q713 rfl dX5_cell_30 ?_
    refine lv_iconst (v := (1 : Int32)) hx hb dX5_cell_33 (by decide) ?_
    refine s_iald (k := 1) C0 G 1 0 rfl rfl (vin (by decide)) (by decide) dX5_cell_34 ?_
    refine lv_icmp_ge (tgt := 60) hx hb dX5_cell_35 (by decide) (fun hc6 => ?_) (fun hc6 => ?_)
    · have hf := itp hc6 hf
      refine lv_iload_n hx hb dX5_cell_60 rfl (lv_at hl 2 rfl) ?_
      refine lv_if_ne (tgt := 76) hx hb dX5_cell_61 (by decide) (fun hc7 => ?_) (fun hc7 => ?_)
      · have hf := itn hc7 hf
        refine lv_iload_n hx hb dX5_cell_76 rfl (lv_at hl 3 rfl) ?_
        obtain ⟨rfl, rfl⟩ := inj2 hf
        exact ret_i C0 G dX5_cell_77
      · have hf := itp hc7 hf
        refine lv_aload_n hx hb dX5_cell_64 rfl (lv_at hl 0 rfl) ?_
        refine s_get (C := RX5) (T := TX5) C0 G i_X5 0 0 rfl rfl (by decide) q713 rfl dX5_cell_65 ?_
        refine lv_bipush (v := (6 : Int32)) hx hb dX5_cell_68 (by decide) ?_
        refine lv_iload_n hx hb dX5_cell_70 rfl (lv_at hl 1 rfl) ?_
        refine lv_iadd hx hb dX5_cell_71 ?_
        obtain ⟨hi8, hf⟩ := gd_s hf
        refine s_iald (k := ((6 : Int32) + v1).toNatClampNeg) C0 G 1 0 rfl rfl (vin hi8) rfl dX5_cell_72 ?_
        refine lv_goto (tgt := 77) hx hb dX5_cell_73 (by decide) ?_
        obtain ⟨rfl, rfl⟩ := inj2 hf
        exact ret_i C0 G dX5_cell_77
    · have hf := itn hc6 hf
      refine lv_iload_n hx hb dX5_cell_38 rfl (lv_at hl 3 rfl) ?_
      refine lv_aload_n hx hb dX5_cell_39 rfl (lv_at hl 0 rfl) ?_
      refine lv_iload hx hb dX5_cell_40 (lv_at hl 4 rfl) ?_
      obtain ⟨r9, hc10, hf⟩ := ob1_s hf
      refine go_i C0 G (runV_of (n := 1) (q0 := 0) (As := [.int v4]) (rest := [.int v3]) C0 G (c5_spanOf hX hc10) q797 q54 q794 q796 q10 o5_spanOf ⟨rfl, rfl⟩ ⟨Nat.le_of_ble_eq_true rfl, Nat.le_of_ble_eq_true rfl⟩ rfl rfl rfl hl.1 rfl (Nat.le_of_ble_eq_true rfl) dX5_cell_42) (fun H locs G => ?_)
      refine lv_iload_n hx hb dX5_cell_45 rfl (lv_at hl 1 rfl) ?_
      refine lv_ishr hx hb dX5_cell_46 ?_
      refine lv_iconst (v := (1 : Int32)) hx hb dX5_cell_47 (by decide) ?_
      refine lv_iand hx hb dX5_cell_48 ?_
      refine lv_iload hx hb dX5_cell_49 (lv_at hl 4 rfl) ?_
      refine lv_ishl hx hb dX5_cell_51 ?_
      refine lv_ior hx hb dX5_cell_52 ?_
      refine lv_istore_n (lv' := [(3, .int (v3 ||| (((r9 >>> (v1 &&& 31)) &&& (1 : Int32)) <<< (v4 &&& 31)))), (0, .ref (ad 0)), (1, .int v1), (2, .int v2), (4, .int v4)]) hx hb dX5_cell_53 rfl hl (by decide) rfl (fun ls hl => ?_)
      refine lv_iinc (v := (v4 + (1 : Int32))) (lv' := [(4, .int (v4 + (1 : Int32))), (3, .int (v3 ||| (((r9 >>> (v1 &&& 31)) &&& (1 : Int32)) <<< (v4 &&& 31)))), (0, .ref (ad 0)), (1, .int v1), (2, .int v2)]) hx hb dX5_cell_54 hl (k := 4) rfl rfl (by decide) rfl (fun ls hl => ?_)
      refine lv_goto (tgt := 27) hx hb dX5_cell_57 (by decide) ?_
      exact ih G (lv_sub hl [2, 3, 4, 1, 0] rfl) hf
set_option maxHeartbeats 4000000 in
set_option maxRecDepth 100000 in
theorem b5_cell_0 {X : XP} {p : Program} {l : Launch} {e : Env} {s : State} {m : MethodId} {args : Array Value} {below : List Frame} {meth : Method} {c : Code} {D : va_G} {cI cC : ClassId} {ad : Nat → Nat} {A : Nat → Prop} {xs : Nat → Int32} {xkept : Nat → Int32} {xaside : Nat → Int32} {xisK : Int32} {xgone : Int32} {xover : Nat → Int32} {xtape : Nat → Int32} {xtaped : Int32} {xtok : Int32} {xbeg : Int32} {xend : Int32} {xval : Int64} {xwid : Nat → Int32} {xsiz : Nat → Int32} {xcel : Nat → Int32} {xcar : Nat → Int32} {r0 : Int32} {o_xfound : Nat → Int32} (C0 : CX X p s m args meth c cX5_cell 5 (some .int) RX5 A) : ∀ {xfound : Nat → Int32} {v1 : Int32} {v2 : Int32} {H : Heap} {locs : List Loc} {ls : Array Slot}, GX X D (tyM cI cC) A s (wM cI cC ad xs xkept xaside xisK xfound xgone xover xtape xtaped xtok xbeg xend xval xwid xsiz xcel xcar) H locs → lv_has ls 5 [(0, .ref (ad 0)), (1, .int v1), (2, .int v2)] → f5_cell xs xfound v1 v2 = some (r0, o_xfound) → W p l e ({ frames := 3, cells := 0, slots := 0, locals := 69 }) s m args below meth c H locs 0 0 (MQ below (QcI D (tyM cI cC) (wM cI cC ad xs xkept xaside xisK o_xfound xgone xover xtape xtaped xtok xbeg xend xval xwid xsiz xcel xcar) A r0) args s 0 0 A) (F0 m 0 ls []) := by
  have hx := C0.1
  have hb := C0.2.1
  have hown := C0.2.2.2.2.1
  have hts := C0.2.2.2.2.2.1
  have hX := C0.2.2.2.2.2.2.2.2
  intro xfound v1 v2 H locs ls G hl hf
  unfold f5_cell at hf
  refine lv_iload_n hx hb dX5_cell_0 rfl (lv_at hl 1 rfl) ?_
  refine go_i C0 G (runS_of (n := 1) (As := [.int v1]) (rest := []) C0 G (c5_isCell hX rfl) q781 q54 q779 q780 o5_isCell ⟨rfl, rfl⟩ ⟨Nat.le_of_ble_eq_true rfl, Nat.le_of_ble_eq_true rfl⟩ rfl hl.1 rfl (Nat.le_of_ble_eq_true rfl) dX5_cell_1) (fun H locs G => ?_)
  refine lv_if_eq (tgt := 16) hx hb dX5_cell_4 (by decide) (fun hc1 => ?_) (fun hc1 => ?_)
  · have hf := itp hc1 hf
    exact b5_cell_16 C0  G (lv_sub hl [0] rfl) hf
  · have hf := itn hc1 hf
    refine lv_iload_n hx hb dX5_cell_7 rfl (lv_at hl 2 rfl) ?_
    refine lv_iconst (v := (0 : Int32)) hx hb dX5_cell_8 (by decide) ?_
    refine lv_iconst (v := (1 : Int32)) hx hb dX5_cell_9 (by decide) ?_
    refine go_i C0 G (runS_of (n := 3) (As := [.int v2, .int (0 : Int32), .int (1 : Int32)]) (rest := []) C0 G (c5_in1 hX rfl) q784 q54 q782 q783 o5_in1 ⟨rfl, rfl⟩ ⟨Nat.le_of_ble_eq_true rfl, Nat.le_of_ble_eq_true rfl⟩ rfl hl.1 rfl (Nat.le_of_ble_eq_true rfl) dX5_cell_10) (fun H locs G => ?_)
    refine lv_if_ne (tgt := 22) hx hb dX5_cell_13 (by decide) (fun hc2 => ?_) (fun hc2 => ?_)
    · have hf := itn hc2 hf
      refine lv_iconst (v := (0 : Int32)) hx hb dX5_cell_22 (by decide) ?_
      refine lv_istore_n (lv' := [(3, .int (0 : Int32)), (0, .ref (ad 0)), (1, .int v1), (2, .int v2)]) hx hb dX5_cell_23 rfl hl (by decide) rfl (fun ls hl => ?_)
      refine lv_iconst (v := (0 : Int32)) hx hb dX5_cell_24 (by decide) ?_
      refine lv_istore (lv' := [(4, .int (0 : Int32)), (3, .int (0 : Int32)), (0, .ref (ad 0)), (1, .int v1), (2, .int v2)]) hx hb dX5_cell_25 hl (by decide) rfl (fun ls hl => ?_)
      exact b5_cell_27 C0  1000 G (lv_sub hl [2, 3, 4, 1, 0] rfl) hf
    · have hf := itp hc2 hf
      exact b5_cell_16 C0  G (lv_sub hl [0] rfl) hf
theorem o5_cell : okName yX5_cell 2 := ⟨by decide, by decide, by decide +kernel⟩
set_option maxHeartbeats 4000000 in
set_option maxRecDepth 100000 in
theorem c5_cell {X : XP} (hX : XT X) {l : Launch} {D : va_G} {cI cC : ClassId} {ad : Nat → Nat} {sz : Nat} {xs : Nat → Int32} {xkept : Nat → Int32} {xaside : Nat → Int32} {xisK : Int32} {xfound : Nat → Int32} {xgone : Int32} {xover : Nat → Int32} {xtape : Nat → Int32} {xtaped : Int32} {xtok : Int32} {xbeg : Int32} {xend : Int32} {xval : Int64} {xwid : Nat → Int32} {xsiz : Nat → Int32} {xcel : Nat → Int32} {xcar : Nat → Int32} {v1 : Int32} {v2 : Int32} {r0 : Int32} {o_xfound : Nat → Int32} (hf : f5_cell xs xfound v1 v2 = some (r0, o_xfound)) : Met l yX5_cell (wU yX5_cell cX5_cell 5 (some .int)) ({ frames := 3, cells := 0, slots := 0, locals := 69 }) (va_Pc [.ref (ad 0), .int v1, .int v2] (PreW X D (tyM cI cC) (wM cI cC ad xs xkept xaside xisK xfound xgone xover xtape xtaped xtok xbeg xend xval xwid xsiz xcel xcar) sz)) (QcI D (tyM cI cC) (wM cI cC ad xs xkept xaside xisK o_xfound xgone xover xtape xtaped xtok xbeg xend xval xwid xsiz xcel xcar) (va_A (wM cI cC ad xs xkept xaside xisK xfound xgone xover xtape xtaped xtok xbeg xend xval xwid xsiz xcel xcar) sz) r0) 0 0 (va_A (wM cI cC ad xs xkept xaside xisK xfound xgone xover xtape xtaped xtok xbeg xend xval xwid xsiz xcel xcar) sz) := by
  refine startW hX (own := RX5) (by decide) rfl (Nat.le_of_ble_eq_true rfl) (fun p e s m args below meth c ls C0 G hl => ?_)
  exact b5_cell_0 C0 G hl hf
/-! 5_set -/
theorem dX5_set_0 : decode cX5_set 0 = .ok (.iload_n 1, 1) := by decide +kernel
theorem dX5_set_1 : decode cX5_set 1 = .ok (.iconst 0, 1) := by decide +kernel
theorem dX5_set_2 : decode cX5_set 2 = .ok (.iconst 2, 1) := by decide +kernel
theorem dX5_set_3 : decode cX5_set 3 = .ok (.invokestatic 51, 3) := by decide +kernel
theorem dX5_set_6 : decode cX5_set 6 = .ok (.ifCond .eq 32, 3) := by decide +kernel
theorem dX5_set_9 : decode cX5_set 9 = .ok (.iload_n 2, 1) := by decide +kernel
theorem dX5_set_10 : decode cX5_set 10 = .ok (.iconst 0, 1) := by decide +kernel
theorem dX5_set_11 : decode cX5_set 11 = .ok (.iload_n 1, 1) := by decide +kernel
theorem dX5_set_12 : decode cX5_set 12 = .ok (.ifCond .ne 9, 3) := by decide +kernel
theorem dX5_set_15 : decode cX5_set 15 = .ok (.sipush 9999, 3) := by decide +kernel
theorem dX5_set_18 : decode cX5_set 18 = .ok (.goto 14, 3) := by decide +kernel
theorem dX5_set_21 : decode cX5_set 21 = .ok (.iload_n 1, 1) := by decide +kernel
theorem dX5_set_22 : decode cX5_set 22 = .ok (.iconst 1, 1) := by decide +kernel
theorem dX5_set_23 : decode cX5_set 23 = .ok (.if_icmp .ne 7, 3) := by decide +kernel
theorem dX5_set_26 : decode cX5_set 26 = .ok (.iconst 5, 1) := by decide +kernel
theorem dX5_set_27 : decode cX5_set 27 = .ok (.goto 5, 3) := by decide +kernel
theorem dX5_set_30 : decode cX5_set 30 = .ok (.bipush 9, 2) := by decide +kernel
theorem dX5_set_32 : decode cX5_set 32 = .ok (.invokestatic 51, 3) := by decide +kernel
theorem dX5_set_35 : decode cX5_set 35 = .ok (.ifCond .ne 9, 3) := by decide +kernel
theorem dX5_set_38 : decode cX5_set 38 = .ok (.aload_n 0, 1) := by decide +kernel
theorem dX5_set_39 : decode cX5_set 39 = .ok (.iconst 0, 1) := by decide +kernel
theorem dX5_set_40 : decode cX5_set 40 = .ok (.invokevirtual 105, 3) := by decide +kernel
theorem dX5_set_43 : decode cX5_set 43 = .ok (.ireturn, 1) := by decide +kernel
theorem dX5_set_44 : decode cX5_set 44 = .ok (.aload_n 0, 1) := by decide +kernel
theorem dX5_set_45 : decode cX5_set 45 = .ok (.getfield 9, 3) := by decide +kernel
theorem dX5_set_48 : decode cX5_set 48 = .ok (.iconst 3, 1) := by decide +kernel
theorem dX5_set_49 : decode cX5_set 49 = .ok (.iload_n 1, 1) := by decide +kernel
theorem dX5_set_50 : decode cX5_set 50 = .ok (.iadd, 1) := by decide +kernel
theorem dX5_set_51 : decode cX5_set 51 = .ok (.iaload, 1) := by decide +kernel
theorem dX5_set_52 : decode cX5_set 52 = .ok (.istore_n 3, 1) := by decide +kernel
theorem dX5_set_53 : decode cX5_set 53 = .ok (.aload_n 0, 1) := by decide +kernel
theorem dX5_set_54 : decode cX5_set 54 = .ok (.getfield 9, 3) := by decide +kernel
theorem dX5_set_57 : decode cX5_set 57 = .ok (.iconst 3, 1) := by decide +kernel
theorem dX5_set_58 : decode cX5_set 58 = .ok (.iload_n 1, 1) := by decide +kernel
theorem dX5_set_59 : decode cX5_set 59 = .ok (.iadd, 1) := by decide +kernel
theorem dX5_set_60 : decode cX5_set 60 = .ok (.iload_n 2, 1) := by decide +kernel
theorem dX5_set_61 : decode cX5_set 61 = .ok (.iastore, 1) := by decide +kernel
theorem dX5_set_62 : decode cX5_set 62 = .ok (.iload_n 3, 1) := by decide +kernel
theorem dX5_set_63 : decode cX5_set 63 = .ok (.ireturn, 1) := by decide +kernel
def j5_set_38  (xs : Nat → Int32) (xfound : Nat → Int32)  : Option (Int32 × (Nat → Int32) × (Nat → Int32)) :=
  ob2 (f5_no xfound (0 : Int32)) (fun r4 xfound_5 =>
  some (r4, xs, xfound_5))
def j5_set_32  (xs : Nat → Int32) (xfound : Nat → Int32) (v1 : Int32) (v2 : Int32) (t0 : Int32) (t1 : Int32) (t2 : Int32) : Option (Int32 × (Nat → Int32) × (Nat → Int32)) :=
  if (f5_in1 t0 t1 t2) = (0 : Int32) then (
    j5_set_38 xs xfound)
  else (
    gd (inb ((3 : Int32) + v1) 88) (
    gd (inb ((3 : Int32) + v1) 88) (
    some ((xs (((3 : Int32) + v1).toNatClampNeg)), (upd xs (((3 : Int32) + v1).toNatClampNeg) v2), xfound))))
def f5_set (xs : Nat → Int32) (xfound : Nat → Int32) (v1 : Int32) (v2 : Int32) : Option (Int32 × (Nat → Int32) × (Nat → Int32)) :=
  if (f5_in1 v1 (0 : Int32) (2 : Int32)) = (0 : Int32) then (
    j5_set_38 xs xfound)
  else (
    if v1 = (0 : Int32) then (
      j5_set_32 xs xfound v1 v2 v2 (0 : Int32) (9999 : Int32))
    else (
      if v1 = (1 : Int32) then (
        j5_set_32 xs xfound v1 v2 v2 (0 : Int32) (5 : Int32))
      else (
        j5_set_32 xs xfound v1 v2 v2 (0 : Int32) (9 : Int32))))
set_option maxHeartbeats 4000000 in
set_option maxRecDepth 100000 in
theorem b5_set_38 {X : XP} {p : Program} {l : Launch} {e : Env} {s : State} {m : MethodId} {args : Array Value} {below : List Frame} {meth : Method} {c : Code} {D : va_G} {cI cC : ClassId} {ad : Nat → Nat} {A : Nat → Prop} {xkept : Nat → Int32} {xaside : Nat → Int32} {xisK : Int32} {xgone : Int32} {xover : Nat → Int32} {xtape : Nat → Int32} {xtaped : Int32} {xtok : Int32} {xbeg : Int32} {xend : Int32} {xval : Int64} {xwid : Nat → Int32} {xsiz : Nat → Int32} {xcel : Nat → Int32} {xcar : Nat → Int32} {r0 : Int32} {o_xs : Nat → Int32} {o_xfound : Nat → Int32} (C0 : CX X p s m args meth c cX5_set 4 (some .int) RX5 A) : ∀ {xs : Nat → Int32} {xfound : Nat → Int32} {H : Heap} {locs : List Loc} {ls : Array Slot}, GX X D (tyM cI cC) A s (wM cI cC ad xs xkept xaside xisK xfound xgone xover xtape xtaped xtok xbeg xend xval xwid xsiz xcel xcar) H locs → lv_has ls 4 [(0, .ref (ad 0))] → j5_set_38  xs xfound = some (r0, o_xs, o_xfound) → W p l e ({ frames := 1, cells := 0, slots := 0, locals := 22 }) s m args below meth c H locs 0 0 (MQ below (QcI D (tyM cI cC) (wM cI cC ad o_xs xkept xaside xisK o_xfound xgone xover xtape xtaped xtok xbeg xend xval xwid xsiz xcel xcar) A r0) args s 0 0 A) (F0 m 38 ls []) := by
  have hx := C0.1
  have hb := C0.2.1
  have hown := C0.2.2.2.2.1
  have hts := C0.2.2.2.2.2.1
  have hX := C0.2.2.2.2.2.2.2.2
  intro xs xfound H locs ls G hl hf
  unfold j5_set_38 at hf
  refine lv_aload_n hx hb dX5_set_38 rfl (lv_at hl 0 rfl) ?_
  refine lv_iconst (v := (0 : Int32)) hx hb dX5_set_39 (by decide) ?_
  obtain ⟨r4, xfound_5, hc6, hf⟩ := ob2_s hf
  refine go_i C0 G (runV_of (n := 1) (q0 := 0) (As := [.int (0 : Int32)]) (rest := []) C0 G (c5_no hX hc6) q788 q54 q785 q787 q9 o5_no ⟨rfl, rfl⟩ ⟨Nat.le_of_ble_eq_true rfl, Nat.le_of_ble_eq_true rfl⟩ rfl rfl rfl hl.1 rfl (Nat.le_of_ble_eq_true rfl) dX5_set_40) (fun H locs G => ?_)
  obtain ⟨rfl, rfl, rfl⟩ := inj3 hf
  exact ret_i C0 G dX5_set_43
set_option maxHeartbeats 4000000 in
set_option maxRecDepth 100000 in
theorem b5_set_32 {X : XP} {p : Program} {l : Launch} {e : Env} {s : State} {m : MethodId} {args : Array Value} {below : List Frame} {meth : Method} {c : Code} {D : va_G} {cI cC : ClassId} {ad : Nat → Nat} {A : Nat → Prop} {xkept : Nat → Int32} {xaside : Nat → Int32} {xisK : Int32} {xgone : Int32} {xover : Nat → Int32} {xtape : Nat → Int32} {xtaped : Int32} {xtok : Int32} {xbeg : Int32} {xend : Int32} {xval : Int64} {xwid : Nat → Int32} {xsiz : Nat → Int32} {xcel : Nat → Int32} {xcar : Nat → Int32} {r0 : Int32} {o_xs : Nat → Int32} {o_xfound : Nat → Int32} (C0 : CX X p s m args meth c cX5_set 4 (some .int) RX5 A) : ∀ {xs : Nat → Int32} {xfound : Nat → Int32} {v1 : Int32} {v2 : Int32} {t0 : Int32} {t1 : Int32} {t2 : Int32} {H : Heap} {locs : List Loc} {ls : Array Slot}, GX X D (tyM cI cC) A s (wM cI cC ad xs xkept xaside xisK xfound xgone xover xtape xtaped xtok xbeg xend xval xwid xsiz xcel xcar) H locs → lv_has ls 4 [(0, .ref (ad 0)), (1, .int v1), (2, .int v2)] → j5_set_32  xs xfound v1 v2 t0 t1 t2 = some (r0, o_xs, o_xfound) → W p l e ({ frames := 1, cells := 0, slots := 0, locals := 22 }) s m args below meth c H locs 0 0 (MQ below (QcI D (tyM cI cC) (wM cI cC ad o_xs xkept xaside xisK o_xfound xgone xover xtape xtaped xtok xbeg xend xval xwid xsiz xcel xcar) A r0) args s 0 0 A) (F0 m 32 ls [.int t2, .int t1, .int t0]) := by
  have hx := C0.1
  have hb := C0.2.1
  have hown := C0.2.2.2.2.1
  have hts := C0.2.2.2.2.2.1
  have hX := C0.2.2.2.2.2.2.2.2
  intro xs xfound v1 v2 t0 t1 t2 H locs ls G hl hf
  unfold j5_set_32 at hf
  refine go_i C0 G (runS_of (n := 3) (As := [.int t0, .int t1, .int t2]) (rest := []) C0 G (c5_in1 hX rfl) q784 q54 q782 q783 o5_in1 ⟨rfl, rfl⟩ ⟨Nat.le_of_ble_eq_true rfl, Nat.le_of_ble_eq_true rfl⟩ rfl hl.1 rfl (Nat.le_of_ble_eq_true rfl) dX5_set_32) (fun H locs G => ?_)
  refine lv_if_ne (tgt := 44) hx hb dX5_set_35 (by decide) (fun hc7 => ?_) (fun hc7 => ?_)
  · have hf := itn hc7 hf
    refine lv_aload_n hx hb dX5_set_44 rfl (lv_at hl 0 rfl) ?_
    refine s_get (C := RX5) (T := TX5) C0 G i_X5 0 0 rfl rfl (by decide) q713 rfl dX5_set_45 ?_
    refine lv_iconst (v := (3 : Int32)) hx hb dX5_set_48 (by decide) ?_
    refine lv_iload_n hx hb dX5_set_49 rfl (lv_at hl 1 rfl) ?_
    refine lv_iadd hx hb dX5_set_50 ?_
    obtain ⟨hi8, hf⟩ := gd_s hf
    refine s_iald (k := ((3 : Int32) + v1).toNatClampNeg) C0 G 1 0 rfl rfl (vin hi8) rfl dX5_set_51 ?_
    refine lv_istore_n (lv' := [(3, .int (xs (((3 : Int32) + v1).toNatClampNeg))), (0, .ref (ad 0)), (1, .int v1), (2, .int v2)]) hx hb dX5_set_52 rfl hl (by decide) rfl (fun ls hl => ?_)
    refine lv_aload_n hx hb dX5_set_53 rfl (lv_at hl 1 rfl) ?_
    refine s_get (C := RX5) (T := TX5) C0 G i_X5 0 0 rfl rfl (by decide) q713 rfl dX5_set_54 ?_
    refine lv_iconst (v := (3 : Int32)) hx hb dX5_set_57 (by decide) ?_
    refine lv_iload_n hx hb dX5_set_58 rfl (lv_at hl 2 rfl) ?_
    refine lv_iadd hx hb dX5_set_59 ?_
    refine lv_iload_n hx hb dX5_set_60 rfl (lv_at hl 3 rfl) ?_
    obtain ⟨hi9, hf⟩ := gd_s hf
    refine s_iast (k := ((3 : Int32) + v1).toNatClampNeg) (w' := (wM cI cC ad (upd xs (((3 : Int32) + v1).toNatClampNeg) v2) xkept xaside xisK xfound xgone xover xtape xtaped xtok xbeg xend xval xwid xsiz xcel xcar)) C0 G 1 0 rfl rfl (vin hi9) rfl rfl dX5_set_61 (fun H locs G => ?_)
    refine lv_iload_n hx hb dX5_set_62 rfl (lv_at hl 0 rfl) ?_
    obtain ⟨rfl, rfl, rfl⟩ := inj3 hf
    exact ret_i C0 G dX5_set_63
  · have hf := itp hc7 hf
    exact b5_set_38 C0  G (lv_sub hl [0] rfl) hf
set_option maxHeartbeats 4000000 in
set_option maxRecDepth 100000 in
theorem b5_set_0 {X : XP} {p : Program} {l : Launch} {e : Env} {s : State} {m : MethodId} {args : Array Value} {below : List Frame} {meth : Method} {c : Code} {D : va_G} {cI cC : ClassId} {ad : Nat → Nat} {A : Nat → Prop} {xkept : Nat → Int32} {xaside : Nat → Int32} {xisK : Int32} {xgone : Int32} {xover : Nat → Int32} {xtape : Nat → Int32} {xtaped : Int32} {xtok : Int32} {xbeg : Int32} {xend : Int32} {xval : Int64} {xwid : Nat → Int32} {xsiz : Nat → Int32} {xcel : Nat → Int32} {xcar : Nat → Int32} {r0 : Int32} {o_xs : Nat → Int32} {o_xfound : Nat → Int32} (C0 : CX X p s m args meth c cX5_set 4 (some .int) RX5 A) : ∀ {xs : Nat → Int32} {xfound : Nat → Int32} {v1 : Int32} {v2 : Int32} {H : Heap} {locs : List Loc} {ls : Array Slot}, GX X D (tyM cI cC) A s (wM cI cC ad xs xkept xaside xisK xfound xgone xover xtape xtaped xtok xbeg xend xval xwid xsiz xcel xcar) H locs → lv_has ls 4 [(0, .ref (ad 0)), (1, .int v1), (2, .int v2)] → f5_set xs xfound v1 v2 = some (r0, o_xs, o_xfound) → W p l e ({ frames := 1, cells := 0, slots := 0, locals := 22 }) s m args below meth c H locs 0 0 (MQ below (QcI D (tyM cI cC) (wM cI cC ad o_xs xkept xaside xisK o_xfound xgone xover xtape xtaped xtok xbeg xend xval xwid xsiz xcel xcar) A r0) args s 0 0 A) (F0 m 0 ls []) := by
  have hx := C0.1
  have hb := C0.2.1
  have hown := C0.2.2.2.2.1
  have hts := C0.2.2.2.2.2.1
  have hX := C0.2.2.2.2.2.2.2.2
  intro xs xfound v1 v2 H locs ls G hl hf
  unfold f5_set at hf
  refine lv_iload_n hx hb dX5_set_0 rfl (lv_at hl 1 rfl) ?_
  refine lv_iconst (v := (0 : Int32)) hx hb dX5_set_1 (by decide) ?_
  refine lv_iconst (v := (2 : Int32)) hx hb dX5_set_2 (by decide) ?_
  refine go_i C0 G (runS_of (n := 3) (As := [.int v1, .int (0 : Int32), .int (2 : Int32)]) (rest := []) C0 G (c5_in1 hX rfl) q784 q54 q782 q783 o5_in1 ⟨rfl, rfl⟩ ⟨Nat.le_of_ble_eq_true rfl, Nat.le_of_ble_eq_true rfl⟩ rfl hl.1 rfl (Nat.le_of_ble_eq_true rfl) dX5_set_3) (fun H locs G => ?_)
  refine lv_if_eq (tgt := 38) hx hb dX5_set_6 (by decide) (fun hc1 => ?_) (fun hc1 => ?_)
  · have hf := itp hc1 hf
    exact b5_set_38 C0  G (lv_sub hl [0] rfl) hf
  · have hf := itn hc1 hf
    refine lv_iload_n hx hb dX5_set_9 rfl (lv_at hl 2 rfl) ?_
    refine lv_iconst (v := (0 : Int32)) hx hb dX5_set_10 (by decide) ?_
    refine lv_iload_n hx hb dX5_set_11 rfl (lv_at hl 1 rfl) ?_
    refine lv_if_ne (tgt := 21) hx hb dX5_set_12 (by decide) (fun hc2 => ?_) (fun hc2 => ?_)
    · have hf := itn hc2 hf
      refine lv_iload_n hx hb dX5_set_21 rfl (lv_at hl 1 rfl) ?_
      refine lv_iconst (v := (1 : Int32)) hx hb dX5_set_22 (by decide) ?_
      refine lv_icmp_ne (tgt := 30) hx hb dX5_set_23 (by decide) (fun hc3 => ?_) (fun hc3 => ?_)
      · have hf := itn hc3 hf
        refine lv_bipush (v := (9 : Int32)) hx hb dX5_set_30 (by decide) ?_
        exact b5_set_32 C0  G (lv_sub hl [0, 1, 2] rfl) hf
      · have hf := itp hc3 hf
        refine lv_iconst (v := (5 : Int32)) hx hb dX5_set_26 (by decide) ?_
        refine lv_goto (tgt := 32) hx hb dX5_set_27 (by decide) ?_
        exact b5_set_32 C0  G (lv_sub hl [0, 1, 2] rfl) hf
    · have hf := itp hc2 hf
      refine lv_sipush (v := (9999 : Int32)) hx hb dX5_set_15 (by decide) ?_
      refine lv_goto (tgt := 32) hx hb dX5_set_18 (by decide) ?_
      exact b5_set_32 C0  G (lv_sub hl [0, 1, 2] rfl) hf
theorem o5_set : okName yX5_set 2 := ⟨by decide, by decide, by decide +kernel⟩
set_option maxHeartbeats 4000000 in
set_option maxRecDepth 100000 in
theorem c5_set {X : XP} (hX : XT X) {l : Launch} {D : va_G} {cI cC : ClassId} {ad : Nat → Nat} {sz : Nat} {xs : Nat → Int32} {xkept : Nat → Int32} {xaside : Nat → Int32} {xisK : Int32} {xfound : Nat → Int32} {xgone : Int32} {xover : Nat → Int32} {xtape : Nat → Int32} {xtaped : Int32} {xtok : Int32} {xbeg : Int32} {xend : Int32} {xval : Int64} {xwid : Nat → Int32} {xsiz : Nat → Int32} {xcel : Nat → Int32} {xcar : Nat → Int32} {v1 : Int32} {v2 : Int32} {r0 : Int32} {o_xs : Nat → Int32} {o_xfound : Nat → Int32} (hf : f5_set xs xfound v1 v2 = some (r0, o_xs, o_xfound)) : Met l yX5_set (wU yX5_set cX5_set 4 (some .int)) ({ frames := 1, cells := 0, slots := 0, locals := 22 }) (va_Pc [.ref (ad 0), .int v1, .int v2] (PreW X D (tyM cI cC) (wM cI cC ad xs xkept xaside xisK xfound xgone xover xtape xtaped xtok xbeg xend xval xwid xsiz xcel xcar) sz)) (QcI D (tyM cI cC) (wM cI cC ad o_xs xkept xaside xisK o_xfound xgone xover xtape xtaped xtok xbeg xend xval xwid xsiz xcel xcar) (va_A (wM cI cC ad xs xkept xaside xisK xfound xgone xover xtape xtaped xtok xbeg xend xval xwid xsiz xcel xcar) sz) r0) 0 0 (va_A (wM cI cC ad xs xkept xaside xisK xfound xgone xover xtape xtaped xtok xbeg xend xval xwid xsiz xcel xcar) sz) := by
  refine startW hX (own := RX5) (by decide) rfl (Nat.le_of_ble_eq_true rfl) (fun p e s m args below meth c ls C0 G hl => ?_)
  exact b5_set_0 C0 G hl hf
/-! 5_puts -/
theorem dX5_puts_0 : decode cX5_puts 0 = .ok (.aload_n 0, 1) := by decide +kernel
theorem dX5_puts_1 : decode cX5_puts 1 = .ok (.getfield 9, 3) := by decide +kernel
theorem dX5_puts_4 : decode cX5_puts 4 = .ok (.bipush 22, 2) := by decide +kernel
theorem dX5_puts_6 : decode cX5_puts 6 = .ok (.bipush 7, 2) := by decide +kernel
theorem dX5_puts_8 : decode cX5_puts 8 = .ok (.iload_n 1, 1) := by decide +kernel
theorem dX5_puts_9 : decode cX5_puts 9 = .ok (.imul, 1) := by decide +kernel
theorem dX5_puts_10 : decode cX5_puts 10 = .ok (.iadd, 1) := by decide +kernel
theorem dX5_puts_11 : decode cX5_puts 11 = .ok (.iload_n 2, 1) := by decide +kernel
theorem dX5_puts_12 : decode cX5_puts 12 = .ok (.iadd, 1) := by decide +kernel
theorem dX5_puts_13 : decode cX5_puts 13 = .ok (.iload_n 3, 1) := by decide +kernel
theorem dX5_puts_14 : decode cX5_puts 14 = .ok (.iastore, 1) := by decide +kernel
theorem dX5_puts_15 : decode cX5_puts 15 = .ok (.return_, 1) := by decide +kernel
def f5_puts (xs : Nat → Int32) (v1 : Int32) (v2 : Int32) (v3 : Int32) : Option ((Nat → Int32)) :=
  gd (inb (((22 : Int32) + ((7 : Int32) * v1)) + v2) 88) (
  some (upd xs ((((22 : Int32) + ((7 : Int32) * v1)) + v2).toNatClampNeg) v3))
set_option maxHeartbeats 4000000 in
set_option maxRecDepth 100000 in
theorem b5_puts_0 {X : XP} {p : Program} {l : Launch} {e : Env} {s : State} {m : MethodId} {args : Array Value} {below : List Frame} {meth : Method} {c : Code} {D : va_G} {cI cC : ClassId} {ad : Nat → Nat} {A : Nat → Prop} {xkept : Nat → Int32} {xaside : Nat → Int32} {xisK : Int32} {xfound : Nat → Int32} {xgone : Int32} {xover : Nat → Int32} {xtape : Nat → Int32} {xtaped : Int32} {xtok : Int32} {xbeg : Int32} {xend : Int32} {xval : Int64} {xwid : Nat → Int32} {xsiz : Nat → Int32} {xcel : Nat → Int32} {xcar : Nat → Int32} {o_xs : Nat → Int32} (C0 : CX X p s m args meth c cX5_puts 4 none RX5 A) : ∀ {xs : Nat → Int32} {v1 : Int32} {v2 : Int32} {v3 : Int32} {H : Heap} {locs : List Loc} {ls : Array Slot}, GX X D (tyM cI cC) A s (wM cI cC ad xs xkept xaside xisK xfound xgone xover xtape xtaped xtok xbeg xend xval xwid xsiz xcel xcar) H locs → lv_has ls 4 [(0, .ref (ad 0)), (1, .int v1), (2, .int v2), (3, .int v3)] → f5_puts xs v1 v2 v3 = some o_xs → W p l e ({ frames := 0, cells := 0, slots := 0, locals := 0 }) s m args below meth c H locs 0 0 (MQ below (QcV D (tyM cI cC) (wM cI cC ad o_xs xkept xaside xisK xfound xgone xover xtape xtaped xtok xbeg xend xval xwid xsiz xcel xcar) A) args s 0 0 A) (F0 m 0 ls []) := by
  have hx := C0.1
  have hb := C0.2.1
  have hown := C0.2.2.2.2.1
  have hts := C0.2.2.2.2.2.1
  have hX := C0.2.2.2.2.2.2.2.2
  intro xs v1 v2 v3 H locs ls G hl hf
  unfold f5_puts at hf
  refine lv_aload_n hx hb dX5_puts_0 rfl (lv_at hl 0 rfl) ?_
  refine s_get (C := RX5) (T := TX5) C0 G i_X5 0 0 rfl rfl (by decide) q713 rfl dX5_puts_1 ?_
  refine lv_bipush (v := (22 : Int32)) hx hb dX5_puts_4 (by decide) ?_
  refine lv_bipush (v := (7 : Int32)) hx hb dX5_puts_6 (by decide) ?_
  refine lv_iload_n hx hb dX5_puts_8 rfl (lv_at hl 1 rfl) ?_
  refine lv_imul hx hb dX5_puts_9 ?_
  refine lv_iadd hx hb dX5_puts_10 ?_
  refine lv_iload_n hx hb dX5_puts_11 rfl (lv_at hl 2 rfl) ?_
  refine lv_iadd hx hb dX5_puts_12 ?_
  refine lv_iload_n hx hb dX5_puts_13 rfl (lv_at hl 3 rfl) ?_
  obtain ⟨hi1, hf⟩ := gd_s hf
  refine s_iast (k := (((22 : Int32) + ((7 : Int32) * v1)) + v2).toNatClampNeg) (w' := (wM cI cC ad (upd xs ((((22 : Int32) + ((7 : Int32) * v1)) + v2).toNatClampNeg) v3) xkept xaside xisK xfound xgone xover xtape xtaped xtok xbeg xend xval xwid xsiz xcel xcar)) C0 G 1 0 rfl rfl (vin hi1) rfl rfl dX5_puts_14 (fun H locs G => ?_)
  obtain rfl := inj1 hf
  exact ret_v C0 G dX5_puts_15
theorem o5_puts : okName yX5_puts 3 := ⟨by decide, by decide, by decide +kernel⟩
set_option maxHeartbeats 4000000 in
set_option maxRecDepth 100000 in
theorem c5_puts {X : XP} (hX : XT X) {l : Launch} {D : va_G} {cI cC : ClassId} {ad : Nat → Nat} {sz : Nat} {xs : Nat → Int32} {xkept : Nat → Int32} {xaside : Nat → Int32} {xisK : Int32} {xfound : Nat → Int32} {xgone : Int32} {xover : Nat → Int32} {xtape : Nat → Int32} {xtaped : Int32} {xtok : Int32} {xbeg : Int32} {xend : Int32} {xval : Int64} {xwid : Nat → Int32} {xsiz : Nat → Int32} {xcel : Nat → Int32} {xcar : Nat → Int32} {v1 : Int32} {v2 : Int32} {v3 : Int32} {o_xs : Nat → Int32} (hf : f5_puts xs v1 v2 v3 = some o_xs) : Met l yX5_puts (wU yX5_puts cX5_puts 4 none) ({ frames := 0, cells := 0, slots := 0, locals := 0 }) (va_Pc [.ref (ad 0), .int v1, .int v2, .int v3] (PreW X D (tyM cI cC) (wM cI cC ad xs xkept xaside xisK xfound xgone xover xtape xtaped xtok xbeg xend xval xwid xsiz xcel xcar) sz)) (QcV D (tyM cI cC) (wM cI cC ad o_xs xkept xaside xisK xfound xgone xover xtape xtaped xtok xbeg xend xval xwid xsiz xcel xcar) (va_A (wM cI cC ad xs xkept xaside xisK xfound xgone xover xtape xtaped xtok xbeg xend xval xwid xsiz xcel xcar) sz)) 0 0 (va_A (wM cI cC ad xs xkept xaside xisK xfound xgone xover xtape xtaped xtok xbeg xend xval xwid xsiz xcel xcar) sz) := by
  refine startW hX (own := RX5) (by decide) rfl (Nat.le_of_ble_eq_true rfl) (fun p e s m args below meth c ls C0 G hl => ?_)
  exact b5_puts_0 C0 G hl hf
/-! 5_adds -/
theorem dX5_adds_0 : decode cX5_adds 0 = .ok (.aload_n 0, 1) := by decide +kernel
theorem dX5_adds_1 : decode cX5_adds 1 = .ok (.getfield 9, 3) := by decide +kernel
theorem dX5_adds_4 : decode cX5_adds 4 = .ok (.iconst 1, 1) := by decide +kernel
theorem dX5_adds_5 : decode cX5_adds 5 = .ok (.iaload, 1) := by decide +kernel
theorem dX5_adds_6 : decode cX5_adds 6 = .ok (.istore_n 2, 1) := by decide +kernel
theorem dX5_adds_7 : decode cX5_adds 7 = .ok (.aload_n 0, 1) := by decide +kernel
theorem dX5_adds_8 : decode cX5_adds 8 = .ok (.iload_n 2, 1) := by decide +kernel
theorem dX5_adds_9 : decode cX5_adds 9 = .ok (.iconst 0, 1) := by decide +kernel
theorem dX5_adds_10 : decode cX5_adds 10 = .ok (.iload_n 1, 1) := by decide +kernel
theorem dX5_adds_11 : decode cX5_adds 11 = .ok (.invokevirtual 83, 3) := by decide +kernel
theorem dX5_adds_14 : decode cX5_adds 14 = .ok (.aload_n 0, 1) := by decide +kernel
theorem dX5_adds_15 : decode cX5_adds 15 = .ok (.iload_n 2, 1) := by decide +kernel
theorem dX5_adds_16 : decode cX5_adds 16 = .ok (.iconst 1, 1) := by decide +kernel
theorem dX5_adds_17 : decode cX5_adds 17 = .ok (.iconst 0, 1) := by decide +kernel
theorem dX5_adds_18 : decode cX5_adds 18 = .ok (.invokevirtual 83, 3) := by decide +kernel
theorem dX5_adds_21 : decode cX5_adds 21 = .ok (.aload_n 0, 1) := by decide +kernel
theorem dX5_adds_22 : decode cX5_adds 22 = .ok (.iload_n 2, 1) := by decide +kernel
theorem dX5_adds_23 : decode cX5_adds 23 = .ok (.iconst 2, 1) := by decide +kernel
theorem dX5_adds_24 : decode cX5_adds 24 = .ok (.iconst 3, 1) := by decide +kernel
theorem dX5_adds_25 : decode cX5_adds 25 = .ok (.invokevirtual 83, 3) := by decide +kernel
theorem dX5_adds_28 : decode cX5_adds 28 = .ok (.aload_n 0, 1) := by decide +kernel
theorem dX5_adds_29 : decode cX5_adds 29 = .ok (.iload_n 2, 1) := by decide +kernel
theorem dX5_adds_30 : decode cX5_adds 30 = .ok (.iconst 3, 1) := by decide +kernel
theorem dX5_adds_31 : decode cX5_adds 31 = .ok (.bipush 8, 2) := by decide +kernel
theorem dX5_adds_33 : decode cX5_adds 33 = .ok (.invokevirtual 83, 3) := by decide +kernel
theorem dX5_adds_36 : decode cX5_adds 36 = .ok (.aload_n 0, 1) := by decide +kernel
theorem dX5_adds_37 : decode cX5_adds 37 = .ok (.iload_n 2, 1) := by decide +kernel
theorem dX5_adds_38 : decode cX5_adds 38 = .ok (.iconst 4, 1) := by decide +kernel
theorem dX5_adds_39 : decode cX5_adds 39 = .ok (.iconst 2, 1) := by decide +kernel
theorem dX5_adds_40 : decode cX5_adds 40 = .ok (.invokevirtual 83, 3) := by decide +kernel
theorem dX5_adds_43 : decode cX5_adds 43 = .ok (.aload_n 0, 1) := by decide +kernel
theorem dX5_adds_44 : decode cX5_adds 44 = .ok (.iload_n 2, 1) := by decide +kernel
theorem dX5_adds_45 : decode cX5_adds 45 = .ok (.iconst 5, 1) := by decide +kernel
theorem dX5_adds_46 : decode cX5_adds 46 = .ok (.iconst 0, 1) := by decide +kernel
theorem dX5_adds_47 : decode cX5_adds 47 = .ok (.invokevirtual 83, 3) := by decide +kernel
theorem dX5_adds_50 : decode cX5_adds 50 = .ok (.aload_n 0, 1) := by decide +kernel
theorem dX5_adds_51 : decode cX5_adds 51 = .ok (.iload_n 2, 1) := by decide +kernel
theorem dX5_adds_52 : decode cX5_adds 52 = .ok (.bipush 6, 2) := by decide +kernel
theorem dX5_adds_54 : decode cX5_adds 54 = .ok (.iconst 0, 1) := by decide +kernel
theorem dX5_adds_55 : decode cX5_adds 55 = .ok (.invokevirtual 83, 3) := by decide +kernel
theorem dX5_adds_58 : decode cX5_adds 58 = .ok (.aload_n 0, 1) := by decide +kernel
theorem dX5_adds_59 : decode cX5_adds 59 = .ok (.getfield 9, 3) := by decide +kernel
theorem dX5_adds_62 : decode cX5_adds 62 = .ok (.iconst 1, 1) := by decide +kernel
theorem dX5_adds_63 : decode cX5_adds 63 = .ok (.dup2, 1) := by decide +kernel
theorem dX5_adds_64 : decode cX5_adds 64 = .ok (.iaload, 1) := by decide +kernel
theorem dX5_adds_65 : decode cX5_adds 65 = .ok (.iconst 1, 1) := by decide +kernel
theorem dX5_adds_66 : decode cX5_adds 66 = .ok (.iadd, 1) := by decide +kernel
theorem dX5_adds_67 : decode cX5_adds 67 = .ok (.iastore, 1) := by decide +kernel
theorem dX5_adds_68 : decode cX5_adds 68 = .ok (.return_, 1) := by decide +kernel
def f5_adds (xs : Nat → Int32) (v1 : Int32) : Option ((Nat → Int32)) :=
  ob1 (f5_puts xs (xs 1) (0 : Int32) v1) (fun xs_1 =>
  ob1 (f5_puts xs_1 (xs 1) (1 : Int32) (0 : Int32)) (fun xs_3 =>
  ob1 (f5_puts xs_3 (xs 1) (2 : Int32) (3 : Int32)) (fun xs_5 =>
  ob1 (f5_puts xs_5 (xs 1) (3 : Int32) (8 : Int32)) (fun xs_7 =>
  ob1 (f5_puts xs_7 (xs 1) (4 : Int32) (2 : Int32)) (fun xs_9 =>
  ob1 (f5_puts xs_9 (xs 1) (5 : Int32) (0 : Int32)) (fun xs_11 =>
  ob1 (f5_puts xs_11 (xs 1) (6 : Int32) (0 : Int32)) (fun xs_13 =>
  some (upd xs_13 1 ((xs_13 1) + (1 : Int32))))))))))
set_option maxHeartbeats 4000000 in
set_option maxRecDepth 100000 in
theorem b5_adds_0 {X : XP} {p : Program} {l : Launch} {e : Env} {s : State} {m : MethodId} {args : Array Value} {below : List Frame} {meth : Method} {c : Code} {D : va_G} {cI cC : ClassId} {ad : Nat → Nat} {A : Nat → Prop} {xkept : Nat → Int32} {xaside : Nat → Int32} {xisK : Int32} {xfound : Nat → Int32} {xgone : Int32} {xover : Nat → Int32} {xtape : Nat → Int32} {xtaped : Int32} {xtok : Int32} {xbeg : Int32} {xend : Int32} {xval : Int64} {xwid : Nat → Int32} {xsiz : Nat → Int32} {xcel : Nat → Int32} {xcar : Nat → Int32} {o_xs : Nat → Int32} (C0 : CX X p s m args meth c cX5_adds 3 none RX5 A) : ∀ {xs : Nat → Int32} {v1 : Int32} {H : Heap} {locs : List Loc} {ls : Array Slot}, GX X D (tyM cI cC) A s (wM cI cC ad xs xkept xaside xisK xfound xgone xover xtape xtaped xtok xbeg xend xval xwid xsiz xcel xcar) H locs → lv_has ls 3 [(0, .ref (ad 0)), (1, .int v1)] → f5_adds xs v1 = some o_xs → W p l e ({ frames := 1, cells := 0, slots := 0, locals := 23 }) s m args below meth c H locs 0 0 (MQ below (QcV D (tyM cI cC) (wM cI cC ad o_xs xkept xaside xisK xfound xgone xover xtape xtaped xtok xbeg xend xval xwid xsiz xcel xcar) A) args s 0 0 A) (F0 m 0 ls []) := by
  have hx := C0.1
  have hb := C0.2.1
  have hown := C0.2.2.2.2.1
  have hts := C0.2.2.2.2.2.1
  have hX := C0.2.2.2.2.2.2.2.2
  intro xs v1 H locs ls G hl hf
  unfold f5_adds at hf
  refine lv_aload_n hx hb dX5_adds_0 rfl (lv_at hl 0 rfl) ?_
  refine s_get (C := RX5) (T := TX5) C0 G i_X5 0 0 rfl rfl (by decide) q713 rfl dX5_adds_1 ?_
  refine lv_iconst (v := (1 : Int32)) hx hb dX5_adds_4 (by decide) ?_
  refine s_iald (k := 1) C0 G 1 0 rfl rfl (vin (by decide)) (by decide) dX5_adds_5 ?_
  refine lv_istore_n (lv' := [(2, .int (xs 1)), (0, .ref (ad 0)), (1, .int v1)]) hx hb dX5_adds_6 rfl hl (by decide) rfl (fun ls hl => ?_)
  refine lv_aload_n hx hb dX5_adds_7 rfl (lv_at hl 1 rfl) ?_
  refine lv_iload_n hx hb dX5_adds_8 rfl (lv_at hl 0 rfl) ?_
  refine lv_iconst (v := (0 : Int32)) hx hb dX5_adds_9 (by decide) ?_
  refine lv_iload_n hx hb dX5_adds_10 rfl (lv_at hl 2 rfl) ?_
  obtain ⟨xs_1, hc2, hf⟩ := ob1_s hf
  refine go_v C0 G (runV_of (n := 3) (q0 := 0) (As := [.int (xs 1), .int (0 : Int32), .int v1]) (rest := []) C0 G (c5_puts hX hc2) q817 q54 q814 q816 q13 o5_puts ⟨rfl, rfl⟩ ⟨Nat.le_of_ble_eq_true rfl, Nat.le_of_ble_eq_true rfl⟩ rfl rfl rfl hl.1 rfl (Nat.le_of_ble_eq_true rfl) dX5_adds_11) (fun H locs G => ?_)
  refine lv_aload_n hx hb dX5_adds_14 rfl (lv_at hl 1 rfl) ?_
  refine lv_iload_n hx hb dX5_adds_15 rfl (lv_at hl 0 rfl) ?_
  refine lv_iconst (v := (1 : Int32)) hx hb dX5_adds_16 (by decide) ?_
  refine lv_iconst (v := (0 : Int32)) hx hb dX5_adds_17 (by decide) ?_
  obtain ⟨xs_3, hc4, hf⟩ := ob1_s hf
  refine go_v C0 G (runV_of (n := 3) (q0 := 0) (As := [.int (xs 1), .int (1 : Int32), .int (0 : Int32)]) (rest := []) C0 G (c5_puts hX hc4) q817 q54 q814 q816 q13 o5_puts ⟨rfl, rfl⟩ ⟨Nat.le_of_ble_eq_true rfl, Nat.le_of_ble_eq_true rfl⟩ rfl rfl rfl hl.1 rfl (Nat.le_of_ble_eq_true rfl) dX5_adds_18) (fun H locs G => ?_)
  refine lv_aload_n hx hb dX5_adds_21 rfl (lv_at hl 1 rfl) ?_
  refine lv_iload_n hx hb dX5_adds_22 rfl (lv_at hl 0 rfl) ?_
  refine lv_iconst (v := (2 : Int32)) hx hb dX5_adds_23 (by decide) ?_
  refine lv_iconst (v := (3 : Int32)) hx hb dX5_adds_24 (by decide) ?_
  obtain ⟨xs_5, hc6, hf⟩ := ob1_s hf
  refine go_v C0 G (runV_of (n := 3) (q0 := 0) (As := [.int (xs 1), .int (2 : Int32), .int (3 : Int32)]) (rest := []) C0 G (c5_puts hX hc6) q817 q54 q814 q816 q13 o5_puts ⟨rfl, rfl⟩ ⟨Nat.le_of_ble_eq_true rfl, Nat.le_of_ble_eq_true rfl⟩ rfl rfl rfl hl.1 rfl (Nat.le_of_ble_eq_true rfl) dX5_adds_25) (fun H locs G => ?_)
  refine lv_aload_n hx hb dX5_adds_28 rfl (lv_at hl 1 rfl) ?_
  refine lv_iload_n hx hb dX5_adds_29 rfl (lv_at hl 0 rfl) ?_
  refine lv_iconst (v := (3 : Int32)) hx hb dX5_adds_30 (by decide) ?_
  refine lv_bipush (v := (8 : Int32)) hx hb dX5_adds_31 (by decide) ?_
  obtain ⟨xs_7, hc8, hf⟩ := ob1_s hf
  refine go_v C0 G (runV_of (n := 3) (q0 := 0) (As := [.int (xs 1), .int (3 : Int32), .int (8 : Int32)]) (rest := []) C0 G (c5_puts hX hc8) q817 q54 q814 q816 q13 o5_puts ⟨rfl, rfl⟩ ⟨Nat.le_of_ble_eq_true rfl, Nat.le_of_ble_eq_true rfl⟩ rfl rfl rfl hl.1 rfl (Nat.le_of_ble_eq_true rfl) dX5_adds_33) (fun H locs G => ?_)
  refine lv_aload_n hx hb dX5_adds_36 rfl (lv_at hl 1 rfl) ?_
  refine lv_iload_n hx hb dX5_adds_37 rfl (lv_at hl 0 rfl) ?_
  refine lv_iconst (v := (4 : Int32)) hx hb dX5_adds_38 (by decide) ?_
  refine lv_iconst (v := (2 : Int32)) hx hb dX5_adds_39 (by decide) ?_
  obtain ⟨xs_9, hc10, hf⟩ := ob1_s hf
  refine go_v C0 G (runV_of (n := 3) (q0 := 0) (As := [.int (xs 1), .int (4 : Int32), .int (2 : Int32)]) (rest := []) C0 G (c5_puts hX hc10) q817 q54 q814 q816 q13 o5_puts ⟨rfl, rfl⟩ ⟨Nat.le_of_ble_eq_true rfl, Nat.le_of_ble_eq_true rfl⟩ rfl rfl rfl hl.1 rfl (Nat.le_of_ble_eq_true rfl) dX5_adds_40) (fun H locs G => ?_)
  refine lv_aload_n hx hb dX5_adds_43 rfl (lv_at hl 1 rfl) ?_
  refine lv_iload_n hx hb dX5_adds_44 rfl (lv_at hl 0 rfl) ?_
  refine lv_iconst (v := (5 : Int32)) hx hb dX5_adds_45 (by decide) ?_
  refine lv_iconst (v := (0 : Int32)) hx hb dX5_adds_46 (by decide) ?_
  obtain ⟨xs_11, hc12, hf⟩ := ob1_s hf
  refine go_v C0 G (runV_of (n := 3) (q0 := 0) (As := [.int (xs 1), .int (5 : Int32), .int (0 : Int32)]) (rest := []) C0 G (c5_puts hX hc12) q817 q54 q814 q816 q13 o5_puts ⟨rfl, rfl⟩ ⟨Nat.le_of_ble_eq_true rfl, Nat.le_of_ble_eq_true rfl⟩ rfl rfl rfl hl.1 rfl (Nat.le_of_ble_eq_true rfl) dX5_adds_47) (fun H locs G => ?_)
  refine lv_aload_n hx hb dX5_adds_50 rfl (lv_at hl 1 rfl) ?_
  refine lv_iload_n hx hb dX5_adds_51 rfl (lv_at hl 0 rfl) ?_
  refine lv_bipush (v := (6 : Int32)) hx hb dX5_adds_52 (by decide) ?_
  refine lv_iconst (v := (0 : Int32)) hx hb dX5_adds_54 (by decide) ?_
  obtain ⟨xs_13, hc14, hf⟩ := ob1_s hf
  refine go_v C0 G (runV_of (n := 3) (q0 := 0) (As := [.int (xs 1), .int (6 : Int32), .int (0 : Int32)]) (rest := []) C0 G (c5_puts hX hc14) q817 q54 q814 q816 q13 o5_puts ⟨rfl, rfl⟩ ⟨Nat.le_of_ble_eq_true rfl, Nat.le_of_ble_eq_true rfl⟩ rfl rfl rfl hl.1 rfl (Nat.le_of_ble_eq_true rfl) dX5_adds_55) (fun H locs G => ?_)
  refine lv_aload_n hx hb dX5_adds_58 rfl (lv_at hl 1 rfl) ?_
  refine s_get (C := RX5) (T := TX5) C0 G i_X5 0 0 rfl rfl (by decide) q713 rfl dX5_adds_59 ?_
  refine lv_iconst (v := (1 : Int32)) hx hb dX5_adds_62 (by decide) ?_
  refine lv_dup2_11 hx hb dX5_adds_63 rfl rfl ?_
  refine s_iald (k := 1) C0 G 1 0 rfl rfl (vin (by decide)) (by decide) dX5_adds_64 ?_
  refine lv_iconst (v := (1 : Int32)) hx hb dX5_adds_65 (by decide) ?_
  refine lv_iadd hx hb dX5_adds_66 ?_
  refine s_iast (k := 1) (w' := (wM cI cC ad (upd xs_13 1 ((xs_13 1) + (1 : Int32))) xkept xaside xisK xfound xgone xover xtape xtaped xtok xbeg xend xval xwid xsiz xcel xcar)) C0 G 1 0 rfl rfl (vin (by decide)) (by decide) rfl dX5_adds_67 (fun H locs G => ?_)
  obtain rfl := inj1 hf
  exact ret_v C0 G dX5_adds_68
theorem o5_adds : okName yX5_adds 1 := ⟨by decide, by decide, by decide +kernel⟩
set_option maxHeartbeats 4000000 in
set_option maxRecDepth 100000 in
theorem c5_adds {X : XP} (hX : XT X) {l : Launch} {D : va_G} {cI cC : ClassId} {ad : Nat → Nat} {sz : Nat} {xs : Nat → Int32} {xkept : Nat → Int32} {xaside : Nat → Int32} {xisK : Int32} {xfound : Nat → Int32} {xgone : Int32} {xover : Nat → Int32} {xtape : Nat → Int32} {xtaped : Int32} {xtok : Int32} {xbeg : Int32} {xend : Int32} {xval : Int64} {xwid : Nat → Int32} {xsiz : Nat → Int32} {xcel : Nat → Int32} {xcar : Nat → Int32} {v1 : Int32} {o_xs : Nat → Int32} (hf : f5_adds xs v1 = some o_xs) : Met l yX5_adds (wU yX5_adds cX5_adds 3 none) ({ frames := 1, cells := 0, slots := 0, locals := 23 }) (va_Pc [.ref (ad 0), .int v1] (PreW X D (tyM cI cC) (wM cI cC ad xs xkept xaside xisK xfound xgone xover xtape xtaped xtok xbeg xend xval xwid xsiz xcel xcar) sz)) (QcV D (tyM cI cC) (wM cI cC ad o_xs xkept xaside xisK xfound xgone xover xtape xtaped xtok xbeg xend xval xwid xsiz xcel xcar) (va_A (wM cI cC ad xs xkept xaside xisK xfound xgone xover xtape xtaped xtok xbeg xend xval xwid xsiz xcel xcar) sz)) 0 0 (va_A (wM cI cC ad xs xkept xaside xisK xfound xgone xover xtape xtaped xtok xbeg xend xval xwid xsiz xcel xcar) sz) := by
  refine startW hX (own := RX5) (by decide) rfl (Nat.le_of_ble_eq_true rfl) (fun p e s m args below meth c ls C0 G hl => ?_)
  exact b5_adds_0 C0 G hl hf
/-! 5_visitor -/
theorem dX5_visitor_0 : decode cX5_visitor 0 = .ok (.iload_n 1, 1) := by decide +kernel
theorem dX5_visitor_1 : decode cX5_visitor 1 = .ok (.iconst 0, 1) := by decide +kernel
theorem dX5_visitor_2 : decode cX5_visitor 2 = .ok (.bipush 6, 2) := by decide +kernel
theorem dX5_visitor_4 : decode cX5_visitor 4 = .ok (.invokestatic 51, 3) := by decide +kernel
theorem dX5_visitor_7 : decode cX5_visitor 7 = .ok (.ifCond .eq 10, 3) := by decide +kernel
theorem dX5_visitor_10 : decode cX5_visitor 10 = .ok (.iload_n 2, 1) := by decide +kernel
theorem dX5_visitor_11 : decode cX5_visitor 11 = .ok (.invokestatic 59, 3) := by decide +kernel
theorem dX5_visitor_14 : decode cX5_visitor 14 = .ok (.ifCond .ne 9, 3) := by decide +kernel
theorem dX5_visitor_17 : decode cX5_visitor 17 = .ok (.aload_n 0, 1) := by decide +kernel
theorem dX5_visitor_18 : decode cX5_visitor 18 = .ok (.iconst 0, 1) := by decide +kernel
theorem dX5_visitor_19 : decode cX5_visitor 19 = .ok (.invokevirtual 105, 3) := by decide +kernel
theorem dX5_visitor_22 : decode cX5_visitor 22 = .ok (.ireturn, 1) := by decide +kernel
theorem dX5_visitor_23 : decode cX5_visitor 23 = .ok (.aload_n 0, 1) := by decide +kernel
theorem dX5_visitor_24 : decode cX5_visitor 24 = .ok (.getfield 9, 3) := by decide +kernel
theorem dX5_visitor_27 : decode cX5_visitor 27 = .ok (.iconst 1, 1) := by decide +kernel
theorem dX5_visitor_28 : decode cX5_visitor 28 = .ok (.iaload, 1) := by decide +kernel
theorem dX5_visitor_29 : decode cX5_visitor 29 = .ok (.bipush 8, 2) := by decide +kernel
theorem dX5_visitor_31 : decode cX5_visitor 31 = .ok (.if_icmp .ne 9, 3) := by decide +kernel
theorem dX5_visitor_34 : decode cX5_visitor 34 = .ok (.aload_n 0, 1) := by decide +kernel
theorem dX5_visitor_35 : decode cX5_visitor 35 = .ok (.iconst 1, 1) := by decide +kernel
theorem dX5_visitor_36 : decode cX5_visitor 36 = .ok (.invokevirtual 105, 3) := by decide +kernel
theorem dX5_visitor_39 : decode cX5_visitor 39 = .ok (.ireturn, 1) := by decide +kernel
theorem dX5_visitor_40 : decode cX5_visitor 40 = .ok (.aload_n 0, 1) := by decide +kernel
theorem dX5_visitor_41 : decode cX5_visitor 41 = .ok (.iload_n 1, 1) := by decide +kernel
theorem dX5_visitor_42 : decode cX5_visitor 42 = .ok (.invokevirtual 108, 3) := by decide +kernel
theorem dX5_visitor_45 : decode cX5_visitor 45 = .ok (.aload_n 0, 1) := by decide +kernel
theorem dX5_visitor_46 : decode cX5_visitor 46 = .ok (.aload_n 0, 1) := by decide +kernel
theorem dX5_visitor_47 : decode cX5_visitor 47 = .ok (.getfield 9, 3) := by decide +kernel
theorem dX5_visitor_50 : decode cX5_visitor 50 = .ok (.iconst 1, 1) := by decide +kernel
theorem dX5_visitor_51 : decode cX5_visitor 51 = .ok (.iaload, 1) := by decide +kernel
theorem dX5_visitor_52 : decode cX5_visitor 52 = .ok (.iconst 1, 1) := by decide +kernel
theorem dX5_visitor_53 : decode cX5_visitor 53 = .ok (.isub, 1) := by decide +kernel
theorem dX5_visitor_54 : decode cX5_visitor 54 = .ok (.iconst 1, 1) := by decide +kernel
theorem dX5_visitor_55 : decode cX5_visitor 55 = .ok (.iload_n 2, 1) := by decide +kernel
theorem dX5_visitor_56 : decode cX5_visitor 56 = .ok (.invokevirtual 83, 3) := by decide +kernel
theorem dX5_visitor_59 : decode cX5_visitor 59 = .ok (.aload_n 0, 1) := by decide +kernel
theorem dX5_visitor_60 : decode cX5_visitor 60 = .ok (.getfield 9, 3) := by decide +kernel
theorem dX5_visitor_63 : decode cX5_visitor 63 = .ok (.iconst 1, 1) := by decide +kernel
theorem dX5_visitor_64 : decode cX5_visitor 64 = .ok (.iaload, 1) := by decide +kernel
theorem dX5_visitor_65 : decode cX5_visitor 65 = .ok (.iconst 1, 1) := by decide +kernel
theorem dX5_visitor_66 : decode cX5_visitor 66 = .ok (.isub, 1) := by decide +kernel
theorem dX5_visitor_67 : decode cX5_visitor 67 = .ok (.ireturn, 1) := by decide +kernel
def j5_visitor_17  (xs : Nat → Int32) (xfound : Nat → Int32)  : Option (Int32 × (Nat → Int32) × (Nat → Int32)) :=
  ob2 (f5_no xfound (0 : Int32)) (fun r11 xfound_12 =>
  some (r11, xs, xfound_12))
def f5_visitor (xs : Nat → Int32) (xfound : Nat → Int32) (v1 : Int32) (v2 : Int32) : Option (Int32 × (Nat → Int32) × (Nat → Int32)) :=
  if (f5_in1 v1 (0 : Int32) (6 : Int32)) = (0 : Int32) then (
    j5_visitor_17 xs xfound)
  else (
    if (f5_isCell v2) = (0 : Int32) then (
      j5_visitor_17 xs xfound)
    else (
      if (xs 1) = (8 : Int32) then (
        ob2 (f5_no xfound (1 : Int32)) (fun r8 xfound_9 =>
        some (r8, xs, xfound_9)))
      else (
        ob1 (f5_adds xs v1) (fun xs_4 =>
        ob1 (f5_puts xs_4 ((xs_4 1) - (1 : Int32)) (1 : Int32) v2) (fun xs_6 =>
        some (((xs_6 1) - (1 : Int32)), xs_6, xfound))))))
set_option maxHeartbeats 4000000 in
set_option maxRecDepth 100000 in
theorem b5_visitor_17 {X : XP} {p : Program} {l : Launch} {e : Env} {s : State} {m : MethodId} {args : Array Value} {below : List Frame} {meth : Method} {c : Code} {D : va_G} {cI cC : ClassId} {ad : Nat → Nat} {A : Nat → Prop} {xkept : Nat → Int32} {xaside : Nat → Int32} {xisK : Int32} {xgone : Int32} {xover : Nat → Int32} {xtape : Nat → Int32} {xtaped : Int32} {xtok : Int32} {xbeg : Int32} {xend : Int32} {xval : Int64} {xwid : Nat → Int32} {xsiz : Nat → Int32} {xcel : Nat → Int32} {xcar : Nat → Int32} {r0 : Int32} {o_xs : Nat → Int32} {o_xfound : Nat → Int32} (C0 : CX X p s m args meth c cX5_visitor 3 (some .int) RX5 A) : ∀ {xs : Nat → Int32} {xfound : Nat → Int32} {H : Heap} {locs : List Loc} {ls : Array Slot}, GX X D (tyM cI cC) A s (wM cI cC ad xs xkept xaside xisK xfound xgone xover xtape xtaped xtok xbeg xend xval xwid xsiz xcel xcar) H locs → lv_has ls 3 [(0, .ref (ad 0))] → j5_visitor_17  xs xfound = some (r0, o_xs, o_xfound) → W p l e ({ frames := 2, cells := 0, slots := 0, locals := 45 }) s m args below meth c H locs 0 0 (MQ below (QcI D (tyM cI cC) (wM cI cC ad o_xs xkept xaside xisK o_xfound xgone xover xtape xtaped xtok xbeg xend xval xwid xsiz xcel xcar) A r0) args s 0 0 A) (F0 m 17 ls []) := by
  have hx := C0.1
  have hb := C0.2.1
  have hown := C0.2.2.2.2.1
  have hts := C0.2.2.2.2.2.1
  have hX := C0.2.2.2.2.2.2.2.2
  intro xs xfound H locs ls G hl hf
  unfold j5_visitor_17 at hf
  refine lv_aload_n hx hb dX5_visitor_17 rfl (lv_at hl 0 rfl) ?_
  refine lv_iconst (v := (0 : Int32)) hx hb dX5_visitor_18 (by decide) ?_
  obtain ⟨r11, xfound_12, hc13, hf⟩ := ob2_s hf
  refine go_i C0 G (runV_of (n := 1) (q0 := 0) (As := [.int (0 : Int32)]) (rest := []) C0 G (c5_no hX hc13) q788 q54 q785 q787 q9 o5_no ⟨rfl, rfl⟩ ⟨Nat.le_of_ble_eq_true rfl, Nat.le_of_ble_eq_true rfl⟩ rfl rfl rfl hl.1 rfl (Nat.le_of_ble_eq_true rfl) dX5_visitor_19) (fun H locs G => ?_)
  obtain ⟨rfl, rfl, rfl⟩ := inj3 hf
  exact ret_i C0 G dX5_visitor_22
set_option maxHeartbeats 4000000 in
set_option maxRecDepth 100000 in
theorem b5_visitor_0 {X : XP} {p : Program} {l : Launch} {e : Env} {s : State} {m : MethodId} {args : Array Value} {below : List Frame} {meth : Method} {c : Code} {D : va_G} {cI cC : ClassId} {ad : Nat → Nat} {A : Nat → Prop} {xkept : Nat → Int32} {xaside : Nat → Int32} {xisK : Int32} {xgone : Int32} {xover : Nat → Int32} {xtape : Nat → Int32} {xtaped : Int32} {xtok : Int32} {xbeg : Int32} {xend : Int32} {xval : Int64} {xwid : Nat → Int32} {xsiz : Nat → Int32} {xcel : Nat → Int32} {xcar : Nat → Int32} {r0 : Int32} {o_xs : Nat → Int32} {o_xfound : Nat → Int32} (C0 : CX X p s m args meth c cX5_visitor 3 (some .int) RX5 A) : ∀ {xs : Nat → Int32} {xfound : Nat → Int32} {v1 : Int32} {v2 : Int32} {H : Heap} {locs : List Loc} {ls : Array Slot}, GX X D (tyM cI cC) A s (wM cI cC ad xs xkept xaside xisK xfound xgone xover xtape xtaped xtok xbeg xend xval xwid xsiz xcel xcar) H locs → lv_has ls 3 [(0, .ref (ad 0)), (1, .int v1), (2, .int v2)] → f5_visitor xs xfound v1 v2 = some (r0, o_xs, o_xfound) → W p l e ({ frames := 2, cells := 0, slots := 0, locals := 45 }) s m args below meth c H locs 0 0 (MQ below (QcI D (tyM cI cC) (wM cI cC ad o_xs xkept xaside xisK o_xfound xgone xover xtape xtaped xtok xbeg xend xval xwid xsiz xcel xcar) A r0) args s 0 0 A) (F0 m 0 ls []) := by
  have hx := C0.1
  have hb := C0.2.1
  have hown := C0.2.2.2.2.1
  have hts := C0.2.2.2.2.2.1
  have hX := C0.2.2.2.2.2.2.2.2
  intro xs xfound v1 v2 H locs ls G hl hf
  unfold f5_visitor at hf
  refine lv_iload_n hx hb dX5_visitor_0 rfl (lv_at hl 1 rfl) ?_
  refine lv_iconst (v := (0 : Int32)) hx hb dX5_visitor_1 (by decide) ?_
  refine lv_bipush (v := (6 : Int32)) hx hb dX5_visitor_2 (by decide) ?_
  refine go_i C0 G (runS_of (n := 3) (As := [.int v1, .int (0 : Int32), .int (6 : Int32)]) (rest := []) C0 G (c5_in1 hX rfl) q784 q54 q782 q783 o5_in1 ⟨rfl, rfl⟩ ⟨Nat.le_of_ble_eq_true rfl, Nat.le_of_ble_eq_true rfl⟩ rfl hl.1 rfl (Nat.le_of_ble_eq_true rfl) dX5_visitor_4) (fun H locs G => ?_)
  refine lv_if_eq (tgt := 17) hx hb dX5_visitor_7 (by decide) (fun hc1 => ?_) (fun hc1 => ?_)
  · have hf := itp hc1 hf
    exact b5_visitor_17 C0  G (lv_sub hl [0] rfl) hf
  · have hf := itn hc1 hf
    refine lv_iload_n hx hb dX5_visitor_10 rfl (lv_at hl 2 rfl) ?_
    refine go_i C0 G (runS_of (n := 1) (As := [.int v2]) (rest := []) C0 G (c5_isCell hX rfl) q781 q54 q779 q780 o5_isCell ⟨rfl, rfl⟩ ⟨Nat.le_of_ble_eq_true rfl, Nat.le_of_ble_eq_true rfl⟩ rfl hl.1 rfl (Nat.le_of_ble_eq_true rfl) dX5_visitor_11) (fun H locs G => ?_)
    refine lv_if_ne (tgt := 23) hx hb dX5_visitor_14 (by decide) (fun hc2 => ?_) (fun hc2 => ?_)
    · have hf := itn hc2 hf
      refine lv_aload_n hx hb dX5_visitor_23 rfl (lv_at hl 0 rfl) ?_
      refine s_get (C := RX5) (T := TX5) C0 G i_X5 0 0 rfl rfl (by decide) q713 rfl dX5_visitor_24 ?_
      refine lv_iconst (v := (1 : Int32)) hx hb dX5_visitor_27 (by decide) ?_
      refine s_iald (k := 1) C0 G 1 0 rfl rfl (vin (by decide)) (by decide) dX5_visitor_28 ?_
      refine lv_bipush (v := (8 : Int32)) hx hb dX5_visitor_29 (by decide) ?_
      refine lv_icmp_ne (tgt := 40) hx hb dX5_visitor_31 (by decide) (fun hc3 => ?_) (fun hc3 => ?_)
      · have hf := itn hc3 hf
        refine lv_aload_n hx hb dX5_visitor_40 rfl (lv_at hl 0 rfl) ?_
        refine lv_iload_n hx hb dX5_visitor_41 rfl (lv_at hl 1 rfl) ?_
        obtain ⟨xs_4, hc5, hf⟩ := ob1_s hf
        refine go_v C0 G (runV_of (n := 1) (q0 := 0) (As := [.int v1]) (rest := []) C0 G (c5_adds hX hc5) q813 q54 q810 q812 q12 o5_adds ⟨rfl, rfl⟩ ⟨Nat.le_of_ble_eq_true rfl, Nat.le_of_ble_eq_true rfl⟩ rfl rfl rfl hl.1 rfl (Nat.le_of_ble_eq_true rfl) dX5_visitor_42) (fun H locs G => ?_)
        refine lv_aload_n hx hb dX5_visitor_45 rfl (lv_at hl 0 rfl) ?_
        refine lv_aload_n hx hb dX5_visitor_46 rfl (lv_at hl 0 rfl) ?_
        refine s_get (C := RX5) (T := TX5) C0 G i_X5 0 0 rfl rfl (by decide) q713 rfl dX5_visitor_47 ?_
        refine lv_iconst (v := (1 : Int32)) hx hb dX5_visitor_50 (by decide) ?_
        refine s_iald (k := 1) C0 G 1 0 rfl rfl (vin (by decide)) (by decide) dX5_visitor_51 ?_
        refine lv_iconst (v := (1 : Int32)) hx hb dX5_visitor_52 (by decide) ?_
        refine lv_isub hx hb dX5_visitor_53 ?_
        refine lv_iconst (v := (1 : Int32)) hx hb dX5_visitor_54 (by decide) ?_
        refine lv_iload_n hx hb dX5_visitor_55 rfl (lv_at hl 2 rfl) ?_
        obtain ⟨xs_6, hc7, hf⟩ := ob1_s hf
        refine go_v C0 G (runV_of (n := 3) (q0 := 0) (As := [.int ((xs_4 1) - (1 : Int32)), .int (1 : Int32), .int v2]) (rest := []) C0 G (c5_puts hX hc7) q817 q54 q814 q816 q13 o5_puts ⟨rfl, rfl⟩ ⟨Nat.le_of_ble_eq_true rfl, Nat.le_of_ble_eq_true rfl⟩ rfl rfl rfl hl.1 rfl (Nat.le_of_ble_eq_true rfl) dX5_visitor_56) (fun H locs G => ?_)
        refine lv_aload_n hx hb dX5_visitor_59 rfl (lv_at hl 0 rfl) ?_
        refine s_get (C := RX5) (T := TX5) C0 G i_X5 0 0 rfl rfl (by decide) q713 rfl dX5_visitor_60 ?_
        refine lv_iconst (v := (1 : Int32)) hx hb dX5_visitor_63 (by decide) ?_
        refine s_iald (k := 1) C0 G 1 0 rfl rfl (vin (by decide)) (by decide) dX5_visitor_64 ?_
        refine lv_iconst (v := (1 : Int32)) hx hb dX5_visitor_65 (by decide) ?_
        refine lv_isub hx hb dX5_visitor_66 ?_
        obtain ⟨rfl, rfl, rfl⟩ := inj3 hf
        exact ret_i C0 G dX5_visitor_67
      · have hf := itp hc3 hf
        refine lv_aload_n hx hb dX5_visitor_34 rfl (lv_at hl 0 rfl) ?_
        refine lv_iconst (v := (1 : Int32)) hx hb dX5_visitor_35 (by decide) ?_
        obtain ⟨r8, xfound_9, hc10, hf⟩ := ob2_s hf
        refine go_i C0 G (runV_of (n := 1) (q0 := 0) (As := [.int (1 : Int32)]) (rest := []) C0 G (c5_no hX hc10) q788 q54 q785 q787 q9 o5_no ⟨rfl, rfl⟩ ⟨Nat.le_of_ble_eq_true rfl, Nat.le_of_ble_eq_true rfl⟩ rfl rfl rfl hl.1 rfl (Nat.le_of_ble_eq_true rfl) dX5_visitor_36) (fun H locs G => ?_)
        obtain ⟨rfl, rfl, rfl⟩ := inj3 hf
        exact ret_i C0 G dX5_visitor_39
    · have hf := itp hc2 hf
      exact b5_visitor_17 C0  G (lv_sub hl [0] rfl) hf
theorem o5_visitor : okName yX5_visitor 2 := ⟨by decide, by decide, by decide +kernel⟩
set_option maxHeartbeats 4000000 in
set_option maxRecDepth 100000 in
theorem c5_visitor {X : XP} (hX : XT X) {l : Launch} {D : va_G} {cI cC : ClassId} {ad : Nat → Nat} {sz : Nat} {xs : Nat → Int32} {xkept : Nat → Int32} {xaside : Nat → Int32} {xisK : Int32} {xfound : Nat → Int32} {xgone : Int32} {xover : Nat → Int32} {xtape : Nat → Int32} {xtaped : Int32} {xtok : Int32} {xbeg : Int32} {xend : Int32} {xval : Int64} {xwid : Nat → Int32} {xsiz : Nat → Int32} {xcel : Nat → Int32} {xcar : Nat → Int32} {v1 : Int32} {v2 : Int32} {r0 : Int32} {o_xs : Nat → Int32} {o_xfound : Nat → Int32} (hf : f5_visitor xs xfound v1 v2 = some (r0, o_xs, o_xfound)) : Met l yX5_visitor (wU yX5_visitor cX5_visitor 3 (some .int)) ({ frames := 2, cells := 0, slots := 0, locals := 45 }) (va_Pc [.ref (ad 0), .int v1, .int v2] (PreW X D (tyM cI cC) (wM cI cC ad xs xkept xaside xisK xfound xgone xover xtape xtaped xtok xbeg xend xval xwid xsiz xcel xcar) sz)) (QcI D (tyM cI cC) (wM cI cC ad o_xs xkept xaside xisK o_xfound xgone xover xtape xtaped xtok xbeg xend xval xwid xsiz xcel xcar) (va_A (wM cI cC ad xs xkept xaside xisK xfound xgone xover xtape xtaped xtok xbeg xend xval xwid xsiz xcel xcar) sz) r0) 0 0 (va_A (wM cI cC ad xs xkept xaside xisK xfound xgone xover xtape xtaped xtok xbeg xend xval xwid xsiz xcel xcar) sz) := by
  refine startW hX (own := RX5) (by decide) rfl (Nat.le_of_ble_eq_true rfl) (fun p e s m args below meth c ls C0 G hl => ?_)
  exact b5_visitor_0 C0 G hl hf
/-! 5_isVisitor -/
theorem dX5_isVisitor_0 : decode cX5_isVisitor 0 = .ok (.iload_n 1, 1) := by decide +kernel
theorem dX5_isVisitor_1 : decode cX5_isVisitor 1 = .ok (.iconst 0, 1) := by decide +kernel
theorem dX5_isVisitor_2 : decode cX5_isVisitor 2 = .ok (.aload_n 0, 1) := by decide +kernel
theorem dX5_isVisitor_3 : decode cX5_isVisitor 3 = .ok (.getfield 9, 3) := by decide +kernel
theorem dX5_isVisitor_6 : decode cX5_isVisitor 6 = .ok (.iconst 1, 1) := by decide +kernel
theorem dX5_isVisitor_7 : decode cX5_isVisitor 7 = .ok (.iaload, 1) := by decide +kernel
theorem dX5_isVisitor_8 : decode cX5_isVisitor 8 = .ok (.iconst 1, 1) := by decide +kernel
theorem dX5_isVisitor_9 : decode cX5_isVisitor 9 = .ok (.isub, 1) := by decide +kernel
theorem dX5_isVisitor_10 : decode cX5_isVisitor 10 = .ok (.invokestatic 51, 3) := by decide +kernel
theorem dX5_isVisitor_13 : decode cX5_isVisitor 13 = .ok (.ireturn, 1) := by decide +kernel
def f5_isVisitor (xs : Nat → Int32) (v1 : Int32) : Int32 :=
  (f5_in1 v1 (0 : Int32) ((xs 1) - (1 : Int32)))
set_option maxHeartbeats 4000000 in
set_option maxRecDepth 100000 in
theorem b5_isVisitor_0 {X : XP} {p : Program} {l : Launch} {e : Env} {s : State} {m : MethodId} {args : Array Value} {below : List Frame} {meth : Method} {c : Code} {D : va_G} {cI cC : ClassId} {ad : Nat → Nat} {A : Nat → Prop} {xs : Nat → Int32} {xkept : Nat → Int32} {xaside : Nat → Int32} {xisK : Int32} {xfound : Nat → Int32} {xgone : Int32} {xover : Nat → Int32} {xtape : Nat → Int32} {xtaped : Int32} {xtok : Int32} {xbeg : Int32} {xend : Int32} {xval : Int64} {xwid : Nat → Int32} {xsiz : Nat → Int32} {xcel : Nat → Int32} {xcar : Nat → Int32} {r0 : Int32} (C0 : CX X p s m args meth c cX5_isVisitor 2 (some .boolean) RX5 A) : ∀ {v1 : Int32} {H : Heap} {locs : List Loc} {ls : Array Slot}, GX X D (tyM cI cC) A s (wM cI cC ad xs xkept xaside xisK xfound xgone xover xtape xtaped xtok xbeg xend xval xwid xsiz xcel xcar) H locs → lv_has ls 2 [(0, .ref (ad 0)), (1, .int v1)] → f5_isVisitor xs v1 = r0 → W p l e ({ frames := 1, cells := 0, slots := 0, locals := 22 }) s m args below meth c H locs 0 0 (MQ below (QcI D (tyM cI cC) (wM cI cC ad xs xkept xaside xisK xfound xgone xover xtape xtaped xtok xbeg xend xval xwid xsiz xcel xcar) A r0) args s 0 0 A) (F0 m 0 ls []) := by
  have hx := C0.1
  have hb := C0.2.1
  have hown := C0.2.2.2.2.1
  have hts := C0.2.2.2.2.2.1
  have hX := C0.2.2.2.2.2.2.2.2
  intro v1 H locs ls G hl hf
  unfold f5_isVisitor at hf
  refine lv_iload_n hx hb dX5_isVisitor_0 rfl (lv_at hl 1 rfl) ?_
  refine lv_iconst (v := (0 : Int32)) hx hb dX5_isVisitor_1 (by decide) ?_
  refine lv_aload_n hx hb dX5_isVisitor_2 rfl (lv_at hl 0 rfl) ?_
  refine s_get (C := RX5) (T := TX5) C0 G i_X5 0 0 rfl rfl (by decide) q713 rfl dX5_isVisitor_3 ?_
  refine lv_iconst (v := (1 : Int32)) hx hb dX5_isVisitor_6 (by decide) ?_
  refine s_iald (k := 1) C0 G 1 0 rfl rfl (vin (by decide)) (by decide) dX5_isVisitor_7 ?_
  refine lv_iconst (v := (1 : Int32)) hx hb dX5_isVisitor_8 (by decide) ?_
  refine lv_isub hx hb dX5_isVisitor_9 ?_
  refine go_i C0 G (runS_of (n := 3) (As := [.int v1, .int (0 : Int32), .int ((xs 1) - (1 : Int32))]) (rest := []) C0 G (c5_in1 hX rfl) q784 q54 q782 q783 o5_in1 ⟨rfl, rfl⟩ ⟨Nat.le_of_ble_eq_true rfl, Nat.le_of_ble_eq_true rfl⟩ rfl hl.1 rfl (Nat.le_of_ble_eq_true rfl) dX5_isVisitor_10) (fun H locs G => ?_)
  obtain rfl := tnj1 hf
  exact ret_z C0 G (b01_n (z5_in1 _ _ _)) dX5_isVisitor_13
theorem z5_isVisitor (xs : Nat → Int32) (v1 : Int32) : b01 (f5_isVisitor xs v1) = true := by
  unfold f5_isVisitor
  (repeat' split) <;> first | rfl | exact z5_in1 _ _ _
theorem o5_isVisitor : okName yX5_isVisitor 1 := ⟨by decide, by decide, by decide +kernel⟩
set_option maxHeartbeats 4000000 in
set_option maxRecDepth 100000 in
theorem c5_isVisitor {X : XP} (hX : XT X) {l : Launch} {D : va_G} {cI cC : ClassId} {ad : Nat → Nat} {sz : Nat} {xs : Nat → Int32} {xkept : Nat → Int32} {xaside : Nat → Int32} {xisK : Int32} {xfound : Nat → Int32} {xgone : Int32} {xover : Nat → Int32} {xtape : Nat → Int32} {xtaped : Int32} {xtok : Int32} {xbeg : Int32} {xend : Int32} {xval : Int64} {xwid : Nat → Int32} {xsiz : Nat → Int32} {xcel : Nat → Int32} {xcar : Nat → Int32} {v1 : Int32} {r0 : Int32} (hf : f5_isVisitor xs v1 = r0) : Met l yX5_isVisitor (wU yX5_isVisitor cX5_isVisitor 2 (some .boolean)) ({ frames := 1, cells := 0, slots := 0, locals := 22 }) (va_Pc [.ref (ad 0), .int v1] (PreW X D (tyM cI cC) (wM cI cC ad xs xkept xaside xisK xfound xgone xover xtape xtaped xtok xbeg xend xval xwid xsiz xcel xcar) sz)) (QcI D (tyM cI cC) (wM cI cC ad xs xkept xaside xisK xfound xgone xover xtape xtaped xtok xbeg xend xval xwid xsiz xcel xcar) (va_A (wM cI cC ad xs xkept xaside xisK xfound xgone xover xtape xtaped xtok xbeg xend xval xwid xsiz xcel xcar) sz) r0) 0 0 (va_A (wM cI cC ad xs xkept xaside xisK xfound xgone xover xtape xtaped xtok xbeg xend xval xwid xsiz xcel xcar) sz) := by
  refine startW hX (own := RX5) (by decide) rfl (Nat.le_of_ble_eq_true rfl) (fun p e s m args below meth c ls C0 G hl => ?_)
  exact b5_isVisitor_0 C0 G hl hf
/-! 5_less -/
theorem dX5_less_0 : decode cX5_less 0 = .ok (.iload_n 0, 1) := by decide +kernel
theorem dX5_less_1 : decode cX5_less 1 = .ok (.iload_n 1, 1) := by decide +kernel
theorem dX5_less_2 : decode cX5_less 2 = .ok (.if_icmp .ge 7, 3) := by decide +kernel
theorem dX5_less_5 : decode cX5_less 5 = .ok (.iload_n 0, 1) := by decide +kernel
theorem dX5_less_6 : decode cX5_less 6 = .ok (.goto 4, 3) := by decide +kernel
theorem dX5_less_9 : decode cX5_less 9 = .ok (.iload_n 1, 1) := by decide +kernel
theorem dX5_less_10 : decode cX5_less 10 = .ok (.ireturn, 1) := by decide +kernel
def f5_less  (v0 : Int32) (v1 : Int32) : Int32 :=
  if v1 ≤ v0 then (
    v1)
  else (
    v0)
set_option maxHeartbeats 4000000 in
set_option maxRecDepth 100000 in
theorem b5_less_0 {X : XP} {p : Program} {l : Launch} {e : Env} {s : State} {m : MethodId} {args : Array Value} {below : List Frame} {meth : Method} {c : Code} {D : va_G} {cI cC : ClassId} {ad : Nat → Nat} {A : Nat → Prop} {xs : Nat → Int32} {xkept : Nat → Int32} {xaside : Nat → Int32} {xisK : Int32} {xfound : Nat → Int32} {xgone : Int32} {xover : Nat → Int32} {xtape : Nat → Int32} {xtaped : Int32} {xtok : Int32} {xbeg : Int32} {xend : Int32} {xval : Int64} {xwid : Nat → Int32} {xsiz : Nat → Int32} {xcel : Nat → Int32} {xcar : Nat → Int32} {r0 : Int32} (C0 : CX X p s m args meth c cX5_less 2 (some .int) RX5 A) : ∀ {v0 : Int32} {v1 : Int32} {H : Heap} {locs : List Loc} {ls : Array Slot}, GX X D (tyM cI cC) A s (wM cI cC ad xs xkept xaside xisK xfound xgone xover xtape xtaped xtok xbeg xend xval xwid xsiz xcel xcar) H locs → lv_has ls 2 [(0, .int v0), (1, .int v1)] → f5_less v0 v1 = r0 → W p l e ({ frames := 0, cells := 0, slots := 0, locals := 0 }) s m args below meth c H locs 0 0 (MQ below (QcI D (tyM cI cC) (wM cI cC ad xs xkept xaside xisK xfound xgone xover xtape xtaped xtok xbeg xend xval xwid xsiz xcel xcar) A r0) args s 0 0 A) (F0 m 0 ls []) := by
  have hx := C0.1
  have hb := C0.2.1
  have hown := C0.2.2.2.2.1
  have hts := C0.2.2.2.2.2.1
  have hX := C0.2.2.2.2.2.2.2.2
  intro v0 v1 H locs ls G hl hf
  unfold f5_less at hf
  refine lv_iload_n hx hb dX5_less_0 rfl (lv_at hl 0 rfl) ?_
  refine lv_iload_n hx hb dX5_less_1 rfl (lv_at hl 1 rfl) ?_
  refine lv_icmp_ge (tgt := 9) hx hb dX5_less_2 (by decide) (fun hc1 => ?_) (fun hc1 => ?_)
  · have hf := itp hc1 hf
    refine lv_iload_n hx hb dX5_less_9 rfl (lv_at hl 1 rfl) ?_
    obtain rfl := tnj1 hf
    exact ret_i C0 G dX5_less_10
  · have hf := itn hc1 hf
    refine lv_iload_n hx hb dX5_less_5 rfl (lv_at hl 0 rfl) ?_
    refine lv_goto (tgt := 10) hx hb dX5_less_6 (by decide) ?_
    obtain rfl := tnj1 hf
    exact ret_i C0 G dX5_less_10
theorem o5_less : okName yX5_less 2 := ⟨by decide, by decide, by decide +kernel⟩
set_option maxHeartbeats 4000000 in
set_option maxRecDepth 100000 in
theorem c5_less {X : XP} (hX : XT X) {l : Launch} {D : va_G} {cI cC : ClassId} {ad : Nat → Nat} {sz : Nat} {xs : Nat → Int32} {xkept : Nat → Int32} {xaside : Nat → Int32} {xisK : Int32} {xfound : Nat → Int32} {xgone : Int32} {xover : Nat → Int32} {xtape : Nat → Int32} {xtaped : Int32} {xtok : Int32} {xbeg : Int32} {xend : Int32} {xval : Int64} {xwid : Nat → Int32} {xsiz : Nat → Int32} {xcel : Nat → Int32} {xcar : Nat → Int32} {v0 : Int32} {v1 : Int32} {r0 : Int32} (hf : f5_less v0 v1 = r0) : Met l yX5_less (wU yX5_less cX5_less 2 (some .int)) ({ frames := 0, cells := 0, slots := 0, locals := 0 }) (va_Pc [.int v0, .int v1] (PreW X D (tyM cI cC) (wM cI cC ad xs xkept xaside xisK xfound xgone xover xtape xtaped xtok xbeg xend xval xwid xsiz xcel xcar) sz)) (QcI D (tyM cI cC) (wM cI cC ad xs xkept xaside xisK xfound xgone xover xtape xtaped xtok xbeg xend xval xwid xsiz xcel xcar) (va_A (wM cI cC ad xs xkept xaside xisK xfound xgone xover xtape xtaped xtok xbeg xend xval xwid xsiz xcel xcar) sz) r0) 0 0 (va_A (wM cI cC ad xs xkept xaside xisK xfound xgone xover xtape xtaped xtok xbeg xend xval xwid xsiz xcel xcar) sz) := by
  refine startW hX (own := RX5) (by decide) rfl (Nat.le_of_ble_eq_true rfl) (fun p e s m args below meth c ls C0 G hl => ?_)
  exact b5_less_0 C0 G hl hf
/-! 5_raisesOf -/
theorem dX5_raisesOf_0 : decode cX5_raisesOf 0 = .ok (.aload_n 0, 1) := by decide +kernel
theorem dX5_raisesOf_1 : decode cX5_raisesOf 1 = .ok (.iload_n 1, 1) := by decide +kernel
theorem dX5_raisesOf_2 : decode cX5_raisesOf 2 = .ok (.iconst 3, 1) := by decide +kernel
theorem dX5_raisesOf_3 : decode cX5_raisesOf 3 = .ok (.invokevirtual 55, 3) := by decide +kernel
theorem dX5_raisesOf_6 : decode cX5_raisesOf 6 = .ok (.istore_n 2, 1) := by decide +kernel
theorem dX5_raisesOf_7 : decode cX5_raisesOf 7 = .ok (.iload_n 2, 1) := by decide +kernel
theorem dX5_raisesOf_8 : decode cX5_raisesOf 8 = .ok (.aload_n 0, 1) := by decide +kernel
theorem dX5_raisesOf_9 : decode cX5_raisesOf 9 = .ok (.getfield 9, 3) := by decide +kernel
theorem dX5_raisesOf_12 : decode cX5_raisesOf 12 = .ok (.iconst 5, 1) := by decide +kernel
theorem dX5_raisesOf_13 : decode cX5_raisesOf 13 = .ok (.iaload, 1) := by decide +kernel
theorem dX5_raisesOf_14 : decode cX5_raisesOf 14 = .ok (.iconst 3, 1) := by decide +kernel
theorem dX5_raisesOf_15 : decode cX5_raisesOf 15 = .ok (.idiv, 1) := by decide +kernel
theorem dX5_raisesOf_16 : decode cX5_raisesOf 16 = .ok (.iadd, 1) := by decide +kernel
theorem dX5_raisesOf_17 : decode cX5_raisesOf 17 = .ok (.istore_n 3, 1) := by decide +kernel
theorem dX5_raisesOf_18 : decode cX5_raisesOf 18 = .ok (.aload_n 0, 1) := by decide +kernel
theorem dX5_raisesOf_19 : decode cX5_raisesOf 19 = .ok (.iload_n 1, 1) := by decide +kernel
theorem dX5_raisesOf_20 : decode cX5_raisesOf 20 = .ok (.iconst 0, 1) := by decide +kernel
theorem dX5_raisesOf_21 : decode cX5_raisesOf 21 = .ok (.invokevirtual 55, 3) := by decide +kernel
theorem dX5_raisesOf_24 : decode cX5_raisesOf 24 = .ok (.tableswitch 71 1 6 #[40, 42, 46, 63, 71, 65], 40) := by decide +kernel
theorem dX5_raisesOf_64 : decode cX5_raisesOf 64 = .ok (.iload_n 3, 1) := by decide +kernel
theorem dX5_raisesOf_65 : decode cX5_raisesOf 65 = .ok (.ireturn, 1) := by decide +kernel
theorem dX5_raisesOf_66 : decode cX5_raisesOf 66 = .ok (.iload_n 2, 1) := by decide +kernel
theorem dX5_raisesOf_67 : decode cX5_raisesOf 67 = .ok (.iconst 2, 1) := by decide +kernel
theorem dX5_raisesOf_68 : decode cX5_raisesOf 68 = .ok (.idiv, 1) := by decide +kernel
theorem dX5_raisesOf_69 : decode cX5_raisesOf 69 = .ok (.ireturn, 1) := by decide +kernel
theorem dX5_raisesOf_70 : decode cX5_raisesOf 70 = .ok (.bipush 30, 2) := by decide +kernel
theorem dX5_raisesOf_72 : decode cX5_raisesOf 72 = .ok (.iload_n 3, 1) := by decide +kernel
theorem dX5_raisesOf_73 : decode cX5_raisesOf 73 = .ok (.aload_n 0, 1) := by decide +kernel
theorem dX5_raisesOf_74 : decode cX5_raisesOf 74 = .ok (.iload_n 1, 1) := by decide +kernel
theorem dX5_raisesOf_75 : decode cX5_raisesOf 75 = .ok (.iconst 5, 1) := by decide +kernel
theorem dX5_raisesOf_76 : decode cX5_raisesOf 76 = .ok (.invokevirtual 55, 3) := by decide +kernel
theorem dX5_raisesOf_79 : decode cX5_raisesOf 79 = .ok (.bipush 10, 2) := by decide +kernel
theorem dX5_raisesOf_81 : decode cX5_raisesOf 81 = .ok (.idiv, 1) := by decide +kernel
theorem dX5_raisesOf_82 : decode cX5_raisesOf 82 = .ok (.iadd, 1) := by decide +kernel
theorem dX5_raisesOf_83 : decode cX5_raisesOf 83 = .ok (.invokestatic 63, 3) := by decide +kernel
theorem dX5_raisesOf_86 : decode cX5_raisesOf 86 = .ok (.ireturn, 1) := by decide +kernel
theorem dX5_raisesOf_87 : decode cX5_raisesOf 87 = .ok (.iconst 0, 1) := by decide +kernel
theorem dX5_raisesOf_88 : decode cX5_raisesOf 88 = .ok (.ireturn, 1) := by decide +kernel
theorem dX5_raisesOf_89 : decode cX5_raisesOf 89 = .ok (.iload_n 2, 1) := by decide +kernel
theorem dX5_raisesOf_90 : decode cX5_raisesOf 90 = .ok (.iconst 2, 1) := by decide +kernel
theorem dX5_raisesOf_91 : decode cX5_raisesOf 91 = .ok (.idiv, 1) := by decide +kernel
theorem dX5_raisesOf_92 : decode cX5_raisesOf 92 = .ok (.iconst 2, 1) := by decide +kernel
theorem dX5_raisesOf_93 : decode cX5_raisesOf 93 = .ok (.iadd, 1) := by decide +kernel
theorem dX5_raisesOf_94 : decode cX5_raisesOf 94 = .ok (.ireturn, 1) := by decide +kernel
theorem dX5_raisesOf_95 : decode cX5_raisesOf 95 = .ok (.iload_n 2, 1) := by decide +kernel
theorem dX5_raisesOf_96 : decode cX5_raisesOf 96 = .ok (.ireturn, 1) := by decide +kernel
def f5_raisesOf (xs : Nat → Int32) (v1 : Int32) : Option (Int32) :=
  ob1 (f5_get xs v1 (3 : Int32)) (fun r1 =>
  ob1 (f5_get xs v1 (0 : Int32)) (fun r3 =>
  if r3 = (1 : Int32) then (
    some (r1 + ((xs 5) / (3 : Int32))))
  else
  if r3 = (2 : Int32) then (
    some (r1 / (2 : Int32)))
  else
  if r3 = (3 : Int32) then (
    ob1 (f5_get xs v1 (5 : Int32)) (fun r8 =>
    some (f5_less (30 : Int32) ((r1 + ((xs 5) / (3 : Int32))) + (r8 / (10 : Int32))))))
  else
  if r3 = (4 : Int32) then (
    some (0 : Int32))
  else
  if r3 = (6 : Int32) then (
    some ((r1 / (2 : Int32)) + (2 : Int32)))
  else
  some r1))
set_option maxHeartbeats 4000000 in
set_option maxRecDepth 100000 in
theorem b5_raisesOf_0 {X : XP} {p : Program} {l : Launch} {e : Env} {s : State} {m : MethodId} {args : Array Value} {below : List Frame} {meth : Method} {c : Code} {D : va_G} {cI cC : ClassId} {ad : Nat → Nat} {A : Nat → Prop} {xs : Nat → Int32} {xkept : Nat → Int32} {xaside : Nat → Int32} {xisK : Int32} {xfound : Nat → Int32} {xgone : Int32} {xover : Nat → Int32} {xtape : Nat → Int32} {xtaped : Int32} {xtok : Int32} {xbeg : Int32} {xend : Int32} {xval : Int64} {xwid : Nat → Int32} {xsiz : Nat → Int32} {xcel : Nat → Int32} {xcar : Nat → Int32} {r0 : Int32} (C0 : CX X p s m args meth c cX5_raisesOf 4 (some .int) RX5 A) : ∀ {v1 : Int32} {H : Heap} {locs : List Loc} {ls : Array Slot}, GX X D (tyM cI cC) A s (wM cI cC ad xs xkept xaside xisK xfound xgone xover xtape xtaped xtok xbeg xend xval xwid xsiz xcel xcar) H locs → lv_has ls 4 [(0, .ref (ad 0)), (1, .int v1)] → f5_raisesOf xs v1 = some r0 → W p l e ({ frames := 1, cells := 0, slots := 0, locals := 22 }) s m args below meth c H locs 0 0 (MQ below (QcI D (tyM cI cC) (wM cI cC ad xs xkept xaside xisK xfound xgone xover xtape xtaped xtok xbeg xend xval xwid xsiz xcel xcar) A r0) args s 0 0 A) (F0 m 0 ls []) := by
  have hx := C0.1
  have hb := C0.2.1
  have hown := C0.2.2.2.2.1
  have hts := C0.2.2.2.2.2.1
  have hX := C0.2.2.2.2.2.2.2.2
  intro v1 H locs ls G hl hf
  unfold f5_raisesOf at hf
  refine lv_aload_n hx hb dX5_raisesOf_0 rfl (lv_at hl 0 rfl) ?_
  refine lv_iload_n hx hb dX5_raisesOf_1 rfl (lv_at hl 1 rfl) ?_
  refine lv_iconst (v := (3 : Int32)) hx hb dX5_raisesOf_2 (by decide) ?_
  obtain ⟨r1, hc2, hf⟩ := ob1_s hf
  refine go_i C0 G (runV_of (n := 2) (q0 := 0) (As := [.int v1, .int (3 : Int32)]) (rest := []) C0 G (c5_get hX hc2) q801 q54 q798 q800 q11 o5_get ⟨rfl, rfl⟩ ⟨Nat.le_of_ble_eq_true rfl, Nat.le_of_ble_eq_true rfl⟩ rfl rfl rfl hl.1 rfl (Nat.le_of_ble_eq_true rfl) dX5_raisesOf_3) (fun H locs G => ?_)
  refine lv_istore_n (lv' := [(2, .int r1), (0, .ref (ad 0)), (1, .int v1)]) hx hb dX5_raisesOf_6 rfl hl (by decide) rfl (fun ls hl => ?_)
  refine lv_iload_n hx hb dX5_raisesOf_7 rfl (lv_at hl 0 rfl) ?_
  refine lv_aload_n hx hb dX5_raisesOf_8 rfl (lv_at hl 1 rfl) ?_
  refine s_get (C := RX5) (T := TX5) C0 G i_X5 0 0 rfl rfl (by decide) q713 rfl dX5_raisesOf_9 ?_
  refine lv_iconst (v := (5 : Int32)) hx hb dX5_raisesOf_12 (by decide) ?_
  refine s_iald (k := 5) C0 G 1 0 rfl rfl (vin (by decide)) (by decide) dX5_raisesOf_13 ?_
  refine lv_iconst (v := (3 : Int32)) hx hb dX5_raisesOf_14 (by decide) ?_
  refine lv_idiv hx hb dX5_raisesOf_15 (by decide) ?_
  refine lv_iadd hx hb dX5_raisesOf_16 ?_
  refine lv_istore_n (lv' := [(3, .int (r1 + ((xs 5) / (3 : Int32)))), (2, .int r1), (0, .ref (ad 0)), (1, .int v1)]) hx hb dX5_raisesOf_17 rfl hl (by decide) rfl (fun ls hl => ?_)
  refine lv_aload_n hx hb dX5_raisesOf_18 rfl (lv_at hl 2 rfl) ?_
  refine lv_iload_n hx hb dX5_raisesOf_19 rfl (lv_at hl 3 rfl) ?_
  refine lv_iconst (v := (0 : Int32)) hx hb dX5_raisesOf_20 (by decide) ?_
  obtain ⟨r3, hc4, hf⟩ := ob1_s hf
  refine go_i C0 G (runV_of (n := 2) (q0 := 0) (As := [.int v1, .int (0 : Int32)]) (rest := []) C0 G (c5_get hX hc4) q801 q54 q798 q800 q11 o5_get ⟨rfl, rfl⟩ ⟨Nat.le_of_ble_eq_true rfl, Nat.le_of_ble_eq_true rfl⟩ rfl rfl rfl hl.1 rfl (Nat.le_of_ble_eq_true rfl) dX5_raisesOf_21) (fun H locs G => ?_)
  by_cases hs5 : r3 = (1 : Int32)
  · have hf := itp hs5 hf
    refine lv_tableIn (tgt := 64) hx hb dX5_raisesOf_24 (by rw [hs5]; decide) (by rw [hs5]; decide) (by rw [hs5]; rfl) (by decide) ?_
    refine lv_iload_n hx hb dX5_raisesOf_64 rfl (lv_at hl 0 rfl) ?_
    obtain rfl := inj1 hf
    exact ret_i C0 G dX5_raisesOf_65
  have hf := itn hs5 hf
  by_cases hs6 : r3 = (2 : Int32)
  · have hf := itp hs6 hf
    refine lv_tableIn (tgt := 66) hx hb dX5_raisesOf_24 (by rw [hs6]; decide) (by rw [hs6]; decide) (by rw [hs6]; rfl) (by decide) ?_
    refine lv_iload_n hx hb dX5_raisesOf_66 rfl (lv_at hl 1 rfl) ?_
    refine lv_iconst (v := (2 : Int32)) hx hb dX5_raisesOf_67 (by decide) ?_
    refine lv_idiv hx hb dX5_raisesOf_68 (by decide) ?_
    obtain rfl := inj1 hf
    exact ret_i C0 G dX5_raisesOf_69
  have hf := itn hs6 hf
  by_cases hs7 : r3 = (3 : Int32)
  · have hf := itp hs7 hf
    refine lv_tableIn (tgt := 70) hx hb dX5_raisesOf_24 (by rw [hs7]; decide) (by rw [hs7]; decide) (by rw [hs7]; rfl) (by decide) ?_
    refine lv_bipush (v := (30 : Int32)) hx hb dX5_raisesOf_70 (by decide) ?_
    refine lv_iload_n hx hb dX5_raisesOf_72 rfl (lv_at hl 0 rfl) ?_
    refine lv_aload_n hx hb dX5_raisesOf_73 rfl (lv_at hl 2 rfl) ?_
    refine lv_iload_n hx hb dX5_raisesOf_74 rfl (lv_at hl 3 rfl) ?_
    refine lv_iconst (v := (5 : Int32)) hx hb dX5_raisesOf_75 (by decide) ?_
    obtain ⟨r8, hc9, hf⟩ := ob1_s hf
    refine go_i C0 G (runV_of (n := 2) (q0 := 0) (As := [.int v1, .int (5 : Int32)]) (rest := [.int (r1 + ((xs 5) / (3 : Int32))), .int (30 : Int32)]) C0 G (c5_get hX hc9) q801 q54 q798 q800 q11 o5_get ⟨rfl, rfl⟩ ⟨Nat.le_of_ble_eq_true rfl, Nat.le_of_ble_eq_true rfl⟩ rfl rfl rfl hl.1 rfl (Nat.le_of_ble_eq_true rfl) dX5_raisesOf_76) (fun H locs G => ?_)
    refine lv_bipush (v := (10 : Int32)) hx hb dX5_raisesOf_79 (by decide) ?_
    refine lv_idiv hx hb dX5_raisesOf_81 (by decide) ?_
    refine lv_iadd hx hb dX5_raisesOf_82 ?_
    refine go_i C0 G (runS_of (n := 2) (As := [.int (30 : Int32), .int ((r1 + ((xs 5) / (3 : Int32))) + (r8 / (10 : Int32)))]) (rest := []) C0 G (c5_less hX rfl) q832 q54 q830 q831 o5_less ⟨rfl, rfl⟩ ⟨Nat.le_of_ble_eq_true rfl, Nat.le_of_ble_eq_true rfl⟩ rfl hl.1 rfl (Nat.le_of_ble_eq_true rfl) dX5_raisesOf_83) (fun H locs G => ?_)
    obtain rfl := inj1 hf
    exact ret_i C0 G dX5_raisesOf_86
  have hf := itn hs7 hf
  by_cases hs10 : r3 = (4 : Int32)
  · have hf := itp hs10 hf
    refine lv_tableIn (tgt := 87) hx hb dX5_raisesOf_24 (by rw [hs10]; decide) (by rw [hs10]; decide) (by rw [hs10]; rfl) (by decide) ?_
    refine lv_iconst (v := (0 : Int32)) hx hb dX5_raisesOf_87 (by decide) ?_
    obtain rfl := inj1 hf
    exact ret_i C0 G dX5_raisesOf_88
  have hf := itn hs10 hf
  by_cases hs11 : r3 = (6 : Int32)
  · have hf := itp hs11 hf
    refine lv_tableIn (tgt := 89) hx hb dX5_raisesOf_24 (by rw [hs11]; decide) (by rw [hs11]; decide) (by rw [hs11]; rfl) (by decide) ?_
    refine lv_iload_n hx hb dX5_raisesOf_89 rfl (lv_at hl 1 rfl) ?_
    refine lv_iconst (v := (2 : Int32)) hx hb dX5_raisesOf_90 (by decide) ?_
    refine lv_idiv hx hb dX5_raisesOf_91 (by decide) ?_
    refine lv_iconst (v := (2 : Int32)) hx hb dX5_raisesOf_92 (by decide) ?_
    refine lv_iadd hx hb dX5_raisesOf_93 ?_
    obtain rfl := inj1 hf
    exact ret_i C0 G dX5_raisesOf_94
  have hf := itn hs11 hf
  by_cases hs12 : r3 = (5 : Int32)
  · refine lv_tableIn (tgt := 95) hx hb dX5_raisesOf_24 (by rw [hs12]; decide) (by rw [hs12]; decide) (by rw [hs12]; rfl) (by decide) ?_
    refine lv_iload_n hx hb dX5_raisesOf_95 rfl (lv_at hl 1 rfl) ?_
    obtain rfl := inj1 hf
    exact ret_i C0 G dX5_raisesOf_96
  refine lv_tableOut (tgt := 95) hx hb dX5_raisesOf_24 (by have := lv_neT (a := 1) hs5 (by decide); have := lv_neT (a := 2) hs6 (by decide); have := lv_neT (a := 3) hs7 (by decide); have := lv_neT (a := 4) hs10 (by decide); have := lv_neT (a := 6) hs11 (by decide); have := lv_neT (a := 5) hs12 (by decide); omega) (by decide) ?_
  refine lv_iload_n hx hb dX5_raisesOf_95 rfl (lv_at hl 1 rfl) ?_
  obtain rfl := inj1 hf
  exact ret_i C0 G dX5_raisesOf_96
theorem o5_raisesOf : okName yX5_raisesOf 1 := ⟨by decide, by decide, by decide +kernel⟩
set_option maxHeartbeats 4000000 in
set_option maxRecDepth 100000 in
theorem c5_raisesOf {X : XP} (hX : XT X) {l : Launch} {D : va_G} {cI cC : ClassId} {ad : Nat → Nat} {sz : Nat} {xs : Nat → Int32} {xkept : Nat → Int32} {xaside : Nat → Int32} {xisK : Int32} {xfound : Nat → Int32} {xgone : Int32} {xover : Nat → Int32} {xtape : Nat → Int32} {xtaped : Int32} {xtok : Int32} {xbeg : Int32} {xend : Int32} {xval : Int64} {xwid : Nat → Int32} {xsiz : Nat → Int32} {xcel : Nat → Int32} {xcar : Nat → Int32} {v1 : Int32} {r0 : Int32} (hf : f5_raisesOf xs v1 = some r0) : Met l yX5_raisesOf (wU yX5_raisesOf cX5_raisesOf 4 (some .int)) ({ frames := 1, cells := 0, slots := 0, locals := 22 }) (va_Pc [.ref (ad 0), .int v1] (PreW X D (tyM cI cC) (wM cI cC ad xs xkept xaside xisK xfound xgone xover xtape xtaped xtok xbeg xend xval xwid xsiz xcel xcar) sz)) (QcI D (tyM cI cC) (wM cI cC ad xs xkept xaside xisK xfound xgone xover xtape xtaped xtok xbeg xend xval xwid xsiz xcel xcar) (va_A (wM cI cC ad xs xkept xaside xisK xfound xgone xover xtape xtaped xtok xbeg xend xval xwid xsiz xcel xcar) sz) r0) 0 0 (va_A (wM cI cC ad xs xkept xaside xisK xfound xgone xover xtape xtaped xtok xbeg xend xval xwid xsiz xcel xcar) sz) := by
  refine startW hX (own := RX5) (by decide) rfl (Nat.le_of_ble_eq_true rfl) (fun p e s m args below meth c ls C0 G hl => ?_)
  exact b5_raisesOf_0 C0 G hl hf
/-! 5_movesOf -/
theorem dX5_movesOf_0 : decode cX5_movesOf 0 = .ok (.aload_n 0, 1) := by decide +kernel
theorem dX5_movesOf_1 : decode cX5_movesOf 1 = .ok (.iload_n 1, 1) := by decide +kernel
theorem dX5_movesOf_2 : decode cX5_movesOf 2 = .ok (.iconst 0, 1) := by decide +kernel
theorem dX5_movesOf_3 : decode cX5_movesOf 3 = .ok (.invokevirtual 55, 3) := by decide +kernel
theorem dX5_movesOf_6 : decode cX5_movesOf 6 = .ok (.tableswitch 56 1 6 #[38, 56, 41, 41, 44, 46], 38) := by decide +kernel
theorem dX5_movesOf_44 : decode cX5_movesOf 44 = .ok (.bipush 20, 2) := by decide +kernel
theorem dX5_movesOf_46 : decode cX5_movesOf 46 = .ok (.ireturn, 1) := by decide +kernel
theorem dX5_movesOf_47 : decode cX5_movesOf 47 = .ok (.bipush 40, 2) := by decide +kernel
theorem dX5_movesOf_49 : decode cX5_movesOf 49 = .ok (.ireturn, 1) := by decide +kernel
theorem dX5_movesOf_50 : decode cX5_movesOf 50 = .ok (.iconst 1, 1) := by decide +kernel
theorem dX5_movesOf_51 : decode cX5_movesOf 51 = .ok (.ireturn, 1) := by decide +kernel
theorem dX5_movesOf_52 : decode cX5_movesOf 52 = .ok (.bipush 12, 2) := by decide +kernel
theorem dX5_movesOf_54 : decode cX5_movesOf 54 = .ok (.aload_n 0, 1) := by decide +kernel
theorem dX5_movesOf_55 : decode cX5_movesOf 55 = .ok (.getfield 9, 3) := by decide +kernel
theorem dX5_movesOf_58 : decode cX5_movesOf 58 = .ok (.iconst 4, 1) := by decide +kernel
theorem dX5_movesOf_59 : decode cX5_movesOf 59 = .ok (.iaload, 1) := by decide +kernel
theorem dX5_movesOf_60 : decode cX5_movesOf 60 = .ok (.isub, 1) := by decide +kernel
theorem dX5_movesOf_61 : decode cX5_movesOf 61 = .ok (.ireturn, 1) := by decide +kernel
theorem dX5_movesOf_62 : decode cX5_movesOf 62 = .ok (.bipush 12, 2) := by decide +kernel
theorem dX5_movesOf_64 : decode cX5_movesOf 64 = .ok (.ireturn, 1) := by decide +kernel
def f5_movesOf (xs : Nat → Int32) (v1 : Int32) : Option (Int32) :=
  ob1 (f5_get xs v1 (0 : Int32)) (fun r1 =>
  if r1 = (1 : Int32) then (
    some (20 : Int32))
  else
  if r1 = (3 : Int32) then (
    some (40 : Int32))
  else
  if r1 = (4 : Int32) then (
    some (40 : Int32))
  else
  if r1 = (5 : Int32) then (
    some (1 : Int32))
  else
  if r1 = (6 : Int32) then (
    some ((12 : Int32) - (xs 4)))
  else
  some (12 : Int32))
set_option maxHeartbeats 4000000 in
set_option maxRecDepth 100000 in
theorem b5_movesOf_0 {X : XP} {p : Program} {l : Launch} {e : Env} {s : State} {m : MethodId} {args : Array Value} {below : List Frame} {meth : Method} {c : Code} {D : va_G} {cI cC : ClassId} {ad : Nat → Nat} {A : Nat → Prop} {xs : Nat → Int32} {xkept : Nat → Int32} {xaside : Nat → Int32} {xisK : Int32} {xfound : Nat → Int32} {xgone : Int32} {xover : Nat → Int32} {xtape : Nat → Int32} {xtaped : Int32} {xtok : Int32} {xbeg : Int32} {xend : Int32} {xval : Int64} {xwid : Nat → Int32} {xsiz : Nat → Int32} {xcel : Nat → Int32} {xcar : Nat → Int32} {r0 : Int32} (C0 : CX X p s m args meth c cX5_movesOf 2 (some .int) RX5 A) : ∀ {v1 : Int32} {H : Heap} {locs : List Loc} {ls : Array Slot}, GX X D (tyM cI cC) A s (wM cI cC ad xs xkept xaside xisK xfound xgone xover xtape xtaped xtok xbeg xend xval xwid xsiz xcel xcar) H locs → lv_has ls 2 [(0, .ref (ad 0)), (1, .int v1)] → f5_movesOf xs v1 = some r0 → W p l e ({ frames := 1, cells := 0, slots := 0, locals := 22 }) s m args below meth c H locs 0 0 (MQ below (QcI D (tyM cI cC) (wM cI cC ad xs xkept xaside xisK xfound xgone xover xtape xtaped xtok xbeg xend xval xwid xsiz xcel xcar) A r0) args s 0 0 A) (F0 m 0 ls []) := by
  have hx := C0.1
  have hb := C0.2.1
  have hown := C0.2.2.2.2.1
  have hts := C0.2.2.2.2.2.1
  have hX := C0.2.2.2.2.2.2.2.2
  intro v1 H locs ls G hl hf
  unfold f5_movesOf at hf
  refine lv_aload_n hx hb dX5_movesOf_0 rfl (lv_at hl 0 rfl) ?_
  refine lv_iload_n hx hb dX5_movesOf_1 rfl (lv_at hl 1 rfl) ?_
  refine lv_iconst (v := (0 : Int32)) hx hb dX5_movesOf_2 (by decide) ?_
  obtain ⟨r1, hc2, hf⟩ := ob1_s hf
  refine go_i C0 G (runV_of (n := 2) (q0 := 0) (As := [.int v1, .int (0 : Int32)]) (rest := []) C0 G (c5_get hX hc2) q801 q54 q798 q800 q11 o5_get ⟨rfl, rfl⟩ ⟨Nat.le_of_ble_eq_true rfl, Nat.le_of_ble_eq_true rfl⟩ rfl rfl rfl hl.1 rfl (Nat.le_of_ble_eq_true rfl) dX5_movesOf_3) (fun H locs G => ?_)
  by_cases hs3 : r1 = (1 : Int32)
  · have hf := itp hs3 hf
    refine lv_tableIn (tgt := 44) hx hb dX5_movesOf_6 (by rw [hs3]; decide) (by rw [hs3]; decide) (by rw [hs3]; rfl) (by decide) ?_
    refine lv_bipush (v := (20 : Int32)) hx hb dX5_movesOf_44 (by decide) ?_
    obtain rfl := inj1 hf
    exact ret_i C0 G dX5_movesOf_46
  have hf := itn hs3 hf
  by_cases hs4 : r1 = (3 : Int32)
  · have hf := itp hs4 hf
    refine lv_tableIn (tgt := 47) hx hb dX5_movesOf_6 (by rw [hs4]; decide) (by rw [hs4]; decide) (by rw [hs4]; rfl) (by decide) ?_
    refine lv_bipush (v := (40 : Int32)) hx hb dX5_movesOf_47 (by decide) ?_
    obtain rfl := inj1 hf
    exact ret_i C0 G dX5_movesOf_49
  have hf := itn hs4 hf
  by_cases hs5 : r1 = (4 : Int32)
  · have hf := itp hs5 hf
    refine lv_tableIn (tgt := 47) hx hb dX5_movesOf_6 (by rw [hs5]; decide) (by rw [hs5]; decide) (by rw [hs5]; rfl) (by decide) ?_
    refine lv_bipush (v := (40 : Int32)) hx hb dX5_movesOf_47 (by decide) ?_
    obtain rfl := inj1 hf
    exact ret_i C0 G dX5_movesOf_49
  have hf := itn hs5 hf
  by_cases hs6 : r1 = (5 : Int32)
  · have hf := itp hs6 hf
    refine lv_tableIn (tgt := 50) hx hb dX5_movesOf_6 (by rw [hs6]; decide) (by rw [hs6]; decide) (by rw [hs6]; rfl) (by decide) ?_
    refine lv_iconst (v := (1 : Int32)) hx hb dX5_movesOf_50 (by decide) ?_
    obtain rfl := inj1 hf
    exact ret_i C0 G dX5_movesOf_51
  have hf := itn hs6 hf
  by_cases hs7 : r1 = (6 : Int32)
  · have hf := itp hs7 hf
    refine lv_tableIn (tgt := 52) hx hb dX5_movesOf_6 (by rw [hs7]; decide) (by rw [hs7]; decide) (by rw [hs7]; rfl) (by decide) ?_
    refine lv_bipush (v := (12 : Int32)) hx hb dX5_movesOf_52 (by decide) ?_
    refine lv_aload_n hx hb dX5_movesOf_54 rfl (lv_at hl 0 rfl) ?_
    refine s_get (C := RX5) (T := TX5) C0 G i_X5 0 0 rfl rfl (by decide) q713 rfl dX5_movesOf_55 ?_
    refine lv_iconst (v := (4 : Int32)) hx hb dX5_movesOf_58 (by decide) ?_
    refine s_iald (k := 4) C0 G 1 0 rfl rfl (vin (by decide)) (by decide) dX5_movesOf_59 ?_
    refine lv_isub hx hb dX5_movesOf_60 ?_
    obtain rfl := inj1 hf
    exact ret_i C0 G dX5_movesOf_61
  have hf := itn hs7 hf
  by_cases hs8 : r1 = (2 : Int32)
  · refine lv_tableIn (tgt := 62) hx hb dX5_movesOf_6 (by rw [hs8]; decide) (by rw [hs8]; decide) (by rw [hs8]; rfl) (by decide) ?_
    refine lv_bipush (v := (12 : Int32)) hx hb dX5_movesOf_62 (by decide) ?_
    obtain rfl := inj1 hf
    exact ret_i C0 G dX5_movesOf_64
  refine lv_tableOut (tgt := 62) hx hb dX5_movesOf_6 (by have := lv_neT (a := 1) hs3 (by decide); have := lv_neT (a := 3) hs4 (by decide); have := lv_neT (a := 4) hs5 (by decide); have := lv_neT (a := 5) hs6 (by decide); have := lv_neT (a := 6) hs7 (by decide); have := lv_neT (a := 2) hs8 (by decide); omega) (by decide) ?_
  refine lv_bipush (v := (12 : Int32)) hx hb dX5_movesOf_62 (by decide) ?_
  obtain rfl := inj1 hf
  exact ret_i C0 G dX5_movesOf_64
theorem o5_movesOf : okName yX5_movesOf 1 := ⟨by decide, by decide, by decide +kernel⟩
set_option maxHeartbeats 4000000 in
set_option maxRecDepth 100000 in
theorem c5_movesOf {X : XP} (hX : XT X) {l : Launch} {D : va_G} {cI cC : ClassId} {ad : Nat → Nat} {sz : Nat} {xs : Nat → Int32} {xkept : Nat → Int32} {xaside : Nat → Int32} {xisK : Int32} {xfound : Nat → Int32} {xgone : Int32} {xover : Nat → Int32} {xtape : Nat → Int32} {xtaped : Int32} {xtok : Int32} {xbeg : Int32} {xend : Int32} {xval : Int64} {xwid : Nat → Int32} {xsiz : Nat → Int32} {xcel : Nat → Int32} {xcar : Nat → Int32} {v1 : Int32} {r0 : Int32} (hf : f5_movesOf xs v1 = some r0) : Met l yX5_movesOf (wU yX5_movesOf cX5_movesOf 2 (some .int)) ({ frames := 1, cells := 0, slots := 0, locals := 22 }) (va_Pc [.ref (ad 0), .int v1] (PreW X D (tyM cI cC) (wM cI cC ad xs xkept xaside xisK xfound xgone xover xtape xtaped xtok xbeg xend xval xwid xsiz xcel xcar) sz)) (QcI D (tyM cI cC) (wM cI cC ad xs xkept xaside xisK xfound xgone xover xtape xtaped xtok xbeg xend xval xwid xsiz xcel xcar) (va_A (wM cI cC ad xs xkept xaside xisK xfound xgone xover xtape xtaped xtok xbeg xend xval xwid xsiz xcel xcar) sz) r0) 0 0 (va_A (wM cI cC ad xs xkept xaside xisK xfound xgone xover xtape xtaped xtok xbeg xend xval xwid xsiz xcel xcar) sz) := by
  refine startW hX (own := RX5) (by decide) rfl (Nat.le_of_ble_eq_true rfl) (fun p e s m args below meth c ls C0 G hl => ?_)
  exact b5_movesOf_0 C0 G hl hf
/-! 5_standsNow -/
theorem dX5_standsNow_0 : decode cX5_standsNow 0 = .ok (.aload_n 0, 1) := by decide +kernel
theorem dX5_standsNow_1 : decode cX5_standsNow 1 = .ok (.iload_n 1, 1) := by decide +kernel
theorem dX5_standsNow_2 : decode cX5_standsNow 2 = .ok (.invokevirtual 66, 3) := by decide +kernel
theorem dX5_standsNow_5 : decode cX5_standsNow 5 = .ok (.istore_n 2, 1) := by decide +kernel
theorem dX5_standsNow_6 : decode cX5_standsNow 6 = .ok (.aload_n 0, 1) := by decide +kernel
theorem dX5_standsNow_7 : decode cX5_standsNow 7 = .ok (.iload_n 1, 1) := by decide +kernel
theorem dX5_standsNow_8 : decode cX5_standsNow 8 = .ok (.invokevirtual 70, 3) := by decide +kernel
theorem dX5_standsNow_11 : decode cX5_standsNow 11 = .ok (.istore_n 3, 1) := by decide +kernel
theorem dX5_standsNow_12 : decode cX5_standsNow 12 = .ok (.aload_n 0, 1) := by decide +kernel
theorem dX5_standsNow_13 : decode cX5_standsNow 13 = .ok (.iload_n 1, 1) := by decide +kernel
theorem dX5_standsNow_14 : decode cX5_standsNow 14 = .ok (.iconst 0, 1) := by decide +kernel
theorem dX5_standsNow_15 : decode cX5_standsNow 15 = .ok (.invokevirtual 55, 3) := by decide +kernel
theorem dX5_standsNow_18 : decode cX5_standsNow 18 = .ok (.iconst 4, 1) := by decide +kernel
theorem dX5_standsNow_19 : decode cX5_standsNow 19 = .ok (.if_icmp .ne 7, 3) := by decide +kernel
theorem dX5_standsNow_22 : decode cX5_standsNow 22 = .ok (.iconst 1, 1) := by decide +kernel
theorem dX5_standsNow_23 : decode cX5_standsNow 23 = .ok (.goto 4, 3) := by decide +kernel
theorem dX5_standsNow_26 : decode cX5_standsNow 26 = .ok (.iconst 0, 1) := by decide +kernel
theorem dX5_standsNow_27 : decode cX5_standsNow 27 = .ok (.istore 4, 2) := by decide +kernel
theorem dX5_standsNow_29 : decode cX5_standsNow 29 = .ok (.iconst 1, 1) := by decide +kernel
theorem dX5_standsNow_30 : decode cX5_standsNow 30 = .ok (.istore 5, 2) := by decide +kernel
theorem dX5_standsNow_32 : decode cX5_standsNow 32 = .ok (.iconst 0, 1) := by decide +kernel
theorem dX5_standsNow_33 : decode cX5_standsNow 33 = .ok (.istore 6, 2) := by decide +kernel
theorem dX5_standsNow_35 : decode cX5_standsNow 35 = .ok (.iload 6, 2) := by decide +kernel
theorem dX5_standsNow_37 : decode cX5_standsNow 37 = .ok (.bipush 16, 2) := by decide +kernel
theorem dX5_standsNow_39 : decode cX5_standsNow 39 = .ok (.if_icmp .ge 83, 3) := by decide +kernel
theorem dX5_standsNow_42 : decode cX5_standsNow 42 = .ok (.iload 4, 2) := by decide +kernel
theorem dX5_standsNow_44 : decode cX5_standsNow 44 = .ok (.ifCond .eq 24, 3) := by decide +kernel
theorem dX5_standsNow_47 : decode cX5_standsNow 47 = .ok (.aload_n 0, 1) := by decide +kernel
theorem dX5_standsNow_48 : decode cX5_standsNow 48 = .ok (.getfield 9, 3) := by decide +kernel
theorem dX5_standsNow_51 : decode cX5_standsNow 51 = .ok (.bipush 6, 2) := by decide +kernel
theorem dX5_standsNow_53 : decode cX5_standsNow 53 = .ok (.iload 6, 2) := by decide +kernel
theorem dX5_standsNow_55 : decode cX5_standsNow 55 = .ok (.iadd, 1) := by decide +kernel
theorem dX5_standsNow_56 : decode cX5_standsNow 56 = .ok (.iaload, 1) := by decide +kernel
theorem dX5_standsNow_57 : decode cX5_standsNow 57 = .ok (.ifCond .le 7, 3) := by decide +kernel
theorem dX5_standsNow_60 : decode cX5_standsNow 60 = .ok (.iconst 1, 1) := by decide +kernel
theorem dX5_standsNow_61 : decode cX5_standsNow 61 = .ok (.goto 26, 3) := by decide +kernel
theorem dX5_standsNow_64 : decode cX5_standsNow 64 = .ok (.iconst 0, 1) := by decide +kernel
theorem dX5_standsNow_65 : decode cX5_standsNow 65 = .ok (.goto 22, 3) := by decide +kernel
theorem dX5_standsNow_68 : decode cX5_standsNow 68 = .ok (.aload_n 0, 1) := by decide +kernel
theorem dX5_standsNow_69 : decode cX5_standsNow 69 = .ok (.getfield 9, 3) := by decide +kernel
theorem dX5_standsNow_72 : decode cX5_standsNow 72 = .ok (.bipush 6, 2) := by decide +kernel
theorem dX5_standsNow_74 : decode cX5_standsNow 74 = .ok (.iload 6, 2) := by decide +kernel
theorem dX5_standsNow_76 : decode cX5_standsNow 76 = .ok (.iadd, 1) := by decide +kernel
theorem dX5_standsNow_77 : decode cX5_standsNow 77 = .ok (.iaload, 1) := by decide +kernel
theorem dX5_standsNow_78 : decode cX5_standsNow 78 = .ok (.iload_n 3, 1) := by decide +kernel
theorem dX5_standsNow_79 : decode cX5_standsNow 79 = .ok (.if_icmp .ge 7, 3) := by decide +kernel
theorem dX5_standsNow_82 : decode cX5_standsNow 82 = .ok (.iconst 1, 1) := by decide +kernel
theorem dX5_standsNow_83 : decode cX5_standsNow 83 = .ok (.goto 4, 3) := by decide +kernel
theorem dX5_standsNow_86 : decode cX5_standsNow 86 = .ok (.iconst 0, 1) := by decide +kernel
theorem dX5_standsNow_87 : decode cX5_standsNow 87 = .ok (.istore 7, 2) := by decide +kernel
theorem dX5_standsNow_89 : decode cX5_standsNow 89 = .ok (.iload 5, 2) := by decide +kernel
theorem dX5_standsNow_91 : decode cX5_standsNow 91 = .ok (.ifCond .eq 22, 3) := by decide +kernel
theorem dX5_standsNow_94 : decode cX5_standsNow 94 = .ok (.iload_n 2, 1) := by decide +kernel
theorem dX5_standsNow_95 : decode cX5_standsNow 95 = .ok (.iload 6, 2) := by decide +kernel
theorem dX5_standsNow_97 : decode cX5_standsNow 97 = .ok (.ishr, 1) := by decide +kernel
theorem dX5_standsNow_98 : decode cX5_standsNow 98 = .ok (.iconst 1, 1) := by decide +kernel
theorem dX5_standsNow_99 : decode cX5_standsNow 99 = .ok (.iand, 1) := by decide +kernel
theorem dX5_standsNow_100 : decode cX5_standsNow 100 = .ok (.iconst 1, 1) := by decide +kernel
theorem dX5_standsNow_101 : decode cX5_standsNow 101 = .ok (.if_icmp .ne 8, 3) := by decide +kernel
theorem dX5_standsNow_104 : decode cX5_standsNow 104 = .ok (.iload 7, 2) := by decide +kernel
theorem dX5_standsNow_106 : decode cX5_standsNow 106 = .ok (.ifCond .ne 7, 3) := by decide +kernel
theorem dX5_standsNow_109 : decode cX5_standsNow 109 = .ok (.iconst 1, 1) := by decide +kernel
theorem dX5_standsNow_110 : decode cX5_standsNow 110 = .ok (.goto 4, 3) := by decide +kernel
theorem dX5_standsNow_113 : decode cX5_standsNow 113 = .ok (.iconst 0, 1) := by decide +kernel
theorem dX5_standsNow_114 : decode cX5_standsNow 114 = .ok (.istore 5, 2) := by decide +kernel
theorem dX5_standsNow_116 : decode cX5_standsNow 116 = .ok (.iinc 6 1, 3) := by decide +kernel
theorem dX5_standsNow_119 : decode cX5_standsNow 119 = .ok (.goto (-84), 3) := by decide +kernel
theorem dX5_standsNow_122 : decode cX5_standsNow 122 = .ok (.iload 5, 2) := by decide +kernel
theorem dX5_standsNow_124 : decode cX5_standsNow 124 = .ok (.ireturn, 1) := by decide +kernel
def j5_standsNow_114 (k35 : (Nat → Int32) → Int32 → Int32 → Int32 → Int32 → Int32 → Option (Int32)) (xs : Nat → Int32) (v2 : Int32) (v3 : Int32) (v4 : Int32) (v6 : Int32) (t0 : Int32) : Option (Int32) :=
  k35 xs v2 v3 v4 t0 (v6 + (1 : Int32))
def j5_standsNow_113 (k35 : (Nat → Int32) → Int32 → Int32 → Int32 → Int32 → Int32 → Option (Int32)) (xs : Nat → Int32) (v2 : Int32) (v3 : Int32) (v4 : Int32) (v6 : Int32) : Option (Int32) :=
  j5_standsNow_114 k35 xs v2 v3 v4 v6 (0 : Int32)
def j5_standsNow_109 (k35 : (Nat → Int32) → Int32 → Int32 → Int32 → Int32 → Int32 → Option (Int32)) (xs : Nat → Int32) (v2 : Int32) (v3 : Int32) (v4 : Int32) (v6 : Int32) : Option (Int32) :=
  j5_standsNow_114 k35 xs v2 v3 v4 v6 (1 : Int32)
def j5_standsNow_87 (k35 : (Nat → Int32) → Int32 → Int32 → Int32 → Int32 → Int32 → Option (Int32)) (xs : Nat → Int32) (v2 : Int32) (v3 : Int32) (v4 : Int32) (v5 : Int32) (v6 : Int32) (t0 : Int32) : Option (Int32) :=
  if v5 = (0 : Int32) then (
    j5_standsNow_113 k35 xs v2 v3 v4 v6)
  else (
    if ((v2 >>> (v6 &&& 31)) &&& (1 : Int32)) = (1 : Int32) then (
      if t0 = (0 : Int32) then (
        j5_standsNow_109 k35 xs v2 v3 v4 v6)
      else (
        j5_standsNow_113 k35 xs v2 v3 v4 v6))
    else (
      j5_standsNow_109 k35 xs v2 v3 v4 v6))
def l5_standsNow_35  : Nat → (Nat → Int32) → Int32 → Int32 → Int32 → Int32 → Int32 → Option (Int32)
  | 0, _, _, _, _, _, _ => none
  | n + 1, xs, v2, v3, v4, v5, v6 =>
    if (16 : Int32) ≤ v6 then (
      gd (b01 v5) (
      some v5))
    else (
      if v4 = (0 : Int32) then (
        gd (inb ((6 : Int32) + v6) 88) (
        if v3 ≤ (xs (((6 : Int32) + v6).toNatClampNeg)) then (
          j5_standsNow_87 (l5_standsNow_35 n) xs v2 v3 v4 v5 v6 (0 : Int32))
        else (
          j5_standsNow_87 (l5_standsNow_35 n) xs v2 v3 v4 v5 v6 (1 : Int32))))
      else (
        gd (inb ((6 : Int32) + v6) 88) (
        if (xs (((6 : Int32) + v6).toNatClampNeg)) ≤ (0 : Int32) then (
          j5_standsNow_87 (l5_standsNow_35 n) xs v2 v3 v4 v5 v6 (0 : Int32))
        else (
          j5_standsNow_87 (l5_standsNow_35 n) xs v2 v3 v4 v5 v6 (1 : Int32)))))
def j5_standsNow_27  (xs : Nat → Int32) (v2 : Int32) (v3 : Int32) (t0 : Int32) : Option (Int32) :=
  l5_standsNow_35 1000 xs v2 v3 t0 (1 : Int32) (0 : Int32)
def f5_standsNow (xs : Nat → Int32) (v1 : Int32) : Option (Int32) :=
  ob1 (f5_spanOf xs v1) (fun r1 =>
  ob1 (f5_raisesOf xs v1) (fun r3 =>
  ob1 (f5_get xs v1 (0 : Int32)) (fun r5 =>
  if r5 = (4 : Int32) then (
    j5_standsNow_27 xs r1 r3 (1 : Int32))
  else (
    j5_standsNow_27 xs r1 r3 (0 : Int32)))))
set_option maxHeartbeats 4000000 in
set_option maxRecDepth 100000 in
theorem b5_standsNow_114 {X : XP} {p : Program} {l : Launch} {e : Env} {s : State} {m : MethodId} {args : Array Value} {below : List Frame} {meth : Method} {c : Code} {D : va_G} {cI cC : ClassId} {ad : Nat → Nat} {A : Nat → Prop} {xs : Nat → Int32} {xkept : Nat → Int32} {xaside : Nat → Int32} {xisK : Int32} {xfound : Nat → Int32} {xgone : Int32} {xover : Nat → Int32} {xtape : Nat → Int32} {xtaped : Int32} {xtok : Int32} {xbeg : Int32} {xend : Int32} {xval : Int64} {xwid : Nat → Int32} {xsiz : Nat → Int32} {xcel : Nat → Int32} {xcar : Nat → Int32} {r0 : Int32} (C0 : CX X p s m args meth c cX5_standsNow 8 (some .boolean) RX5 A) {k35 : (Nat → Int32) → Int32 → Int32 → Int32 → Int32 → Int32 → Option (Int32)} (hk35 : ∀ {v2 : Int32} {v3 : Int32} {v4 : Int32} {v5 : Int32} {v6 : Int32} {H : Heap} {locs : List Loc} {ls : Array Slot}, GX X D (tyM cI cC) A s (wM cI cC ad xs xkept xaside xisK xfound xgone xover xtape xtaped xtok xbeg xend xval xwid xsiz xcel xcar) H locs → lv_has ls 8 [(0, .ref (ad 0)), (2, .int v2), (3, .int v3), (4, .int v4), (5, .int v5), (6, .int v6)] → k35 xs v2 v3 v4 v5 v6 = some r0 → W p l e ({ frames := 3, cells := 0, slots := 0, locals := 69 }) s m args below meth c H locs 0 0 (MQ below (QcI D (tyM cI cC) (wM cI cC ad xs xkept xaside xisK xfound xgone xover xtape xtaped xtok xbeg xend xval xwid xsiz xcel xcar) A r0) args s 0 0 A) (F0 m 35 ls [])) : ∀ {v2 : Int32} {v3 : Int32} {v4 : Int32} {v6 : Int32} {t0 : Int32} {H : Heap} {locs : List Loc} {ls : Array Slot}, GX X D (tyM cI cC) A s (wM cI cC ad xs xkept xaside xisK xfound xgone xover xtape xtaped xtok xbeg xend xval xwid xsiz xcel xcar) H locs → lv_has ls 8 [(0, .ref (ad 0)), (2, .int v2), (3, .int v3), (4, .int v4), (6, .int v6)] → j5_standsNow_114 k35 xs v2 v3 v4 v6 t0 = some r0 → W p l e ({ frames := 3, cells := 0, slots := 0, locals := 69 }) s m args below meth c H locs 0 0 (MQ below (QcI D (tyM cI cC) (wM cI cC ad xs xkept xaside xisK xfound xgone xover xtape xtaped xtok xbeg xend xval xwid xsiz xcel xcar) A r0) args s 0 0 A) (F0 m 114 ls [.int t0]) := by
  have hx := C0.1
  have hb := C0.2.1
  have hown := C0.2.2.2.2.1
  have hts := C0.2.2.2.2.2.1
  have hX := C0.2.2.2.2.2.2.2.2
  intro v2 v3 v4 v6 t0 H locs ls G hl hf
  unfold j5_standsNow_114 at hf
  refine lv_istore (lv' := [(5, .int t0), (0, .ref (ad 0)), (2, .int v2), (3, .int v3), (4, .int v4), (6, .int v6)]) hx hb dX5_standsNow_114 hl (by decide) rfl (fun ls hl => ?_)
  refine lv_iinc (v := (v6 + (1 : Int32))) (lv' := [(6, .int (v6 + (1 : Int32))), (5, .int t0), (0, .ref (ad 0)), (2, .int v2), (3, .int v3), (4, .int v4)]) hx hb dX5_standsNow_116 hl (k := 5) rfl rfl (by decide) rfl (fun ls hl => ?_)
  refine lv_goto (tgt := 35) hx hb dX5_standsNow_119 (by decide) ?_
  exact hk35 G (lv_sub hl [2, 3, 4, 5, 1, 0] rfl) hf
set_option maxHeartbeats 4000000 in
set_option maxRecDepth 100000 in
theorem b5_standsNow_113 {X : XP} {p : Program} {l : Launch} {e : Env} {s : State} {m : MethodId} {args : Array Value} {below : List Frame} {meth : Method} {c : Code} {D : va_G} {cI cC : ClassId} {ad : Nat → Nat} {A : Nat → Prop} {xs : Nat → Int32} {xkept : Nat → Int32} {xaside : Nat → Int32} {xisK : Int32} {xfound : Nat → Int32} {xgone : Int32} {xover : Nat → Int32} {xtape : Nat → Int32} {xtaped : Int32} {xtok : Int32} {xbeg : Int32} {xend : Int32} {xval : Int64} {xwid : Nat → Int32} {xsiz : Nat → Int32} {xcel : Nat → Int32} {xcar : Nat → Int32} {r0 : Int32} (C0 : CX X p s m args meth c cX5_standsNow 8 (some .boolean) RX5 A) {k35 : (Nat → Int32) → Int32 → Int32 → Int32 → Int32 → Int32 → Option (Int32)} (hk35 : ∀ {v2 : Int32} {v3 : Int32} {v4 : Int32} {v5 : Int32} {v6 : Int32} {H : Heap} {locs : List Loc} {ls : Array Slot}, GX X D (tyM cI cC) A s (wM cI cC ad xs xkept xaside xisK xfound xgone xover xtape xtaped xtok xbeg xend xval xwid xsiz xcel xcar) H locs → lv_has ls 8 [(0, .ref (ad 0)), (2, .int v2), (3, .int v3), (4, .int v4), (5, .int v5), (6, .int v6)] → k35 xs v2 v3 v4 v5 v6 = some r0 → W p l e ({ frames := 3, cells := 0, slots := 0, locals := 69 }) s m args below meth c H locs 0 0 (MQ below (QcI D (tyM cI cC) (wM cI cC ad xs xkept xaside xisK xfound xgone xover xtape xtaped xtok xbeg xend xval xwid xsiz xcel xcar) A r0) args s 0 0 A) (F0 m 35 ls [])) : ∀ {v2 : Int32} {v3 : Int32} {v4 : Int32} {v6 : Int32} {H : Heap} {locs : List Loc} {ls : Array Slot}, GX X D (tyM cI cC) A s (wM cI cC ad xs xkept xaside xisK xfound xgone xover xtape xtaped xtok xbeg xend xval xwid xsiz xcel xcar) H locs → lv_has ls 8 [(0, .ref (ad 0)), (2, .int v2), (3, .int v3), (4, .int v4), (6, .int v6)] → j5_standsNow_113 k35 xs v2 v3 v4 v6 = some r0 → W p l e ({ frames := 3, cells := 0, slots := 0, locals := 69 }) s m args below meth c H locs 0 0 (MQ below (QcI D (tyM cI cC) (wM cI cC ad xs xkept xaside xisK xfound xgone xover xtape xtaped xtok xbeg xend xval xwid xsiz xcel xcar) A r0) args s 0 0 A) (F0 m 113 ls []) := by
  have hx := C0.1
  have hb := C0.2.1
  have hown := C0.2.2.2.2.1
  have hts := C0.2.2.2.2.2.1
  have hX := C0.2.2.2.2.2.2.2.2
  intro v2 v3 v4 v6 H locs ls G hl hf
  unfold j5_standsNow_113 at hf
  refine lv_iconst (v := (0 : Int32)) hx hb dX5_standsNow_113 (by decide) ?_
  exact b5_standsNow_114 C0 hk35 G (lv_sub hl [0, 1, 2, 3, 4] rfl) hf
set_option maxHeartbeats 4000000 in
set_option maxRecDepth 100000 in
theorem b5_standsNow_109 {X : XP} {p : Program} {l : Launch} {e : Env} {s : State} {m : MethodId} {args : Array Value} {below : List Frame} {meth : Method} {c : Code} {D : va_G} {cI cC : ClassId} {ad : Nat → Nat} {A : Nat → Prop} {xs : Nat → Int32} {xkept : Nat → Int32} {xaside : Nat → Int32} {xisK : Int32} {xfound : Nat → Int32} {xgone : Int32} {xover : Nat → Int32} {xtape : Nat → Int32} {xtaped : Int32} {xtok : Int32} {xbeg : Int32} {xend : Int32} {xval : Int64} {xwid : Nat → Int32} {xsiz : Nat → Int32} {xcel : Nat → Int32} {xcar : Nat → Int32} {r0 : Int32} (C0 : CX X p s m args meth c cX5_standsNow 8 (some .boolean) RX5 A) {k35 : (Nat → Int32) → Int32 → Int32 → Int32 → Int32 → Int32 → Option (Int32)} (hk35 : ∀ {v2 : Int32} {v3 : Int32} {v4 : Int32} {v5 : Int32} {v6 : Int32} {H : Heap} {locs : List Loc} {ls : Array Slot}, GX X D (tyM cI cC) A s (wM cI cC ad xs xkept xaside xisK xfound xgone xover xtape xtaped xtok xbeg xend xval xwid xsiz xcel xcar) H locs → lv_has ls 8 [(0, .ref (ad 0)), (2, .int v2), (3, .int v3), (4, .int v4), (5, .int v5), (6, .int v6)] → k35 xs v2 v3 v4 v5 v6 = some r0 → W p l e ({ frames := 3, cells := 0, slots := 0, locals := 69 }) s m args below meth c H locs 0 0 (MQ below (QcI D (tyM cI cC) (wM cI cC ad xs xkept xaside xisK xfound xgone xover xtape xtaped xtok xbeg xend xval xwid xsiz xcel xcar) A r0) args s 0 0 A) (F0 m 35 ls [])) : ∀ {v2 : Int32} {v3 : Int32} {v4 : Int32} {v6 : Int32} {H : Heap} {locs : List Loc} {ls : Array Slot}, GX X D (tyM cI cC) A s (wM cI cC ad xs xkept xaside xisK xfound xgone xover xtape xtaped xtok xbeg xend xval xwid xsiz xcel xcar) H locs → lv_has ls 8 [(0, .ref (ad 0)), (2, .int v2), (3, .int v3), (4, .int v4), (6, .int v6)] → j5_standsNow_109 k35 xs v2 v3 v4 v6 = some r0 → W p l e ({ frames := 3, cells := 0, slots := 0, locals := 69 }) s m args below meth c H locs 0 0 (MQ below (QcI D (tyM cI cC) (wM cI cC ad xs xkept xaside xisK xfound xgone xover xtape xtaped xtok xbeg xend xval xwid xsiz xcel xcar) A r0) args s 0 0 A) (F0 m 109 ls []) := by
  have hx := C0.1
  have hb := C0.2.1
  have hown := C0.2.2.2.2.1
  have hts := C0.2.2.2.2.2.1
  have hX := C0.2.2.2.2.2.2.2.2
  intro v2 v3 v4 v6 H locs ls G hl hf
  unfold j5_standsNow_109 at hf
  refine lv_iconst (v := (1 : Int32)) hx hb dX5_standsNow_109 (by decide) ?_
  refine lv_goto (tgt := 114) hx hb dX5_standsNow_110 (by decide) ?_
  exact b5_standsNow_114 C0 hk35 G (lv_sub hl [0, 1, 2, 3, 4] rfl) hf
set_option maxHeartbeats 4000000 in
set_option maxRecDepth 100000 in
theorem b5_standsNow_87 {X : XP} {p : Program} {l : Launch} {e : Env} {s : State} {m : MethodId} {args : Array Value} {below : List Frame} {meth : Method} {c : Code} {D : va_G} {cI cC : ClassId} {ad : Nat → Nat} {A : Nat → Prop} {xs : Nat → Int32} {xkept : Nat → Int32} {xaside : Nat → Int32} {xisK : Int32} {xfound : Nat → Int32} {xgone : Int32} {xover : Nat → Int32} {xtape : Nat → Int32} {xtaped : Int32} {xtok : Int32} {xbeg : Int32} {xend : Int32} {xval : Int64} {xwid : Nat → Int32} {xsiz : Nat → Int32} {xcel : Nat → Int32} {xcar : Nat → Int32} {r0 : Int32} (C0 : CX X p s m args meth c cX5_standsNow 8 (some .boolean) RX5 A) {k35 : (Nat → Int32) → Int32 → Int32 → Int32 → Int32 → Int32 → Option (Int32)} (hk35 : ∀ {v2 : Int32} {v3 : Int32} {v4 : Int32} {v5 : Int32} {v6 : Int32} {H : Heap} {locs : List Loc} {ls : Array Slot}, GX X D (tyM cI cC) A s (wM cI cC ad xs xkept xaside xisK xfound xgone xover xtape xtaped xtok xbeg xend xval xwid xsiz xcel xcar) H locs → lv_has ls 8 [(0, .ref (ad 0)), (2, .int v2), (3, .int v3), (4, .int v4), (5, .int v5), (6, .int v6)] → k35 xs v2 v3 v4 v5 v6 = some r0 → W p l e ({ frames := 3, cells := 0, slots := 0, locals := 69 }) s m args below meth c H locs 0 0 (MQ below (QcI D (tyM cI cC) (wM cI cC ad xs xkept xaside xisK xfound xgone xover xtape xtaped xtok xbeg xend xval xwid xsiz xcel xcar) A r0) args s 0 0 A) (F0 m 35 ls [])) : ∀ {v2 : Int32} {v3 : Int32} {v4 : Int32} {v5 : Int32} {v6 : Int32} {t0 : Int32} {H : Heap} {locs : List Loc} {ls : Array Slot}, GX X D (tyM cI cC) A s (wM cI cC ad xs xkept xaside xisK xfound xgone xover xtape xtaped xtok xbeg xend xval xwid xsiz xcel xcar) H locs → lv_has ls 8 [(0, .ref (ad 0)), (2, .int v2), (3, .int v3), (4, .int v4), (5, .int v5), (6, .int v6)] → j5_standsNow_87 k35 xs v2 v3 v4 v5 v6 t0 = some r0 → W p l e ({ frames := 3, cells := 0, slots := 0, locals := 69 }) s m args below meth c H locs 0 0 (MQ below (QcI D (tyM cI cC) (wM cI cC ad xs xkept xaside xisK xfound xgone xover xtape xtaped xtok xbeg xend xval xwid xsiz xcel xcar) A r0) args s 0 0 A) (F0 m 87 ls [.int t0]) := by
  have hx := C0.1
  have hb := C0.2.1
  have hown := C0.2.2.2.2.1
  have hts := C0.2.2.2.2.2.1
  have hX := C0.2.2.2.2.2.2.2.2
  intro v2 v3 v4 v5 v6 t0 H locs ls G hl hf
  unfold j5_standsNow_87 at hf
  refine lv_istore (lv' := [(7, .int t0), (0, .ref (ad 0)), (2, .int v2), (3, .int v3), (4, .int v4), (5, .int v5), (6, .int v6)]) hx hb dX5_standsNow_87 hl (by decide) rfl (fun ls hl => ?_)
  refine lv_iload hx hb dX5_standsNow_89 (lv_at hl 5 rfl) ?_
  refine lv_if_eq (tgt := 113) hx hb dX5_standsNow_91 (by decide) (fun hc15 => ?_) (fun hc15 => ?_)
  · have hf := itp hc15 hf
    exact b5_standsNow_113 C0 hk35 G (lv_sub hl [1, 2, 3, 4, 6] rfl) hf
  · have hf := itn hc15 hf
    refine lv_iload_n hx hb dX5_standsNow_94 rfl (lv_at hl 2 rfl) ?_
    refine lv_iload hx hb dX5_standsNow_95 (lv_at hl 6 rfl) ?_
    refine lv_ishr hx hb dX5_standsNow_97 ?_
    refine lv_iconst (v := (1 : Int32)) hx hb dX5_standsNow_98 (by decide) ?_
    refine lv_iand hx hb dX5_standsNow_99 ?_
    refine lv_iconst (v := (1 : Int32)) hx hb dX5_standsNow_100 (by decide) ?_
    refine lv_icmp_ne (tgt := 109) hx hb dX5_standsNow_101 (by decide) (fun hc16 => ?_) (fun hc16 => ?_)
    · have hf := itn hc16 hf
      exact b5_standsNow_109 C0 hk35 G (lv_sub hl [1, 2, 3, 4, 6] rfl) hf
    · have hf := itp hc16 hf
      refine lv_iload hx hb dX5_standsNow_104 (lv_at hl 0 rfl) ?_
      refine lv_if_ne (tgt := 113) hx hb dX5_standsNow_106 (by decide) (fun hc17 => ?_) (fun hc17 => ?_)
      · have hf := itn hc17 hf
        exact b5_standsNow_113 C0 hk35 G (lv_sub hl [1, 2, 3, 4, 6] rfl) hf
      · have hf := itp hc17 hf
        exact b5_standsNow_109 C0 hk35 G (lv_sub hl [1, 2, 3, 4, 6] rfl) hf
set_option maxHeartbeats 4000000 in
set_option maxRecDepth 100000 in
theorem b5_standsNow_35 {X : XP} {p : Program} {l : Launch} {e : Env} {s : State} {m : MethodId} {args : Array Value} {below : List Frame} {meth : Method} {c : Code} {D : va_G} {cI cC : ClassId} {ad : Nat → Nat} {A : Nat → Prop} {xs : Nat → Int32} {xkept : Nat → Int32} {xaside : Nat → Int32} {xisK : Int32} {xfound : Nat → Int32} {xgone : Int32} {xover : Nat → Int32} {xtape : Nat → Int32} {xtaped : Int32} {xtok : Int32} {xbeg : Int32} {xend : Int32} {xval : Int64} {xwid : Nat → Int32} {xsiz : Nat → Int32} {xcel : Nat → Int32} {xcar : Nat → Int32} {r0 : Int32} (C0 : CX X p s m args meth c cX5_standsNow 8 (some .boolean) RX5 A) : ∀ (n : Nat) {v2 : Int32} {v3 : Int32} {v4 : Int32} {v5 : Int32} {v6 : Int32} {H : Heap} {locs : List Loc} {ls : Array Slot}, GX X D (tyM cI cC) A s (wM cI cC ad xs xkept xaside xisK xfound xgone xover xtape xtaped xtok xbeg xend xval xwid xsiz xcel xcar) H locs → lv_has ls 8 [(0, .ref (ad 0)), (2, .int v2), (3, .int v3), (4, .int v4), (5, .int v5), (6, .int v6)] → l5_standsNow_35  n xs v2 v3 v4 v5 v6 = some r0 → W p l e ({ frames := 3, cells := 0, slots := 0, locals := 69 }) s m args below meth c H locs 0 0 (MQ below (QcI D (tyM cI cC) (wM cI cC ad xs xkept xaside xisK xfound xgone xover xtape xtaped xtok xbeg xend xval xwid xsiz xcel xcar) A r0) args s 0 0 A) (F0 m 35 ls []) := by
  have hx := C0.1
  have hb := C0.2.1
  have hown := C0.2.2.2.2.1
  have hts := C0.2.2.2.2.2.1
  have hX := C0.2.2.2.2.2.2.2.2
  intro n
  induction n with
  | zero =>
    intro _ _ _ _ _ _ _ _ G hl hf
    cases hf
  | succ n ih =>
    intro v2 v3 v4 v5 v6 H locs ls G hl hf
    rw [l5_standsNow_35] at hf
    refine lv_iload hx hb dX5_standsNow_35 (lv_at hl 5 rfl) ?_
    refine lv_bipush (v := (16 : Int32)) hx hb dX5_standsNow_37 (by decide) ?_
    refine lv_icmp_ge (tgt := 122) hx hb dX5_standsNow_39 (by decide) (fun hc8 => ?_) (fun hc8 => ?_)
    · have hf := itp hc8 hf
      refine lv_iload hx hb dX5_standsNow_122 (lv_at hl 4 rfl) ?_
      obtain ⟨hz9, hf⟩ := gd_s hf
      obtain rfl := inj1 hf
      exact ret_z C0 G (b01_n hz9) dX5_standsNow_124
    · have hf := itn hc8 hf
      refine lv_iload hx hb dX5_standsNow_42 (lv_at hl 3 rfl) ?_
      refine lv_if_eq (tgt := 68) hx hb dX5_standsNow_44 (by decide) (fun hc10 => ?_) (fun hc10 => ?_)
      · have hf := itp hc10 hf
        refine lv_aload_n hx hb dX5_standsNow_68 rfl (lv_at hl 0 rfl) ?_
        refine s_get (C := RX5) (T := TX5) C0 G i_X5 0 0 rfl rfl (by decide) q713 rfl dX5_standsNow_69 ?_
        refine lv_bipush (v := (6 : Int32)) hx hb dX5_standsNow_72 (by decide) ?_
        refine lv_iload hx hb dX5_standsNow_74 (lv_at hl 5 rfl) ?_
        refine lv_iadd hx hb dX5_standsNow_76 ?_
        obtain ⟨hi11, hf⟩ := gd_s hf
        refine s_iald (k := ((6 : Int32) + v6).toNatClampNeg) C0 G 1 0 rfl rfl (vin hi11) rfl dX5_standsNow_77 ?_
        refine lv_iload_n hx hb dX5_standsNow_78 rfl (lv_at hl 2 rfl) ?_
        refine lv_icmp_ge (tgt := 86) hx hb dX5_standsNow_79 (by decide) (fun hc12 => ?_) (fun hc12 => ?_)
        · have hf := itp hc12 hf
          refine lv_iconst (v := (0 : Int32)) hx hb dX5_standsNow_86 (by decide) ?_
          exact b5_standsNow_87 C0 ih G (lv_sub hl [0, 1, 2, 3, 4, 5] rfl) hf
        · have hf := itn hc12 hf
          refine lv_iconst (v := (1 : Int32)) hx hb dX5_standsNow_82 (by decide) ?_
          refine lv_goto (tgt := 87) hx hb dX5_standsNow_83 (by decide) ?_
          exact b5_standsNow_87 C0 ih G (lv_sub hl [0, 1, 2, 3, 4, 5] rfl) hf
      · have hf := itn hc10 hf
        refine lv_aload_n hx hb dX5_standsNow_47 rfl (lv_at hl 0 rfl) ?_
        refine s_get (C := RX5) (T := TX5) C0 G i_X5 0 0 rfl rfl (by decide) q713 rfl dX5_standsNow_48 ?_
        refine lv_bipush (v := (6 : Int32)) hx hb dX5_standsNow_51 (by decide) ?_
        refine lv_iload hx hb dX5_standsNow_53 (lv_at hl 5 rfl) ?_
        refine lv_iadd hx hb dX5_standsNow_55 ?_
        obtain ⟨hi13, hf⟩ := gd_s hf
        refine s_iald (k := ((6 : Int32) + v6).toNatClampNeg) C0 G 1 0 rfl rfl (vin hi13) rfl dX5_standsNow_56 ?_
        refine lv_if_le (tgt := 64) hx hb dX5_standsNow_57 (by decide) (fun hc14 => ?_) (fun hc14 => ?_)
        · have hf := itp hc14 hf
          refine lv_iconst (v := (0 : Int32)) hx hb dX5_standsNow_64 (by decide) ?_
          refine lv_goto (tgt := 87) hx hb dX5_standsNow_65 (by decide) ?_
          exact b5_standsNow_87 C0 ih G (lv_sub hl [0, 1, 2, 3, 4, 5] rfl) hf
        · have hf := itn hc14 hf
          refine lv_iconst (v := (1 : Int32)) hx hb dX5_standsNow_60 (by decide) ?_
          refine lv_goto (tgt := 87) hx hb dX5_standsNow_61 (by decide) ?_
          exact b5_standsNow_87 C0 ih G (lv_sub hl [0, 1, 2, 3, 4, 5] rfl) hf
set_option maxHeartbeats 4000000 in
set_option maxRecDepth 100000 in
theorem b5_standsNow_27 {X : XP} {p : Program} {l : Launch} {e : Env} {s : State} {m : MethodId} {args : Array Value} {below : List Frame} {meth : Method} {c : Code} {D : va_G} {cI cC : ClassId} {ad : Nat → Nat} {A : Nat → Prop} {xs : Nat → Int32} {xkept : Nat → Int32} {xaside : Nat → Int32} {xisK : Int32} {xfound : Nat → Int32} {xgone : Int32} {xover : Nat → Int32} {xtape : Nat → Int32} {xtaped : Int32} {xtok : Int32} {xbeg : Int32} {xend : Int32} {xval : Int64} {xwid : Nat → Int32} {xsiz : Nat → Int32} {xcel : Nat → Int32} {xcar : Nat → Int32} {r0 : Int32} (C0 : CX X p s m args meth c cX5_standsNow 8 (some .boolean) RX5 A) : ∀ {v2 : Int32} {v3 : Int32} {t0 : Int32} {H : Heap} {locs : List Loc} {ls : Array Slot}, GX X D (tyM cI cC) A s (wM cI cC ad xs xkept xaside xisK xfound xgone xover xtape xtaped xtok xbeg xend xval xwid xsiz xcel xcar) H locs → lv_has ls 8 [(0, .ref (ad 0)), (2, .int v2), (3, .int v3)] → j5_standsNow_27  xs v2 v3 t0 = some r0 → W p l e ({ frames := 3, cells := 0, slots := 0, locals := 69 }) s m args below meth c H locs 0 0 (MQ below (QcI D (tyM cI cC) (wM cI cC ad xs xkept xaside xisK xfound xgone xover xtape xtaped xtok xbeg xend xval xwid xsiz xcel xcar) A r0) args s 0 0 A) (F0 m 27 ls [.int t0]) := by
  have hx := C0.1
  have hb := C0.2.1
  have hown := C0.2.2.2.2.1
  have hts := C0.2.2.2.2.2.1
  have hX := C0.2.2.2.2.2.2.2.2
  intro v2 v3 t0 H locs ls G hl hf
  unfold j5_standsNow_27 at hf
  refine lv_istore (lv' := [(4, .int t0), (0, .ref (ad 0)), (2, .int v2), (3, .int v3)]) hx hb dX5_standsNow_27 hl (by decide) rfl (fun ls hl => ?_)
  refine lv_iconst (v := (1 : Int32)) hx hb dX5_standsNow_29 (by decide) ?_
  refine lv_istore (lv' := [(5, .int (1 : Int32)), (4, .int t0), (0, .ref (ad 0)), (2, .int v2), (3, .int v3)]) hx hb dX5_standsNow_30 hl (by decide) rfl (fun ls hl => ?_)
  refine lv_iconst (v := (0 : Int32)) hx hb dX5_standsNow_32 (by decide) ?_
  refine lv_istore (lv' := [(6, .int (0 : Int32)), (5, .int (1 : Int32)), (4, .int t0), (0, .ref (ad 0)), (2, .int v2), (3, .int v3)]) hx hb dX5_standsNow_33 hl (by decide) rfl (fun ls hl => ?_)
  exact b5_standsNow_35 C0  1000 G (lv_sub hl [3, 4, 5, 2, 1, 0] rfl) hf
set_option maxHeartbeats 4000000 in
set_option maxRecDepth 100000 in
theorem b5_standsNow_0 {X : XP} {p : Program} {l : Launch} {e : Env} {s : State} {m : MethodId} {args : Array Value} {below : List Frame} {meth : Method} {c : Code} {D : va_G} {cI cC : ClassId} {ad : Nat → Nat} {A : Nat → Prop} {xs : Nat → Int32} {xkept : Nat → Int32} {xaside : Nat → Int32} {xisK : Int32} {xfound : Nat → Int32} {xgone : Int32} {xover : Nat → Int32} {xtape : Nat → Int32} {xtaped : Int32} {xtok : Int32} {xbeg : Int32} {xend : Int32} {xval : Int64} {xwid : Nat → Int32} {xsiz : Nat → Int32} {xcel : Nat → Int32} {xcar : Nat → Int32} {r0 : Int32} (C0 : CX X p s m args meth c cX5_standsNow 8 (some .boolean) RX5 A) : ∀ {v1 : Int32} {H : Heap} {locs : List Loc} {ls : Array Slot}, GX X D (tyM cI cC) A s (wM cI cC ad xs xkept xaside xisK xfound xgone xover xtape xtaped xtok xbeg xend xval xwid xsiz xcel xcar) H locs → lv_has ls 8 [(0, .ref (ad 0)), (1, .int v1)] → f5_standsNow xs v1 = some r0 → W p l e ({ frames := 3, cells := 0, slots := 0, locals := 69 }) s m args below meth c H locs 0 0 (MQ below (QcI D (tyM cI cC) (wM cI cC ad xs xkept xaside xisK xfound xgone xover xtape xtaped xtok xbeg xend xval xwid xsiz xcel xcar) A r0) args s 0 0 A) (F0 m 0 ls []) := by
  have hx := C0.1
  have hb := C0.2.1
  have hown := C0.2.2.2.2.1
  have hts := C0.2.2.2.2.2.1
  have hX := C0.2.2.2.2.2.2.2.2
  intro v1 H locs ls G hl hf
  unfold f5_standsNow at hf
  refine lv_aload_n hx hb dX5_standsNow_0 rfl (lv_at hl 0 rfl) ?_
  refine lv_iload_n hx hb dX5_standsNow_1 rfl (lv_at hl 1 rfl) ?_
  obtain ⟨r1, hc2, hf⟩ := ob1_s hf
  refine go_i C0 G (runV_of (n := 1) (q0 := 0) (As := [.int v1]) (rest := []) C0 G (c5_spanOf hX hc2) q797 q54 q794 q796 q10 o5_spanOf ⟨rfl, rfl⟩ ⟨Nat.le_of_ble_eq_true rfl, Nat.le_of_ble_eq_true rfl⟩ rfl rfl rfl hl.1 rfl (Nat.le_of_ble_eq_true rfl) dX5_standsNow_2) (fun H locs G => ?_)
  refine lv_istore_n (lv' := [(2, .int r1), (0, .ref (ad 0)), (1, .int v1)]) hx hb dX5_standsNow_5 rfl hl (by decide) rfl (fun ls hl => ?_)
  refine lv_aload_n hx hb dX5_standsNow_6 rfl (lv_at hl 1 rfl) ?_
  refine lv_iload_n hx hb dX5_standsNow_7 rfl (lv_at hl 2 rfl) ?_
  obtain ⟨r3, hc4, hf⟩ := ob1_s hf
  refine go_i C0 G (runV_of (n := 1) (q0 := 0) (As := [.int v1]) (rest := []) C0 G (c5_raisesOf hX hc4) q829 q54 q826 q828 q15 o5_raisesOf ⟨rfl, rfl⟩ ⟨Nat.le_of_ble_eq_true rfl, Nat.le_of_ble_eq_true rfl⟩ rfl rfl rfl hl.1 rfl (Nat.le_of_ble_eq_true rfl) dX5_standsNow_8) (fun H locs G => ?_)
  refine lv_istore_n (lv' := [(3, .int r3), (2, .int r1), (0, .ref (ad 0)), (1, .int v1)]) hx hb dX5_standsNow_11 rfl hl (by decide) rfl (fun ls hl => ?_)
  refine lv_aload_n hx hb dX5_standsNow_12 rfl (lv_at hl 2 rfl) ?_
  refine lv_iload_n hx hb dX5_standsNow_13 rfl (lv_at hl 3 rfl) ?_
  refine lv_iconst (v := (0 : Int32)) hx hb dX5_standsNow_14 (by decide) ?_
  obtain ⟨r5, hc6, hf⟩ := ob1_s hf
  refine go_i C0 G (runV_of (n := 2) (q0 := 0) (As := [.int v1, .int (0 : Int32)]) (rest := []) C0 G (c5_get hX hc6) q801 q54 q798 q800 q11 o5_get ⟨rfl, rfl⟩ ⟨Nat.le_of_ble_eq_true rfl, Nat.le_of_ble_eq_true rfl⟩ rfl rfl rfl hl.1 rfl (Nat.le_of_ble_eq_true rfl) dX5_standsNow_15) (fun H locs G => ?_)
  refine lv_iconst (v := (4 : Int32)) hx hb dX5_standsNow_18 (by decide) ?_
  refine lv_icmp_ne (tgt := 26) hx hb dX5_standsNow_19 (by decide) (fun hc7 => ?_) (fun hc7 => ?_)
  · have hf := itn hc7 hf
    refine lv_iconst (v := (0 : Int32)) hx hb dX5_standsNow_26 (by decide) ?_
    exact b5_standsNow_27 C0  G (lv_sub hl [2, 1, 0] rfl) hf
  · have hf := itp hc7 hf
    refine lv_iconst (v := (1 : Int32)) hx hb dX5_standsNow_22 (by decide) ?_
    refine lv_goto (tgt := 27) hx hb dX5_standsNow_23 (by decide) ?_
    exact b5_standsNow_27 C0  G (lv_sub hl [2, 1, 0] rfl) hf
theorem o5_standsNow : okName yX5_standsNow 1 := ⟨by decide, by decide, by decide +kernel⟩
set_option maxHeartbeats 4000000 in
set_option maxRecDepth 100000 in
theorem c5_standsNow {X : XP} (hX : XT X) {l : Launch} {D : va_G} {cI cC : ClassId} {ad : Nat → Nat} {sz : Nat} {xs : Nat → Int32} {xkept : Nat → Int32} {xaside : Nat → Int32} {xisK : Int32} {xfound : Nat → Int32} {xgone : Int32} {xover : Nat → Int32} {xtape : Nat → Int32} {xtaped : Int32} {xtok : Int32} {xbeg : Int32} {xend : Int32} {xval : Int64} {xwid : Nat → Int32} {xsiz : Nat → Int32} {xcel : Nat → Int32} {xcar : Nat → Int32} {v1 : Int32} {r0 : Int32} (hf : f5_standsNow xs v1 = some r0) : Met l yX5_standsNow (wU yX5_standsNow cX5_standsNow 8 (some .boolean)) ({ frames := 3, cells := 0, slots := 0, locals := 69 }) (va_Pc [.ref (ad 0), .int v1] (PreW X D (tyM cI cC) (wM cI cC ad xs xkept xaside xisK xfound xgone xover xtape xtaped xtok xbeg xend xval xwid xsiz xcel xcar) sz)) (QcI D (tyM cI cC) (wM cI cC ad xs xkept xaside xisK xfound xgone xover xtape xtaped xtok xbeg xend xval xwid xsiz xcel xcar) (va_A (wM cI cC ad xs xkept xaside xisK xfound xgone xover xtape xtaped xtok xbeg xend xval xwid xsiz xcel xcar) sz) r0) 0 0 (va_A (wM cI cC ad xs xkept xaside xisK xfound xgone xover xtape xtaped xtok xbeg xend xval xwid xsiz xcel xcar) sz) := by
  refine startW hX (own := RX5) (by decide) rfl (Nat.le_of_ble_eq_true rfl) (fun p e s m args below meth c ls C0 G hl => ?_)
  exact b5_standsNow_0 C0 G hl hf
