/-! 5_eachFor -/
theorem dX5_eachFor_0 : decode cX5_eachFor 0 = .ok (.aload_n 0, 1) := by decide +kernel
theorem dX5_eachFor_1 : decode cX5_eachFor 1 = .ok (.iload_n 1, 1) := by decide +kernel
theorem dX5_eachFor_2 : decode cX5_eachFor 2 = .ok (.invokevirtual 111, 3) := by decide +kernel
theorem dX5_eachFor_5 : decode cX5_eachFor 5 = .ok (.ifCond .eq 10, 3) := by decide +kernel
theorem dX5_eachFor_8 : decode cX5_eachFor 8 = .ok (.iload_n 2, 1) := by decide +kernel
theorem dX5_eachFor_9 : decode cX5_eachFor 9 = .ok (.invokestatic 158, 3) := by decide +kernel
theorem dX5_eachFor_12 : decode cX5_eachFor 12 = .ok (.ifCond .ne 9, 3) := by decide +kernel
theorem dX5_eachFor_15 : decode cX5_eachFor 15 = .ok (.aload_n 0, 1) := by decide +kernel
theorem dX5_eachFor_16 : decode cX5_eachFor 16 = .ok (.iconst 0, 1) := by decide +kernel
theorem dX5_eachFor_17 : decode cX5_eachFor 17 = .ok (.invokevirtual 105, 3) := by decide +kernel
theorem dX5_eachFor_20 : decode cX5_eachFor 20 = .ok (.ireturn, 1) := by decide +kernel
theorem dX5_eachFor_21 : decode cX5_eachFor 21 = .ok (.bipush 9, 2) := by decide +kernel
theorem dX5_eachFor_23 : decode cX5_eachFor 23 = .ok (.istore_n 3, 1) := by decide +kernel
theorem dX5_eachFor_24 : decode cX5_eachFor 24 = .ok (.iload_n 3, 1) := by decide +kernel
theorem dX5_eachFor_25 : decode cX5_eachFor 25 = .ok (.ifCond .le 32, 3) := by decide +kernel
theorem dX5_eachFor_28 : decode cX5_eachFor 28 = .ok (.aload_n 0, 1) := by decide +kernel
theorem dX5_eachFor_29 : decode cX5_eachFor 29 = .ok (.invokevirtual 140, 3) := by decide +kernel
theorem dX5_eachFor_32 : decode cX5_eachFor 32 = .ok (.aload_n 0, 1) := by decide +kernel
theorem dX5_eachFor_33 : decode cX5_eachFor 33 = .ok (.iload_n 1, 1) := by decide +kernel
theorem dX5_eachFor_34 : decode cX5_eachFor 34 = .ok (.iconst 4, 1) := by decide +kernel
theorem dX5_eachFor_35 : decode cX5_eachFor 35 = .ok (.iload_n 3, 1) := by decide +kernel
theorem dX5_eachFor_36 : decode cX5_eachFor 36 = .ok (.invokevirtual 83, 3) := by decide +kernel
theorem dX5_eachFor_39 : decode cX5_eachFor 39 = .ok (.aload_n 0, 1) := by decide +kernel
theorem dX5_eachFor_40 : decode cX5_eachFor 40 = .ok (.iload_n 1, 1) := by decide +kernel
theorem dX5_eachFor_41 : decode cX5_eachFor 41 = .ok (.iload_n 2, 1) := by decide +kernel
theorem dX5_eachFor_42 : decode cX5_eachFor 42 = .ok (.invokevirtual 155, 3) := by decide +kernel
theorem dX5_eachFor_45 : decode cX5_eachFor 45 = .ok (.iconst 1, 1) := by decide +kernel
theorem dX5_eachFor_46 : decode cX5_eachFor 46 = .ok (.if_icmp .ne 5, 3) := by decide +kernel
theorem dX5_eachFor_49 : decode cX5_eachFor 49 = .ok (.iload_n 3, 1) := by decide +kernel
theorem dX5_eachFor_50 : decode cX5_eachFor 50 = .ok (.ireturn, 1) := by decide +kernel
theorem dX5_eachFor_51 : decode cX5_eachFor 51 = .ok (.iinc 3 (-1), 3) := by decide +kernel
theorem dX5_eachFor_54 : decode cX5_eachFor 54 = .ok (.goto (-30), 3) := by decide +kernel
theorem dX5_eachFor_57 : decode cX5_eachFor 57 = .ok (.aload_n 0, 1) := by decide +kernel
theorem dX5_eachFor_58 : decode cX5_eachFor 58 = .ok (.iconst 3, 1) := by decide +kernel
theorem dX5_eachFor_59 : decode cX5_eachFor 59 = .ok (.invokevirtual 105, 3) := by decide +kernel
theorem dX5_eachFor_62 : decode cX5_eachFor 62 = .ok (.ireturn, 1) := by decide +kernel
def j5_eachFor_15  (xs : Nat → Int32) (xaside : Nat → Int32) (xfound : Nat → Int32) (xgone : Int32) (xover : Nat → Int32)  : Option (Int32 × (Nat → Int32) × (Nat → Int32) × (Nat → Int32) × (Nat → Int32)) :=
  ob2 (f5_no xfound (0 : Int32)) (fun r3 xfound_4 =>
  some (r3, xs, xaside, xfound_4, xover))
def l5_eachFor_24  : Nat → (Nat → Int32) → (Nat → Int32) → (Nat → Int32) → Int32 → (Nat → Int32) → Int32 → Int32 → Int32 → Option (Int32 × (Nat → Int32) × (Nat → Int32) × (Nat → Int32) × (Nat → Int32))
  | 0, _, _, _, _, _, _, _, _ => none
  | n + 1, xs, xaside, xfound, xgone, xover, v1, v2, v3 =>
    if v3 ≤ (0 : Int32) then (
      ob2 (f5_no xfound (3 : Int32)) (fun r7 xfound_8 =>
      some (r7, xs, xaside, xfound_8, xover)))
    else (
      ob1 (f5_setsAside xs xaside) (fun xaside_10 =>
      ob1 (f5_puts xs v1 (4 : Int32) v3) (fun xs_12 =>
      ob3 (f5_thenOf xs_12 xaside_10 xgone xover v1 v2) (fun r14 xs_15 xover_16 =>
      if r14 = (1 : Int32) then (
        some (v3, xs_15, xaside_10, xfound, xover_16))
      else (
        (l5_eachFor_24 n) xs_15 xaside_10 xfound xgone xover_16 v1 v2 (v3 + (-1 : Int32)))))))
def f5_eachFor (xs : Nat → Int32) (xaside : Nat → Int32) (xfound : Nat → Int32) (xgone : Int32) (xover : Nat → Int32) (v1 : Int32) (v2 : Int32) : Option (Int32 × (Nat → Int32) × (Nat → Int32) × (Nat → Int32) × (Nat → Int32)) :=
  if (f5_isVisitor xs v1) = (0 : Int32) then (
    j5_eachFor_15 xs xaside xfound xgone xover)
  else (
    if (f5_isSoon v2) = (0 : Int32) then (
      j5_eachFor_15 xs xaside xfound xgone xover)
    else (
      l5_eachFor_24 1000 xs xaside xfound xgone xover v1 v2 (9 : Int32)))
set_option maxHeartbeats 4000000 in
set_option maxRecDepth 100000 in
theorem b5_eachFor_15 {X : XP} {p : Program} {l : Launch} {e : Env} {s : State} {m : MethodId} {args : Array Value} {below : List Frame} {meth : Method} {c : Code} {D : va_G} {cI cC : ClassId} {ad : Nat → Nat} {A : Nat → Prop} {xkept : Nat → Int32} {xisK : Int32} {xgone : Int32} {xtape : Nat → Int32} {xtaped : Int32} {xtok : Int32} {xbeg : Int32} {xend : Int32} {xval : Int64} {xwid : Nat → Int32} {xsiz : Nat → Int32} {xcel : Nat → Int32} {xcar : Nat → Int32} {r0 : Int32} {o_xs : Nat → Int32} {o_xaside : Nat → Int32} {o_xfound : Nat → Int32} {o_xover : Nat → Int32} (C0 : CX X p s m args meth c cX5_eachFor 4 (some .int) RX5 A) : ∀ {xs : Nat → Int32} {xaside : Nat → Int32} {xfound : Nat → Int32} {xover : Nat → Int32} {H : Heap} {locs : List Loc} {ls : Array Slot}, GX X D (tyM cI cC) A s (wM cI cC ad xs xkept xaside xisK xfound xgone xover xtape xtaped xtok xbeg xend xval xwid xsiz xcel xcar) H locs → lv_has ls 4 [(0, .ref (ad 0))] → j5_eachFor_15  xs xaside xfound xgone xover = some (r0, o_xs, o_xaside, o_xfound, o_xover) → W p l e ({ frames := 8, cells := 0, slots := 0, locals := 188 }) s m args below meth c H locs 0 0 (MQ below (QcI D (tyM cI cC) (wM cI cC ad o_xs xkept o_xaside xisK o_xfound xgone o_xover xtape xtaped xtok xbeg xend xval xwid xsiz xcel xcar) A r0) args s 0 0 A) (F0 m 15 ls []) := by
  have hx := C0.1
  have hb := C0.2.1
  have hown := C0.2.2.2.2.1
  have hts := C0.2.2.2.2.2.1
  have hX := C0.2.2.2.2.2.2.2.2
  intro xs xaside xfound xover H locs ls G hl hf
  unfold j5_eachFor_15 at hf
  refine lv_aload_n hx hb dX5_eachFor_15 rfl (lv_at hl 0 rfl) ?_
  refine lv_iconst (v := (0 : Int32)) hx hb dX5_eachFor_16 (by decide) ?_
  obtain ⟨r3, xfound_4, hc5, hf⟩ := ob2_s hf
  refine go_i C0 G (runV_of (n := 1) (q0 := 0) (As := [.int (0 : Int32)]) (rest := []) C0 G (c5_no hX hc5) q788 q54 q785 q787 q9 o5_no ⟨rfl, rfl⟩ ⟨Nat.le_of_ble_eq_true rfl, Nat.le_of_ble_eq_true rfl⟩ rfl rfl rfl hl.1 rfl (Nat.le_of_ble_eq_true rfl) dX5_eachFor_17) (fun H locs G => ?_)
  obtain ⟨rfl, rfl, rfl, rfl, rfl⟩ := inj5 hf
  exact ret_i C0 G dX5_eachFor_20
set_option maxHeartbeats 4000000 in
set_option maxRecDepth 100000 in
theorem b5_eachFor_24 {X : XP} {p : Program} {l : Launch} {e : Env} {s : State} {m : MethodId} {args : Array Value} {below : List Frame} {meth : Method} {c : Code} {D : va_G} {cI cC : ClassId} {ad : Nat → Nat} {A : Nat → Prop} {xkept : Nat → Int32} {xisK : Int32} {xgone : Int32} {xtape : Nat → Int32} {xtaped : Int32} {xtok : Int32} {xbeg : Int32} {xend : Int32} {xval : Int64} {xwid : Nat → Int32} {xsiz : Nat → Int32} {xcel : Nat → Int32} {xcar : Nat → Int32} {r0 : Int32} {o_xs : Nat → Int32} {o_xaside : Nat → Int32} {o_xfound : Nat → Int32} {o_xover : Nat → Int32} (C0 : CX X p s m args meth c cX5_eachFor 4 (some .int) RX5 A) : ∀ (n : Nat) {xs : Nat → Int32} {xaside : Nat → Int32} {xfound : Nat → Int32} {xover : Nat → Int32} {v1 : Int32} {v2 : Int32} {v3 : Int32} {H : Heap} {locs : List Loc} {ls : Array Slot}, GX X D (tyM cI cC) A s (wM cI cC ad xs xkept xaside xisK xfound xgone xover xtape xtaped xtok xbeg xend xval xwid xsiz xcel xcar) H locs → lv_has ls 4 [(0, .ref (ad 0)), (1, .int v1), (2, .int v2), (3, .int v3)] → l5_eachFor_24  n xs xaside xfound xgone xover v1 v2 v3 = some (r0, o_xs, o_xaside, o_xfound, o_xover) → W p l e ({ frames := 8, cells := 0, slots := 0, locals := 188 }) s m args below meth c H locs 0 0 (MQ below (QcI D (tyM cI cC) (wM cI cC ad o_xs xkept o_xaside xisK o_xfound xgone o_xover xtape xtaped xtok xbeg xend xval xwid xsiz xcel xcar) A r0) args s 0 0 A) (F0 m 24 ls []) := by
  have hx := C0.1
  have hb := C0.2.1
  have hown := C0.2.2.2.2.1
  have hts := C0.2.2.2.2.2.1
  have hX := C0.2.2.2.2.2.2.2.2
  intro n
  induction n with
  | zero =>
    intro _ _ _ _ _ _ _ _ _ _ G hl hf
    cases hf
  | succ n ih =>
    intro xs xaside xfound xover v1 v2 v3 H locs ls G hl hf
    rw [l5_eachFor_24] at hf
    refine lv_iload_n hx hb dX5_eachFor_24 rfl (lv_at hl 3 rfl) ?_
    refine lv_if_le (tgt := 57) hx hb dX5_eachFor_25 (by decide) (fun hc6 => ?_) (fun hc6 => ?_)
    · have hf := itp hc6 hf
      refine lv_aload_n hx hb dX5_eachFor_57 rfl (lv_at hl 0 rfl) ?_
      refine lv_iconst (v := (3 : Int32)) hx hb dX5_eachFor_58 (by decide) ?_
      obtain ⟨r7, xfound_8, hc9, hf⟩ := ob2_s hf
      refine go_i C0 G (runV_of (n := 1) (q0 := 0) (As := [.int (3 : Int32)]) (rest := []) C0 G (c5_no hX hc9) q788 q54 q785 q787 q9 o5_no ⟨rfl, rfl⟩ ⟨Nat.le_of_ble_eq_true rfl, Nat.le_of_ble_eq_true rfl⟩ rfl rfl rfl hl.1 rfl (Nat.le_of_ble_eq_true rfl) dX5_eachFor_59) (fun H locs G => ?_)
      obtain ⟨rfl, rfl, rfl, rfl, rfl⟩ := inj5 hf
      exact ret_i C0 G dX5_eachFor_62
    · have hf := itn hc6 hf
      refine lv_aload_n hx hb dX5_eachFor_28 rfl (lv_at hl 0 rfl) ?_
      obtain ⟨xaside_10, hc11, hf⟩ := ob1_s hf
      refine go_v C0 G (runV_of (n := 0) (q0 := 0) (As := []) (rest := []) C0 G (c5_setsAside hX hc11) q919 q54 q916 q918 q30 o5_setsAside ⟨rfl, rfl⟩ ⟨Nat.le_of_ble_eq_true rfl, Nat.le_of_ble_eq_true rfl⟩ rfl rfl rfl hl.1 rfl (Nat.le_of_ble_eq_true rfl) dX5_eachFor_29) (fun H locs G => ?_)
      refine lv_aload_n hx hb dX5_eachFor_32 rfl (lv_at hl 0 rfl) ?_
      refine lv_iload_n hx hb dX5_eachFor_33 rfl (lv_at hl 1 rfl) ?_
      refine lv_iconst (v := (4 : Int32)) hx hb dX5_eachFor_34 (by decide) ?_
      refine lv_iload_n hx hb dX5_eachFor_35 rfl (lv_at hl 3 rfl) ?_
      obtain ⟨xs_12, hc13, hf⟩ := ob1_s hf
      refine go_v C0 G (runV_of (n := 3) (q0 := 0) (As := [.int v1, .int (4 : Int32), .int v3]) (rest := []) C0 G (c5_puts hX hc13) q817 q54 q814 q816 q13 o5_puts ⟨rfl, rfl⟩ ⟨Nat.le_of_ble_eq_true rfl, Nat.le_of_ble_eq_true rfl⟩ rfl rfl rfl hl.1 rfl (Nat.le_of_ble_eq_true rfl) dX5_eachFor_36) (fun H locs G => ?_)
      refine lv_aload_n hx hb dX5_eachFor_39 rfl (lv_at hl 0 rfl) ?_
      refine lv_iload_n hx hb dX5_eachFor_40 rfl (lv_at hl 1 rfl) ?_
      refine lv_iload_n hx hb dX5_eachFor_41 rfl (lv_at hl 2 rfl) ?_
      obtain ⟨r14, xs_15, xover_16, hc17, hf⟩ := ob3_s hf
      refine go_i C0 G (runV_of (n := 2) (q0 := 0) (As := [.int v1, .int v2]) (rest := []) C0 G (c5_thenOf hX hc17) q966 q54 q963 q965 q35 o5_thenOf ⟨rfl, rfl⟩ ⟨Nat.le_of_ble_eq_true rfl, Nat.le_of_ble_eq_true rfl⟩ rfl rfl rfl hl.1 rfl (Nat.le_of_ble_eq_true rfl) dX5_eachFor_42) (fun H locs G => ?_)
      refine lv_iconst (v := (1 : Int32)) hx hb dX5_eachFor_45 (by decide) ?_
      refine lv_icmp_ne (tgt := 51) hx hb dX5_eachFor_46 (by decide) (fun hc18 => ?_) (fun hc18 => ?_)
      · have hf := itn hc18 hf
        refine lv_iinc (v := (v3 + (-1 : Int32))) (lv' := [(3, .int (v3 + (-1 : Int32))), (0, .ref (ad 0)), (1, .int v1), (2, .int v2)]) hx hb dX5_eachFor_51 hl (k := 3) rfl rfl (by decide) rfl (fun ls hl => ?_)
        refine lv_goto (tgt := 24) hx hb dX5_eachFor_54 (by decide) ?_
        exact ih G (lv_sub hl [1, 2, 3, 0] rfl) hf
      · have hf := itp hc18 hf
        refine lv_iload_n hx hb dX5_eachFor_49 rfl (lv_at hl 3 rfl) ?_
        obtain ⟨rfl, rfl, rfl, rfl, rfl⟩ := inj5 hf
        exact ret_i C0 G dX5_eachFor_50
set_option maxHeartbeats 4000000 in
set_option maxRecDepth 100000 in
theorem b5_eachFor_0 {X : XP} {p : Program} {l : Launch} {e : Env} {s : State} {m : MethodId} {args : Array Value} {below : List Frame} {meth : Method} {c : Code} {D : va_G} {cI cC : ClassId} {ad : Nat → Nat} {A : Nat → Prop} {xkept : Nat → Int32} {xisK : Int32} {xgone : Int32} {xtape : Nat → Int32} {xtaped : Int32} {xtok : Int32} {xbeg : Int32} {xend : Int32} {xval : Int64} {xwid : Nat → Int32} {xsiz : Nat → Int32} {xcel : Nat → Int32} {xcar : Nat → Int32} {r0 : Int32} {o_xs : Nat → Int32} {o_xaside : Nat → Int32} {o_xfound : Nat → Int32} {o_xover : Nat → Int32} (C0 : CX X p s m args meth c cX5_eachFor 4 (some .int) RX5 A) : ∀ {xs : Nat → Int32} {xaside : Nat → Int32} {xfound : Nat → Int32} {xover : Nat → Int32} {v1 : Int32} {v2 : Int32} {H : Heap} {locs : List Loc} {ls : Array Slot}, GX X D (tyM cI cC) A s (wM cI cC ad xs xkept xaside xisK xfound xgone xover xtape xtaped xtok xbeg xend xval xwid xsiz xcel xcar) H locs → lv_has ls 4 [(0, .ref (ad 0)), (1, .int v1), (2, .int v2)] → f5_eachFor xs xaside xfound xgone xover v1 v2 = some (r0, o_xs, o_xaside, o_xfound, o_xover) → W p l e ({ frames := 8, cells := 0, slots := 0, locals := 188 }) s m args below meth c H locs 0 0 (MQ below (QcI D (tyM cI cC) (wM cI cC ad o_xs xkept o_xaside xisK o_xfound xgone o_xover xtape xtaped xtok xbeg xend xval xwid xsiz xcel xcar) A r0) args s 0 0 A) (F0 m 0 ls []) := by
  have hx := C0.1
  have hb := C0.2.1
  have hown := C0.2.2.2.2.1
  have hts := C0.2.2.2.2.2.1
  have hX := C0.2.2.2.2.2.2.2.2
  intro xs xaside xfound xover v1 v2 H locs ls G hl hf
  unfold f5_eachFor at hf
  refine lv_aload_n hx hb dX5_eachFor_0 rfl (lv_at hl 0 rfl) ?_
  refine lv_iload_n hx hb dX5_eachFor_1 rfl (lv_at hl 1 rfl) ?_
  refine go_i C0 G (runV_of (n := 1) (q0 := 0) (As := [.int v1]) (rest := []) C0 G (c5_isVisitor hX rfl) q825 q54 q822 q824 q14 o5_isVisitor ⟨rfl, rfl⟩ ⟨Nat.le_of_ble_eq_true rfl, Nat.le_of_ble_eq_true rfl⟩ rfl rfl rfl hl.1 rfl (Nat.le_of_ble_eq_true rfl) dX5_eachFor_2) (fun H locs G => ?_)
  refine lv_if_eq (tgt := 15) hx hb dX5_eachFor_5 (by decide) (fun hc1 => ?_) (fun hc1 => ?_)
  · have hf := itp hc1 hf
    exact b5_eachFor_15 C0  G (lv_sub hl [0] rfl) hf
  · have hf := itn hc1 hf
    refine lv_iload_n hx hb dX5_eachFor_8 rfl (lv_at hl 2 rfl) ?_
    refine go_i C0 G (runS_of (n := 1) (As := [.int v2]) (rest := []) C0 G (c5_isSoon hX rfl) q958 q54 q956 q957 o5_isSoon ⟨rfl, rfl⟩ ⟨Nat.le_of_ble_eq_true rfl, Nat.le_of_ble_eq_true rfl⟩ rfl hl.1 rfl (Nat.le_of_ble_eq_true rfl) dX5_eachFor_9) (fun H locs G => ?_)
    refine lv_if_ne (tgt := 21) hx hb dX5_eachFor_12 (by decide) (fun hc2 => ?_) (fun hc2 => ?_)
    · have hf := itn hc2 hf
      refine lv_bipush (v := (9 : Int32)) hx hb dX5_eachFor_21 (by decide) ?_
      refine lv_istore_n (lv' := [(3, .int (9 : Int32)), (0, .ref (ad 0)), (1, .int v1), (2, .int v2)]) hx hb dX5_eachFor_23 rfl hl (by decide) rfl (fun ls hl => ?_)
      exact b5_eachFor_24 C0  1000 G (lv_sub hl [1, 2, 3, 0] rfl) hf
    · have hf := itp hc2 hf
      exact b5_eachFor_15 C0  G (lv_sub hl [0] rfl) hf
theorem o5_eachFor : okName yX5_eachFor 2 := ⟨by decide, by decide, by decide +kernel⟩
set_option maxHeartbeats 4000000 in
set_option maxRecDepth 100000 in
theorem c5_eachFor {X : XP} (hX : XT X) {l : Launch} {D : va_G} {cI cC : ClassId} {ad : Nat → Nat} {sz : Nat} {xs : Nat → Int32} {xkept : Nat → Int32} {xaside : Nat → Int32} {xisK : Int32} {xfound : Nat → Int32} {xgone : Int32} {xover : Nat → Int32} {xtape : Nat → Int32} {xtaped : Int32} {xtok : Int32} {xbeg : Int32} {xend : Int32} {xval : Int64} {xwid : Nat → Int32} {xsiz : Nat → Int32} {xcel : Nat → Int32} {xcar : Nat → Int32} {v1 : Int32} {v2 : Int32} {r0 : Int32} {o_xs : Nat → Int32} {o_xaside : Nat → Int32} {o_xfound : Nat → Int32} {o_xover : Nat → Int32} (hf : f5_eachFor xs xaside xfound xgone xover v1 v2 = some (r0, o_xs, o_xaside, o_xfound, o_xover)) : Met l yX5_eachFor (wU yX5_eachFor cX5_eachFor 4 (some .int)) ({ frames := 8, cells := 0, slots := 0, locals := 188 }) (va_Pc [.ref (ad 0), .int v1, .int v2] (PreW X D (tyM cI cC) (wM cI cC ad xs xkept xaside xisK xfound xgone xover xtape xtaped xtok xbeg xend xval xwid xsiz xcel xcar) sz)) (QcI D (tyM cI cC) (wM cI cC ad o_xs xkept o_xaside xisK o_xfound xgone o_xover xtape xtaped xtok xbeg xend xval xwid xsiz xcel xcar) (va_A (wM cI cC ad xs xkept xaside xisK xfound xgone xover xtape xtaped xtok xbeg xend xval xwid xsiz xcel xcar) sz) r0) 0 0 (va_A (wM cI cC ad xs xkept xaside xisK xfound xgone xover xtape xtaped xtok xbeg xend xval xwid xsiz xcel xcar) sz) := by
  refine startW hX (own := RX5) (by decide) rfl (Nat.le_of_ble_eq_true rfl) (fun p e s m args below meth c ls C0 G hl => ?_)
  exact b5_eachFor_0 C0 G hl hf
/-! 5_kindFor -/
theorem dX5_kindFor_0 : decode cX5_kindFor 0 = .ok (.aload_n 0, 1) := by decide +kernel
theorem dX5_kindFor_1 : decode cX5_kindFor 1 = .ok (.iload_n 1, 1) := by decide +kernel
theorem dX5_kindFor_2 : decode cX5_kindFor 2 = .ok (.invokevirtual 111, 3) := by decide +kernel
theorem dX5_kindFor_5 : decode cX5_kindFor 5 = .ok (.ifCond .eq 20, 3) := by decide +kernel
theorem dX5_kindFor_8 : decode cX5_kindFor 8 = .ok (.iload_n 2, 1) := by decide +kernel
theorem dX5_kindFor_9 : decode cX5_kindFor 9 = .ok (.invokestatic 158, 3) := by decide +kernel
theorem dX5_kindFor_12 : decode cX5_kindFor 12 = .ok (.ifCond .eq 13, 3) := by decide +kernel
theorem dX5_kindFor_15 : decode cX5_kindFor 15 = .ok (.aload_n 0, 1) := by decide +kernel
theorem dX5_kindFor_16 : decode cX5_kindFor 16 = .ok (.iload_n 1, 1) := by decide +kernel
theorem dX5_kindFor_17 : decode cX5_kindFor 17 = .ok (.iconst 0, 1) := by decide +kernel
theorem dX5_kindFor_18 : decode cX5_kindFor 18 = .ok (.iload_n 2, 1) := by decide +kernel
theorem dX5_kindFor_19 : decode cX5_kindFor 19 = .ok (.invokevirtual 161, 3) := by decide +kernel
theorem dX5_kindFor_22 : decode cX5_kindFor 22 = .ok (.goto 8, 3) := by decide +kernel
theorem dX5_kindFor_25 : decode cX5_kindFor 25 = .ok (.aload_n 0, 1) := by decide +kernel
theorem dX5_kindFor_26 : decode cX5_kindFor 26 = .ok (.iconst 0, 1) := by decide +kernel
theorem dX5_kindFor_27 : decode cX5_kindFor 27 = .ok (.invokevirtual 105, 3) := by decide +kernel
theorem dX5_kindFor_30 : decode cX5_kindFor 30 = .ok (.ireturn, 1) := by decide +kernel
def j5_kindFor_25  (xs : Nat → Int32) (xaside : Nat → Int32) (xfound : Nat → Int32) (xgone : Int32) (xover : Nat → Int32)  : Option (Int32 × (Nat → Int32) × (Nat → Int32) × (Nat → Int32) × (Nat → Int32)) :=
  ob2 (f5_no xfound (0 : Int32)) (fun r8 xfound_9 =>
  some (r8, xs, xaside, xfound_9, xover))
def f5_kindFor (xs : Nat → Int32) (xaside : Nat → Int32) (xfound : Nat → Int32) (xgone : Int32) (xover : Nat → Int32) (v1 : Int32) (v2 : Int32) : Option (Int32 × (Nat → Int32) × (Nat → Int32) × (Nat → Int32) × (Nat → Int32)) :=
  if (f5_isVisitor xs v1) = (0 : Int32) then (
    j5_kindFor_25 xs xaside xfound xgone xover)
  else (
    if (f5_isSoon v2) = (0 : Int32) then (
      j5_kindFor_25 xs xaside xfound xgone xover)
    else (
      ob4 (f5_longestBy xs xaside xgone xover v1 (0 : Int32) v2) (fun r3 xs_4 xaside_5 xover_6 =>
      some (r3, xs_4, xaside_5, xfound, xover_6))))
set_option maxHeartbeats 4000000 in
set_option maxRecDepth 100000 in
theorem b5_kindFor_25 {X : XP} {p : Program} {l : Launch} {e : Env} {s : State} {m : MethodId} {args : Array Value} {below : List Frame} {meth : Method} {c : Code} {D : va_G} {cI cC : ClassId} {ad : Nat → Nat} {A : Nat → Prop} {xkept : Nat → Int32} {xisK : Int32} {xgone : Int32} {xtape : Nat → Int32} {xtaped : Int32} {xtok : Int32} {xbeg : Int32} {xend : Int32} {xval : Int64} {xwid : Nat → Int32} {xsiz : Nat → Int32} {xcel : Nat → Int32} {xcar : Nat → Int32} {r0 : Int32} {o_xs : Nat → Int32} {o_xaside : Nat → Int32} {o_xfound : Nat → Int32} {o_xover : Nat → Int32} (C0 : CX X p s m args meth c cX5_kindFor 3 (some .int) RX5 A) : ∀ {xs : Nat → Int32} {xaside : Nat → Int32} {xfound : Nat → Int32} {xover : Nat → Int32} {H : Heap} {locs : List Loc} {ls : Array Slot}, GX X D (tyM cI cC) A s (wM cI cC ad xs xkept xaside xisK xfound xgone xover xtape xtaped xtok xbeg xend xval xwid xsiz xcel xcar) H locs → lv_has ls 3 [(0, .ref (ad 0))] → j5_kindFor_25  xs xaside xfound xgone xover = some (r0, o_xs, o_xaside, o_xfound, o_xover) → W p l e ({ frames := 9, cells := 0, slots := 0, locals := 215 }) s m args below meth c H locs 0 0 (MQ below (QcI D (tyM cI cC) (wM cI cC ad o_xs xkept o_xaside xisK o_xfound xgone o_xover xtape xtaped xtok xbeg xend xval xwid xsiz xcel xcar) A r0) args s 0 0 A) (F0 m 25 ls []) := by
  have hx := C0.1
  have hb := C0.2.1
  have hown := C0.2.2.2.2.1
  have hts := C0.2.2.2.2.2.1
  have hX := C0.2.2.2.2.2.2.2.2
  intro xs xaside xfound xover H locs ls G hl hf
  unfold j5_kindFor_25 at hf
  refine lv_aload_n hx hb dX5_kindFor_25 rfl (lv_at hl 0 rfl) ?_
  refine lv_iconst (v := (0 : Int32)) hx hb dX5_kindFor_26 (by decide) ?_
  obtain ⟨r8, xfound_9, hc10, hf⟩ := ob2_s hf
  refine go_i C0 G (runV_of (n := 1) (q0 := 0) (As := [.int (0 : Int32)]) (rest := []) C0 G (c5_no hX hc10) q788 q54 q785 q787 q9 o5_no ⟨rfl, rfl⟩ ⟨Nat.le_of_ble_eq_true rfl, Nat.le_of_ble_eq_true rfl⟩ rfl rfl rfl hl.1 rfl (Nat.le_of_ble_eq_true rfl) dX5_kindFor_27) (fun H locs G => ?_)
  obtain ⟨rfl, rfl, rfl, rfl, rfl⟩ := inj5 hf
  exact ret_i C0 G dX5_kindFor_30
set_option maxHeartbeats 4000000 in
set_option maxRecDepth 100000 in
theorem b5_kindFor_0 {X : XP} {p : Program} {l : Launch} {e : Env} {s : State} {m : MethodId} {args : Array Value} {below : List Frame} {meth : Method} {c : Code} {D : va_G} {cI cC : ClassId} {ad : Nat → Nat} {A : Nat → Prop} {xkept : Nat → Int32} {xisK : Int32} {xgone : Int32} {xtape : Nat → Int32} {xtaped : Int32} {xtok : Int32} {xbeg : Int32} {xend : Int32} {xval : Int64} {xwid : Nat → Int32} {xsiz : Nat → Int32} {xcel : Nat → Int32} {xcar : Nat → Int32} {r0 : Int32} {o_xs : Nat → Int32} {o_xaside : Nat → Int32} {o_xfound : Nat → Int32} {o_xover : Nat → Int32} (C0 : CX X p s m args meth c cX5_kindFor 3 (some .int) RX5 A) : ∀ {xs : Nat → Int32} {xaside : Nat → Int32} {xfound : Nat → Int32} {xover : Nat → Int32} {v1 : Int32} {v2 : Int32} {H : Heap} {locs : List Loc} {ls : Array Slot}, GX X D (tyM cI cC) A s (wM cI cC ad xs xkept xaside xisK xfound xgone xover xtape xtaped xtok xbeg xend xval xwid xsiz xcel xcar) H locs → lv_has ls 3 [(0, .ref (ad 0)), (1, .int v1), (2, .int v2)] → f5_kindFor xs xaside xfound xgone xover v1 v2 = some (r0, o_xs, o_xaside, o_xfound, o_xover) → W p l e ({ frames := 9, cells := 0, slots := 0, locals := 215 }) s m args below meth c H locs 0 0 (MQ below (QcI D (tyM cI cC) (wM cI cC ad o_xs xkept o_xaside xisK o_xfound xgone o_xover xtape xtaped xtok xbeg xend xval xwid xsiz xcel xcar) A r0) args s 0 0 A) (F0 m 0 ls []) := by
  have hx := C0.1
  have hb := C0.2.1
  have hown := C0.2.2.2.2.1
  have hts := C0.2.2.2.2.2.1
  have hX := C0.2.2.2.2.2.2.2.2
  intro xs xaside xfound xover v1 v2 H locs ls G hl hf
  unfold f5_kindFor at hf
  refine lv_aload_n hx hb dX5_kindFor_0 rfl (lv_at hl 0 rfl) ?_
  refine lv_iload_n hx hb dX5_kindFor_1 rfl (lv_at hl 1 rfl) ?_
  refine go_i C0 G (runV_of (n := 1) (q0 := 0) (As := [.int v1]) (rest := []) C0 G (c5_isVisitor hX rfl) q825 q54 q822 q824 q14 o5_isVisitor ⟨rfl, rfl⟩ ⟨Nat.le_of_ble_eq_true rfl, Nat.le_of_ble_eq_true rfl⟩ rfl rfl rfl hl.1 rfl (Nat.le_of_ble_eq_true rfl) dX5_kindFor_2) (fun H locs G => ?_)
  refine lv_if_eq (tgt := 25) hx hb dX5_kindFor_5 (by decide) (fun hc1 => ?_) (fun hc1 => ?_)
  · have hf := itp hc1 hf
    exact b5_kindFor_25 C0  G (lv_sub hl [0] rfl) hf
  · have hf := itn hc1 hf
    refine lv_iload_n hx hb dX5_kindFor_8 rfl (lv_at hl 2 rfl) ?_
    refine go_i C0 G (runS_of (n := 1) (As := [.int v2]) (rest := []) C0 G (c5_isSoon hX rfl) q958 q54 q956 q957 o5_isSoon ⟨rfl, rfl⟩ ⟨Nat.le_of_ble_eq_true rfl, Nat.le_of_ble_eq_true rfl⟩ rfl hl.1 rfl (Nat.le_of_ble_eq_true rfl) dX5_kindFor_9) (fun H locs G => ?_)
    refine lv_if_eq (tgt := 25) hx hb dX5_kindFor_12 (by decide) (fun hc2 => ?_) (fun hc2 => ?_)
    · have hf := itp hc2 hf
      exact b5_kindFor_25 C0  G (lv_sub hl [0] rfl) hf
    · have hf := itn hc2 hf
      refine lv_aload_n hx hb dX5_kindFor_15 rfl (lv_at hl 0 rfl) ?_
      refine lv_iload_n hx hb dX5_kindFor_16 rfl (lv_at hl 1 rfl) ?_
      refine lv_iconst (v := (0 : Int32)) hx hb dX5_kindFor_17 (by decide) ?_
      refine lv_iload_n hx hb dX5_kindFor_18 rfl (lv_at hl 2 rfl) ?_
      obtain ⟨r3, xs_4, xaside_5, xover_6, hc7, hf⟩ := ob4_s hf
      refine go_i C0 G (runV_of (n := 3) (q0 := 0) (As := [.int v1, .int (0 : Int32), .int v2]) (rest := []) C0 G (c5_longestBy hX hc7) q962 q54 q959 q961 q34 o5_longestBy ⟨rfl, rfl⟩ ⟨Nat.le_of_ble_eq_true rfl, Nat.le_of_ble_eq_true rfl⟩ rfl rfl rfl hl.1 rfl (Nat.le_of_ble_eq_true rfl) dX5_kindFor_19) (fun H locs G => ?_)
      refine lv_goto (tgt := 30) hx hb dX5_kindFor_22 (by decide) ?_
      obtain ⟨rfl, rfl, rfl, rfl, rfl⟩ := inj5 hf
      exact ret_i C0 G dX5_kindFor_30
theorem o5_kindFor : okName yX5_kindFor 2 := ⟨by decide, by decide, by decide +kernel⟩
set_option maxHeartbeats 4000000 in
set_option maxRecDepth 100000 in
theorem c5_kindFor {X : XP} (hX : XT X) {l : Launch} {D : va_G} {cI cC : ClassId} {ad : Nat → Nat} {sz : Nat} {xs : Nat → Int32} {xkept : Nat → Int32} {xaside : Nat → Int32} {xisK : Int32} {xfound : Nat → Int32} {xgone : Int32} {xover : Nat → Int32} {xtape : Nat → Int32} {xtaped : Int32} {xtok : Int32} {xbeg : Int32} {xend : Int32} {xval : Int64} {xwid : Nat → Int32} {xsiz : Nat → Int32} {xcel : Nat → Int32} {xcar : Nat → Int32} {v1 : Int32} {v2 : Int32} {r0 : Int32} {o_xs : Nat → Int32} {o_xaside : Nat → Int32} {o_xfound : Nat → Int32} {o_xover : Nat → Int32} (hf : f5_kindFor xs xaside xfound xgone xover v1 v2 = some (r0, o_xs, o_xaside, o_xfound, o_xover)) : Met l yX5_kindFor (wU yX5_kindFor cX5_kindFor 3 (some .int)) ({ frames := 9, cells := 0, slots := 0, locals := 215 }) (va_Pc [.ref (ad 0), .int v1, .int v2] (PreW X D (tyM cI cC) (wM cI cC ad xs xkept xaside xisK xfound xgone xover xtape xtaped xtok xbeg xend xval xwid xsiz xcel xcar) sz)) (QcI D (tyM cI cC) (wM cI cC ad o_xs xkept o_xaside xisK o_xfound xgone o_xover xtape xtaped xtok xbeg xend xval xwid xsiz xcel xcar) (va_A (wM cI cC ad xs xkept xaside xisK xfound xgone xover xtape xtaped xtok xbeg xend xval xwid xsiz xcel xcar) sz) r0) 0 0 (va_A (wM cI cC ad xs xkept xaside xisK xfound xgone xover xtape xtaped xtok xbeg xend xval xwid xsiz xcel xcar) sz) := by
  refine startW hX (own := RX5) (by decide) rfl (Nat.le_of_ble_eq_true rfl) (fun p e s m args below meth c ls C0 G hl => ?_)
  exact b5_kindFor_0 C0 G hl hf
/-! 5_windFor -/
theorem dX5_windFor_0 : decode cX5_windFor 0 = .ok (.aload_n 0, 1) := by decide +kernel
theorem dX5_windFor_1 : decode cX5_windFor 1 = .ok (.iload_n 1, 1) := by decide +kernel
theorem dX5_windFor_2 : decode cX5_windFor 2 = .ok (.invokevirtual 111, 3) := by decide +kernel
theorem dX5_windFor_5 : decode cX5_windFor 5 = .ok (.ifCond .eq 10, 3) := by decide +kernel
theorem dX5_windFor_8 : decode cX5_windFor 8 = .ok (.iload_n 2, 1) := by decide +kernel
theorem dX5_windFor_9 : decode cX5_windFor 9 = .ok (.invokestatic 158, 3) := by decide +kernel
theorem dX5_windFor_12 : decode cX5_windFor 12 = .ok (.ifCond .ne 9, 3) := by decide +kernel
theorem dX5_windFor_15 : decode cX5_windFor 15 = .ok (.aload_n 0, 1) := by decide +kernel
theorem dX5_windFor_16 : decode cX5_windFor 16 = .ok (.iconst 0, 1) := by decide +kernel
theorem dX5_windFor_17 : decode cX5_windFor 17 = .ok (.invokevirtual 105, 3) := by decide +kernel
theorem dX5_windFor_20 : decode cX5_windFor 20 = .ok (.ireturn, 1) := by decide +kernel
theorem dX5_windFor_21 : decode cX5_windFor 21 = .ok (.iconst 5, 1) := by decide +kernel
theorem dX5_windFor_22 : decode cX5_windFor 22 = .ok (.istore_n 3, 1) := by decide +kernel
theorem dX5_windFor_23 : decode cX5_windFor 23 = .ok (.iload_n 3, 1) := by decide +kernel
theorem dX5_windFor_24 : decode cX5_windFor 24 = .ok (.ifCond .lt 32, 3) := by decide +kernel
theorem dX5_windFor_27 : decode cX5_windFor 27 = .ok (.aload_n 0, 1) := by decide +kernel
theorem dX5_windFor_28 : decode cX5_windFor 28 = .ok (.invokevirtual 140, 3) := by decide +kernel
theorem dX5_windFor_31 : decode cX5_windFor 31 = .ok (.aload_n 0, 1) := by decide +kernel
theorem dX5_windFor_32 : decode cX5_windFor 32 = .ok (.getfield 9, 3) := by decide +kernel
theorem dX5_windFor_35 : decode cX5_windFor 35 = .ok (.iconst 4, 1) := by decide +kernel
theorem dX5_windFor_36 : decode cX5_windFor 36 = .ok (.iload_n 3, 1) := by decide +kernel
theorem dX5_windFor_37 : decode cX5_windFor 37 = .ok (.iastore, 1) := by decide +kernel
theorem dX5_windFor_38 : decode cX5_windFor 38 = .ok (.aload_n 0, 1) := by decide +kernel
theorem dX5_windFor_39 : decode cX5_windFor 39 = .ok (.iload_n 1, 1) := by decide +kernel
theorem dX5_windFor_40 : decode cX5_windFor 40 = .ok (.iload_n 2, 1) := by decide +kernel
theorem dX5_windFor_41 : decode cX5_windFor 41 = .ok (.invokevirtual 155, 3) := by decide +kernel
theorem dX5_windFor_44 : decode cX5_windFor 44 = .ok (.iconst 1, 1) := by decide +kernel
theorem dX5_windFor_45 : decode cX5_windFor 45 = .ok (.if_icmp .ne 5, 3) := by decide +kernel
theorem dX5_windFor_48 : decode cX5_windFor 48 = .ok (.iload_n 3, 1) := by decide +kernel
theorem dX5_windFor_49 : decode cX5_windFor 49 = .ok (.ireturn, 1) := by decide +kernel
theorem dX5_windFor_50 : decode cX5_windFor 50 = .ok (.iinc 3 (-1), 3) := by decide +kernel
theorem dX5_windFor_53 : decode cX5_windFor 53 = .ok (.goto (-30), 3) := by decide +kernel
theorem dX5_windFor_56 : decode cX5_windFor 56 = .ok (.aload_n 0, 1) := by decide +kernel
theorem dX5_windFor_57 : decode cX5_windFor 57 = .ok (.iconst 3, 1) := by decide +kernel
theorem dX5_windFor_58 : decode cX5_windFor 58 = .ok (.invokevirtual 105, 3) := by decide +kernel
theorem dX5_windFor_61 : decode cX5_windFor 61 = .ok (.ireturn, 1) := by decide +kernel
def j5_windFor_15  (xs : Nat → Int32) (xaside : Nat → Int32) (xfound : Nat → Int32) (xgone : Int32) (xover : Nat → Int32)  : Option (Int32 × (Nat → Int32) × (Nat → Int32) × (Nat → Int32) × (Nat → Int32)) :=
  ob2 (f5_no xfound (0 : Int32)) (fun r3 xfound_4 =>
  some (r3, xs, xaside, xfound_4, xover))
def l5_windFor_23  : Nat → (Nat → Int32) → (Nat → Int32) → (Nat → Int32) → Int32 → (Nat → Int32) → Int32 → Int32 → Int32 → Option (Int32 × (Nat → Int32) × (Nat → Int32) × (Nat → Int32) × (Nat → Int32))
  | 0, _, _, _, _, _, _, _, _ => none
  | n + 1, xs, xaside, xfound, xgone, xover, v1, v2, v3 =>
    if v3 < (0 : Int32) then (
      ob2 (f5_no xfound (3 : Int32)) (fun r7 xfound_8 =>
      some (r7, xs, xaside, xfound_8, xover)))
    else (
      ob1 (f5_setsAside xs xaside) (fun xaside_10 =>
      ob3 (f5_thenOf (upd xs 4 v3) xaside_10 xgone xover v1 v2) (fun r12 xs_13 xover_14 =>
      if r12 = (1 : Int32) then (
        some (v3, xs_13, xaside_10, xfound, xover_14))
      else (
        (l5_windFor_23 n) xs_13 xaside_10 xfound xgone xover_14 v1 v2 (v3 + (-1 : Int32))))))
def f5_windFor (xs : Nat → Int32) (xaside : Nat → Int32) (xfound : Nat → Int32) (xgone : Int32) (xover : Nat → Int32) (v1 : Int32) (v2 : Int32) : Option (Int32 × (Nat → Int32) × (Nat → Int32) × (Nat → Int32) × (Nat → Int32)) :=
  if (f5_isVisitor xs v1) = (0 : Int32) then (
    j5_windFor_15 xs xaside xfound xgone xover)
  else (
    if (f5_isSoon v2) = (0 : Int32) then (
      j5_windFor_15 xs xaside xfound xgone xover)
    else (
      l5_windFor_23 1000 xs xaside xfound xgone xover v1 v2 (5 : Int32)))
set_option maxHeartbeats 4000000 in
set_option maxRecDepth 100000 in
theorem b5_windFor_15 {X : XP} {p : Program} {l : Launch} {e : Env} {s : State} {m : MethodId} {args : Array Value} {below : List Frame} {meth : Method} {c : Code} {D : va_G} {cI cC : ClassId} {ad : Nat → Nat} {A : Nat → Prop} {xkept : Nat → Int32} {xisK : Int32} {xgone : Int32} {xtape : Nat → Int32} {xtaped : Int32} {xtok : Int32} {xbeg : Int32} {xend : Int32} {xval : Int64} {xwid : Nat → Int32} {xsiz : Nat → Int32} {xcel : Nat → Int32} {xcar : Nat → Int32} {r0 : Int32} {o_xs : Nat → Int32} {o_xaside : Nat → Int32} {o_xfound : Nat → Int32} {o_xover : Nat → Int32} (C0 : CX X p s m args meth c cX5_windFor 4 (some .int) RX5 A) : ∀ {xs : Nat → Int32} {xaside : Nat → Int32} {xfound : Nat → Int32} {xover : Nat → Int32} {H : Heap} {locs : List Loc} {ls : Array Slot}, GX X D (tyM cI cC) A s (wM cI cC ad xs xkept xaside xisK xfound xgone xover xtape xtaped xtok xbeg xend xval xwid xsiz xcel xcar) H locs → lv_has ls 4 [(0, .ref (ad 0))] → j5_windFor_15  xs xaside xfound xgone xover = some (r0, o_xs, o_xaside, o_xfound, o_xover) → W p l e ({ frames := 8, cells := 0, slots := 0, locals := 188 }) s m args below meth c H locs 0 0 (MQ below (QcI D (tyM cI cC) (wM cI cC ad o_xs xkept o_xaside xisK o_xfound xgone o_xover xtape xtaped xtok xbeg xend xval xwid xsiz xcel xcar) A r0) args s 0 0 A) (F0 m 15 ls []) := by
  have hx := C0.1
  have hb := C0.2.1
  have hown := C0.2.2.2.2.1
  have hts := C0.2.2.2.2.2.1
  have hX := C0.2.2.2.2.2.2.2.2
  intro xs xaside xfound xover H locs ls G hl hf
  unfold j5_windFor_15 at hf
  refine lv_aload_n hx hb dX5_windFor_15 rfl (lv_at hl 0 rfl) ?_
  refine lv_iconst (v := (0 : Int32)) hx hb dX5_windFor_16 (by decide) ?_
  obtain ⟨r3, xfound_4, hc5, hf⟩ := ob2_s hf
  refine go_i C0 G (runV_of (n := 1) (q0 := 0) (As := [.int (0 : Int32)]) (rest := []) C0 G (c5_no hX hc5) q788 q54 q785 q787 q9 o5_no ⟨rfl, rfl⟩ ⟨Nat.le_of_ble_eq_true rfl, Nat.le_of_ble_eq_true rfl⟩ rfl rfl rfl hl.1 rfl (Nat.le_of_ble_eq_true rfl) dX5_windFor_17) (fun H locs G => ?_)
  obtain ⟨rfl, rfl, rfl, rfl, rfl⟩ := inj5 hf
  exact ret_i C0 G dX5_windFor_20
set_option maxHeartbeats 4000000 in
set_option maxRecDepth 100000 in
theorem b5_windFor_23 {X : XP} {p : Program} {l : Launch} {e : Env} {s : State} {m : MethodId} {args : Array Value} {below : List Frame} {meth : Method} {c : Code} {D : va_G} {cI cC : ClassId} {ad : Nat → Nat} {A : Nat → Prop} {xkept : Nat → Int32} {xisK : Int32} {xgone : Int32} {xtape : Nat → Int32} {xtaped : Int32} {xtok : Int32} {xbeg : Int32} {xend : Int32} {xval : Int64} {xwid : Nat → Int32} {xsiz : Nat → Int32} {xcel : Nat → Int32} {xcar : Nat → Int32} {r0 : Int32} {o_xs : Nat → Int32} {o_xaside : Nat → Int32} {o_xfound : Nat → Int32} {o_xover : Nat → Int32} (C0 : CX X p s m args meth c cX5_windFor 4 (some .int) RX5 A) : ∀ (n : Nat) {xs : Nat → Int32} {xaside : Nat → Int32} {xfound : Nat → Int32} {xover : Nat → Int32} {v1 : Int32} {v2 : Int32} {v3 : Int32} {H : Heap} {locs : List Loc} {ls : Array Slot}, GX X D (tyM cI cC) A s (wM cI cC ad xs xkept xaside xisK xfound xgone xover xtape xtaped xtok xbeg xend xval xwid xsiz xcel xcar) H locs → lv_has ls 4 [(0, .ref (ad 0)), (1, .int v1), (2, .int v2), (3, .int v3)] → l5_windFor_23  n xs xaside xfound xgone xover v1 v2 v3 = some (r0, o_xs, o_xaside, o_xfound, o_xover) → W p l e ({ frames := 8, cells := 0, slots := 0, locals := 188 }) s m args below meth c H locs 0 0 (MQ below (QcI D (tyM cI cC) (wM cI cC ad o_xs xkept o_xaside xisK o_xfound xgone o_xover xtape xtaped xtok xbeg xend xval xwid xsiz xcel xcar) A r0) args s 0 0 A) (F0 m 23 ls []) := by
  have hx := C0.1
  have hb := C0.2.1
  have hown := C0.2.2.2.2.1
  have hts := C0.2.2.2.2.2.1
  have hX := C0.2.2.2.2.2.2.2.2
  intro n
  induction n with
  | zero =>
    intro _ _ _ _ _ _ _ _ _ _ G hl hf
    cases hf
  | succ n ih =>
    intro xs xaside xfound xover v1 v2 v3 H locs ls G hl hf
    rw [l5_windFor_23] at hf
    refine lv_iload_n hx hb dX5_windFor_23 rfl (lv_at hl 3 rfl) ?_
    refine lv_if_lt (tgt := 56) hx hb dX5_windFor_24 (by decide) (fun hc6 => ?_) (fun hc6 => ?_)
    · have hf := itp hc6 hf
      refine lv_aload_n hx hb dX5_windFor_56 rfl (lv_at hl 0 rfl) ?_
      refine lv_iconst (v := (3 : Int32)) hx hb dX5_windFor_57 (by decide) ?_
      obtain ⟨r7, xfound_8, hc9, hf⟩ := ob2_s hf
      refine go_i C0 G (runV_of (n := 1) (q0 := 0) (As := [.int (3 : Int32)]) (rest := []) C0 G (c5_no hX hc9) q788 q54 q785 q787 q9 o5_no ⟨rfl, rfl⟩ ⟨Nat.le_of_ble_eq_true rfl, Nat.le_of_ble_eq_true rfl⟩ rfl rfl rfl hl.1 rfl (Nat.le_of_ble_eq_true rfl) dX5_windFor_58) (fun H locs G => ?_)
      obtain ⟨rfl, rfl, rfl, rfl, rfl⟩ := inj5 hf
      exact ret_i C0 G dX5_windFor_61
    · have hf := itn hc6 hf
      refine lv_aload_n hx hb dX5_windFor_27 rfl (lv_at hl 0 rfl) ?_
      obtain ⟨xaside_10, hc11, hf⟩ := ob1_s hf
      refine go_v C0 G (runV_of (n := 0) (q0 := 0) (As := []) (rest := []) C0 G (c5_setsAside hX hc11) q919 q54 q916 q918 q30 o5_setsAside ⟨rfl, rfl⟩ ⟨Nat.le_of_ble_eq_true rfl, Nat.le_of_ble_eq_true rfl⟩ rfl rfl rfl hl.1 rfl (Nat.le_of_ble_eq_true rfl) dX5_windFor_28) (fun H locs G => ?_)
      refine lv_aload_n hx hb dX5_windFor_31 rfl (lv_at hl 0 rfl) ?_
      refine s_get (C := RX5) (T := TX5) C0 G i_X5 0 0 rfl rfl (by decide) q713 rfl dX5_windFor_32 ?_
      refine lv_iconst (v := (4 : Int32)) hx hb dX5_windFor_35 (by decide) ?_
      refine lv_iload_n hx hb dX5_windFor_36 rfl (lv_at hl 3 rfl) ?_
      refine s_iast (k := 4) (w' := (wM cI cC ad (upd xs 4 v3) xkept xaside_10 xisK xfound xgone xover xtape xtaped xtok xbeg xend xval xwid xsiz xcel xcar)) C0 G 1 0 rfl rfl (vin (by decide)) (by decide) rfl dX5_windFor_37 (fun H locs G => ?_)
      refine lv_aload_n hx hb dX5_windFor_38 rfl (lv_at hl 0 rfl) ?_
      refine lv_iload_n hx hb dX5_windFor_39 rfl (lv_at hl 1 rfl) ?_
      refine lv_iload_n hx hb dX5_windFor_40 rfl (lv_at hl 2 rfl) ?_
      obtain ⟨r12, xs_13, xover_14, hc15, hf⟩ := ob3_s hf
      refine go_i C0 G (runV_of (n := 2) (q0 := 0) (As := [.int v1, .int v2]) (rest := []) C0 G (c5_thenOf hX hc15) q966 q54 q963 q965 q35 o5_thenOf ⟨rfl, rfl⟩ ⟨Nat.le_of_ble_eq_true rfl, Nat.le_of_ble_eq_true rfl⟩ rfl rfl rfl hl.1 rfl (Nat.le_of_ble_eq_true rfl) dX5_windFor_41) (fun H locs G => ?_)
      refine lv_iconst (v := (1 : Int32)) hx hb dX5_windFor_44 (by decide) ?_
      refine lv_icmp_ne (tgt := 50) hx hb dX5_windFor_45 (by decide) (fun hc16 => ?_) (fun hc16 => ?_)
      · have hf := itn hc16 hf
        refine lv_iinc (v := (v3 + (-1 : Int32))) (lv' := [(3, .int (v3 + (-1 : Int32))), (0, .ref (ad 0)), (1, .int v1), (2, .int v2)]) hx hb dX5_windFor_50 hl (k := 3) rfl rfl (by decide) rfl (fun ls hl => ?_)
        refine lv_goto (tgt := 23) hx hb dX5_windFor_53 (by decide) ?_
        exact ih G (lv_sub hl [1, 2, 3, 0] rfl) hf
      · have hf := itp hc16 hf
        refine lv_iload_n hx hb dX5_windFor_48 rfl (lv_at hl 3 rfl) ?_
        obtain ⟨rfl, rfl, rfl, rfl, rfl⟩ := inj5 hf
        exact ret_i C0 G dX5_windFor_49
set_option maxHeartbeats 4000000 in
set_option maxRecDepth 100000 in
theorem b5_windFor_0 {X : XP} {p : Program} {l : Launch} {e : Env} {s : State} {m : MethodId} {args : Array Value} {below : List Frame} {meth : Method} {c : Code} {D : va_G} {cI cC : ClassId} {ad : Nat → Nat} {A : Nat → Prop} {xkept : Nat → Int32} {xisK : Int32} {xgone : Int32} {xtape : Nat → Int32} {xtaped : Int32} {xtok : Int32} {xbeg : Int32} {xend : Int32} {xval : Int64} {xwid : Nat → Int32} {xsiz : Nat → Int32} {xcel : Nat → Int32} {xcar : Nat → Int32} {r0 : Int32} {o_xs : Nat → Int32} {o_xaside : Nat → Int32} {o_xfound : Nat → Int32} {o_xover : Nat → Int32} (C0 : CX X p s m args meth c cX5_windFor 4 (some .int) RX5 A) : ∀ {xs : Nat → Int32} {xaside : Nat → Int32} {xfound : Nat → Int32} {xover : Nat → Int32} {v1 : Int32} {v2 : Int32} {H : Heap} {locs : List Loc} {ls : Array Slot}, GX X D (tyM cI cC) A s (wM cI cC ad xs xkept xaside xisK xfound xgone xover xtape xtaped xtok xbeg xend xval xwid xsiz xcel xcar) H locs → lv_has ls 4 [(0, .ref (ad 0)), (1, .int v1), (2, .int v2)] → f5_windFor xs xaside xfound xgone xover v1 v2 = some (r0, o_xs, o_xaside, o_xfound, o_xover) → W p l e ({ frames := 8, cells := 0, slots := 0, locals := 188 }) s m args below meth c H locs 0 0 (MQ below (QcI D (tyM cI cC) (wM cI cC ad o_xs xkept o_xaside xisK o_xfound xgone o_xover xtape xtaped xtok xbeg xend xval xwid xsiz xcel xcar) A r0) args s 0 0 A) (F0 m 0 ls []) := by
  have hx := C0.1
  have hb := C0.2.1
  have hown := C0.2.2.2.2.1
  have hts := C0.2.2.2.2.2.1
  have hX := C0.2.2.2.2.2.2.2.2
  intro xs xaside xfound xover v1 v2 H locs ls G hl hf
  unfold f5_windFor at hf
  refine lv_aload_n hx hb dX5_windFor_0 rfl (lv_at hl 0 rfl) ?_
  refine lv_iload_n hx hb dX5_windFor_1 rfl (lv_at hl 1 rfl) ?_
  refine go_i C0 G (runV_of (n := 1) (q0 := 0) (As := [.int v1]) (rest := []) C0 G (c5_isVisitor hX rfl) q825 q54 q822 q824 q14 o5_isVisitor ⟨rfl, rfl⟩ ⟨Nat.le_of_ble_eq_true rfl, Nat.le_of_ble_eq_true rfl⟩ rfl rfl rfl hl.1 rfl (Nat.le_of_ble_eq_true rfl) dX5_windFor_2) (fun H locs G => ?_)
  refine lv_if_eq (tgt := 15) hx hb dX5_windFor_5 (by decide) (fun hc1 => ?_) (fun hc1 => ?_)
  · have hf := itp hc1 hf
    exact b5_windFor_15 C0  G (lv_sub hl [0] rfl) hf
  · have hf := itn hc1 hf
    refine lv_iload_n hx hb dX5_windFor_8 rfl (lv_at hl 2 rfl) ?_
    refine go_i C0 G (runS_of (n := 1) (As := [.int v2]) (rest := []) C0 G (c5_isSoon hX rfl) q958 q54 q956 q957 o5_isSoon ⟨rfl, rfl⟩ ⟨Nat.le_of_ble_eq_true rfl, Nat.le_of_ble_eq_true rfl⟩ rfl hl.1 rfl (Nat.le_of_ble_eq_true rfl) dX5_windFor_9) (fun H locs G => ?_)
    refine lv_if_ne (tgt := 21) hx hb dX5_windFor_12 (by decide) (fun hc2 => ?_) (fun hc2 => ?_)
    · have hf := itn hc2 hf
      refine lv_iconst (v := (5 : Int32)) hx hb dX5_windFor_21 (by decide) ?_
      refine lv_istore_n (lv' := [(3, .int (5 : Int32)), (0, .ref (ad 0)), (1, .int v1), (2, .int v2)]) hx hb dX5_windFor_22 rfl hl (by decide) rfl (fun ls hl => ?_)
      exact b5_windFor_23 C0  1000 G (lv_sub hl [1, 2, 3, 0] rfl) hf
    · have hf := itp hc2 hf
      exact b5_windFor_15 C0  G (lv_sub hl [0] rfl) hf
theorem o5_windFor : okName yX5_windFor 2 := ⟨by decide, by decide, by decide +kernel⟩
set_option maxHeartbeats 4000000 in
set_option maxRecDepth 100000 in
theorem c5_windFor {X : XP} (hX : XT X) {l : Launch} {D : va_G} {cI cC : ClassId} {ad : Nat → Nat} {sz : Nat} {xs : Nat → Int32} {xkept : Nat → Int32} {xaside : Nat → Int32} {xisK : Int32} {xfound : Nat → Int32} {xgone : Int32} {xover : Nat → Int32} {xtape : Nat → Int32} {xtaped : Int32} {xtok : Int32} {xbeg : Int32} {xend : Int32} {xval : Int64} {xwid : Nat → Int32} {xsiz : Nat → Int32} {xcel : Nat → Int32} {xcar : Nat → Int32} {v1 : Int32} {v2 : Int32} {r0 : Int32} {o_xs : Nat → Int32} {o_xaside : Nat → Int32} {o_xfound : Nat → Int32} {o_xover : Nat → Int32} (hf : f5_windFor xs xaside xfound xgone xover v1 v2 = some (r0, o_xs, o_xaside, o_xfound, o_xover)) : Met l yX5_windFor (wU yX5_windFor cX5_windFor 4 (some .int)) ({ frames := 8, cells := 0, slots := 0, locals := 188 }) (va_Pc [.ref (ad 0), .int v1, .int v2] (PreW X D (tyM cI cC) (wM cI cC ad xs xkept xaside xisK xfound xgone xover xtape xtaped xtok xbeg xend xval xwid xsiz xcel xcar) sz)) (QcI D (tyM cI cC) (wM cI cC ad o_xs xkept o_xaside xisK o_xfound xgone o_xover xtape xtaped xtok xbeg xend xval xwid xsiz xcel xcar) (va_A (wM cI cC ad xs xkept xaside xisK xfound xgone xover xtape xtaped xtok xbeg xend xval xwid xsiz xcel xcar) sz) r0) 0 0 (va_A (wM cI cC ad xs xkept xaside xisK xfound xgone xover xtape xtaped xtok xbeg xend xval xwid xsiz xcel xcar) sz) := by
  refine startW hX (own := RX5) (by decide) rfl (Nat.le_of_ble_eq_true rfl) (fun p e s m args below meth c ls C0 G hl => ?_)
  exact b5_windFor_0 C0 G hl hf
/-! 5_bits -/
theorem dX5_bits_0 : decode cX5_bits 0 = .ok (.iconst 0, 1) := by decide +kernel
theorem dX5_bits_1 : decode cX5_bits 1 = .ok (.istore_n 1, 1) := by decide +kernel
theorem dX5_bits_2 : decode cX5_bits 2 = .ok (.iload_n 0, 1) := by decide +kernel
theorem dX5_bits_3 : decode cX5_bits 3 = .ok (.istore_n 2, 1) := by decide +kernel
theorem dX5_bits_4 : decode cX5_bits 4 = .ok (.iload_n 2, 1) := by decide +kernel
theorem dX5_bits_5 : decode cX5_bits 5 = .ok (.ifCond .eq 15, 3) := by decide +kernel
theorem dX5_bits_8 : decode cX5_bits 8 = .ok (.iinc 1 1, 3) := by decide +kernel
theorem dX5_bits_11 : decode cX5_bits 11 = .ok (.iload_n 2, 1) := by decide +kernel
theorem dX5_bits_12 : decode cX5_bits 12 = .ok (.iload_n 2, 1) := by decide +kernel
theorem dX5_bits_13 : decode cX5_bits 13 = .ok (.iconst 1, 1) := by decide +kernel
theorem dX5_bits_14 : decode cX5_bits 14 = .ok (.isub, 1) := by decide +kernel
theorem dX5_bits_15 : decode cX5_bits 15 = .ok (.iand, 1) := by decide +kernel
theorem dX5_bits_16 : decode cX5_bits 16 = .ok (.istore_n 2, 1) := by decide +kernel
theorem dX5_bits_17 : decode cX5_bits 17 = .ok (.goto (-13), 3) := by decide +kernel
theorem dX5_bits_20 : decode cX5_bits 20 = .ok (.iload_n 1, 1) := by decide +kernel
theorem dX5_bits_21 : decode cX5_bits 21 = .ok (.ireturn, 1) := by decide +kernel
def l5_bits_4  : Nat → Int32 → Int32 → Option (Int32)
  | 0, _, _ => none
  | n + 1, v1, v2 =>
    if v2 = (0 : Int32) then (
      some v1)
    else (
      (l5_bits_4 n) (v1 + (1 : Int32)) (v2 &&& (v2 - (1 : Int32))))
def f5_bits  (v0 : Int32) : Option (Int32) :=
  l5_bits_4 1000 (0 : Int32) v0
set_option maxHeartbeats 4000000 in
set_option maxRecDepth 100000 in
theorem b5_bits_4 {X : XP} {p : Program} {l : Launch} {e : Env} {s : State} {m : MethodId} {args : Array Value} {below : List Frame} {meth : Method} {c : Code} {D : va_G} {cI cC : ClassId} {ad : Nat → Nat} {A : Nat → Prop} {xs : Nat → Int32} {xkept : Nat → Int32} {xaside : Nat → Int32} {xisK : Int32} {xfound : Nat → Int32} {xgone : Int32} {xover : Nat → Int32} {xtape : Nat → Int32} {xtaped : Int32} {xtok : Int32} {xbeg : Int32} {xend : Int32} {xval : Int64} {xwid : Nat → Int32} {xsiz : Nat → Int32} {xcel : Nat → Int32} {xcar : Nat → Int32} {r0 : Int32} (C0 : CX X p s m args meth c cX5_bits 3 (some .int) RX5 A) : ∀ (n : Nat) {v1 : Int32} {v2 : Int32} {H : Heap} {locs : List Loc} {ls : Array Slot}, GX X D (tyM cI cC) A s (wM cI cC ad xs xkept xaside xisK xfound xgone xover xtape xtaped xtok xbeg xend xval xwid xsiz xcel xcar) H locs → lv_has ls 3 [(1, .int v1), (2, .int v2)] → l5_bits_4  n v1 v2 = some r0 → W p l e ({ frames := 0, cells := 0, slots := 0, locals := 0 }) s m args below meth c H locs 0 0 (MQ below (QcI D (tyM cI cC) (wM cI cC ad xs xkept xaside xisK xfound xgone xover xtape xtaped xtok xbeg xend xval xwid xsiz xcel xcar) A r0) args s 0 0 A) (F0 m 4 ls []) := by
  have hx := C0.1
  have hb := C0.2.1
  have hown := C0.2.2.2.2.1
  have hts := C0.2.2.2.2.2.1
  have hX := C0.2.2.2.2.2.2.2.2
  intro n
  induction n with
  | zero =>
    intro _ _ _ _ _ G hl hf
    cases hf
  | succ n ih =>
    intro v1 v2 H locs ls G hl hf
    rw [l5_bits_4] at hf
    refine lv_iload_n hx hb dX5_bits_4 rfl (lv_at hl 1 rfl) ?_
    refine lv_if_eq (tgt := 20) hx hb dX5_bits_5 (by decide) (fun hc1 => ?_) (fun hc1 => ?_)
    · have hf := itp hc1 hf
      refine lv_iload_n hx hb dX5_bits_20 rfl (lv_at hl 0 rfl) ?_
      obtain rfl := inj1 hf
      exact ret_i C0 G dX5_bits_21
    · have hf := itn hc1 hf
      refine lv_iinc (v := (v1 + (1 : Int32))) (lv' := [(1, .int (v1 + (1 : Int32))), (2, .int v2)]) hx hb dX5_bits_8 hl (k := 0) rfl rfl (by decide) rfl (fun ls hl => ?_)
      refine lv_iload_n hx hb dX5_bits_11 rfl (lv_at hl 1 rfl) ?_
      refine lv_iload_n hx hb dX5_bits_12 rfl (lv_at hl 1 rfl) ?_
      refine lv_iconst (v := (1 : Int32)) hx hb dX5_bits_13 (by decide) ?_
      refine lv_isub hx hb dX5_bits_14 ?_
      refine lv_iand hx hb dX5_bits_15 ?_
      refine lv_istore_n (lv' := [(2, .int (v2 &&& (v2 - (1 : Int32)))), (1, .int (v1 + (1 : Int32)))]) hx hb dX5_bits_16 rfl hl (by decide) rfl (fun ls hl => ?_)
      refine lv_goto (tgt := 4) hx hb dX5_bits_17 (by decide) ?_
      exact ih G (lv_sub hl [1, 0] rfl) hf
set_option maxHeartbeats 4000000 in
set_option maxRecDepth 100000 in
theorem b5_bits_0 {X : XP} {p : Program} {l : Launch} {e : Env} {s : State} {m : MethodId} {args : Array Value} {below : List Frame} {meth : Method} {c : Code} {D : va_G} {cI cC : ClassId} {ad : Nat → Nat} {A : Nat → Prop} {xs : Nat → Int32} {xkept : Nat → Int32} {xaside : Nat → Int32} {xisK : Int32} {xfound : Nat → Int32} {xgone : Int32} {xover : Nat → Int32} {xtape : Nat → Int32} {xtaped : Int32} {xtok : Int32} {xbeg : Int32} {xend : Int32} {xval : Int64} {xwid : Nat → Int32} {xsiz : Nat → Int32} {xcel : Nat → Int32} {xcar : Nat → Int32} {r0 : Int32} (C0 : CX X p s m args meth c cX5_bits 3 (some .int) RX5 A) : ∀ {v0 : Int32} {H : Heap} {locs : List Loc} {ls : Array Slot}, GX X D (tyM cI cC) A s (wM cI cC ad xs xkept xaside xisK xfound xgone xover xtape xtaped xtok xbeg xend xval xwid xsiz xcel xcar) H locs → lv_has ls 3 [(0, .int v0)] → f5_bits v0 = some r0 → W p l e ({ frames := 0, cells := 0, slots := 0, locals := 0 }) s m args below meth c H locs 0 0 (MQ below (QcI D (tyM cI cC) (wM cI cC ad xs xkept xaside xisK xfound xgone xover xtape xtaped xtok xbeg xend xval xwid xsiz xcel xcar) A r0) args s 0 0 A) (F0 m 0 ls []) := by
  have hx := C0.1
  have hb := C0.2.1
  have hown := C0.2.2.2.2.1
  have hts := C0.2.2.2.2.2.1
  have hX := C0.2.2.2.2.2.2.2.2
  intro v0 H locs ls G hl hf
  unfold f5_bits at hf
  refine lv_iconst (v := (0 : Int32)) hx hb dX5_bits_0 (by decide) ?_
  refine lv_istore_n (lv' := [(1, .int (0 : Int32)), (0, .int v0)]) hx hb dX5_bits_1 rfl hl (by decide) rfl (fun ls hl => ?_)
  refine lv_iload_n hx hb dX5_bits_2 rfl (lv_at hl 1 rfl) ?_
  refine lv_istore_n (lv' := [(2, .int v0), (1, .int (0 : Int32)), (0, .int v0)]) hx hb dX5_bits_3 rfl hl (by decide) rfl (fun ls hl => ?_)
  exact b5_bits_4 C0  1000 G (lv_sub hl [1, 0] rfl) hf
theorem o5_bits : okName yX5_bits 1 := ⟨by decide, by decide, by decide +kernel⟩
set_option maxHeartbeats 4000000 in
set_option maxRecDepth 100000 in
theorem c5_bits {X : XP} (hX : XT X) {l : Launch} {D : va_G} {cI cC : ClassId} {ad : Nat → Nat} {sz : Nat} {xs : Nat → Int32} {xkept : Nat → Int32} {xaside : Nat → Int32} {xisK : Int32} {xfound : Nat → Int32} {xgone : Int32} {xover : Nat → Int32} {xtape : Nat → Int32} {xtaped : Int32} {xtok : Int32} {xbeg : Int32} {xend : Int32} {xval : Int64} {xwid : Nat → Int32} {xsiz : Nat → Int32} {xcel : Nat → Int32} {xcar : Nat → Int32} {v0 : Int32} {r0 : Int32} (hf : f5_bits v0 = some r0) : Met l yX5_bits (wU yX5_bits cX5_bits 3 (some .int)) ({ frames := 0, cells := 0, slots := 0, locals := 0 }) (va_Pc [.int v0] (PreW X D (tyM cI cC) (wM cI cC ad xs xkept xaside xisK xfound xgone xover xtape xtaped xtok xbeg xend xval xwid xsiz xcel xcar) sz)) (QcI D (tyM cI cC) (wM cI cC ad xs xkept xaside xisK xfound xgone xover xtape xtaped xtok xbeg xend xval xwid xsiz xcel xcar) (va_A (wM cI cC ad xs xkept xaside xisK xfound xgone xover xtape xtaped xtok xbeg xend xval xwid xsiz xcel xcar) sz) r0) 0 0 (va_A (wM cI cC ad xs xkept xaside xisK xfound xgone xover xtape xtaped xtok xbeg xend xval xwid xsiz xcel xcar) sz) := by
  refine startW hX (own := RX5) (by decide) rfl (Nat.le_of_ble_eq_true rfl) (fun p e s m args below meth c ls C0 G hl => ?_)
  exact b5_bits_0 C0 G hl hf
/-! 5_standsWithout -/
theorem dX5_standsWithout_0 : decode cX5_standsWithout 0 = .ok (.aload_n 0, 1) := by decide +kernel
theorem dX5_standsWithout_1 : decode cX5_standsWithout 1 = .ok (.invokevirtual 140, 3) := by decide +kernel
theorem dX5_standsWithout_4 : decode cX5_standsWithout 4 = .ok (.aload_n 0, 1) := by decide +kernel
theorem dX5_standsWithout_5 : decode cX5_standsWithout 5 = .ok (.iload_n 2, 1) := by decide +kernel
theorem dX5_standsWithout_6 : decode cX5_standsWithout 6 = .ok (.putfield 90, 3) := by decide +kernel
theorem dX5_standsWithout_9 : decode cX5_standsWithout 9 = .ok (.aload_n 0, 1) := by decide +kernel
theorem dX5_standsWithout_10 : decode cX5_standsWithout 10 = .ok (.iload_n 3, 1) := by decide +kernel
theorem dX5_standsWithout_11 : decode cX5_standsWithout 11 = .ok (.invokevirtual 120, 3) := by decide +kernel
theorem dX5_standsWithout_14 : decode cX5_standsWithout 14 = .ok (.aload_n 0, 1) := by decide +kernel
theorem dX5_standsWithout_15 : decode cX5_standsWithout 15 = .ok (.iconst 0, 1) := by decide +kernel
theorem dX5_standsWithout_16 : decode cX5_standsWithout 16 = .ok (.putfield 90, 3) := by decide +kernel
theorem dX5_standsWithout_19 : decode cX5_standsWithout 19 = .ok (.aload_n 0, 1) := by decide +kernel
theorem dX5_standsWithout_20 : decode cX5_standsWithout 20 = .ok (.iload_n 1, 1) := by decide +kernel
theorem dX5_standsWithout_21 : decode cX5_standsWithout 21 = .ok (.invokevirtual 80, 3) := by decide +kernel
theorem dX5_standsWithout_24 : decode cX5_standsWithout 24 = .ok (.istore 4, 2) := by decide +kernel
theorem dX5_standsWithout_26 : decode cX5_standsWithout 26 = .ok (.aload_n 0, 1) := by decide +kernel
theorem dX5_standsWithout_27 : decode cX5_standsWithout 27 = .ok (.invokevirtual 143, 3) := by decide +kernel
theorem dX5_standsWithout_30 : decode cX5_standsWithout 30 = .ok (.iload 4, 2) := by decide +kernel
theorem dX5_standsWithout_32 : decode cX5_standsWithout 32 = .ok (.ireturn, 1) := by decide +kernel
def f5_standsWithout (xs : Nat → Int32) (xaside : Nat → Int32) (xgone : Int32) (xover : Nat → Int32) (v1 : Int32) (v2 : Int32) (v3 : Int32) : Option (Int32 × (Nat → Int32) × (Nat → Int32) × Int32 × (Nat → Int32)) :=
  ob1 (f5_setsAside xs xaside) (fun xaside_1 =>
  ob2 (f5_goes xs v2 xover v3) (fun xs_3 xover_4 =>
  ob1 (f5_standsNow xs_3 v1) (fun r6 =>
  ob1 (f5_laysBack xs_3 xaside_1) (fun xs_8 =>
  gd (b01 r6) (
  some (r6, xs_8, xaside_1, (0 : Int32), xover_4))))))
set_option maxHeartbeats 4000000 in
set_option maxRecDepth 100000 in
theorem b5_standsWithout_0 {X : XP} {p : Program} {l : Launch} {e : Env} {s : State} {m : MethodId} {args : Array Value} {below : List Frame} {meth : Method} {c : Code} {D : va_G} {cI cC : ClassId} {ad : Nat → Nat} {A : Nat → Prop} {xkept : Nat → Int32} {xisK : Int32} {xfound : Nat → Int32} {xtape : Nat → Int32} {xtaped : Int32} {xtok : Int32} {xbeg : Int32} {xend : Int32} {xval : Int64} {xwid : Nat → Int32} {xsiz : Nat → Int32} {xcel : Nat → Int32} {xcar : Nat → Int32} {r0 : Int32} {o_xs : Nat → Int32} {o_xaside : Nat → Int32} {o_xgone : Int32} {o_xover : Nat → Int32} (C0 : CX X p s m args meth c cX5_standsWithout 5 (some .boolean) RX5 A) : ∀ {xs : Nat → Int32} {xaside : Nat → Int32} {xgone : Int32} {xover : Nat → Int32} {v1 : Int32} {v2 : Int32} {v3 : Int32} {H : Heap} {locs : List Loc} {ls : Array Slot}, GX X D (tyM cI cC) A s (wM cI cC ad xs xkept xaside xisK xfound xgone xover xtape xtaped xtok xbeg xend xval xwid xsiz xcel xcar) H locs → lv_has ls 5 [(0, .ref (ad 0)), (1, .int v1), (2, .int v2), (3, .int v3)] → f5_standsWithout xs xaside xgone xover v1 v2 v3 = some (r0, o_xs, o_xaside, o_xgone, o_xover) → W p l e ({ frames := 7, cells := 0, slots := 0, locals := 165 }) s m args below meth c H locs 0 0 (MQ below (QcI D (tyM cI cC) (wM cI cC ad o_xs xkept o_xaside xisK xfound o_xgone o_xover xtape xtaped xtok xbeg xend xval xwid xsiz xcel xcar) A r0) args s 0 0 A) (F0 m 0 ls []) := by
  have hx := C0.1
  have hb := C0.2.1
  have hown := C0.2.2.2.2.1
  have hts := C0.2.2.2.2.2.1
  have hX := C0.2.2.2.2.2.2.2.2
  intro xs xaside xgone xover v1 v2 v3 H locs ls G hl hf
  unfold f5_standsWithout at hf
  refine lv_aload_n hx hb dX5_standsWithout_0 rfl (lv_at hl 0 rfl) ?_
  obtain ⟨xaside_1, hc2, hf⟩ := ob1_s hf
  refine go_v C0 G (runV_of (n := 0) (q0 := 0) (As := []) (rest := []) C0 G (c5_setsAside hX hc2) q919 q54 q916 q918 q30 o5_setsAside ⟨rfl, rfl⟩ ⟨Nat.le_of_ble_eq_true rfl, Nat.le_of_ble_eq_true rfl⟩ rfl rfl rfl hl.1 rfl (Nat.le_of_ble_eq_true rfl) dX5_standsWithout_1) (fun H locs G => ?_)
  refine lv_aload_n hx hb dX5_standsWithout_4 rfl (lv_at hl 0 rfl) ?_
  refine lv_iload_n hx hb dX5_standsWithout_5 rfl (lv_at hl 2 rfl) ?_
  refine s_put (C := RX5) (T := TX5) (w' := (wM cI cC ad xs xkept xaside_1 xisK xfound v2 xover xtape xtaped xtok xbeg xend xval xwid xsiz xcel xcar)) C0 G i_X5 tyX5 tyX5_ok nmX5 0 5 rfl rfl (by decide) q718 rfl (ty := .int) (by decide +kernel) rfl rfl (Nat.le_of_ble_eq_true rfl) rfl dX5_standsWithout_6 (fun H locs G => ?_)
  refine lv_aload_n hx hb dX5_standsWithout_9 rfl (lv_at hl 0 rfl) ?_
  refine lv_iload_n hx hb dX5_standsWithout_10 rfl (lv_at hl 3 rfl) ?_
  obtain ⟨xs_3, xover_4, hc5, hf⟩ := ob2_s hf
  refine go_v C0 G (runV_of (n := 1) (q0 := 0) (As := [.int v3]) (rest := []) C0 G (c5_goes hX hc5) q871 q54 q868 q870 q20 o5_goes ⟨rfl, rfl⟩ ⟨Nat.le_of_ble_eq_true rfl, Nat.le_of_ble_eq_true rfl⟩ rfl rfl rfl hl.1 rfl (Nat.le_of_ble_eq_true rfl) dX5_standsWithout_11) (fun H locs G => ?_)
  refine lv_aload_n hx hb dX5_standsWithout_14 rfl (lv_at hl 0 rfl) ?_
  refine lv_iconst (v := (0 : Int32)) hx hb dX5_standsWithout_15 (by decide) ?_
  refine s_put (C := RX5) (T := TX5) (w' := (wM cI cC ad xs_3 xkept xaside_1 xisK xfound (0 : Int32) xover_4 xtape xtaped xtok xbeg xend xval xwid xsiz xcel xcar)) C0 G i_X5 tyX5 tyX5_ok nmX5 0 5 rfl rfl (by decide) q718 rfl (ty := .int) (by decide +kernel) rfl rfl (Nat.le_of_ble_eq_true rfl) rfl dX5_standsWithout_16 (fun H locs G => ?_)
  refine lv_aload_n hx hb dX5_standsWithout_19 rfl (lv_at hl 0 rfl) ?_
  refine lv_iload_n hx hb dX5_standsWithout_20 rfl (lv_at hl 1 rfl) ?_
  obtain ⟨r6, hc7, hf⟩ := ob1_s hf
  refine go_i C0 G (runV_of (n := 1) (q0 := 0) (As := [.int v1]) (rest := []) C0 G (c5_standsNow hX hc7) q840 q54 q837 q839 q17 o5_standsNow ⟨rfl, rfl⟩ ⟨Nat.le_of_ble_eq_true rfl, Nat.le_of_ble_eq_true rfl⟩ rfl rfl rfl hl.1 rfl (Nat.le_of_ble_eq_true rfl) dX5_standsWithout_21) (fun H locs G => ?_)
  refine lv_istore (lv' := [(4, .int r6), (0, .ref (ad 0)), (1, .int v1), (2, .int v2), (3, .int v3)]) hx hb dX5_standsWithout_24 hl (by decide) rfl (fun ls hl => ?_)
  refine lv_aload_n hx hb dX5_standsWithout_26 rfl (lv_at hl 1 rfl) ?_
  obtain ⟨xs_8, hc9, hf⟩ := ob1_s hf
  refine go_v C0 G (runV_of (n := 0) (q0 := 0) (As := []) (rest := []) C0 G (c5_laysBack hX hc9) q923 q54 q920 q922 q31 o5_laysBack ⟨rfl, rfl⟩ ⟨Nat.le_of_ble_eq_true rfl, Nat.le_of_ble_eq_true rfl⟩ rfl rfl rfl hl.1 rfl (Nat.le_of_ble_eq_true rfl) dX5_standsWithout_27) (fun H locs G => ?_)
  refine lv_iload hx hb dX5_standsWithout_30 (lv_at hl 0 rfl) ?_
  obtain ⟨hz10, hf⟩ := gd_s hf
  obtain ⟨rfl, rfl, rfl, rfl, rfl⟩ := inj5 hf
  exact ret_z C0 G (b01_n hz10) dX5_standsWithout_32
theorem o5_standsWithout : okName yX5_standsWithout 3 := ⟨by decide, by decide, by decide +kernel⟩
set_option maxHeartbeats 4000000 in
set_option maxRecDepth 100000 in
theorem c5_standsWithout {X : XP} (hX : XT X) {l : Launch} {D : va_G} {cI cC : ClassId} {ad : Nat → Nat} {sz : Nat} {xs : Nat → Int32} {xkept : Nat → Int32} {xaside : Nat → Int32} {xisK : Int32} {xfound : Nat → Int32} {xgone : Int32} {xover : Nat → Int32} {xtape : Nat → Int32} {xtaped : Int32} {xtok : Int32} {xbeg : Int32} {xend : Int32} {xval : Int64} {xwid : Nat → Int32} {xsiz : Nat → Int32} {xcel : Nat → Int32} {xcar : Nat → Int32} {v1 : Int32} {v2 : Int32} {v3 : Int32} {r0 : Int32} {o_xs : Nat → Int32} {o_xaside : Nat → Int32} {o_xgone : Int32} {o_xover : Nat → Int32} (hf : f5_standsWithout xs xaside xgone xover v1 v2 v3 = some (r0, o_xs, o_xaside, o_xgone, o_xover)) : Met l yX5_standsWithout (wU yX5_standsWithout cX5_standsWithout 5 (some .boolean)) ({ frames := 7, cells := 0, slots := 0, locals := 165 }) (va_Pc [.ref (ad 0), .int v1, .int v2, .int v3] (PreW X D (tyM cI cC) (wM cI cC ad xs xkept xaside xisK xfound xgone xover xtape xtaped xtok xbeg xend xval xwid xsiz xcel xcar) sz)) (QcI D (tyM cI cC) (wM cI cC ad o_xs xkept o_xaside xisK xfound o_xgone o_xover xtape xtaped xtok xbeg xend xval xwid xsiz xcel xcar) (va_A (wM cI cC ad xs xkept xaside xisK xfound xgone xover xtape xtaped xtok xbeg xend xval xwid xsiz xcel xcar) sz) r0) 0 0 (va_A (wM cI cC ad xs xkept xaside xisK xfound xgone xover xtape xtaped xtok xbeg xend xval xwid xsiz xcel xcar) sz) := by
  refine startW hX (own := RX5) (by decide) rfl (Nat.le_of_ble_eq_true rfl) (fun p e s m args below meth c ls C0 G hl => ?_)
  exact b5_standsWithout_0 C0 G hl hf
/-! 5_away -/
theorem dX5_away_0 : decode cX5_away 0 = .ok (.aload_n 0, 1) := by decide +kernel
theorem dX5_away_1 : decode cX5_away 1 = .ok (.iload_n 1, 1) := by decide +kernel
theorem dX5_away_2 : decode cX5_away 2 = .ok (.invokevirtual 111, 3) := by decide +kernel
theorem dX5_away_5 : decode cX5_away 5 = .ok (.ifCond .eq 13, 3) := by decide +kernel
theorem dX5_away_8 : decode cX5_away 8 = .ok (.iload_n 2, 1) := by decide +kernel
theorem dX5_away_9 : decode cX5_away 9 = .ok (.iconst 0, 1) := by decide +kernel
theorem dX5_away_10 : decode cX5_away 10 = .ok (.bipush 12, 2) := by decide +kernel
theorem dX5_away_12 : decode cX5_away 12 = .ok (.invokestatic 51, 3) := by decide +kernel
theorem dX5_away_15 : decode cX5_away 15 = .ok (.ifCond .ne 9, 3) := by decide +kernel
theorem dX5_away_18 : decode cX5_away 18 = .ok (.aload_n 0, 1) := by decide +kernel
theorem dX5_away_19 : decode cX5_away 19 = .ok (.iconst 0, 1) := by decide +kernel
theorem dX5_away_20 : decode cX5_away 20 = .ok (.invokevirtual 105, 3) := by decide +kernel
theorem dX5_away_23 : decode cX5_away 23 = .ok (.ireturn, 1) := by decide +kernel
theorem dX5_away_24 : decode cX5_away 24 = .ok (.iconst (-1), 1) := by decide +kernel
theorem dX5_away_25 : decode cX5_away 25 = .ok (.istore_n 3, 1) := by decide +kernel
theorem dX5_away_26 : decode cX5_away 26 = .ok (.iconst 0, 1) := by decide +kernel
theorem dX5_away_27 : decode cX5_away 27 = .ok (.istore 4, 2) := by decide +kernel
theorem dX5_away_29 : decode cX5_away 29 = .ok (.iload 4, 2) := by decide +kernel
theorem dX5_away_31 : decode cX5_away 31 = .ok (.iconst 1, 1) := by decide +kernel
theorem dX5_away_32 : decode cX5_away 32 = .ok (.aload_n 0, 1) := by decide +kernel
theorem dX5_away_33 : decode cX5_away 33 = .ok (.getfield 9, 3) := by decide +kernel
theorem dX5_away_36 : decode cX5_away 36 = .ok (.iconst 1, 1) := by decide +kernel
theorem dX5_away_37 : decode cX5_away 37 = .ok (.iaload, 1) := by decide +kernel
theorem dX5_away_38 : decode cX5_away 38 = .ok (.ishl, 1) := by decide +kernel
theorem dX5_away_39 : decode cX5_away 39 = .ok (.if_icmp .ge 55, 3) := by decide +kernel
theorem dX5_away_42 : decode cX5_away 42 = .ok (.iload_n 3, 1) := by decide +kernel
theorem dX5_away_43 : decode cX5_away 43 = .ok (.ifCond .lt 15, 3) := by decide +kernel
theorem dX5_away_46 : decode cX5_away 46 = .ok (.iload 4, 2) := by decide +kernel
theorem dX5_away_48 : decode cX5_away 48 = .ok (.invokestatic 164, 3) := by decide +kernel
theorem dX5_away_51 : decode cX5_away 51 = .ok (.iload_n 3, 1) := by decide +kernel
theorem dX5_away_52 : decode cX5_away 52 = .ok (.invokestatic 164, 3) := by decide +kernel
theorem dX5_away_55 : decode cX5_away 55 = .ok (.if_icmp .ge 7, 3) := by decide +kernel
theorem dX5_away_58 : decode cX5_away 58 = .ok (.iconst 1, 1) := by decide +kernel
theorem dX5_away_59 : decode cX5_away 59 = .ok (.goto 4, 3) := by decide +kernel
theorem dX5_away_62 : decode cX5_away 62 = .ok (.iconst 0, 1) := by decide +kernel
theorem dX5_away_63 : decode cX5_away 63 = .ok (.istore 5, 2) := by decide +kernel
theorem dX5_away_65 : decode cX5_away 65 = .ok (.iload 5, 2) := by decide +kernel
theorem dX5_away_67 : decode cX5_away 67 = .ok (.ifCond .eq 19, 3) := by decide +kernel
theorem dX5_away_70 : decode cX5_away 70 = .ok (.aload_n 0, 1) := by decide +kernel
theorem dX5_away_71 : decode cX5_away 71 = .ok (.iload_n 1, 1) := by decide +kernel
theorem dX5_away_72 : decode cX5_away 72 = .ok (.iload 4, 2) := by decide +kernel
theorem dX5_away_74 : decode cX5_away 74 = .ok (.iload_n 2, 1) := by decide +kernel
theorem dX5_away_75 : decode cX5_away 75 = .ok (.invokevirtual 167, 3) := by decide +kernel
theorem dX5_away_78 : decode cX5_away 78 = .ok (.ifCond .eq 8, 3) := by decide +kernel
theorem dX5_away_81 : decode cX5_away 81 = .ok (.iload 4, 2) := by decide +kernel
theorem dX5_away_83 : decode cX5_away 83 = .ok (.goto 4, 3) := by decide +kernel
theorem dX5_away_86 : decode cX5_away 86 = .ok (.iload_n 3, 1) := by decide +kernel
theorem dX5_away_87 : decode cX5_away 87 = .ok (.istore_n 3, 1) := by decide +kernel
theorem dX5_away_88 : decode cX5_away 88 = .ok (.iinc 4 1, 3) := by decide +kernel
theorem dX5_away_91 : decode cX5_away 91 = .ok (.goto (-62), 3) := by decide +kernel
theorem dX5_away_94 : decode cX5_away 94 = .ok (.iload_n 3, 1) := by decide +kernel
theorem dX5_away_95 : decode cX5_away 95 = .ok (.ifCond .ge 11, 3) := by decide +kernel
theorem dX5_away_98 : decode cX5_away 98 = .ok (.aload_n 0, 1) := by decide +kernel
theorem dX5_away_99 : decode cX5_away 99 = .ok (.iconst 3, 1) := by decide +kernel
theorem dX5_away_100 : decode cX5_away 100 = .ok (.invokevirtual 105, 3) := by decide +kernel
theorem dX5_away_103 : decode cX5_away 103 = .ok (.goto 4, 3) := by decide +kernel
theorem dX5_away_106 : decode cX5_away 106 = .ok (.iload_n 3, 1) := by decide +kernel
theorem dX5_away_107 : decode cX5_away 107 = .ok (.ireturn, 1) := by decide +kernel
def j5_away_18  (xs : Nat → Int32) (xaside : Nat → Int32) (xfound : Nat → Int32) (xgone : Int32) (xover : Nat → Int32)  : Option (Int32 × (Nat → Int32) × (Nat → Int32) × (Nat → Int32) × Int32 × (Nat → Int32)) :=
  ob2 (f5_no xfound (0 : Int32)) (fun r3 xfound_4 =>
  some (r3, xs, xaside, xfound_4, xgone, xover))
def j5_away_87 (k29 : (Nat → Int32) → (Nat → Int32) → (Nat → Int32) → Int32 → (Nat → Int32) → Int32 → Int32 → Int32 → Int32 → Option (Int32 × (Nat → Int32) × (Nat → Int32) × (Nat → Int32) × Int32 × (Nat → Int32))) (xs : Nat → Int32) (xaside : Nat → Int32) (xfound : Nat → Int32) (xgone : Int32) (xover : Nat → Int32) (v1 : Int32) (v2 : Int32) (v4 : Int32) (t0 : Int32) : Option (Int32 × (Nat → Int32) × (Nat → Int32) × (Nat → Int32) × Int32 × (Nat → Int32)) :=
  k29 xs xaside xfound xgone xover v1 v2 t0 (v4 + (1 : Int32))
def j5_away_86 (k29 : (Nat → Int32) → (Nat → Int32) → (Nat → Int32) → Int32 → (Nat → Int32) → Int32 → Int32 → Int32 → Int32 → Option (Int32 × (Nat → Int32) × (Nat → Int32) × (Nat → Int32) × Int32 × (Nat → Int32))) (xs : Nat → Int32) (xaside : Nat → Int32) (xfound : Nat → Int32) (xgone : Int32) (xover : Nat → Int32) (v1 : Int32) (v2 : Int32) (v3 : Int32) (v4 : Int32) : Option (Int32 × (Nat → Int32) × (Nat → Int32) × (Nat → Int32) × Int32 × (Nat → Int32)) :=
  j5_away_87 k29 xs xaside xfound xgone xover v1 v2 v4 v3
def j5_away_63 (k29 : (Nat → Int32) → (Nat → Int32) → (Nat → Int32) → Int32 → (Nat → Int32) → Int32 → Int32 → Int32 → Int32 → Option (Int32 × (Nat → Int32) × (Nat → Int32) × (Nat → Int32) × Int32 × (Nat → Int32))) (xs : Nat → Int32) (xaside : Nat → Int32) (xfound : Nat → Int32) (xgone : Int32) (xover : Nat → Int32) (v1 : Int32) (v2 : Int32) (v3 : Int32) (v4 : Int32) (t0 : Int32) : Option (Int32 × (Nat → Int32) × (Nat → Int32) × (Nat → Int32) × Int32 × (Nat → Int32)) :=
  if t0 = (0 : Int32) then (
    j5_away_86 k29 xs xaside xfound xgone xover v1 v2 v3 v4)
  else (
    ob5 (f5_standsWithout xs xaside xgone xover v1 v4 v2) (fun r18 xs_19 xaside_20 xgone_21 xover_22 =>
    if r18 = (0 : Int32) then (
      j5_away_86 k29 xs_19 xaside_20 xfound xgone_21 xover_22 v1 v2 v3 v4)
    else (
      j5_away_87 k29 xs_19 xaside_20 xfound xgone_21 xover_22 v1 v2 v4 v4)))
def j5_away_58 (k29 : (Nat → Int32) → (Nat → Int32) → (Nat → Int32) → Int32 → (Nat → Int32) → Int32 → Int32 → Int32 → Int32 → Option (Int32 × (Nat → Int32) × (Nat → Int32) × (Nat → Int32) × Int32 × (Nat → Int32))) (xs : Nat → Int32) (xaside : Nat → Int32) (xfound : Nat → Int32) (xgone : Int32) (xover : Nat → Int32) (v1 : Int32) (v2 : Int32) (v3 : Int32) (v4 : Int32) : Option (Int32 × (Nat → Int32) × (Nat → Int32) × (Nat → Int32) × Int32 × (Nat → Int32)) :=
  j5_away_63 k29 xs xaside xfound xgone xover v1 v2 v3 v4 (1 : Int32)
def l5_away_29  : Nat → (Nat → Int32) → (Nat → Int32) → (Nat → Int32) → Int32 → (Nat → Int32) → Int32 → Int32 → Int32 → Int32 → Option (Int32 × (Nat → Int32) × (Nat → Int32) × (Nat → Int32) × Int32 × (Nat → Int32))
  | 0, _, _, _, _, _, _, _, _, _ => none
  | n + 1, xs, xaside, xfound, xgone, xover, v1, v2, v3, v4 =>
    if ((1 : Int32) <<< ((xs 1) &&& 31)) ≤ v4 then (
      if (0 : Int32) ≤ v3 then (
        some (v3, xs, xaside, xfound, xgone, xover))
      else (
        ob2 (f5_no xfound (3 : Int32)) (fun r8 xfound_9 =>
        some (r8, xs, xaside, xfound_9, xgone, xover))))
    else (
      if v3 < (0 : Int32) then (
        j5_away_58 (l5_away_29 n) xs xaside xfound xgone xover v1 v2 v3 v4)
      else (
        ob1 (f5_bits v4) (fun r12 =>
        ob1 (f5_bits v3) (fun r14 =>
        if r14 ≤ r12 then (
          j5_away_63 (l5_away_29 n) xs xaside xfound xgone xover v1 v2 v3 v4 (0 : Int32))
        else (
          j5_away_58 (l5_away_29 n) xs xaside xfound xgone xover v1 v2 v3 v4)))))
def f5_away (xs : Nat → Int32) (xaside : Nat → Int32) (xfound : Nat → Int32) (xgone : Int32) (xover : Nat → Int32) (v1 : Int32) (v2 : Int32) : Option (Int32 × (Nat → Int32) × (Nat → Int32) × (Nat → Int32) × Int32 × (Nat → Int32)) :=
  if (f5_isVisitor xs v1) = (0 : Int32) then (
    j5_away_18 xs xaside xfound xgone xover)
  else (
    if (f5_in1 v2 (0 : Int32) (12 : Int32)) = (0 : Int32) then (
      j5_away_18 xs xaside xfound xgone xover)
    else (
      l5_away_29 1000 xs xaside xfound xgone xover v1 v2 (-1 : Int32) (0 : Int32)))
set_option maxHeartbeats 4000000 in
set_option maxRecDepth 100000 in
theorem b5_away_18 {X : XP} {p : Program} {l : Launch} {e : Env} {s : State} {m : MethodId} {args : Array Value} {below : List Frame} {meth : Method} {c : Code} {D : va_G} {cI cC : ClassId} {ad : Nat → Nat} {A : Nat → Prop} {xkept : Nat → Int32} {xisK : Int32} {xtape : Nat → Int32} {xtaped : Int32} {xtok : Int32} {xbeg : Int32} {xend : Int32} {xval : Int64} {xwid : Nat → Int32} {xsiz : Nat → Int32} {xcel : Nat → Int32} {xcar : Nat → Int32} {r0 : Int32} {o_xs : Nat → Int32} {o_xaside : Nat → Int32} {o_xfound : Nat → Int32} {o_xgone : Int32} {o_xover : Nat → Int32} (C0 : CX X p s m args meth c cX5_away 6 (some .int) RX5 A) : ∀ {xs : Nat → Int32} {xaside : Nat → Int32} {xfound : Nat → Int32} {xgone : Int32} {xover : Nat → Int32} {H : Heap} {locs : List Loc} {ls : Array Slot}, GX X D (tyM cI cC) A s (wM cI cC ad xs xkept xaside xisK xfound xgone xover xtape xtaped xtok xbeg xend xval xwid xsiz xcel xcar) H locs → lv_has ls 6 [(0, .ref (ad 0))] → j5_away_18  xs xaside xfound xgone xover = some (r0, o_xs, o_xaside, o_xfound, o_xgone, o_xover) → W p l e ({ frames := 8, cells := 0, slots := 0, locals := 189 }) s m args below meth c H locs 0 0 (MQ below (QcI D (tyM cI cC) (wM cI cC ad o_xs xkept o_xaside xisK o_xfound o_xgone o_xover xtape xtaped xtok xbeg xend xval xwid xsiz xcel xcar) A r0) args s 0 0 A) (F0 m 18 ls []) := by
  have hx := C0.1
  have hb := C0.2.1
  have hown := C0.2.2.2.2.1
  have hts := C0.2.2.2.2.2.1
  have hX := C0.2.2.2.2.2.2.2.2
  intro xs xaside xfound xgone xover H locs ls G hl hf
  unfold j5_away_18 at hf
  refine lv_aload_n hx hb dX5_away_18 rfl (lv_at hl 0 rfl) ?_
  refine lv_iconst (v := (0 : Int32)) hx hb dX5_away_19 (by decide) ?_
  obtain ⟨r3, xfound_4, hc5, hf⟩ := ob2_s hf
  refine go_i C0 G (runV_of (n := 1) (q0 := 0) (As := [.int (0 : Int32)]) (rest := []) C0 G (c5_no hX hc5) q788 q54 q785 q787 q9 o5_no ⟨rfl, rfl⟩ ⟨Nat.le_of_ble_eq_true rfl, Nat.le_of_ble_eq_true rfl⟩ rfl rfl rfl hl.1 rfl (Nat.le_of_ble_eq_true rfl) dX5_away_20) (fun H locs G => ?_)
  obtain ⟨rfl, rfl, rfl, rfl, rfl, rfl⟩ := inj6 hf
  exact ret_i C0 G dX5_away_23
set_option maxHeartbeats 4000000 in
set_option maxRecDepth 100000 in
theorem b5_away_87 {X : XP} {p : Program} {l : Launch} {e : Env} {s : State} {m : MethodId} {args : Array Value} {below : List Frame} {meth : Method} {c : Code} {D : va_G} {cI cC : ClassId} {ad : Nat → Nat} {A : Nat → Prop} {xkept : Nat → Int32} {xisK : Int32} {xtape : Nat → Int32} {xtaped : Int32} {xtok : Int32} {xbeg : Int32} {xend : Int32} {xval : Int64} {xwid : Nat → Int32} {xsiz : Nat → Int32} {xcel : Nat → Int32} {xcar : Nat → Int32} {r0 : Int32} {o_xs : Nat → Int32} {o_xaside : Nat → Int32} {o_xfound : Nat → Int32} {o_xgone : Int32} {o_xover : Nat → Int32} (C0 : CX X p s m args meth c cX5_away 6 (some .int) RX5 A) {k29 : (Nat → Int32) → (Nat → Int32) → (Nat → Int32) → Int32 → (Nat → Int32) → Int32 → Int32 → Int32 → Int32 → Option (Int32 × (Nat → Int32) × (Nat → Int32) × (Nat → Int32) × Int32 × (Nat → Int32))} (hk29 : ∀ {xs : Nat → Int32} {xaside : Nat → Int32} {xfound : Nat → Int32} {xgone : Int32} {xover : Nat → Int32} {v1 : Int32} {v2 : Int32} {v3 : Int32} {v4 : Int32} {H : Heap} {locs : List Loc} {ls : Array Slot}, GX X D (tyM cI cC) A s (wM cI cC ad xs xkept xaside xisK xfound xgone xover xtape xtaped xtok xbeg xend xval xwid xsiz xcel xcar) H locs → lv_has ls 6 [(0, .ref (ad 0)), (1, .int v1), (2, .int v2), (3, .int v3), (4, .int v4)] → k29 xs xaside xfound xgone xover v1 v2 v3 v4 = some (r0, o_xs, o_xaside, o_xfound, o_xgone, o_xover) → W p l e ({ frames := 8, cells := 0, slots := 0, locals := 189 }) s m args below meth c H locs 0 0 (MQ below (QcI D (tyM cI cC) (wM cI cC ad o_xs xkept o_xaside xisK o_xfound o_xgone o_xover xtape xtaped xtok xbeg xend xval xwid xsiz xcel xcar) A r0) args s 0 0 A) (F0 m 29 ls [])) : ∀ {xs : Nat → Int32} {xaside : Nat → Int32} {xfound : Nat → Int32} {xgone : Int32} {xover : Nat → Int32} {v1 : Int32} {v2 : Int32} {v4 : Int32} {t0 : Int32} {H : Heap} {locs : List Loc} {ls : Array Slot}, GX X D (tyM cI cC) A s (wM cI cC ad xs xkept xaside xisK xfound xgone xover xtape xtaped xtok xbeg xend xval xwid xsiz xcel xcar) H locs → lv_has ls 6 [(0, .ref (ad 0)), (1, .int v1), (2, .int v2), (4, .int v4)] → j5_away_87 k29 xs xaside xfound xgone xover v1 v2 v4 t0 = some (r0, o_xs, o_xaside, o_xfound, o_xgone, o_xover) → W p l e ({ frames := 8, cells := 0, slots := 0, locals := 189 }) s m args below meth c H locs 0 0 (MQ below (QcI D (tyM cI cC) (wM cI cC ad o_xs xkept o_xaside xisK o_xfound o_xgone o_xover xtape xtaped xtok xbeg xend xval xwid xsiz xcel xcar) A r0) args s 0 0 A) (F0 m 87 ls [.int t0]) := by
  have hx := C0.1
  have hb := C0.2.1
  have hown := C0.2.2.2.2.1
  have hts := C0.2.2.2.2.2.1
  have hX := C0.2.2.2.2.2.2.2.2
  intro xs xaside xfound xgone xover v1 v2 v4 t0 H locs ls G hl hf
  unfold j5_away_87 at hf
  refine lv_istore_n (lv' := [(3, .int t0), (0, .ref (ad 0)), (1, .int v1), (2, .int v2), (4, .int v4)]) hx hb dX5_away_87 rfl hl (by decide) rfl (fun ls hl => ?_)
  refine lv_iinc (v := (v4 + (1 : Int32))) (lv' := [(4, .int (v4 + (1 : Int32))), (3, .int t0), (0, .ref (ad 0)), (1, .int v1), (2, .int v2)]) hx hb dX5_away_88 hl (k := 4) rfl rfl (by decide) rfl (fun ls hl => ?_)
  refine lv_goto (tgt := 29) hx hb dX5_away_91 (by decide) ?_
  exact hk29 G (lv_sub hl [2, 3, 4, 1, 0] rfl) hf
set_option maxHeartbeats 4000000 in
set_option maxRecDepth 100000 in
theorem b5_away_86 {X : XP} {p : Program} {l : Launch} {e : Env} {s : State} {m : MethodId} {args : Array Value} {below : List Frame} {meth : Method} {c : Code} {D : va_G} {cI cC : ClassId} {ad : Nat → Nat} {A : Nat → Prop} {xkept : Nat → Int32} {xisK : Int32} {xtape : Nat → Int32} {xtaped : Int32} {xtok : Int32} {xbeg : Int32} {xend : Int32} {xval : Int64} {xwid : Nat → Int32} {xsiz : Nat → Int32} {xcel : Nat → Int32} {xcar : Nat → Int32} {r0 : Int32} {o_xs : Nat → Int32} {o_xaside : Nat → Int32} {o_xfound : Nat → Int32} {o_xgone : Int32} {o_xover : Nat → Int32} (C0 : CX X p s m args meth c cX5_away 6 (some .int) RX5 A) {k29 : (Nat → Int32) → (Nat → Int32) → (Nat → Int32) → Int32 → (Nat → Int32) → Int32 → Int32 → Int32 → Int32 → Option (Int32 × (Nat → Int32) × (Nat → Int32) × (Nat → Int32) × Int32 × (Nat → Int32))} (hk29 : ∀ {xs : Nat → Int32} {xaside : Nat → Int32} {xfound : Nat → Int32} {xgone : Int32} {xover : Nat → Int32} {v1 : Int32} {v2 : Int32} {v3 : Int32} {v4 : Int32} {H : Heap} {locs : List Loc} {ls : Array Slot}, GX X D (tyM cI cC) A s (wM cI cC ad xs xkept xaside xisK xfound xgone xover xtape xtaped xtok xbeg xend xval xwid xsiz xcel xcar) H locs → lv_has ls 6 [(0, .ref (ad 0)), (1, .int v1), (2, .int v2), (3, .int v3), (4, .int v4)] → k29 xs xaside xfound xgone xover v1 v2 v3 v4 = some (r0, o_xs, o_xaside, o_xfound, o_xgone, o_xover) → W p l e ({ frames := 8, cells := 0, slots := 0, locals := 189 }) s m args below meth c H locs 0 0 (MQ below (QcI D (tyM cI cC) (wM cI cC ad o_xs xkept o_xaside xisK o_xfound o_xgone o_xover xtape xtaped xtok xbeg xend xval xwid xsiz xcel xcar) A r0) args s 0 0 A) (F0 m 29 ls [])) : ∀ {xs : Nat → Int32} {xaside : Nat → Int32} {xfound : Nat → Int32} {xgone : Int32} {xover : Nat → Int32} {v1 : Int32} {v2 : Int32} {v3 : Int32} {v4 : Int32} {H : Heap} {locs : List Loc} {ls : Array Slot}, GX X D (tyM cI cC) A s (wM cI cC ad xs xkept xaside xisK xfound xgone xover xtape xtaped xtok xbeg xend xval xwid xsiz xcel xcar) H locs → lv_has ls 6 [(0, .ref (ad 0)), (1, .int v1), (2, .int v2), (3, .int v3), (4, .int v4)] → j5_away_86 k29 xs xaside xfound xgone xover v1 v2 v3 v4 = some (r0, o_xs, o_xaside, o_xfound, o_xgone, o_xover) → W p l e ({ frames := 8, cells := 0, slots := 0, locals := 189 }) s m args below meth c H locs 0 0 (MQ below (QcI D (tyM cI cC) (wM cI cC ad o_xs xkept o_xaside xisK o_xfound o_xgone o_xover xtape xtaped xtok xbeg xend xval xwid xsiz xcel xcar) A r0) args s 0 0 A) (F0 m 86 ls []) := by
  have hx := C0.1
  have hb := C0.2.1
  have hown := C0.2.2.2.2.1
  have hts := C0.2.2.2.2.2.1
  have hX := C0.2.2.2.2.2.2.2.2
  intro xs xaside xfound xgone xover v1 v2 v3 v4 H locs ls G hl hf
  unfold j5_away_86 at hf
  refine lv_iload_n hx hb dX5_away_86 rfl (lv_at hl 3 rfl) ?_
  exact b5_away_87 C0 hk29 G (lv_sub hl [0, 1, 2, 4] rfl) hf
set_option maxHeartbeats 4000000 in
set_option maxRecDepth 100000 in
theorem b5_away_63 {X : XP} {p : Program} {l : Launch} {e : Env} {s : State} {m : MethodId} {args : Array Value} {below : List Frame} {meth : Method} {c : Code} {D : va_G} {cI cC : ClassId} {ad : Nat → Nat} {A : Nat → Prop} {xkept : Nat → Int32} {xisK : Int32} {xtape : Nat → Int32} {xtaped : Int32} {xtok : Int32} {xbeg : Int32} {xend : Int32} {xval : Int64} {xwid : Nat → Int32} {xsiz : Nat → Int32} {xcel : Nat → Int32} {xcar : Nat → Int32} {r0 : Int32} {o_xs : Nat → Int32} {o_xaside : Nat → Int32} {o_xfound : Nat → Int32} {o_xgone : Int32} {o_xover : Nat → Int32} (C0 : CX X p s m args meth c cX5_away 6 (some .int) RX5 A) {k29 : (Nat → Int32) → (Nat → Int32) → (Nat → Int32) → Int32 → (Nat → Int32) → Int32 → Int32 → Int32 → Int32 → Option (Int32 × (Nat → Int32) × (Nat → Int32) × (Nat → Int32) × Int32 × (Nat → Int32))} (hk29 : ∀ {xs : Nat → Int32} {xaside : Nat → Int32} {xfound : Nat → Int32} {xgone : Int32} {xover : Nat → Int32} {v1 : Int32} {v2 : Int32} {v3 : Int32} {v4 : Int32} {H : Heap} {locs : List Loc} {ls : Array Slot}, GX X D (tyM cI cC) A s (wM cI cC ad xs xkept xaside xisK xfound xgone xover xtape xtaped xtok xbeg xend xval xwid xsiz xcel xcar) H locs → lv_has ls 6 [(0, .ref (ad 0)), (1, .int v1), (2, .int v2), (3, .int v3), (4, .int v4)] → k29 xs xaside xfound xgone xover v1 v2 v3 v4 = some (r0, o_xs, o_xaside, o_xfound, o_xgone, o_xover) → W p l e ({ frames := 8, cells := 0, slots := 0, locals := 189 }) s m args below meth c H locs 0 0 (MQ below (QcI D (tyM cI cC) (wM cI cC ad o_xs xkept o_xaside xisK o_xfound o_xgone o_xover xtape xtaped xtok xbeg xend xval xwid xsiz xcel xcar) A r0) args s 0 0 A) (F0 m 29 ls [])) : ∀ {xs : Nat → Int32} {xaside : Nat → Int32} {xfound : Nat → Int32} {xgone : Int32} {xover : Nat → Int32} {v1 : Int32} {v2 : Int32} {v3 : Int32} {v4 : Int32} {t0 : Int32} {H : Heap} {locs : List Loc} {ls : Array Slot}, GX X D (tyM cI cC) A s (wM cI cC ad xs xkept xaside xisK xfound xgone xover xtape xtaped xtok xbeg xend xval xwid xsiz xcel xcar) H locs → lv_has ls 6 [(0, .ref (ad 0)), (1, .int v1), (2, .int v2), (3, .int v3), (4, .int v4)] → j5_away_63 k29 xs xaside xfound xgone xover v1 v2 v3 v4 t0 = some (r0, o_xs, o_xaside, o_xfound, o_xgone, o_xover) → W p l e ({ frames := 8, cells := 0, slots := 0, locals := 189 }) s m args below meth c H locs 0 0 (MQ below (QcI D (tyM cI cC) (wM cI cC ad o_xs xkept o_xaside xisK o_xfound o_xgone o_xover xtape xtaped xtok xbeg xend xval xwid xsiz xcel xcar) A r0) args s 0 0 A) (F0 m 63 ls [.int t0]) := by
  have hx := C0.1
  have hb := C0.2.1
  have hown := C0.2.2.2.2.1
  have hts := C0.2.2.2.2.2.1
  have hX := C0.2.2.2.2.2.2.2.2
  intro xs xaside xfound xgone xover v1 v2 v3 v4 t0 H locs ls G hl hf
  unfold j5_away_63 at hf
  refine lv_istore (lv' := [(5, .int t0), (0, .ref (ad 0)), (1, .int v1), (2, .int v2), (3, .int v3), (4, .int v4)]) hx hb dX5_away_63 hl (by decide) rfl (fun ls hl => ?_)
  refine lv_iload hx hb dX5_away_65 (lv_at hl 0 rfl) ?_
  refine lv_if_eq (tgt := 86) hx hb dX5_away_67 (by decide) (fun hc17 => ?_) (fun hc17 => ?_)
  · have hf := itp hc17 hf
    exact b5_away_86 C0 hk29 G (lv_sub hl [1, 2, 3, 4, 5] rfl) hf
  · have hf := itn hc17 hf
    refine lv_aload_n hx hb dX5_away_70 rfl (lv_at hl 1 rfl) ?_
    refine lv_iload_n hx hb dX5_away_71 rfl (lv_at hl 2 rfl) ?_
    refine lv_iload hx hb dX5_away_72 (lv_at hl 5 rfl) ?_
    refine lv_iload_n hx hb dX5_away_74 rfl (lv_at hl 3 rfl) ?_
    obtain ⟨r18, xs_19, xaside_20, xgone_21, xover_22, hc23, hf⟩ := ob5_s hf
    refine go_i C0 G (runV_of (n := 3) (q0 := 0) (As := [.int v1, .int v4, .int v2]) (rest := []) C0 G (c5_standsWithout hX hc23) q993 q54 q990 q992 q36 o5_standsWithout ⟨rfl, rfl⟩ ⟨Nat.le_of_ble_eq_true rfl, Nat.le_of_ble_eq_true rfl⟩ rfl rfl rfl hl.1 rfl (Nat.le_of_ble_eq_true rfl) dX5_away_75) (fun H locs G => ?_)
    refine lv_if_eq (tgt := 86) hx hb dX5_away_78 (by decide) (fun hc24 => ?_) (fun hc24 => ?_)
    · have hf := itp hc24 hf
      exact b5_away_86 C0 hk29 G (lv_sub hl [1, 2, 3, 4, 5] rfl) hf
    · have hf := itn hc24 hf
      refine lv_iload hx hb dX5_away_81 (lv_at hl 5 rfl) ?_
      refine lv_goto (tgt := 87) hx hb dX5_away_83 (by decide) ?_
      exact b5_away_87 C0 hk29 G (lv_sub hl [1, 2, 3, 5] rfl) hf
set_option maxHeartbeats 4000000 in
set_option maxRecDepth 100000 in
theorem b5_away_58 {X : XP} {p : Program} {l : Launch} {e : Env} {s : State} {m : MethodId} {args : Array Value} {below : List Frame} {meth : Method} {c : Code} {D : va_G} {cI cC : ClassId} {ad : Nat → Nat} {A : Nat → Prop} {xkept : Nat → Int32} {xisK : Int32} {xtape : Nat → Int32} {xtaped : Int32} {xtok : Int32} {xbeg : Int32} {xend : Int32} {xval : Int64} {xwid : Nat → Int32} {xsiz : Nat → Int32} {xcel : Nat → Int32} {xcar : Nat → Int32} {r0 : Int32} {o_xs : Nat → Int32} {o_xaside : Nat → Int32} {o_xfound : Nat → Int32} {o_xgone : Int32} {o_xover : Nat → Int32} (C0 : CX X p s m args meth c cX5_away 6 (some .int) RX5 A) {k29 : (Nat → Int32) → (Nat → Int32) → (Nat → Int32) → Int32 → (Nat → Int32) → Int32 → Int32 → Int32 → Int32 → Option (Int32 × (Nat → Int32) × (Nat → Int32) × (Nat → Int32) × Int32 × (Nat → Int32))} (hk29 : ∀ {xs : Nat → Int32} {xaside : Nat → Int32} {xfound : Nat → Int32} {xgone : Int32} {xover : Nat → Int32} {v1 : Int32} {v2 : Int32} {v3 : Int32} {v4 : Int32} {H : Heap} {locs : List Loc} {ls : Array Slot}, GX X D (tyM cI cC) A s (wM cI cC ad xs xkept xaside xisK xfound xgone xover xtape xtaped xtok xbeg xend xval xwid xsiz xcel xcar) H locs → lv_has ls 6 [(0, .ref (ad 0)), (1, .int v1), (2, .int v2), (3, .int v3), (4, .int v4)] → k29 xs xaside xfound xgone xover v1 v2 v3 v4 = some (r0, o_xs, o_xaside, o_xfound, o_xgone, o_xover) → W p l e ({ frames := 8, cells := 0, slots := 0, locals := 189 }) s m args below meth c H locs 0 0 (MQ below (QcI D (tyM cI cC) (wM cI cC ad o_xs xkept o_xaside xisK o_xfound o_xgone o_xover xtape xtaped xtok xbeg xend xval xwid xsiz xcel xcar) A r0) args s 0 0 A) (F0 m 29 ls [])) : ∀ {xs : Nat → Int32} {xaside : Nat → Int32} {xfound : Nat → Int32} {xgone : Int32} {xover : Nat → Int32} {v1 : Int32} {v2 : Int32} {v3 : Int32} {v4 : Int32} {H : Heap} {locs : List Loc} {ls : Array Slot}, GX X D (tyM cI cC) A s (wM cI cC ad xs xkept xaside xisK xfound xgone xover xtape xtaped xtok xbeg xend xval xwid xsiz xcel xcar) H locs → lv_has ls 6 [(0, .ref (ad 0)), (1, .int v1), (2, .int v2), (3, .int v3), (4, .int v4)] → j5_away_58 k29 xs xaside xfound xgone xover v1 v2 v3 v4 = some (r0, o_xs, o_xaside, o_xfound, o_xgone, o_xover) → W p l e ({ frames := 8, cells := 0, slots := 0, locals := 189 }) s m args below meth c H locs 0 0 (MQ below (QcI D (tyM cI cC) (wM cI cC ad o_xs xkept o_xaside xisK o_xfound o_xgone o_xover xtape xtaped xtok xbeg xend xval xwid xsiz xcel xcar) A r0) args s 0 0 A) (F0 m 58 ls []) := by
  have hx := C0.1
  have hb := C0.2.1
  have hown := C0.2.2.2.2.1
  have hts := C0.2.2.2.2.2.1
  have hX := C0.2.2.2.2.2.2.2.2
  intro xs xaside xfound xgone xover v1 v2 v3 v4 H locs ls G hl hf
  unfold j5_away_58 at hf
  refine lv_iconst (v := (1 : Int32)) hx hb dX5_away_58 (by decide) ?_
  refine lv_goto (tgt := 63) hx hb dX5_away_59 (by decide) ?_
  exact b5_away_63 C0 hk29 G (lv_sub hl [0, 1, 2, 3, 4] rfl) hf
set_option maxHeartbeats 4000000 in
set_option maxRecDepth 100000 in
theorem b5_away_29 {X : XP} {p : Program} {l : Launch} {e : Env} {s : State} {m : MethodId} {args : Array Value} {below : List Frame} {meth : Method} {c : Code} {D : va_G} {cI cC : ClassId} {ad : Nat → Nat} {A : Nat → Prop} {xkept : Nat → Int32} {xisK : Int32} {xtape : Nat → Int32} {xtaped : Int32} {xtok : Int32} {xbeg : Int32} {xend : Int32} {xval : Int64} {xwid : Nat → Int32} {xsiz : Nat → Int32} {xcel : Nat → Int32} {xcar : Nat → Int32} {r0 : Int32} {o_xs : Nat → Int32} {o_xaside : Nat → Int32} {o_xfound : Nat → Int32} {o_xgone : Int32} {o_xover : Nat → Int32} (C0 : CX X p s m args meth c cX5_away 6 (some .int) RX5 A) : ∀ (n : Nat) {xs : Nat → Int32} {xaside : Nat → Int32} {xfound : Nat → Int32} {xgone : Int32} {xover : Nat → Int32} {v1 : Int32} {v2 : Int32} {v3 : Int32} {v4 : Int32} {H : Heap} {locs : List Loc} {ls : Array Slot}, GX X D (tyM cI cC) A s (wM cI cC ad xs xkept xaside xisK xfound xgone xover xtape xtaped xtok xbeg xend xval xwid xsiz xcel xcar) H locs → lv_has ls 6 [(0, .ref (ad 0)), (1, .int v1), (2, .int v2), (3, .int v3), (4, .int v4)] → l5_away_29  n xs xaside xfound xgone xover v1 v2 v3 v4 = some (r0, o_xs, o_xaside, o_xfound, o_xgone, o_xover) → W p l e ({ frames := 8, cells := 0, slots := 0, locals := 189 }) s m args below meth c H locs 0 0 (MQ below (QcI D (tyM cI cC) (wM cI cC ad o_xs xkept o_xaside xisK o_xfound o_xgone o_xover xtape xtaped xtok xbeg xend xval xwid xsiz xcel xcar) A r0) args s 0 0 A) (F0 m 29 ls []) := by
  have hx := C0.1
  have hb := C0.2.1
  have hown := C0.2.2.2.2.1
  have hts := C0.2.2.2.2.2.1
  have hX := C0.2.2.2.2.2.2.2.2
  intro n
  induction n with
  | zero =>
    intro _ _ _ _ _ _ _ _ _ _ _ _ G hl hf
    cases hf
  | succ n ih =>
    intro xs xaside xfound xgone xover v1 v2 v3 v4 H locs ls G hl hf
    rw [l5_away_29] at hf
    refine lv_iload hx hb dX5_away_29 (lv_at hl 4 rfl) ?_
    refine lv_iconst (v := (1 : Int32)) hx hb dX5_away_31 (by decide) ?_
    refine lv_aload_n hx hb dX5_away_32 rfl (lv_at hl 0 rfl) ?_
    refine s_get (C := RX5) (T := TX5) C0 G i_X5 0 0 rfl rfl (by decide) q713 rfl dX5_away_33 ?_
    refine lv_iconst (v := (1 : Int32)) hx hb dX5_away_36 (by decide) ?_
    refine s_iald (k := 1) C0 G 1 0 rfl rfl (vin (by decide)) (by decide) dX5_away_37 ?_
    refine lv_ishl hx hb dX5_away_38 ?_
    refine lv_icmp_ge (tgt := 94) hx hb dX5_away_39 (by decide) (fun hc6 => ?_) (fun hc6 => ?_)
    · have hf := itp hc6 hf
      refine lv_iload_n hx hb dX5_away_94 rfl (lv_at hl 3 rfl) ?_
      refine lv_if_ge (tgt := 106) hx hb dX5_away_95 (by decide) (fun hc7 => ?_) (fun hc7 => ?_)
      · have hf := itp hc7 hf
        refine lv_iload_n hx hb dX5_away_106 rfl (lv_at hl 3 rfl) ?_
        obtain ⟨rfl, rfl, rfl, rfl, rfl, rfl⟩ := inj6 hf
        exact ret_i C0 G dX5_away_107
      · have hf := itn hc7 hf
        refine lv_aload_n hx hb dX5_away_98 rfl (lv_at hl 0 rfl) ?_
        refine lv_iconst (v := (3 : Int32)) hx hb dX5_away_99 (by decide) ?_
        obtain ⟨r8, xfound_9, hc10, hf⟩ := ob2_s hf
        refine go_i C0 G (runV_of (n := 1) (q0 := 0) (As := [.int (3 : Int32)]) (rest := []) C0 G (c5_no hX hc10) q788 q54 q785 q787 q9 o5_no ⟨rfl, rfl⟩ ⟨Nat.le_of_ble_eq_true rfl, Nat.le_of_ble_eq_true rfl⟩ rfl rfl rfl hl.1 rfl (Nat.le_of_ble_eq_true rfl) dX5_away_100) (fun H locs G => ?_)
        refine lv_goto (tgt := 107) hx hb dX5_away_103 (by decide) ?_
        obtain ⟨rfl, rfl, rfl, rfl, rfl, rfl⟩ := inj6 hf
        exact ret_i C0 G dX5_away_107
    · have hf := itn hc6 hf
      refine lv_iload_n hx hb dX5_away_42 rfl (lv_at hl 3 rfl) ?_
      refine lv_if_lt (tgt := 58) hx hb dX5_away_43 (by decide) (fun hc11 => ?_) (fun hc11 => ?_)
      · have hf := itp hc11 hf
        exact b5_away_58 C0 ih G (lv_sub hl [0, 1, 2, 3, 4] rfl) hf
      · have hf := itn hc11 hf
        refine lv_iload hx hb dX5_away_46 (lv_at hl 4 rfl) ?_
        obtain ⟨r12, hc13, hf⟩ := ob1_s hf
        refine go_i C0 G (runS_of (n := 1) (As := [.int v4]) (rest := []) C0 G (c5_bits hX hc13) q989 q54 q987 q988 o5_bits ⟨rfl, rfl⟩ ⟨Nat.le_of_ble_eq_true rfl, Nat.le_of_ble_eq_true rfl⟩ rfl hl.1 rfl (Nat.le_of_ble_eq_true rfl) dX5_away_48) (fun H locs G => ?_)
        refine lv_iload_n hx hb dX5_away_51 rfl (lv_at hl 3 rfl) ?_
        obtain ⟨r14, hc15, hf⟩ := ob1_s hf
        refine go_i C0 G (runS_of (n := 1) (As := [.int v3]) (rest := [.int r12]) C0 G (c5_bits hX hc15) q989 q54 q987 q988 o5_bits ⟨rfl, rfl⟩ ⟨Nat.le_of_ble_eq_true rfl, Nat.le_of_ble_eq_true rfl⟩ rfl hl.1 rfl (Nat.le_of_ble_eq_true rfl) dX5_away_52) (fun H locs G => ?_)
        refine lv_icmp_ge (tgt := 62) hx hb dX5_away_55 (by decide) (fun hc16 => ?_) (fun hc16 => ?_)
        · have hf := itp hc16 hf
          refine lv_iconst (v := (0 : Int32)) hx hb dX5_away_62 (by decide) ?_
          exact b5_away_63 C0 ih G (lv_sub hl [0, 1, 2, 3, 4] rfl) hf
        · have hf := itn hc16 hf
          exact b5_away_58 C0 ih G (lv_sub hl [0, 1, 2, 3, 4] rfl) hf
set_option maxHeartbeats 4000000 in
set_option maxRecDepth 100000 in
theorem b5_away_0 {X : XP} {p : Program} {l : Launch} {e : Env} {s : State} {m : MethodId} {args : Array Value} {below : List Frame} {meth : Method} {c : Code} {D : va_G} {cI cC : ClassId} {ad : Nat → Nat} {A : Nat → Prop} {xkept : Nat → Int32} {xisK : Int32} {xtape : Nat → Int32} {xtaped : Int32} {xtok : Int32} {xbeg : Int32} {xend : Int32} {xval : Int64} {xwid : Nat → Int32} {xsiz : Nat → Int32} {xcel : Nat → Int32} {xcar : Nat → Int32} {r0 : Int32} {o_xs : Nat → Int32} {o_xaside : Nat → Int32} {o_xfound : Nat → Int32} {o_xgone : Int32} {o_xover : Nat → Int32} (C0 : CX X p s m args meth c cX5_away 6 (some .int) RX5 A) : ∀ {xs : Nat → Int32} {xaside : Nat → Int32} {xfound : Nat → Int32} {xgone : Int32} {xover : Nat → Int32} {v1 : Int32} {v2 : Int32} {H : Heap} {locs : List Loc} {ls : Array Slot}, GX X D (tyM cI cC) A s (wM cI cC ad xs xkept xaside xisK xfound xgone xover xtape xtaped xtok xbeg xend xval xwid xsiz xcel xcar) H locs → lv_has ls 6 [(0, .ref (ad 0)), (1, .int v1), (2, .int v2)] → f5_away xs xaside xfound xgone xover v1 v2 = some (r0, o_xs, o_xaside, o_xfound, o_xgone, o_xover) → W p l e ({ frames := 8, cells := 0, slots := 0, locals := 189 }) s m args below meth c H locs 0 0 (MQ below (QcI D (tyM cI cC) (wM cI cC ad o_xs xkept o_xaside xisK o_xfound o_xgone o_xover xtape xtaped xtok xbeg xend xval xwid xsiz xcel xcar) A r0) args s 0 0 A) (F0 m 0 ls []) := by
  have hx := C0.1
  have hb := C0.2.1
  have hown := C0.2.2.2.2.1
  have hts := C0.2.2.2.2.2.1
  have hX := C0.2.2.2.2.2.2.2.2
  intro xs xaside xfound xgone xover v1 v2 H locs ls G hl hf
  unfold f5_away at hf
  refine lv_aload_n hx hb dX5_away_0 rfl (lv_at hl 0 rfl) ?_
  refine lv_iload_n hx hb dX5_away_1 rfl (lv_at hl 1 rfl) ?_
  refine go_i C0 G (runV_of (n := 1) (q0 := 0) (As := [.int v1]) (rest := []) C0 G (c5_isVisitor hX rfl) q825 q54 q822 q824 q14 o5_isVisitor ⟨rfl, rfl⟩ ⟨Nat.le_of_ble_eq_true rfl, Nat.le_of_ble_eq_true rfl⟩ rfl rfl rfl hl.1 rfl (Nat.le_of_ble_eq_true rfl) dX5_away_2) (fun H locs G => ?_)
  refine lv_if_eq (tgt := 18) hx hb dX5_away_5 (by decide) (fun hc1 => ?_) (fun hc1 => ?_)
  · have hf := itp hc1 hf
    exact b5_away_18 C0  G (lv_sub hl [0] rfl) hf
  · have hf := itn hc1 hf
    refine lv_iload_n hx hb dX5_away_8 rfl (lv_at hl 2 rfl) ?_
    refine lv_iconst (v := (0 : Int32)) hx hb dX5_away_9 (by decide) ?_
    refine lv_bipush (v := (12 : Int32)) hx hb dX5_away_10 (by decide) ?_
    refine go_i C0 G (runS_of (n := 3) (As := [.int v2, .int (0 : Int32), .int (12 : Int32)]) (rest := []) C0 G (c5_in1 hX rfl) q784 q54 q782 q783 o5_in1 ⟨rfl, rfl⟩ ⟨Nat.le_of_ble_eq_true rfl, Nat.le_of_ble_eq_true rfl⟩ rfl hl.1 rfl (Nat.le_of_ble_eq_true rfl) dX5_away_12) (fun H locs G => ?_)
    refine lv_if_ne (tgt := 24) hx hb dX5_away_15 (by decide) (fun hc2 => ?_) (fun hc2 => ?_)
    · have hf := itn hc2 hf
      refine lv_iconst (v := (-1 : Int32)) hx hb dX5_away_24 (by decide) ?_
      refine lv_istore_n (lv' := [(3, .int (-1 : Int32)), (0, .ref (ad 0)), (1, .int v1), (2, .int v2)]) hx hb dX5_away_25 rfl hl (by decide) rfl (fun ls hl => ?_)
      refine lv_iconst (v := (0 : Int32)) hx hb dX5_away_26 (by decide) ?_
      refine lv_istore (lv' := [(4, .int (0 : Int32)), (3, .int (-1 : Int32)), (0, .ref (ad 0)), (1, .int v1), (2, .int v2)]) hx hb dX5_away_27 hl (by decide) rfl (fun ls hl => ?_)
      exact b5_away_29 C0  1000 G (lv_sub hl [2, 3, 4, 1, 0] rfl) hf
    · have hf := itp hc2 hf
      exact b5_away_18 C0  G (lv_sub hl [0] rfl) hf
theorem o5_away : okName yX5_away 2 := ⟨by decide, by decide, by decide +kernel⟩
set_option maxHeartbeats 4000000 in
set_option maxRecDepth 100000 in
theorem c5_away {X : XP} (hX : XT X) {l : Launch} {D : va_G} {cI cC : ClassId} {ad : Nat → Nat} {sz : Nat} {xs : Nat → Int32} {xkept : Nat → Int32} {xaside : Nat → Int32} {xisK : Int32} {xfound : Nat → Int32} {xgone : Int32} {xover : Nat → Int32} {xtape : Nat → Int32} {xtaped : Int32} {xtok : Int32} {xbeg : Int32} {xend : Int32} {xval : Int64} {xwid : Nat → Int32} {xsiz : Nat → Int32} {xcel : Nat → Int32} {xcar : Nat → Int32} {v1 : Int32} {v2 : Int32} {r0 : Int32} {o_xs : Nat → Int32} {o_xaside : Nat → Int32} {o_xfound : Nat → Int32} {o_xgone : Int32} {o_xover : Nat → Int32} (hf : f5_away xs xaside xfound xgone xover v1 v2 = some (r0, o_xs, o_xaside, o_xfound, o_xgone, o_xover)) : Met l yX5_away (wU yX5_away cX5_away 6 (some .int)) ({ frames := 8, cells := 0, slots := 0, locals := 189 }) (va_Pc [.ref (ad 0), .int v1, .int v2] (PreW X D (tyM cI cC) (wM cI cC ad xs xkept xaside xisK xfound xgone xover xtape xtaped xtok xbeg xend xval xwid xsiz xcel xcar) sz)) (QcI D (tyM cI cC) (wM cI cC ad o_xs xkept o_xaside xisK o_xfound o_xgone o_xover xtape xtaped xtok xbeg xend xval xwid xsiz xcel xcar) (va_A (wM cI cC ad xs xkept xaside xisK xfound xgone xover xtape xtaped xtok xbeg xend xval xwid xsiz xcel xcar) sz) r0) 0 0 (va_A (wM cI cC ad xs xkept xaside xisK xfound xgone xover xtape xtaped xtok xbeg xend xval xwid xsiz xcel xcar) sz) := by
  refine startW hX (own := RX5) (by decide) rfl (Nat.le_of_ble_eq_true rfl) (fun p e s m args below meth c ls C0 G hl => ?_)
  exact b5_away_0 C0 G hl hf
/-! 5_isSheet -/
theorem dX5_isSheet_0 : decode cX5_isSheet 0 = .ok (.iload_n 0, 1) := by decide +kernel
theorem dX5_isSheet_1 : decode cX5_isSheet 1 = .ok (.iconst 0, 1) := by decide +kernel
theorem dX5_isSheet_2 : decode cX5_isSheet 2 = .ok (.iconst 3, 1) := by decide +kernel
theorem dX5_isSheet_3 : decode cX5_isSheet 3 = .ok (.invokestatic 51, 3) := by decide +kernel
theorem dX5_isSheet_6 : decode cX5_isSheet 6 = .ok (.ireturn, 1) := by decide +kernel
def f5_isSheet  (v0 : Int32) : Int32 :=
  (f5_in1 v0 (0 : Int32) (3 : Int32))
set_option maxHeartbeats 4000000 in
set_option maxRecDepth 100000 in
theorem b5_isSheet_0 {X : XP} {p : Program} {l : Launch} {e : Env} {s : State} {m : MethodId} {args : Array Value} {below : List Frame} {meth : Method} {c : Code} {D : va_G} {cI cC : ClassId} {ad : Nat → Nat} {A : Nat → Prop} {xs : Nat → Int32} {xkept : Nat → Int32} {xaside : Nat → Int32} {xisK : Int32} {xfound : Nat → Int32} {xgone : Int32} {xover : Nat → Int32} {xtape : Nat → Int32} {xtaped : Int32} {xtok : Int32} {xbeg : Int32} {xend : Int32} {xval : Int64} {xwid : Nat → Int32} {xsiz : Nat → Int32} {xcel : Nat → Int32} {xcar : Nat → Int32} {r0 : Int32} (C0 : CX X p s m args meth c cX5_isSheet 1 (some .boolean) RX5 A) : ∀ {v0 : Int32} {H : Heap} {locs : List Loc} {ls : Array Slot}, GX X D (tyM cI cC) A s (wM cI cC ad xs xkept xaside xisK xfound xgone xover xtape xtaped xtok xbeg xend xval xwid xsiz xcel xcar) H locs → lv_has ls 1 [(0, .int v0)] → f5_isSheet v0 = r0 → W p l e ({ frames := 1, cells := 0, slots := 0, locals := 22 }) s m args below meth c H locs 0 0 (MQ below (QcI D (tyM cI cC) (wM cI cC ad xs xkept xaside xisK xfound xgone xover xtape xtaped xtok xbeg xend xval xwid xsiz xcel xcar) A r0) args s 0 0 A) (F0 m 0 ls []) := by
  have hx := C0.1
  have hb := C0.2.1
  have hown := C0.2.2.2.2.1
  have hts := C0.2.2.2.2.2.1
  have hX := C0.2.2.2.2.2.2.2.2
  intro v0 H locs ls G hl hf
  unfold f5_isSheet at hf
  refine lv_iload_n hx hb dX5_isSheet_0 rfl (lv_at hl 0 rfl) ?_
  refine lv_iconst (v := (0 : Int32)) hx hb dX5_isSheet_1 (by decide) ?_
  refine lv_iconst (v := (3 : Int32)) hx hb dX5_isSheet_2 (by decide) ?_
  refine go_i C0 G (runS_of (n := 3) (As := [.int v0, .int (0 : Int32), .int (3 : Int32)]) (rest := []) C0 G (c5_in1 hX rfl) q784 q54 q782 q783 o5_in1 ⟨rfl, rfl⟩ ⟨Nat.le_of_ble_eq_true rfl, Nat.le_of_ble_eq_true rfl⟩ rfl hl.1 rfl (Nat.le_of_ble_eq_true rfl) dX5_isSheet_3) (fun H locs G => ?_)
  obtain rfl := tnj1 hf
  exact ret_z C0 G (b01_n (z5_in1 _ _ _)) dX5_isSheet_6
theorem z5_isSheet  (v0 : Int32) : b01 (f5_isSheet v0) = true := by
  unfold f5_isSheet
  (repeat' split) <;> first | rfl | exact z5_in1 _ _ _
theorem o5_isSheet : okName yX5_isSheet 1 := ⟨by decide, by decide, by decide +kernel⟩
set_option maxHeartbeats 4000000 in
set_option maxRecDepth 100000 in
theorem c5_isSheet {X : XP} (hX : XT X) {l : Launch} {D : va_G} {cI cC : ClassId} {ad : Nat → Nat} {sz : Nat} {xs : Nat → Int32} {xkept : Nat → Int32} {xaside : Nat → Int32} {xisK : Int32} {xfound : Nat → Int32} {xgone : Int32} {xover : Nat → Int32} {xtape : Nat → Int32} {xtaped : Int32} {xtok : Int32} {xbeg : Int32} {xend : Int32} {xval : Int64} {xwid : Nat → Int32} {xsiz : Nat → Int32} {xcel : Nat → Int32} {xcar : Nat → Int32} {v0 : Int32} {r0 : Int32} (hf : f5_isSheet v0 = r0) : Met l yX5_isSheet (wU yX5_isSheet cX5_isSheet 1 (some .boolean)) ({ frames := 1, cells := 0, slots := 0, locals := 22 }) (va_Pc [.int v0] (PreW X D (tyM cI cC) (wM cI cC ad xs xkept xaside xisK xfound xgone xover xtape xtaped xtok xbeg xend xval xwid xsiz xcel xcar) sz)) (QcI D (tyM cI cC) (wM cI cC ad xs xkept xaside xisK xfound xgone xover xtape xtaped xtok xbeg xend xval xwid xsiz xcel xcar) (va_A (wM cI cC ad xs xkept xaside xisK xfound xgone xover xtape xtaped xtok xbeg xend xval xwid xsiz xcel xcar) sz) r0) 0 0 (va_A (wM cI cC ad xs xkept xaside xisK xfound xgone xover xtape xtaped xtok xbeg xend xval xwid xsiz xcel xcar) sz) := by
  refine startW hX (own := RX5) (by decide) rfl (Nat.le_of_ble_eq_true rfl) (fun p e s m args below meth c ls C0 G hl => ?_)
  exact b5_isSheet_0 C0 G hl hf
/-! 5_wrongSheet -/
theorem dX5_wrongSheet_0 : decode cX5_wrongSheet 0 = .ok (.iload_n 1, 1) := by decide +kernel
theorem dX5_wrongSheet_1 : decode cX5_wrongSheet 1 = .ok (.invokestatic 170, 3) := by decide +kernel
theorem dX5_wrongSheet_4 : decode cX5_wrongSheet 4 = .ok (.ifCond .ne 7, 3) := by decide +kernel
theorem dX5_wrongSheet_7 : decode cX5_wrongSheet 7 = .ok (.iconst 0, 1) := by decide +kernel
theorem dX5_wrongSheet_8 : decode cX5_wrongSheet 8 = .ok (.goto 17, 3) := by decide +kernel
theorem dX5_wrongSheet_11 : decode cX5_wrongSheet 11 = .ok (.aload_n 0, 1) := by decide +kernel
theorem dX5_wrongSheet_12 : decode cX5_wrongSheet 12 = .ok (.getfield 38, 3) := by decide +kernel
theorem dX5_wrongSheet_15 : decode cX5_wrongSheet 15 = .ok (.iload_n 1, 1) := by decide +kernel
theorem dX5_wrongSheet_16 : decode cX5_wrongSheet 16 = .ok (.iaload, 1) := by decide +kernel
theorem dX5_wrongSheet_17 : decode cX5_wrongSheet 17 = .ok (.ifCond .ne 7, 3) := by decide +kernel
theorem dX5_wrongSheet_20 : decode cX5_wrongSheet 20 = .ok (.iconst 5, 1) := by decide +kernel
theorem dX5_wrongSheet_21 : decode cX5_wrongSheet 21 = .ok (.goto 4, 3) := by decide +kernel
theorem dX5_wrongSheet_24 : decode cX5_wrongSheet 24 = .ok (.iconst (-1), 1) := by decide +kernel
theorem dX5_wrongSheet_25 : decode cX5_wrongSheet 25 = .ok (.ireturn, 1) := by decide +kernel
def f5_wrongSheet (xwid : Nat → Int32) (v1 : Int32) : Option (Int32) :=
  if (f5_isSheet v1) = (0 : Int32) then (
    some (0 : Int32))
  else (
    gd (inb v1 4) (
    if (xwid v1.toNatClampNeg) = (0 : Int32) then (
      some (5 : Int32))
    else (
      some (-1 : Int32))))
set_option maxHeartbeats 4000000 in
set_option maxRecDepth 100000 in
theorem b5_wrongSheet_0 {X : XP} {p : Program} {l : Launch} {e : Env} {s : State} {m : MethodId} {args : Array Value} {below : List Frame} {meth : Method} {c : Code} {D : va_G} {cI cC : ClassId} {ad : Nat → Nat} {A : Nat → Prop} {xs : Nat → Int32} {xkept : Nat → Int32} {xaside : Nat → Int32} {xisK : Int32} {xfound : Nat → Int32} {xgone : Int32} {xover : Nat → Int32} {xtape : Nat → Int32} {xtaped : Int32} {xtok : Int32} {xbeg : Int32} {xend : Int32} {xval : Int64} {xwid : Nat → Int32} {xsiz : Nat → Int32} {xcel : Nat → Int32} {xcar : Nat → Int32} {r0 : Int32} (C0 : CX X p s m args meth c cX5_wrongSheet 2 (some .int) RX5 A) : ∀ {v1 : Int32} {H : Heap} {locs : List Loc} {ls : Array Slot}, GX X D (tyM cI cC) A s (wM cI cC ad xs xkept xaside xisK xfound xgone xover xtape xtaped xtok xbeg xend xval xwid xsiz xcel xcar) H locs → lv_has ls 2 [(0, .ref (ad 0)), (1, .int v1)] → f5_wrongSheet xwid v1 = some r0 → W p l e ({ frames := 2, cells := 0, slots := 0, locals := 42 }) s m args below meth c H locs 0 0 (MQ below (QcI D (tyM cI cC) (wM cI cC ad xs xkept xaside xisK xfound xgone xover xtape xtaped xtok xbeg xend xval xwid xsiz xcel xcar) A r0) args s 0 0 A) (F0 m 0 ls []) := by
  have hx := C0.1
  have hb := C0.2.1
  have hown := C0.2.2.2.2.1
  have hts := C0.2.2.2.2.2.1
  have hX := C0.2.2.2.2.2.2.2.2
  intro v1 H locs ls G hl hf
  unfold f5_wrongSheet at hf
  refine lv_iload_n hx hb dX5_wrongSheet_0 rfl (lv_at hl 1 rfl) ?_
  refine go_i C0 G (runS_of (n := 1) (As := [.int v1]) (rest := []) C0 G (c5_isSheet hX rfl) q1008 q54 q1006 q1007 o5_isSheet ⟨rfl, rfl⟩ ⟨Nat.le_of_ble_eq_true rfl, Nat.le_of_ble_eq_true rfl⟩ rfl hl.1 rfl (Nat.le_of_ble_eq_true rfl) dX5_wrongSheet_1) (fun H locs G => ?_)
  refine lv_if_ne (tgt := 11) hx hb dX5_wrongSheet_4 (by decide) (fun hc1 => ?_) (fun hc1 => ?_)
  · have hf := itn hc1 hf
    refine lv_aload_n hx hb dX5_wrongSheet_11 rfl (lv_at hl 0 rfl) ?_
    refine s_get (C := RX5) (T := TX5) C0 G i_X5 0 16 rfl rfl (by decide) q729 rfl dX5_wrongSheet_12 ?_
    refine lv_iload_n hx hb dX5_wrongSheet_15 rfl (lv_at hl 1 rfl) ?_
    obtain ⟨hi2, hf⟩ := gd_s hf
    refine s_iald (k := v1.toNatClampNeg) C0 G 10 0 rfl rfl (vin hi2) rfl dX5_wrongSheet_16 ?_
    refine lv_if_ne (tgt := 24) hx hb dX5_wrongSheet_17 (by decide) (fun hc3 => ?_) (fun hc3 => ?_)
    · have hf := itn hc3 hf
      refine lv_iconst (v := (-1 : Int32)) hx hb dX5_wrongSheet_24 (by decide) ?_
      obtain rfl := inj1 hf
      exact ret_i C0 G dX5_wrongSheet_25
    · have hf := itp hc3 hf
      refine lv_iconst (v := (5 : Int32)) hx hb dX5_wrongSheet_20 (by decide) ?_
      refine lv_goto (tgt := 25) hx hb dX5_wrongSheet_21 (by decide) ?_
      obtain rfl := inj1 hf
      exact ret_i C0 G dX5_wrongSheet_25
  · have hf := itp hc1 hf
    refine lv_iconst (v := (0 : Int32)) hx hb dX5_wrongSheet_7 (by decide) ?_
    refine lv_goto (tgt := 25) hx hb dX5_wrongSheet_8 (by decide) ?_
    obtain rfl := inj1 hf
    exact ret_i C0 G dX5_wrongSheet_25
theorem o5_wrongSheet : okName yX5_wrongSheet 1 := ⟨by decide, by decide, by decide +kernel⟩
set_option maxHeartbeats 4000000 in
set_option maxRecDepth 100000 in
theorem c5_wrongSheet {X : XP} (hX : XT X) {l : Launch} {D : va_G} {cI cC : ClassId} {ad : Nat → Nat} {sz : Nat} {xs : Nat → Int32} {xkept : Nat → Int32} {xaside : Nat → Int32} {xisK : Int32} {xfound : Nat → Int32} {xgone : Int32} {xover : Nat → Int32} {xtape : Nat → Int32} {xtaped : Int32} {xtok : Int32} {xbeg : Int32} {xend : Int32} {xval : Int64} {xwid : Nat → Int32} {xsiz : Nat → Int32} {xcel : Nat → Int32} {xcar : Nat → Int32} {v1 : Int32} {r0 : Int32} (hf : f5_wrongSheet xwid v1 = some r0) : Met l yX5_wrongSheet (wU yX5_wrongSheet cX5_wrongSheet 2 (some .int)) ({ frames := 2, cells := 0, slots := 0, locals := 42 }) (va_Pc [.ref (ad 0), .int v1] (PreW X D (tyM cI cC) (wM cI cC ad xs xkept xaside xisK xfound xgone xover xtape xtaped xtok xbeg xend xval xwid xsiz xcel xcar) sz)) (QcI D (tyM cI cC) (wM cI cC ad xs xkept xaside xisK xfound xgone xover xtape xtaped xtok xbeg xend xval xwid xsiz xcel xcar) (va_A (wM cI cC ad xs xkept xaside xisK xfound xgone xover xtape xtaped xtok xbeg xend xval xwid xsiz xcel xcar) sz) r0) 0 0 (va_A (wM cI cC ad xs xkept xaside xisK xfound xgone xover xtape xtaped xtok xbeg xend xval xwid xsiz xcel xcar) sz) := by
  refine startW hX (own := RX5) (by decide) rfl (Nat.le_of_ble_eq_true rfl) (fun p e s m args below meth c ls C0 G hl => ?_)
  exact b5_wrongSheet_0 C0 G hl hf
/-! 5_wrongTold -/
theorem dX5_wrongTold_0 : decode cX5_wrongTold 0 = .ok (.aload_n 0, 1) := by decide +kernel
theorem dX5_wrongTold_1 : decode cX5_wrongTold 1 = .ok (.iload_n 1, 1) := by decide +kernel
theorem dX5_wrongTold_2 : decode cX5_wrongTold 2 = .ok (.invokevirtual 173, 3) := by decide +kernel
theorem dX5_wrongTold_5 : decode cX5_wrongTold 5 = .ok (.istore 4, 2) := by decide +kernel
theorem dX5_wrongTold_7 : decode cX5_wrongTold 7 = .ok (.iload 4, 2) := by decide +kernel
theorem dX5_wrongTold_9 : decode cX5_wrongTold 9 = .ok (.ifCond .lt 8, 3) := by decide +kernel
theorem dX5_wrongTold_12 : decode cX5_wrongTold 12 = .ok (.iload 4, 2) := by decide +kernel
theorem dX5_wrongTold_14 : decode cX5_wrongTold 14 = .ok (.goto 26, 3) := by decide +kernel
theorem dX5_wrongTold_17 : decode cX5_wrongTold 17 = .ok (.aload_n 0, 1) := by decide +kernel
theorem dX5_wrongTold_18 : decode cX5_wrongTold 18 = .ok (.iload_n 2, 1) := by decide +kernel
theorem dX5_wrongTold_19 : decode cX5_wrongTold 19 = .ok (.invokevirtual 111, 3) := by decide +kernel
theorem dX5_wrongTold_22 : decode cX5_wrongTold 22 = .ok (.ifCond .eq 17, 3) := by decide +kernel
theorem dX5_wrongTold_25 : decode cX5_wrongTold 25 = .ok (.iload_n 3, 1) := by decide +kernel
theorem dX5_wrongTold_26 : decode cX5_wrongTold 26 = .ok (.iconst 0, 1) := by decide +kernel
theorem dX5_wrongTold_27 : decode cX5_wrongTold 27 = .ok (.bipush 20, 2) := by decide +kernel
theorem dX5_wrongTold_29 : decode cX5_wrongTold 29 = .ok (.invokestatic 51, 3) := by decide +kernel
theorem dX5_wrongTold_32 : decode cX5_wrongTold 32 = .ok (.ifCond .eq 7, 3) := by decide +kernel
theorem dX5_wrongTold_35 : decode cX5_wrongTold 35 = .ok (.iconst (-1), 1) := by decide +kernel
theorem dX5_wrongTold_36 : decode cX5_wrongTold 36 = .ok (.goto 4, 3) := by decide +kernel
theorem dX5_wrongTold_39 : decode cX5_wrongTold 39 = .ok (.iconst 0, 1) := by decide +kernel
theorem dX5_wrongTold_40 : decode cX5_wrongTold 40 = .ok (.ireturn, 1) := by decide +kernel
def f5_wrongTold (xs : Nat → Int32) (xwid : Nat → Int32) (v1 : Int32) (v2 : Int32) (v3 : Int32) : Option (Int32) :=
  ob1 (f5_wrongSheet xwid v1) (fun r1 =>
  if r1 < (0 : Int32) then (
    if (f5_isVisitor xs v2) = (0 : Int32) then (
      some (0 : Int32))
    else (
      if (f5_in1 v3 (0 : Int32) (20 : Int32)) = (0 : Int32) then (
        some (0 : Int32))
      else (
        some (-1 : Int32))))
  else (
    some r1))
set_option maxHeartbeats 4000000 in
set_option maxRecDepth 100000 in
theorem b5_wrongTold_0 {X : XP} {p : Program} {l : Launch} {e : Env} {s : State} {m : MethodId} {args : Array Value} {below : List Frame} {meth : Method} {c : Code} {D : va_G} {cI cC : ClassId} {ad : Nat → Nat} {A : Nat → Prop} {xs : Nat → Int32} {xkept : Nat → Int32} {xaside : Nat → Int32} {xisK : Int32} {xfound : Nat → Int32} {xgone : Int32} {xover : Nat → Int32} {xtape : Nat → Int32} {xtaped : Int32} {xtok : Int32} {xbeg : Int32} {xend : Int32} {xval : Int64} {xwid : Nat → Int32} {xsiz : Nat → Int32} {xcel : Nat → Int32} {xcar : Nat → Int32} {r0 : Int32} (C0 : CX X p s m args meth c cX5_wrongTold 5 (some .int) RX5 A) : ∀ {v1 : Int32} {v2 : Int32} {v3 : Int32} {H : Heap} {locs : List Loc} {ls : Array Slot}, GX X D (tyM cI cC) A s (wM cI cC ad xs xkept xaside xisK xfound xgone xover xtape xtaped xtok xbeg xend xval xwid xsiz xcel xcar) H locs → lv_has ls 5 [(0, .ref (ad 0)), (1, .int v1), (2, .int v2), (3, .int v3)] → f5_wrongTold xs xwid v1 v2 v3 = some r0 → W p l e ({ frames := 3, cells := 0, slots := 0, locals := 63 }) s m args below meth c H locs 0 0 (MQ below (QcI D (tyM cI cC) (wM cI cC ad xs xkept xaside xisK xfound xgone xover xtape xtaped xtok xbeg xend xval xwid xsiz xcel xcar) A r0) args s 0 0 A) (F0 m 0 ls []) := by
  have hx := C0.1
  have hb := C0.2.1
  have hown := C0.2.2.2.2.1
  have hts := C0.2.2.2.2.2.1
  have hX := C0.2.2.2.2.2.2.2.2
  intro v1 v2 v3 H locs ls G hl hf
  unfold f5_wrongTold at hf
  refine lv_aload_n hx hb dX5_wrongTold_0 rfl (lv_at hl 0 rfl) ?_
  refine lv_iload_n hx hb dX5_wrongTold_1 rfl (lv_at hl 1 rfl) ?_
  obtain ⟨r1, hc2, hf⟩ := ob1_s hf
  refine go_i C0 G (runV_of (n := 1) (q0 := 0) (As := [.int v1]) (rest := []) C0 G (c5_wrongSheet hX hc2) q1005 q54 q1002 q1004 q38 o5_wrongSheet ⟨rfl, rfl⟩ ⟨Nat.le_of_ble_eq_true rfl, Nat.le_of_ble_eq_true rfl⟩ rfl rfl rfl hl.1 rfl (Nat.le_of_ble_eq_true rfl) dX5_wrongTold_2) (fun H locs G => ?_)
  refine lv_istore (lv' := [(4, .int r1), (0, .ref (ad 0)), (1, .int v1), (2, .int v2), (3, .int v3)]) hx hb dX5_wrongTold_5 hl (by decide) rfl (fun ls hl => ?_)
  refine lv_iload hx hb dX5_wrongTold_7 (lv_at hl 0 rfl) ?_
  refine lv_if_lt (tgt := 17) hx hb dX5_wrongTold_9 (by decide) (fun hc3 => ?_) (fun hc3 => ?_)
  · have hf := itp hc3 hf
    refine lv_aload_n hx hb dX5_wrongTold_17 rfl (lv_at hl 1 rfl) ?_
    refine lv_iload_n hx hb dX5_wrongTold_18 rfl (lv_at hl 3 rfl) ?_
    refine go_i C0 G (runV_of (n := 1) (q0 := 0) (As := [.int v2]) (rest := []) C0 G (c5_isVisitor hX rfl) q825 q54 q822 q824 q14 o5_isVisitor ⟨rfl, rfl⟩ ⟨Nat.le_of_ble_eq_true rfl, Nat.le_of_ble_eq_true rfl⟩ rfl rfl rfl hl.1 rfl (Nat.le_of_ble_eq_true rfl) dX5_wrongTold_19) (fun H locs G => ?_)
    refine lv_if_eq (tgt := 39) hx hb dX5_wrongTold_22 (by decide) (fun hc4 => ?_) (fun hc4 => ?_)
    · have hf := itp hc4 hf
      refine lv_iconst (v := (0 : Int32)) hx hb dX5_wrongTold_39 (by decide) ?_
      obtain rfl := inj1 hf
      exact ret_i C0 G dX5_wrongTold_40
    · have hf := itn hc4 hf
      refine lv_iload_n hx hb dX5_wrongTold_25 rfl (lv_at hl 4 rfl) ?_
      refine lv_iconst (v := (0 : Int32)) hx hb dX5_wrongTold_26 (by decide) ?_
      refine lv_bipush (v := (20 : Int32)) hx hb dX5_wrongTold_27 (by decide) ?_
      refine go_i C0 G (runS_of (n := 3) (As := [.int v3, .int (0 : Int32), .int (20 : Int32)]) (rest := []) C0 G (c5_in1 hX rfl) q784 q54 q782 q783 o5_in1 ⟨rfl, rfl⟩ ⟨Nat.le_of_ble_eq_true rfl, Nat.le_of_ble_eq_true rfl⟩ rfl hl.1 rfl (Nat.le_of_ble_eq_true rfl) dX5_wrongTold_29) (fun H locs G => ?_)
      refine lv_if_eq (tgt := 39) hx hb dX5_wrongTold_32 (by decide) (fun hc5 => ?_) (fun hc5 => ?_)
      · have hf := itp hc5 hf
        refine lv_iconst (v := (0 : Int32)) hx hb dX5_wrongTold_39 (by decide) ?_
        obtain rfl := inj1 hf
        exact ret_i C0 G dX5_wrongTold_40
      · have hf := itn hc5 hf
        refine lv_iconst (v := (-1 : Int32)) hx hb dX5_wrongTold_35 (by decide) ?_
        refine lv_goto (tgt := 40) hx hb dX5_wrongTold_36 (by decide) ?_
        obtain rfl := inj1 hf
        exact ret_i C0 G dX5_wrongTold_40
  · have hf := itn hc3 hf
    refine lv_iload hx hb dX5_wrongTold_12 (lv_at hl 0 rfl) ?_
    refine lv_goto (tgt := 40) hx hb dX5_wrongTold_14 (by decide) ?_
    obtain rfl := inj1 hf
    exact ret_i C0 G dX5_wrongTold_40
theorem o5_wrongTold : okName yX5_wrongTold 3 := ⟨by decide, by decide, by decide +kernel⟩
set_option maxHeartbeats 4000000 in
set_option maxRecDepth 100000 in
theorem c5_wrongTold {X : XP} (hX : XT X) {l : Launch} {D : va_G} {cI cC : ClassId} {ad : Nat → Nat} {sz : Nat} {xs : Nat → Int32} {xkept : Nat → Int32} {xaside : Nat → Int32} {xisK : Int32} {xfound : Nat → Int32} {xgone : Int32} {xover : Nat → Int32} {xtape : Nat → Int32} {xtaped : Int32} {xtok : Int32} {xbeg : Int32} {xend : Int32} {xval : Int64} {xwid : Nat → Int32} {xsiz : Nat → Int32} {xcel : Nat → Int32} {xcar : Nat → Int32} {v1 : Int32} {v2 : Int32} {v3 : Int32} {r0 : Int32} (hf : f5_wrongTold xs xwid v1 v2 v3 = some r0) : Met l yX5_wrongTold (wU yX5_wrongTold cX5_wrongTold 5 (some .int)) ({ frames := 3, cells := 0, slots := 0, locals := 63 }) (va_Pc [.ref (ad 0), .int v1, .int v2, .int v3] (PreW X D (tyM cI cC) (wM cI cC ad xs xkept xaside xisK xfound xgone xover xtape xtaped xtok xbeg xend xval xwid xsiz xcel xcar) sz)) (QcI D (tyM cI cC) (wM cI cC ad xs xkept xaside xisK xfound xgone xover xtape xtaped xtok xbeg xend xval xwid xsiz xcel xcar) (va_A (wM cI cC ad xs xkept xaside xisK xfound xgone xover xtape xtaped xtok xbeg xend xval xwid xsiz xcel xcar) sz) r0) 0 0 (va_A (wM cI cC ad xs xkept xaside xisK xfound xgone xover xtape xtaped xtok xbeg xend xval xwid xsiz xcel xcar) sz) := by
  refine startW hX (own := RX5) (by decide) rfl (Nat.le_of_ble_eq_true rfl) (fun p e s m args below meth c ls C0 G hl => ?_)
  exact b5_wrongTold_0 C0 G hl hf
/-! 5_told -/
theorem dX5_told_0 : decode cX5_told 0 = .ok (.aload_n 0, 1) := by decide +kernel
theorem dX5_told_1 : decode cX5_told 1 = .ok (.getfield 44, 3) := by decide +kernel
theorem dX5_told_4 : decode cX5_told 4 = .ok (.bipush 40, 2) := by decide +kernel
theorem dX5_told_6 : decode cX5_told 6 = .ok (.iload_n 1, 1) := by decide +kernel
theorem dX5_told_7 : decode cX5_told 7 = .ok (.imul, 1) := by decide +kernel
theorem dX5_told_8 : decode cX5_told 8 = .ok (.iload_n 2, 1) := by decide +kernel
theorem dX5_told_9 : decode cX5_told 9 = .ok (.iadd, 1) := by decide +kernel
theorem dX5_told_10 : decode cX5_told 10 = .ok (.iaload, 1) := by decide +kernel
theorem dX5_told_11 : decode cX5_told 11 = .ok (.ireturn, 1) := by decide +kernel
def f5_told (xcel : Nat → Int32) (v1 : Int32) (v2 : Int32) : Option (Int32) :=
  gd (inb (((40 : Int32) * v1) + v2) 160) (
  some (xcel ((((40 : Int32) * v1) + v2).toNatClampNeg)))
set_option maxHeartbeats 4000000 in
set_option maxRecDepth 100000 in
theorem b5_told_0 {X : XP} {p : Program} {l : Launch} {e : Env} {s : State} {m : MethodId} {args : Array Value} {below : List Frame} {meth : Method} {c : Code} {D : va_G} {cI cC : ClassId} {ad : Nat → Nat} {A : Nat → Prop} {xs : Nat → Int32} {xkept : Nat → Int32} {xaside : Nat → Int32} {xisK : Int32} {xfound : Nat → Int32} {xgone : Int32} {xover : Nat → Int32} {xtape : Nat → Int32} {xtaped : Int32} {xtok : Int32} {xbeg : Int32} {xend : Int32} {xval : Int64} {xwid : Nat → Int32} {xsiz : Nat → Int32} {xcel : Nat → Int32} {xcar : Nat → Int32} {r0 : Int32} (C0 : CX X p s m args meth c cX5_told 3 (some .int) RX5 A) : ∀ {v1 : Int32} {v2 : Int32} {H : Heap} {locs : List Loc} {ls : Array Slot}, GX X D (tyM cI cC) A s (wM cI cC ad xs xkept xaside xisK xfound xgone xover xtape xtaped xtok xbeg xend xval xwid xsiz xcel xcar) H locs → lv_has ls 3 [(0, .ref (ad 0)), (1, .int v1), (2, .int v2)] → f5_told xcel v1 v2 = some r0 → W p l e ({ frames := 0, cells := 0, slots := 0, locals := 0 }) s m args below meth c H locs 0 0 (MQ below (QcI D (tyM cI cC) (wM cI cC ad xs xkept xaside xisK xfound xgone xover xtape xtaped xtok xbeg xend xval xwid xsiz xcel xcar) A r0) args s 0 0 A) (F0 m 0 ls []) := by
  have hx := C0.1
  have hb := C0.2.1
  have hown := C0.2.2.2.2.1
  have hts := C0.2.2.2.2.2.1
  have hX := C0.2.2.2.2.2.2.2.2
  intro v1 v2 H locs ls G hl hf
  unfold f5_told at hf
  refine lv_aload_n hx hb dX5_told_0 rfl (lv_at hl 0 rfl) ?_
  refine s_get (C := RX5) (T := TX5) C0 G i_X5 0 18 rfl rfl (by decide) q731 rfl dX5_told_1 ?_
  refine lv_bipush (v := (40 : Int32)) hx hb dX5_told_4 (by decide) ?_
  refine lv_iload_n hx hb dX5_told_6 rfl (lv_at hl 1 rfl) ?_
  refine lv_imul hx hb dX5_told_7 ?_
  refine lv_iload_n hx hb dX5_told_8 rfl (lv_at hl 2 rfl) ?_
  refine lv_iadd hx hb dX5_told_9 ?_
  obtain ⟨hi1, hf⟩ := gd_s hf
  refine s_iald (k := (((40 : Int32) * v1) + v2).toNatClampNeg) C0 G 12 0 rfl rfl (vin hi1) rfl dX5_told_10 ?_
  obtain rfl := inj1 hf
  exact ret_i C0 G dX5_told_11
theorem o5_told : okName yX5_told 2 := ⟨by decide, by decide, by decide +kernel⟩
set_option maxHeartbeats 4000000 in
set_option maxRecDepth 100000 in
theorem c5_told {X : XP} (hX : XT X) {l : Launch} {D : va_G} {cI cC : ClassId} {ad : Nat → Nat} {sz : Nat} {xs : Nat → Int32} {xkept : Nat → Int32} {xaside : Nat → Int32} {xisK : Int32} {xfound : Nat → Int32} {xgone : Int32} {xover : Nat → Int32} {xtape : Nat → Int32} {xtaped : Int32} {xtok : Int32} {xbeg : Int32} {xend : Int32} {xval : Int64} {xwid : Nat → Int32} {xsiz : Nat → Int32} {xcel : Nat → Int32} {xcar : Nat → Int32} {v1 : Int32} {v2 : Int32} {r0 : Int32} (hf : f5_told xcel v1 v2 = some r0) : Met l yX5_told (wU yX5_told cX5_told 3 (some .int)) ({ frames := 0, cells := 0, slots := 0, locals := 0 }) (va_Pc [.ref (ad 0), .int v1, .int v2] (PreW X D (tyM cI cC) (wM cI cC ad xs xkept xaside xisK xfound xgone xover xtape xtaped xtok xbeg xend xval xwid xsiz xcel xcar) sz)) (QcI D (tyM cI cC) (wM cI cC ad xs xkept xaside xisK xfound xgone xover xtape xtaped xtok xbeg xend xval xwid xsiz xcel xcar) (va_A (wM cI cC ad xs xkept xaside xisK xfound xgone xover xtape xtaped xtok xbeg xend xval xwid xsiz xcel xcar) sz) r0) 0 0 (va_A (wM cI cC ad xs xkept xaside xisK xfound xgone xover xtape xtaped xtok xbeg xend xval xwid xsiz xcel xcar) sz) := by
  refine startW hX (own := RX5) (by decide) rfl (Nat.le_of_ble_eq_true rfl) (fun p e s m args below meth c ls C0 G hl => ?_)
  exact b5_told_0 C0 G hl hf
/-! 5_fitsAs -/
theorem dX5_fitsAs_0 : decode cX5_fitsAs 0 = .ok (.aload_n 0, 1) := by decide +kernel
theorem dX5_fitsAs_1 : decode cX5_fitsAs 1 = .ok (.invokevirtual 140, 3) := by decide +kernel
theorem dX5_fitsAs_4 : decode cX5_fitsAs 4 = .ok (.aload_n 0, 1) := by decide +kernel
theorem dX5_fitsAs_5 : decode cX5_fitsAs 5 = .ok (.iload_n 2, 1) := by decide +kernel
theorem dX5_fitsAs_6 : decode cX5_fitsAs 6 = .ok (.iload_n 3, 1) := by decide +kernel
theorem dX5_fitsAs_7 : decode cX5_fitsAs 7 = .ok (.iload 4, 2) := by decide +kernel
theorem dX5_fitsAs_9 : decode cX5_fitsAs 9 = .ok (.invokevirtual 83, 3) := by decide +kernel
theorem dX5_fitsAs_12 : decode cX5_fitsAs 12 = .ok (.aload_n 0, 1) := by decide +kernel
theorem dX5_fitsAs_13 : decode cX5_fitsAs 13 = .ok (.iload 5, 2) := by decide +kernel
theorem dX5_fitsAs_15 : decode cX5_fitsAs 15 = .ok (.invokevirtual 120, 3) := by decide +kernel
theorem dX5_fitsAs_18 : decode cX5_fitsAs 18 = .ok (.iconst 1, 1) := by decide +kernel
theorem dX5_fitsAs_19 : decode cX5_fitsAs 19 = .ok (.istore 6, 2) := by decide +kernel
theorem dX5_fitsAs_21 : decode cX5_fitsAs 21 = .ok (.iconst 0, 1) := by decide +kernel
theorem dX5_fitsAs_22 : decode cX5_fitsAs 22 = .ok (.istore 7, 2) := by decide +kernel
theorem dX5_fitsAs_24 : decode cX5_fitsAs 24 = .ok (.iload 7, 2) := by decide +kernel
theorem dX5_fitsAs_26 : decode cX5_fitsAs 26 = .ok (.aload_n 0, 1) := by decide +kernel
theorem dX5_fitsAs_27 : decode cX5_fitsAs 27 = .ok (.getfield 41, 3) := by decide +kernel
theorem dX5_fitsAs_30 : decode cX5_fitsAs 30 = .ok (.iload_n 1, 1) := by decide +kernel
theorem dX5_fitsAs_31 : decode cX5_fitsAs 31 = .ok (.iaload, 1) := by decide +kernel
theorem dX5_fitsAs_32 : decode cX5_fitsAs 32 = .ok (.if_icmp .ge 59, 3) := by decide +kernel
theorem dX5_fitsAs_35 : decode cX5_fitsAs 35 = .ok (.iload 7, 2) := by decide +kernel
theorem dX5_fitsAs_37 : decode cX5_fitsAs 37 = .ok (.bipush 16, 2) := by decide +kernel
theorem dX5_fitsAs_39 : decode cX5_fitsAs 39 = .ok (.if_icmp .ge 52, 3) := by decide +kernel
theorem dX5_fitsAs_42 : decode cX5_fitsAs 42 = .ok (.iload 6, 2) := by decide +kernel
theorem dX5_fitsAs_44 : decode cX5_fitsAs 44 = .ok (.ifCond .eq 47, 3) := by decide +kernel
theorem dX5_fitsAs_47 : decode cX5_fitsAs 47 = .ok (.aload_n 0, 1) := by decide +kernel
theorem dX5_fitsAs_48 : decode cX5_fitsAs 48 = .ok (.iload_n 1, 1) := by decide +kernel
theorem dX5_fitsAs_49 : decode cX5_fitsAs 49 = .ok (.iload 7, 2) := by decide +kernel
theorem dX5_fitsAs_51 : decode cX5_fitsAs 51 = .ok (.invokevirtual 176, 3) := by decide +kernel
theorem dX5_fitsAs_54 : decode cX5_fitsAs 54 = .ok (.iconst (-1), 1) := by decide +kernel
theorem dX5_fitsAs_55 : decode cX5_fitsAs 55 = .ok (.if_icmp .eq 23, 3) := by decide +kernel
theorem dX5_fitsAs_58 : decode cX5_fitsAs 58 = .ok (.aload_n 0, 1) := by decide +kernel
theorem dX5_fitsAs_59 : decode cX5_fitsAs 59 = .ok (.iload_n 1, 1) := by decide +kernel
theorem dX5_fitsAs_60 : decode cX5_fitsAs 60 = .ok (.iload 7, 2) := by decide +kernel
theorem dX5_fitsAs_62 : decode cX5_fitsAs 62 = .ok (.invokevirtual 176, 3) := by decide +kernel
theorem dX5_fitsAs_65 : decode cX5_fitsAs 65 = .ok (.aload_n 0, 1) := by decide +kernel
theorem dX5_fitsAs_66 : decode cX5_fitsAs 66 = .ok (.getfield 9, 3) := by decide +kernel
theorem dX5_fitsAs_69 : decode cX5_fitsAs 69 = .ok (.bipush 6, 2) := by decide +kernel
theorem dX5_fitsAs_71 : decode cX5_fitsAs 71 = .ok (.iload 7, 2) := by decide +kernel
theorem dX5_fitsAs_73 : decode cX5_fitsAs 73 = .ok (.iadd, 1) := by decide +kernel
theorem dX5_fitsAs_74 : decode cX5_fitsAs 74 = .ok (.iaload, 1) := by decide +kernel
theorem dX5_fitsAs_75 : decode cX5_fitsAs 75 = .ok (.if_icmp .ne 7, 3) := by decide +kernel
theorem dX5_fitsAs_78 : decode cX5_fitsAs 78 = .ok (.iconst 1, 1) := by decide +kernel
theorem dX5_fitsAs_79 : decode cX5_fitsAs 79 = .ok (.goto 4, 3) := by decide +kernel
theorem dX5_fitsAs_82 : decode cX5_fitsAs 82 = .ok (.iconst 0, 1) := by decide +kernel
theorem dX5_fitsAs_83 : decode cX5_fitsAs 83 = .ok (.istore 6, 2) := by decide +kernel
theorem dX5_fitsAs_85 : decode cX5_fitsAs 85 = .ok (.iinc 7 1, 3) := by decide +kernel
theorem dX5_fitsAs_88 : decode cX5_fitsAs 88 = .ok (.goto (-64), 3) := by decide +kernel
theorem dX5_fitsAs_91 : decode cX5_fitsAs 91 = .ok (.aload_n 0, 1) := by decide +kernel
theorem dX5_fitsAs_92 : decode cX5_fitsAs 92 = .ok (.invokevirtual 143, 3) := by decide +kernel
theorem dX5_fitsAs_95 : decode cX5_fitsAs 95 = .ok (.iload 6, 2) := by decide +kernel
theorem dX5_fitsAs_97 : decode cX5_fitsAs 97 = .ok (.ireturn, 1) := by decide +kernel
def j5_fitsAs_91  (xs : Nat → Int32) (xaside : Nat → Int32) (xgone : Int32) (xover : Nat → Int32) (xsiz : Nat → Int32) (xcel : Nat → Int32) (v6 : Int32) : Option (Int32 × (Nat → Int32) × (Nat → Int32) × (Nat → Int32)) :=
  ob1 (f5_laysBack xs xaside) (fun xs_19 =>
  gd (b01 v6) (
  some (v6, xs_19, xaside, xover)))
def j5_fitsAs_83 (k24 : (Nat → Int32) → (Nat → Int32) → Int32 → (Nat → Int32) → (Nat → Int32) → (Nat → Int32) → Int32 → Int32 → Int32 → Option (Int32 × (Nat → Int32) × (Nat → Int32) × (Nat → Int32))) (xs : Nat → Int32) (xaside : Nat → Int32) (xgone : Int32) (xover : Nat → Int32) (xsiz : Nat → Int32) (xcel : Nat → Int32) (v1 : Int32) (v7 : Int32) (t0 : Int32) : Option (Int32 × (Nat → Int32) × (Nat → Int32) × (Nat → Int32)) :=
  k24 xs xaside xgone xover xsiz xcel v1 t0 (v7 + (1 : Int32))
def j5_fitsAs_78 (k24 : (Nat → Int32) → (Nat → Int32) → Int32 → (Nat → Int32) → (Nat → Int32) → (Nat → Int32) → Int32 → Int32 → Int32 → Option (Int32 × (Nat → Int32) × (Nat → Int32) × (Nat → Int32))) (xs : Nat → Int32) (xaside : Nat → Int32) (xgone : Int32) (xover : Nat → Int32) (xsiz : Nat → Int32) (xcel : Nat → Int32) (v1 : Int32) (v7 : Int32) : Option (Int32 × (Nat → Int32) × (Nat → Int32) × (Nat → Int32)) :=
  j5_fitsAs_83 k24 xs xaside xgone xover xsiz xcel v1 v7 (1 : Int32)
def l5_fitsAs_24  : Nat → (Nat → Int32) → (Nat → Int32) → Int32 → (Nat → Int32) → (Nat → Int32) → (Nat → Int32) → Int32 → Int32 → Int32 → Option (Int32 × (Nat → Int32) × (Nat → Int32) × (Nat → Int32))
  | 0, _, _, _, _, _, _, _, _, _ => none
  | n + 1, xs, xaside, xgone, xover, xsiz, xcel, v1, v6, v7 =>
    gd (inb v1 4) (
    if (xsiz v1.toNatClampNeg) ≤ v7 then (
      j5_fitsAs_91 xs xaside xgone xover xsiz xcel v6)
    else (
      if (16 : Int32) ≤ v7 then (
        j5_fitsAs_91 xs xaside xgone xover xsiz xcel v6)
      else (
        if v6 = (0 : Int32) then (
          j5_fitsAs_91 xs xaside xgone xover xsiz xcel v6)
        else (
          ob1 (f5_told xcel v1 v7) (fun r12 =>
          if r12 = (-1 : Int32) then (
            j5_fitsAs_78 (l5_fitsAs_24 n) xs xaside xgone xover xsiz xcel v1 v7)
          else (
            ob1 (f5_told xcel v1 v7) (fun r15 =>
            gd (inb ((6 : Int32) + v7) 88) (
            if r15 = (xs (((6 : Int32) + v7).toNatClampNeg)) then (
              j5_fitsAs_78 (l5_fitsAs_24 n) xs xaside xgone xover xsiz xcel v1 v7)
            else (
              j5_fitsAs_83 (l5_fitsAs_24 n) xs xaside xgone xover xsiz xcel v1 v7 (0 : Int32))))))))))
def f5_fitsAs (xs : Nat → Int32) (xaside : Nat → Int32) (xgone : Int32) (xover : Nat → Int32) (xsiz : Nat → Int32) (xcel : Nat → Int32) (v1 : Int32) (v2 : Int32) (v3 : Int32) (v4 : Int32) (v5 : Int32) : Option (Int32 × (Nat → Int32) × (Nat → Int32) × (Nat → Int32)) :=
  ob1 (f5_setsAside xs xaside) (fun xaside_1 =>
  ob1 (f5_puts xs v2 v3 v4) (fun xs_3 =>
  ob2 (f5_goes xs_3 xgone xover v5) (fun xs_5 xover_6 =>
  l5_fitsAs_24 1000 xs_5 xaside_1 xgone xover_6 xsiz xcel v1 (1 : Int32) (0 : Int32))))
set_option maxHeartbeats 4000000 in
set_option maxRecDepth 100000 in
theorem b5_fitsAs_91 {X : XP} {p : Program} {l : Launch} {e : Env} {s : State} {m : MethodId} {args : Array Value} {below : List Frame} {meth : Method} {c : Code} {D : va_G} {cI cC : ClassId} {ad : Nat → Nat} {A : Nat → Prop} {xkept : Nat → Int32} {xisK : Int32} {xfound : Nat → Int32} {xgone : Int32} {xtape : Nat → Int32} {xtaped : Int32} {xtok : Int32} {xbeg : Int32} {xend : Int32} {xval : Int64} {xwid : Nat → Int32} {xsiz : Nat → Int32} {xcel : Nat → Int32} {xcar : Nat → Int32} {r0 : Int32} {o_xs : Nat → Int32} {o_xaside : Nat → Int32} {o_xover : Nat → Int32} (C0 : CX X p s m args meth c cX5_fitsAs 8 (some .boolean) RX5 A) : ∀ {xs : Nat → Int32} {xaside : Nat → Int32} {xover : Nat → Int32} {v6 : Int32} {H : Heap} {locs : List Loc} {ls : Array Slot}, GX X D (tyM cI cC) A s (wM cI cC ad xs xkept xaside xisK xfound xgone xover xtape xtaped xtok xbeg xend xval xwid xsiz xcel xcar) H locs → lv_has ls 8 [(0, .ref (ad 0)), (6, .int v6)] → j5_fitsAs_91  xs xaside xgone xover xsiz xcel v6 = some (r0, o_xs, o_xaside, o_xover) → W p l e ({ frames := 7, cells := 0, slots := 0, locals := 165 }) s m args below meth c H locs 0 0 (MQ below (QcI D (tyM cI cC) (wM cI cC ad o_xs xkept o_xaside xisK xfound xgone o_xover xtape xtaped xtok xbeg xend xval xwid xsiz xcel xcar) A r0) args s 0 0 A) (F0 m 91 ls []) := by
  have hx := C0.1
  have hb := C0.2.1
  have hown := C0.2.2.2.2.1
  have hts := C0.2.2.2.2.2.1
  have hX := C0.2.2.2.2.2.2.2.2
  intro xs xaside xover v6 H locs ls G hl hf
  unfold j5_fitsAs_91 at hf
  refine lv_aload_n hx hb dX5_fitsAs_91 rfl (lv_at hl 0 rfl) ?_
  obtain ⟨xs_19, hc20, hf⟩ := ob1_s hf
  refine go_v C0 G (runV_of (n := 0) (q0 := 0) (As := []) (rest := []) C0 G (c5_laysBack hX hc20) q923 q54 q920 q922 q31 o5_laysBack ⟨rfl, rfl⟩ ⟨Nat.le_of_ble_eq_true rfl, Nat.le_of_ble_eq_true rfl⟩ rfl rfl rfl hl.1 rfl (Nat.le_of_ble_eq_true rfl) dX5_fitsAs_92) (fun H locs G => ?_)
  refine lv_iload hx hb dX5_fitsAs_95 (lv_at hl 1 rfl) ?_
  obtain ⟨hz21, hf⟩ := gd_s hf
  obtain ⟨rfl, rfl, rfl, rfl⟩ := inj4 hf
  exact ret_z C0 G (b01_n hz21) dX5_fitsAs_97
set_option maxHeartbeats 4000000 in
set_option maxRecDepth 100000 in
theorem b5_fitsAs_83 {X : XP} {p : Program} {l : Launch} {e : Env} {s : State} {m : MethodId} {args : Array Value} {below : List Frame} {meth : Method} {c : Code} {D : va_G} {cI cC : ClassId} {ad : Nat → Nat} {A : Nat → Prop} {xkept : Nat → Int32} {xisK : Int32} {xfound : Nat → Int32} {xgone : Int32} {xtape : Nat → Int32} {xtaped : Int32} {xtok : Int32} {xbeg : Int32} {xend : Int32} {xval : Int64} {xwid : Nat → Int32} {xsiz : Nat → Int32} {xcel : Nat → Int32} {xcar : Nat → Int32} {r0 : Int32} {o_xs : Nat → Int32} {o_xaside : Nat → Int32} {o_xover : Nat → Int32} (C0 : CX X p s m args meth c cX5_fitsAs 8 (some .boolean) RX5 A) {k24 : (Nat → Int32) → (Nat → Int32) → Int32 → (Nat → Int32) → (Nat → Int32) → (Nat → Int32) → Int32 → Int32 → Int32 → Option (Int32 × (Nat → Int32) × (Nat → Int32) × (Nat → Int32))} (hk24 : ∀ {xs : Nat → Int32} {xaside : Nat → Int32} {xover : Nat → Int32} {v1 : Int32} {v6 : Int32} {v7 : Int32} {H : Heap} {locs : List Loc} {ls : Array Slot}, GX X D (tyM cI cC) A s (wM cI cC ad xs xkept xaside xisK xfound xgone xover xtape xtaped xtok xbeg xend xval xwid xsiz xcel xcar) H locs → lv_has ls 8 [(0, .ref (ad 0)), (1, .int v1), (6, .int v6), (7, .int v7)] → k24 xs xaside xgone xover xsiz xcel v1 v6 v7 = some (r0, o_xs, o_xaside, o_xover) → W p l e ({ frames := 7, cells := 0, slots := 0, locals := 165 }) s m args below meth c H locs 0 0 (MQ below (QcI D (tyM cI cC) (wM cI cC ad o_xs xkept o_xaside xisK xfound xgone o_xover xtape xtaped xtok xbeg xend xval xwid xsiz xcel xcar) A r0) args s 0 0 A) (F0 m 24 ls [])) : ∀ {xs : Nat → Int32} {xaside : Nat → Int32} {xover : Nat → Int32} {v1 : Int32} {v7 : Int32} {t0 : Int32} {H : Heap} {locs : List Loc} {ls : Array Slot}, GX X D (tyM cI cC) A s (wM cI cC ad xs xkept xaside xisK xfound xgone xover xtape xtaped xtok xbeg xend xval xwid xsiz xcel xcar) H locs → lv_has ls 8 [(0, .ref (ad 0)), (1, .int v1), (7, .int v7)] → j5_fitsAs_83 k24 xs xaside xgone xover xsiz xcel v1 v7 t0 = some (r0, o_xs, o_xaside, o_xover) → W p l e ({ frames := 7, cells := 0, slots := 0, locals := 165 }) s m args below meth c H locs 0 0 (MQ below (QcI D (tyM cI cC) (wM cI cC ad o_xs xkept o_xaside xisK xfound xgone o_xover xtape xtaped xtok xbeg xend xval xwid xsiz xcel xcar) A r0) args s 0 0 A) (F0 m 83 ls [.int t0]) := by
  have hx := C0.1
  have hb := C0.2.1
  have hown := C0.2.2.2.2.1
  have hts := C0.2.2.2.2.2.1
  have hX := C0.2.2.2.2.2.2.2.2
  intro xs xaside xover v1 v7 t0 H locs ls G hl hf
  unfold j5_fitsAs_83 at hf
  refine lv_istore (lv' := [(6, .int t0), (0, .ref (ad 0)), (1, .int v1), (7, .int v7)]) hx hb dX5_fitsAs_83 hl (by decide) rfl (fun ls hl => ?_)
  refine lv_iinc (v := (v7 + (1 : Int32))) (lv' := [(7, .int (v7 + (1 : Int32))), (6, .int t0), (0, .ref (ad 0)), (1, .int v1)]) hx hb dX5_fitsAs_85 hl (k := 3) rfl rfl (by decide) rfl (fun ls hl => ?_)
  refine lv_goto (tgt := 24) hx hb dX5_fitsAs_88 (by decide) ?_
  exact hk24 G (lv_sub hl [2, 3, 1, 0] rfl) hf
set_option maxHeartbeats 4000000 in
set_option maxRecDepth 100000 in
theorem b5_fitsAs_78 {X : XP} {p : Program} {l : Launch} {e : Env} {s : State} {m : MethodId} {args : Array Value} {below : List Frame} {meth : Method} {c : Code} {D : va_G} {cI cC : ClassId} {ad : Nat → Nat} {A : Nat → Prop} {xkept : Nat → Int32} {xisK : Int32} {xfound : Nat → Int32} {xgone : Int32} {xtape : Nat → Int32} {xtaped : Int32} {xtok : Int32} {xbeg : Int32} {xend : Int32} {xval : Int64} {xwid : Nat → Int32} {xsiz : Nat → Int32} {xcel : Nat → Int32} {xcar : Nat → Int32} {r0 : Int32} {o_xs : Nat → Int32} {o_xaside : Nat → Int32} {o_xover : Nat → Int32} (C0 : CX X p s m args meth c cX5_fitsAs 8 (some .boolean) RX5 A) {k24 : (Nat → Int32) → (Nat → Int32) → Int32 → (Nat → Int32) → (Nat → Int32) → (Nat → Int32) → Int32 → Int32 → Int32 → Option (Int32 × (Nat → Int32) × (Nat → Int32) × (Nat → Int32))} (hk24 : ∀ {xs : Nat → Int32} {xaside : Nat → Int32} {xover : Nat → Int32} {v1 : Int32} {v6 : Int32} {v7 : Int32} {H : Heap} {locs : List Loc} {ls : Array Slot}, GX X D (tyM cI cC) A s (wM cI cC ad xs xkept xaside xisK xfound xgone xover xtape xtaped xtok xbeg xend xval xwid xsiz xcel xcar) H locs → lv_has ls 8 [(0, .ref (ad 0)), (1, .int v1), (6, .int v6), (7, .int v7)] → k24 xs xaside xgone xover xsiz xcel v1 v6 v7 = some (r0, o_xs, o_xaside, o_xover) → W p l e ({ frames := 7, cells := 0, slots := 0, locals := 165 }) s m args below meth c H locs 0 0 (MQ below (QcI D (tyM cI cC) (wM cI cC ad o_xs xkept o_xaside xisK xfound xgone o_xover xtape xtaped xtok xbeg xend xval xwid xsiz xcel xcar) A r0) args s 0 0 A) (F0 m 24 ls [])) : ∀ {xs : Nat → Int32} {xaside : Nat → Int32} {xover : Nat → Int32} {v1 : Int32} {v7 : Int32} {H : Heap} {locs : List Loc} {ls : Array Slot}, GX X D (tyM cI cC) A s (wM cI cC ad xs xkept xaside xisK xfound xgone xover xtape xtaped xtok xbeg xend xval xwid xsiz xcel xcar) H locs → lv_has ls 8 [(0, .ref (ad 0)), (1, .int v1), (7, .int v7)] → j5_fitsAs_78 k24 xs xaside xgone xover xsiz xcel v1 v7 = some (r0, o_xs, o_xaside, o_xover) → W p l e ({ frames := 7, cells := 0, slots := 0, locals := 165 }) s m args below meth c H locs 0 0 (MQ below (QcI D (tyM cI cC) (wM cI cC ad o_xs xkept o_xaside xisK xfound xgone o_xover xtape xtaped xtok xbeg xend xval xwid xsiz xcel xcar) A r0) args s 0 0 A) (F0 m 78 ls []) := by
  have hx := C0.1
  have hb := C0.2.1
  have hown := C0.2.2.2.2.1
  have hts := C0.2.2.2.2.2.1
  have hX := C0.2.2.2.2.2.2.2.2
  intro xs xaside xover v1 v7 H locs ls G hl hf
  unfold j5_fitsAs_78 at hf
  refine lv_iconst (v := (1 : Int32)) hx hb dX5_fitsAs_78 (by decide) ?_
  refine lv_goto (tgt := 83) hx hb dX5_fitsAs_79 (by decide) ?_
  exact b5_fitsAs_83 C0 hk24 G (lv_sub hl [0, 1, 2] rfl) hf
set_option maxHeartbeats 4000000 in
set_option maxRecDepth 100000 in
theorem b5_fitsAs_24 {X : XP} {p : Program} {l : Launch} {e : Env} {s : State} {m : MethodId} {args : Array Value} {below : List Frame} {meth : Method} {c : Code} {D : va_G} {cI cC : ClassId} {ad : Nat → Nat} {A : Nat → Prop} {xkept : Nat → Int32} {xisK : Int32} {xfound : Nat → Int32} {xgone : Int32} {xtape : Nat → Int32} {xtaped : Int32} {xtok : Int32} {xbeg : Int32} {xend : Int32} {xval : Int64} {xwid : Nat → Int32} {xsiz : Nat → Int32} {xcel : Nat → Int32} {xcar : Nat → Int32} {r0 : Int32} {o_xs : Nat → Int32} {o_xaside : Nat → Int32} {o_xover : Nat → Int32} (C0 : CX X p s m args meth c cX5_fitsAs 8 (some .boolean) RX5 A) : ∀ (n : Nat) {xs : Nat → Int32} {xaside : Nat → Int32} {xover : Nat → Int32} {v1 : Int32} {v6 : Int32} {v7 : Int32} {H : Heap} {locs : List Loc} {ls : Array Slot}, GX X D (tyM cI cC) A s (wM cI cC ad xs xkept xaside xisK xfound xgone xover xtape xtaped xtok xbeg xend xval xwid xsiz xcel xcar) H locs → lv_has ls 8 [(0, .ref (ad 0)), (1, .int v1), (6, .int v6), (7, .int v7)] → l5_fitsAs_24  n xs xaside xgone xover xsiz xcel v1 v6 v7 = some (r0, o_xs, o_xaside, o_xover) → W p l e ({ frames := 7, cells := 0, slots := 0, locals := 165 }) s m args below meth c H locs 0 0 (MQ below (QcI D (tyM cI cC) (wM cI cC ad o_xs xkept o_xaside xisK xfound xgone o_xover xtape xtaped xtok xbeg xend xval xwid xsiz xcel xcar) A r0) args s 0 0 A) (F0 m 24 ls []) := by
  have hx := C0.1
  have hb := C0.2.1
  have hown := C0.2.2.2.2.1
  have hts := C0.2.2.2.2.2.1
  have hX := C0.2.2.2.2.2.2.2.2
  intro n
  induction n with
  | zero =>
    intro _ _ _ _ _ _ _ _ _ G hl hf
    cases hf
  | succ n ih =>
    intro xs xaside xover v1 v6 v7 H locs ls G hl hf
    rw [l5_fitsAs_24] at hf
    refine lv_iload hx hb dX5_fitsAs_24 (lv_at hl 3 rfl) ?_
    refine lv_aload_n hx hb dX5_fitsAs_26 rfl (lv_at hl 0 rfl) ?_
    refine s_get (C := RX5) (T := TX5) C0 G i_X5 0 17 rfl rfl (by decide) q730 rfl dX5_fitsAs_27 ?_
    refine lv_iload_n hx hb dX5_fitsAs_30 rfl (lv_at hl 1 rfl) ?_
    obtain ⟨hi8, hf⟩ := gd_s hf
    refine s_iald (k := v1.toNatClampNeg) C0 G 11 0 rfl rfl (vin hi8) rfl dX5_fitsAs_31 ?_
    refine lv_icmp_ge (tgt := 91) hx hb dX5_fitsAs_32 (by decide) (fun hc9 => ?_) (fun hc9 => ?_)
    · have hf := itp hc9 hf
      exact b5_fitsAs_91 C0  G (lv_sub hl [0, 2] rfl) hf
    · have hf := itn hc9 hf
      refine lv_iload hx hb dX5_fitsAs_35 (lv_at hl 3 rfl) ?_
      refine lv_bipush (v := (16 : Int32)) hx hb dX5_fitsAs_37 (by decide) ?_
      refine lv_icmp_ge (tgt := 91) hx hb dX5_fitsAs_39 (by decide) (fun hc10 => ?_) (fun hc10 => ?_)
      · have hf := itp hc10 hf
        exact b5_fitsAs_91 C0  G (lv_sub hl [0, 2] rfl) hf
      · have hf := itn hc10 hf
        refine lv_iload hx hb dX5_fitsAs_42 (lv_at hl 2 rfl) ?_
        refine lv_if_eq (tgt := 91) hx hb dX5_fitsAs_44 (by decide) (fun hc11 => ?_) (fun hc11 => ?_)
        · have hf := itp hc11 hf
          exact b5_fitsAs_91 C0  G (lv_sub hl [0, 2] rfl) hf
        · have hf := itn hc11 hf
          refine lv_aload_n hx hb dX5_fitsAs_47 rfl (lv_at hl 0 rfl) ?_
          refine lv_iload_n hx hb dX5_fitsAs_48 rfl (lv_at hl 1 rfl) ?_
          refine lv_iload hx hb dX5_fitsAs_49 (lv_at hl 3 rfl) ?_
          obtain ⟨r12, hc13, hf⟩ := ob1_s hf
          refine go_i C0 G (runV_of (n := 2) (q0 := 0) (As := [.int v1, .int v7]) (rest := []) C0 G (c5_told hX hc13) q1020 q54 q1017 q1019 q41 o5_told ⟨rfl, rfl⟩ ⟨Nat.le_of_ble_eq_true rfl, Nat.le_of_ble_eq_true rfl⟩ rfl rfl rfl hl.1 rfl (Nat.le_of_ble_eq_true rfl) dX5_fitsAs_51) (fun H locs G => ?_)
          refine lv_iconst (v := (-1 : Int32)) hx hb dX5_fitsAs_54 (by decide) ?_
          refine lv_icmp_eq (tgt := 78) hx hb dX5_fitsAs_55 (by decide) (fun hc14 => ?_) (fun hc14 => ?_)
          · have hf := itp hc14 hf
            exact b5_fitsAs_78 C0 ih G (lv_sub hl [0, 1, 3] rfl) hf
          · have hf := itn hc14 hf
            refine lv_aload_n hx hb dX5_fitsAs_58 rfl (lv_at hl 0 rfl) ?_
            refine lv_iload_n hx hb dX5_fitsAs_59 rfl (lv_at hl 1 rfl) ?_
            refine lv_iload hx hb dX5_fitsAs_60 (lv_at hl 3 rfl) ?_
            obtain ⟨r15, hc16, hf⟩ := ob1_s hf
            refine go_i C0 G (runV_of (n := 2) (q0 := 0) (As := [.int v1, .int v7]) (rest := []) C0 G (c5_told hX hc16) q1020 q54 q1017 q1019 q41 o5_told ⟨rfl, rfl⟩ ⟨Nat.le_of_ble_eq_true rfl, Nat.le_of_ble_eq_true rfl⟩ rfl rfl rfl hl.1 rfl (Nat.le_of_ble_eq_true rfl) dX5_fitsAs_62) (fun H locs G => ?_)
            refine lv_aload_n hx hb dX5_fitsAs_65 rfl (lv_at hl 0 rfl) ?_
            refine s_get (C := RX5) (T := TX5) C0 G i_X5 0 0 rfl rfl (by decide) q713 rfl dX5_fitsAs_66 ?_
            refine lv_bipush (v := (6 : Int32)) hx hb dX5_fitsAs_69 (by decide) ?_
            refine lv_iload hx hb dX5_fitsAs_71 (lv_at hl 3 rfl) ?_
            refine lv_iadd hx hb dX5_fitsAs_73 ?_
            obtain ⟨hi17, hf⟩ := gd_s hf
            refine s_iald (k := ((6 : Int32) + v7).toNatClampNeg) C0 G 1 0 rfl rfl (vin hi17) rfl dX5_fitsAs_74 ?_
            refine lv_icmp_ne (tgt := 82) hx hb dX5_fitsAs_75 (by decide) (fun hc18 => ?_) (fun hc18 => ?_)
            · have hf := itn hc18 hf
              refine lv_iconst (v := (0 : Int32)) hx hb dX5_fitsAs_82 (by decide) ?_
              exact b5_fitsAs_83 C0 ih G (lv_sub hl [0, 1, 3] rfl) hf
            · have hf := itp hc18 hf
              exact b5_fitsAs_78 C0 ih G (lv_sub hl [0, 1, 3] rfl) hf
set_option maxHeartbeats 4000000 in
set_option maxRecDepth 100000 in
theorem b5_fitsAs_0 {X : XP} {p : Program} {l : Launch} {e : Env} {s : State} {m : MethodId} {args : Array Value} {below : List Frame} {meth : Method} {c : Code} {D : va_G} {cI cC : ClassId} {ad : Nat → Nat} {A : Nat → Prop} {xkept : Nat → Int32} {xisK : Int32} {xfound : Nat → Int32} {xgone : Int32} {xtape : Nat → Int32} {xtaped : Int32} {xtok : Int32} {xbeg : Int32} {xend : Int32} {xval : Int64} {xwid : Nat → Int32} {xsiz : Nat → Int32} {xcel : Nat → Int32} {xcar : Nat → Int32} {r0 : Int32} {o_xs : Nat → Int32} {o_xaside : Nat → Int32} {o_xover : Nat → Int32} (C0 : CX X p s m args meth c cX5_fitsAs 8 (some .boolean) RX5 A) : ∀ {xs : Nat → Int32} {xaside : Nat → Int32} {xover : Nat → Int32} {v1 : Int32} {v2 : Int32} {v3 : Int32} {v4 : Int32} {v5 : Int32} {H : Heap} {locs : List Loc} {ls : Array Slot}, GX X D (tyM cI cC) A s (wM cI cC ad xs xkept xaside xisK xfound xgone xover xtape xtaped xtok xbeg xend xval xwid xsiz xcel xcar) H locs → lv_has ls 8 [(0, .ref (ad 0)), (1, .int v1), (2, .int v2), (3, .int v3), (4, .int v4), (5, .int v5)] → f5_fitsAs xs xaside xgone xover xsiz xcel v1 v2 v3 v4 v5 = some (r0, o_xs, o_xaside, o_xover) → W p l e ({ frames := 7, cells := 0, slots := 0, locals := 165 }) s m args below meth c H locs 0 0 (MQ below (QcI D (tyM cI cC) (wM cI cC ad o_xs xkept o_xaside xisK xfound xgone o_xover xtape xtaped xtok xbeg xend xval xwid xsiz xcel xcar) A r0) args s 0 0 A) (F0 m 0 ls []) := by
  have hx := C0.1
  have hb := C0.2.1
  have hown := C0.2.2.2.2.1
  have hts := C0.2.2.2.2.2.1
  have hX := C0.2.2.2.2.2.2.2.2
  intro xs xaside xover v1 v2 v3 v4 v5 H locs ls G hl hf
  unfold f5_fitsAs at hf
  refine lv_aload_n hx hb dX5_fitsAs_0 rfl (lv_at hl 0 rfl) ?_
  obtain ⟨xaside_1, hc2, hf⟩ := ob1_s hf
  refine go_v C0 G (runV_of (n := 0) (q0 := 0) (As := []) (rest := []) C0 G (c5_setsAside hX hc2) q919 q54 q916 q918 q30 o5_setsAside ⟨rfl, rfl⟩ ⟨Nat.le_of_ble_eq_true rfl, Nat.le_of_ble_eq_true rfl⟩ rfl rfl rfl hl.1 rfl (Nat.le_of_ble_eq_true rfl) dX5_fitsAs_1) (fun H locs G => ?_)
  refine lv_aload_n hx hb dX5_fitsAs_4 rfl (lv_at hl 0 rfl) ?_
  refine lv_iload_n hx hb dX5_fitsAs_5 rfl (lv_at hl 2 rfl) ?_
  refine lv_iload_n hx hb dX5_fitsAs_6 rfl (lv_at hl 3 rfl) ?_
  refine lv_iload hx hb dX5_fitsAs_7 (lv_at hl 4 rfl) ?_
  obtain ⟨xs_3, hc4, hf⟩ := ob1_s hf
  refine go_v C0 G (runV_of (n := 3) (q0 := 0) (As := [.int v2, .int v3, .int v4]) (rest := []) C0 G (c5_puts hX hc4) q817 q54 q814 q816 q13 o5_puts ⟨rfl, rfl⟩ ⟨Nat.le_of_ble_eq_true rfl, Nat.le_of_ble_eq_true rfl⟩ rfl rfl rfl hl.1 rfl (Nat.le_of_ble_eq_true rfl) dX5_fitsAs_9) (fun H locs G => ?_)
  refine lv_aload_n hx hb dX5_fitsAs_12 rfl (lv_at hl 0 rfl) ?_
  refine lv_iload hx hb dX5_fitsAs_13 (lv_at hl 5 rfl) ?_
  obtain ⟨xs_5, xover_6, hc7, hf⟩ := ob2_s hf
  refine go_v C0 G (runV_of (n := 1) (q0 := 0) (As := [.int v5]) (rest := []) C0 G (c5_goes hX hc7) q871 q54 q868 q870 q20 o5_goes ⟨rfl, rfl⟩ ⟨Nat.le_of_ble_eq_true rfl, Nat.le_of_ble_eq_true rfl⟩ rfl rfl rfl hl.1 rfl (Nat.le_of_ble_eq_true rfl) dX5_fitsAs_15) (fun H locs G => ?_)
  refine lv_iconst (v := (1 : Int32)) hx hb dX5_fitsAs_18 (by decide) ?_
  refine lv_istore (lv' := [(6, .int (1 : Int32)), (0, .ref (ad 0)), (1, .int v1), (2, .int v2), (3, .int v3), (4, .int v4), (5, .int v5)]) hx hb dX5_fitsAs_19 hl (by decide) rfl (fun ls hl => ?_)
  refine lv_iconst (v := (0 : Int32)) hx hb dX5_fitsAs_21 (by decide) ?_
  refine lv_istore (lv' := [(7, .int (0 : Int32)), (6, .int (1 : Int32)), (0, .ref (ad 0)), (1, .int v1), (2, .int v2), (3, .int v3), (4, .int v4), (5, .int v5)]) hx hb dX5_fitsAs_22 hl (by decide) rfl (fun ls hl => ?_)
  exact b5_fitsAs_24 C0  1000 G (lv_sub hl [2, 3, 1, 0] rfl) hf
theorem o5_fitsAs : okName yX5_fitsAs 5 := ⟨by decide, by decide, by decide +kernel⟩
set_option maxHeartbeats 4000000 in
set_option maxRecDepth 100000 in
theorem c5_fitsAs {X : XP} (hX : XT X) {l : Launch} {D : va_G} {cI cC : ClassId} {ad : Nat → Nat} {sz : Nat} {xs : Nat → Int32} {xkept : Nat → Int32} {xaside : Nat → Int32} {xisK : Int32} {xfound : Nat → Int32} {xgone : Int32} {xover : Nat → Int32} {xtape : Nat → Int32} {xtaped : Int32} {xtok : Int32} {xbeg : Int32} {xend : Int32} {xval : Int64} {xwid : Nat → Int32} {xsiz : Nat → Int32} {xcel : Nat → Int32} {xcar : Nat → Int32} {v1 : Int32} {v2 : Int32} {v3 : Int32} {v4 : Int32} {v5 : Int32} {r0 : Int32} {o_xs : Nat → Int32} {o_xaside : Nat → Int32} {o_xover : Nat → Int32} (hf : f5_fitsAs xs xaside xgone xover xsiz xcel v1 v2 v3 v4 v5 = some (r0, o_xs, o_xaside, o_xover)) : Met l yX5_fitsAs (wU yX5_fitsAs cX5_fitsAs 8 (some .boolean)) ({ frames := 7, cells := 0, slots := 0, locals := 165 }) (va_Pc [.ref (ad 0), .int v1, .int v2, .int v3, .int v4, .int v5] (PreW X D (tyM cI cC) (wM cI cC ad xs xkept xaside xisK xfound xgone xover xtape xtaped xtok xbeg xend xval xwid xsiz xcel xcar) sz)) (QcI D (tyM cI cC) (wM cI cC ad o_xs xkept o_xaside xisK xfound xgone o_xover xtape xtaped xtok xbeg xend xval xwid xsiz xcel xcar) (va_A (wM cI cC ad xs xkept xaside xisK xfound xgone xover xtape xtaped xtok xbeg xend xval xwid xsiz xcel xcar) sz) r0) 0 0 (va_A (wM cI cC ad xs xkept xaside xisK xfound xgone xover xtape xtaped xtok xbeg xend xval xwid xsiz xcel xcar) sz) := by
  refine startW hX (own := RX5) (by decide) rfl (Nat.le_of_ble_eq_true rfl) (fun p e s m args below meth c ls C0 G hl => ?_)
  exact b5_fitsAs_0 C0 G hl hf
/-! 5_allThatFit -/
theorem dX5_allThatFit_0 : decode cX5_allThatFit 0 = .ok (.iconst 0, 1) := by decide +kernel
theorem dX5_allThatFit_1 : decode cX5_allThatFit 1 = .ok (.istore 5, 2) := by decide +kernel
theorem dX5_allThatFit_3 : decode cX5_allThatFit 3 = .ok (.iconst 0, 1) := by decide +kernel
theorem dX5_allThatFit_4 : decode cX5_allThatFit 4 = .ok (.istore 6, 2) := by decide +kernel
theorem dX5_allThatFit_6 : decode cX5_allThatFit 6 = .ok (.iload 6, 2) := by decide +kernel
theorem dX5_allThatFit_8 : decode cX5_allThatFit 8 = .ok (.iload_n 3, 1) := by decide +kernel
theorem dX5_allThatFit_9 : decode cX5_allThatFit 9 = .ok (.invokestatic 117, 3) := by decide +kernel
theorem dX5_allThatFit_12 : decode cX5_allThatFit 12 = .ok (.if_icmp .gt 36, 3) := by decide +kernel
theorem dX5_allThatFit_15 : decode cX5_allThatFit 15 = .ok (.iload 5, 2) := by decide +kernel
theorem dX5_allThatFit_17 : decode cX5_allThatFit 17 = .ok (.aload_n 0, 1) := by decide +kernel
theorem dX5_allThatFit_18 : decode cX5_allThatFit 18 = .ok (.iload_n 1, 1) := by decide +kernel
theorem dX5_allThatFit_19 : decode cX5_allThatFit 19 = .ok (.iload_n 2, 1) := by decide +kernel
theorem dX5_allThatFit_20 : decode cX5_allThatFit 20 = .ok (.iload_n 3, 1) := by decide +kernel
theorem dX5_allThatFit_21 : decode cX5_allThatFit 21 = .ok (.iload 6, 2) := by decide +kernel
theorem dX5_allThatFit_23 : decode cX5_allThatFit 23 = .ok (.iload 4, 2) := by decide +kernel
theorem dX5_allThatFit_25 : decode cX5_allThatFit 25 = .ok (.invokevirtual 179, 3) := by decide +kernel
theorem dX5_allThatFit_28 : decode cX5_allThatFit 28 = .ok (.ifCond .eq 10, 3) := by decide +kernel
theorem dX5_allThatFit_31 : decode cX5_allThatFit 31 = .ok (.iconst 1, 1) := by decide +kernel
theorem dX5_allThatFit_32 : decode cX5_allThatFit 32 = .ok (.iload 6, 2) := by decide +kernel
theorem dX5_allThatFit_34 : decode cX5_allThatFit 34 = .ok (.ishl, 1) := by decide +kernel
theorem dX5_allThatFit_35 : decode cX5_allThatFit 35 = .ok (.goto 4, 3) := by decide +kernel
theorem dX5_allThatFit_38 : decode cX5_allThatFit 38 = .ok (.iconst 0, 1) := by decide +kernel
theorem dX5_allThatFit_39 : decode cX5_allThatFit 39 = .ok (.ior, 1) := by decide +kernel
theorem dX5_allThatFit_40 : decode cX5_allThatFit 40 = .ok (.istore 5, 2) := by decide +kernel
theorem dX5_allThatFit_42 : decode cX5_allThatFit 42 = .ok (.iinc 6 1, 3) := by decide +kernel
theorem dX5_allThatFit_45 : decode cX5_allThatFit 45 = .ok (.goto (-39), 3) := by decide +kernel
theorem dX5_allThatFit_48 : decode cX5_allThatFit 48 = .ok (.iload 5, 2) := by decide +kernel
theorem dX5_allThatFit_50 : decode cX5_allThatFit 50 = .ok (.ireturn, 1) := by decide +kernel
def j5_allThatFit_39 (k6 : (Nat → Int32) → (Nat → Int32) → Int32 → (Nat → Int32) → (Nat → Int32) → (Nat → Int32) → Int32 → Int32 → Int32 → Int32 → Int32 → Int32 → Option (Int32 × (Nat → Int32) × (Nat → Int32) × (Nat → Int32))) (xs : Nat → Int32) (xaside : Nat → Int32) (xgone : Int32) (xover : Nat → Int32) (xsiz : Nat → Int32) (xcel : Nat → Int32) (v1 : Int32) (v2 : Int32) (v3 : Int32) (v4 : Int32) (v6 : Int32) (t0 : Int32) (t1 : Int32) : Option (Int32 × (Nat → Int32) × (Nat → Int32) × (Nat → Int32)) :=
  k6 xs xaside xgone xover xsiz xcel v1 v2 v3 v4 (t0 ||| t1) (v6 + (1 : Int32))
def l5_allThatFit_6  : Nat → (Nat → Int32) → (Nat → Int32) → Int32 → (Nat → Int32) → (Nat → Int32) → (Nat → Int32) → Int32 → Int32 → Int32 → Int32 → Int32 → Int32 → Option (Int32 × (Nat → Int32) × (Nat → Int32) × (Nat → Int32))
  | 0, _, _, _, _, _, _, _, _, _, _, _, _ => none
  | n + 1, xs, xaside, xgone, xover, xsiz, xcel, v1, v2, v3, v4, v5, v6 =>
    if (f5_mostOf v3) < v6 then (
      some (v5, xs, xaside, xover))
    else (
      ob4 (f5_fitsAs xs xaside xgone xover xsiz xcel v1 v2 v3 v6 v4) (fun r2 xs_3 xaside_4 xover_5 =>
      if r2 = (0 : Int32) then (
        j5_allThatFit_39 (l5_allThatFit_6 n) xs_3 xaside_4 xgone xover_5 xsiz xcel v1 v2 v3 v4 v6 v5 (0 : Int32))
      else (
        j5_allThatFit_39 (l5_allThatFit_6 n) xs_3 xaside_4 xgone xover_5 xsiz xcel v1 v2 v3 v4 v6 v5 ((1 : Int32) <<< (v6 &&& 31)))))
def f5_allThatFit (xs : Nat → Int32) (xaside : Nat → Int32) (xgone : Int32) (xover : Nat → Int32) (xsiz : Nat → Int32) (xcel : Nat → Int32) (v1 : Int32) (v2 : Int32) (v3 : Int32) (v4 : Int32) : Option (Int32 × (Nat → Int32) × (Nat → Int32) × (Nat → Int32)) :=
  l5_allThatFit_6 1000 xs xaside xgone xover xsiz xcel v1 v2 v3 v4 (0 : Int32) (0 : Int32)
set_option maxHeartbeats 4000000 in
set_option maxRecDepth 100000 in
theorem b5_allThatFit_39 {X : XP} {p : Program} {l : Launch} {e : Env} {s : State} {m : MethodId} {args : Array Value} {below : List Frame} {meth : Method} {c : Code} {D : va_G} {cI cC : ClassId} {ad : Nat → Nat} {A : Nat → Prop} {xkept : Nat → Int32} {xisK : Int32} {xfound : Nat → Int32} {xgone : Int32} {xtape : Nat → Int32} {xtaped : Int32} {xtok : Int32} {xbeg : Int32} {xend : Int32} {xval : Int64} {xwid : Nat → Int32} {xsiz : Nat → Int32} {xcel : Nat → Int32} {xcar : Nat → Int32} {r0 : Int32} {o_xs : Nat → Int32} {o_xaside : Nat → Int32} {o_xover : Nat → Int32} (C0 : CX X p s m args meth c cX5_allThatFit 7 (some .int) RX5 A) {k6 : (Nat → Int32) → (Nat → Int32) → Int32 → (Nat → Int32) → (Nat → Int32) → (Nat → Int32) → Int32 → Int32 → Int32 → Int32 → Int32 → Int32 → Option (Int32 × (Nat → Int32) × (Nat → Int32) × (Nat → Int32))} (hk6 : ∀ {xs : Nat → Int32} {xaside : Nat → Int32} {xover : Nat → Int32} {v1 : Int32} {v2 : Int32} {v3 : Int32} {v4 : Int32} {v5 : Int32} {v6 : Int32} {H : Heap} {locs : List Loc} {ls : Array Slot}, GX X D (tyM cI cC) A s (wM cI cC ad xs xkept xaside xisK xfound xgone xover xtape xtaped xtok xbeg xend xval xwid xsiz xcel xcar) H locs → lv_has ls 7 [(0, .ref (ad 0)), (1, .int v1), (2, .int v2), (3, .int v3), (4, .int v4), (5, .int v5), (6, .int v6)] → k6 xs xaside xgone xover xsiz xcel v1 v2 v3 v4 v5 v6 = some (r0, o_xs, o_xaside, o_xover) → W p l e ({ frames := 8, cells := 0, slots := 0, locals := 192 }) s m args below meth c H locs 0 0 (MQ below (QcI D (tyM cI cC) (wM cI cC ad o_xs xkept o_xaside xisK xfound xgone o_xover xtape xtaped xtok xbeg xend xval xwid xsiz xcel xcar) A r0) args s 0 0 A) (F0 m 6 ls [])) : ∀ {xs : Nat → Int32} {xaside : Nat → Int32} {xover : Nat → Int32} {v1 : Int32} {v2 : Int32} {v3 : Int32} {v4 : Int32} {v6 : Int32} {t0 : Int32} {t1 : Int32} {H : Heap} {locs : List Loc} {ls : Array Slot}, GX X D (tyM cI cC) A s (wM cI cC ad xs xkept xaside xisK xfound xgone xover xtape xtaped xtok xbeg xend xval xwid xsiz xcel xcar) H locs → lv_has ls 7 [(0, .ref (ad 0)), (1, .int v1), (2, .int v2), (3, .int v3), (4, .int v4), (6, .int v6)] → j5_allThatFit_39 k6 xs xaside xgone xover xsiz xcel v1 v2 v3 v4 v6 t0 t1 = some (r0, o_xs, o_xaside, o_xover) → W p l e ({ frames := 8, cells := 0, slots := 0, locals := 192 }) s m args below meth c H locs 0 0 (MQ below (QcI D (tyM cI cC) (wM cI cC ad o_xs xkept o_xaside xisK xfound xgone o_xover xtape xtaped xtok xbeg xend xval xwid xsiz xcel xcar) A r0) args s 0 0 A) (F0 m 39 ls [.int t1, .int t0]) := by
  have hx := C0.1
  have hb := C0.2.1
  have hown := C0.2.2.2.2.1
  have hts := C0.2.2.2.2.2.1
  have hX := C0.2.2.2.2.2.2.2.2
  intro xs xaside xover v1 v2 v3 v4 v6 t0 t1 H locs ls G hl hf
  unfold j5_allThatFit_39 at hf
  refine lv_ior hx hb dX5_allThatFit_39 ?_
  refine lv_istore (lv' := [(5, .int (t0 ||| t1)), (0, .ref (ad 0)), (1, .int v1), (2, .int v2), (3, .int v3), (4, .int v4), (6, .int v6)]) hx hb dX5_allThatFit_40 hl (by decide) rfl (fun ls hl => ?_)
  refine lv_iinc (v := (v6 + (1 : Int32))) (lv' := [(6, .int (v6 + (1 : Int32))), (5, .int (t0 ||| t1)), (0, .ref (ad 0)), (1, .int v1), (2, .int v2), (3, .int v3), (4, .int v4)]) hx hb dX5_allThatFit_42 hl (k := 6) rfl rfl (by decide) rfl (fun ls hl => ?_)
  refine lv_goto (tgt := 6) hx hb dX5_allThatFit_45 (by decide) ?_
  exact hk6 G (lv_sub hl [2, 3, 4, 5, 6, 1, 0] rfl) hf
set_option maxHeartbeats 4000000 in
set_option maxRecDepth 100000 in
theorem b5_allThatFit_6 {X : XP} {p : Program} {l : Launch} {e : Env} {s : State} {m : MethodId} {args : Array Value} {below : List Frame} {meth : Method} {c : Code} {D : va_G} {cI cC : ClassId} {ad : Nat → Nat} {A : Nat → Prop} {xkept : Nat → Int32} {xisK : Int32} {xfound : Nat → Int32} {xgone : Int32} {xtape : Nat → Int32} {xtaped : Int32} {xtok : Int32} {xbeg : Int32} {xend : Int32} {xval : Int64} {xwid : Nat → Int32} {xsiz : Nat → Int32} {xcel : Nat → Int32} {xcar : Nat → Int32} {r0 : Int32} {o_xs : Nat → Int32} {o_xaside : Nat → Int32} {o_xover : Nat → Int32} (C0 : CX X p s m args meth c cX5_allThatFit 7 (some .int) RX5 A) : ∀ (n : Nat) {xs : Nat → Int32} {xaside : Nat → Int32} {xover : Nat → Int32} {v1 : Int32} {v2 : Int32} {v3 : Int32} {v4 : Int32} {v5 : Int32} {v6 : Int32} {H : Heap} {locs : List Loc} {ls : Array Slot}, GX X D (tyM cI cC) A s (wM cI cC ad xs xkept xaside xisK xfound xgone xover xtape xtaped xtok xbeg xend xval xwid xsiz xcel xcar) H locs → lv_has ls 7 [(0, .ref (ad 0)), (1, .int v1), (2, .int v2), (3, .int v3), (4, .int v4), (5, .int v5), (6, .int v6)] → l5_allThatFit_6  n xs xaside xgone xover xsiz xcel v1 v2 v3 v4 v5 v6 = some (r0, o_xs, o_xaside, o_xover) → W p l e ({ frames := 8, cells := 0, slots := 0, locals := 192 }) s m args below meth c H locs 0 0 (MQ below (QcI D (tyM cI cC) (wM cI cC ad o_xs xkept o_xaside xisK xfound xgone o_xover xtape xtaped xtok xbeg xend xval xwid xsiz xcel xcar) A r0) args s 0 0 A) (F0 m 6 ls []) := by
  have hx := C0.1
  have hb := C0.2.1
  have hown := C0.2.2.2.2.1
  have hts := C0.2.2.2.2.2.1
  have hX := C0.2.2.2.2.2.2.2.2
  intro n
  induction n with
  | zero =>
    intro _ _ _ _ _ _ _ _ _ _ _ _ G hl hf
    cases hf
  | succ n ih =>
    intro xs xaside xover v1 v2 v3 v4 v5 v6 H locs ls G hl hf
    rw [l5_allThatFit_6] at hf
    refine lv_iload hx hb dX5_allThatFit_6 (lv_at hl 6 rfl) ?_
    refine lv_iload_n hx hb dX5_allThatFit_8 rfl (lv_at hl 3 rfl) ?_
    refine go_i C0 G (runS_of (n := 1) (As := [.int v3]) (rest := [.int v6]) C0 G (c5_mostOf hX rfl) q850 q54 q848 q849 o5_mostOf ⟨rfl, rfl⟩ ⟨Nat.le_of_ble_eq_true rfl, Nat.le_of_ble_eq_true rfl⟩ rfl hl.1 rfl (Nat.le_of_ble_eq_true rfl) dX5_allThatFit_9) (fun H locs G => ?_)
    refine lv_icmp_gt (tgt := 48) hx hb dX5_allThatFit_12 (by decide) (fun hc1 => ?_) (fun hc1 => ?_)
    · have hf := itp hc1 hf
      refine lv_iload hx hb dX5_allThatFit_48 (lv_at hl 5 rfl) ?_
      obtain ⟨rfl, rfl, rfl, rfl⟩ := inj4 hf
      exact ret_i C0 G dX5_allThatFit_50
    · have hf := itn hc1 hf
      refine lv_iload hx hb dX5_allThatFit_15 (lv_at hl 5 rfl) ?_
      refine lv_aload_n hx hb dX5_allThatFit_17 rfl (lv_at hl 0 rfl) ?_
      refine lv_iload_n hx hb dX5_allThatFit_18 rfl (lv_at hl 1 rfl) ?_
      refine lv_iload_n hx hb dX5_allThatFit_19 rfl (lv_at hl 2 rfl) ?_
      refine lv_iload_n hx hb dX5_allThatFit_20 rfl (lv_at hl 3 rfl) ?_
      refine lv_iload hx hb dX5_allThatFit_21 (lv_at hl 6 rfl) ?_
      refine lv_iload hx hb dX5_allThatFit_23 (lv_at hl 4 rfl) ?_
      obtain ⟨r2, xs_3, xaside_4, xover_5, hc6, hf⟩ := ob4_s hf
      refine go_i C0 G (runV_of (n := 5) (q0 := 0) (As := [.int v1, .int v2, .int v3, .int v6, .int v4]) (rest := [.int v5]) C0 G (c5_fitsAs hX hc6) q1016 q54 q1013 q1015 q40 o5_fitsAs ⟨rfl, rfl⟩ ⟨Nat.le_of_ble_eq_true rfl, Nat.le_of_ble_eq_true rfl⟩ rfl rfl rfl hl.1 rfl (Nat.le_of_ble_eq_true rfl) dX5_allThatFit_25) (fun H locs G => ?_)
      refine lv_if_eq (tgt := 38) hx hb dX5_allThatFit_28 (by decide) (fun hc7 => ?_) (fun hc7 => ?_)
      · have hf := itp hc7 hf
        refine lv_iconst (v := (0 : Int32)) hx hb dX5_allThatFit_38 (by decide) ?_
        exact b5_allThatFit_39 C0 ih G (lv_sub hl [0, 1, 2, 3, 4, 6] rfl) hf
      · have hf := itn hc7 hf
        refine lv_iconst (v := (1 : Int32)) hx hb dX5_allThatFit_31 (by decide) ?_
        refine lv_iload hx hb dX5_allThatFit_32 (lv_at hl 6 rfl) ?_
        refine lv_ishl hx hb dX5_allThatFit_34 ?_
        refine lv_goto (tgt := 39) hx hb dX5_allThatFit_35 (by decide) ?_
        exact b5_allThatFit_39 C0 ih G (lv_sub hl [0, 1, 2, 3, 4, 6] rfl) hf
set_option maxHeartbeats 4000000 in
set_option maxRecDepth 100000 in
theorem b5_allThatFit_0 {X : XP} {p : Program} {l : Launch} {e : Env} {s : State} {m : MethodId} {args : Array Value} {below : List Frame} {meth : Method} {c : Code} {D : va_G} {cI cC : ClassId} {ad : Nat → Nat} {A : Nat → Prop} {xkept : Nat → Int32} {xisK : Int32} {xfound : Nat → Int32} {xgone : Int32} {xtape : Nat → Int32} {xtaped : Int32} {xtok : Int32} {xbeg : Int32} {xend : Int32} {xval : Int64} {xwid : Nat → Int32} {xsiz : Nat → Int32} {xcel : Nat → Int32} {xcar : Nat → Int32} {r0 : Int32} {o_xs : Nat → Int32} {o_xaside : Nat → Int32} {o_xover : Nat → Int32} (C0 : CX X p s m args meth c cX5_allThatFit 7 (some .int) RX5 A) : ∀ {xs : Nat → Int32} {xaside : Nat → Int32} {xover : Nat → Int32} {v1 : Int32} {v2 : Int32} {v3 : Int32} {v4 : Int32} {H : Heap} {locs : List Loc} {ls : Array Slot}, GX X D (tyM cI cC) A s (wM cI cC ad xs xkept xaside xisK xfound xgone xover xtape xtaped xtok xbeg xend xval xwid xsiz xcel xcar) H locs → lv_has ls 7 [(0, .ref (ad 0)), (1, .int v1), (2, .int v2), (3, .int v3), (4, .int v4)] → f5_allThatFit xs xaside xgone xover xsiz xcel v1 v2 v3 v4 = some (r0, o_xs, o_xaside, o_xover) → W p l e ({ frames := 8, cells := 0, slots := 0, locals := 192 }) s m args below meth c H locs 0 0 (MQ below (QcI D (tyM cI cC) (wM cI cC ad o_xs xkept o_xaside xisK xfound xgone o_xover xtape xtaped xtok xbeg xend xval xwid xsiz xcel xcar) A r0) args s 0 0 A) (F0 m 0 ls []) := by
  have hx := C0.1
  have hb := C0.2.1
  have hown := C0.2.2.2.2.1
  have hts := C0.2.2.2.2.2.1
  have hX := C0.2.2.2.2.2.2.2.2
  intro xs xaside xover v1 v2 v3 v4 H locs ls G hl hf
  unfold f5_allThatFit at hf
  refine lv_iconst (v := (0 : Int32)) hx hb dX5_allThatFit_0 (by decide) ?_
  refine lv_istore (lv' := [(5, .int (0 : Int32)), (0, .ref (ad 0)), (1, .int v1), (2, .int v2), (3, .int v3), (4, .int v4)]) hx hb dX5_allThatFit_1 hl (by decide) rfl (fun ls hl => ?_)
  refine lv_iconst (v := (0 : Int32)) hx hb dX5_allThatFit_3 (by decide) ?_
  refine lv_istore (lv' := [(6, .int (0 : Int32)), (5, .int (0 : Int32)), (0, .ref (ad 0)), (1, .int v1), (2, .int v2), (3, .int v3), (4, .int v4)]) hx hb dX5_allThatFit_4 hl (by decide) rfl (fun ls hl => ?_)
  exact b5_allThatFit_6 C0  1000 G (lv_sub hl [2, 3, 4, 5, 6, 1, 0] rfl) hf
theorem o5_allThatFit : okName yX5_allThatFit 4 := ⟨by decide, by decide, by decide +kernel⟩
set_option maxHeartbeats 4000000 in
set_option maxRecDepth 100000 in
theorem c5_allThatFit {X : XP} (hX : XT X) {l : Launch} {D : va_G} {cI cC : ClassId} {ad : Nat → Nat} {sz : Nat} {xs : Nat → Int32} {xkept : Nat → Int32} {xaside : Nat → Int32} {xisK : Int32} {xfound : Nat → Int32} {xgone : Int32} {xover : Nat → Int32} {xtape : Nat → Int32} {xtaped : Int32} {xtok : Int32} {xbeg : Int32} {xend : Int32} {xval : Int64} {xwid : Nat → Int32} {xsiz : Nat → Int32} {xcel : Nat → Int32} {xcar : Nat → Int32} {v1 : Int32} {v2 : Int32} {v3 : Int32} {v4 : Int32} {r0 : Int32} {o_xs : Nat → Int32} {o_xaside : Nat → Int32} {o_xover : Nat → Int32} (hf : f5_allThatFit xs xaside xgone xover xsiz xcel v1 v2 v3 v4 = some (r0, o_xs, o_xaside, o_xover)) : Met l yX5_allThatFit (wU yX5_allThatFit cX5_allThatFit 7 (some .int)) ({ frames := 8, cells := 0, slots := 0, locals := 192 }) (va_Pc [.ref (ad 0), .int v1, .int v2, .int v3, .int v4] (PreW X D (tyM cI cC) (wM cI cC ad xs xkept xaside xisK xfound xgone xover xtape xtaped xtok xbeg xend xval xwid xsiz xcel xcar) sz)) (QcI D (tyM cI cC) (wM cI cC ad o_xs xkept o_xaside xisK xfound xgone o_xover xtape xtaped xtok xbeg xend xval xwid xsiz xcel xcar) (va_A (wM cI cC ad xs xkept xaside xisK xfound xgone xover xtape xtaped xtok xbeg xend xval xwid xsiz xcel xcar) sz) r0) 0 0 (va_A (wM cI cC ad xs xkept xaside xisK xfound xgone xover xtape xtaped xtok xbeg xend xval xwid xsiz xcel xcar) sz) := by
  refine startW hX (own := RX5) (by decide) rfl (Nat.le_of_ble_eq_true rfl) (fun p e s m args below meth c ls C0 G hl => ?_)
  exact b5_allThatFit_0 C0 G hl hf
/-! 5_fits -/
theorem dX5_fits_0 : decode cX5_fits 0 = .ok (.aload_n 0, 1) := by decide +kernel
theorem dX5_fits_1 : decode cX5_fits 1 = .ok (.iload_n 1, 1) := by decide +kernel
theorem dX5_fits_2 : decode cX5_fits 2 = .ok (.iload_n 2, 1) := by decide +kernel
theorem dX5_fits_3 : decode cX5_fits 3 = .ok (.iload_n 3, 1) := by decide +kernel
theorem dX5_fits_4 : decode cX5_fits 4 = .ok (.invokevirtual 183, 3) := by decide +kernel
theorem dX5_fits_7 : decode cX5_fits 7 = .ok (.istore 4, 2) := by decide +kernel
theorem dX5_fits_9 : decode cX5_fits 9 = .ok (.iload 4, 2) := by decide +kernel
theorem dX5_fits_11 : decode cX5_fits 11 = .ok (.ifCond .lt 12, 3) := by decide +kernel
theorem dX5_fits_14 : decode cX5_fits 14 = .ok (.aload_n 0, 1) := by decide +kernel
theorem dX5_fits_15 : decode cX5_fits 15 = .ok (.iload 4, 2) := by decide +kernel
theorem dX5_fits_17 : decode cX5_fits 17 = .ok (.invokevirtual 105, 3) := by decide +kernel
theorem dX5_fits_20 : decode cX5_fits 20 = .ok (.goto 11, 3) := by decide +kernel
theorem dX5_fits_23 : decode cX5_fits 23 = .ok (.aload_n 0, 1) := by decide +kernel
theorem dX5_fits_24 : decode cX5_fits 24 = .ok (.iload_n 1, 1) := by decide +kernel
theorem dX5_fits_25 : decode cX5_fits 25 = .ok (.iload_n 2, 1) := by decide +kernel
theorem dX5_fits_26 : decode cX5_fits 26 = .ok (.iconst 1, 1) := by decide +kernel
theorem dX5_fits_27 : decode cX5_fits 27 = .ok (.iload_n 3, 1) := by decide +kernel
theorem dX5_fits_28 : decode cX5_fits 28 = .ok (.invokevirtual 186, 3) := by decide +kernel
theorem dX5_fits_31 : decode cX5_fits 31 = .ok (.ireturn, 1) := by decide +kernel
def f5_fits (xs : Nat → Int32) (xaside : Nat → Int32) (xfound : Nat → Int32) (xgone : Int32) (xover : Nat → Int32) (xwid : Nat → Int32) (xsiz : Nat → Int32) (xcel : Nat → Int32) (v1 : Int32) (v2 : Int32) (v3 : Int32) : Option (Int32 × (Nat → Int32) × (Nat → Int32) × (Nat → Int32) × (Nat → Int32)) :=
  ob1 (f5_wrongTold xs xwid v1 v2 v3) (fun r1 =>
  if r1 < (0 : Int32) then (
    ob4 (f5_allThatFit xs xaside xgone xover xsiz xcel v1 v2 (1 : Int32) v3) (fun r4 xs_5 xaside_6 xover_7 =>
    some (r4, xs_5, xaside_6, xfound, xover_7)))
  else (
    ob2 (f5_no xfound r1) (fun r9 xfound_10 =>
    some (r9, xs, xaside, xfound_10, xover))))
set_option maxHeartbeats 4000000 in
set_option maxRecDepth 100000 in
theorem b5_fits_0 {X : XP} {p : Program} {l : Launch} {e : Env} {s : State} {m : MethodId} {args : Array Value} {below : List Frame} {meth : Method} {c : Code} {D : va_G} {cI cC : ClassId} {ad : Nat → Nat} {A : Nat → Prop} {xkept : Nat → Int32} {xisK : Int32} {xgone : Int32} {xtape : Nat → Int32} {xtaped : Int32} {xtok : Int32} {xbeg : Int32} {xend : Int32} {xval : Int64} {xwid : Nat → Int32} {xsiz : Nat → Int32} {xcel : Nat → Int32} {xcar : Nat → Int32} {r0 : Int32} {o_xs : Nat → Int32} {o_xaside : Nat → Int32} {o_xfound : Nat → Int32} {o_xover : Nat → Int32} (C0 : CX X p s m args meth c cX5_fits 5 (some .int) RX5 A) : ∀ {xs : Nat → Int32} {xaside : Nat → Int32} {xfound : Nat → Int32} {xover : Nat → Int32} {v1 : Int32} {v2 : Int32} {v3 : Int32} {H : Heap} {locs : List Loc} {ls : Array Slot}, GX X D (tyM cI cC) A s (wM cI cC ad xs xkept xaside xisK xfound xgone xover xtape xtaped xtok xbeg xend xval xwid xsiz xcel xcar) H locs → lv_has ls 5 [(0, .ref (ad 0)), (1, .int v1), (2, .int v2), (3, .int v3)] → f5_fits xs xaside xfound xgone xover xwid xsiz xcel v1 v2 v3 = some (r0, o_xs, o_xaside, o_xfound, o_xover) → W p l e ({ frames := 9, cells := 0, slots := 0, locals := 218 }) s m args below meth c H locs 0 0 (MQ below (QcI D (tyM cI cC) (wM cI cC ad o_xs xkept o_xaside xisK o_xfound xgone o_xover xtape xtaped xtok xbeg xend xval xwid xsiz xcel xcar) A r0) args s 0 0 A) (F0 m 0 ls []) := by
  have hx := C0.1
  have hb := C0.2.1
  have hown := C0.2.2.2.2.1
  have hts := C0.2.2.2.2.2.1
  have hX := C0.2.2.2.2.2.2.2.2
  intro xs xaside xfound xover v1 v2 v3 H locs ls G hl hf
  unfold f5_fits at hf
  refine lv_aload_n hx hb dX5_fits_0 rfl (lv_at hl 0 rfl) ?_
  refine lv_iload_n hx hb dX5_fits_1 rfl (lv_at hl 1 rfl) ?_
  refine lv_iload_n hx hb dX5_fits_2 rfl (lv_at hl 2 rfl) ?_
  refine lv_iload_n hx hb dX5_fits_3 rfl (lv_at hl 3 rfl) ?_
  obtain ⟨r1, hc2, hf⟩ := ob1_s hf
  refine go_i C0 G (runV_of (n := 3) (q0 := 0) (As := [.int v1, .int v2, .int v3]) (rest := []) C0 G (c5_wrongTold hX hc2) q1001 q54 q998 q1000 q37 o5_wrongTold ⟨rfl, rfl⟩ ⟨Nat.le_of_ble_eq_true rfl, Nat.le_of_ble_eq_true rfl⟩ rfl rfl rfl hl.1 rfl (Nat.le_of_ble_eq_true rfl) dX5_fits_4) (fun H locs G => ?_)
  refine lv_istore (lv' := [(4, .int r1), (0, .ref (ad 0)), (1, .int v1), (2, .int v2), (3, .int v3)]) hx hb dX5_fits_7 hl (by decide) rfl (fun ls hl => ?_)
  refine lv_iload hx hb dX5_fits_9 (lv_at hl 0 rfl) ?_
  refine lv_if_lt (tgt := 23) hx hb dX5_fits_11 (by decide) (fun hc3 => ?_) (fun hc3 => ?_)
  · have hf := itp hc3 hf
    refine lv_aload_n hx hb dX5_fits_23 rfl (lv_at hl 1 rfl) ?_
    refine lv_iload_n hx hb dX5_fits_24 rfl (lv_at hl 2 rfl) ?_
    refine lv_iload_n hx hb dX5_fits_25 rfl (lv_at hl 3 rfl) ?_
    refine lv_iconst (v := (1 : Int32)) hx hb dX5_fits_26 (by decide) ?_
    refine lv_iload_n hx hb dX5_fits_27 rfl (lv_at hl 4 rfl) ?_
    obtain ⟨r4, xs_5, xaside_6, xover_7, hc8, hf⟩ := ob4_s hf
    refine go_i C0 G (runV_of (n := 4) (q0 := 0) (As := [.int v1, .int v2, .int (1 : Int32), .int v3]) (rest := []) C0 G (c5_allThatFit hX hc8) q1012 q54 q1009 q1011 q39 o5_allThatFit ⟨rfl, rfl⟩ ⟨Nat.le_of_ble_eq_true rfl, Nat.le_of_ble_eq_true rfl⟩ rfl rfl rfl hl.1 rfl (Nat.le_of_ble_eq_true rfl) dX5_fits_28) (fun H locs G => ?_)
    obtain ⟨rfl, rfl, rfl, rfl, rfl⟩ := inj5 hf
    exact ret_i C0 G dX5_fits_31
  · have hf := itn hc3 hf
    refine lv_aload_n hx hb dX5_fits_14 rfl (lv_at hl 1 rfl) ?_
    refine lv_iload hx hb dX5_fits_15 (lv_at hl 0 rfl) ?_
    obtain ⟨r9, xfound_10, hc11, hf⟩ := ob2_s hf
    refine go_i C0 G (runV_of (n := 1) (q0 := 0) (As := [.int r1]) (rest := []) C0 G (c5_no hX hc11) q788 q54 q785 q787 q9 o5_no ⟨rfl, rfl⟩ ⟨Nat.le_of_ble_eq_true rfl, Nat.le_of_ble_eq_true rfl⟩ rfl rfl rfl hl.1 rfl (Nat.le_of_ble_eq_true rfl) dX5_fits_17) (fun H locs G => ?_)
    refine lv_goto (tgt := 31) hx hb dX5_fits_20 (by decide) ?_
    obtain ⟨rfl, rfl, rfl, rfl, rfl⟩ := inj5 hf
    exact ret_i C0 G dX5_fits_31
theorem o5_fits : okName yX5_fits 3 := ⟨by decide, by decide, by decide +kernel⟩
set_option maxHeartbeats 4000000 in
set_option maxRecDepth 100000 in
theorem c5_fits {X : XP} (hX : XT X) {l : Launch} {D : va_G} {cI cC : ClassId} {ad : Nat → Nat} {sz : Nat} {xs : Nat → Int32} {xkept : Nat → Int32} {xaside : Nat → Int32} {xisK : Int32} {xfound : Nat → Int32} {xgone : Int32} {xover : Nat → Int32} {xtape : Nat → Int32} {xtaped : Int32} {xtok : Int32} {xbeg : Int32} {xend : Int32} {xval : Int64} {xwid : Nat → Int32} {xsiz : Nat → Int32} {xcel : Nat → Int32} {xcar : Nat → Int32} {v1 : Int32} {v2 : Int32} {v3 : Int32} {r0 : Int32} {o_xs : Nat → Int32} {o_xaside : Nat → Int32} {o_xfound : Nat → Int32} {o_xover : Nat → Int32} (hf : f5_fits xs xaside xfound xgone xover xwid xsiz xcel v1 v2 v3 = some (r0, o_xs, o_xaside, o_xfound, o_xover)) : Met l yX5_fits (wU yX5_fits cX5_fits 5 (some .int)) ({ frames := 9, cells := 0, slots := 0, locals := 218 }) (va_Pc [.ref (ad 0), .int v1, .int v2, .int v3] (PreW X D (tyM cI cC) (wM cI cC ad xs xkept xaside xisK xfound xgone xover xtape xtaped xtok xbeg xend xval xwid xsiz xcel xcar) sz)) (QcI D (tyM cI cC) (wM cI cC ad o_xs xkept o_xaside xisK o_xfound xgone o_xover xtape xtaped xtok xbeg xend xval xwid xsiz xcel xcar) (va_A (wM cI cC ad xs xkept xaside xisK xfound xgone xover xtape xtaped xtok xbeg xend xval xwid xsiz xcel xcar) sz) r0) 0 0 (va_A (wM cI cC ad xs xkept xaside xisK xfound xgone xover xtape xtaped xtok xbeg xend xval xwid xsiz xcel xcar) sz) := by
  refine startW hX (own := RX5) (by decide) rfl (Nat.le_of_ble_eq_true rfl) (fun p e s m args below meth c ls C0 G hl => ?_)
  exact b5_fits_0 C0 G hl hf
/-! 5_kinds -/
theorem dX5_kinds_0 : decode cX5_kinds 0 = .ok (.aload_n 0, 1) := by decide +kernel
theorem dX5_kinds_1 : decode cX5_kinds 1 = .ok (.iload_n 1, 1) := by decide +kernel
theorem dX5_kinds_2 : decode cX5_kinds 2 = .ok (.iload_n 2, 1) := by decide +kernel
theorem dX5_kinds_3 : decode cX5_kinds 3 = .ok (.iload_n 3, 1) := by decide +kernel
theorem dX5_kinds_4 : decode cX5_kinds 4 = .ok (.invokevirtual 183, 3) := by decide +kernel
theorem dX5_kinds_7 : decode cX5_kinds 7 = .ok (.istore 4, 2) := by decide +kernel
theorem dX5_kinds_9 : decode cX5_kinds 9 = .ok (.iload 4, 2) := by decide +kernel
theorem dX5_kinds_11 : decode cX5_kinds 11 = .ok (.ifCond .lt 12, 3) := by decide +kernel
theorem dX5_kinds_14 : decode cX5_kinds 14 = .ok (.aload_n 0, 1) := by decide +kernel
theorem dX5_kinds_15 : decode cX5_kinds 15 = .ok (.iload 4, 2) := by decide +kernel
theorem dX5_kinds_17 : decode cX5_kinds 17 = .ok (.invokevirtual 105, 3) := by decide +kernel
theorem dX5_kinds_20 : decode cX5_kinds 20 = .ok (.goto 11, 3) := by decide +kernel
theorem dX5_kinds_23 : decode cX5_kinds 23 = .ok (.aload_n 0, 1) := by decide +kernel
theorem dX5_kinds_24 : decode cX5_kinds 24 = .ok (.iload_n 1, 1) := by decide +kernel
theorem dX5_kinds_25 : decode cX5_kinds 25 = .ok (.iload_n 2, 1) := by decide +kernel
theorem dX5_kinds_26 : decode cX5_kinds 26 = .ok (.iconst 0, 1) := by decide +kernel
theorem dX5_kinds_27 : decode cX5_kinds 27 = .ok (.iload_n 3, 1) := by decide +kernel
theorem dX5_kinds_28 : decode cX5_kinds 28 = .ok (.invokevirtual 186, 3) := by decide +kernel
theorem dX5_kinds_31 : decode cX5_kinds 31 = .ok (.ireturn, 1) := by decide +kernel
def f5_kinds (xs : Nat → Int32) (xaside : Nat → Int32) (xfound : Nat → Int32) (xgone : Int32) (xover : Nat → Int32) (xwid : Nat → Int32) (xsiz : Nat → Int32) (xcel : Nat → Int32) (v1 : Int32) (v2 : Int32) (v3 : Int32) : Option (Int32 × (Nat → Int32) × (Nat → Int32) × (Nat → Int32) × (Nat → Int32)) :=
  ob1 (f5_wrongTold xs xwid v1 v2 v3) (fun r1 =>
  if r1 < (0 : Int32) then (
    ob4 (f5_allThatFit xs xaside xgone xover xsiz xcel v1 v2 (0 : Int32) v3) (fun r4 xs_5 xaside_6 xover_7 =>
    some (r4, xs_5, xaside_6, xfound, xover_7)))
  else (
    ob2 (f5_no xfound r1) (fun r9 xfound_10 =>
    some (r9, xs, xaside, xfound_10, xover))))
set_option maxHeartbeats 4000000 in
set_option maxRecDepth 100000 in
theorem b5_kinds_0 {X : XP} {p : Program} {l : Launch} {e : Env} {s : State} {m : MethodId} {args : Array Value} {below : List Frame} {meth : Method} {c : Code} {D : va_G} {cI cC : ClassId} {ad : Nat → Nat} {A : Nat → Prop} {xkept : Nat → Int32} {xisK : Int32} {xgone : Int32} {xtape : Nat → Int32} {xtaped : Int32} {xtok : Int32} {xbeg : Int32} {xend : Int32} {xval : Int64} {xwid : Nat → Int32} {xsiz : Nat → Int32} {xcel : Nat → Int32} {xcar : Nat → Int32} {r0 : Int32} {o_xs : Nat → Int32} {o_xaside : Nat → Int32} {o_xfound : Nat → Int32} {o_xover : Nat → Int32} (C0 : CX X p s m args meth c cX5_kinds 5 (some .int) RX5 A) : ∀ {xs : Nat → Int32} {xaside : Nat → Int32} {xfound : Nat → Int32} {xover : Nat → Int32} {v1 : Int32} {v2 : Int32} {v3 : Int32} {H : Heap} {locs : List Loc} {ls : Array Slot}, GX X D (tyM cI cC) A s (wM cI cC ad xs xkept xaside xisK xfound xgone xover xtape xtaped xtok xbeg xend xval xwid xsiz xcel xcar) H locs → lv_has ls 5 [(0, .ref (ad 0)), (1, .int v1), (2, .int v2), (3, .int v3)] → f5_kinds xs xaside xfound xgone xover xwid xsiz xcel v1 v2 v3 = some (r0, o_xs, o_xaside, o_xfound, o_xover) → W p l e ({ frames := 9, cells := 0, slots := 0, locals := 218 }) s m args below meth c H locs 0 0 (MQ below (QcI D (tyM cI cC) (wM cI cC ad o_xs xkept o_xaside xisK o_xfound xgone o_xover xtape xtaped xtok xbeg xend xval xwid xsiz xcel xcar) A r0) args s 0 0 A) (F0 m 0 ls []) := by
  have hx := C0.1
  have hb := C0.2.1
  have hown := C0.2.2.2.2.1
  have hts := C0.2.2.2.2.2.1
  have hX := C0.2.2.2.2.2.2.2.2
  intro xs xaside xfound xover v1 v2 v3 H locs ls G hl hf
  unfold f5_kinds at hf
  refine lv_aload_n hx hb dX5_kinds_0 rfl (lv_at hl 0 rfl) ?_
  refine lv_iload_n hx hb dX5_kinds_1 rfl (lv_at hl 1 rfl) ?_
  refine lv_iload_n hx hb dX5_kinds_2 rfl (lv_at hl 2 rfl) ?_
  refine lv_iload_n hx hb dX5_kinds_3 rfl (lv_at hl 3 rfl) ?_
  obtain ⟨r1, hc2, hf⟩ := ob1_s hf
  refine go_i C0 G (runV_of (n := 3) (q0 := 0) (As := [.int v1, .int v2, .int v3]) (rest := []) C0 G (c5_wrongTold hX hc2) q1001 q54 q998 q1000 q37 o5_wrongTold ⟨rfl, rfl⟩ ⟨Nat.le_of_ble_eq_true rfl, Nat.le_of_ble_eq_true rfl⟩ rfl rfl rfl hl.1 rfl (Nat.le_of_ble_eq_true rfl) dX5_kinds_4) (fun H locs G => ?_)
  refine lv_istore (lv' := [(4, .int r1), (0, .ref (ad 0)), (1, .int v1), (2, .int v2), (3, .int v3)]) hx hb dX5_kinds_7 hl (by decide) rfl (fun ls hl => ?_)
  refine lv_iload hx hb dX5_kinds_9 (lv_at hl 0 rfl) ?_
  refine lv_if_lt (tgt := 23) hx hb dX5_kinds_11 (by decide) (fun hc3 => ?_) (fun hc3 => ?_)
  · have hf := itp hc3 hf
    refine lv_aload_n hx hb dX5_kinds_23 rfl (lv_at hl 1 rfl) ?_
    refine lv_iload_n hx hb dX5_kinds_24 rfl (lv_at hl 2 rfl) ?_
    refine lv_iload_n hx hb dX5_kinds_25 rfl (lv_at hl 3 rfl) ?_
    refine lv_iconst (v := (0 : Int32)) hx hb dX5_kinds_26 (by decide) ?_
    refine lv_iload_n hx hb dX5_kinds_27 rfl (lv_at hl 4 rfl) ?_
    obtain ⟨r4, xs_5, xaside_6, xover_7, hc8, hf⟩ := ob4_s hf
    refine go_i C0 G (runV_of (n := 4) (q0 := 0) (As := [.int v1, .int v2, .int (0 : Int32), .int v3]) (rest := []) C0 G (c5_allThatFit hX hc8) q1012 q54 q1009 q1011 q39 o5_allThatFit ⟨rfl, rfl⟩ ⟨Nat.le_of_ble_eq_true rfl, Nat.le_of_ble_eq_true rfl⟩ rfl rfl rfl hl.1 rfl (Nat.le_of_ble_eq_true rfl) dX5_kinds_28) (fun H locs G => ?_)
    obtain ⟨rfl, rfl, rfl, rfl, rfl⟩ := inj5 hf
    exact ret_i C0 G dX5_kinds_31
  · have hf := itn hc3 hf
    refine lv_aload_n hx hb dX5_kinds_14 rfl (lv_at hl 1 rfl) ?_
    refine lv_iload hx hb dX5_kinds_15 (lv_at hl 0 rfl) ?_
    obtain ⟨r9, xfound_10, hc11, hf⟩ := ob2_s hf
    refine go_i C0 G (runV_of (n := 1) (q0 := 0) (As := [.int r1]) (rest := []) C0 G (c5_no hX hc11) q788 q54 q785 q787 q9 o5_no ⟨rfl, rfl⟩ ⟨Nat.le_of_ble_eq_true rfl, Nat.le_of_ble_eq_true rfl⟩ rfl rfl rfl hl.1 rfl (Nat.le_of_ble_eq_true rfl) dX5_kinds_17) (fun H locs G => ?_)
    refine lv_goto (tgt := 31) hx hb dX5_kinds_20 (by decide) ?_
    obtain ⟨rfl, rfl, rfl, rfl, rfl⟩ := inj5 hf
    exact ret_i C0 G dX5_kinds_31
theorem o5_kinds : okName yX5_kinds 3 := ⟨by decide, by decide, by decide +kernel⟩
set_option maxHeartbeats 4000000 in
set_option maxRecDepth 100000 in
theorem c5_kinds {X : XP} (hX : XT X) {l : Launch} {D : va_G} {cI cC : ClassId} {ad : Nat → Nat} {sz : Nat} {xs : Nat → Int32} {xkept : Nat → Int32} {xaside : Nat → Int32} {xisK : Int32} {xfound : Nat → Int32} {xgone : Int32} {xover : Nat → Int32} {xtape : Nat → Int32} {xtaped : Int32} {xtok : Int32} {xbeg : Int32} {xend : Int32} {xval : Int64} {xwid : Nat → Int32} {xsiz : Nat → Int32} {xcel : Nat → Int32} {xcar : Nat → Int32} {v1 : Int32} {v2 : Int32} {v3 : Int32} {r0 : Int32} {o_xs : Nat → Int32} {o_xaside : Nat → Int32} {o_xfound : Nat → Int32} {o_xover : Nat → Int32} (hf : f5_kinds xs xaside xfound xgone xover xwid xsiz xcel v1 v2 v3 = some (r0, o_xs, o_xaside, o_xfound, o_xover)) : Met l yX5_kinds (wU yX5_kinds cX5_kinds 5 (some .int)) ({ frames := 9, cells := 0, slots := 0, locals := 218 }) (va_Pc [.ref (ad 0), .int v1, .int v2, .int v3] (PreW X D (tyM cI cC) (wM cI cC ad xs xkept xaside xisK xfound xgone xover xtape xtaped xtok xbeg xend xval xwid xsiz xcel xcar) sz)) (QcI D (tyM cI cC) (wM cI cC ad o_xs xkept o_xaside xisK o_xfound xgone o_xover xtape xtaped xtok xbeg xend xval xwid xsiz xcel xcar) (va_A (wM cI cC ad xs xkept xaside xisK xfound xgone xover xtape xtaped xtok xbeg xend xval xwid xsiz xcel xcar) sz) r0) 0 0 (va_A (wM cI cC ad xs xkept xaside xisK xfound xgone xover xtape xtaped xtok xbeg xend xval xwid xsiz xcel xcar) sz) := by
  refine startW hX (own := RX5) (by decide) rfl (Nat.le_of_ble_eq_true rfl) (fun p e s m args below meth c ls C0 G hl => ?_)
  exact b5_kinds_0 C0 G hl hf
/-! 5_draw -/
theorem dX5_draw_0 : decode cX5_draw 0 = .ok (.aload_n 0, 1) := by decide +kernel
theorem dX5_draw_1 : decode cX5_draw 1 = .ok (.getfield 9, 3) := by decide +kernel
theorem dX5_draw_4 : decode cX5_draw 4 = .ok (.iconst 2, 1) := by decide +kernel
theorem dX5_draw_5 : decode cX5_draw 5 = .ok (.aload_n 0, 1) := by decide +kernel
theorem dX5_draw_6 : decode cX5_draw 6 = .ok (.getfield 9, 3) := by decide +kernel
theorem dX5_draw_9 : decode cX5_draw 9 = .ok (.iconst 2, 1) := by decide +kernel
theorem dX5_draw_10 : decode cX5_draw 10 = .ok (.iaload, 1) := by decide +kernel
theorem dX5_draw_11 : decode cX5_draw 11 = .ok (.ldc 190, 2) := by decide +kernel
theorem dX5_draw_13 : decode cX5_draw 13 = .ok (.imul, 1) := by decide +kernel
theorem dX5_draw_14 : decode cX5_draw 14 = .ok (.sipush 12345, 3) := by decide +kernel
theorem dX5_draw_17 : decode cX5_draw 17 = .ok (.iadd, 1) := by decide +kernel
theorem dX5_draw_18 : decode cX5_draw 18 = .ok (.iastore, 1) := by decide +kernel
theorem dX5_draw_19 : decode cX5_draw 19 = .ok (.aload_n 0, 1) := by decide +kernel
theorem dX5_draw_20 : decode cX5_draw 20 = .ok (.getfield 9, 3) := by decide +kernel
theorem dX5_draw_23 : decode cX5_draw 23 = .ok (.iconst 2, 1) := by decide +kernel
theorem dX5_draw_24 : decode cX5_draw 24 = .ok (.iaload, 1) := by decide +kernel
theorem dX5_draw_25 : decode cX5_draw 25 = .ok (.bipush 8, 2) := by decide +kernel
theorem dX5_draw_27 : decode cX5_draw 27 = .ok (.iushr, 1) := by decide +kernel
theorem dX5_draw_28 : decode cX5_draw 28 = .ok (.ireturn, 1) := by decide +kernel
def f5_draw (xs : Nat → Int32)  : Option (Int32 × (Nat → Int32)) :=
  some (((((upd xs 2 (((xs 2) * (1103515245 : Int32)) + (12345 : Int32))) 2)).toUInt32 >>> (((8 : Int32)).toUInt32 &&& Int32.toUInt32 31)).toInt32, (upd xs 2 (((xs 2) * (1103515245 : Int32)) + (12345 : Int32))))
set_option maxHeartbeats 4000000 in
set_option maxRecDepth 100000 in
theorem b5_draw_0 {X : XP} {p : Program} {l : Launch} {e : Env} {s : State} {m : MethodId} {args : Array Value} {below : List Frame} {meth : Method} {c : Code} {D : va_G} {cI cC : ClassId} {ad : Nat → Nat} {A : Nat → Prop} {xkept : Nat → Int32} {xaside : Nat → Int32} {xisK : Int32} {xfound : Nat → Int32} {xgone : Int32} {xover : Nat → Int32} {xtape : Nat → Int32} {xtaped : Int32} {xtok : Int32} {xbeg : Int32} {xend : Int32} {xval : Int64} {xwid : Nat → Int32} {xsiz : Nat → Int32} {xcel : Nat → Int32} {xcar : Nat → Int32} {r0 : Int32} {o_xs : Nat → Int32} (C0 : CX X p s m args meth c cX5_draw 1 (some .int) RX5 A) : ∀ {xs : Nat → Int32} {H : Heap} {locs : List Loc} {ls : Array Slot}, GX X D (tyM cI cC) A s (wM cI cC ad xs xkept xaside xisK xfound xgone xover xtape xtaped xtok xbeg xend xval xwid xsiz xcel xcar) H locs → lv_has ls 1 [(0, .ref (ad 0))] → f5_draw xs = some (r0, o_xs) → W p l e ({ frames := 0, cells := 0, slots := 0, locals := 0 }) s m args below meth c H locs 0 0 (MQ below (QcI D (tyM cI cC) (wM cI cC ad o_xs xkept xaside xisK xfound xgone xover xtape xtaped xtok xbeg xend xval xwid xsiz xcel xcar) A r0) args s 0 0 A) (F0 m 0 ls []) := by
  have hx := C0.1
  have hb := C0.2.1
  have hown := C0.2.2.2.2.1
  have hts := C0.2.2.2.2.2.1
  have hX := C0.2.2.2.2.2.2.2.2
  intro xs H locs ls G hl hf
  unfold f5_draw at hf
  refine lv_aload_n hx hb dX5_draw_0 rfl (lv_at hl 0 rfl) ?_
  refine s_get (C := RX5) (T := TX5) C0 G i_X5 0 0 rfl rfl (by decide) q713 rfl dX5_draw_1 ?_
  refine lv_iconst (v := (2 : Int32)) hx hb dX5_draw_4 (by decide) ?_
  refine lv_aload_n hx hb dX5_draw_5 rfl (lv_at hl 0 rfl) ?_
  refine s_get (C := RX5) (T := TX5) C0 G i_X5 0 0 rfl rfl (by decide) q713 rfl dX5_draw_6 ?_
  refine lv_iconst (v := (2 : Int32)) hx hb dX5_draw_9 (by decide) ?_
  refine s_iald (k := 2) C0 G 1 0 rfl rfl (vin (by decide)) (by decide) dX5_draw_10 ?_
  refine lv_ldc (v := (1103515245 : Int32)) hx hb hown (hts _ q1033) dX5_draw_11 ?_
  refine lv_imul hx hb dX5_draw_13 ?_
  refine lv_sipush (v := (12345 : Int32)) hx hb dX5_draw_14 (by decide) ?_
  refine lv_iadd hx hb dX5_draw_17 ?_
  refine s_iast (k := 2) (w' := (wM cI cC ad (upd xs 2 (((xs 2) * (1103515245 : Int32)) + (12345 : Int32))) xkept xaside xisK xfound xgone xover xtape xtaped xtok xbeg xend xval xwid xsiz xcel xcar)) C0 G 1 0 rfl rfl (vin (by decide)) (by decide) rfl dX5_draw_18 (fun H locs G => ?_)
  refine lv_aload_n hx hb dX5_draw_19 rfl (lv_at hl 0 rfl) ?_
  refine s_get (C := RX5) (T := TX5) C0 G i_X5 0 0 rfl rfl (by decide) q713 rfl dX5_draw_20 ?_
  refine lv_iconst (v := (2 : Int32)) hx hb dX5_draw_23 (by decide) ?_
  refine s_iald (k := 2) C0 G 1 0 rfl rfl (vin (by decide)) (by decide) dX5_draw_24 ?_
  refine lv_bipush (v := (8 : Int32)) hx hb dX5_draw_25 (by decide) ?_
  refine lv_iushr hx hb dX5_draw_27 rfl ?_
  obtain ⟨rfl, rfl⟩ := inj2 hf
  exact ret_i C0 G dX5_draw_28
theorem o5_draw : okName yX5_draw 0 := ⟨by decide, by decide, by decide +kernel⟩
set_option maxHeartbeats 4000000 in
set_option maxRecDepth 100000 in
theorem c5_draw {X : XP} (hX : XT X) {l : Launch} {D : va_G} {cI cC : ClassId} {ad : Nat → Nat} {sz : Nat} {xs : Nat → Int32} {xkept : Nat → Int32} {xaside : Nat → Int32} {xisK : Int32} {xfound : Nat → Int32} {xgone : Int32} {xover : Nat → Int32} {xtape : Nat → Int32} {xtaped : Int32} {xtok : Int32} {xbeg : Int32} {xend : Int32} {xval : Int64} {xwid : Nat → Int32} {xsiz : Nat → Int32} {xcel : Nat → Int32} {xcar : Nat → Int32}  {r0 : Int32} {o_xs : Nat → Int32} (hf : f5_draw xs = some (r0, o_xs)) : Met l yX5_draw (wU yX5_draw cX5_draw 1 (some .int)) ({ frames := 0, cells := 0, slots := 0, locals := 0 }) (va_Pc [.ref (ad 0)] (PreW X D (tyM cI cC) (wM cI cC ad xs xkept xaside xisK xfound xgone xover xtape xtaped xtok xbeg xend xval xwid xsiz xcel xcar) sz)) (QcI D (tyM cI cC) (wM cI cC ad o_xs xkept xaside xisK xfound xgone xover xtape xtaped xtok xbeg xend xval xwid xsiz xcel xcar) (va_A (wM cI cC ad xs xkept xaside xisK xfound xgone xover xtape xtaped xtok xbeg xend xval xwid xsiz xcel xcar) sz) r0) 0 0 (va_A (wM cI cC ad xs xkept xaside xisK xfound xgone xover xtape xtaped xtok xbeg xend xval xwid xsiz xcel xcar) sz) := by
  refine startW hX (own := RX5) (by decide) rfl (Nat.le_of_ble_eq_true rfl) (fun p e s m args below meth c ls C0 G hl => ?_)
  exact b5_draw_0 C0 G hl hf
/-! 5_comings -/
theorem dX5_comings_0 : decode cX5_comings 0 = .ok (.iload_n 1, 1) := by decide +kernel
theorem dX5_comings_1 : decode cX5_comings 1 = .ok (.iconst 1, 1) := by decide +kernel
theorem dX5_comings_2 : decode cX5_comings 2 = .ok (.bipush 20, 2) := by decide +kernel
theorem dX5_comings_4 : decode cX5_comings 4 = .ok (.invokestatic 51, 3) := by decide +kernel
theorem dX5_comings_7 : decode cX5_comings 7 = .ok (.ifCond .ne 9, 3) := by decide +kernel
theorem dX5_comings_10 : decode cX5_comings 10 = .ok (.aload_n 0, 1) := by decide +kernel
theorem dX5_comings_11 : decode cX5_comings 11 = .ok (.iconst 0, 1) := by decide +kernel
theorem dX5_comings_12 : decode cX5_comings 12 = .ok (.invokevirtual 105, 3) := by decide +kernel
theorem dX5_comings_15 : decode cX5_comings 15 = .ok (.ireturn, 1) := by decide +kernel
theorem dX5_comings_16 : decode cX5_comings 16 = .ok (.aload_n 0, 1) := by decide +kernel
theorem dX5_comings_17 : decode cX5_comings 17 = .ok (.getfield 9, 3) := by decide +kernel
theorem dX5_comings_20 : decode cX5_comings 20 = .ok (.iconst 0, 1) := by decide +kernel
theorem dX5_comings_21 : decode cX5_comings 21 = .ok (.iaload, 1) := by decide +kernel
theorem dX5_comings_22 : decode cX5_comings 22 = .ok (.iload_n 1, 1) := by decide +kernel
theorem dX5_comings_23 : decode cX5_comings 23 = .ok (.iadd, 1) := by decide +kernel
theorem dX5_comings_24 : decode cX5_comings 24 = .ok (.ldc 101, 2) := by decide +kernel
theorem dX5_comings_26 : decode cX5_comings 26 = .ok (.if_icmp .le 9, 3) := by decide +kernel
theorem dX5_comings_29 : decode cX5_comings 29 = .ok (.aload_n 0, 1) := by decide +kernel
theorem dX5_comings_30 : decode cX5_comings 30 = .ok (.iconst 4, 1) := by decide +kernel
theorem dX5_comings_31 : decode cX5_comings 31 = .ok (.invokevirtual 105, 3) := by decide +kernel
theorem dX5_comings_34 : decode cX5_comings 34 = .ok (.ireturn, 1) := by decide +kernel
theorem dX5_comings_35 : decode cX5_comings 35 = .ok (.iconst 0, 1) := by decide +kernel
theorem dX5_comings_36 : decode cX5_comings 36 = .ok (.istore_n 2, 1) := by decide +kernel
theorem dX5_comings_37 : decode cX5_comings 37 = .ok (.iload_n 2, 1) := by decide +kernel
theorem dX5_comings_38 : decode cX5_comings 38 = .ok (.iload_n 1, 1) := by decide +kernel
theorem dX5_comings_39 : decode cX5_comings 39 = .ok (.if_icmp .ge 53, 3) := by decide +kernel
theorem dX5_comings_42 : decode cX5_comings 42 = .ok (.aload_n 0, 1) := by decide +kernel
theorem dX5_comings_43 : decode cX5_comings 43 = .ok (.invokevirtual 191, 3) := by decide +kernel
theorem dX5_comings_46 : decode cX5_comings 46 = .ok (.bipush 8, 2) := by decide +kernel
theorem dX5_comings_48 : decode cX5_comings 48 = .ok (.irem, 1) := by decide +kernel
theorem dX5_comings_49 : decode cX5_comings 49 = .ok (.istore_n 3, 1) := by decide +kernel
theorem dX5_comings_50 : decode cX5_comings 50 = .ok (.aload_n 0, 1) := by decide +kernel
theorem dX5_comings_51 : decode cX5_comings 51 = .ok (.invokevirtual 191, 3) := by decide +kernel
theorem dX5_comings_54 : decode cX5_comings 54 = .ok (.bipush 16, 2) := by decide +kernel
theorem dX5_comings_56 : decode cX5_comings 56 = .ok (.irem, 1) := by decide +kernel
theorem dX5_comings_57 : decode cX5_comings 57 = .ok (.istore 4, 2) := by decide +kernel
theorem dX5_comings_59 : decode cX5_comings 59 = .ok (.aload_n 0, 1) := by decide +kernel
theorem dX5_comings_60 : decode cX5_comings 60 = .ok (.iload_n 3, 1) := by decide +kernel
theorem dX5_comings_61 : decode cX5_comings 61 = .ok (.invokevirtual 111, 3) := by decide +kernel
theorem dX5_comings_64 : decode cX5_comings 64 = .ok (.ifCond .eq 18, 3) := by decide +kernel
theorem dX5_comings_67 : decode cX5_comings 67 = .ok (.aload_n 0, 1) := by decide +kernel
theorem dX5_comings_68 : decode cX5_comings 68 = .ok (.iload_n 3, 1) := by decide +kernel
theorem dX5_comings_69 : decode cX5_comings 69 = .ok (.iconst 1, 1) := by decide +kernel
theorem dX5_comings_70 : decode cX5_comings 70 = .ok (.iload 4, 2) := by decide +kernel
theorem dX5_comings_72 : decode cX5_comings 72 = .ok (.invokevirtual 83, 3) := by decide +kernel
theorem dX5_comings_75 : decode cX5_comings 75 = .ok (.aload_n 0, 1) := by decide +kernel
theorem dX5_comings_76 : decode cX5_comings 76 = .ok (.iload_n 3, 1) := by decide +kernel
theorem dX5_comings_77 : decode cX5_comings 77 = .ok (.invokevirtual 94, 3) := by decide +kernel
theorem dX5_comings_80 : decode cX5_comings 80 = .ok (.istore 5, 2) := by decide +kernel
theorem dX5_comings_82 : decode cX5_comings 82 = .ok (.aload_n 0, 1) := by decide +kernel
theorem dX5_comings_83 : decode cX5_comings 83 = .ok (.invokevirtual 102, 3) := by decide +kernel
theorem dX5_comings_86 : decode cX5_comings 86 = .ok (.iinc 2 1, 3) := by decide +kernel
theorem dX5_comings_89 : decode cX5_comings 89 = .ok (.goto (-52), 3) := by decide +kernel
theorem dX5_comings_92 : decode cX5_comings 92 = .ok (.aload_n 0, 1) := by decide +kernel
theorem dX5_comings_93 : decode cX5_comings 93 = .ok (.invokevirtual 123, 3) := by decide +kernel
theorem dX5_comings_96 : decode cX5_comings 96 = .ok (.ireturn, 1) := by decide +kernel
def j5_comings_82 (k37 : (Nat → Int32) → (Nat → Int32) → Int32 → (Nat → Int32) → Int32 → Int32 → Option (Int32 × (Nat → Int32) × (Nat → Int32) × (Nat → Int32))) (xs : Nat → Int32) (xfound : Nat → Int32) (xgone : Int32) (xover : Nat → Int32) (v1 : Int32) (v2 : Int32) : Option (Int32 × (Nat → Int32) × (Nat → Int32) × (Nat → Int32)) :=
  ob2 (f5_day xs xgone xover) (fun xs_24 xover_25 =>
  k37 xs_24 xfound xgone xover_25 v1 (v2 + (1 : Int32)))
def l5_comings_37  : Nat → (Nat → Int32) → (Nat → Int32) → Int32 → (Nat → Int32) → Int32 → Int32 → Option (Int32 × (Nat → Int32) × (Nat → Int32) × (Nat → Int32))
  | 0, _, _, _, _, _, _ => none
  | n + 1, xs, xfound, xgone, xover, v1, v2 =>
    if v1 ≤ v2 then (
      ob1 (f5_roadNow xs) (fun r10 =>
      some (r10, xs, xfound, xover)))
    else (
      ob2 (f5_draw xs) (fun r12 xs_13 =>
      ob2 (f5_draw xs_13) (fun r15 xs_16 =>
      if (f5_isVisitor xs_16 (r12 - r12 / (8 : Int32) * (8 : Int32))) = (0 : Int32) then (
        j5_comings_82 (l5_comings_37 n) xs_16 xfound xgone xover v1 v2)
      else (
        ob1 (f5_puts xs_16 (r12 - r12 / (8 : Int32) * (8 : Int32)) (1 : Int32) (r15 - r15 / (16 : Int32) * (16 : Int32))) (fun xs_19 =>
        ob2 (f5_comes xs_19 (r12 - r12 / (8 : Int32) * (8 : Int32))) (fun r21 xs_22 =>
        j5_comings_82 (l5_comings_37 n) xs_22 xfound xgone xover v1 v2))))))
def f5_comings (xs : Nat → Int32) (xfound : Nat → Int32) (xgone : Int32) (xover : Nat → Int32) (v1 : Int32) : Option (Int32 × (Nat → Int32) × (Nat → Int32) × (Nat → Int32)) :=
  if (f5_in1 v1 (1 : Int32) (20 : Int32)) = (0 : Int32) then (
    ob2 (f5_no xfound (0 : Int32)) (fun r6 xfound_7 =>
    some (r6, xs, xfound_7, xover)))
  else (
    if ((xs 0) + v1) ≤ (99999 : Int32) then (
      l5_comings_37 1000 xs xfound xgone xover v1 (0 : Int32))
    else (
      ob2 (f5_no xfound (4 : Int32)) (fun r3 xfound_4 =>
      some (r3, xs, xfound_4, xover))))
set_option maxHeartbeats 4000000 in
set_option maxRecDepth 100000 in
theorem b5_comings_82 {X : XP} {p : Program} {l : Launch} {e : Env} {s : State} {m : MethodId} {args : Array Value} {below : List Frame} {meth : Method} {c : Code} {D : va_G} {cI cC : ClassId} {ad : Nat → Nat} {A : Nat → Prop} {xkept : Nat → Int32} {xaside : Nat → Int32} {xisK : Int32} {xgone : Int32} {xtape : Nat → Int32} {xtaped : Int32} {xtok : Int32} {xbeg : Int32} {xend : Int32} {xval : Int64} {xwid : Nat → Int32} {xsiz : Nat → Int32} {xcel : Nat → Int32} {xcar : Nat → Int32} {r0 : Int32} {o_xs : Nat → Int32} {o_xfound : Nat → Int32} {o_xover : Nat → Int32} (C0 : CX X p s m args meth c cX5_comings 6 (some .int) RX5 A) {k37 : (Nat → Int32) → (Nat → Int32) → Int32 → (Nat → Int32) → Int32 → Int32 → Option (Int32 × (Nat → Int32) × (Nat → Int32) × (Nat → Int32))} (hk37 : ∀ {xs : Nat → Int32} {xfound : Nat → Int32} {xover : Nat → Int32} {v1 : Int32} {v2 : Int32} {H : Heap} {locs : List Loc} {ls : Array Slot}, GX X D (tyM cI cC) A s (wM cI cC ad xs xkept xaside xisK xfound xgone xover xtape xtaped xtok xbeg xend xval xwid xsiz xcel xcar) H locs → lv_has ls 6 [(0, .ref (ad 0)), (1, .int v1), (2, .int v2)] → k37 xs xfound xgone xover v1 v2 = some (r0, o_xs, o_xfound, o_xover) → W p l e ({ frames := 6, cells := 0, slots := 0, locals := 143 }) s m args below meth c H locs 0 0 (MQ below (QcI D (tyM cI cC) (wM cI cC ad o_xs xkept xaside xisK o_xfound xgone o_xover xtape xtaped xtok xbeg xend xval xwid xsiz xcel xcar) A r0) args s 0 0 A) (F0 m 37 ls [])) : ∀ {xs : Nat → Int32} {xfound : Nat → Int32} {xover : Nat → Int32} {v1 : Int32} {v2 : Int32} {H : Heap} {locs : List Loc} {ls : Array Slot}, GX X D (tyM cI cC) A s (wM cI cC ad xs xkept xaside xisK xfound xgone xover xtape xtaped xtok xbeg xend xval xwid xsiz xcel xcar) H locs → lv_has ls 6 [(0, .ref (ad 0)), (1, .int v1), (2, .int v2)] → j5_comings_82 k37 xs xfound xgone xover v1 v2 = some (r0, o_xs, o_xfound, o_xover) → W p l e ({ frames := 6, cells := 0, slots := 0, locals := 143 }) s m args below meth c H locs 0 0 (MQ below (QcI D (tyM cI cC) (wM cI cC ad o_xs xkept xaside xisK o_xfound xgone o_xover xtape xtaped xtok xbeg xend xval xwid xsiz xcel xcar) A r0) args s 0 0 A) (F0 m 82 ls []) := by
  have hx := C0.1
  have hb := C0.2.1
  have hown := C0.2.2.2.2.1
  have hts := C0.2.2.2.2.2.1
  have hX := C0.2.2.2.2.2.2.2.2
  intro xs xfound xover v1 v2 H locs ls G hl hf
  unfold j5_comings_82 at hf
  refine lv_aload_n hx hb dX5_comings_82 rfl (lv_at hl 0 rfl) ?_
  obtain ⟨xs_24, xover_25, hc26, hf⟩ := ob2_s hf
  refine go_v C0 G (runV_of (n := 0) (q0 := 0) (As := []) (rest := []) C0 G (c5_day hX hc26) q875 q54 q872 q874 q21 o5_day ⟨rfl, rfl⟩ ⟨Nat.le_of_ble_eq_true rfl, Nat.le_of_ble_eq_true rfl⟩ rfl rfl rfl hl.1 rfl (Nat.le_of_ble_eq_true rfl) dX5_comings_83) (fun H locs G => ?_)
  refine lv_iinc (v := (v2 + (1 : Int32))) (lv' := [(2, .int (v2 + (1 : Int32))), (0, .ref (ad 0)), (1, .int v1)]) hx hb dX5_comings_86 hl (k := 2) rfl rfl (by decide) rfl (fun ls hl => ?_)
  refine lv_goto (tgt := 37) hx hb dX5_comings_89 (by decide) ?_
  exact hk37 G (lv_sub hl [1, 2, 0] rfl) hf
set_option maxHeartbeats 4000000 in
set_option maxRecDepth 100000 in
theorem b5_comings_37 {X : XP} {p : Program} {l : Launch} {e : Env} {s : State} {m : MethodId} {args : Array Value} {below : List Frame} {meth : Method} {c : Code} {D : va_G} {cI cC : ClassId} {ad : Nat → Nat} {A : Nat → Prop} {xkept : Nat → Int32} {xaside : Nat → Int32} {xisK : Int32} {xgone : Int32} {xtape : Nat → Int32} {xtaped : Int32} {xtok : Int32} {xbeg : Int32} {xend : Int32} {xval : Int64} {xwid : Nat → Int32} {xsiz : Nat → Int32} {xcel : Nat → Int32} {xcar : Nat → Int32} {r0 : Int32} {o_xs : Nat → Int32} {o_xfound : Nat → Int32} {o_xover : Nat → Int32} (C0 : CX X p s m args meth c cX5_comings 6 (some .int) RX5 A) : ∀ (n : Nat) {xs : Nat → Int32} {xfound : Nat → Int32} {xover : Nat → Int32} {v1 : Int32} {v2 : Int32} {H : Heap} {locs : List Loc} {ls : Array Slot}, GX X D (tyM cI cC) A s (wM cI cC ad xs xkept xaside xisK xfound xgone xover xtape xtaped xtok xbeg xend xval xwid xsiz xcel xcar) H locs → lv_has ls 6 [(0, .ref (ad 0)), (1, .int v1), (2, .int v2)] → l5_comings_37  n xs xfound xgone xover v1 v2 = some (r0, o_xs, o_xfound, o_xover) → W p l e ({ frames := 6, cells := 0, slots := 0, locals := 143 }) s m args below meth c H locs 0 0 (MQ below (QcI D (tyM cI cC) (wM cI cC ad o_xs xkept xaside xisK o_xfound xgone o_xover xtape xtaped xtok xbeg xend xval xwid xsiz xcel xcar) A r0) args s 0 0 A) (F0 m 37 ls []) := by
  have hx := C0.1
  have hb := C0.2.1
  have hown := C0.2.2.2.2.1
  have hts := C0.2.2.2.2.2.1
  have hX := C0.2.2.2.2.2.2.2.2
  intro n
  induction n with
  | zero =>
    intro _ _ _ _ _ _ _ _ G hl hf
    cases hf
  | succ n ih =>
    intro xs xfound xover v1 v2 H locs ls G hl hf
    rw [l5_comings_37] at hf
    refine lv_iload_n hx hb dX5_comings_37 rfl (lv_at hl 2 rfl) ?_
    refine lv_iload_n hx hb dX5_comings_38 rfl (lv_at hl 1 rfl) ?_
    refine lv_icmp_ge (tgt := 92) hx hb dX5_comings_39 (by decide) (fun hc9 => ?_) (fun hc9 => ?_)
    · have hf := itp hc9 hf
      refine lv_aload_n hx hb dX5_comings_92 rfl (lv_at hl 0 rfl) ?_
      obtain ⟨r10, hc11, hf⟩ := ob1_s hf
      refine go_i C0 G (runV_of (n := 0) (q0 := 0) (As := []) (rest := []) C0 G (c5_roadNow hX hc11) q887 q54 q884 q886 q24 o5_roadNow ⟨rfl, rfl⟩ ⟨Nat.le_of_ble_eq_true rfl, Nat.le_of_ble_eq_true rfl⟩ rfl rfl rfl hl.1 rfl (Nat.le_of_ble_eq_true rfl) dX5_comings_93) (fun H locs G => ?_)
      obtain ⟨rfl, rfl, rfl, rfl⟩ := inj4 hf
      exact ret_i C0 G dX5_comings_96
    · have hf := itn hc9 hf
      refine lv_aload_n hx hb dX5_comings_42 rfl (lv_at hl 0 rfl) ?_
      obtain ⟨r12, xs_13, hc14, hf⟩ := ob2_s hf
      refine go_i C0 G (runV_of (n := 0) (q0 := 0) (As := []) (rest := []) C0 G (c5_draw hX hc14) q1032 q54 q1029 q1031 q42 o5_draw ⟨rfl, rfl⟩ ⟨Nat.le_of_ble_eq_true rfl, Nat.le_of_ble_eq_true rfl⟩ rfl rfl rfl hl.1 rfl (Nat.le_of_ble_eq_true rfl) dX5_comings_43) (fun H locs G => ?_)
      refine lv_bipush (v := (8 : Int32)) hx hb dX5_comings_46 (by decide) ?_
      refine lv_irem hx hb dX5_comings_48 (by decide) ?_
      refine lv_istore_n (lv' := [(3, .int (r12 - r12 / (8 : Int32) * (8 : Int32))), (0, .ref (ad 0)), (1, .int v1), (2, .int v2)]) hx hb dX5_comings_49 rfl hl (by decide) rfl (fun ls hl => ?_)
      refine lv_aload_n hx hb dX5_comings_50 rfl (lv_at hl 1 rfl) ?_
      obtain ⟨r15, xs_16, hc17, hf⟩ := ob2_s hf
      refine go_i C0 G (runV_of (n := 0) (q0 := 0) (As := []) (rest := []) C0 G (c5_draw hX hc17) q1032 q54 q1029 q1031 q42 o5_draw ⟨rfl, rfl⟩ ⟨Nat.le_of_ble_eq_true rfl, Nat.le_of_ble_eq_true rfl⟩ rfl rfl rfl hl.1 rfl (Nat.le_of_ble_eq_true rfl) dX5_comings_51) (fun H locs G => ?_)
      refine lv_bipush (v := (16 : Int32)) hx hb dX5_comings_54 (by decide) ?_
      refine lv_irem hx hb dX5_comings_56 (by decide) ?_
      refine lv_istore (lv' := [(4, .int (r15 - r15 / (16 : Int32) * (16 : Int32))), (3, .int (r12 - r12 / (8 : Int32) * (8 : Int32))), (0, .ref (ad 0)), (1, .int v1), (2, .int v2)]) hx hb dX5_comings_57 hl (by decide) rfl (fun ls hl => ?_)
      refine lv_aload_n hx hb dX5_comings_59 rfl (lv_at hl 2 rfl) ?_
      refine lv_iload_n hx hb dX5_comings_60 rfl (lv_at hl 1 rfl) ?_
      refine go_i C0 G (runV_of (n := 1) (q0 := 0) (As := [.int (r12 - r12 / (8 : Int32) * (8 : Int32))]) (rest := []) C0 G (c5_isVisitor hX rfl) q825 q54 q822 q824 q14 o5_isVisitor ⟨rfl, rfl⟩ ⟨Nat.le_of_ble_eq_true rfl, Nat.le_of_ble_eq_true rfl⟩ rfl rfl rfl hl.1 rfl (Nat.le_of_ble_eq_true rfl) dX5_comings_61) (fun H locs G => ?_)
      refine lv_if_eq (tgt := 82) hx hb dX5_comings_64 (by decide) (fun hc18 => ?_) (fun hc18 => ?_)
      · have hf := itp hc18 hf
        exact b5_comings_82 C0 ih G (lv_sub hl [2, 3, 4] rfl) hf
      · have hf := itn hc18 hf
        refine lv_aload_n hx hb dX5_comings_67 rfl (lv_at hl 2 rfl) ?_
        refine lv_iload_n hx hb dX5_comings_68 rfl (lv_at hl 1 rfl) ?_
        refine lv_iconst (v := (1 : Int32)) hx hb dX5_comings_69 (by decide) ?_
        refine lv_iload hx hb dX5_comings_70 (lv_at hl 0 rfl) ?_
        obtain ⟨xs_19, hc20, hf⟩ := ob1_s hf
        refine go_v C0 G (runV_of (n := 3) (q0 := 0) (As := [.int (r12 - r12 / (8 : Int32) * (8 : Int32)), .int (1 : Int32), .int (r15 - r15 / (16 : Int32) * (16 : Int32))]) (rest := []) C0 G (c5_puts hX hc20) q817 q54 q814 q816 q13 o5_puts ⟨rfl, rfl⟩ ⟨Nat.le_of_ble_eq_true rfl, Nat.le_of_ble_eq_true rfl⟩ rfl rfl rfl hl.1 rfl (Nat.le_of_ble_eq_true rfl) dX5_comings_72) (fun H locs G => ?_)
        refine lv_aload_n hx hb dX5_comings_75 rfl (lv_at hl 2 rfl) ?_
        refine lv_iload_n hx hb dX5_comings_76 rfl (lv_at hl 1 rfl) ?_
        obtain ⟨r21, xs_22, hc23, hf⟩ := ob2_s hf
        refine go_i C0 G (runV_of (n := 1) (q0 := 0) (As := [.int (r12 - r12 / (8 : Int32) * (8 : Int32))]) (rest := []) C0 G (c5_comes hX hc23) q858 q54 q855 q857 q18 o5_comes ⟨rfl, rfl⟩ ⟨Nat.le_of_ble_eq_true rfl, Nat.le_of_ble_eq_true rfl⟩ rfl rfl rfl hl.1 rfl (Nat.le_of_ble_eq_true rfl) dX5_comings_77) (fun H locs G => ?_)
        refine lv_istore (lv' := [(5, .int r21), (4, .int (r15 - r15 / (16 : Int32) * (16 : Int32))), (3, .int (r12 - r12 / (8 : Int32) * (8 : Int32))), (0, .ref (ad 0)), (1, .int v1), (2, .int v2)]) hx hb dX5_comings_80 hl (by decide) rfl (fun ls hl => ?_)
        exact b5_comings_82 C0 ih G (lv_sub hl [3, 4, 5] rfl) hf
set_option maxHeartbeats 4000000 in
set_option maxRecDepth 100000 in
theorem b5_comings_0 {X : XP} {p : Program} {l : Launch} {e : Env} {s : State} {m : MethodId} {args : Array Value} {below : List Frame} {meth : Method} {c : Code} {D : va_G} {cI cC : ClassId} {ad : Nat → Nat} {A : Nat → Prop} {xkept : Nat → Int32} {xaside : Nat → Int32} {xisK : Int32} {xgone : Int32} {xtape : Nat → Int32} {xtaped : Int32} {xtok : Int32} {xbeg : Int32} {xend : Int32} {xval : Int64} {xwid : Nat → Int32} {xsiz : Nat → Int32} {xcel : Nat → Int32} {xcar : Nat → Int32} {r0 : Int32} {o_xs : Nat → Int32} {o_xfound : Nat → Int32} {o_xover : Nat → Int32} (C0 : CX X p s m args meth c cX5_comings 6 (some .int) RX5 A) : ∀ {xs : Nat → Int32} {xfound : Nat → Int32} {xover : Nat → Int32} {v1 : Int32} {H : Heap} {locs : List Loc} {ls : Array Slot}, GX X D (tyM cI cC) A s (wM cI cC ad xs xkept xaside xisK xfound xgone xover xtape xtaped xtok xbeg xend xval xwid xsiz xcel xcar) H locs → lv_has ls 6 [(0, .ref (ad 0)), (1, .int v1)] → f5_comings xs xfound xgone xover v1 = some (r0, o_xs, o_xfound, o_xover) → W p l e ({ frames := 6, cells := 0, slots := 0, locals := 143 }) s m args below meth c H locs 0 0 (MQ below (QcI D (tyM cI cC) (wM cI cC ad o_xs xkept xaside xisK o_xfound xgone o_xover xtape xtaped xtok xbeg xend xval xwid xsiz xcel xcar) A r0) args s 0 0 A) (F0 m 0 ls []) := by
  have hx := C0.1
  have hb := C0.2.1
  have hown := C0.2.2.2.2.1
  have hts := C0.2.2.2.2.2.1
  have hX := C0.2.2.2.2.2.2.2.2
  intro xs xfound xover v1 H locs ls G hl hf
  unfold f5_comings at hf
  refine lv_iload_n hx hb dX5_comings_0 rfl (lv_at hl 1 rfl) ?_
  refine lv_iconst (v := (1 : Int32)) hx hb dX5_comings_1 (by decide) ?_
  refine lv_bipush (v := (20 : Int32)) hx hb dX5_comings_2 (by decide) ?_
  refine go_i C0 G (runS_of (n := 3) (As := [.int v1, .int (1 : Int32), .int (20 : Int32)]) (rest := []) C0 G (c5_in1 hX rfl) q784 q54 q782 q783 o5_in1 ⟨rfl, rfl⟩ ⟨Nat.le_of_ble_eq_true rfl, Nat.le_of_ble_eq_true rfl⟩ rfl hl.1 rfl (Nat.le_of_ble_eq_true rfl) dX5_comings_4) (fun H locs G => ?_)
  refine lv_if_ne (tgt := 16) hx hb dX5_comings_7 (by decide) (fun hc1 => ?_) (fun hc1 => ?_)
  · have hf := itn hc1 hf
    refine lv_aload_n hx hb dX5_comings_16 rfl (lv_at hl 0 rfl) ?_
    refine s_get (C := RX5) (T := TX5) C0 G i_X5 0 0 rfl rfl (by decide) q713 rfl dX5_comings_17 ?_
    refine lv_iconst (v := (0 : Int32)) hx hb dX5_comings_20 (by decide) ?_
    refine s_iald (k := 0) C0 G 1 0 rfl rfl (vin (by decide)) (by decide) dX5_comings_21 ?_
    refine lv_iload_n hx hb dX5_comings_22 rfl (lv_at hl 1 rfl) ?_
    refine lv_iadd hx hb dX5_comings_23 ?_
    refine lv_ldc (v := (99999 : Int32)) hx hb hown (hts _ q867) dX5_comings_24 ?_
    refine lv_icmp_le (tgt := 35) hx hb dX5_comings_26 (by decide) (fun hc2 => ?_) (fun hc2 => ?_)
    · have hf := itp hc2 hf
      refine lv_iconst (v := (0 : Int32)) hx hb dX5_comings_35 (by decide) ?_
      refine lv_istore_n (lv' := [(2, .int (0 : Int32)), (0, .ref (ad 0)), (1, .int v1)]) hx hb dX5_comings_36 rfl hl (by decide) rfl (fun ls hl => ?_)
      exact b5_comings_37 C0  1000 G (lv_sub hl [1, 2, 0] rfl) hf
    · have hf := itn hc2 hf
      refine lv_aload_n hx hb dX5_comings_29 rfl (lv_at hl 0 rfl) ?_
      refine lv_iconst (v := (4 : Int32)) hx hb dX5_comings_30 (by decide) ?_
      obtain ⟨r3, xfound_4, hc5, hf⟩ := ob2_s hf
      refine go_i C0 G (runV_of (n := 1) (q0 := 0) (As := [.int (4 : Int32)]) (rest := []) C0 G (c5_no hX hc5) q788 q54 q785 q787 q9 o5_no ⟨rfl, rfl⟩ ⟨Nat.le_of_ble_eq_true rfl, Nat.le_of_ble_eq_true rfl⟩ rfl rfl rfl hl.1 rfl (Nat.le_of_ble_eq_true rfl) dX5_comings_31) (fun H locs G => ?_)
      obtain ⟨rfl, rfl, rfl, rfl⟩ := inj4 hf
      exact ret_i C0 G dX5_comings_34
  · have hf := itp hc1 hf
    refine lv_aload_n hx hb dX5_comings_10 rfl (lv_at hl 0 rfl) ?_
    refine lv_iconst (v := (0 : Int32)) hx hb dX5_comings_11 (by decide) ?_
    obtain ⟨r6, xfound_7, hc8, hf⟩ := ob2_s hf
    refine go_i C0 G (runV_of (n := 1) (q0 := 0) (As := [.int (0 : Int32)]) (rest := []) C0 G (c5_no hX hc8) q788 q54 q785 q787 q9 o5_no ⟨rfl, rfl⟩ ⟨Nat.le_of_ble_eq_true rfl, Nat.le_of_ble_eq_true rfl⟩ rfl rfl rfl hl.1 rfl (Nat.le_of_ble_eq_true rfl) dX5_comings_12) (fun H locs G => ?_)
    obtain ⟨rfl, rfl, rfl, rfl⟩ := inj4 hf
    exact ret_i C0 G dX5_comings_15
theorem o5_comings : okName yX5_comings 1 := ⟨by decide, by decide, by decide +kernel⟩
set_option maxHeartbeats 4000000 in
set_option maxRecDepth 100000 in
theorem c5_comings {X : XP} (hX : XT X) {l : Launch} {D : va_G} {cI cC : ClassId} {ad : Nat → Nat} {sz : Nat} {xs : Nat → Int32} {xkept : Nat → Int32} {xaside : Nat → Int32} {xisK : Int32} {xfound : Nat → Int32} {xgone : Int32} {xover : Nat → Int32} {xtape : Nat → Int32} {xtaped : Int32} {xtok : Int32} {xbeg : Int32} {xend : Int32} {xval : Int64} {xwid : Nat → Int32} {xsiz : Nat → Int32} {xcel : Nat → Int32} {xcar : Nat → Int32} {v1 : Int32} {r0 : Int32} {o_xs : Nat → Int32} {o_xfound : Nat → Int32} {o_xover : Nat → Int32} (hf : f5_comings xs xfound xgone xover v1 = some (r0, o_xs, o_xfound, o_xover)) : Met l yX5_comings (wU yX5_comings cX5_comings 6 (some .int)) ({ frames := 6, cells := 0, slots := 0, locals := 143 }) (va_Pc [.ref (ad 0), .int v1] (PreW X D (tyM cI cC) (wM cI cC ad xs xkept xaside xisK xfound xgone xover xtape xtaped xtok xbeg xend xval xwid xsiz xcel xcar) sz)) (QcI D (tyM cI cC) (wM cI cC ad o_xs xkept xaside xisK o_xfound xgone o_xover xtape xtaped xtok xbeg xend xval xwid xsiz xcel xcar) (va_A (wM cI cC ad xs xkept xaside xisK xfound xgone xover xtape xtaped xtok xbeg xend xval xwid xsiz xcel xcar) sz) r0) 0 0 (va_A (wM cI cC ad xs xkept xaside xisK xfound xgone xover xtape xtaped xtok xbeg xend xval xwid xsiz xcel xcar) sz) := by
  refine startW hX (own := RX5) (by decide) rfl (Nat.le_of_ble_eq_true rfl) (fun p e s m args below meth c ls C0 G hl => ?_)
  exact b5_comings_0 C0 G hl hf
/-! 5_odds -/
theorem dX5_odds_0 : decode cX5_odds 0 = .ok (.iload_n 1, 1) := by decide +kernel
theorem dX5_odds_1 : decode cX5_odds 1 = .ok (.iconst 0, 1) := by decide +kernel
theorem dX5_odds_2 : decode cX5_odds 2 = .ok (.bipush 15, 2) := by decide +kernel
theorem dX5_odds_4 : decode cX5_odds 4 = .ok (.invokestatic 51, 3) := by decide +kernel
theorem dX5_odds_7 : decode cX5_odds 7 = .ok (.ifCond .eq 12, 3) := by decide +kernel
theorem dX5_odds_10 : decode cX5_odds 10 = .ok (.iload_n 2, 1) := by decide +kernel
theorem dX5_odds_11 : decode cX5_odds 11 = .ok (.iconst 0, 1) := by decide +kernel
theorem dX5_odds_12 : decode cX5_odds 12 = .ok (.iconst 1, 1) := by decide +kernel
theorem dX5_odds_13 : decode cX5_odds 13 = .ok (.invokestatic 51, 3) := by decide +kernel
theorem dX5_odds_16 : decode cX5_odds 16 = .ok (.ifCond .ne 10, 3) := by decide +kernel
theorem dX5_odds_19 : decode cX5_odds 19 = .ok (.aload_n 0, 1) := by decide +kernel
theorem dX5_odds_20 : decode cX5_odds 20 = .ok (.iconst 0, 1) := by decide +kernel
theorem dX5_odds_21 : decode cX5_odds 21 = .ok (.invokevirtual 105, 3) := by decide +kernel
theorem dX5_odds_24 : decode cX5_odds 24 = .ok (.i2l, 1) := by decide +kernel
theorem dX5_odds_25 : decode cX5_odds 25 = .ok (.lreturn, 1) := by decide +kernel
theorem dX5_odds_26 : decode cX5_odds 26 = .ok (.iconst 0, 1) := by decide +kernel
theorem dX5_odds_27 : decode cX5_odds 27 = .ok (.istore_n 3, 1) := by decide +kernel
theorem dX5_odds_28 : decode cX5_odds 28 = .ok (.iconst 0, 1) := by decide +kernel
theorem dX5_odds_29 : decode cX5_odds 29 = .ok (.istore 4, 2) := by decide +kernel
theorem dX5_odds_31 : decode cX5_odds 31 = .ok (.iload 4, 2) := by decide +kernel
theorem dX5_odds_33 : decode cX5_odds 33 = .ok (.bipush 16, 2) := by decide +kernel
theorem dX5_odds_35 : decode cX5_odds 35 = .ok (.if_icmp .ge 31, 3) := by decide +kernel
theorem dX5_odds_38 : decode cX5_odds 38 = .ok (.iload_n 3, 1) := by decide +kernel
theorem dX5_odds_39 : decode cX5_odds 39 = .ok (.aload_n 0, 1) := by decide +kernel
theorem dX5_odds_40 : decode cX5_odds 40 = .ok (.getfield 9, 3) := by decide +kernel
theorem dX5_odds_43 : decode cX5_odds 43 = .ok (.bipush 6, 2) := by decide +kernel
theorem dX5_odds_45 : decode cX5_odds 45 = .ok (.iload 4, 2) := by decide +kernel
theorem dX5_odds_47 : decode cX5_odds 47 = .ok (.iadd, 1) := by decide +kernel
theorem dX5_odds_48 : decode cX5_odds 48 = .ok (.iaload, 1) := by decide +kernel
theorem dX5_odds_49 : decode cX5_odds 49 = .ok (.iconst 5, 1) := by decide +kernel
theorem dX5_odds_50 : decode cX5_odds 50 = .ok (.if_icmp .lt 7, 3) := by decide +kernel
theorem dX5_odds_53 : decode cX5_odds 53 = .ok (.iconst 1, 1) := by decide +kernel
theorem dX5_odds_54 : decode cX5_odds 54 = .ok (.goto 4, 3) := by decide +kernel
theorem dX5_odds_57 : decode cX5_odds 57 = .ok (.iconst 0, 1) := by decide +kernel
theorem dX5_odds_58 : decode cX5_odds 58 = .ok (.iadd, 1) := by decide +kernel
theorem dX5_odds_59 : decode cX5_odds 59 = .ok (.istore_n 3, 1) := by decide +kernel
theorem dX5_odds_60 : decode cX5_odds 60 = .ok (.iinc 4 1, 3) := by decide +kernel
theorem dX5_odds_63 : decode cX5_odds 63 = .ok (.goto (-32), 3) := by decide +kernel
theorem dX5_odds_66 : decode cX5_odds 66 = .ok (.lconst 1, 1) := by decide +kernel
theorem dX5_odds_67 : decode cX5_odds 67 = .ok (.lstore 4, 2) := by decide +kernel
theorem dX5_odds_69 : decode cX5_odds 69 = .ok (.lconst 1, 1) := by decide +kernel
theorem dX5_odds_70 : decode cX5_odds 70 = .ok (.lstore 6, 2) := by decide +kernel
theorem dX5_odds_72 : decode cX5_odds 72 = .ok (.iconst 0, 1) := by decide +kernel
theorem dX5_odds_73 : decode cX5_odds 73 = .ok (.istore 8, 2) := by decide +kernel
theorem dX5_odds_75 : decode cX5_odds 75 = .ok (.iload 8, 2) := by decide +kernel
theorem dX5_odds_77 : decode cX5_odds 77 = .ok (.iload_n 1, 1) := by decide +kernel
theorem dX5_odds_78 : decode cX5_odds 78 = .ok (.if_icmp .ge 24, 3) := by decide +kernel
theorem dX5_odds_81 : decode cX5_odds 81 = .ok (.lload 4, 2) := by decide +kernel
theorem dX5_odds_83 : decode cX5_odds 83 = .ok (.iload_n 3, 1) := by decide +kernel
theorem dX5_odds_84 : decode cX5_odds 84 = .ok (.i2l, 1) := by decide +kernel
theorem dX5_odds_85 : decode cX5_odds 85 = .ok (.lmul, 1) := by decide +kernel
theorem dX5_odds_86 : decode cX5_odds 86 = .ok (.lstore 4, 2) := by decide +kernel
theorem dX5_odds_88 : decode cX5_odds 88 = .ok (.lload 6, 2) := by decide +kernel
theorem dX5_odds_90 : decode cX5_odds 90 = .ok (.ldc2_w 194, 3) := by decide +kernel
theorem dX5_odds_93 : decode cX5_odds 93 = .ok (.lmul, 1) := by decide +kernel
theorem dX5_odds_94 : decode cX5_odds 94 = .ok (.lstore 6, 2) := by decide +kernel
theorem dX5_odds_96 : decode cX5_odds 96 = .ok (.iinc 8 1, 3) := by decide +kernel
theorem dX5_odds_99 : decode cX5_odds 99 = .ok (.goto (-24), 3) := by decide +kernel
theorem dX5_odds_102 : decode cX5_odds 102 = .ok (.lload 4, 2) := by decide +kernel
theorem dX5_odds_104 : decode cX5_odds 104 = .ok (.lstore 8, 2) := by decide +kernel
theorem dX5_odds_106 : decode cX5_odds 106 = .ok (.lload 6, 2) := by decide +kernel
theorem dX5_odds_108 : decode cX5_odds 108 = .ok (.lstore 10, 2) := by decide +kernel
theorem dX5_odds_110 : decode cX5_odds 110 = .ok (.lload 10, 2) := by decide +kernel
theorem dX5_odds_112 : decode cX5_odds 112 = .ok (.lconst 0, 1) := by decide +kernel
theorem dX5_odds_113 : decode cX5_odds 113 = .ok (.lcmp, 1) := by decide +kernel
theorem dX5_odds_114 : decode cX5_odds 114 = .ok (.ifCond .eq 21, 3) := by decide +kernel
theorem dX5_odds_117 : decode cX5_odds 117 = .ok (.lload 8, 2) := by decide +kernel
theorem dX5_odds_119 : decode cX5_odds 119 = .ok (.lload 10, 2) := by decide +kernel
theorem dX5_odds_121 : decode cX5_odds 121 = .ok (.lrem, 1) := by decide +kernel
theorem dX5_odds_122 : decode cX5_odds 122 = .ok (.lstore 12, 2) := by decide +kernel
theorem dX5_odds_124 : decode cX5_odds 124 = .ok (.lload 10, 2) := by decide +kernel
theorem dX5_odds_126 : decode cX5_odds 126 = .ok (.lstore 8, 2) := by decide +kernel
theorem dX5_odds_128 : decode cX5_odds 128 = .ok (.lload 12, 2) := by decide +kernel
theorem dX5_odds_130 : decode cX5_odds 130 = .ok (.lstore 10, 2) := by decide +kernel
theorem dX5_odds_132 : decode cX5_odds 132 = .ok (.goto (-22), 3) := by decide +kernel
theorem dX5_odds_135 : decode cX5_odds 135 = .ok (.iload_n 2, 1) := by decide +kernel
theorem dX5_odds_136 : decode cX5_odds 136 = .ok (.ifCond .ne 11, 3) := by decide +kernel
theorem dX5_odds_139 : decode cX5_odds 139 = .ok (.lload 4, 2) := by decide +kernel
theorem dX5_odds_141 : decode cX5_odds 141 = .ok (.lload 8, 2) := by decide +kernel
theorem dX5_odds_143 : decode cX5_odds 143 = .ok (.ldiv, 1) := by decide +kernel
theorem dX5_odds_144 : decode cX5_odds 144 = .ok (.goto 8, 3) := by decide +kernel
theorem dX5_odds_147 : decode cX5_odds 147 = .ok (.lload 6, 2) := by decide +kernel
theorem dX5_odds_149 : decode cX5_odds 149 = .ok (.lload 8, 2) := by decide +kernel
theorem dX5_odds_151 : decode cX5_odds 151 = .ok (.ldiv, 1) := by decide +kernel
theorem dX5_odds_152 : decode cX5_odds 152 = .ok (.lreturn, 1) := by decide +kernel
def j5_odds_19  (xs : Nat → Int32) (xfound : Nat → Int32)  : Option (Int64 × (Nat → Int32)) :=
  ob2 (f5_no xfound (0 : Int32)) (fun r3 xfound_4 =>
  some ((r3.toInt64), xfound_4))
def l5_odds_110  : Nat → (Nat → Int32) → (Nat → Int32) → Int32 → Int64 → Int64 → Int64 → Int64 → Option (Int64 × (Nat → Int32))
  | 0, _, _, _, _, _, _, _ => none
  | n + 1, xs, xfound, v2, v4, v6, v8, v10 =>
    if (lg_cmp v10 (0 : Int64)) = (0 : Int32) then (
      if v2 = (0 : Int32) then (
        gd (nzl v8) (
        some ((v4 / v8), xfound)))
      else (
        gd (nzl v8) (
        some ((v6 / v8), xfound))))
    else (
      gd (nzl v10) (
      (l5_odds_110 n) xs xfound v2 v4 v6 v10 (v8 - v8 / v10 * v10)))
def l5_odds_75  : Nat → (Nat → Int32) → (Nat → Int32) → Int32 → Int32 → Int32 → Int64 → Int64 → Int32 → Option (Int64 × (Nat → Int32))
  | 0, _, _, _, _, _, _, _, _ => none
  | n + 1, xs, xfound, v1, v2, v3, v4, v6, v8 =>
    if v1 ≤ v8 then (
      l5_odds_110 1000 xs xfound v2 v4 v6 v4 v6)
    else (
      (l5_odds_75 n) xs xfound v1 v2 v3 (v4 * (v3.toInt64)) (v6 * (16 : Int64)) (v8 + (1 : Int32)))
def j5_odds_58 (k31 : (Nat → Int32) → (Nat → Int32) → Int32 → Int32 → Int32 → Int32 → Option (Int64 × (Nat → Int32))) (xs : Nat → Int32) (xfound : Nat → Int32) (v1 : Int32) (v2 : Int32) (v4 : Int32) (t0 : Int32) (t1 : Int32) : Option (Int64 × (Nat → Int32)) :=
  k31 xs xfound v1 v2 (t0 + t1) (v4 + (1 : Int32))
def l5_odds_31  : Nat → (Nat → Int32) → (Nat → Int32) → Int32 → Int32 → Int32 → Int32 → Option (Int64 × (Nat → Int32))
  | 0, _, _, _, _, _, _ => none
  | n + 1, xs, xfound, v1, v2, v3, v4 =>
    if (16 : Int32) ≤ v4 then (
      l5_odds_75 1000 xs xfound v1 v2 v3 (1 : Int64) (1 : Int64) (0 : Int32))
    else (
      gd (inb ((6 : Int32) + v4) 88) (
      if (xs (((6 : Int32) + v4).toNatClampNeg)) < (5 : Int32) then (
        j5_odds_58 (l5_odds_31 n) xs xfound v1 v2 v4 v3 (0 : Int32))
      else (
        j5_odds_58 (l5_odds_31 n) xs xfound v1 v2 v4 v3 (1 : Int32))))
def f5_odds (xs : Nat → Int32) (xfound : Nat → Int32) (v1 : Int32) (v2 : Int32) : Option (Int64 × (Nat → Int32)) :=
  if (f5_in1 v1 (0 : Int32) (15 : Int32)) = (0 : Int32) then (
    j5_odds_19 xs xfound)
  else (
    if (f5_in1 v2 (0 : Int32) (1 : Int32)) = (0 : Int32) then (
      j5_odds_19 xs xfound)
    else (
      l5_odds_31 1000 xs xfound v1 v2 (0 : Int32) (0 : Int32)))
set_option maxHeartbeats 4000000 in
set_option maxRecDepth 100000 in
theorem b5_odds_19 {X : XP} {p : Program} {l : Launch} {e : Env} {s : State} {m : MethodId} {args : Array Value} {below : List Frame} {meth : Method} {c : Code} {D : va_G} {cI cC : ClassId} {ad : Nat → Nat} {A : Nat → Prop} {xs : Nat → Int32} {xkept : Nat → Int32} {xaside : Nat → Int32} {xisK : Int32} {xgone : Int32} {xover : Nat → Int32} {xtape : Nat → Int32} {xtaped : Int32} {xtok : Int32} {xbeg : Int32} {xend : Int32} {xval : Int64} {xwid : Nat → Int32} {xsiz : Nat → Int32} {xcel : Nat → Int32} {xcar : Nat → Int32} {r0 : Int64} {o_xfound : Nat → Int32} (C0 : CX X p s m args meth c cX5_odds 14 (some .long) RX5 A) : ∀ {xfound : Nat → Int32} {H : Heap} {locs : List Loc} {ls : Array Slot}, GX X D (tyM cI cC) A s (wM cI cC ad xs xkept xaside xisK xfound xgone xover xtape xtaped xtok xbeg xend xval xwid xsiz xcel xcar) H locs → lv_has ls 14 [(0, .ref (ad 0))] → j5_odds_19  xs xfound = some (r0, o_xfound) → W p l e ({ frames := 1, cells := 0, slots := 0, locals := 22 }) s m args below meth c H locs 0 0 (MQ below (QcL D (tyM cI cC) (wM cI cC ad xs xkept xaside xisK o_xfound xgone xover xtape xtaped xtok xbeg xend xval xwid xsiz xcel xcar) A r0) args s 0 0 A) (F0 m 19 ls []) := by
  have hx := C0.1
  have hb := C0.2.1
  have hown := C0.2.2.2.2.1
  have hts := C0.2.2.2.2.2.1
  have hX := C0.2.2.2.2.2.2.2.2
  intro xfound H locs ls G hl hf
  unfold j5_odds_19 at hf
  refine lv_aload_n hx hb dX5_odds_19 rfl (lv_at hl 0 rfl) ?_
  refine lv_iconst (v := (0 : Int32)) hx hb dX5_odds_20 (by decide) ?_
  obtain ⟨r3, xfound_4, hc5, hf⟩ := ob2_s hf
  refine go_i C0 G (runV_of (n := 1) (q0 := 0) (As := [.int (0 : Int32)]) (rest := []) C0 G (c5_no hX hc5) q788 q54 q785 q787 q9 o5_no ⟨rfl, rfl⟩ ⟨Nat.le_of_ble_eq_true rfl, Nat.le_of_ble_eq_true rfl⟩ rfl rfl rfl hl.1 rfl (Nat.le_of_ble_eq_true rfl) dX5_odds_21) (fun H locs G => ?_)
  refine lv_i2l hx hb dX5_odds_24 rfl ?_
  obtain ⟨rfl, rfl⟩ := inj2 hf
  exact ret_l C0 G dX5_odds_25
set_option maxHeartbeats 4000000 in
set_option maxRecDepth 100000 in
theorem b5_odds_110 {X : XP} {p : Program} {l : Launch} {e : Env} {s : State} {m : MethodId} {args : Array Value} {below : List Frame} {meth : Method} {c : Code} {D : va_G} {cI cC : ClassId} {ad : Nat → Nat} {A : Nat → Prop} {xs : Nat → Int32} {xkept : Nat → Int32} {xaside : Nat → Int32} {xisK : Int32} {xgone : Int32} {xover : Nat → Int32} {xtape : Nat → Int32} {xtaped : Int32} {xtok : Int32} {xbeg : Int32} {xend : Int32} {xval : Int64} {xwid : Nat → Int32} {xsiz : Nat → Int32} {xcel : Nat → Int32} {xcar : Nat → Int32} {r0 : Int64} {o_xfound : Nat → Int32} (C0 : CX X p s m args meth c cX5_odds 14 (some .long) RX5 A) : ∀ (n : Nat) {xfound : Nat → Int32} {v2 : Int32} {v4 : Int64} {v6 : Int64} {v8 : Int64} {v10 : Int64} {H : Heap} {locs : List Loc} {ls : Array Slot}, GX X D (tyM cI cC) A s (wM cI cC ad xs xkept xaside xisK xfound xgone xover xtape xtaped xtok xbeg xend xval xwid xsiz xcel xcar) H locs → lv_has ls 14 [(2, .int v2), (4, .long v4), (6, .long v6), (8, .long v8), (10, .long v10)] → l5_odds_110  n xs xfound v2 v4 v6 v8 v10 = some (r0, o_xfound) → W p l e ({ frames := 1, cells := 0, slots := 0, locals := 22 }) s m args below meth c H locs 0 0 (MQ below (QcL D (tyM cI cC) (wM cI cC ad xs xkept xaside xisK o_xfound xgone xover xtape xtaped xtok xbeg xend xval xwid xsiz xcel xcar) A r0) args s 0 0 A) (F0 m 110 ls []) := by
  have hx := C0.1
  have hb := C0.2.1
  have hown := C0.2.2.2.2.1
  have hts := C0.2.2.2.2.2.1
  have hX := C0.2.2.2.2.2.2.2.2
  intro n
  induction n with
  | zero =>
    intro _ _ _ _ _ _ _ _ _ G hl hf
    cases hf
  | succ n ih =>
    intro xfound v2 v4 v6 v8 v10 H locs ls G hl hf
    rw [l5_odds_110] at hf
    refine lv_lload hx hb dX5_odds_110 (lv_at hl 4 rfl) ?_
    refine lv_lconst (v := (0 : Int64)) hx hb dX5_odds_112 (by decide) ?_
    refine W.lcmp hx hb dX5_odds_113 ?_
    refine lv_if_eq (tgt := 135) hx hb dX5_odds_114 (by decide) (fun hc10 => ?_) (fun hc10 => ?_)
    · have hf := itp hc10 hf
      refine lv_iload_n hx hb dX5_odds_135 rfl (lv_at hl 0 rfl) ?_
      refine lv_if_ne (tgt := 147) hx hb dX5_odds_136 (by decide) (fun hc11 => ?_) (fun hc11 => ?_)
      · have hf := itn hc11 hf
        refine lv_lload hx hb dX5_odds_147 (lv_at hl 2 rfl) ?_
        refine lv_lload hx hb dX5_odds_149 (lv_at hl 3 rfl) ?_
        obtain ⟨hz12, hf⟩ := gd_s hf
        refine lv_ldiv hx hb dX5_odds_151 (nzl_ne hz12) ?_
        obtain ⟨rfl, rfl⟩ := inj2 hf
        exact ret_l C0 G dX5_odds_152
      · have hf := itp hc11 hf
        refine lv_lload hx hb dX5_odds_139 (lv_at hl 1 rfl) ?_
        refine lv_lload hx hb dX5_odds_141 (lv_at hl 3 rfl) ?_
        obtain ⟨hz13, hf⟩ := gd_s hf
        refine lv_ldiv hx hb dX5_odds_143 (nzl_ne hz13) ?_
        refine lv_goto (tgt := 152) hx hb dX5_odds_144 (by decide) ?_
        obtain ⟨rfl, rfl⟩ := inj2 hf
        exact ret_l C0 G dX5_odds_152
    · have hf := itn hc10 hf
      refine lv_lload hx hb dX5_odds_117 (lv_at hl 3 rfl) ?_
      refine lv_lload hx hb dX5_odds_119 (lv_at hl 4 rfl) ?_
      obtain ⟨hz14, hf⟩ := gd_s hf
      refine lv_lrem hx hb dX5_odds_121 (nzl_ne hz14) ?_
      refine lv_lstore (lv' := [(12, .long (v8 - v8 / v10 * v10)), (2, .int v2), (4, .long v4), (6, .long v6), (8, .long v8), (10, .long v10)]) hx hb dX5_odds_122 hl (by decide) rfl (fun ls hl => ?_)
      refine lv_lload hx hb dX5_odds_124 (lv_at hl 5 rfl) ?_
      refine lv_lstore (lv' := [(8, .long v10), (12, .long (v8 - v8 / v10 * v10)), (2, .int v2), (4, .long v4), (6, .long v6), (10, .long v10)]) hx hb dX5_odds_126 hl (by decide) rfl (fun ls hl => ?_)
      refine lv_lload hx hb dX5_odds_128 (lv_at hl 1 rfl) ?_
      refine lv_lstore (lv' := [(10, .long (v8 - v8 / v10 * v10)), (8, .long v10), (12, .long (v8 - v8 / v10 * v10)), (2, .int v2), (4, .long v4), (6, .long v6)]) hx hb dX5_odds_130 hl (by decide) rfl (fun ls hl => ?_)
      refine lv_goto (tgt := 110) hx hb dX5_odds_132 (by decide) ?_
      exact ih G (lv_sub hl [3, 4, 5, 1, 0] rfl) hf
set_option maxHeartbeats 4000000 in
set_option maxRecDepth 100000 in
theorem b5_odds_75 {X : XP} {p : Program} {l : Launch} {e : Env} {s : State} {m : MethodId} {args : Array Value} {below : List Frame} {meth : Method} {c : Code} {D : va_G} {cI cC : ClassId} {ad : Nat → Nat} {A : Nat → Prop} {xs : Nat → Int32} {xkept : Nat → Int32} {xaside : Nat → Int32} {xisK : Int32} {xgone : Int32} {xover : Nat → Int32} {xtape : Nat → Int32} {xtaped : Int32} {xtok : Int32} {xbeg : Int32} {xend : Int32} {xval : Int64} {xwid : Nat → Int32} {xsiz : Nat → Int32} {xcel : Nat → Int32} {xcar : Nat → Int32} {r0 : Int64} {o_xfound : Nat → Int32} (C0 : CX X p s m args meth c cX5_odds 14 (some .long) RX5 A) : ∀ (n : Nat) {xfound : Nat → Int32} {v1 : Int32} {v2 : Int32} {v3 : Int32} {v4 : Int64} {v6 : Int64} {v8 : Int32} {H : Heap} {locs : List Loc} {ls : Array Slot}, GX X D (tyM cI cC) A s (wM cI cC ad xs xkept xaside xisK xfound xgone xover xtape xtaped xtok xbeg xend xval xwid xsiz xcel xcar) H locs → lv_has ls 14 [(1, .int v1), (2, .int v2), (3, .int v3), (4, .long v4), (6, .long v6), (8, .int v8)] → l5_odds_75  n xs xfound v1 v2 v3 v4 v6 v8 = some (r0, o_xfound) → W p l e ({ frames := 1, cells := 0, slots := 0, locals := 22 }) s m args below meth c H locs 0 0 (MQ below (QcL D (tyM cI cC) (wM cI cC ad xs xkept xaside xisK o_xfound xgone xover xtape xtaped xtok xbeg xend xval xwid xsiz xcel xcar) A r0) args s 0 0 A) (F0 m 75 ls []) := by
  have hx := C0.1
  have hb := C0.2.1
  have hown := C0.2.2.2.2.1
  have hts := C0.2.2.2.2.2.1
  have hX := C0.2.2.2.2.2.2.2.2
  intro n
  induction n with
  | zero =>
    intro _ _ _ _ _ _ _ _ _ _ G hl hf
    cases hf
  | succ n ih =>
    intro xfound v1 v2 v3 v4 v6 v8 H locs ls G hl hf
    rw [l5_odds_75] at hf
    refine lv_iload hx hb dX5_odds_75 (lv_at hl 5 rfl) ?_
    refine lv_iload_n hx hb dX5_odds_77 rfl (lv_at hl 0 rfl) ?_
    refine lv_icmp_ge (tgt := 102) hx hb dX5_odds_78 (by decide) (fun hc9 => ?_) (fun hc9 => ?_)
    · have hf := itp hc9 hf
      refine lv_lload hx hb dX5_odds_102 (lv_at hl 3 rfl) ?_
      refine lv_lstore (lv' := [(8, .long v4), (1, .int v1), (2, .int v2), (3, .int v3), (4, .long v4), (6, .long v6)]) hx hb dX5_odds_104 hl (by decide) rfl (fun ls hl => ?_)
      refine lv_lload hx hb dX5_odds_106 (lv_at hl 5 rfl) ?_
      refine lv_lstore (lv' := [(10, .long v6), (8, .long v4), (1, .int v1), (2, .int v2), (3, .int v3), (4, .long v4), (6, .long v6)]) hx hb dX5_odds_108 hl (by decide) rfl (fun ls hl => ?_)
      exact b5_odds_110 C0  1000 G (lv_sub hl [3, 5, 6, 1, 0] rfl) hf
    · have hf := itn hc9 hf
      refine lv_lload hx hb dX5_odds_81 (lv_at hl 3 rfl) ?_
      refine lv_iload_n hx hb dX5_odds_83 rfl (lv_at hl 2 rfl) ?_
      refine lv_i2l hx hb dX5_odds_84 rfl ?_
      refine lv_lmul hx hb dX5_odds_85 ?_
      refine lv_lstore (lv' := [(4, .long (v4 * (v3.toInt64))), (1, .int v1), (2, .int v2), (3, .int v3), (6, .long v6), (8, .int v8)]) hx hb dX5_odds_86 hl (by decide) rfl (fun ls hl => ?_)
      refine lv_lload hx hb dX5_odds_88 (lv_at hl 4 rfl) ?_
      refine lv_ldc2 (v := (16 : Int64)) hx hb hown (hts _ q1038) dX5_odds_90 ?_
      refine lv_lmul hx hb dX5_odds_93 ?_
      refine lv_lstore (lv' := [(6, .long (v6 * (16 : Int64))), (4, .long (v4 * (v3.toInt64))), (1, .int v1), (2, .int v2), (3, .int v3), (8, .int v8)]) hx hb dX5_odds_94 hl (by decide) rfl (fun ls hl => ?_)
      refine lv_iinc (v := (v8 + (1 : Int32))) (lv' := [(8, .int (v8 + (1 : Int32))), (6, .long (v6 * (16 : Int64))), (4, .long (v4 * (v3.toInt64))), (1, .int v1), (2, .int v2), (3, .int v3)]) hx hb dX5_odds_96 hl (k := 5) rfl rfl (by decide) rfl (fun ls hl => ?_)
      refine lv_goto (tgt := 75) hx hb dX5_odds_99 (by decide) ?_
      exact ih G (lv_sub hl [3, 4, 5, 2, 1, 0] rfl) hf
set_option maxHeartbeats 4000000 in
set_option maxRecDepth 100000 in
theorem b5_odds_58 {X : XP} {p : Program} {l : Launch} {e : Env} {s : State} {m : MethodId} {args : Array Value} {below : List Frame} {meth : Method} {c : Code} {D : va_G} {cI cC : ClassId} {ad : Nat → Nat} {A : Nat → Prop} {xs : Nat → Int32} {xkept : Nat → Int32} {xaside : Nat → Int32} {xisK : Int32} {xgone : Int32} {xover : Nat → Int32} {xtape : Nat → Int32} {xtaped : Int32} {xtok : Int32} {xbeg : Int32} {xend : Int32} {xval : Int64} {xwid : Nat → Int32} {xsiz : Nat → Int32} {xcel : Nat → Int32} {xcar : Nat → Int32} {r0 : Int64} {o_xfound : Nat → Int32} (C0 : CX X p s m args meth c cX5_odds 14 (some .long) RX5 A) {k31 : (Nat → Int32) → (Nat → Int32) → Int32 → Int32 → Int32 → Int32 → Option (Int64 × (Nat → Int32))} (hk31 : ∀ {xfound : Nat → Int32} {v1 : Int32} {v2 : Int32} {v3 : Int32} {v4 : Int32} {H : Heap} {locs : List Loc} {ls : Array Slot}, GX X D (tyM cI cC) A s (wM cI cC ad xs xkept xaside xisK xfound xgone xover xtape xtaped xtok xbeg xend xval xwid xsiz xcel xcar) H locs → lv_has ls 14 [(0, .ref (ad 0)), (1, .int v1), (2, .int v2), (3, .int v3), (4, .int v4)] → k31 xs xfound v1 v2 v3 v4 = some (r0, o_xfound) → W p l e ({ frames := 1, cells := 0, slots := 0, locals := 22 }) s m args below meth c H locs 0 0 (MQ below (QcL D (tyM cI cC) (wM cI cC ad xs xkept xaside xisK o_xfound xgone xover xtape xtaped xtok xbeg xend xval xwid xsiz xcel xcar) A r0) args s 0 0 A) (F0 m 31 ls [])) : ∀ {xfound : Nat → Int32} {v1 : Int32} {v2 : Int32} {v4 : Int32} {t0 : Int32} {t1 : Int32} {H : Heap} {locs : List Loc} {ls : Array Slot}, GX X D (tyM cI cC) A s (wM cI cC ad xs xkept xaside xisK xfound xgone xover xtape xtaped xtok xbeg xend xval xwid xsiz xcel xcar) H locs → lv_has ls 14 [(0, .ref (ad 0)), (1, .int v1), (2, .int v2), (4, .int v4)] → j5_odds_58 k31 xs xfound v1 v2 v4 t0 t1 = some (r0, o_xfound) → W p l e ({ frames := 1, cells := 0, slots := 0, locals := 22 }) s m args below meth c H locs 0 0 (MQ below (QcL D (tyM cI cC) (wM cI cC ad xs xkept xaside xisK o_xfound xgone xover xtape xtaped xtok xbeg xend xval xwid xsiz xcel xcar) A r0) args s 0 0 A) (F0 m 58 ls [.int t1, .int t0]) := by
  have hx := C0.1
  have hb := C0.2.1
  have hown := C0.2.2.2.2.1
  have hts := C0.2.2.2.2.2.1
  have hX := C0.2.2.2.2.2.2.2.2
  intro xfound v1 v2 v4 t0 t1 H locs ls G hl hf
  unfold j5_odds_58 at hf
  refine lv_iadd hx hb dX5_odds_58 ?_
  refine lv_istore_n (lv' := [(3, .int (t0 + t1)), (0, .ref (ad 0)), (1, .int v1), (2, .int v2), (4, .int v4)]) hx hb dX5_odds_59 rfl hl (by decide) rfl (fun ls hl => ?_)
  refine lv_iinc (v := (v4 + (1 : Int32))) (lv' := [(4, .int (v4 + (1 : Int32))), (3, .int (t0 + t1)), (0, .ref (ad 0)), (1, .int v1), (2, .int v2)]) hx hb dX5_odds_60 hl (k := 4) rfl rfl (by decide) rfl (fun ls hl => ?_)
  refine lv_goto (tgt := 31) hx hb dX5_odds_63 (by decide) ?_
  exact hk31 G (lv_sub hl [2, 3, 4, 1, 0] rfl) hf
set_option maxHeartbeats 4000000 in
set_option maxRecDepth 100000 in
theorem b5_odds_31 {X : XP} {p : Program} {l : Launch} {e : Env} {s : State} {m : MethodId} {args : Array Value} {below : List Frame} {meth : Method} {c : Code} {D : va_G} {cI cC : ClassId} {ad : Nat → Nat} {A : Nat → Prop} {xs : Nat → Int32} {xkept : Nat → Int32} {xaside : Nat → Int32} {xisK : Int32} {xgone : Int32} {xover : Nat → Int32} {xtape : Nat → Int32} {xtaped : Int32} {xtok : Int32} {xbeg : Int32} {xend : Int32} {xval : Int64} {xwid : Nat → Int32} {xsiz : Nat → Int32} {xcel : Nat → Int32} {xcar : Nat → Int32} {r0 : Int64} {o_xfound : Nat → Int32} (C0 : CX X p s m args meth c cX5_odds 14 (some .long) RX5 A) : ∀ (n : Nat) {xfound : Nat → Int32} {v1 : Int32} {v2 : Int32} {v3 : Int32} {v4 : Int32} {H : Heap} {locs : List Loc} {ls : Array Slot}, GX X D (tyM cI cC) A s (wM cI cC ad xs xkept xaside xisK xfound xgone xover xtape xtaped xtok xbeg xend xval xwid xsiz xcel xcar) H locs → lv_has ls 14 [(0, .ref (ad 0)), (1, .int v1), (2, .int v2), (3, .int v3), (4, .int v4)] → l5_odds_31  n xs xfound v1 v2 v3 v4 = some (r0, o_xfound) → W p l e ({ frames := 1, cells := 0, slots := 0, locals := 22 }) s m args below meth c H locs 0 0 (MQ below (QcL D (tyM cI cC) (wM cI cC ad xs xkept xaside xisK o_xfound xgone xover xtape xtaped xtok xbeg xend xval xwid xsiz xcel xcar) A r0) args s 0 0 A) (F0 m 31 ls []) := by
  have hx := C0.1
  have hb := C0.2.1
  have hown := C0.2.2.2.2.1
  have hts := C0.2.2.2.2.2.1
  have hX := C0.2.2.2.2.2.2.2.2
  intro n
  induction n with
  | zero =>
    intro _ _ _ _ _ _ _ _ G hl hf
    cases hf
  | succ n ih =>
    intro xfound v1 v2 v3 v4 H locs ls G hl hf
    rw [l5_odds_31] at hf
    refine lv_iload hx hb dX5_odds_31 (lv_at hl 4 rfl) ?_
    refine lv_bipush (v := (16 : Int32)) hx hb dX5_odds_33 (by decide) ?_
    refine lv_icmp_ge (tgt := 66) hx hb dX5_odds_35 (by decide) (fun hc6 => ?_) (fun hc6 => ?_)
    · have hf := itp hc6 hf
      refine lv_lconst (v := (1 : Int64)) hx hb dX5_odds_66 (by decide) ?_
      refine lv_lstore (lv' := [(4, .long (1 : Int64)), (0, .ref (ad 0)), (1, .int v1), (2, .int v2), (3, .int v3)]) hx hb dX5_odds_67 hl (by decide) rfl (fun ls hl => ?_)
      refine lv_lconst (v := (1 : Int64)) hx hb dX5_odds_69 (by decide) ?_
      refine lv_lstore (lv' := [(6, .long (1 : Int64)), (4, .long (1 : Int64)), (0, .ref (ad 0)), (1, .int v1), (2, .int v2), (3, .int v3)]) hx hb dX5_odds_70 hl (by decide) rfl (fun ls hl => ?_)
      refine lv_iconst (v := (0 : Int32)) hx hb dX5_odds_72 (by decide) ?_
      refine lv_istore (lv' := [(8, .int (0 : Int32)), (6, .long (1 : Int64)), (4, .long (1 : Int64)), (0, .ref (ad 0)), (1, .int v1), (2, .int v2), (3, .int v3)]) hx hb dX5_odds_73 hl (by decide) rfl (fun ls hl => ?_)
      exact b5_odds_75 C0  1000 G (lv_sub hl [4, 5, 6, 2, 1, 0] rfl) hf
    · have hf := itn hc6 hf
      refine lv_iload_n hx hb dX5_odds_38 rfl (lv_at hl 3 rfl) ?_
      refine lv_aload_n hx hb dX5_odds_39 rfl (lv_at hl 0 rfl) ?_
      refine s_get (C := RX5) (T := TX5) C0 G i_X5 0 0 rfl rfl (by decide) q713 rfl dX5_odds_40 ?_
      refine lv_bipush (v := (6 : Int32)) hx hb dX5_odds_43 (by decide) ?_
      refine lv_iload hx hb dX5_odds_45 (lv_at hl 4 rfl) ?_
      refine lv_iadd hx hb dX5_odds_47 ?_
      obtain ⟨hi7, hf⟩ := gd_s hf
      refine s_iald (k := ((6 : Int32) + v4).toNatClampNeg) C0 G 1 0 rfl rfl (vin hi7) rfl dX5_odds_48 ?_
      refine lv_iconst (v := (5 : Int32)) hx hb dX5_odds_49 (by decide) ?_
      refine lv_icmp_lt (tgt := 57) hx hb dX5_odds_50 (by decide) (fun hc8 => ?_) (fun hc8 => ?_)
      · have hf := itp hc8 hf
        refine lv_iconst (v := (0 : Int32)) hx hb dX5_odds_57 (by decide) ?_
        exact b5_odds_58 C0 ih G (lv_sub hl [0, 1, 2, 4] rfl) hf
      · have hf := itn hc8 hf
        refine lv_iconst (v := (1 : Int32)) hx hb dX5_odds_53 (by decide) ?_
        refine lv_goto (tgt := 58) hx hb dX5_odds_54 (by decide) ?_
        exact b5_odds_58 C0 ih G (lv_sub hl [0, 1, 2, 4] rfl) hf
set_option maxHeartbeats 4000000 in
set_option maxRecDepth 100000 in
theorem b5_odds_0 {X : XP} {p : Program} {l : Launch} {e : Env} {s : State} {m : MethodId} {args : Array Value} {below : List Frame} {meth : Method} {c : Code} {D : va_G} {cI cC : ClassId} {ad : Nat → Nat} {A : Nat → Prop} {xs : Nat → Int32} {xkept : Nat → Int32} {xaside : Nat → Int32} {xisK : Int32} {xgone : Int32} {xover : Nat → Int32} {xtape : Nat → Int32} {xtaped : Int32} {xtok : Int32} {xbeg : Int32} {xend : Int32} {xval : Int64} {xwid : Nat → Int32} {xsiz : Nat → Int32} {xcel : Nat → Int32} {xcar : Nat → Int32} {r0 : Int64} {o_xfound : Nat → Int32} (C0 : CX X p s m args meth c cX5_odds 14 (some .long) RX5 A) : ∀ {xfound : Nat → Int32} {v1 : Int32} {v2 : Int32} {H : Heap} {locs : List Loc} {ls : Array Slot}, GX X D (tyM cI cC) A s (wM cI cC ad xs xkept xaside xisK xfound xgone xover xtape xtaped xtok xbeg xend xval xwid xsiz xcel xcar) H locs → lv_has ls 14 [(0, .ref (ad 0)), (1, .int v1), (2, .int v2)] → f5_odds xs xfound v1 v2 = some (r0, o_xfound) → W p l e ({ frames := 1, cells := 0, slots := 0, locals := 22 }) s m args below meth c H locs 0 0 (MQ below (QcL D (tyM cI cC) (wM cI cC ad xs xkept xaside xisK o_xfound xgone xover xtape xtaped xtok xbeg xend xval xwid xsiz xcel xcar) A r0) args s 0 0 A) (F0 m 0 ls []) := by
  have hx := C0.1
  have hb := C0.2.1
  have hown := C0.2.2.2.2.1
  have hts := C0.2.2.2.2.2.1
  have hX := C0.2.2.2.2.2.2.2.2
  intro xfound v1 v2 H locs ls G hl hf
  unfold f5_odds at hf
  refine lv_iload_n hx hb dX5_odds_0 rfl (lv_at hl 1 rfl) ?_
  refine lv_iconst (v := (0 : Int32)) hx hb dX5_odds_1 (by decide) ?_
  refine lv_bipush (v := (15 : Int32)) hx hb dX5_odds_2 (by decide) ?_
  refine go_i C0 G (runS_of (n := 3) (As := [.int v1, .int (0 : Int32), .int (15 : Int32)]) (rest := []) C0 G (c5_in1 hX rfl) q784 q54 q782 q783 o5_in1 ⟨rfl, rfl⟩ ⟨Nat.le_of_ble_eq_true rfl, Nat.le_of_ble_eq_true rfl⟩ rfl hl.1 rfl (Nat.le_of_ble_eq_true rfl) dX5_odds_4) (fun H locs G => ?_)
  refine lv_if_eq (tgt := 19) hx hb dX5_odds_7 (by decide) (fun hc1 => ?_) (fun hc1 => ?_)
  · have hf := itp hc1 hf
    exact b5_odds_19 C0  G (lv_sub hl [0] rfl) hf
  · have hf := itn hc1 hf
    refine lv_iload_n hx hb dX5_odds_10 rfl (lv_at hl 2 rfl) ?_
    refine lv_iconst (v := (0 : Int32)) hx hb dX5_odds_11 (by decide) ?_
    refine lv_iconst (v := (1 : Int32)) hx hb dX5_odds_12 (by decide) ?_
    refine go_i C0 G (runS_of (n := 3) (As := [.int v2, .int (0 : Int32), .int (1 : Int32)]) (rest := []) C0 G (c5_in1 hX rfl) q784 q54 q782 q783 o5_in1 ⟨rfl, rfl⟩ ⟨Nat.le_of_ble_eq_true rfl, Nat.le_of_ble_eq_true rfl⟩ rfl hl.1 rfl (Nat.le_of_ble_eq_true rfl) dX5_odds_13) (fun H locs G => ?_)
    refine lv_if_ne (tgt := 26) hx hb dX5_odds_16 (by decide) (fun hc2 => ?_) (fun hc2 => ?_)
    · have hf := itn hc2 hf
      refine lv_iconst (v := (0 : Int32)) hx hb dX5_odds_26 (by decide) ?_
      refine lv_istore_n (lv' := [(3, .int (0 : Int32)), (0, .ref (ad 0)), (1, .int v1), (2, .int v2)]) hx hb dX5_odds_27 rfl hl (by decide) rfl (fun ls hl => ?_)
      refine lv_iconst (v := (0 : Int32)) hx hb dX5_odds_28 (by decide) ?_
      refine lv_istore (lv' := [(4, .int (0 : Int32)), (3, .int (0 : Int32)), (0, .ref (ad 0)), (1, .int v1), (2, .int v2)]) hx hb dX5_odds_29 hl (by decide) rfl (fun ls hl => ?_)
      exact b5_odds_31 C0  1000 G (lv_sub hl [2, 3, 4, 1, 0] rfl) hf
    · have hf := itp hc2 hf
      exact b5_odds_19 C0  G (lv_sub hl [0] rfl) hf
theorem o5_odds : okName yX5_odds 2 := ⟨by decide, by decide, by decide +kernel⟩
set_option maxHeartbeats 4000000 in
set_option maxRecDepth 100000 in
theorem c5_odds {X : XP} (hX : XT X) {l : Launch} {D : va_G} {cI cC : ClassId} {ad : Nat → Nat} {sz : Nat} {xs : Nat → Int32} {xkept : Nat → Int32} {xaside : Nat → Int32} {xisK : Int32} {xfound : Nat → Int32} {xgone : Int32} {xover : Nat → Int32} {xtape : Nat → Int32} {xtaped : Int32} {xtok : Int32} {xbeg : Int32} {xend : Int32} {xval : Int64} {xwid : Nat → Int32} {xsiz : Nat → Int32} {xcel : Nat → Int32} {xcar : Nat → Int32} {v1 : Int32} {v2 : Int32} {r0 : Int64} {o_xfound : Nat → Int32} (hf : f5_odds xs xfound v1 v2 = some (r0, o_xfound)) : Met l yX5_odds (wU yX5_odds cX5_odds 14 (some .long)) ({ frames := 1, cells := 0, slots := 0, locals := 22 }) (va_Pc [.ref (ad 0), .int v1, .int v2] (PreW X D (tyM cI cC) (wM cI cC ad xs xkept xaside xisK xfound xgone xover xtape xtaped xtok xbeg xend xval xwid xsiz xcel xcar) sz)) (QcL D (tyM cI cC) (wM cI cC ad xs xkept xaside xisK o_xfound xgone xover xtape xtaped xtok xbeg xend xval xwid xsiz xcel xcar) (va_A (wM cI cC ad xs xkept xaside xisK xfound xgone xover xtape xtaped xtok xbeg xend xval xwid xsiz xcel xcar) sz) r0) 0 0 (va_A (wM cI cC ad xs xkept xaside xisK xfound xgone xover xtape xtaped xtok xbeg xend xval xwid xsiz xcel xcar) sz) := by
  refine startW hX (own := RX5) (by decide) rfl (Nat.le_of_ble_eq_true rfl) (fun p e s m args below meth c ls C0 G hl => ?_)
  exact b5_odds_0 C0 G hl hf
