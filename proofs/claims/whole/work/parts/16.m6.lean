/-! 5_load -/
theorem dX5_load_0 : decode cX5_load 0 = .ok (.aload_n 0, 1) := by decide +kernel
theorem dX5_load_1 : decode cX5_load 1 = .ok (.iload_n 1, 1) := by decide +kernel
theorem dX5_load_2 : decode cX5_load 2 = .ok (.invokevirtual 173, 3) := by decide +kernel
theorem dX5_load_5 : decode cX5_load 5 = .ok (.istore_n 2, 1) := by decide +kernel
theorem dX5_load_6 : decode cX5_load 6 = .ok (.iload_n 2, 1) := by decide +kernel
theorem dX5_load_7 : decode cX5_load 7 = .ok (.ifCond .lt 9, 3) := by decide +kernel
theorem dX5_load_10 : decode cX5_load 10 = .ok (.aload_n 0, 1) := by decide +kernel
theorem dX5_load_11 : decode cX5_load 11 = .ok (.iload_n 2, 1) := by decide +kernel
theorem dX5_load_12 : decode cX5_load 12 = .ok (.invokevirtual 105, 3) := by decide +kernel
theorem dX5_load_15 : decode cX5_load 15 = .ok (.ireturn, 1) := by decide +kernel
theorem dX5_load_16 : decode cX5_load 16 = .ok (.iconst 0, 1) := by decide +kernel
theorem dX5_load_17 : decode cX5_load 17 = .ok (.istore_n 3, 1) := by decide +kernel
theorem dX5_load_18 : decode cX5_load 18 = .ok (.iload_n 3, 1) := by decide +kernel
theorem dX5_load_19 : decode cX5_load 19 = .ok (.aload_n 0, 1) := by decide +kernel
theorem dX5_load_20 : decode cX5_load 20 = .ok (.getfield 41, 3) := by decide +kernel
theorem dX5_load_23 : decode cX5_load 23 = .ok (.iload_n 1, 1) := by decide +kernel
theorem dX5_load_24 : decode cX5_load 24 = .ok (.iaload, 1) := by decide +kernel
theorem dX5_load_25 : decode cX5_load 25 = .ok (.if_icmp .ge 45, 3) := by decide +kernel
theorem dX5_load_28 : decode cX5_load 28 = .ok (.iload_n 3, 1) := by decide +kernel
theorem dX5_load_29 : decode cX5_load 29 = .ok (.bipush 16, 2) := by decide +kernel
theorem dX5_load_31 : decode cX5_load 31 = .ok (.if_icmp .ge 39, 3) := by decide +kernel
theorem dX5_load_34 : decode cX5_load 34 = .ok (.aload_n 0, 1) := by decide +kernel
theorem dX5_load_35 : decode cX5_load 35 = .ok (.iload_n 1, 1) := by decide +kernel
theorem dX5_load_36 : decode cX5_load 36 = .ok (.iload_n 3, 1) := by decide +kernel
theorem dX5_load_37 : decode cX5_load 37 = .ok (.invokevirtual 176, 3) := by decide +kernel
theorem dX5_load_40 : decode cX5_load 40 = .ok (.iconst 0, 1) := by decide +kernel
theorem dX5_load_41 : decode cX5_load 41 = .ok (.bipush 30, 2) := by decide +kernel
theorem dX5_load_43 : decode cX5_load 43 = .ok (.invokestatic 51, 3) := by decide +kernel
theorem dX5_load_46 : decode cX5_load 46 = .ok (.ifCond .eq 24, 3) := by decide +kernel
theorem dX5_load_49 : decode cX5_load 49 = .ok (.aload_n 0, 1) := by decide +kernel
theorem dX5_load_50 : decode cX5_load 50 = .ok (.getfield 9, 3) := by decide +kernel
theorem dX5_load_53 : decode cX5_load 53 = .ok (.bipush 6, 2) := by decide +kernel
theorem dX5_load_55 : decode cX5_load 55 = .ok (.iload_n 3, 1) := by decide +kernel
theorem dX5_load_56 : decode cX5_load 56 = .ok (.iadd, 1) := by decide +kernel
theorem dX5_load_57 : decode cX5_load 57 = .ok (.aload_n 0, 1) := by decide +kernel
theorem dX5_load_58 : decode cX5_load 58 = .ok (.iload_n 1, 1) := by decide +kernel
theorem dX5_load_59 : decode cX5_load 59 = .ok (.iload_n 3, 1) := by decide +kernel
theorem dX5_load_60 : decode cX5_load 60 = .ok (.invokevirtual 176, 3) := by decide +kernel
theorem dX5_load_63 : decode cX5_load 63 = .ok (.iastore, 1) := by decide +kernel
theorem dX5_load_64 : decode cX5_load 64 = .ok (.iinc 3 1, 3) := by decide +kernel
theorem dX5_load_67 : decode cX5_load 67 = .ok (.goto (-49), 3) := by decide +kernel
theorem dX5_load_70 : decode cX5_load 70 = .ok (.iload_n 3, 1) := by decide +kernel
theorem dX5_load_71 : decode cX5_load 71 = .ok (.ireturn, 1) := by decide +kernel
def l5_load_18  : Nat → (Nat → Int32) → (Nat → Int32) → (Nat → Int32) → (Nat → Int32) → (Nat → Int32) → Int32 → Int32 → Option (Int32 × (Nat → Int32) × (Nat → Int32))
  | 0, _, _, _, _, _, _, _ => none
  | n + 1, xs, xfound, xwid, xsiz, xcel, v1, v3 =>
    gd (inb v1 4) (
    if (xsiz v1.toNatClampNeg) ≤ v3 then (
      some (v3, xs, xfound))
    else (
      if (16 : Int32) ≤ v3 then (
        some (v3, xs, xfound))
      else (
        ob1 (f5_told xcel v1 v3) (fun r10 =>
        if (f5_in1 r10 (0 : Int32) (30 : Int32)) = (0 : Int32) then (
          some (v3, xs, xfound))
        else (
          ob1 (f5_told xcel v1 v3) (fun r13 =>
          gd (inb ((6 : Int32) + v3) 88) (
          (l5_load_18 n) (upd xs (((6 : Int32) + v3).toNatClampNeg) r13) xfound xwid xsiz xcel v1 (v3 + (1 : Int32)))))))))
def f5_load (xs : Nat → Int32) (xfound : Nat → Int32) (xwid : Nat → Int32) (xsiz : Nat → Int32) (xcel : Nat → Int32) (v1 : Int32) : Option (Int32 × (Nat → Int32) × (Nat → Int32)) :=
  ob1 (f5_wrongSheet xwid v1) (fun r1 =>
  if r1 < (0 : Int32) then (
    l5_load_18 1000 xs xfound xwid xsiz xcel v1 (0 : Int32))
  else (
    ob2 (f5_no xfound r1) (fun r4 xfound_5 =>
    some (r4, xs, xfound_5))))
set_option maxHeartbeats 4000000 in
set_option maxRecDepth 100000 in
theorem b5_load_18 {X : XP} {p : Program} {l : Launch} {e : Env} {s : State} {m : MethodId} {args : Array Value} {below : List Frame} {meth : Method} {c : Code} {D : va_G} {cI cC : ClassId} {ad : Nat → Nat} {A : Nat → Prop} {xkept : Nat → Int32} {xaside : Nat → Int32} {xisK : Int32} {xgone : Int32} {xover : Nat → Int32} {xtape : Nat → Int32} {xtaped : Int32} {xtok : Int32} {xbeg : Int32} {xend : Int32} {xval : Int64} {xwid : Nat → Int32} {xsiz : Nat → Int32} {xcel : Nat → Int32} {xcar : Nat → Int32} {r0 : Int32} {o_xs : Nat → Int32} {o_xfound : Nat → Int32} (C0 : CX X p s m args meth c cX5_load 4 (some .int) RX5 A) : ∀ (n : Nat) {xs : Nat → Int32} {xfound : Nat → Int32} {v1 : Int32} {v3 : Int32} {H : Heap} {locs : List Loc} {ls : Array Slot}, GX X D (tyM cI cC) A s (wM cI cC ad xs xkept xaside xisK xfound xgone xover xtape xtaped xtok xbeg xend xval xwid xsiz xcel xcar) H locs → lv_has ls 4 [(0, .ref (ad 0)), (1, .int v1), (3, .int v3)] → l5_load_18  n xs xfound xwid xsiz xcel v1 v3 = some (r0, o_xs, o_xfound) → W p l e ({ frames := 3, cells := 0, slots := 0, locals := 63 }) s m args below meth c H locs 0 0 (MQ below (QcI D (tyM cI cC) (wM cI cC ad o_xs xkept xaside xisK o_xfound xgone xover xtape xtaped xtok xbeg xend xval xwid xsiz xcel xcar) A r0) args s 0 0 A) (F0 m 18 ls []) := by
  have hx := C0.1
  have hb := C0.2.1
  have hown := C0.2.2.2.2.1
  have hts := C0.2.2.2.2.2.1
  have hX := C0.2.2.2.2.2.2.2.2
  intro n
  induction n with
  | zero =>
    intro _ _ _ _ _ _ _ G hl hf
    cases hf
  | succ n ih =>
    intro xs xfound v1 v3 H locs ls G hl hf
    rw [l5_load_18] at hf
    refine lv_iload_n hx hb dX5_load_18 rfl (lv_at hl 2 rfl) ?_
    refine lv_aload_n hx hb dX5_load_19 rfl (lv_at hl 0 rfl) ?_
    refine s_get (C := RX5) (T := TX5) C0 G i_X5 0 17 rfl rfl (by decide) q730 rfl dX5_load_20 ?_
    refine lv_iload_n hx hb dX5_load_23 rfl (lv_at hl 1 rfl) ?_
    obtain ⟨hi7, hf⟩ := gd_s hf
    refine s_iald (k := v1.toNatClampNeg) C0 G 11 0 rfl rfl (vin hi7) rfl dX5_load_24 ?_
    refine lv_icmp_ge (tgt := 70) hx hb dX5_load_25 (by decide) (fun hc8 => ?_) (fun hc8 => ?_)
    · have hf := itp hc8 hf
      refine lv_iload_n hx hb dX5_load_70 rfl (lv_at hl 2 rfl) ?_
      obtain ⟨rfl, rfl, rfl⟩ := inj3 hf
      exact ret_i C0 G dX5_load_71
    · have hf := itn hc8 hf
      refine lv_iload_n hx hb dX5_load_28 rfl (lv_at hl 2 rfl) ?_
      refine lv_bipush (v := (16 : Int32)) hx hb dX5_load_29 (by decide) ?_
      refine lv_icmp_ge (tgt := 70) hx hb dX5_load_31 (by decide) (fun hc9 => ?_) (fun hc9 => ?_)
      · have hf := itp hc9 hf
        refine lv_iload_n hx hb dX5_load_70 rfl (lv_at hl 2 rfl) ?_
        obtain ⟨rfl, rfl, rfl⟩ := inj3 hf
        exact ret_i C0 G dX5_load_71
      · have hf := itn hc9 hf
        refine lv_aload_n hx hb dX5_load_34 rfl (lv_at hl 0 rfl) ?_
        refine lv_iload_n hx hb dX5_load_35 rfl (lv_at hl 1 rfl) ?_
        refine lv_iload_n hx hb dX5_load_36 rfl (lv_at hl 2 rfl) ?_
        obtain ⟨r10, hc11, hf⟩ := ob1_s hf
        refine go_i C0 G (runV_of (n := 2) (q0 := 0) (As := [.int v1, .int v3]) (rest := []) C0 G (c5_told hX hc11) q1020 q54 q1017 q1019 q41 o5_told ⟨rfl, rfl⟩ ⟨Nat.le_of_ble_eq_true rfl, Nat.le_of_ble_eq_true rfl⟩ rfl rfl rfl hl.1 rfl (Nat.le_of_ble_eq_true rfl) dX5_load_37) (fun H locs G => ?_)
        refine lv_iconst (v := (0 : Int32)) hx hb dX5_load_40 (by decide) ?_
        refine lv_bipush (v := (30 : Int32)) hx hb dX5_load_41 (by decide) ?_
        refine go_i C0 G (runS_of (n := 3) (As := [.int r10, .int (0 : Int32), .int (30 : Int32)]) (rest := []) C0 G (c5_in1 hX rfl) q784 q54 q782 q783 o5_in1 ⟨rfl, rfl⟩ ⟨Nat.le_of_ble_eq_true rfl, Nat.le_of_ble_eq_true rfl⟩ rfl hl.1 rfl (Nat.le_of_ble_eq_true rfl) dX5_load_43) (fun H locs G => ?_)
        refine lv_if_eq (tgt := 70) hx hb dX5_load_46 (by decide) (fun hc12 => ?_) (fun hc12 => ?_)
        · have hf := itp hc12 hf
          refine lv_iload_n hx hb dX5_load_70 rfl (lv_at hl 2 rfl) ?_
          obtain ⟨rfl, rfl, rfl⟩ := inj3 hf
          exact ret_i C0 G dX5_load_71
        · have hf := itn hc12 hf
          refine lv_aload_n hx hb dX5_load_49 rfl (lv_at hl 0 rfl) ?_
          refine s_get (C := RX5) (T := TX5) C0 G i_X5 0 0 rfl rfl (by decide) q713 rfl dX5_load_50 ?_
          refine lv_bipush (v := (6 : Int32)) hx hb dX5_load_53 (by decide) ?_
          refine lv_iload_n hx hb dX5_load_55 rfl (lv_at hl 2 rfl) ?_
          refine lv_iadd hx hb dX5_load_56 ?_
          refine lv_aload_n hx hb dX5_load_57 rfl (lv_at hl 0 rfl) ?_
          refine lv_iload_n hx hb dX5_load_58 rfl (lv_at hl 1 rfl) ?_
          refine lv_iload_n hx hb dX5_load_59 rfl (lv_at hl 2 rfl) ?_
          obtain ⟨r13, hc14, hf⟩ := ob1_s hf
          refine go_i C0 G (runV_of (n := 2) (q0 := 0) (As := [.int v1, .int v3]) (rest := [.int ((6 : Int32) + v3), .ref (ad 1)]) C0 G (c5_told hX hc14) q1020 q54 q1017 q1019 q41 o5_told ⟨rfl, rfl⟩ ⟨Nat.le_of_ble_eq_true rfl, Nat.le_of_ble_eq_true rfl⟩ rfl rfl rfl hl.1 rfl (Nat.le_of_ble_eq_true rfl) dX5_load_60) (fun H locs G => ?_)
          obtain ⟨hi15, hf⟩ := gd_s hf
          refine s_iast (k := ((6 : Int32) + v3).toNatClampNeg) (w' := (wM cI cC ad (upd xs (((6 : Int32) + v3).toNatClampNeg) r13) xkept xaside xisK xfound xgone xover xtape xtaped xtok xbeg xend xval xwid xsiz xcel xcar)) C0 G 1 0 rfl rfl (vin hi15) rfl rfl dX5_load_63 (fun H locs G => ?_)
          refine lv_iinc (v := (v3 + (1 : Int32))) (lv' := [(3, .int (v3 + (1 : Int32))), (0, .ref (ad 0)), (1, .int v1)]) hx hb dX5_load_64 hl (k := 2) rfl rfl (by decide) rfl (fun ls hl => ?_)
          refine lv_goto (tgt := 18) hx hb dX5_load_67 (by decide) ?_
          exact ih G (lv_sub hl [1, 2, 0] rfl) hf
set_option maxHeartbeats 4000000 in
set_option maxRecDepth 100000 in
theorem b5_load_0 {X : XP} {p : Program} {l : Launch} {e : Env} {s : State} {m : MethodId} {args : Array Value} {below : List Frame} {meth : Method} {c : Code} {D : va_G} {cI cC : ClassId} {ad : Nat → Nat} {A : Nat → Prop} {xkept : Nat → Int32} {xaside : Nat → Int32} {xisK : Int32} {xgone : Int32} {xover : Nat → Int32} {xtape : Nat → Int32} {xtaped : Int32} {xtok : Int32} {xbeg : Int32} {xend : Int32} {xval : Int64} {xwid : Nat → Int32} {xsiz : Nat → Int32} {xcel : Nat → Int32} {xcar : Nat → Int32} {r0 : Int32} {o_xs : Nat → Int32} {o_xfound : Nat → Int32} (C0 : CX X p s m args meth c cX5_load 4 (some .int) RX5 A) : ∀ {xs : Nat → Int32} {xfound : Nat → Int32} {v1 : Int32} {H : Heap} {locs : List Loc} {ls : Array Slot}, GX X D (tyM cI cC) A s (wM cI cC ad xs xkept xaside xisK xfound xgone xover xtape xtaped xtok xbeg xend xval xwid xsiz xcel xcar) H locs → lv_has ls 4 [(0, .ref (ad 0)), (1, .int v1)] → f5_load xs xfound xwid xsiz xcel v1 = some (r0, o_xs, o_xfound) → W p l e ({ frames := 3, cells := 0, slots := 0, locals := 63 }) s m args below meth c H locs 0 0 (MQ below (QcI D (tyM cI cC) (wM cI cC ad o_xs xkept xaside xisK o_xfound xgone xover xtape xtaped xtok xbeg xend xval xwid xsiz xcel xcar) A r0) args s 0 0 A) (F0 m 0 ls []) := by
  have hx := C0.1
  have hb := C0.2.1
  have hown := C0.2.2.2.2.1
  have hts := C0.2.2.2.2.2.1
  have hX := C0.2.2.2.2.2.2.2.2
  intro xs xfound v1 H locs ls G hl hf
  unfold f5_load at hf
  refine lv_aload_n hx hb dX5_load_0 rfl (lv_at hl 0 rfl) ?_
  refine lv_iload_n hx hb dX5_load_1 rfl (lv_at hl 1 rfl) ?_
  obtain ⟨r1, hc2, hf⟩ := ob1_s hf
  refine go_i C0 G (runV_of (n := 1) (q0 := 0) (As := [.int v1]) (rest := []) C0 G (c5_wrongSheet hX hc2) q1005 q54 q1002 q1004 q38 o5_wrongSheet ⟨rfl, rfl⟩ ⟨Nat.le_of_ble_eq_true rfl, Nat.le_of_ble_eq_true rfl⟩ rfl rfl rfl hl.1 rfl (Nat.le_of_ble_eq_true rfl) dX5_load_2) (fun H locs G => ?_)
  refine lv_istore_n (lv' := [(2, .int r1), (0, .ref (ad 0)), (1, .int v1)]) hx hb dX5_load_5 rfl hl (by decide) rfl (fun ls hl => ?_)
  refine lv_iload_n hx hb dX5_load_6 rfl (lv_at hl 0 rfl) ?_
  refine lv_if_lt (tgt := 16) hx hb dX5_load_7 (by decide) (fun hc3 => ?_) (fun hc3 => ?_)
  · have hf := itp hc3 hf
    refine lv_iconst (v := (0 : Int32)) hx hb dX5_load_16 (by decide) ?_
    refine lv_istore_n (lv' := [(3, .int (0 : Int32)), (2, .int r1), (0, .ref (ad 0)), (1, .int v1)]) hx hb dX5_load_17 rfl hl (by decide) rfl (fun ls hl => ?_)
    exact b5_load_18 C0  1000 G (lv_sub hl [2, 3, 0] rfl) hf
  · have hf := itn hc3 hf
    refine lv_aload_n hx hb dX5_load_10 rfl (lv_at hl 1 rfl) ?_
    refine lv_iload_n hx hb dX5_load_11 rfl (lv_at hl 0 rfl) ?_
    obtain ⟨r4, xfound_5, hc6, hf⟩ := ob2_s hf
    refine go_i C0 G (runV_of (n := 1) (q0 := 0) (As := [.int r1]) (rest := []) C0 G (c5_no hX hc6) q788 q54 q785 q787 q9 o5_no ⟨rfl, rfl⟩ ⟨Nat.le_of_ble_eq_true rfl, Nat.le_of_ble_eq_true rfl⟩ rfl rfl rfl hl.1 rfl (Nat.le_of_ble_eq_true rfl) dX5_load_12) (fun H locs G => ?_)
    obtain ⟨rfl, rfl, rfl⟩ := inj3 hf
    exact ret_i C0 G dX5_load_15
theorem o5_load : okName yX5_load 1 := ⟨by decide, by decide, by decide +kernel⟩
set_option maxHeartbeats 4000000 in
set_option maxRecDepth 100000 in
theorem c5_load {X : XP} (hX : XT X) {l : Launch} {D : va_G} {cI cC : ClassId} {ad : Nat → Nat} {sz : Nat} {xs : Nat → Int32} {xkept : Nat → Int32} {xaside : Nat → Int32} {xisK : Int32} {xfound : Nat → Int32} {xgone : Int32} {xover : Nat → Int32} {xtape : Nat → Int32} {xtaped : Int32} {xtok : Int32} {xbeg : Int32} {xend : Int32} {xval : Int64} {xwid : Nat → Int32} {xsiz : Nat → Int32} {xcel : Nat → Int32} {xcar : Nat → Int32} {v1 : Int32} {r0 : Int32} {o_xs : Nat → Int32} {o_xfound : Nat → Int32} (hf : f5_load xs xfound xwid xsiz xcel v1 = some (r0, o_xs, o_xfound)) : Met l yX5_load (wU yX5_load cX5_load 4 (some .int)) ({ frames := 3, cells := 0, slots := 0, locals := 63 }) (va_Pc [.ref (ad 0), .int v1] (PreW X D (tyM cI cC) (wM cI cC ad xs xkept xaside xisK xfound xgone xover xtape xtaped xtok xbeg xend xval xwid xsiz xcel xcar) sz)) (QcI D (tyM cI cC) (wM cI cC ad o_xs xkept xaside xisK o_xfound xgone xover xtape xtaped xtok xbeg xend xval xwid xsiz xcel xcar) (va_A (wM cI cC ad xs xkept xaside xisK xfound xgone xover xtape xtaped xtok xbeg xend xval xwid xsiz xcel xcar) sz) r0) 0 0 (va_A (wM cI cC ad xs xkept xaside xisK xfound xgone xover xtape xtaped xtok xbeg xend xval xwid xsiz xcel xcar) sz) := by
  refine startW hX (own := RX5) (by decide) rfl (Nat.le_of_ble_eq_true rfl) (fun p e s m args below meth c ls C0 G hl => ?_)
  exact b5_load_0 C0 G hl hf
/-! 5_judge -/
theorem dX5_judge_0 : decode cX5_judge 0 = .ok (.aload_n 0, 1) := by decide +kernel
theorem dX5_judge_1 : decode cX5_judge 1 = .ok (.iload_n 1, 1) := by decide +kernel
theorem dX5_judge_2 : decode cX5_judge 2 = .ok (.invokevirtual 173, 3) := by decide +kernel
theorem dX5_judge_5 : decode cX5_judge 5 = .ok (.istore_n 2, 1) := by decide +kernel
theorem dX5_judge_6 : decode cX5_judge 6 = .ok (.iload_n 2, 1) := by decide +kernel
theorem dX5_judge_7 : decode cX5_judge 7 = .ok (.ifCond .lt 9, 3) := by decide +kernel
theorem dX5_judge_10 : decode cX5_judge 10 = .ok (.aload_n 0, 1) := by decide +kernel
theorem dX5_judge_11 : decode cX5_judge 11 = .ok (.iload_n 2, 1) := by decide +kernel
theorem dX5_judge_12 : decode cX5_judge 12 = .ok (.invokevirtual 105, 3) := by decide +kernel
theorem dX5_judge_15 : decode cX5_judge 15 = .ok (.ireturn, 1) := by decide +kernel
theorem dX5_judge_16 : decode cX5_judge 16 = .ok (.iconst 0, 1) := by decide +kernel
theorem dX5_judge_17 : decode cX5_judge 17 = .ok (.istore_n 3, 1) := by decide +kernel
theorem dX5_judge_18 : decode cX5_judge 18 = .ok (.iload_n 3, 1) := by decide +kernel
theorem dX5_judge_19 : decode cX5_judge 19 = .ok (.aload_n 0, 1) := by decide +kernel
theorem dX5_judge_20 : decode cX5_judge 20 = .ok (.getfield 41, 3) := by decide +kernel
theorem dX5_judge_23 : decode cX5_judge 23 = .ok (.iload_n 1, 1) := by decide +kernel
theorem dX5_judge_24 : decode cX5_judge 24 = .ok (.iaload, 1) := by decide +kernel
theorem dX5_judge_25 : decode cX5_judge 25 = .ok (.if_icmp .ge 37, 3) := by decide +kernel
theorem dX5_judge_28 : decode cX5_judge 28 = .ok (.aload_n 0, 1) := by decide +kernel
theorem dX5_judge_29 : decode cX5_judge 29 = .ok (.iload_n 3, 1) := by decide +kernel
theorem dX5_judge_30 : decode cX5_judge 30 = .ok (.invokevirtual 111, 3) := by decide +kernel
theorem dX5_judge_33 : decode cX5_judge 33 = .ok (.ifCond .eq 19, 3) := by decide +kernel
theorem dX5_judge_36 : decode cX5_judge 36 = .ok (.aload_n 0, 1) := by decide +kernel
theorem dX5_judge_37 : decode cX5_judge 37 = .ok (.iload_n 3, 1) := by decide +kernel
theorem dX5_judge_38 : decode cX5_judge 38 = .ok (.bipush 6, 2) := by decide +kernel
theorem dX5_judge_40 : decode cX5_judge 40 = .ok (.invokevirtual 55, 3) := by decide +kernel
theorem dX5_judge_43 : decode cX5_judge 43 = .ok (.aload_n 0, 1) := by decide +kernel
theorem dX5_judge_44 : decode cX5_judge 44 = .ok (.iload_n 1, 1) := by decide +kernel
theorem dX5_judge_45 : decode cX5_judge 45 = .ok (.iload_n 3, 1) := by decide +kernel
theorem dX5_judge_46 : decode cX5_judge 46 = .ok (.invokevirtual 176, 3) := by decide +kernel
theorem dX5_judge_49 : decode cX5_judge 49 = .ok (.if_icmp .eq 7, 3) := by decide +kernel
theorem dX5_judge_52 : decode cX5_judge 52 = .ok (.iconst 1, 1) := by decide +kernel
theorem dX5_judge_53 : decode cX5_judge 53 = .ok (.iload_n 3, 1) := by decide +kernel
theorem dX5_judge_54 : decode cX5_judge 54 = .ok (.iadd, 1) := by decide +kernel
theorem dX5_judge_55 : decode cX5_judge 55 = .ok (.ireturn, 1) := by decide +kernel
theorem dX5_judge_56 : decode cX5_judge 56 = .ok (.iinc 3 1, 3) := by decide +kernel
theorem dX5_judge_59 : decode cX5_judge 59 = .ok (.goto (-41), 3) := by decide +kernel
theorem dX5_judge_62 : decode cX5_judge 62 = .ok (.iconst 0, 1) := by decide +kernel
theorem dX5_judge_63 : decode cX5_judge 63 = .ok (.ireturn, 1) := by decide +kernel
def l5_judge_18  : Nat → (Nat → Int32) → (Nat → Int32) → (Nat → Int32) → (Nat → Int32) → (Nat → Int32) → Int32 → Int32 → Option (Int32 × (Nat → Int32))
  | 0, _, _, _, _, _, _, _ => none
  | n + 1, xs, xfound, xwid, xsiz, xcel, v1, v3 =>
    gd (inb v1 4) (
    if (xsiz v1.toNatClampNeg) ≤ v3 then (
      some ((0 : Int32), xfound))
    else (
      if (f5_isVisitor xs v3) = (0 : Int32) then (
        some (((1 : Int32) + v3), xfound))
      else (
        ob1 (f5_get xs v3 (6 : Int32)) (fun r10 =>
        ob1 (f5_told xcel v1 v3) (fun r12 =>
        if r10 = r12 then (
          (l5_judge_18 n) xs xfound xwid xsiz xcel v1 (v3 + (1 : Int32)))
        else (
          some (((1 : Int32) + v3), xfound)))))))
def f5_judge (xs : Nat → Int32) (xfound : Nat → Int32) (xwid : Nat → Int32) (xsiz : Nat → Int32) (xcel : Nat → Int32) (v1 : Int32) : Option (Int32 × (Nat → Int32)) :=
  ob1 (f5_wrongSheet xwid v1) (fun r1 =>
  if r1 < (0 : Int32) then (
    l5_judge_18 1000 xs xfound xwid xsiz xcel v1 (0 : Int32))
  else (
    ob2 (f5_no xfound r1) (fun r4 xfound_5 =>
    some (r4, xfound_5))))
set_option maxHeartbeats 4000000 in
set_option maxRecDepth 100000 in
theorem b5_judge_18 {X : XP} {p : Program} {l : Launch} {e : Env} {s : State} {m : MethodId} {args : Array Value} {below : List Frame} {meth : Method} {c : Code} {D : va_G} {cI cC : ClassId} {ad : Nat → Nat} {A : Nat → Prop} {xs : Nat → Int32} {xkept : Nat → Int32} {xaside : Nat → Int32} {xisK : Int32} {xgone : Int32} {xover : Nat → Int32} {xtape : Nat → Int32} {xtaped : Int32} {xtok : Int32} {xbeg : Int32} {xend : Int32} {xval : Int64} {xwid : Nat → Int32} {xsiz : Nat → Int32} {xcel : Nat → Int32} {xcar : Nat → Int32} {r0 : Int32} {o_xfound : Nat → Int32} (C0 : CX X p s m args meth c cX5_judge 4 (some .int) RX5 A) : ∀ (n : Nat) {xfound : Nat → Int32} {v1 : Int32} {v3 : Int32} {H : Heap} {locs : List Loc} {ls : Array Slot}, GX X D (tyM cI cC) A s (wM cI cC ad xs xkept xaside xisK xfound xgone xover xtape xtaped xtok xbeg xend xval xwid xsiz xcel xcar) H locs → lv_has ls 4 [(0, .ref (ad 0)), (1, .int v1), (3, .int v3)] → l5_judge_18  n xs xfound xwid xsiz xcel v1 v3 = some (r0, o_xfound) → W p l e ({ frames := 3, cells := 0, slots := 0, locals := 63 }) s m args below meth c H locs 0 0 (MQ below (QcI D (tyM cI cC) (wM cI cC ad xs xkept xaside xisK o_xfound xgone xover xtape xtaped xtok xbeg xend xval xwid xsiz xcel xcar) A r0) args s 0 0 A) (F0 m 18 ls []) := by
  have hx := C0.1
  have hb := C0.2.1
  have hown := C0.2.2.2.2.1
  have hts := C0.2.2.2.2.2.1
  have hX := C0.2.2.2.2.2.2.2.2
  intro n
  induction n with
  | zero =>
    intro _ _ _ _ _ _ G hl hf
    cases hf
  | succ n ih =>
    intro xfound v1 v3 H locs ls G hl hf
    rw [l5_judge_18] at hf
    refine lv_iload_n hx hb dX5_judge_18 rfl (lv_at hl 2 rfl) ?_
    refine lv_aload_n hx hb dX5_judge_19 rfl (lv_at hl 0 rfl) ?_
    refine s_get (C := RX5) (T := TX5) C0 G i_X5 0 17 rfl rfl (by decide) q730 rfl dX5_judge_20 ?_
    refine lv_iload_n hx hb dX5_judge_23 rfl (lv_at hl 1 rfl) ?_
    obtain ⟨hi7, hf⟩ := gd_s hf
    refine s_iald (k := v1.toNatClampNeg) C0 G 11 0 rfl rfl (vin hi7) rfl dX5_judge_24 ?_
    refine lv_icmp_ge (tgt := 62) hx hb dX5_judge_25 (by decide) (fun hc8 => ?_) (fun hc8 => ?_)
    · have hf := itp hc8 hf
      refine lv_iconst (v := (0 : Int32)) hx hb dX5_judge_62 (by decide) ?_
      obtain ⟨rfl, rfl⟩ := inj2 hf
      exact ret_i C0 G dX5_judge_63
    · have hf := itn hc8 hf
      refine lv_aload_n hx hb dX5_judge_28 rfl (lv_at hl 0 rfl) ?_
      refine lv_iload_n hx hb dX5_judge_29 rfl (lv_at hl 2 rfl) ?_
      refine go_i C0 G (runV_of (n := 1) (q0 := 0) (As := [.int v3]) (rest := []) C0 G (c5_isVisitor hX rfl) q825 q54 q822 q824 q14 o5_isVisitor ⟨rfl, rfl⟩ ⟨Nat.le_of_ble_eq_true rfl, Nat.le_of_ble_eq_true rfl⟩ rfl rfl rfl hl.1 rfl (Nat.le_of_ble_eq_true rfl) dX5_judge_30) (fun H locs G => ?_)
      refine lv_if_eq (tgt := 52) hx hb dX5_judge_33 (by decide) (fun hc9 => ?_) (fun hc9 => ?_)
      · have hf := itp hc9 hf
        refine lv_iconst (v := (1 : Int32)) hx hb dX5_judge_52 (by decide) ?_
        refine lv_iload_n hx hb dX5_judge_53 rfl (lv_at hl 2 rfl) ?_
        refine lv_iadd hx hb dX5_judge_54 ?_
        obtain ⟨rfl, rfl⟩ := inj2 hf
        exact ret_i C0 G dX5_judge_55
      · have hf := itn hc9 hf
        refine lv_aload_n hx hb dX5_judge_36 rfl (lv_at hl 0 rfl) ?_
        refine lv_iload_n hx hb dX5_judge_37 rfl (lv_at hl 2 rfl) ?_
        refine lv_bipush (v := (6 : Int32)) hx hb dX5_judge_38 (by decide) ?_
        obtain ⟨r10, hc11, hf⟩ := ob1_s hf
        refine go_i C0 G (runV_of (n := 2) (q0 := 0) (As := [.int v3, .int (6 : Int32)]) (rest := []) C0 G (c5_get hX hc11) q801 q54 q798 q800 q11 o5_get ⟨rfl, rfl⟩ ⟨Nat.le_of_ble_eq_true rfl, Nat.le_of_ble_eq_true rfl⟩ rfl rfl rfl hl.1 rfl (Nat.le_of_ble_eq_true rfl) dX5_judge_40) (fun H locs G => ?_)
        refine lv_aload_n hx hb dX5_judge_43 rfl (lv_at hl 0 rfl) ?_
        refine lv_iload_n hx hb dX5_judge_44 rfl (lv_at hl 1 rfl) ?_
        refine lv_iload_n hx hb dX5_judge_45 rfl (lv_at hl 2 rfl) ?_
        obtain ⟨r12, hc13, hf⟩ := ob1_s hf
        refine go_i C0 G (runV_of (n := 2) (q0 := 0) (As := [.int v1, .int v3]) (rest := [.int r10]) C0 G (c5_told hX hc13) q1020 q54 q1017 q1019 q41 o5_told ⟨rfl, rfl⟩ ⟨Nat.le_of_ble_eq_true rfl, Nat.le_of_ble_eq_true rfl⟩ rfl rfl rfl hl.1 rfl (Nat.le_of_ble_eq_true rfl) dX5_judge_46) (fun H locs G => ?_)
        refine lv_icmp_eq (tgt := 56) hx hb dX5_judge_49 (by decide) (fun hc14 => ?_) (fun hc14 => ?_)
        · have hf := itp hc14 hf
          refine lv_iinc (v := (v3 + (1 : Int32))) (lv' := [(3, .int (v3 + (1 : Int32))), (0, .ref (ad 0)), (1, .int v1)]) hx hb dX5_judge_56 hl (k := 2) rfl rfl (by decide) rfl (fun ls hl => ?_)
          refine lv_goto (tgt := 18) hx hb dX5_judge_59 (by decide) ?_
          exact ih G (lv_sub hl [1, 2, 0] rfl) hf
        · have hf := itn hc14 hf
          refine lv_iconst (v := (1 : Int32)) hx hb dX5_judge_52 (by decide) ?_
          refine lv_iload_n hx hb dX5_judge_53 rfl (lv_at hl 2 rfl) ?_
          refine lv_iadd hx hb dX5_judge_54 ?_
          obtain ⟨rfl, rfl⟩ := inj2 hf
          exact ret_i C0 G dX5_judge_55
set_option maxHeartbeats 4000000 in
set_option maxRecDepth 100000 in
theorem b5_judge_0 {X : XP} {p : Program} {l : Launch} {e : Env} {s : State} {m : MethodId} {args : Array Value} {below : List Frame} {meth : Method} {c : Code} {D : va_G} {cI cC : ClassId} {ad : Nat → Nat} {A : Nat → Prop} {xs : Nat → Int32} {xkept : Nat → Int32} {xaside : Nat → Int32} {xisK : Int32} {xgone : Int32} {xover : Nat → Int32} {xtape : Nat → Int32} {xtaped : Int32} {xtok : Int32} {xbeg : Int32} {xend : Int32} {xval : Int64} {xwid : Nat → Int32} {xsiz : Nat → Int32} {xcel : Nat → Int32} {xcar : Nat → Int32} {r0 : Int32} {o_xfound : Nat → Int32} (C0 : CX X p s m args meth c cX5_judge 4 (some .int) RX5 A) : ∀ {xfound : Nat → Int32} {v1 : Int32} {H : Heap} {locs : List Loc} {ls : Array Slot}, GX X D (tyM cI cC) A s (wM cI cC ad xs xkept xaside xisK xfound xgone xover xtape xtaped xtok xbeg xend xval xwid xsiz xcel xcar) H locs → lv_has ls 4 [(0, .ref (ad 0)), (1, .int v1)] → f5_judge xs xfound xwid xsiz xcel v1 = some (r0, o_xfound) → W p l e ({ frames := 3, cells := 0, slots := 0, locals := 63 }) s m args below meth c H locs 0 0 (MQ below (QcI D (tyM cI cC) (wM cI cC ad xs xkept xaside xisK o_xfound xgone xover xtape xtaped xtok xbeg xend xval xwid xsiz xcel xcar) A r0) args s 0 0 A) (F0 m 0 ls []) := by
  have hx := C0.1
  have hb := C0.2.1
  have hown := C0.2.2.2.2.1
  have hts := C0.2.2.2.2.2.1
  have hX := C0.2.2.2.2.2.2.2.2
  intro xfound v1 H locs ls G hl hf
  unfold f5_judge at hf
  refine lv_aload_n hx hb dX5_judge_0 rfl (lv_at hl 0 rfl) ?_
  refine lv_iload_n hx hb dX5_judge_1 rfl (lv_at hl 1 rfl) ?_
  obtain ⟨r1, hc2, hf⟩ := ob1_s hf
  refine go_i C0 G (runV_of (n := 1) (q0 := 0) (As := [.int v1]) (rest := []) C0 G (c5_wrongSheet hX hc2) q1005 q54 q1002 q1004 q38 o5_wrongSheet ⟨rfl, rfl⟩ ⟨Nat.le_of_ble_eq_true rfl, Nat.le_of_ble_eq_true rfl⟩ rfl rfl rfl hl.1 rfl (Nat.le_of_ble_eq_true rfl) dX5_judge_2) (fun H locs G => ?_)
  refine lv_istore_n (lv' := [(2, .int r1), (0, .ref (ad 0)), (1, .int v1)]) hx hb dX5_judge_5 rfl hl (by decide) rfl (fun ls hl => ?_)
  refine lv_iload_n hx hb dX5_judge_6 rfl (lv_at hl 0 rfl) ?_
  refine lv_if_lt (tgt := 16) hx hb dX5_judge_7 (by decide) (fun hc3 => ?_) (fun hc3 => ?_)
  · have hf := itp hc3 hf
    refine lv_iconst (v := (0 : Int32)) hx hb dX5_judge_16 (by decide) ?_
    refine lv_istore_n (lv' := [(3, .int (0 : Int32)), (2, .int r1), (0, .ref (ad 0)), (1, .int v1)]) hx hb dX5_judge_17 rfl hl (by decide) rfl (fun ls hl => ?_)
    exact b5_judge_18 C0  1000 G (lv_sub hl [2, 3, 0] rfl) hf
  · have hf := itn hc3 hf
    refine lv_aload_n hx hb dX5_judge_10 rfl (lv_at hl 1 rfl) ?_
    refine lv_iload_n hx hb dX5_judge_11 rfl (lv_at hl 0 rfl) ?_
    obtain ⟨r4, xfound_5, hc6, hf⟩ := ob2_s hf
    refine go_i C0 G (runV_of (n := 1) (q0 := 0) (As := [.int r1]) (rest := []) C0 G (c5_no hX hc6) q788 q54 q785 q787 q9 o5_no ⟨rfl, rfl⟩ ⟨Nat.le_of_ble_eq_true rfl, Nat.le_of_ble_eq_true rfl⟩ rfl rfl rfl hl.1 rfl (Nat.le_of_ble_eq_true rfl) dX5_judge_12) (fun H locs G => ?_)
    obtain ⟨rfl, rfl⟩ := inj2 hf
    exact ret_i C0 G dX5_judge_15
theorem o5_judge : okName yX5_judge 1 := ⟨by decide, by decide, by decide +kernel⟩
set_option maxHeartbeats 4000000 in
set_option maxRecDepth 100000 in
theorem c5_judge {X : XP} (hX : XT X) {l : Launch} {D : va_G} {cI cC : ClassId} {ad : Nat → Nat} {sz : Nat} {xs : Nat → Int32} {xkept : Nat → Int32} {xaside : Nat → Int32} {xisK : Int32} {xfound : Nat → Int32} {xgone : Int32} {xover : Nat → Int32} {xtape : Nat → Int32} {xtaped : Int32} {xtok : Int32} {xbeg : Int32} {xend : Int32} {xval : Int64} {xwid : Nat → Int32} {xsiz : Nat → Int32} {xcel : Nat → Int32} {xcar : Nat → Int32} {v1 : Int32} {r0 : Int32} {o_xfound : Nat → Int32} (hf : f5_judge xs xfound xwid xsiz xcel v1 = some (r0, o_xfound)) : Met l yX5_judge (wU yX5_judge cX5_judge 4 (some .int)) ({ frames := 3, cells := 0, slots := 0, locals := 63 }) (va_Pc [.ref (ad 0), .int v1] (PreW X D (tyM cI cC) (wM cI cC ad xs xkept xaside xisK xfound xgone xover xtape xtaped xtok xbeg xend xval xwid xsiz xcel xcar) sz)) (QcI D (tyM cI cC) (wM cI cC ad xs xkept xaside xisK o_xfound xgone xover xtape xtaped xtok xbeg xend xval xwid xsiz xcel xcar) (va_A (wM cI cC ad xs xkept xaside xisK xfound xgone xover xtape xtaped xtok xbeg xend xval xwid xsiz xcel xcar) sz) r0) 0 0 (va_A (wM cI cC ad xs xkept xaside xisK xfound xgone xover xtape xtaped xtok xbeg xend xval xwid xsiz xcel xcar) sz) := by
  refine startW hX (own := RX5) (by decide) rfl (Nat.le_of_ble_eq_true rfl) (fun p e s m args below meth c ls C0 G hl => ?_)
  exact b5_judge_0 C0 G hl hf
/-! 5_image -/
theorem dX5_image_0 : decode cX5_image 0 = .ok (.iconst 0, 1) := by decide +kernel
theorem dX5_image_1 : decode cX5_image 1 = .ok (.istore_n 1, 1) := by decide +kernel
theorem dX5_image_2 : decode cX5_image 2 = .ok (.iload_n 1, 1) := by decide +kernel
theorem dX5_image_3 : decode cX5_image 3 = .ok (.bipush 88, 2) := by decide +kernel
theorem dX5_image_5 : decode cX5_image 5 = .ok (.if_icmp .ge 21, 3) := by decide +kernel
theorem dX5_image_8 : decode cX5_image 8 = .ok (.aload_n 0, 1) := by decide +kernel
theorem dX5_image_9 : decode cX5_image 9 = .ok (.getfield 13, 3) := by decide +kernel
theorem dX5_image_12 : decode cX5_image 12 = .ok (.iload_n 1, 1) := by decide +kernel
theorem dX5_image_13 : decode cX5_image 13 = .ok (.aload_n 0, 1) := by decide +kernel
theorem dX5_image_14 : decode cX5_image 14 = .ok (.getfield 9, 3) := by decide +kernel
theorem dX5_image_17 : decode cX5_image 17 = .ok (.iload_n 1, 1) := by decide +kernel
theorem dX5_image_18 : decode cX5_image 18 = .ok (.iaload, 1) := by decide +kernel
theorem dX5_image_19 : decode cX5_image 19 = .ok (.iastore, 1) := by decide +kernel
theorem dX5_image_20 : decode cX5_image 20 = .ok (.iinc 1 1, 3) := by decide +kernel
theorem dX5_image_23 : decode cX5_image 23 = .ok (.goto (-21), 3) := by decide +kernel
theorem dX5_image_26 : decode cX5_image 26 = .ok (.aload_n 0, 1) := by decide +kernel
theorem dX5_image_27 : decode cX5_image 27 = .ok (.iconst 1, 1) := by decide +kernel
theorem dX5_image_28 : decode cX5_image 28 = .ok (.putfield 253, 3) := by decide +kernel
theorem dX5_image_31 : decode cX5_image 31 = .ok (.iconst 1, 1) := by decide +kernel
theorem dX5_image_32 : decode cX5_image 32 = .ok (.ireturn, 1) := by decide +kernel
def l5_image_2  : Nat → (Nat → Int32) → (Nat → Int32) → Int32 → Int32 → Option (Int32 × (Nat → Int32) × Int32)
  | 0, _, _, _, _ => none
  | n + 1, xs, xkept, xisK, v1 =>
    if (88 : Int32) ≤ v1 then (
      some ((1 : Int32), xkept, (1 : Int32)))
    else (
      gd (inb v1 88) (
      gd (inb v1 88) (
      (l5_image_2 n) xs (upd xkept v1.toNatClampNeg (xs v1.toNatClampNeg)) xisK (v1 + (1 : Int32)))))
def f5_image (xs : Nat → Int32) (xkept : Nat → Int32) (xisK : Int32)  : Option (Int32 × (Nat → Int32) × Int32) :=
  l5_image_2 1000 xs xkept xisK (0 : Int32)
set_option maxHeartbeats 4000000 in
set_option maxRecDepth 100000 in
theorem b5_image_2 {X : XP} {p : Program} {l : Launch} {e : Env} {s : State} {m : MethodId} {args : Array Value} {below : List Frame} {meth : Method} {c : Code} {D : va_G} {cI cC : ClassId} {ad : Nat → Nat} {A : Nat → Prop} {xs : Nat → Int32} {xaside : Nat → Int32} {xfound : Nat → Int32} {xgone : Int32} {xover : Nat → Int32} {xtape : Nat → Int32} {xtaped : Int32} {xtok : Int32} {xbeg : Int32} {xend : Int32} {xval : Int64} {xwid : Nat → Int32} {xsiz : Nat → Int32} {xcel : Nat → Int32} {xcar : Nat → Int32} {r0 : Int32} {o_xkept : Nat → Int32} {o_xisK : Int32} (C0 : CX X p s m args meth c cX5_image 2 (some .int) RX5 A) : ∀ (n : Nat) {xkept : Nat → Int32} {xisK : Int32} {v1 : Int32} {H : Heap} {locs : List Loc} {ls : Array Slot}, GX X D (tyM cI cC) A s (wM cI cC ad xs xkept xaside xisK xfound xgone xover xtape xtaped xtok xbeg xend xval xwid xsiz xcel xcar) H locs → lv_has ls 2 [(0, .ref (ad 0)), (1, .int v1)] → l5_image_2  n xs xkept xisK v1 = some (r0, o_xkept, o_xisK) → W p l e ({ frames := 0, cells := 0, slots := 0, locals := 0 }) s m args below meth c H locs 0 0 (MQ below (QcI D (tyM cI cC) (wM cI cC ad xs o_xkept xaside o_xisK xfound xgone xover xtape xtaped xtok xbeg xend xval xwid xsiz xcel xcar) A r0) args s 0 0 A) (F0 m 2 ls []) := by
  have hx := C0.1
  have hb := C0.2.1
  have hown := C0.2.2.2.2.1
  have hts := C0.2.2.2.2.2.1
  have hX := C0.2.2.2.2.2.2.2.2
  intro n
  induction n with
  | zero =>
    intro _ _ _ _ _ _ G hl hf
    cases hf
  | succ n ih =>
    intro xkept xisK v1 H locs ls G hl hf
    rw [l5_image_2] at hf
    refine lv_iload_n hx hb dX5_image_2 rfl (lv_at hl 1 rfl) ?_
    refine lv_bipush (v := (88 : Int32)) hx hb dX5_image_3 (by decide) ?_
    refine lv_icmp_ge (tgt := 26) hx hb dX5_image_5 (by decide) (fun hc1 => ?_) (fun hc1 => ?_)
    · have hf := itp hc1 hf
      refine lv_aload_n hx hb dX5_image_26 rfl (lv_at hl 0 rfl) ?_
      refine lv_iconst (v := (1 : Int32)) hx hb dX5_image_27 (by decide) ?_
      refine s_put (C := RX5) (T := TX5) (w' := (wM cI cC ad xs xkept xaside (1 : Int32) xfound xgone xover xtape xtaped xtok xbeg xend xval xwid xsiz xcel xcar)) C0 G i_X5 tyX5 tyX5_ok nmX5 0 3 rfl rfl (by decide) q716 rfl (ty := .boolean) (by decide +kernel) rfl rfl (Nat.le_of_ble_eq_true rfl) rfl dX5_image_28 (fun H locs G => ?_)
      refine lv_iconst (v := (1 : Int32)) hx hb dX5_image_31 (by decide) ?_
      obtain ⟨rfl, rfl, rfl⟩ := inj3 hf
      exact ret_i C0 G dX5_image_32
    · have hf := itn hc1 hf
      refine lv_aload_n hx hb dX5_image_8 rfl (lv_at hl 0 rfl) ?_
      refine s_get (C := RX5) (T := TX5) C0 G i_X5 0 1 rfl rfl (by decide) q714 rfl dX5_image_9 ?_
      refine lv_iload_n hx hb dX5_image_12 rfl (lv_at hl 1 rfl) ?_
      refine lv_aload_n hx hb dX5_image_13 rfl (lv_at hl 0 rfl) ?_
      refine s_get (C := RX5) (T := TX5) C0 G i_X5 0 0 rfl rfl (by decide) q713 rfl dX5_image_14 ?_
      refine lv_iload_n hx hb dX5_image_17 rfl (lv_at hl 1 rfl) ?_
      obtain ⟨hi2, hf⟩ := gd_s hf
      refine s_iald (k := v1.toNatClampNeg) C0 G 1 0 rfl rfl (vin hi2) rfl dX5_image_18 ?_
      obtain ⟨hi3, hf⟩ := gd_s hf
      refine s_iast (k := v1.toNatClampNeg) (w' := (wM cI cC ad xs (upd xkept v1.toNatClampNeg (xs v1.toNatClampNeg)) xaside xisK xfound xgone xover xtape xtaped xtok xbeg xend xval xwid xsiz xcel xcar)) C0 G 2 0 rfl rfl (vin hi3) rfl rfl dX5_image_19 (fun H locs G => ?_)
      refine lv_iinc (v := (v1 + (1 : Int32))) (lv' := [(1, .int (v1 + (1 : Int32))), (0, .ref (ad 0))]) hx hb dX5_image_20 hl (k := 1) rfl rfl (by decide) rfl (fun ls hl => ?_)
      refine lv_goto (tgt := 2) hx hb dX5_image_23 (by decide) ?_
      exact ih G (lv_sub hl [1, 0] rfl) hf
set_option maxHeartbeats 4000000 in
set_option maxRecDepth 100000 in
theorem b5_image_0 {X : XP} {p : Program} {l : Launch} {e : Env} {s : State} {m : MethodId} {args : Array Value} {below : List Frame} {meth : Method} {c : Code} {D : va_G} {cI cC : ClassId} {ad : Nat → Nat} {A : Nat → Prop} {xs : Nat → Int32} {xaside : Nat → Int32} {xfound : Nat → Int32} {xgone : Int32} {xover : Nat → Int32} {xtape : Nat → Int32} {xtaped : Int32} {xtok : Int32} {xbeg : Int32} {xend : Int32} {xval : Int64} {xwid : Nat → Int32} {xsiz : Nat → Int32} {xcel : Nat → Int32} {xcar : Nat → Int32} {r0 : Int32} {o_xkept : Nat → Int32} {o_xisK : Int32} (C0 : CX X p s m args meth c cX5_image 2 (some .int) RX5 A) : ∀ {xkept : Nat → Int32} {xisK : Int32} {H : Heap} {locs : List Loc} {ls : Array Slot}, GX X D (tyM cI cC) A s (wM cI cC ad xs xkept xaside xisK xfound xgone xover xtape xtaped xtok xbeg xend xval xwid xsiz xcel xcar) H locs → lv_has ls 2 [(0, .ref (ad 0))] → f5_image xs xkept xisK = some (r0, o_xkept, o_xisK) → W p l e ({ frames := 0, cells := 0, slots := 0, locals := 0 }) s m args below meth c H locs 0 0 (MQ below (QcI D (tyM cI cC) (wM cI cC ad xs o_xkept xaside o_xisK xfound xgone xover xtape xtaped xtok xbeg xend xval xwid xsiz xcel xcar) A r0) args s 0 0 A) (F0 m 0 ls []) := by
  have hx := C0.1
  have hb := C0.2.1
  have hown := C0.2.2.2.2.1
  have hts := C0.2.2.2.2.2.1
  have hX := C0.2.2.2.2.2.2.2.2
  intro xkept xisK H locs ls G hl hf
  unfold f5_image at hf
  refine lv_iconst (v := (0 : Int32)) hx hb dX5_image_0 (by decide) ?_
  refine lv_istore_n (lv' := [(1, .int (0 : Int32)), (0, .ref (ad 0))]) hx hb dX5_image_1 rfl hl (by decide) rfl (fun ls hl => ?_)
  exact b5_image_2 C0  1000 G (lv_sub hl [1, 0] rfl) hf
theorem o5_image : okName yX5_image 0 := ⟨by decide, by decide, by decide +kernel⟩
set_option maxHeartbeats 4000000 in
set_option maxRecDepth 100000 in
theorem c5_image {X : XP} (hX : XT X) {l : Launch} {D : va_G} {cI cC : ClassId} {ad : Nat → Nat} {sz : Nat} {xs : Nat → Int32} {xkept : Nat → Int32} {xaside : Nat → Int32} {xisK : Int32} {xfound : Nat → Int32} {xgone : Int32} {xover : Nat → Int32} {xtape : Nat → Int32} {xtaped : Int32} {xtok : Int32} {xbeg : Int32} {xend : Int32} {xval : Int64} {xwid : Nat → Int32} {xsiz : Nat → Int32} {xcel : Nat → Int32} {xcar : Nat → Int32}  {r0 : Int32} {o_xkept : Nat → Int32} {o_xisK : Int32} (hf : f5_image xs xkept xisK = some (r0, o_xkept, o_xisK)) : Met l yX5_image (wU yX5_image cX5_image 2 (some .int)) ({ frames := 0, cells := 0, slots := 0, locals := 0 }) (va_Pc [.ref (ad 0)] (PreW X D (tyM cI cC) (wM cI cC ad xs xkept xaside xisK xfound xgone xover xtape xtaped xtok xbeg xend xval xwid xsiz xcel xcar) sz)) (QcI D (tyM cI cC) (wM cI cC ad xs o_xkept xaside o_xisK xfound xgone xover xtape xtaped xtok xbeg xend xval xwid xsiz xcel xcar) (va_A (wM cI cC ad xs xkept xaside xisK xfound xgone xover xtape xtaped xtok xbeg xend xval xwid xsiz xcel xcar) sz) r0) 0 0 (va_A (wM cI cC ad xs xkept xaside xisK xfound xgone xover xtape xtaped xtok xbeg xend xval xwid xsiz xcel xcar) sz) := by
  refine startW hX (own := RX5) (by decide) rfl (Nat.le_of_ble_eq_true rfl) (fun p e s m args below meth c ls C0 G hl => ?_)
  exact b5_image_0 C0 G hl hf
/-! 5_undo -/
theorem dX5_undo_0 : decode cX5_undo 0 = .ok (.aload_n 0, 1) := by decide +kernel
theorem dX5_undo_1 : decode cX5_undo 1 = .ok (.getfield 253, 3) := by decide +kernel
theorem dX5_undo_4 : decode cX5_undo 4 = .ok (.ifCond .ne 9, 3) := by decide +kernel
theorem dX5_undo_7 : decode cX5_undo 7 = .ok (.aload_n 0, 1) := by decide +kernel
theorem dX5_undo_8 : decode cX5_undo 8 = .ok (.iconst 3, 1) := by decide +kernel
theorem dX5_undo_9 : decode cX5_undo 9 = .ok (.invokevirtual 105, 3) := by decide +kernel
theorem dX5_undo_12 : decode cX5_undo 12 = .ok (.ireturn, 1) := by decide +kernel
theorem dX5_undo_13 : decode cX5_undo 13 = .ok (.iconst 0, 1) := by decide +kernel
theorem dX5_undo_14 : decode cX5_undo 14 = .ok (.istore_n 1, 1) := by decide +kernel
theorem dX5_undo_15 : decode cX5_undo 15 = .ok (.iload_n 1, 1) := by decide +kernel
theorem dX5_undo_16 : decode cX5_undo 16 = .ok (.bipush 88, 2) := by decide +kernel
theorem dX5_undo_18 : decode cX5_undo 18 = .ok (.if_icmp .ge 21, 3) := by decide +kernel
theorem dX5_undo_21 : decode cX5_undo 21 = .ok (.aload_n 0, 1) := by decide +kernel
theorem dX5_undo_22 : decode cX5_undo 22 = .ok (.getfield 9, 3) := by decide +kernel
theorem dX5_undo_25 : decode cX5_undo 25 = .ok (.iload_n 1, 1) := by decide +kernel
theorem dX5_undo_26 : decode cX5_undo 26 = .ok (.aload_n 0, 1) := by decide +kernel
theorem dX5_undo_27 : decode cX5_undo 27 = .ok (.getfield 13, 3) := by decide +kernel
theorem dX5_undo_30 : decode cX5_undo 30 = .ok (.iload_n 1, 1) := by decide +kernel
theorem dX5_undo_31 : decode cX5_undo 31 = .ok (.iaload, 1) := by decide +kernel
theorem dX5_undo_32 : decode cX5_undo 32 = .ok (.iastore, 1) := by decide +kernel
theorem dX5_undo_33 : decode cX5_undo 33 = .ok (.iinc 1 1, 3) := by decide +kernel
theorem dX5_undo_36 : decode cX5_undo 36 = .ok (.goto (-21), 3) := by decide +kernel
theorem dX5_undo_39 : decode cX5_undo 39 = .ok (.aload_n 0, 1) := by decide +kernel
theorem dX5_undo_40 : decode cX5_undo 40 = .ok (.getfield 9, 3) := by decide +kernel
theorem dX5_undo_43 : decode cX5_undo 43 = .ok (.iconst 0, 1) := by decide +kernel
theorem dX5_undo_44 : decode cX5_undo 44 = .ok (.iaload, 1) := by decide +kernel
theorem dX5_undo_45 : decode cX5_undo 45 = .ok (.ireturn, 1) := by decide +kernel
def l5_undo_15  : Nat → (Nat → Int32) → (Nat → Int32) → Int32 → (Nat → Int32) → Int32 → Option (Int32 × (Nat → Int32) × (Nat → Int32))
  | 0, _, _, _, _, _ => none
  | n + 1, xs, xkept, xisK, xfound, v1 =>
    if (88 : Int32) ≤ v1 then (
      some ((xs 0), xs, xfound))
    else (
      gd (inb v1 88) (
      gd (inb v1 88) (
      (l5_undo_15 n) (upd xs v1.toNatClampNeg (xkept v1.toNatClampNeg)) xkept xisK xfound (v1 + (1 : Int32)))))
def f5_undo (xs : Nat → Int32) (xkept : Nat → Int32) (xisK : Int32) (xfound : Nat → Int32)  : Option (Int32 × (Nat → Int32) × (Nat → Int32)) :=
  if xisK = (0 : Int32) then (
    ob2 (f5_no xfound (3 : Int32)) (fun r2 xfound_3 =>
    some (r2, xs, xfound_3)))
  else (
    l5_undo_15 1000 xs xkept xisK xfound (0 : Int32))
set_option maxHeartbeats 4000000 in
set_option maxRecDepth 100000 in
theorem b5_undo_15 {X : XP} {p : Program} {l : Launch} {e : Env} {s : State} {m : MethodId} {args : Array Value} {below : List Frame} {meth : Method} {c : Code} {D : va_G} {cI cC : ClassId} {ad : Nat → Nat} {A : Nat → Prop} {xkept : Nat → Int32} {xaside : Nat → Int32} {xisK : Int32} {xgone : Int32} {xover : Nat → Int32} {xtape : Nat → Int32} {xtaped : Int32} {xtok : Int32} {xbeg : Int32} {xend : Int32} {xval : Int64} {xwid : Nat → Int32} {xsiz : Nat → Int32} {xcel : Nat → Int32} {xcar : Nat → Int32} {r0 : Int32} {o_xs : Nat → Int32} {o_xfound : Nat → Int32} (C0 : CX X p s m args meth c cX5_undo 2 (some .int) RX5 A) : ∀ (n : Nat) {xs : Nat → Int32} {xfound : Nat → Int32} {v1 : Int32} {H : Heap} {locs : List Loc} {ls : Array Slot}, GX X D (tyM cI cC) A s (wM cI cC ad xs xkept xaside xisK xfound xgone xover xtape xtaped xtok xbeg xend xval xwid xsiz xcel xcar) H locs → lv_has ls 2 [(0, .ref (ad 0)), (1, .int v1)] → l5_undo_15  n xs xkept xisK xfound v1 = some (r0, o_xs, o_xfound) → W p l e ({ frames := 1, cells := 0, slots := 0, locals := 21 }) s m args below meth c H locs 0 0 (MQ below (QcI D (tyM cI cC) (wM cI cC ad o_xs xkept xaside xisK o_xfound xgone xover xtape xtaped xtok xbeg xend xval xwid xsiz xcel xcar) A r0) args s 0 0 A) (F0 m 15 ls []) := by
  have hx := C0.1
  have hb := C0.2.1
  have hown := C0.2.2.2.2.1
  have hts := C0.2.2.2.2.2.1
  have hX := C0.2.2.2.2.2.2.2.2
  intro n
  induction n with
  | zero =>
    intro _ _ _ _ _ _ G hl hf
    cases hf
  | succ n ih =>
    intro xs xfound v1 H locs ls G hl hf
    rw [l5_undo_15] at hf
    refine lv_iload_n hx hb dX5_undo_15 rfl (lv_at hl 1 rfl) ?_
    refine lv_bipush (v := (88 : Int32)) hx hb dX5_undo_16 (by decide) ?_
    refine lv_icmp_ge (tgt := 39) hx hb dX5_undo_18 (by decide) (fun hc5 => ?_) (fun hc5 => ?_)
    · have hf := itp hc5 hf
      refine lv_aload_n hx hb dX5_undo_39 rfl (lv_at hl 0 rfl) ?_
      refine s_get (C := RX5) (T := TX5) C0 G i_X5 0 0 rfl rfl (by decide) q713 rfl dX5_undo_40 ?_
      refine lv_iconst (v := (0 : Int32)) hx hb dX5_undo_43 (by decide) ?_
      refine s_iald (k := 0) C0 G 1 0 rfl rfl (vin (by decide)) (by decide) dX5_undo_44 ?_
      obtain ⟨rfl, rfl, rfl⟩ := inj3 hf
      exact ret_i C0 G dX5_undo_45
    · have hf := itn hc5 hf
      refine lv_aload_n hx hb dX5_undo_21 rfl (lv_at hl 0 rfl) ?_
      refine s_get (C := RX5) (T := TX5) C0 G i_X5 0 0 rfl rfl (by decide) q713 rfl dX5_undo_22 ?_
      refine lv_iload_n hx hb dX5_undo_25 rfl (lv_at hl 1 rfl) ?_
      refine lv_aload_n hx hb dX5_undo_26 rfl (lv_at hl 0 rfl) ?_
      refine s_get (C := RX5) (T := TX5) C0 G i_X5 0 1 rfl rfl (by decide) q714 rfl dX5_undo_27 ?_
      refine lv_iload_n hx hb dX5_undo_30 rfl (lv_at hl 1 rfl) ?_
      obtain ⟨hi6, hf⟩ := gd_s hf
      refine s_iald (k := v1.toNatClampNeg) C0 G 2 0 rfl rfl (vin hi6) rfl dX5_undo_31 ?_
      obtain ⟨hi7, hf⟩ := gd_s hf
      refine s_iast (k := v1.toNatClampNeg) (w' := (wM cI cC ad (upd xs v1.toNatClampNeg (xkept v1.toNatClampNeg)) xkept xaside xisK xfound xgone xover xtape xtaped xtok xbeg xend xval xwid xsiz xcel xcar)) C0 G 1 0 rfl rfl (vin hi7) rfl rfl dX5_undo_32 (fun H locs G => ?_)
      refine lv_iinc (v := (v1 + (1 : Int32))) (lv' := [(1, .int (v1 + (1 : Int32))), (0, .ref (ad 0))]) hx hb dX5_undo_33 hl (k := 1) rfl rfl (by decide) rfl (fun ls hl => ?_)
      refine lv_goto (tgt := 15) hx hb dX5_undo_36 (by decide) ?_
      exact ih G (lv_sub hl [1, 0] rfl) hf
set_option maxHeartbeats 4000000 in
set_option maxRecDepth 100000 in
theorem b5_undo_0 {X : XP} {p : Program} {l : Launch} {e : Env} {s : State} {m : MethodId} {args : Array Value} {below : List Frame} {meth : Method} {c : Code} {D : va_G} {cI cC : ClassId} {ad : Nat → Nat} {A : Nat → Prop} {xkept : Nat → Int32} {xaside : Nat → Int32} {xisK : Int32} {xgone : Int32} {xover : Nat → Int32} {xtape : Nat → Int32} {xtaped : Int32} {xtok : Int32} {xbeg : Int32} {xend : Int32} {xval : Int64} {xwid : Nat → Int32} {xsiz : Nat → Int32} {xcel : Nat → Int32} {xcar : Nat → Int32} {r0 : Int32} {o_xs : Nat → Int32} {o_xfound : Nat → Int32} (C0 : CX X p s m args meth c cX5_undo 2 (some .int) RX5 A) : ∀ {xs : Nat → Int32} {xfound : Nat → Int32} {H : Heap} {locs : List Loc} {ls : Array Slot}, GX X D (tyM cI cC) A s (wM cI cC ad xs xkept xaside xisK xfound xgone xover xtape xtaped xtok xbeg xend xval xwid xsiz xcel xcar) H locs → lv_has ls 2 [(0, .ref (ad 0))] → f5_undo xs xkept xisK xfound = some (r0, o_xs, o_xfound) → W p l e ({ frames := 1, cells := 0, slots := 0, locals := 21 }) s m args below meth c H locs 0 0 (MQ below (QcI D (tyM cI cC) (wM cI cC ad o_xs xkept xaside xisK o_xfound xgone xover xtape xtaped xtok xbeg xend xval xwid xsiz xcel xcar) A r0) args s 0 0 A) (F0 m 0 ls []) := by
  have hx := C0.1
  have hb := C0.2.1
  have hown := C0.2.2.2.2.1
  have hts := C0.2.2.2.2.2.1
  have hX := C0.2.2.2.2.2.2.2.2
  intro xs xfound H locs ls G hl hf
  unfold f5_undo at hf
  refine lv_aload_n hx hb dX5_undo_0 rfl (lv_at hl 0 rfl) ?_
  refine s_get (C := RX5) (T := TX5) C0 G i_X5 0 3 rfl rfl (by decide) q716 rfl dX5_undo_1 ?_
  refine lv_if_ne (tgt := 13) hx hb dX5_undo_4 (by decide) (fun hc1 => ?_) (fun hc1 => ?_)
  · have hf := itn hc1 hf
    refine lv_iconst (v := (0 : Int32)) hx hb dX5_undo_13 (by decide) ?_
    refine lv_istore_n (lv' := [(1, .int (0 : Int32)), (0, .ref (ad 0))]) hx hb dX5_undo_14 rfl hl (by decide) rfl (fun ls hl => ?_)
    exact b5_undo_15 C0  1000 G (lv_sub hl [1, 0] rfl) hf
  · have hf := itp hc1 hf
    refine lv_aload_n hx hb dX5_undo_7 rfl (lv_at hl 0 rfl) ?_
    refine lv_iconst (v := (3 : Int32)) hx hb dX5_undo_8 (by decide) ?_
    obtain ⟨r2, xfound_3, hc4, hf⟩ := ob2_s hf
    refine go_i C0 G (runV_of (n := 1) (q0 := 0) (As := [.int (3 : Int32)]) (rest := []) C0 G (c5_no hX hc4) q788 q54 q785 q787 q9 o5_no ⟨rfl, rfl⟩ ⟨Nat.le_of_ble_eq_true rfl, Nat.le_of_ble_eq_true rfl⟩ rfl rfl rfl hl.1 rfl (Nat.le_of_ble_eq_true rfl) dX5_undo_9) (fun H locs G => ?_)
    obtain ⟨rfl, rfl, rfl⟩ := inj3 hf
    exact ret_i C0 G dX5_undo_12
theorem o5_undo : okName yX5_undo 0 := ⟨by decide, by decide, by decide +kernel⟩
set_option maxHeartbeats 4000000 in
set_option maxRecDepth 100000 in
theorem c5_undo {X : XP} (hX : XT X) {l : Launch} {D : va_G} {cI cC : ClassId} {ad : Nat → Nat} {sz : Nat} {xs : Nat → Int32} {xkept : Nat → Int32} {xaside : Nat → Int32} {xisK : Int32} {xfound : Nat → Int32} {xgone : Int32} {xover : Nat → Int32} {xtape : Nat → Int32} {xtaped : Int32} {xtok : Int32} {xbeg : Int32} {xend : Int32} {xval : Int64} {xwid : Nat → Int32} {xsiz : Nat → Int32} {xcel : Nat → Int32} {xcar : Nat → Int32}  {r0 : Int32} {o_xs : Nat → Int32} {o_xfound : Nat → Int32} (hf : f5_undo xs xkept xisK xfound = some (r0, o_xs, o_xfound)) : Met l yX5_undo (wU yX5_undo cX5_undo 2 (some .int)) ({ frames := 1, cells := 0, slots := 0, locals := 21 }) (va_Pc [.ref (ad 0)] (PreW X D (tyM cI cC) (wM cI cC ad xs xkept xaside xisK xfound xgone xover xtape xtaped xtok xbeg xend xval xwid xsiz xcel xcar) sz)) (QcI D (tyM cI cC) (wM cI cC ad o_xs xkept xaside xisK o_xfound xgone xover xtape xtaped xtok xbeg xend xval xwid xsiz xcel xcar) (va_A (wM cI cC ad xs xkept xaside xisK xfound xgone xover xtape xtaped xtok xbeg xend xval xwid xsiz xcel xcar) sz) r0) 0 0 (va_A (wM cI cC ad xs xkept xaside xisK xfound xgone xover xtape xtaped xtok xbeg xend xval xwid xsiz xcel xcar) sz) := by
  refine startW hX (own := RX5) (by decide) rfl (Nat.le_of_ble_eq_true rfl) (fun p e s m args below meth c ls C0 G hl => ?_)
  exact b5_undo_0 C0 G hl hf
/-! 5_tear -/
theorem dX5_tear_0 : decode cX5_tear 0 = .ok (.aload_n 0, 1) := by decide +kernel
theorem dX5_tear_1 : decode cX5_tear 1 = .ok (.getfield 253, 3) := by decide +kernel
theorem dX5_tear_4 : decode cX5_tear 4 = .ok (.ifCond .eq 7, 3) := by decide +kernel
theorem dX5_tear_7 : decode cX5_tear 7 = .ok (.iconst 1, 1) := by decide +kernel
theorem dX5_tear_8 : decode cX5_tear 8 = .ok (.goto 4, 3) := by decide +kernel
theorem dX5_tear_11 : decode cX5_tear 11 = .ok (.iconst 0, 1) := by decide +kernel
theorem dX5_tear_12 : decode cX5_tear 12 = .ok (.istore_n 1, 1) := by decide +kernel
theorem dX5_tear_13 : decode cX5_tear 13 = .ok (.aload_n 0, 1) := by decide +kernel
theorem dX5_tear_14 : decode cX5_tear 14 = .ok (.iconst 0, 1) := by decide +kernel
theorem dX5_tear_15 : decode cX5_tear 15 = .ok (.putfield 253, 3) := by decide +kernel
theorem dX5_tear_18 : decode cX5_tear 18 = .ok (.iload_n 1, 1) := by decide +kernel
theorem dX5_tear_19 : decode cX5_tear 19 = .ok (.ireturn, 1) := by decide +kernel
def f5_tear (xisK : Int32)  : Option (Int32 × Int32) :=
  if xisK = (0 : Int32) then (
    some ((0 : Int32), (0 : Int32)))
  else (
    some ((1 : Int32), (0 : Int32)))
set_option maxHeartbeats 4000000 in
set_option maxRecDepth 100000 in
theorem b5_tear_0 {X : XP} {p : Program} {l : Launch} {e : Env} {s : State} {m : MethodId} {args : Array Value} {below : List Frame} {meth : Method} {c : Code} {D : va_G} {cI cC : ClassId} {ad : Nat → Nat} {A : Nat → Prop} {xs : Nat → Int32} {xkept : Nat → Int32} {xaside : Nat → Int32} {xfound : Nat → Int32} {xgone : Int32} {xover : Nat → Int32} {xtape : Nat → Int32} {xtaped : Int32} {xtok : Int32} {xbeg : Int32} {xend : Int32} {xval : Int64} {xwid : Nat → Int32} {xsiz : Nat → Int32} {xcel : Nat → Int32} {xcar : Nat → Int32} {r0 : Int32} {o_xisK : Int32} (C0 : CX X p s m args meth c cX5_tear 2 (some .int) RX5 A) : ∀ {xisK : Int32} {H : Heap} {locs : List Loc} {ls : Array Slot}, GX X D (tyM cI cC) A s (wM cI cC ad xs xkept xaside xisK xfound xgone xover xtape xtaped xtok xbeg xend xval xwid xsiz xcel xcar) H locs → lv_has ls 2 [(0, .ref (ad 0))] → f5_tear xisK = some (r0, o_xisK) → W p l e ({ frames := 0, cells := 0, slots := 0, locals := 0 }) s m args below meth c H locs 0 0 (MQ below (QcI D (tyM cI cC) (wM cI cC ad xs xkept xaside o_xisK xfound xgone xover xtape xtaped xtok xbeg xend xval xwid xsiz xcel xcar) A r0) args s 0 0 A) (F0 m 0 ls []) := by
  have hx := C0.1
  have hb := C0.2.1
  have hown := C0.2.2.2.2.1
  have hts := C0.2.2.2.2.2.1
  have hX := C0.2.2.2.2.2.2.2.2
  intro xisK H locs ls G hl hf
  unfold f5_tear at hf
  refine lv_aload_n hx hb dX5_tear_0 rfl (lv_at hl 0 rfl) ?_
  refine s_get (C := RX5) (T := TX5) C0 G i_X5 0 3 rfl rfl (by decide) q716 rfl dX5_tear_1 ?_
  refine lv_if_eq (tgt := 11) hx hb dX5_tear_4 (by decide) (fun hc1 => ?_) (fun hc1 => ?_)
  · have hf := itp hc1 hf
    refine lv_iconst (v := (0 : Int32)) hx hb dX5_tear_11 (by decide) ?_
    refine lv_istore_n (lv' := [(1, .int (0 : Int32)), (0, .ref (ad 0))]) hx hb dX5_tear_12 rfl hl (by decide) rfl (fun ls hl => ?_)
    refine lv_aload_n hx hb dX5_tear_13 rfl (lv_at hl 1 rfl) ?_
    refine lv_iconst (v := (0 : Int32)) hx hb dX5_tear_14 (by decide) ?_
    refine s_put (C := RX5) (T := TX5) (w' := (wM cI cC ad xs xkept xaside (0 : Int32) xfound xgone xover xtape xtaped xtok xbeg xend xval xwid xsiz xcel xcar)) C0 G i_X5 tyX5 tyX5_ok nmX5 0 3 rfl rfl (by decide) q716 rfl (ty := .boolean) (by decide +kernel) rfl rfl (Nat.le_of_ble_eq_true rfl) rfl dX5_tear_15 (fun H locs G => ?_)
    refine lv_iload_n hx hb dX5_tear_18 rfl (lv_at hl 0 rfl) ?_
    obtain ⟨rfl, rfl⟩ := inj2 hf
    exact ret_i C0 G dX5_tear_19
  · have hf := itn hc1 hf
    refine lv_iconst (v := (1 : Int32)) hx hb dX5_tear_7 (by decide) ?_
    refine lv_goto (tgt := 12) hx hb dX5_tear_8 (by decide) ?_
    refine lv_istore_n (lv' := [(1, .int (1 : Int32)), (0, .ref (ad 0))]) hx hb dX5_tear_12 rfl hl (by decide) rfl (fun ls hl => ?_)
    refine lv_aload_n hx hb dX5_tear_13 rfl (lv_at hl 1 rfl) ?_
    refine lv_iconst (v := (0 : Int32)) hx hb dX5_tear_14 (by decide) ?_
    refine s_put (C := RX5) (T := TX5) (w' := (wM cI cC ad xs xkept xaside (0 : Int32) xfound xgone xover xtape xtaped xtok xbeg xend xval xwid xsiz xcel xcar)) C0 G i_X5 tyX5 tyX5_ok nmX5 0 3 rfl rfl (by decide) q716 rfl (ty := .boolean) (by decide +kernel) rfl rfl (Nat.le_of_ble_eq_true rfl) rfl dX5_tear_15 (fun H locs G => ?_)
    refine lv_iload_n hx hb dX5_tear_18 rfl (lv_at hl 0 rfl) ?_
    obtain ⟨rfl, rfl⟩ := inj2 hf
    exact ret_i C0 G dX5_tear_19
theorem o5_tear : okName yX5_tear 0 := ⟨by decide, by decide, by decide +kernel⟩
set_option maxHeartbeats 4000000 in
set_option maxRecDepth 100000 in
theorem c5_tear {X : XP} (hX : XT X) {l : Launch} {D : va_G} {cI cC : ClassId} {ad : Nat → Nat} {sz : Nat} {xs : Nat → Int32} {xkept : Nat → Int32} {xaside : Nat → Int32} {xisK : Int32} {xfound : Nat → Int32} {xgone : Int32} {xover : Nat → Int32} {xtape : Nat → Int32} {xtaped : Int32} {xtok : Int32} {xbeg : Int32} {xend : Int32} {xval : Int64} {xwid : Nat → Int32} {xsiz : Nat → Int32} {xcel : Nat → Int32} {xcar : Nat → Int32}  {r0 : Int32} {o_xisK : Int32} (hf : f5_tear xisK = some (r0, o_xisK)) : Met l yX5_tear (wU yX5_tear cX5_tear 2 (some .int)) ({ frames := 0, cells := 0, slots := 0, locals := 0 }) (va_Pc [.ref (ad 0)] (PreW X D (tyM cI cC) (wM cI cC ad xs xkept xaside xisK xfound xgone xover xtape xtaped xtok xbeg xend xval xwid xsiz xcel xcar) sz)) (QcI D (tyM cI cC) (wM cI cC ad xs xkept xaside o_xisK xfound xgone xover xtape xtaped xtok xbeg xend xval xwid xsiz xcel xcar) (va_A (wM cI cC ad xs xkept xaside xisK xfound xgone xover xtape xtaped xtok xbeg xend xval xwid xsiz xcel xcar) sz) r0) 0 0 (va_A (wM cI cC ad xs xkept xaside xisK xfound xgone xover xtape xtaped xtok xbeg xend xval xwid xsiz xcel xcar) sz) := by
  refine startW hX (own := RX5) (by decide) rfl (Nat.le_of_ble_eq_true rfl) (fun p e s m args below meth c ls C0 G hl => ?_)
  exact b5_tear_0 C0 G hl hf
/-! 5_count -/
theorem dX5_count_0 : decode cX5_count 0 = .ok (.iconst 0, 1) := by decide +kernel
theorem dX5_count_1 : decode cX5_count 1 = .ok (.istore_n 2, 1) := by decide +kernel
theorem dX5_count_2 : decode cX5_count 2 = .ok (.iload_n 1, 1) := by decide +kernel
theorem dX5_count_3 : decode cX5_count 3 = .ok (.tableswitch 124 0 7 #[45, 52, 59, 64, 71, 76, 81, 88], 45) := by decide +kernel
theorem dX5_count_48 : decode cX5_count 48 = .ok (.aload_n 0, 1) := by decide +kernel
theorem dX5_count_49 : decode cX5_count 49 = .ok (.getfield 9, 3) := by decide +kernel
theorem dX5_count_52 : decode cX5_count 52 = .ok (.iconst 0, 1) := by decide +kernel
theorem dX5_count_53 : decode cX5_count 53 = .ok (.iaload, 1) := by decide +kernel
theorem dX5_count_54 : decode cX5_count 54 = .ok (.ireturn, 1) := by decide +kernel
theorem dX5_count_55 : decode cX5_count 55 = .ok (.aload_n 0, 1) := by decide +kernel
theorem dX5_count_56 : decode cX5_count 56 = .ok (.getfield 9, 3) := by decide +kernel
theorem dX5_count_59 : decode cX5_count 59 = .ok (.iconst 1, 1) := by decide +kernel
theorem dX5_count_60 : decode cX5_count 60 = .ok (.iaload, 1) := by decide +kernel
theorem dX5_count_61 : decode cX5_count 61 = .ok (.ireturn, 1) := by decide +kernel
theorem dX5_count_62 : decode cX5_count 62 = .ok (.aload_n 0, 1) := by decide +kernel
theorem dX5_count_63 : decode cX5_count 63 = .ok (.invokevirtual 127, 3) := by decide +kernel
theorem dX5_count_66 : decode cX5_count 66 = .ok (.ireturn, 1) := by decide +kernel
theorem dX5_count_67 : decode cX5_count 67 = .ok (.aload_n 0, 1) := by decide +kernel
theorem dX5_count_68 : decode cX5_count 68 = .ok (.getfield 9, 3) := by decide +kernel
theorem dX5_count_71 : decode cX5_count 71 = .ok (.iconst 3, 1) := by decide +kernel
theorem dX5_count_72 : decode cX5_count 72 = .ok (.iaload, 1) := by decide +kernel
theorem dX5_count_73 : decode cX5_count 73 = .ok (.ireturn, 1) := by decide +kernel
theorem dX5_count_74 : decode cX5_count 74 = .ok (.aload_n 0, 1) := by decide +kernel
theorem dX5_count_75 : decode cX5_count 75 = .ok (.invokevirtual 137, 3) := by decide +kernel
theorem dX5_count_78 : decode cX5_count 78 = .ok (.ireturn, 1) := by decide +kernel
theorem dX5_count_79 : decode cX5_count 79 = .ok (.aload_n 0, 1) := by decide +kernel
theorem dX5_count_80 : decode cX5_count 80 = .ok (.getfield 196, 3) := by decide +kernel
theorem dX5_count_83 : decode cX5_count 83 = .ok (.ireturn, 1) := by decide +kernel
theorem dX5_count_84 : decode cX5_count 84 = .ok (.aload_n 0, 1) := by decide +kernel
theorem dX5_count_85 : decode cX5_count 85 = .ok (.getfield 9, 3) := by decide +kernel
theorem dX5_count_88 : decode cX5_count 88 = .ok (.iconst 2, 1) := by decide +kernel
theorem dX5_count_89 : decode cX5_count 89 = .ok (.iaload, 1) := by decide +kernel
theorem dX5_count_90 : decode cX5_count 90 = .ok (.ireturn, 1) := by decide +kernel
theorem dX5_count_91 : decode cX5_count 91 = .ok (.iconst 0, 1) := by decide +kernel
theorem dX5_count_92 : decode cX5_count 92 = .ok (.istore_n 3, 1) := by decide +kernel
theorem dX5_count_93 : decode cX5_count 93 = .ok (.iload_n 3, 1) := by decide +kernel
theorem dX5_count_94 : decode cX5_count 94 = .ok (.bipush 10, 2) := by decide +kernel
theorem dX5_count_96 : decode cX5_count 96 = .ok (.if_icmp .ge 29, 3) := by decide +kernel
theorem dX5_count_99 : decode cX5_count 99 = .ok (.iload_n 2, 1) := by decide +kernel
theorem dX5_count_100 : decode cX5_count 100 = .ok (.aload_n 0, 1) := by decide +kernel
theorem dX5_count_101 : decode cX5_count 101 = .ok (.getfield 9, 3) := by decide +kernel
theorem dX5_count_104 : decode cX5_count 104 = .ok (.bipush 78, 2) := by decide +kernel
theorem dX5_count_106 : decode cX5_count 106 = .ok (.iload_n 3, 1) := by decide +kernel
theorem dX5_count_107 : decode cX5_count 107 = .ok (.iadd, 1) := by decide +kernel
theorem dX5_count_108 : decode cX5_count 108 = .ok (.iaload, 1) := by decide +kernel
theorem dX5_count_109 : decode cX5_count 109 = .ok (.ifCond .lt 7, 3) := by decide +kernel
theorem dX5_count_112 : decode cX5_count 112 = .ok (.iconst 1, 1) := by decide +kernel
theorem dX5_count_113 : decode cX5_count 113 = .ok (.goto 4, 3) := by decide +kernel
theorem dX5_count_116 : decode cX5_count 116 = .ok (.iconst 0, 1) := by decide +kernel
theorem dX5_count_117 : decode cX5_count 117 = .ok (.iadd, 1) := by decide +kernel
theorem dX5_count_118 : decode cX5_count 118 = .ok (.istore_n 2, 1) := by decide +kernel
theorem dX5_count_119 : decode cX5_count 119 = .ok (.iinc 3 1, 3) := by decide +kernel
theorem dX5_count_122 : decode cX5_count 122 = .ok (.goto (-29), 3) := by decide +kernel
theorem dX5_count_125 : decode cX5_count 125 = .ok (.iload_n 2, 1) := by decide +kernel
theorem dX5_count_126 : decode cX5_count 126 = .ok (.ireturn, 1) := by decide +kernel
theorem dX5_count_127 : decode cX5_count 127 = .ok (.aload_n 0, 1) := by decide +kernel
theorem dX5_count_128 : decode cX5_count 128 = .ok (.iconst 0, 1) := by decide +kernel
theorem dX5_count_129 : decode cX5_count 129 = .ok (.invokevirtual 105, 3) := by decide +kernel
theorem dX5_count_132 : decode cX5_count 132 = .ok (.ireturn, 1) := by decide +kernel
def j5_count_117 (k93 : (Nat → Int32) → (Nat → Int32) → Int32 → Int32 → Int32 → Option (Int32 × (Nat → Int32))) (xs : Nat → Int32) (xfound : Nat → Int32) (xtaped : Int32) (v3 : Int32) (t0 : Int32) (t1 : Int32) : Option (Int32 × (Nat → Int32)) :=
  k93 xs xfound xtaped (t0 + t1) (v3 + (1 : Int32))
def l5_count_93  : Nat → (Nat → Int32) → (Nat → Int32) → Int32 → Int32 → Int32 → Option (Int32 × (Nat → Int32))
  | 0, _, _, _, _, _ => none
  | n + 1, xs, xfound, xtaped, v2, v3 =>
    if (10 : Int32) ≤ v3 then (
      some (v2, xfound))
    else (
      gd (inb ((78 : Int32) + v3) 88) (
      if (xs (((78 : Int32) + v3).toNatClampNeg)) < (0 : Int32) then (
        j5_count_117 (l5_count_93 n) xs xfound xtaped v3 v2 (0 : Int32))
      else (
        j5_count_117 (l5_count_93 n) xs xfound xtaped v3 v2 (1 : Int32))))
def f5_count (xs : Nat → Int32) (xfound : Nat → Int32) (xtaped : Int32) (v1 : Int32) : Option (Int32 × (Nat → Int32)) :=
  if v1 = (0 : Int32) then (
    some ((xs 0), xfound))
  else
  if v1 = (1 : Int32) then (
    some ((xs 1), xfound))
  else
  if v1 = (2 : Int32) then (
    ob1 (f5_sands xs) (fun r4 =>
    some (r4, xfound)))
  else
  if v1 = (3 : Int32) then (
    some ((xs 3), xfound))
  else
  if v1 = (4 : Int32) then (
    ob1 (f5_builds xs) (fun r8 =>
    some (r8, xfound)))
  else
  if v1 = (5 : Int32) then (
    some (xtaped, xfound))
  else
  if v1 = (6 : Int32) then (
    some ((xs 2), xfound))
  else
  if v1 = (7 : Int32) then (
    l5_count_93 1000 xs xfound xtaped (0 : Int32) (0 : Int32))
  else
  ob2 (f5_no xfound (0 : Int32)) (fun r13 xfound_14 =>
  some (r13, xfound_14))
set_option maxHeartbeats 4000000 in
set_option maxRecDepth 100000 in
theorem b5_count_117 {X : XP} {p : Program} {l : Launch} {e : Env} {s : State} {m : MethodId} {args : Array Value} {below : List Frame} {meth : Method} {c : Code} {D : va_G} {cI cC : ClassId} {ad : Nat → Nat} {A : Nat → Prop} {xs : Nat → Int32} {xkept : Nat → Int32} {xaside : Nat → Int32} {xisK : Int32} {xgone : Int32} {xover : Nat → Int32} {xtape : Nat → Int32} {xtaped : Int32} {xtok : Int32} {xbeg : Int32} {xend : Int32} {xval : Int64} {xwid : Nat → Int32} {xsiz : Nat → Int32} {xcel : Nat → Int32} {xcar : Nat → Int32} {r0 : Int32} {o_xfound : Nat → Int32} (C0 : CX X p s m args meth c cX5_count 4 (some .int) RX5 A) {k93 : (Nat → Int32) → (Nat → Int32) → Int32 → Int32 → Int32 → Option (Int32 × (Nat → Int32))} (hk93 : ∀ {xfound : Nat → Int32} {v2 : Int32} {v3 : Int32} {H : Heap} {locs : List Loc} {ls : Array Slot}, GX X D (tyM cI cC) A s (wM cI cC ad xs xkept xaside xisK xfound xgone xover xtape xtaped xtok xbeg xend xval xwid xsiz xcel xcar) H locs → lv_has ls 4 [(0, .ref (ad 0)), (2, .int v2), (3, .int v3)] → k93 xs xfound xtaped v2 v3 = some (r0, o_xfound) → W p l e ({ frames := 2, cells := 0, slots := 0, locals := 44 }) s m args below meth c H locs 0 0 (MQ below (QcI D (tyM cI cC) (wM cI cC ad xs xkept xaside xisK o_xfound xgone xover xtape xtaped xtok xbeg xend xval xwid xsiz xcel xcar) A r0) args s 0 0 A) (F0 m 93 ls [])) : ∀ {xfound : Nat → Int32} {v3 : Int32} {t0 : Int32} {t1 : Int32} {H : Heap} {locs : List Loc} {ls : Array Slot}, GX X D (tyM cI cC) A s (wM cI cC ad xs xkept xaside xisK xfound xgone xover xtape xtaped xtok xbeg xend xval xwid xsiz xcel xcar) H locs → lv_has ls 4 [(0, .ref (ad 0)), (3, .int v3)] → j5_count_117 k93 xs xfound xtaped v3 t0 t1 = some (r0, o_xfound) → W p l e ({ frames := 2, cells := 0, slots := 0, locals := 44 }) s m args below meth c H locs 0 0 (MQ below (QcI D (tyM cI cC) (wM cI cC ad xs xkept xaside xisK o_xfound xgone xover xtape xtaped xtok xbeg xend xval xwid xsiz xcel xcar) A r0) args s 0 0 A) (F0 m 117 ls [.int t1, .int t0]) := by
  have hx := C0.1
  have hb := C0.2.1
  have hown := C0.2.2.2.2.1
  have hts := C0.2.2.2.2.2.1
  have hX := C0.2.2.2.2.2.2.2.2
  intro xfound v3 t0 t1 H locs ls G hl hf
  unfold j5_count_117 at hf
  refine lv_iadd hx hb dX5_count_117 ?_
  refine lv_istore_n (lv' := [(2, .int (t0 + t1)), (0, .ref (ad 0)), (3, .int v3)]) hx hb dX5_count_118 rfl hl (by decide) rfl (fun ls hl => ?_)
  refine lv_iinc (v := (v3 + (1 : Int32))) (lv' := [(3, .int (v3 + (1 : Int32))), (2, .int (t0 + t1)), (0, .ref (ad 0))]) hx hb dX5_count_119 hl (k := 2) rfl rfl (by decide) rfl (fun ls hl => ?_)
  refine lv_goto (tgt := 93) hx hb dX5_count_122 (by decide) ?_
  exact hk93 G (lv_sub hl [2, 1, 0] rfl) hf
set_option maxHeartbeats 4000000 in
set_option maxRecDepth 100000 in
theorem b5_count_93 {X : XP} {p : Program} {l : Launch} {e : Env} {s : State} {m : MethodId} {args : Array Value} {below : List Frame} {meth : Method} {c : Code} {D : va_G} {cI cC : ClassId} {ad : Nat → Nat} {A : Nat → Prop} {xs : Nat → Int32} {xkept : Nat → Int32} {xaside : Nat → Int32} {xisK : Int32} {xgone : Int32} {xover : Nat → Int32} {xtape : Nat → Int32} {xtaped : Int32} {xtok : Int32} {xbeg : Int32} {xend : Int32} {xval : Int64} {xwid : Nat → Int32} {xsiz : Nat → Int32} {xcel : Nat → Int32} {xcar : Nat → Int32} {r0 : Int32} {o_xfound : Nat → Int32} (C0 : CX X p s m args meth c cX5_count 4 (some .int) RX5 A) : ∀ (n : Nat) {xfound : Nat → Int32} {v2 : Int32} {v3 : Int32} {H : Heap} {locs : List Loc} {ls : Array Slot}, GX X D (tyM cI cC) A s (wM cI cC ad xs xkept xaside xisK xfound xgone xover xtape xtaped xtok xbeg xend xval xwid xsiz xcel xcar) H locs → lv_has ls 4 [(0, .ref (ad 0)), (2, .int v2), (3, .int v3)] → l5_count_93  n xs xfound xtaped v2 v3 = some (r0, o_xfound) → W p l e ({ frames := 2, cells := 0, slots := 0, locals := 44 }) s m args below meth c H locs 0 0 (MQ below (QcI D (tyM cI cC) (wM cI cC ad xs xkept xaside xisK o_xfound xgone xover xtape xtaped xtok xbeg xend xval xwid xsiz xcel xcar) A r0) args s 0 0 A) (F0 m 93 ls []) := by
  have hx := C0.1
  have hb := C0.2.1
  have hown := C0.2.2.2.2.1
  have hts := C0.2.2.2.2.2.1
  have hX := C0.2.2.2.2.2.2.2.2
  intro n
  induction n with
  | zero =>
    intro _ _ _ _ _ _ G hl hf
    cases hf
  | succ n ih =>
    intro xfound v2 v3 H locs ls G hl hf
    rw [l5_count_93] at hf
    refine lv_iload_n hx hb dX5_count_93 rfl (lv_at hl 2 rfl) ?_
    refine lv_bipush (v := (10 : Int32)) hx hb dX5_count_94 (by decide) ?_
    refine lv_icmp_ge (tgt := 125) hx hb dX5_count_96 (by decide) (fun hc16 => ?_) (fun hc16 => ?_)
    · have hf := itp hc16 hf
      refine lv_iload_n hx hb dX5_count_125 rfl (lv_at hl 1 rfl) ?_
      obtain ⟨rfl, rfl⟩ := inj2 hf
      exact ret_i C0 G dX5_count_126
    · have hf := itn hc16 hf
      refine lv_iload_n hx hb dX5_count_99 rfl (lv_at hl 1 rfl) ?_
      refine lv_aload_n hx hb dX5_count_100 rfl (lv_at hl 0 rfl) ?_
      refine s_get (C := RX5) (T := TX5) C0 G i_X5 0 0 rfl rfl (by decide) q713 rfl dX5_count_101 ?_
      refine lv_bipush (v := (78 : Int32)) hx hb dX5_count_104 (by decide) ?_
      refine lv_iload_n hx hb dX5_count_106 rfl (lv_at hl 2 rfl) ?_
      refine lv_iadd hx hb dX5_count_107 ?_
      obtain ⟨hi17, hf⟩ := gd_s hf
      refine s_iald (k := ((78 : Int32) + v3).toNatClampNeg) C0 G 1 0 rfl rfl (vin hi17) rfl dX5_count_108 ?_
      refine lv_if_lt (tgt := 116) hx hb dX5_count_109 (by decide) (fun hc18 => ?_) (fun hc18 => ?_)
      · have hf := itp hc18 hf
        refine lv_iconst (v := (0 : Int32)) hx hb dX5_count_116 (by decide) ?_
        exact b5_count_117 C0 ih G (lv_sub hl [0, 2] rfl) hf
      · have hf := itn hc18 hf
        refine lv_iconst (v := (1 : Int32)) hx hb dX5_count_112 (by decide) ?_
        refine lv_goto (tgt := 117) hx hb dX5_count_113 (by decide) ?_
        exact b5_count_117 C0 ih G (lv_sub hl [0, 2] rfl) hf
set_option maxHeartbeats 4000000 in
set_option maxRecDepth 100000 in
theorem b5_count_0 {X : XP} {p : Program} {l : Launch} {e : Env} {s : State} {m : MethodId} {args : Array Value} {below : List Frame} {meth : Method} {c : Code} {D : va_G} {cI cC : ClassId} {ad : Nat → Nat} {A : Nat → Prop} {xs : Nat → Int32} {xkept : Nat → Int32} {xaside : Nat → Int32} {xisK : Int32} {xgone : Int32} {xover : Nat → Int32} {xtape : Nat → Int32} {xtaped : Int32} {xtok : Int32} {xbeg : Int32} {xend : Int32} {xval : Int64} {xwid : Nat → Int32} {xsiz : Nat → Int32} {xcel : Nat → Int32} {xcar : Nat → Int32} {r0 : Int32} {o_xfound : Nat → Int32} (C0 : CX X p s m args meth c cX5_count 4 (some .int) RX5 A) : ∀ {xfound : Nat → Int32} {v1 : Int32} {H : Heap} {locs : List Loc} {ls : Array Slot}, GX X D (tyM cI cC) A s (wM cI cC ad xs xkept xaside xisK xfound xgone xover xtape xtaped xtok xbeg xend xval xwid xsiz xcel xcar) H locs → lv_has ls 4 [(0, .ref (ad 0)), (1, .int v1)] → f5_count xs xfound xtaped v1 = some (r0, o_xfound) → W p l e ({ frames := 2, cells := 0, slots := 0, locals := 44 }) s m args below meth c H locs 0 0 (MQ below (QcI D (tyM cI cC) (wM cI cC ad xs xkept xaside xisK o_xfound xgone xover xtape xtaped xtok xbeg xend xval xwid xsiz xcel xcar) A r0) args s 0 0 A) (F0 m 0 ls []) := by
  have hx := C0.1
  have hb := C0.2.1
  have hown := C0.2.2.2.2.1
  have hts := C0.2.2.2.2.2.1
  have hX := C0.2.2.2.2.2.2.2.2
  intro xfound v1 H locs ls G hl hf
  unfold f5_count at hf
  refine lv_iconst (v := (0 : Int32)) hx hb dX5_count_0 (by decide) ?_
  refine lv_istore_n (lv' := [(2, .int (0 : Int32)), (0, .ref (ad 0)), (1, .int v1)]) hx hb dX5_count_1 rfl hl (by decide) rfl (fun ls hl => ?_)
  refine lv_iload_n hx hb dX5_count_2 rfl (lv_at hl 2 rfl) ?_
  by_cases hs1 : v1 = (0 : Int32)
  · have hf := itp hs1 hf
    refine lv_tableIn (tgt := 48) hx hb dX5_count_3 (by rw [hs1]; decide) (by rw [hs1]; decide) (by rw [hs1]; rfl) (by decide) ?_
    refine lv_aload_n hx hb dX5_count_48 rfl (lv_at hl 1 rfl) ?_
    refine s_get (C := RX5) (T := TX5) C0 G i_X5 0 0 rfl rfl (by decide) q713 rfl dX5_count_49 ?_
    refine lv_iconst (v := (0 : Int32)) hx hb dX5_count_52 (by decide) ?_
    refine s_iald (k := 0) C0 G 1 0 rfl rfl (vin (by decide)) (by decide) dX5_count_53 ?_
    obtain ⟨rfl, rfl⟩ := inj2 hf
    exact ret_i C0 G dX5_count_54
  have hf := itn hs1 hf
  by_cases hs2 : v1 = (1 : Int32)
  · have hf := itp hs2 hf
    refine lv_tableIn (tgt := 55) hx hb dX5_count_3 (by rw [hs2]; decide) (by rw [hs2]; decide) (by rw [hs2]; rfl) (by decide) ?_
    refine lv_aload_n hx hb dX5_count_55 rfl (lv_at hl 1 rfl) ?_
    refine s_get (C := RX5) (T := TX5) C0 G i_X5 0 0 rfl rfl (by decide) q713 rfl dX5_count_56 ?_
    refine lv_iconst (v := (1 : Int32)) hx hb dX5_count_59 (by decide) ?_
    refine s_iald (k := 1) C0 G 1 0 rfl rfl (vin (by decide)) (by decide) dX5_count_60 ?_
    obtain ⟨rfl, rfl⟩ := inj2 hf
    exact ret_i C0 G dX5_count_61
  have hf := itn hs2 hf
  by_cases hs3 : v1 = (2 : Int32)
  · have hf := itp hs3 hf
    refine lv_tableIn (tgt := 62) hx hb dX5_count_3 (by rw [hs3]; decide) (by rw [hs3]; decide) (by rw [hs3]; rfl) (by decide) ?_
    refine lv_aload_n hx hb dX5_count_62 rfl (lv_at hl 1 rfl) ?_
    obtain ⟨r4, hc5, hf⟩ := ob1_s hf
    refine go_i C0 G (runV_of (n := 0) (q0 := 0) (As := []) (rest := []) C0 G (c5_sands hX hc5) q895 q54 q892 q894 q25 o5_sands ⟨rfl, rfl⟩ ⟨Nat.le_of_ble_eq_true rfl, Nat.le_of_ble_eq_true rfl⟩ rfl rfl rfl hl.1 rfl (Nat.le_of_ble_eq_true rfl) dX5_count_63) (fun H locs G => ?_)
    obtain ⟨rfl, rfl⟩ := inj2 hf
    exact ret_i C0 G dX5_count_66
  have hf := itn hs3 hf
  by_cases hs6 : v1 = (3 : Int32)
  · have hf := itp hs6 hf
    refine lv_tableIn (tgt := 67) hx hb dX5_count_3 (by rw [hs6]; decide) (by rw [hs6]; decide) (by rw [hs6]; rfl) (by decide) ?_
    refine lv_aload_n hx hb dX5_count_67 rfl (lv_at hl 1 rfl) ?_
    refine s_get (C := RX5) (T := TX5) C0 G i_X5 0 0 rfl rfl (by decide) q713 rfl dX5_count_68 ?_
    refine lv_iconst (v := (3 : Int32)) hx hb dX5_count_71 (by decide) ?_
    refine s_iald (k := 3) C0 G 1 0 rfl rfl (vin (by decide)) (by decide) dX5_count_72 ?_
    obtain ⟨rfl, rfl⟩ := inj2 hf
    exact ret_i C0 G dX5_count_73
  have hf := itn hs6 hf
  by_cases hs7 : v1 = (4 : Int32)
  · have hf := itp hs7 hf
    refine lv_tableIn (tgt := 74) hx hb dX5_count_3 (by rw [hs7]; decide) (by rw [hs7]; decide) (by rw [hs7]; rfl) (by decide) ?_
    refine lv_aload_n hx hb dX5_count_74 rfl (lv_at hl 1 rfl) ?_
    obtain ⟨r8, hc9, hf⟩ := ob1_s hf
    refine go_i C0 G (runV_of (n := 0) (q0 := 0) (As := []) (rest := []) C0 G (c5_builds hX hc9) q907 q54 q904 q906 q28 o5_builds ⟨rfl, rfl⟩ ⟨Nat.le_of_ble_eq_true rfl, Nat.le_of_ble_eq_true rfl⟩ rfl rfl rfl hl.1 rfl (Nat.le_of_ble_eq_true rfl) dX5_count_75) (fun H locs G => ?_)
    obtain ⟨rfl, rfl⟩ := inj2 hf
    exact ret_i C0 G dX5_count_78
  have hf := itn hs7 hf
  by_cases hs10 : v1 = (5 : Int32)
  · have hf := itp hs10 hf
    refine lv_tableIn (tgt := 79) hx hb dX5_count_3 (by rw [hs10]; decide) (by rw [hs10]; decide) (by rw [hs10]; rfl) (by decide) ?_
    refine lv_aload_n hx hb dX5_count_79 rfl (lv_at hl 1 rfl) ?_
    refine s_get (C := RX5) (T := TX5) C0 G i_X5 0 8 rfl rfl (by decide) q721 rfl dX5_count_80 ?_
    obtain ⟨rfl, rfl⟩ := inj2 hf
    exact ret_i C0 G dX5_count_83
  have hf := itn hs10 hf
  by_cases hs11 : v1 = (6 : Int32)
  · have hf := itp hs11 hf
    refine lv_tableIn (tgt := 84) hx hb dX5_count_3 (by rw [hs11]; decide) (by rw [hs11]; decide) (by rw [hs11]; rfl) (by decide) ?_
    refine lv_aload_n hx hb dX5_count_84 rfl (lv_at hl 1 rfl) ?_
    refine s_get (C := RX5) (T := TX5) C0 G i_X5 0 0 rfl rfl (by decide) q713 rfl dX5_count_85 ?_
    refine lv_iconst (v := (2 : Int32)) hx hb dX5_count_88 (by decide) ?_
    refine s_iald (k := 2) C0 G 1 0 rfl rfl (vin (by decide)) (by decide) dX5_count_89 ?_
    obtain ⟨rfl, rfl⟩ := inj2 hf
    exact ret_i C0 G dX5_count_90
  have hf := itn hs11 hf
  by_cases hs12 : v1 = (7 : Int32)
  · have hf := itp hs12 hf
    refine lv_tableIn (tgt := 91) hx hb dX5_count_3 (by rw [hs12]; decide) (by rw [hs12]; decide) (by rw [hs12]; rfl) (by decide) ?_
    refine lv_iconst (v := (0 : Int32)) hx hb dX5_count_91 (by decide) ?_
    refine lv_istore_n (lv' := [(3, .int (0 : Int32)), (2, .int (0 : Int32)), (0, .ref (ad 0)), (1, .int v1)]) hx hb dX5_count_92 rfl hl (by decide) rfl (fun ls hl => ?_)
    exact b5_count_93 C0  1000 G (lv_sub hl [2, 1, 0] rfl) hf
  have hf := itn hs12 hf
  refine lv_tableOut (tgt := 127) hx hb dX5_count_3 (by have := lv_neT (a := 0) hs1 (by decide); have := lv_neT (a := 1) hs2 (by decide); have := lv_neT (a := 2) hs3 (by decide); have := lv_neT (a := 3) hs6 (by decide); have := lv_neT (a := 4) hs7 (by decide); have := lv_neT (a := 5) hs10 (by decide); have := lv_neT (a := 6) hs11 (by decide); have := lv_neT (a := 7) hs12 (by decide); omega) (by decide) ?_
  refine lv_aload_n hx hb dX5_count_127 rfl (lv_at hl 1 rfl) ?_
  refine lv_iconst (v := (0 : Int32)) hx hb dX5_count_128 (by decide) ?_
  obtain ⟨r13, xfound_14, hc15, hf⟩ := ob2_s hf
  refine go_i C0 G (runV_of (n := 1) (q0 := 0) (As := [.int (0 : Int32)]) (rest := []) C0 G (c5_no hX hc15) q788 q54 q785 q787 q9 o5_no ⟨rfl, rfl⟩ ⟨Nat.le_of_ble_eq_true rfl, Nat.le_of_ble_eq_true rfl⟩ rfl rfl rfl hl.1 rfl (Nat.le_of_ble_eq_true rfl) dX5_count_129) (fun H locs G => ?_)
  obtain ⟨rfl, rfl⟩ := inj2 hf
  exact ret_i C0 G dX5_count_132
theorem o5_count : okName yX5_count 1 := ⟨by decide, by decide, by decide +kernel⟩
set_option maxHeartbeats 4000000 in
set_option maxRecDepth 100000 in
theorem c5_count {X : XP} (hX : XT X) {l : Launch} {D : va_G} {cI cC : ClassId} {ad : Nat → Nat} {sz : Nat} {xs : Nat → Int32} {xkept : Nat → Int32} {xaside : Nat → Int32} {xisK : Int32} {xfound : Nat → Int32} {xgone : Int32} {xover : Nat → Int32} {xtape : Nat → Int32} {xtaped : Int32} {xtok : Int32} {xbeg : Int32} {xend : Int32} {xval : Int64} {xwid : Nat → Int32} {xsiz : Nat → Int32} {xcel : Nat → Int32} {xcar : Nat → Int32} {v1 : Int32} {r0 : Int32} {o_xfound : Nat → Int32} (hf : f5_count xs xfound xtaped v1 = some (r0, o_xfound)) : Met l yX5_count (wU yX5_count cX5_count 4 (some .int)) ({ frames := 2, cells := 0, slots := 0, locals := 44 }) (va_Pc [.ref (ad 0), .int v1] (PreW X D (tyM cI cC) (wM cI cC ad xs xkept xaside xisK xfound xgone xover xtape xtaped xtok xbeg xend xval xwid xsiz xcel xcar) sz)) (QcI D (tyM cI cC) (wM cI cC ad xs xkept xaside xisK o_xfound xgone xover xtape xtaped xtok xbeg xend xval xwid xsiz xcel xcar) (va_A (wM cI cC ad xs xkept xaside xisK xfound xgone xover xtape xtaped xtok xbeg xend xval xwid xsiz xcel xcar) sz) r0) 0 0 (va_A (wM cI cC ad xs xkept xaside xisK xfound xgone xover xtape xtaped xtok xbeg xend xval xwid xsiz xcel xcar) sz) := by
  refine startW hX (own := RX5) (by decide) rfl (Nat.le_of_ble_eq_true rfl) (fun p e s m args below meth c ls C0 G hl => ?_)
  exact b5_count_0 C0 G hl hf
/-! 5_status -/
theorem dX5_status_0 : decode cX5_status 0 = .ok (.iload_n 1, 1) := by decide +kernel
theorem dX5_status_1 : decode cX5_status 1 = .ok (.iconst (-1), 1) := by decide +kernel
theorem dX5_status_2 : decode cX5_status 2 = .ok (.bipush 6, 2) := by decide +kernel
theorem dX5_status_4 : decode cX5_status 4 = .ok (.invokestatic 51, 3) := by decide +kernel
theorem dX5_status_7 : decode cX5_status 7 = .ok (.ifCond .ne 9, 3) := by decide +kernel
theorem dX5_status_10 : decode cX5_status 10 = .ok (.aload_n 0, 1) := by decide +kernel
theorem dX5_status_11 : decode cX5_status 11 = .ok (.iconst 0, 1) := by decide +kernel
theorem dX5_status_12 : decode cX5_status 12 = .ok (.invokevirtual 105, 3) := by decide +kernel
theorem dX5_status_15 : decode cX5_status 15 = .ok (.ireturn, 1) := by decide +kernel
theorem dX5_status_16 : decode cX5_status 16 = .ok (.iconst 0, 1) := by decide +kernel
theorem dX5_status_17 : decode cX5_status 17 = .ok (.istore_n 2, 1) := by decide +kernel
theorem dX5_status_18 : decode cX5_status 18 = .ok (.iconst 0, 1) := by decide +kernel
theorem dX5_status_19 : decode cX5_status 19 = .ok (.istore_n 3, 1) := by decide +kernel
theorem dX5_status_20 : decode cX5_status 20 = .ok (.iload_n 3, 1) := by decide +kernel
theorem dX5_status_21 : decode cX5_status 21 = .ok (.bipush 7, 2) := by decide +kernel
theorem dX5_status_23 : decode cX5_status 23 = .ok (.if_icmp .ge 32, 3) := by decide +kernel
theorem dX5_status_26 : decode cX5_status 26 = .ok (.iload_n 2, 1) := by decide +kernel
theorem dX5_status_27 : decode cX5_status 27 = .ok (.iload_n 1, 1) := by decide +kernel
theorem dX5_status_28 : decode cX5_status 28 = .ok (.iconst (-1), 1) := by decide +kernel
theorem dX5_status_29 : decode cX5_status 29 = .ok (.if_icmp .eq 8, 3) := by decide +kernel
theorem dX5_status_32 : decode cX5_status 32 = .ok (.iload_n 1, 1) := by decide +kernel
theorem dX5_status_33 : decode cX5_status 33 = .ok (.iload_n 3, 1) := by decide +kernel
theorem dX5_status_34 : decode cX5_status 34 = .ok (.if_icmp .ne 12, 3) := by decide +kernel
theorem dX5_status_37 : decode cX5_status 37 = .ok (.aload_n 0, 1) := by decide +kernel
theorem dX5_status_38 : decode cX5_status 38 = .ok (.getfield 19, 3) := by decide +kernel
theorem dX5_status_41 : decode cX5_status 41 = .ok (.iload_n 3, 1) := by decide +kernel
theorem dX5_status_42 : decode cX5_status 42 = .ok (.iaload, 1) := by decide +kernel
theorem dX5_status_43 : decode cX5_status 43 = .ok (.goto 4, 3) := by decide +kernel
theorem dX5_status_46 : decode cX5_status 46 = .ok (.iconst 0, 1) := by decide +kernel
theorem dX5_status_47 : decode cX5_status 47 = .ok (.iadd, 1) := by decide +kernel
theorem dX5_status_48 : decode cX5_status 48 = .ok (.istore_n 2, 1) := by decide +kernel
theorem dX5_status_49 : decode cX5_status 49 = .ok (.iinc 3 1, 3) := by decide +kernel
theorem dX5_status_52 : decode cX5_status 52 = .ok (.goto (-32), 3) := by decide +kernel
theorem dX5_status_55 : decode cX5_status 55 = .ok (.iload_n 2, 1) := by decide +kernel
theorem dX5_status_56 : decode cX5_status 56 = .ok (.ireturn, 1) := by decide +kernel
def j5_status_47 (k20 : (Nat → Int32) → Int32 → Int32 → Int32 → Option (Int32 × (Nat → Int32))) (xfound : Nat → Int32) (v1 : Int32) (v3 : Int32) (t0 : Int32) (t1 : Int32) : Option (Int32 × (Nat → Int32)) :=
  k20 xfound v1 (t0 + t1) (v3 + (1 : Int32))
def j5_status_37 (k20 : (Nat → Int32) → Int32 → Int32 → Int32 → Option (Int32 × (Nat → Int32))) (xfound : Nat → Int32) (v1 : Int32) (v3 : Int32) (t0 : Int32) : Option (Int32 × (Nat → Int32)) :=
  gd (inb v3 7) (
  j5_status_47 k20 xfound v1 v3 t0 (xfound v3.toNatClampNeg))
def l5_status_20  : Nat → (Nat → Int32) → Int32 → Int32 → Int32 → Option (Int32 × (Nat → Int32))
  | 0, _, _, _, _ => none
  | n + 1, xfound, v1, v2, v3 =>
    if (7 : Int32) ≤ v3 then (
      some (v2, xfound))
    else (
      if v1 = (-1 : Int32) then (
        j5_status_37 (l5_status_20 n) xfound v1 v3 v2)
      else (
        if v1 = v3 then (
          j5_status_37 (l5_status_20 n) xfound v1 v3 v2)
        else (
          j5_status_47 (l5_status_20 n) xfound v1 v3 v2 (0 : Int32))))
def f5_status (xfound : Nat → Int32) (v1 : Int32) : Option (Int32 × (Nat → Int32)) :=
  if (f5_in1 v1 (-1 : Int32) (6 : Int32)) = (0 : Int32) then (
    ob2 (f5_no xfound (0 : Int32)) (fun r2 xfound_3 =>
    some (r2, xfound_3)))
  else (
    l5_status_20 1000 xfound v1 (0 : Int32) (0 : Int32))
set_option maxHeartbeats 4000000 in
set_option maxRecDepth 100000 in
theorem b5_status_47 {X : XP} {p : Program} {l : Launch} {e : Env} {s : State} {m : MethodId} {args : Array Value} {below : List Frame} {meth : Method} {c : Code} {D : va_G} {cI cC : ClassId} {ad : Nat → Nat} {A : Nat → Prop} {xs : Nat → Int32} {xkept : Nat → Int32} {xaside : Nat → Int32} {xisK : Int32} {xgone : Int32} {xover : Nat → Int32} {xtape : Nat → Int32} {xtaped : Int32} {xtok : Int32} {xbeg : Int32} {xend : Int32} {xval : Int64} {xwid : Nat → Int32} {xsiz : Nat → Int32} {xcel : Nat → Int32} {xcar : Nat → Int32} {r0 : Int32} {o_xfound : Nat → Int32} (C0 : CX X p s m args meth c cX5_status 4 (some .int) RX5 A) {k20 : (Nat → Int32) → Int32 → Int32 → Int32 → Option (Int32 × (Nat → Int32))} (hk20 : ∀ {xfound : Nat → Int32} {v1 : Int32} {v2 : Int32} {v3 : Int32} {H : Heap} {locs : List Loc} {ls : Array Slot}, GX X D (tyM cI cC) A s (wM cI cC ad xs xkept xaside xisK xfound xgone xover xtape xtaped xtok xbeg xend xval xwid xsiz xcel xcar) H locs → lv_has ls 4 [(0, .ref (ad 0)), (1, .int v1), (2, .int v2), (3, .int v3)] → k20 xfound v1 v2 v3 = some (r0, o_xfound) → W p l e ({ frames := 1, cells := 0, slots := 0, locals := 22 }) s m args below meth c H locs 0 0 (MQ below (QcI D (tyM cI cC) (wM cI cC ad xs xkept xaside xisK o_xfound xgone xover xtape xtaped xtok xbeg xend xval xwid xsiz xcel xcar) A r0) args s 0 0 A) (F0 m 20 ls [])) : ∀ {xfound : Nat → Int32} {v1 : Int32} {v3 : Int32} {t0 : Int32} {t1 : Int32} {H : Heap} {locs : List Loc} {ls : Array Slot}, GX X D (tyM cI cC) A s (wM cI cC ad xs xkept xaside xisK xfound xgone xover xtape xtaped xtok xbeg xend xval xwid xsiz xcel xcar) H locs → lv_has ls 4 [(0, .ref (ad 0)), (1, .int v1), (3, .int v3)] → j5_status_47 k20 xfound v1 v3 t0 t1 = some (r0, o_xfound) → W p l e ({ frames := 1, cells := 0, slots := 0, locals := 22 }) s m args below meth c H locs 0 0 (MQ below (QcI D (tyM cI cC) (wM cI cC ad xs xkept xaside xisK o_xfound xgone xover xtape xtaped xtok xbeg xend xval xwid xsiz xcel xcar) A r0) args s 0 0 A) (F0 m 47 ls [.int t1, .int t0]) := by
  have hx := C0.1
  have hb := C0.2.1
  have hown := C0.2.2.2.2.1
  have hts := C0.2.2.2.2.2.1
  have hX := C0.2.2.2.2.2.2.2.2
  intro xfound v1 v3 t0 t1 H locs ls G hl hf
  unfold j5_status_47 at hf
  refine lv_iadd hx hb dX5_status_47 ?_
  refine lv_istore_n (lv' := [(2, .int (t0 + t1)), (0, .ref (ad 0)), (1, .int v1), (3, .int v3)]) hx hb dX5_status_48 rfl hl (by decide) rfl (fun ls hl => ?_)
  refine lv_iinc (v := (v3 + (1 : Int32))) (lv' := [(3, .int (v3 + (1 : Int32))), (2, .int (t0 + t1)), (0, .ref (ad 0)), (1, .int v1)]) hx hb dX5_status_49 hl (k := 3) rfl rfl (by decide) rfl (fun ls hl => ?_)
  refine lv_goto (tgt := 20) hx hb dX5_status_52 (by decide) ?_
  exact hk20 G (lv_sub hl [2, 3, 1, 0] rfl) hf
set_option maxHeartbeats 4000000 in
set_option maxRecDepth 100000 in
theorem b5_status_37 {X : XP} {p : Program} {l : Launch} {e : Env} {s : State} {m : MethodId} {args : Array Value} {below : List Frame} {meth : Method} {c : Code} {D : va_G} {cI cC : ClassId} {ad : Nat → Nat} {A : Nat → Prop} {xs : Nat → Int32} {xkept : Nat → Int32} {xaside : Nat → Int32} {xisK : Int32} {xgone : Int32} {xover : Nat → Int32} {xtape : Nat → Int32} {xtaped : Int32} {xtok : Int32} {xbeg : Int32} {xend : Int32} {xval : Int64} {xwid : Nat → Int32} {xsiz : Nat → Int32} {xcel : Nat → Int32} {xcar : Nat → Int32} {r0 : Int32} {o_xfound : Nat → Int32} (C0 : CX X p s m args meth c cX5_status 4 (some .int) RX5 A) {k20 : (Nat → Int32) → Int32 → Int32 → Int32 → Option (Int32 × (Nat → Int32))} (hk20 : ∀ {xfound : Nat → Int32} {v1 : Int32} {v2 : Int32} {v3 : Int32} {H : Heap} {locs : List Loc} {ls : Array Slot}, GX X D (tyM cI cC) A s (wM cI cC ad xs xkept xaside xisK xfound xgone xover xtape xtaped xtok xbeg xend xval xwid xsiz xcel xcar) H locs → lv_has ls 4 [(0, .ref (ad 0)), (1, .int v1), (2, .int v2), (3, .int v3)] → k20 xfound v1 v2 v3 = some (r0, o_xfound) → W p l e ({ frames := 1, cells := 0, slots := 0, locals := 22 }) s m args below meth c H locs 0 0 (MQ below (QcI D (tyM cI cC) (wM cI cC ad xs xkept xaside xisK o_xfound xgone xover xtape xtaped xtok xbeg xend xval xwid xsiz xcel xcar) A r0) args s 0 0 A) (F0 m 20 ls [])) : ∀ {xfound : Nat → Int32} {v1 : Int32} {v3 : Int32} {t0 : Int32} {H : Heap} {locs : List Loc} {ls : Array Slot}, GX X D (tyM cI cC) A s (wM cI cC ad xs xkept xaside xisK xfound xgone xover xtape xtaped xtok xbeg xend xval xwid xsiz xcel xcar) H locs → lv_has ls 4 [(0, .ref (ad 0)), (1, .int v1), (3, .int v3)] → j5_status_37 k20 xfound v1 v3 t0 = some (r0, o_xfound) → W p l e ({ frames := 1, cells := 0, slots := 0, locals := 22 }) s m args below meth c H locs 0 0 (MQ below (QcI D (tyM cI cC) (wM cI cC ad xs xkept xaside xisK o_xfound xgone xover xtape xtaped xtok xbeg xend xval xwid xsiz xcel xcar) A r0) args s 0 0 A) (F0 m 37 ls [.int t0]) := by
  have hx := C0.1
  have hb := C0.2.1
  have hown := C0.2.2.2.2.1
  have hts := C0.2.2.2.2.2.1
  have hX := C0.2.2.2.2.2.2.2.2
  intro xfound v1 v3 t0 H locs ls G hl hf
  unfold j5_status_37 at hf
  refine lv_aload_n hx hb dX5_status_37 rfl (lv_at hl 0 rfl) ?_
  refine s_get (C := RX5) (T := TX5) C0 G i_X5 0 4 rfl rfl (by decide) q717 rfl dX5_status_38 ?_
  refine lv_iload_n hx hb dX5_status_41 rfl (lv_at hl 2 rfl) ?_
  obtain ⟨hi8, hf⟩ := gd_s hf
  refine s_iald (k := v3.toNatClampNeg) C0 G 4 0 rfl rfl (vin hi8) rfl dX5_status_42 ?_
  refine lv_goto (tgt := 47) hx hb dX5_status_43 (by decide) ?_
  exact b5_status_47 C0 hk20 G (lv_sub hl [0, 1, 2] rfl) hf
set_option maxHeartbeats 4000000 in
set_option maxRecDepth 100000 in
theorem b5_status_20 {X : XP} {p : Program} {l : Launch} {e : Env} {s : State} {m : MethodId} {args : Array Value} {below : List Frame} {meth : Method} {c : Code} {D : va_G} {cI cC : ClassId} {ad : Nat → Nat} {A : Nat → Prop} {xs : Nat → Int32} {xkept : Nat → Int32} {xaside : Nat → Int32} {xisK : Int32} {xgone : Int32} {xover : Nat → Int32} {xtape : Nat → Int32} {xtaped : Int32} {xtok : Int32} {xbeg : Int32} {xend : Int32} {xval : Int64} {xwid : Nat → Int32} {xsiz : Nat → Int32} {xcel : Nat → Int32} {xcar : Nat → Int32} {r0 : Int32} {o_xfound : Nat → Int32} (C0 : CX X p s m args meth c cX5_status 4 (some .int) RX5 A) : ∀ (n : Nat) {xfound : Nat → Int32} {v1 : Int32} {v2 : Int32} {v3 : Int32} {H : Heap} {locs : List Loc} {ls : Array Slot}, GX X D (tyM cI cC) A s (wM cI cC ad xs xkept xaside xisK xfound xgone xover xtape xtaped xtok xbeg xend xval xwid xsiz xcel xcar) H locs → lv_has ls 4 [(0, .ref (ad 0)), (1, .int v1), (2, .int v2), (3, .int v3)] → l5_status_20  n xfound v1 v2 v3 = some (r0, o_xfound) → W p l e ({ frames := 1, cells := 0, slots := 0, locals := 22 }) s m args below meth c H locs 0 0 (MQ below (QcI D (tyM cI cC) (wM cI cC ad xs xkept xaside xisK o_xfound xgone xover xtape xtaped xtok xbeg xend xval xwid xsiz xcel xcar) A r0) args s 0 0 A) (F0 m 20 ls []) := by
  have hx := C0.1
  have hb := C0.2.1
  have hown := C0.2.2.2.2.1
  have hts := C0.2.2.2.2.2.1
  have hX := C0.2.2.2.2.2.2.2.2
  intro n
  induction n with
  | zero =>
    intro _ _ _ _ _ _ _ G hl hf
    cases hf
  | succ n ih =>
    intro xfound v1 v2 v3 H locs ls G hl hf
    rw [l5_status_20] at hf
    refine lv_iload_n hx hb dX5_status_20 rfl (lv_at hl 3 rfl) ?_
    refine lv_bipush (v := (7 : Int32)) hx hb dX5_status_21 (by decide) ?_
    refine lv_icmp_ge (tgt := 55) hx hb dX5_status_23 (by decide) (fun hc5 => ?_) (fun hc5 => ?_)
    · have hf := itp hc5 hf
      refine lv_iload_n hx hb dX5_status_55 rfl (lv_at hl 2 rfl) ?_
      obtain ⟨rfl, rfl⟩ := inj2 hf
      exact ret_i C0 G dX5_status_56
    · have hf := itn hc5 hf
      refine lv_iload_n hx hb dX5_status_26 rfl (lv_at hl 2 rfl) ?_
      refine lv_iload_n hx hb dX5_status_27 rfl (lv_at hl 1 rfl) ?_
      refine lv_iconst (v := (-1 : Int32)) hx hb dX5_status_28 (by decide) ?_
      refine lv_icmp_eq (tgt := 37) hx hb dX5_status_29 (by decide) (fun hc6 => ?_) (fun hc6 => ?_)
      · have hf := itp hc6 hf
        exact b5_status_37 C0 ih G (lv_sub hl [0, 1, 3] rfl) hf
      · have hf := itn hc6 hf
        refine lv_iload_n hx hb dX5_status_32 rfl (lv_at hl 1 rfl) ?_
        refine lv_iload_n hx hb dX5_status_33 rfl (lv_at hl 3 rfl) ?_
        refine lv_icmp_ne (tgt := 46) hx hb dX5_status_34 (by decide) (fun hc7 => ?_) (fun hc7 => ?_)
        · have hf := itn hc7 hf
          refine lv_iconst (v := (0 : Int32)) hx hb dX5_status_46 (by decide) ?_
          exact b5_status_47 C0 ih G (lv_sub hl [0, 1, 3] rfl) hf
        · have hf := itp hc7 hf
          exact b5_status_37 C0 ih G (lv_sub hl [0, 1, 3] rfl) hf
set_option maxHeartbeats 4000000 in
set_option maxRecDepth 100000 in
theorem b5_status_0 {X : XP} {p : Program} {l : Launch} {e : Env} {s : State} {m : MethodId} {args : Array Value} {below : List Frame} {meth : Method} {c : Code} {D : va_G} {cI cC : ClassId} {ad : Nat → Nat} {A : Nat → Prop} {xs : Nat → Int32} {xkept : Nat → Int32} {xaside : Nat → Int32} {xisK : Int32} {xgone : Int32} {xover : Nat → Int32} {xtape : Nat → Int32} {xtaped : Int32} {xtok : Int32} {xbeg : Int32} {xend : Int32} {xval : Int64} {xwid : Nat → Int32} {xsiz : Nat → Int32} {xcel : Nat → Int32} {xcar : Nat → Int32} {r0 : Int32} {o_xfound : Nat → Int32} (C0 : CX X p s m args meth c cX5_status 4 (some .int) RX5 A) : ∀ {xfound : Nat → Int32} {v1 : Int32} {H : Heap} {locs : List Loc} {ls : Array Slot}, GX X D (tyM cI cC) A s (wM cI cC ad xs xkept xaside xisK xfound xgone xover xtape xtaped xtok xbeg xend xval xwid xsiz xcel xcar) H locs → lv_has ls 4 [(0, .ref (ad 0)), (1, .int v1)] → f5_status xfound v1 = some (r0, o_xfound) → W p l e ({ frames := 1, cells := 0, slots := 0, locals := 22 }) s m args below meth c H locs 0 0 (MQ below (QcI D (tyM cI cC) (wM cI cC ad xs xkept xaside xisK o_xfound xgone xover xtape xtaped xtok xbeg xend xval xwid xsiz xcel xcar) A r0) args s 0 0 A) (F0 m 0 ls []) := by
  have hx := C0.1
  have hb := C0.2.1
  have hown := C0.2.2.2.2.1
  have hts := C0.2.2.2.2.2.1
  have hX := C0.2.2.2.2.2.2.2.2
  intro xfound v1 H locs ls G hl hf
  unfold f5_status at hf
  refine lv_iload_n hx hb dX5_status_0 rfl (lv_at hl 1 rfl) ?_
  refine lv_iconst (v := (-1 : Int32)) hx hb dX5_status_1 (by decide) ?_
  refine lv_bipush (v := (6 : Int32)) hx hb dX5_status_2 (by decide) ?_
  refine go_i C0 G (runS_of (n := 3) (As := [.int v1, .int (-1 : Int32), .int (6 : Int32)]) (rest := []) C0 G (c5_in1 hX rfl) q784 q54 q782 q783 o5_in1 ⟨rfl, rfl⟩ ⟨Nat.le_of_ble_eq_true rfl, Nat.le_of_ble_eq_true rfl⟩ rfl hl.1 rfl (Nat.le_of_ble_eq_true rfl) dX5_status_4) (fun H locs G => ?_)
  refine lv_if_ne (tgt := 16) hx hb dX5_status_7 (by decide) (fun hc1 => ?_) (fun hc1 => ?_)
  · have hf := itn hc1 hf
    refine lv_iconst (v := (0 : Int32)) hx hb dX5_status_16 (by decide) ?_
    refine lv_istore_n (lv' := [(2, .int (0 : Int32)), (0, .ref (ad 0)), (1, .int v1)]) hx hb dX5_status_17 rfl hl (by decide) rfl (fun ls hl => ?_)
    refine lv_iconst (v := (0 : Int32)) hx hb dX5_status_18 (by decide) ?_
    refine lv_istore_n (lv' := [(3, .int (0 : Int32)), (2, .int (0 : Int32)), (0, .ref (ad 0)), (1, .int v1)]) hx hb dX5_status_19 rfl hl (by decide) rfl (fun ls hl => ?_)
    exact b5_status_20 C0  1000 G (lv_sub hl [2, 3, 1, 0] rfl) hf
  · have hf := itp hc1 hf
    refine lv_aload_n hx hb dX5_status_10 rfl (lv_at hl 0 rfl) ?_
    refine lv_iconst (v := (0 : Int32)) hx hb dX5_status_11 (by decide) ?_
    obtain ⟨r2, xfound_3, hc4, hf⟩ := ob2_s hf
    refine go_i C0 G (runV_of (n := 1) (q0 := 0) (As := [.int (0 : Int32)]) (rest := []) C0 G (c5_no hX hc4) q788 q54 q785 q787 q9 o5_no ⟨rfl, rfl⟩ ⟨Nat.le_of_ble_eq_true rfl, Nat.le_of_ble_eq_true rfl⟩ rfl rfl rfl hl.1 rfl (Nat.le_of_ble_eq_true rfl) dX5_status_12) (fun H locs G => ?_)
    obtain ⟨rfl, rfl⟩ := inj2 hf
    exact ret_i C0 G dX5_status_15
theorem o5_status : okName yX5_status 1 := ⟨by decide, by decide, by decide +kernel⟩
set_option maxHeartbeats 4000000 in
set_option maxRecDepth 100000 in
theorem c5_status {X : XP} (hX : XT X) {l : Launch} {D : va_G} {cI cC : ClassId} {ad : Nat → Nat} {sz : Nat} {xs : Nat → Int32} {xkept : Nat → Int32} {xaside : Nat → Int32} {xisK : Int32} {xfound : Nat → Int32} {xgone : Int32} {xover : Nat → Int32} {xtape : Nat → Int32} {xtaped : Int32} {xtok : Int32} {xbeg : Int32} {xend : Int32} {xval : Int64} {xwid : Nat → Int32} {xsiz : Nat → Int32} {xcel : Nat → Int32} {xcar : Nat → Int32} {v1 : Int32} {r0 : Int32} {o_xfound : Nat → Int32} (hf : f5_status xfound v1 = some (r0, o_xfound)) : Met l yX5_status (wU yX5_status cX5_status 4 (some .int)) ({ frames := 1, cells := 0, slots := 0, locals := 22 }) (va_Pc [.ref (ad 0), .int v1] (PreW X D (tyM cI cC) (wM cI cC ad xs xkept xaside xisK xfound xgone xover xtape xtaped xtok xbeg xend xval xwid xsiz xcel xcar) sz)) (QcI D (tyM cI cC) (wM cI cC ad xs xkept xaside xisK o_xfound xgone xover xtape xtaped xtok xbeg xend xval xwid xsiz xcel xcar) (va_A (wM cI cC ad xs xkept xaside xisK xfound xgone xover xtape xtaped xtok xbeg xend xval xwid xsiz xcel xcar) sz) r0) 0 0 (va_A (wM cI cC ad xs xkept xaside xisK xfound xgone xover xtape xtaped xtok xbeg xend xval xwid xsiz xcel xcar) sz) := by
  refine startW hX (own := RX5) (by decide) rfl (Nat.le_of_ble_eq_true rfl) (fun p e s m args below meth c ls C0 G hl => ?_)
  exact b5_status_0 C0 G hl hf
