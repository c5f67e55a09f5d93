/-! 5_readsVisitor -/
theorem dX5_readsVisitor_0 : decode cX5_readsVisitor 0 = .ok (.aload_n 0, 1) := by decide +kernel
theorem dX5_readsVisitor_1 : decode cX5_readsVisitor 1 = .ok (.getfield 9, 3) := by decide +kernel
theorem dX5_readsVisitor_4 : decode cX5_readsVisitor 4 = .ok (.iconst 1, 1) := by decide +kernel
theorem dX5_readsVisitor_5 : decode cX5_readsVisitor 5 = .ok (.iaload, 1) := by decide +kernel
theorem dX5_readsVisitor_6 : decode cX5_readsVisitor 6 = .ok (.bipush 8, 2) := by decide +kernel
theorem dX5_readsVisitor_8 : decode cX5_readsVisitor 8 = .ok (.if_icmp .ne 5, 3) := by decide +kernel
theorem dX5_readsVisitor_11 : decode cX5_readsVisitor 11 = .ok (.iconst 0, 1) := by decide +kernel
theorem dX5_readsVisitor_12 : decode cX5_readsVisitor 12 = .ok (.ireturn, 1) := by decide +kernel
theorem dX5_readsVisitor_13 : decode cX5_readsVisitor 13 = .ok (.aload_n 0, 1) := by decide +kernel
theorem dX5_readsVisitor_14 : decode cX5_readsVisitor 14 = .ok (.getfield 9, 3) := by decide +kernel
theorem dX5_readsVisitor_17 : decode cX5_readsVisitor 17 = .ok (.iconst 1, 1) := by decide +kernel
theorem dX5_readsVisitor_18 : decode cX5_readsVisitor 18 = .ok (.iaload, 1) := by decide +kernel
theorem dX5_readsVisitor_19 : decode cX5_readsVisitor 19 = .ok (.istore_n 2, 1) := by decide +kernel
theorem dX5_readsVisitor_20 : decode cX5_readsVisitor 20 = .ok (.aload_n 0, 1) := by decide +kernel
theorem dX5_readsVisitor_21 : decode cX5_readsVisitor 21 = .ok (.iload_n 1, 1) := by decide +kernel
theorem dX5_readsVisitor_22 : decode cX5_readsVisitor 22 = .ok (.invokevirtual 108, 3) := by decide +kernel
theorem dX5_readsVisitor_25 : decode cX5_readsVisitor 25 = .ok (.aload_n 0, 1) := by decide +kernel
theorem dX5_readsVisitor_26 : decode cX5_readsVisitor 26 = .ok (.invokevirtual 230, 3) := by decide +kernel
theorem dX5_readsVisitor_29 : decode cX5_readsVisitor 29 = .ok (.iconst 0, 1) := by decide +kernel
theorem dX5_readsVisitor_30 : decode cX5_readsVisitor 30 = .ok (.istore_n 3, 1) := by decide +kernel
theorem dX5_readsVisitor_31 : decode cX5_readsVisitor 31 = .ok (.iload_n 3, 1) := by decide +kernel
theorem dX5_readsVisitor_32 : decode cX5_readsVisitor 32 = .ok (.iconst 4, 1) := by decide +kernel
theorem dX5_readsVisitor_33 : decode cX5_readsVisitor 33 = .ok (.if_icmp .ge 60, 3) := by decide +kernel
theorem dX5_readsVisitor_36 : decode cX5_readsVisitor 36 = .ok (.aload_n 0, 1) := by decide +kernel
theorem dX5_readsVisitor_37 : decode cX5_readsVisitor 37 = .ok (.aload_n 0, 1) := by decide +kernel
theorem dX5_readsVisitor_38 : decode cX5_readsVisitor 38 = .ok (.getfield 32, 3) := by decide +kernel
theorem dX5_readsVisitor_41 : decode cX5_readsVisitor 41 = .ok (.invokevirtual 233, 3) := by decide +kernel
theorem dX5_readsVisitor_44 : decode cX5_readsVisitor 44 = .ok (.iload_n 3, 1) := by decide +kernel
theorem dX5_readsVisitor_45 : decode cX5_readsVisitor 45 = .ok (.if_icmp .ne 42, 3) := by decide +kernel
theorem dX5_readsVisitor_48 : decode cX5_readsVisitor 48 = .ok (.aload_n 0, 1) := by decide +kernel
theorem dX5_readsVisitor_49 : decode cX5_readsVisitor 49 = .ok (.invokevirtual 230, 3) := by decide +kernel
theorem dX5_readsVisitor_52 : decode cX5_readsVisitor 52 = .ok (.aload_n 0, 1) := by decide +kernel
theorem dX5_readsVisitor_53 : decode cX5_readsVisitor 53 = .ok (.iconst 1, 1) := by decide +kernel
theorem dX5_readsVisitor_54 : decode cX5_readsVisitor 54 = .ok (.iload_n 3, 1) := by decide +kernel
theorem dX5_readsVisitor_55 : decode cX5_readsVisitor 55 = .ok (.iadd, 1) := by decide +kernel
theorem dX5_readsVisitor_56 : decode cX5_readsVisitor 56 = .ok (.invokestatic 114, 3) := by decide +kernel
theorem dX5_readsVisitor_59 : decode cX5_readsVisitor 59 = .ok (.iconst 1, 1) := by decide +kernel
theorem dX5_readsVisitor_60 : decode cX5_readsVisitor 60 = .ok (.iload_n 3, 1) := by decide +kernel
theorem dX5_readsVisitor_61 : decode cX5_readsVisitor 61 = .ok (.iadd, 1) := by decide +kernel
theorem dX5_readsVisitor_62 : decode cX5_readsVisitor 62 = .ok (.invokestatic 117, 3) := by decide +kernel
theorem dX5_readsVisitor_65 : decode cX5_readsVisitor 65 = .ok (.invokevirtual 237, 3) := by decide +kernel
theorem dX5_readsVisitor_68 : decode cX5_readsVisitor 68 = .ok (.istore 4, 2) := by decide +kernel
theorem dX5_readsVisitor_70 : decode cX5_readsVisitor 70 = .ok (.iload 4, 2) := by decide +kernel
theorem dX5_readsVisitor_72 : decode cX5_readsVisitor 72 = .ok (.ifCond .ge 5, 3) := by decide +kernel
theorem dX5_readsVisitor_75 : decode cX5_readsVisitor 75 = .ok (.iconst 0, 1) := by decide +kernel
theorem dX5_readsVisitor_76 : decode cX5_readsVisitor 76 = .ok (.ireturn, 1) := by decide +kernel
theorem dX5_readsVisitor_77 : decode cX5_readsVisitor 77 = .ok (.aload_n 0, 1) := by decide +kernel
theorem dX5_readsVisitor_78 : decode cX5_readsVisitor 78 = .ok (.iload_n 2, 1) := by decide +kernel
theorem dX5_readsVisitor_79 : decode cX5_readsVisitor 79 = .ok (.iconst 1, 1) := by decide +kernel
theorem dX5_readsVisitor_80 : decode cX5_readsVisitor 80 = .ok (.iload_n 3, 1) := by decide +kernel
theorem dX5_readsVisitor_81 : decode cX5_readsVisitor 81 = .ok (.iadd, 1) := by decide +kernel
theorem dX5_readsVisitor_82 : decode cX5_readsVisitor 82 = .ok (.iload 4, 2) := by decide +kernel
theorem dX5_readsVisitor_84 : decode cX5_readsVisitor 84 = .ok (.invokevirtual 83, 3) := by decide +kernel
theorem dX5_readsVisitor_87 : decode cX5_readsVisitor 87 = .ok (.iinc 3 1, 3) := by decide +kernel
theorem dX5_readsVisitor_90 : decode cX5_readsVisitor 90 = .ok (.goto (-59), 3) := by decide +kernel
theorem dX5_readsVisitor_93 : decode cX5_readsVisitor 93 = .ok (.iconst 1, 1) := by decide +kernel
theorem dX5_readsVisitor_94 : decode cX5_readsVisitor 94 = .ok (.ireturn, 1) := by decide +kernel
def j5_readsVisitor_87 (k31 : (Nat → Int32) → (Nat → Int32) → Int32 → Int32 → Int32 → Int32 → Int64 → Int32 → Int32 → Option (Int32 × (Nat → Int32) × Int32 × Int32 × Int32 × Int64)) (xs : Nat → Int32) (xtape : Nat → Int32) (xtaped : Int32) (xtok : Int32) (xbeg : Int32) (xend : Int32) (xval : Int64) (v2 : Int32) (v3 : Int32) : Option (Int32 × (Nat → Int32) × Int32 × Int32 × Int32 × Int64) :=
  k31 xs xtape xtaped xtok xbeg xend xval v2 (v3 + (1 : Int32))
def l5_readsVisitor_31  : Nat → (Nat → Int32) → (Nat → Int32) → Int32 → Int32 → Int32 → Int32 → Int64 → Int32 → Int32 → Option (Int32 × (Nat → Int32) × Int32 × Int32 × Int32 × Int64)
  | 0, _, _, _, _, _, _, _, _, _ => none
  | n + 1, xs, xtape, xtaped, xtok, xbeg, xend, xval, v2, v3 =>
    if (4 : Int32) ≤ v3 then (
      some ((1 : Int32), xs, xtok, xbeg, xend, xval))
    else (
      ob1 (f5_wordOf_8 xtok xval) (fun r10 =>
      if r10 = v3 then (
        ob4 (f5_nextToken xtape xtaped xtok xbeg xend xval) (fun xtok_13 xbeg_14 xend_15 xval_16 =>
        ob5 (f5_takesNumber xtape xtaped xtok_13 xbeg_14 xend_15 xval_16 (f5_leastOf ((1 : Int32) + v3)) (f5_mostOf ((1 : Int32) + v3))) (fun r18 xtok_19 xbeg_20 xend_21 xval_22 =>
        if (0 : Int32) ≤ r18 then (
          ob1 (f5_puts xs v2 ((1 : Int32) + v3) r18) (fun xs_25 =>
          j5_readsVisitor_87 (l5_readsVisitor_31 n) xs_25 xtape xtaped xtok_19 xbeg_20 xend_21 xval_22 v2 v3))
        else (
          some ((0 : Int32), xs, xtok_19, xbeg_20, xend_21, xval_22)))))
      else (
        j5_readsVisitor_87 (l5_readsVisitor_31 n) xs xtape xtaped xtok xbeg xend xval v2 v3)))
def f5_readsVisitor (xs : Nat → Int32) (xtape : Nat → Int32) (xtaped : Int32) (xtok : Int32) (xbeg : Int32) (xend : Int32) (xval : Int64) (v1 : Int32) : Option (Int32 × (Nat → Int32) × Int32 × Int32 × Int32 × Int64) :=
  if (xs 1) = (8 : Int32) then (
    some ((0 : Int32), xs, xtok, xbeg, xend, xval))
  else (
    ob1 (f5_adds xs v1) (fun xs_2 =>
    ob4 (f5_nextToken xtape xtaped xtok xbeg xend xval) (fun xtok_4 xbeg_5 xend_6 xval_7 =>
    l5_readsVisitor_31 1000 xs_2 xtape xtaped xtok_4 xbeg_5 xend_6 xval_7 (xs 1) (0 : Int32))))
set_option maxHeartbeats 4000000 in
set_option maxRecDepth 100000 in
theorem b5_readsVisitor_87 {X : XP} {p : Program} {l : Launch} {e : Env} {s : State} {m : MethodId} {args : Array Value} {below : List Frame} {meth : Method} {c : Code} {D : va_G} {cI cC : ClassId} {ad : Nat → Nat} {A : Nat → Prop} {xkept : Nat → Int32} {xaside : Nat → Int32} {xisK : Int32} {xfound : Nat → Int32} {xgone : Int32} {xover : Nat → Int32} {xtape : Nat → Int32} {xtaped : Int32} {xwid : Nat → Int32} {xsiz : Nat → Int32} {xcel : Nat → Int32} {xcar : Nat → Int32} {r0 : Int32} {o_xs : Nat → Int32} {o_xtok : Int32} {o_xbeg : Int32} {o_xend : Int32} {o_xval : Int64} (C0 : CX X p s m args meth c cX5_readsVisitor 5 (some .boolean) RX5 A) {k31 : (Nat → Int32) → (Nat → Int32) → Int32 → Int32 → Int32 → Int32 → Int64 → Int32 → Int32 → Option (Int32 × (Nat → Int32) × Int32 × Int32 × Int32 × Int64)} (hk31 : ∀ {xs : Nat → Int32} {xtok : Int32} {xbeg : Int32} {xend : Int32} {xval : Int64} {v2 : Int32} {v3 : Int32} {H : Heap} {locs : List Loc} {ls : Array Slot}, GX X D (tyM cI cC) A s (wM cI cC ad xs xkept xaside xisK xfound xgone xover xtape xtaped xtok xbeg xend xval xwid xsiz xcel xcar) H locs → lv_has ls 5 [(0, .ref (ad 0)), (2, .int v2), (3, .int v3)] → k31 xs xtape xtaped xtok xbeg xend xval v2 v3 = some (r0, o_xs, o_xtok, o_xbeg, o_xend, o_xval) → W p l e ({ frames := 4, cells := 0, slots := 0, locals := 85 }) s m args below meth c H locs 0 0 (MQ below (QcI D (tyM cI cC) (wM cI cC ad o_xs xkept xaside xisK xfound xgone xover xtape xtaped o_xtok o_xbeg o_xend o_xval xwid xsiz xcel xcar) A r0) args s 0 0 A) (F0 m 31 ls [])) : ∀ {xs : Nat → Int32} {xtok : Int32} {xbeg : Int32} {xend : Int32} {xval : Int64} {v2 : Int32} {v3 : Int32} {H : Heap} {locs : List Loc} {ls : Array Slot}, GX X D (tyM cI cC) A s (wM cI cC ad xs xkept xaside xisK xfound xgone xover xtape xtaped xtok xbeg xend xval xwid xsiz xcel xcar) H locs → lv_has ls 5 [(0, .ref (ad 0)), (2, .int v2), (3, .int v3)] → j5_readsVisitor_87 k31 xs xtape xtaped xtok xbeg xend xval v2 v3 = some (r0, o_xs, o_xtok, o_xbeg, o_xend, o_xval) → W p l e ({ frames := 4, cells := 0, slots := 0, locals := 85 }) s m args below meth c H locs 0 0 (MQ below (QcI D (tyM cI cC) (wM cI cC ad o_xs xkept xaside xisK xfound xgone xover xtape xtaped o_xtok o_xbeg o_xend o_xval xwid xsiz xcel xcar) A r0) args s 0 0 A) (F0 m 87 ls []) := by
  have hx := C0.1
  have hb := C0.2.1
  have hown := C0.2.2.2.2.1
  have hts := C0.2.2.2.2.2.1
  have hX := C0.2.2.2.2.2.2.2.2
  intro xs xtok xbeg xend xval v2 v3 H locs ls G hl hf
  unfold j5_readsVisitor_87 at hf
  refine lv_iinc (v := (v3 + (1 : Int32))) (lv' := [(3, .int (v3 + (1 : Int32))), (0, .ref (ad 0)), (2, .int v2)]) hx hb dX5_readsVisitor_87 hl (k := 2) rfl rfl (by decide) rfl (fun ls hl => ?_)
  refine lv_goto (tgt := 31) hx hb dX5_readsVisitor_90 (by decide) ?_
  exact hk31 G (lv_sub hl [1, 2, 0] rfl) hf
set_option maxHeartbeats 4000000 in
set_option maxRecDepth 100000 in
theorem b5_readsVisitor_31 {X : XP} {p : Program} {l : Launch} {e : Env} {s : State} {m : MethodId} {args : Array Value} {below : List Frame} {meth : Method} {c : Code} {D : va_G} {cI cC : ClassId} {ad : Nat → Nat} {A : Nat → Prop} {xkept : Nat → Int32} {xaside : Nat → Int32} {xisK : Int32} {xfound : Nat → Int32} {xgone : Int32} {xover : Nat → Int32} {xtape : Nat → Int32} {xtaped : Int32} {xwid : Nat → Int32} {xsiz : Nat → Int32} {xcel : Nat → Int32} {xcar : Nat → Int32} {r0 : Int32} {o_xs : Nat → Int32} {o_xtok : Int32} {o_xbeg : Int32} {o_xend : Int32} {o_xval : Int64} (C0 : CX X p s m args meth c cX5_readsVisitor 5 (some .boolean) RX5 A) : ∀ (n : Nat) {xs : Nat → Int32} {xtok : Int32} {xbeg : Int32} {xend : Int32} {xval : Int64} {v2 : Int32} {v3 : Int32} {H : Heap} {locs : List Loc} {ls : Array Slot}, GX X D (tyM cI cC) A s (wM cI cC ad xs xkept xaside xisK xfound xgone xover xtape xtaped xtok xbeg xend xval xwid xsiz xcel xcar) H locs → lv_has ls 5 [(0, .ref (ad 0)), (2, .int v2), (3, .int v3)] → l5_readsVisitor_31  n xs xtape xtaped xtok xbeg xend xval v2 v3 = some (r0, o_xs, o_xtok, o_xbeg, o_xend, o_xval) → W p l e ({ frames := 4, cells := 0, slots := 0, locals := 85 }) s m args below meth c H locs 0 0 (MQ below (QcI D (tyM cI cC) (wM cI cC ad o_xs xkept xaside xisK xfound xgone xover xtape xtaped o_xtok o_xbeg o_xend o_xval xwid xsiz xcel xcar) A r0) args s 0 0 A) (F0 m 31 ls []) := by
  have hx := C0.1
  have hb := C0.2.1
  have hown := C0.2.2.2.2.1
  have hts := C0.2.2.2.2.2.1
  have hX := C0.2.2.2.2.2.2.2.2
  intro n
  induction n with
  | zero =>
    intro _ _ _ _ _ _ _ _ _ _ G hl hf
    cases hf
  | succ n ih =>
    intro xs xtok xbeg xend xval v2 v3 H locs ls G hl hf
    rw [l5_readsVisitor_31] at hf
    refine lv_iload_n hx hb dX5_readsVisitor_31 rfl (lv_at hl 2 rfl) ?_
    refine lv_iconst (v := (4 : Int32)) hx hb dX5_readsVisitor_32 (by decide) ?_
    refine lv_icmp_ge (tgt := 93) hx hb dX5_readsVisitor_33 (by decide) (fun hc9 => ?_) (fun hc9 => ?_)
    · have hf := itp hc9 hf
      refine lv_iconst (v := (1 : Int32)) hx hb dX5_readsVisitor_93 (by decide) ?_
      obtain ⟨rfl, rfl, rfl, rfl, rfl, rfl⟩ := inj6 hf
      exact ret_z C0 G rfl dX5_readsVisitor_94
    · have hf := itn hc9 hf
      refine lv_aload_n hx hb dX5_readsVisitor_36 rfl (lv_at hl 0 rfl) ?_
      refine lv_aload_n hx hb dX5_readsVisitor_37 rfl (lv_at hl 0 rfl) ?_
      refine s_get (C := RX5) (T := TX5) C0 G i_X5 0 14 rfl rfl (by decide) q727 rfl dX5_readsVisitor_38 ?_
      obtain ⟨r10, hc11, hf⟩ := ob1_s hf
      refine go_i C0 G (runV_of (n := 1) (q0 := 0) (As := [.ref (ad 8)]) (rest := []) C0 G (c5_wordOf_8 hX hc11) q1078 q54 q1075 q1077 q45 o5_wordOf_8 ⟨rfl, rfl⟩ ⟨Nat.le_of_ble_eq_true rfl, Nat.le_of_ble_eq_true rfl⟩ rfl rfl rfl hl.1 rfl (Nat.le_of_ble_eq_true rfl) dX5_readsVisitor_41) (fun H locs G => ?_)
      refine lv_iload_n hx hb dX5_readsVisitor_44 rfl (lv_at hl 2 rfl) ?_
      refine lv_icmp_ne (tgt := 87) hx hb dX5_readsVisitor_45 (by decide) (fun hc12 => ?_) (fun hc12 => ?_)
      · have hf := itn hc12 hf
        exact b5_readsVisitor_87 C0 ih G (lv_sub hl [0, 1, 2] rfl) hf
      · have hf := itp hc12 hf
        refine lv_aload_n hx hb dX5_readsVisitor_48 rfl (lv_at hl 0 rfl) ?_
        obtain ⟨xtok_13, xbeg_14, xend_15, xval_16, hc17, hf⟩ := ob4_s hf
        refine go_v C0 G (runV_of (n := 0) (q0 := 0) (As := []) (rest := []) C0 G (c5_nextToken hX hc17) q1058 q54 q1055 q1057 q43 o5_nextToken ⟨rfl, rfl⟩ ⟨Nat.le_of_ble_eq_true rfl, Nat.le_of_ble_eq_true rfl⟩ rfl rfl rfl hl.1 rfl (Nat.le_of_ble_eq_true rfl) dX5_readsVisitor_49) (fun H locs G => ?_)
        refine lv_aload_n hx hb dX5_readsVisitor_52 rfl (lv_at hl 0 rfl) ?_
        refine lv_iconst (v := (1 : Int32)) hx hb dX5_readsVisitor_53 (by decide) ?_
        refine lv_iload_n hx hb dX5_readsVisitor_54 rfl (lv_at hl 2 rfl) ?_
        refine lv_iadd hx hb dX5_readsVisitor_55 ?_
        refine go_i C0 G (runS_of (n := 1) (As := [.int ((1 : Int32) + v3)]) (rest := [.ref (ad 0)]) C0 G (c5_leastOf hX rfl) q847 q54 q845 q846 o5_leastOf ⟨rfl, rfl⟩ ⟨Nat.le_of_ble_eq_true rfl, Nat.le_of_ble_eq_true rfl⟩ rfl hl.1 rfl (Nat.le_of_ble_eq_true rfl) dX5_readsVisitor_56) (fun H locs G => ?_)
        refine lv_iconst (v := (1 : Int32)) hx hb dX5_readsVisitor_59 (by decide) ?_
        refine lv_iload_n hx hb dX5_readsVisitor_60 rfl (lv_at hl 2 rfl) ?_
        refine lv_iadd hx hb dX5_readsVisitor_61 ?_
        refine go_i C0 G (runS_of (n := 1) (As := [.int ((1 : Int32) + v3)]) (rest := [.int (f5_leastOf ((1 : Int32) + v3)), .ref (ad 0)]) C0 G (c5_mostOf hX rfl) q850 q54 q848 q849 o5_mostOf ⟨rfl, rfl⟩ ⟨Nat.le_of_ble_eq_true rfl, Nat.le_of_ble_eq_true rfl⟩ rfl hl.1 rfl (Nat.le_of_ble_eq_true rfl) dX5_readsVisitor_62) (fun H locs G => ?_)
        obtain ⟨r18, xtok_19, xbeg_20, xend_21, xval_22, hc23, hf⟩ := ob5_s hf
        refine go_i C0 G (runV_of (n := 2) (q0 := 0) (As := [.int (f5_leastOf ((1 : Int32) + v3)), .int (f5_mostOf ((1 : Int32) + v3))]) (rest := []) C0 G (c5_takesNumber hX hc23) q1086 q54 q1083 q1085 q47 o5_takesNumber ⟨rfl, rfl⟩ ⟨Nat.le_of_ble_eq_true rfl, Nat.le_of_ble_eq_true rfl⟩ rfl rfl rfl hl.1 rfl (Nat.le_of_ble_eq_true rfl) dX5_readsVisitor_65) (fun H locs G => ?_)
        refine lv_istore (lv' := [(4, .int r18), (0, .ref (ad 0)), (2, .int v2), (3, .int v3)]) hx hb dX5_readsVisitor_68 hl (by decide) rfl (fun ls hl => ?_)
        refine lv_iload hx hb dX5_readsVisitor_70 (lv_at hl 0 rfl) ?_
        refine lv_if_ge (tgt := 77) hx hb dX5_readsVisitor_72 (by decide) (fun hc24 => ?_) (fun hc24 => ?_)
        · have hf := itp hc24 hf
          refine lv_aload_n hx hb dX5_readsVisitor_77 rfl (lv_at hl 1 rfl) ?_
          refine lv_iload_n hx hb dX5_readsVisitor_78 rfl (lv_at hl 2 rfl) ?_
          refine lv_iconst (v := (1 : Int32)) hx hb dX5_readsVisitor_79 (by decide) ?_
          refine lv_iload_n hx hb dX5_readsVisitor_80 rfl (lv_at hl 3 rfl) ?_
          refine lv_iadd hx hb dX5_readsVisitor_81 ?_
          refine lv_iload hx hb dX5_readsVisitor_82 (lv_at hl 0 rfl) ?_
          obtain ⟨xs_25, hc26, hf⟩ := ob1_s hf
          refine go_v C0 G (runV_of (n := 3) (q0 := 0) (As := [.int v2, .int ((1 : Int32) + v3), .int r18]) (rest := []) C0 G (c5_puts hX hc26) q817 q54 q814 q816 q13 o5_puts ⟨rfl, rfl⟩ ⟨Nat.le_of_ble_eq_true rfl, Nat.le_of_ble_eq_true rfl⟩ rfl rfl rfl hl.1 rfl (Nat.le_of_ble_eq_true rfl) dX5_readsVisitor_84) (fun H locs G => ?_)
          exact b5_readsVisitor_87 C0 ih G (lv_sub hl [1, 2, 3] rfl) hf
        · have hf := itn hc24 hf
          refine lv_iconst (v := (0 : Int32)) hx hb dX5_readsVisitor_75 (by decide) ?_
          obtain ⟨rfl, rfl, rfl, rfl, rfl, rfl⟩ := inj6 hf
          exact ret_z C0 G rfl dX5_readsVisitor_76
set_option maxHeartbeats 4000000 in
set_option maxRecDepth 100000 in
theorem b5_readsVisitor_0 {X : XP} {p : Program} {l : Launch} {e : Env} {s : State} {m : MethodId} {args : Array Value} {below : List Frame} {meth : Method} {c : Code} {D : va_G} {cI cC : ClassId} {ad : Nat → Nat} {A : Nat → Prop} {xkept : Nat → Int32} {xaside : Nat → Int32} {xisK : Int32} {xfound : Nat → Int32} {xgone : Int32} {xover : Nat → Int32} {xtape : Nat → Int32} {xtaped : Int32} {xwid : Nat → Int32} {xsiz : Nat → Int32} {xcel : Nat → Int32} {xcar : Nat → Int32} {r0 : Int32} {o_xs : Nat → Int32} {o_xtok : Int32} {o_xbeg : Int32} {o_xend : Int32} {o_xval : Int64} (C0 : CX X p s m args meth c cX5_readsVisitor 5 (some .boolean) RX5 A) : ∀ {xs : Nat → Int32} {xtok : Int32} {xbeg : Int32} {xend : Int32} {xval : Int64} {v1 : Int32} {H : Heap} {locs : List Loc} {ls : Array Slot}, GX X D (tyM cI cC) A s (wM cI cC ad xs xkept xaside xisK xfound xgone xover xtape xtaped xtok xbeg xend xval xwid xsiz xcel xcar) H locs → lv_has ls 5 [(0, .ref (ad 0)), (1, .int v1)] → f5_readsVisitor xs xtape xtaped xtok xbeg xend xval v1 = some (r0, o_xs, o_xtok, o_xbeg, o_xend, o_xval) → W p l e ({ frames := 4, cells := 0, slots := 0, locals := 85 }) s m args below meth c H locs 0 0 (MQ below (QcI D (tyM cI cC) (wM cI cC ad o_xs xkept xaside xisK xfound xgone xover xtape xtaped o_xtok o_xbeg o_xend o_xval xwid xsiz xcel xcar) A r0) args s 0 0 A) (F0 m 0 ls []) := by
  have hx := C0.1
  have hb := C0.2.1
  have hown := C0.2.2.2.2.1
  have hts := C0.2.2.2.2.2.1
  have hX := C0.2.2.2.2.2.2.2.2
  intro xs xtok xbeg xend xval v1 H locs ls G hl hf
  unfold f5_readsVisitor at hf
  refine lv_aload_n hx hb dX5_readsVisitor_0 rfl (lv_at hl 0 rfl) ?_
  refine s_get (C := RX5) (T := TX5) C0 G i_X5 0 0 rfl rfl (by decide) q713 rfl dX5_readsVisitor_1 ?_
  refine lv_iconst (v := (1 : Int32)) hx hb dX5_readsVisitor_4 (by decide) ?_
  refine s_iald (k := 1) C0 G 1 0 rfl rfl (vin (by decide)) (by decide) dX5_readsVisitor_5 ?_
  refine lv_bipush (v := (8 : Int32)) hx hb dX5_readsVisitor_6 (by decide) ?_
  refine lv_icmp_ne (tgt := 13) hx hb dX5_readsVisitor_8 (by decide) (fun hc1 => ?_) (fun hc1 => ?_)
  · have hf := itn hc1 hf
    refine lv_aload_n hx hb dX5_readsVisitor_13 rfl (lv_at hl 0 rfl) ?_
    refine s_get (C := RX5) (T := TX5) C0 G i_X5 0 0 rfl rfl (by decide) q713 rfl dX5_readsVisitor_14 ?_
    refine lv_iconst (v := (1 : Int32)) hx hb dX5_readsVisitor_17 (by decide) ?_
    refine s_iald (k := 1) C0 G 1 0 rfl rfl (vin (by decide)) (by decide) dX5_readsVisitor_18 ?_
    refine lv_istore_n (lv' := [(2, .int (xs 1)), (0, .ref (ad 0)), (1, .int v1)]) hx hb dX5_readsVisitor_19 rfl hl (by decide) rfl (fun ls hl => ?_)
    refine lv_aload_n hx hb dX5_readsVisitor_20 rfl (lv_at hl 1 rfl) ?_
    refine lv_iload_n hx hb dX5_readsVisitor_21 rfl (lv_at hl 2 rfl) ?_
    obtain ⟨xs_2, hc3, hf⟩ := ob1_s hf
    refine go_v C0 G (runV_of (n := 1) (q0 := 0) (As := [.int v1]) (rest := []) C0 G (c5_adds hX hc3) q813 q54 q810 q812 q12 o5_adds ⟨rfl, rfl⟩ ⟨Nat.le_of_ble_eq_true rfl, Nat.le_of_ble_eq_true rfl⟩ rfl rfl rfl hl.1 rfl (Nat.le_of_ble_eq_true rfl) dX5_readsVisitor_22) (fun H locs G => ?_)
    refine lv_aload_n hx hb dX5_readsVisitor_25 rfl (lv_at hl 1 rfl) ?_
    obtain ⟨xtok_4, xbeg_5, xend_6, xval_7, hc8, hf⟩ := ob4_s hf
    refine go_v C0 G (runV_of (n := 0) (q0 := 0) (As := []) (rest := []) C0 G (c5_nextToken hX hc8) q1058 q54 q1055 q1057 q43 o5_nextToken ⟨rfl, rfl⟩ ⟨Nat.le_of_ble_eq_true rfl, Nat.le_of_ble_eq_true rfl⟩ rfl rfl rfl hl.1 rfl (Nat.le_of_ble_eq_true rfl) dX5_readsVisitor_26) (fun H locs G => ?_)
    refine lv_iconst (v := (0 : Int32)) hx hb dX5_readsVisitor_29 (by decide) ?_
    refine lv_istore_n (lv' := [(3, .int (0 : Int32)), (2, .int (xs 1)), (0, .ref (ad 0)), (1, .int v1)]) hx hb dX5_readsVisitor_30 rfl hl (by decide) rfl (fun ls hl => ?_)
    exact b5_readsVisitor_31 C0  1000 G (lv_sub hl [2, 1, 0] rfl) hf
  · have hf := itp hc1 hf
    refine lv_iconst (v := (0 : Int32)) hx hb dX5_readsVisitor_11 (by decide) ?_
    obtain ⟨rfl, rfl, rfl, rfl, rfl, rfl⟩ := inj6 hf
    exact ret_z C0 G rfl dX5_readsVisitor_12
theorem o5_readsVisitor : okName yX5_readsVisitor 1 := ⟨by decide, by decide, by decide +kernel⟩
set_option maxHeartbeats 4000000 in
set_option maxRecDepth 100000 in
theorem c5_readsVisitor {X : XP} (hX : XT X) {l : Launch} {D : va_G} {cI cC : ClassId} {ad : Nat → Nat} {sz : Nat} {xs : Nat → Int32} {xkept : Nat → Int32} {xaside : Nat → Int32} {xisK : Int32} {xfound : Nat → Int32} {xgone : Int32} {xover : Nat → Int32} {xtape : Nat → Int32} {xtaped : Int32} {xtok : Int32} {xbeg : Int32} {xend : Int32} {xval : Int64} {xwid : Nat → Int32} {xsiz : Nat → Int32} {xcel : Nat → Int32} {xcar : Nat → Int32} {v1 : Int32} {r0 : Int32} {o_xs : Nat → Int32} {o_xtok : Int32} {o_xbeg : Int32} {o_xend : Int32} {o_xval : Int64} (hf : f5_readsVisitor xs xtape xtaped xtok xbeg xend xval v1 = some (r0, o_xs, o_xtok, o_xbeg, o_xend, o_xval)) : Met l yX5_readsVisitor (wU yX5_readsVisitor cX5_readsVisitor 5 (some .boolean)) ({ frames := 4, cells := 0, slots := 0, locals := 85 }) (va_Pc [.ref (ad 0), .int v1] (PreW X D (tyM cI cC) (wM cI cC ad xs xkept xaside xisK xfound xgone xover xtape xtaped xtok xbeg xend xval xwid xsiz xcel xcar) sz)) (QcI D (tyM cI cC) (wM cI cC ad o_xs xkept xaside xisK xfound xgone xover xtape xtaped o_xtok o_xbeg o_xend o_xval xwid xsiz xcel xcar) (va_A (wM cI cC ad xs xkept xaside xisK xfound xgone xover xtape xtaped xtok xbeg xend xval xwid xsiz xcel xcar) sz) r0) 0 0 (va_A (wM cI cC ad xs xkept xaside xisK xfound xgone xover xtape xtaped xtok xbeg xend xval xwid xsiz xcel xcar) sz) := by
  refine startW hX (own := RX5) (by decide) rfl (Nat.le_of_ble_eq_true rfl) (fun p e s m args below meth c ls C0 G hl => ?_)
  exact b5_readsVisitor_0 C0 G hl hf
/-! 5_readsItem -/
theorem dX5_readsItem_0 : decode cX5_readsItem 0 = .ok (.aload_n 0, 1) := by decide +kernel
theorem dX5_readsItem_1 : decode cX5_readsItem 1 = .ok (.aload_n 0, 1) := by decide +kernel
theorem dX5_readsItem_2 : decode cX5_readsItem 2 = .ok (.getfield 28, 3) := by decide +kernel
theorem dX5_readsItem_5 : decode cX5_readsItem 5 = .ok (.invokevirtual 233, 3) := by decide +kernel
theorem dX5_readsItem_8 : decode cX5_readsItem 8 = .ok (.istore_n 1, 1) := by decide +kernel
theorem dX5_readsItem_9 : decode cX5_readsItem 9 = .ok (.iload_n 1, 1) := by decide +kernel
theorem dX5_readsItem_10 : decode cX5_readsItem 10 = .ok (.ifCond .lt 9, 3) := by decide +kernel
theorem dX5_readsItem_13 : decode cX5_readsItem 13 = .ok (.aload_n 0, 1) := by decide +kernel
theorem dX5_readsItem_14 : decode cX5_readsItem 14 = .ok (.iload_n 1, 1) := by decide +kernel
theorem dX5_readsItem_15 : decode cX5_readsItem 15 = .ok (.invokevirtual 240, 3) := by decide +kernel
theorem dX5_readsItem_18 : decode cX5_readsItem 18 = .ok (.ireturn, 1) := by decide +kernel
theorem dX5_readsItem_19 : decode cX5_readsItem 19 = .ok (.aload_n 0, 1) := by decide +kernel
theorem dX5_readsItem_20 : decode cX5_readsItem 20 = .ok (.aload_n 0, 1) := by decide +kernel
theorem dX5_readsItem_21 : decode cX5_readsItem 21 = .ok (.getfield 35, 3) := by decide +kernel
theorem dX5_readsItem_24 : decode cX5_readsItem 24 = .ok (.invokevirtual 233, 3) := by decide +kernel
theorem dX5_readsItem_27 : decode cX5_readsItem 27 = .ok (.istore_n 2, 1) := by decide +kernel
theorem dX5_readsItem_28 : decode cX5_readsItem 28 = .ok (.iload_n 2, 1) := by decide +kernel
theorem dX5_readsItem_29 : decode cX5_readsItem 29 = .ok (.ifCond .ge 5, 3) := by decide +kernel
theorem dX5_readsItem_32 : decode cX5_readsItem 32 = .ok (.iconst 0, 1) := by decide +kernel
theorem dX5_readsItem_33 : decode cX5_readsItem 33 = .ok (.ireturn, 1) := by decide +kernel
theorem dX5_readsItem_34 : decode cX5_readsItem 34 = .ok (.aload_n 0, 1) := by decide +kernel
theorem dX5_readsItem_35 : decode cX5_readsItem 35 = .ok (.invokevirtual 230, 3) := by decide +kernel
theorem dX5_readsItem_38 : decode cX5_readsItem 38 = .ok (.iload_n 2, 1) := by decide +kernel
theorem dX5_readsItem_39 : decode cX5_readsItem 39 = .ok (.ifCond .ne 13, 3) := by decide +kernel
theorem dX5_readsItem_42 : decode cX5_readsItem 42 = .ok (.aload_n 0, 1) := by decide +kernel
theorem dX5_readsItem_43 : decode cX5_readsItem 43 = .ok (.iconst 0, 1) := by decide +kernel
theorem dX5_readsItem_44 : decode cX5_readsItem 44 = .ok (.bipush 15, 2) := by decide +kernel
theorem dX5_readsItem_46 : decode cX5_readsItem 46 = .ok (.invokevirtual 237, 3) := by decide +kernel
theorem dX5_readsItem_49 : decode cX5_readsItem 49 = .ok (.goto 4, 3) := by decide +kernel
theorem dX5_readsItem_52 : decode cX5_readsItem 52 = .ok (.iconst 0, 1) := by decide +kernel
theorem dX5_readsItem_53 : decode cX5_readsItem 53 = .ok (.istore_n 3, 1) := by decide +kernel
theorem dX5_readsItem_54 : decode cX5_readsItem 54 = .ok (.iload_n 3, 1) := by decide +kernel
theorem dX5_readsItem_55 : decode cX5_readsItem 55 = .ok (.ifCond .ge 7, 3) := by decide +kernel
theorem dX5_readsItem_58 : decode cX5_readsItem 58 = .ok (.iconst (-1), 1) := by decide +kernel
theorem dX5_readsItem_59 : decode cX5_readsItem 59 = .ok (.goto 39, 3) := by decide +kernel
theorem dX5_readsItem_62 : decode cX5_readsItem 62 = .ok (.aload_n 0, 1) := by decide +kernel
theorem dX5_readsItem_63 : decode cX5_readsItem 63 = .ok (.iconst 0, 1) := by decide +kernel
theorem dX5_readsItem_64 : decode cX5_readsItem 64 = .ok (.iload_n 2, 1) := by decide +kernel
theorem dX5_readsItem_65 : decode cX5_readsItem 65 = .ok (.ifCond .ne 8, 3) := by decide +kernel
theorem dX5_readsItem_68 : decode cX5_readsItem 68 = .ok (.bipush 30, 2) := by decide +kernel
theorem dX5_readsItem_70 : decode cX5_readsItem 70 = .ok (.goto 25, 3) := by decide +kernel
theorem dX5_readsItem_73 : decode cX5_readsItem 73 = .ok (.iload_n 2, 1) := by decide +kernel
theorem dX5_readsItem_74 : decode cX5_readsItem 74 = .ok (.iconst 1, 1) := by decide +kernel
theorem dX5_readsItem_75 : decode cX5_readsItem 75 = .ok (.if_icmp .ne 9, 3) := by decide +kernel
theorem dX5_readsItem_78 : decode cX5_readsItem 78 = .ok (.sipush 9999, 3) := by decide +kernel
theorem dX5_readsItem_81 : decode cX5_readsItem 81 = .ok (.goto 14, 3) := by decide +kernel
theorem dX5_readsItem_84 : decode cX5_readsItem 84 = .ok (.iload_n 2, 1) := by decide +kernel
theorem dX5_readsItem_85 : decode cX5_readsItem 85 = .ok (.iconst 2, 1) := by decide +kernel
theorem dX5_readsItem_86 : decode cX5_readsItem 86 = .ok (.if_icmp .ne 7, 3) := by decide +kernel
theorem dX5_readsItem_89 : decode cX5_readsItem 89 = .ok (.iconst 5, 1) := by decide +kernel
theorem dX5_readsItem_90 : decode cX5_readsItem 90 = .ok (.goto 5, 3) := by decide +kernel
theorem dX5_readsItem_93 : decode cX5_readsItem 93 = .ok (.bipush 9, 2) := by decide +kernel
theorem dX5_readsItem_95 : decode cX5_readsItem 95 = .ok (.invokevirtual 237, 3) := by decide +kernel
theorem dX5_readsItem_98 : decode cX5_readsItem 98 = .ok (.istore 4, 2) := by decide +kernel
theorem dX5_readsItem_100 : decode cX5_readsItem 100 = .ok (.iload 4, 2) := by decide +kernel
theorem dX5_readsItem_102 : decode cX5_readsItem 102 = .ok (.ifCond .lt 26, 3) := by decide +kernel
theorem dX5_readsItem_105 : decode cX5_readsItem 105 = .ok (.aload_n 0, 1) := by decide +kernel
theorem dX5_readsItem_106 : decode cX5_readsItem 106 = .ok (.getfield 9, 3) := by decide +kernel
theorem dX5_readsItem_109 : decode cX5_readsItem 109 = .ok (.iload_n 2, 1) := by decide +kernel
theorem dX5_readsItem_110 : decode cX5_readsItem 110 = .ok (.ifCond .ne 10, 3) := by decide +kernel
theorem dX5_readsItem_113 : decode cX5_readsItem 113 = .ok (.bipush 6, 2) := by decide +kernel
theorem dX5_readsItem_115 : decode cX5_readsItem 115 = .ok (.iload_n 3, 1) := by decide +kernel
theorem dX5_readsItem_116 : decode cX5_readsItem 116 = .ok (.iadd, 1) := by decide +kernel
theorem dX5_readsItem_117 : decode cX5_readsItem 117 = .ok (.goto 8, 3) := by decide +kernel
theorem dX5_readsItem_120 : decode cX5_readsItem 120 = .ok (.iconst 3, 1) := by decide +kernel
theorem dX5_readsItem_121 : decode cX5_readsItem 121 = .ok (.iload_n 2, 1) := by decide +kernel
theorem dX5_readsItem_122 : decode cX5_readsItem 122 = .ok (.iadd, 1) := by decide +kernel
theorem dX5_readsItem_123 : decode cX5_readsItem 123 = .ok (.iconst 1, 1) := by decide +kernel
theorem dX5_readsItem_124 : decode cX5_readsItem 124 = .ok (.isub, 1) := by decide +kernel
theorem dX5_readsItem_125 : decode cX5_readsItem 125 = .ok (.iload 4, 2) := by decide +kernel
theorem dX5_readsItem_127 : decode cX5_readsItem 127 = .ok (.iastore, 1) := by decide +kernel
theorem dX5_readsItem_128 : decode cX5_readsItem 128 = .ok (.iload 4, 2) := by decide +kernel
theorem dX5_readsItem_130 : decode cX5_readsItem 130 = .ok (.ifCond .lt 7, 3) := by decide +kernel
theorem dX5_readsItem_133 : decode cX5_readsItem 133 = .ok (.iconst 1, 1) := by decide +kernel
theorem dX5_readsItem_134 : decode cX5_readsItem 134 = .ok (.goto 4, 3) := by decide +kernel
theorem dX5_readsItem_137 : decode cX5_readsItem 137 = .ok (.iconst 0, 1) := by decide +kernel
theorem dX5_readsItem_138 : decode cX5_readsItem 138 = .ok (.ireturn, 1) := by decide +kernel
def j5_readsItem_128  (xs : Nat → Int32) (xtape : Nat → Int32) (xtaped : Int32) (xtok : Int32) (xbeg : Int32) (xend : Int32) (xval : Int64) (v4 : Int32) : Option (Int32 × (Nat → Int32) × Int32 × Int32 × Int32 × Int64) :=
  if v4 < (0 : Int32) then (
    some ((0 : Int32), xs, xtok, xbeg, xend, xval))
  else (
    some ((1 : Int32), xs, xtok, xbeg, xend, xval))
def j5_readsItem_125  (xs : Nat → Int32) (xtape : Nat → Int32) (xtaped : Int32) (xtok : Int32) (xbeg : Int32) (xend : Int32) (xval : Int64) (v4 : Int32) (t1 : Int32) : Option (Int32 × (Nat → Int32) × Int32 × Int32 × Int32 × Int64) :=
  gd (inb t1 88) (
  j5_readsItem_128 (upd xs t1.toNatClampNeg v4) xtape xtaped xtok xbeg xend xval v4)
def j5_readsItem_98  (xs : Nat → Int32) (xtape : Nat → Int32) (xtaped : Int32) (xtok : Int32) (xbeg : Int32) (xend : Int32) (xval : Int64) (v2 : Int32) (v3 : Int32) (t0 : Int32) : Option (Int32 × (Nat → Int32) × Int32 × Int32 × Int32 × Int64) :=
  if t0 < (0 : Int32) then (
    j5_readsItem_128 xs xtape xtaped xtok xbeg xend xval t0)
  else (
    if v2 = (0 : Int32) then (
      j5_readsItem_125 xs xtape xtaped xtok xbeg xend xval t0 ((6 : Int32) + v3))
    else (
      j5_readsItem_125 xs xtape xtaped xtok xbeg xend xval t0 (((3 : Int32) + v2) - (1 : Int32))))
def j5_readsItem_95  (xs : Nat → Int32) (xtape : Nat → Int32) (xtaped : Int32) (xtok : Int32) (xbeg : Int32) (xend : Int32) (xval : Int64) (v2 : Int32) (v3 : Int32) (t1 : Int32) (t2 : Int32) : Option (Int32 × (Nat → Int32) × Int32 × Int32 × Int32 × Int64) :=
  ob5 (f5_takesNumber xtape xtaped xtok xbeg xend xval t1 t2) (fun r31 xtok_32 xbeg_33 xend_34 xval_35 =>
  j5_readsItem_98 xs xtape xtaped xtok_32 xbeg_33 xend_34 xval_35 v2 v3 r31)
def j5_readsItem_53  (xs : Nat → Int32) (xtape : Nat → Int32) (xtaped : Int32) (xtok : Int32) (xbeg : Int32) (xend : Int32) (xval : Int64) (v2 : Int32) (t0 : Int32) : Option (Int32 × (Nat → Int32) × Int32 × Int32 × Int32 × Int64) :=
  if (0 : Int32) ≤ t0 then (
    if v2 = (0 : Int32) then (
      j5_readsItem_95 xs xtape xtaped xtok xbeg xend xval v2 t0 (0 : Int32) (30 : Int32))
    else (
      if v2 = (1 : Int32) then (
        j5_readsItem_95 xs xtape xtaped xtok xbeg xend xval v2 t0 (0 : Int32) (9999 : Int32))
      else (
        if v2 = (2 : Int32) then (
          j5_readsItem_95 xs xtape xtaped xtok xbeg xend xval v2 t0 (0 : Int32) (5 : Int32))
        else (
          j5_readsItem_95 xs xtape xtaped xtok xbeg xend xval v2 t0 (0 : Int32) (9 : Int32)))))
  else (
    j5_readsItem_98 xs xtape xtaped xtok xbeg xend xval v2 t0 (-1 : Int32))
def f5_readsItem (xs : Nat → Int32) (xtape : Nat → Int32) (xtaped : Int32) (xtok : Int32) (xbeg : Int32) (xend : Int32) (xval : Int64)  : Option (Int32 × (Nat → Int32) × Int32 × Int32 × Int32 × Int64) :=
  ob1 (f5_wordOf_7 xtok xval) (fun r1 =>
  if r1 < (0 : Int32) then (
    ob1 (f5_wordOf_9 xtok xval) (fun r4 =>
    if (0 : Int32) ≤ r4 then (
      ob4 (f5_nextToken xtape xtaped xtok xbeg xend xval) (fun xtok_7 xbeg_8 xend_9 xval_10 =>
      if r4 = (0 : Int32) then (
        ob5 (f5_takesNumber xtape xtaped xtok_7 xbeg_8 xend_9 xval_10 (0 : Int32) (15 : Int32)) (fun r13 xtok_14 xbeg_15 xend_16 xval_17 =>
        j5_readsItem_53 xs xtape xtaped xtok_14 xbeg_15 xend_16 xval_17 r4 r13))
      else (
        j5_readsItem_53 xs xtape xtaped xtok_7 xbeg_8 xend_9 xval_10 r4 (0 : Int32))))
    else (
      some ((0 : Int32), xs, xtok, xbeg, xend, xval))))
  else (
    ob6 (f5_readsVisitor xs xtape xtaped xtok xbeg xend xval r1) (fun r19 xs_20 xtok_21 xbeg_22 xend_23 xval_24 =>
    gd (b01 r19) (
    some (r19, xs_20, xtok_21, xbeg_22, xend_23, xval_24)))))
set_option maxHeartbeats 4000000 in
set_option maxRecDepth 100000 in
theorem b5_readsItem_128 {X : XP} {p : Program} {l : Launch} {e : Env} {s : State} {m : MethodId} {args : Array Value} {below : List Frame} {meth : Method} {c : Code} {D : va_G} {cI cC : ClassId} {ad : Nat → Nat} {A : Nat → Prop} {xkept : Nat → Int32} {xaside : Nat → Int32} {xisK : Int32} {xfound : Nat → Int32} {xgone : Int32} {xover : Nat → Int32} {xtape : Nat → Int32} {xtaped : Int32} {xwid : Nat → Int32} {xsiz : Nat → Int32} {xcel : Nat → Int32} {xcar : Nat → Int32} {r0 : Int32} {o_xs : Nat → Int32} {o_xtok : Int32} {o_xbeg : Int32} {o_xend : Int32} {o_xval : Int64} (C0 : CX X p s m args meth c cX5_readsItem 5 (some .boolean) RX5 A) : ∀ {xs : Nat → Int32} {xtok : Int32} {xbeg : Int32} {xend : Int32} {xval : Int64} {v4 : Int32} {H : Heap} {locs : List Loc} {ls : Array Slot}, GX X D (tyM cI cC) A s (wM cI cC ad xs xkept xaside xisK xfound xgone xover xtape xtaped xtok xbeg xend xval xwid xsiz xcel xcar) H locs → lv_has ls 5 [(4, .int v4)] → j5_readsItem_128  xs xtape xtaped xtok xbeg xend xval v4 = some (r0, o_xs, o_xtok, o_xbeg, o_xend, o_xval) → W p l e ({ frames := 5, cells := 0, slots := 0, locals := 109 }) s m args below meth c H locs 0 0 (MQ below (QcI D (tyM cI cC) (wM cI cC ad o_xs xkept xaside xisK xfound xgone xover xtape xtaped o_xtok o_xbeg o_xend o_xval xwid xsiz xcel xcar) A r0) args s 0 0 A) (F0 m 128 ls []) := by
  have hx := C0.1
  have hb := C0.2.1
  have hown := C0.2.2.2.2.1
  have hts := C0.2.2.2.2.2.1
  have hX := C0.2.2.2.2.2.2.2.2
  intro xs xtok xbeg xend xval v4 H locs ls G hl hf
  unfold j5_readsItem_128 at hf
  refine lv_iload hx hb dX5_readsItem_128 (lv_at hl 0 rfl) ?_
  refine lv_if_lt (tgt := 137) hx hb dX5_readsItem_130 (by decide) (fun hc39 => ?_) (fun hc39 => ?_)
  · have hf := itp hc39 hf
    refine lv_iconst (v := (0 : Int32)) hx hb dX5_readsItem_137 (by decide) ?_
    obtain ⟨rfl, rfl, rfl, rfl, rfl, rfl⟩ := inj6 hf
    exact ret_z C0 G rfl dX5_readsItem_138
  · have hf := itn hc39 hf
    refine lv_iconst (v := (1 : Int32)) hx hb dX5_readsItem_133 (by decide) ?_
    refine lv_goto (tgt := 138) hx hb dX5_readsItem_134 (by decide) ?_
    obtain ⟨rfl, rfl, rfl, rfl, rfl, rfl⟩ := inj6 hf
    exact ret_z C0 G rfl dX5_readsItem_138
set_option maxHeartbeats 4000000 in
set_option maxRecDepth 100000 in
theorem b5_readsItem_125 {X : XP} {p : Program} {l : Launch} {e : Env} {s : State} {m : MethodId} {args : Array Value} {below : List Frame} {meth : Method} {c : Code} {D : va_G} {cI cC : ClassId} {ad : Nat → Nat} {A : Nat → Prop} {xkept : Nat → Int32} {xaside : Nat → Int32} {xisK : Int32} {xfound : Nat → Int32} {xgone : Int32} {xover : Nat → Int32} {xtape : Nat → Int32} {xtaped : Int32} {xwid : Nat → Int32} {xsiz : Nat → Int32} {xcel : Nat → Int32} {xcar : Nat → Int32} {r0 : Int32} {o_xs : Nat → Int32} {o_xtok : Int32} {o_xbeg : Int32} {o_xend : Int32} {o_xval : Int64} (C0 : CX X p s m args meth c cX5_readsItem 5 (some .boolean) RX5 A) : ∀ {xs : Nat → Int32} {xtok : Int32} {xbeg : Int32} {xend : Int32} {xval : Int64} {v4 : Int32} {t1 : Int32} {H : Heap} {locs : List Loc} {ls : Array Slot}, GX X D (tyM cI cC) A s (wM cI cC ad xs xkept xaside xisK xfound xgone xover xtape xtaped xtok xbeg xend xval xwid xsiz xcel xcar) H locs → lv_has ls 5 [(4, .int v4)] → j5_readsItem_125  xs xtape xtaped xtok xbeg xend xval v4 t1 = some (r0, o_xs, o_xtok, o_xbeg, o_xend, o_xval) → W p l e ({ frames := 5, cells := 0, slots := 0, locals := 109 }) s m args below meth c H locs 0 0 (MQ below (QcI D (tyM cI cC) (wM cI cC ad o_xs xkept xaside xisK xfound xgone xover xtape xtaped o_xtok o_xbeg o_xend o_xval xwid xsiz xcel xcar) A r0) args s 0 0 A) (F0 m 125 ls [.int t1, .ref (ad 1)]) := by
  have hx := C0.1
  have hb := C0.2.1
  have hown := C0.2.2.2.2.1
  have hts := C0.2.2.2.2.2.1
  have hX := C0.2.2.2.2.2.2.2.2
  intro xs xtok xbeg xend xval v4 t1 H locs ls G hl hf
  unfold j5_readsItem_125 at hf
  refine lv_iload hx hb dX5_readsItem_125 (lv_at hl 0 rfl) ?_
  obtain ⟨hi40, hf⟩ := gd_s hf
  refine s_iast (k := t1.toNatClampNeg) (w' := (wM cI cC ad (upd xs t1.toNatClampNeg v4) xkept xaside xisK xfound xgone xover xtape xtaped xtok xbeg xend xval xwid xsiz xcel xcar)) C0 G 1 0 rfl rfl (vin hi40) rfl rfl dX5_readsItem_127 (fun H locs G => ?_)
  exact b5_readsItem_128 C0  G (lv_sub hl [0] rfl) hf
set_option maxHeartbeats 4000000 in
set_option maxRecDepth 100000 in
theorem b5_readsItem_98 {X : XP} {p : Program} {l : Launch} {e : Env} {s : State} {m : MethodId} {args : Array Value} {below : List Frame} {meth : Method} {c : Code} {D : va_G} {cI cC : ClassId} {ad : Nat → Nat} {A : Nat → Prop} {xkept : Nat → Int32} {xaside : Nat → Int32} {xisK : Int32} {xfound : Nat → Int32} {xgone : Int32} {xover : Nat → Int32} {xtape : Nat → Int32} {xtaped : Int32} {xwid : Nat → Int32} {xsiz : Nat → Int32} {xcel : Nat → Int32} {xcar : Nat → Int32} {r0 : Int32} {o_xs : Nat → Int32} {o_xtok : Int32} {o_xbeg : Int32} {o_xend : Int32} {o_xval : Int64} (C0 : CX X p s m args meth c cX5_readsItem 5 (some .boolean) RX5 A) : ∀ {xs : Nat → Int32} {xtok : Int32} {xbeg : Int32} {xend : Int32} {xval : Int64} {v2 : Int32} {v3 : Int32} {t0 : Int32} {H : Heap} {locs : List Loc} {ls : Array Slot}, GX X D (tyM cI cC) A s (wM cI cC ad xs xkept xaside xisK xfound xgone xover xtape xtaped xtok xbeg xend xval xwid xsiz xcel xcar) H locs → lv_has ls 5 [(0, .ref (ad 0)), (2, .int v2), (3, .int v3)] → j5_readsItem_98  xs xtape xtaped xtok xbeg xend xval v2 v3 t0 = some (r0, o_xs, o_xtok, o_xbeg, o_xend, o_xval) → W p l e ({ frames := 5, cells := 0, slots := 0, locals := 109 }) s m args below meth c H locs 0 0 (MQ below (QcI D (tyM cI cC) (wM cI cC ad o_xs xkept xaside xisK xfound xgone xover xtape xtaped o_xtok o_xbeg o_xend o_xval xwid xsiz xcel xcar) A r0) args s 0 0 A) (F0 m 98 ls [.int t0]) := by
  have hx := C0.1
  have hb := C0.2.1
  have hown := C0.2.2.2.2.1
  have hts := C0.2.2.2.2.2.1
  have hX := C0.2.2.2.2.2.2.2.2
  intro xs xtok xbeg xend xval v2 v3 t0 H locs ls G hl hf
  unfold j5_readsItem_98 at hf
  refine lv_istore (lv' := [(4, .int t0), (0, .ref (ad 0)), (2, .int v2), (3, .int v3)]) hx hb dX5_readsItem_98 hl (by decide) rfl (fun ls hl => ?_)
  refine lv_iload hx hb dX5_readsItem_100 (lv_at hl 0 rfl) ?_
  refine lv_if_lt (tgt := 128) hx hb dX5_readsItem_102 (by decide) (fun hc37 => ?_) (fun hc37 => ?_)
  · have hf := itp hc37 hf
    exact b5_readsItem_128 C0  G (lv_sub hl [0] rfl) hf
  · have hf := itn hc37 hf
    refine lv_aload_n hx hb dX5_readsItem_105 rfl (lv_at hl 1 rfl) ?_
    refine s_get (C := RX5) (T := TX5) C0 G i_X5 0 0 rfl rfl (by decide) q713 rfl dX5_readsItem_106 ?_
    refine lv_iload_n hx hb dX5_readsItem_109 rfl (lv_at hl 2 rfl) ?_
    refine lv_if_ne (tgt := 120) hx hb dX5_readsItem_110 (by decide) (fun hc38 => ?_) (fun hc38 => ?_)
    · have hf := itn hc38 hf
      refine lv_iconst (v := (3 : Int32)) hx hb dX5_readsItem_120 (by decide) ?_
      refine lv_iload_n hx hb dX5_readsItem_121 rfl (lv_at hl 2 rfl) ?_
      refine lv_iadd hx hb dX5_readsItem_122 ?_
      refine lv_iconst (v := (1 : Int32)) hx hb dX5_readsItem_123 (by decide) ?_
      refine lv_isub hx hb dX5_readsItem_124 ?_
      exact b5_readsItem_125 C0  G (lv_sub hl [0] rfl) hf
    · have hf := itp hc38 hf
      refine lv_bipush (v := (6 : Int32)) hx hb dX5_readsItem_113 (by decide) ?_
      refine lv_iload_n hx hb dX5_readsItem_115 rfl (lv_at hl 3 rfl) ?_
      refine lv_iadd hx hb dX5_readsItem_116 ?_
      refine lv_goto (tgt := 125) hx hb dX5_readsItem_117 (by decide) ?_
      exact b5_readsItem_125 C0  G (lv_sub hl [0] rfl) hf
set_option maxHeartbeats 4000000 in
set_option maxRecDepth 100000 in
theorem b5_readsItem_95 {X : XP} {p : Program} {l : Launch} {e : Env} {s : State} {m : MethodId} {args : Array Value} {below : List Frame} {meth : Method} {c : Code} {D : va_G} {cI cC : ClassId} {ad : Nat → Nat} {A : Nat → Prop} {xkept : Nat → Int32} {xaside : Nat → Int32} {xisK : Int32} {xfound : Nat → Int32} {xgone : Int32} {xover : Nat → Int32} {xtape : Nat → Int32} {xtaped : Int32} {xwid : Nat → Int32} {xsiz : Nat → Int32} {xcel : Nat → Int32} {xcar : Nat → Int32} {r0 : Int32} {o_xs : Nat → Int32} {o_xtok : Int32} {o_xbeg : Int32} {o_xend : Int32} {o_xval : Int64} (C0 : CX X p s m args meth c cX5_readsItem 5 (some .boolean) RX5 A) : ∀ {xs : Nat → Int32} {xtok : Int32} {xbeg : Int32} {xend : Int32} {xval : Int64} {v2 : Int32} {v3 : Int32} {t1 : Int32} {t2 : Int32} {H : Heap} {locs : List Loc} {ls : Array Slot}, GX X D (tyM cI cC) A s (wM cI cC ad xs xkept xaside xisK xfound xgone xover xtape xtaped xtok xbeg xend xval xwid xsiz xcel xcar) H locs → lv_has ls 5 [(0, .ref (ad 0)), (2, .int v2), (3, .int v3)] → j5_readsItem_95  xs xtape xtaped xtok xbeg xend xval v2 v3 t1 t2 = some (r0, o_xs, o_xtok, o_xbeg, o_xend, o_xval) → W p l e ({ frames := 5, cells := 0, slots := 0, locals := 109 }) s m args below meth c H locs 0 0 (MQ below (QcI D (tyM cI cC) (wM cI cC ad o_xs xkept xaside xisK xfound xgone xover xtape xtaped o_xtok o_xbeg o_xend o_xval xwid xsiz xcel xcar) A r0) args s 0 0 A) (F0 m 95 ls [.int t2, .int t1, .ref (ad 0)]) := by
  have hx := C0.1
  have hb := C0.2.1
  have hown := C0.2.2.2.2.1
  have hts := C0.2.2.2.2.2.1
  have hX := C0.2.2.2.2.2.2.2.2
  intro xs xtok xbeg xend xval v2 v3 t1 t2 H locs ls G hl hf
  unfold j5_readsItem_95 at hf
  obtain ⟨r31, xtok_32, xbeg_33, xend_34, xval_35, hc36, hf⟩ := ob5_s hf
  refine go_i C0 G (runV_of (n := 2) (q0 := 0) (As := [.int t1, .int t2]) (rest := []) C0 G (c5_takesNumber hX hc36) q1086 q54 q1083 q1085 q47 o5_takesNumber ⟨rfl, rfl⟩ ⟨Nat.le_of_ble_eq_true rfl, Nat.le_of_ble_eq_true rfl⟩ rfl rfl rfl hl.1 rfl (Nat.le_of_ble_eq_true rfl) dX5_readsItem_95) (fun H locs G => ?_)
  exact b5_readsItem_98 C0  G (lv_sub hl [0, 1, 2] rfl) hf
set_option maxHeartbeats 4000000 in
set_option maxRecDepth 100000 in
theorem b5_readsItem_53 {X : XP} {p : Program} {l : Launch} {e : Env} {s : State} {m : MethodId} {args : Array Value} {below : List Frame} {meth : Method} {c : Code} {D : va_G} {cI cC : ClassId} {ad : Nat → Nat} {A : Nat → Prop} {xkept : Nat → Int32} {xaside : Nat → Int32} {xisK : Int32} {xfound : Nat → Int32} {xgone : Int32} {xover : Nat → Int32} {xtape : Nat → Int32} {xtaped : Int32} {xwid : Nat → Int32} {xsiz : Nat → Int32} {xcel : Nat → Int32} {xcar : Nat → Int32} {r0 : Int32} {o_xs : Nat → Int32} {o_xtok : Int32} {o_xbeg : Int32} {o_xend : Int32} {o_xval : Int64} (C0 : CX X p s m args meth c cX5_readsItem 5 (some .boolean) RX5 A) : ∀ {xs : Nat → Int32} {xtok : Int32} {xbeg : Int32} {xend : Int32} {xval : Int64} {v2 : Int32} {t0 : Int32} {H : Heap} {locs : List Loc} {ls : Array Slot}, GX X D (tyM cI cC) A s (wM cI cC ad xs xkept xaside xisK xfound xgone xover xtape xtaped xtok xbeg xend xval xwid xsiz xcel xcar) H locs → lv_has ls 5 [(0, .ref (ad 0)), (2, .int v2)] → j5_readsItem_53  xs xtape xtaped xtok xbeg xend xval v2 t0 = some (r0, o_xs, o_xtok, o_xbeg, o_xend, o_xval) → W p l e ({ frames := 5, cells := 0, slots := 0, locals := 109 }) s m args below meth c H locs 0 0 (MQ below (QcI D (tyM cI cC) (wM cI cC ad o_xs xkept xaside xisK xfound xgone xover xtape xtaped o_xtok o_xbeg o_xend o_xval xwid xsiz xcel xcar) A r0) args s 0 0 A) (F0 m 53 ls [.int t0]) := by
  have hx := C0.1
  have hb := C0.2.1
  have hown := C0.2.2.2.2.1
  have hts := C0.2.2.2.2.2.1
  have hX := C0.2.2.2.2.2.2.2.2
  intro xs xtok xbeg xend xval v2 t0 H locs ls G hl hf
  unfold j5_readsItem_53 at hf
  refine lv_istore_n (lv' := [(3, .int t0), (0, .ref (ad 0)), (2, .int v2)]) hx hb dX5_readsItem_53 rfl hl (by decide) rfl (fun ls hl => ?_)
  refine lv_iload_n hx hb dX5_readsItem_54 rfl (lv_at hl 0 rfl) ?_
  refine lv_if_ge (tgt := 62) hx hb dX5_readsItem_55 (by decide) (fun hc27 => ?_) (fun hc27 => ?_)
  · have hf := itp hc27 hf
    refine lv_aload_n hx hb dX5_readsItem_62 rfl (lv_at hl 1 rfl) ?_
    refine lv_iconst (v := (0 : Int32)) hx hb dX5_readsItem_63 (by decide) ?_
    refine lv_iload_n hx hb dX5_readsItem_64 rfl (lv_at hl 2 rfl) ?_
    refine lv_if_ne (tgt := 73) hx hb dX5_readsItem_65 (by decide) (fun hc28 => ?_) (fun hc28 => ?_)
    · have hf := itn hc28 hf
      refine lv_iload_n hx hb dX5_readsItem_73 rfl (lv_at hl 2 rfl) ?_
      refine lv_iconst (v := (1 : Int32)) hx hb dX5_readsItem_74 (by decide) ?_
      refine lv_icmp_ne (tgt := 84) hx hb dX5_readsItem_75 (by decide) (fun hc29 => ?_) (fun hc29 => ?_)
      · have hf := itn hc29 hf
        refine lv_iload_n hx hb dX5_readsItem_84 rfl (lv_at hl 2 rfl) ?_
        refine lv_iconst (v := (2 : Int32)) hx hb dX5_readsItem_85 (by decide) ?_
        refine lv_icmp_ne (tgt := 93) hx hb dX5_readsItem_86 (by decide) (fun hc30 => ?_) (fun hc30 => ?_)
        · have hf := itn hc30 hf
          refine lv_bipush (v := (9 : Int32)) hx hb dX5_readsItem_93 (by decide) ?_
          exact b5_readsItem_95 C0  G (lv_sub hl [1, 2, 0] rfl) hf
        · have hf := itp hc30 hf
          refine lv_iconst (v := (5 : Int32)) hx hb dX5_readsItem_89 (by decide) ?_
          refine lv_goto (tgt := 95) hx hb dX5_readsItem_90 (by decide) ?_
          exact b5_readsItem_95 C0  G (lv_sub hl [1, 2, 0] rfl) hf
      · have hf := itp hc29 hf
        refine lv_sipush (v := (9999 : Int32)) hx hb dX5_readsItem_78 (by decide) ?_
        refine lv_goto (tgt := 95) hx hb dX5_readsItem_81 (by decide) ?_
        exact b5_readsItem_95 C0  G (lv_sub hl [1, 2, 0] rfl) hf
    · have hf := itp hc28 hf
      refine lv_bipush (v := (30 : Int32)) hx hb dX5_readsItem_68 (by decide) ?_
      refine lv_goto (tgt := 95) hx hb dX5_readsItem_70 (by decide) ?_
      exact b5_readsItem_95 C0  G (lv_sub hl [1, 2, 0] rfl) hf
  · have hf := itn hc27 hf
    refine lv_iconst (v := (-1 : Int32)) hx hb dX5_readsItem_58 (by decide) ?_
    refine lv_goto (tgt := 98) hx hb dX5_readsItem_59 (by decide) ?_
    exact b5_readsItem_98 C0  G (lv_sub hl [1, 2, 0] rfl) hf
set_option maxHeartbeats 4000000 in
set_option maxRecDepth 100000 in
theorem b5_readsItem_0 {X : XP} {p : Program} {l : Launch} {e : Env} {s : State} {m : MethodId} {args : Array Value} {below : List Frame} {meth : Method} {c : Code} {D : va_G} {cI cC : ClassId} {ad : Nat → Nat} {A : Nat → Prop} {xkept : Nat → Int32} {xaside : Nat → Int32} {xisK : Int32} {xfound : Nat → Int32} {xgone : Int32} {xover : Nat → Int32} {xtape : Nat → Int32} {xtaped : Int32} {xwid : Nat → Int32} {xsiz : Nat → Int32} {xcel : Nat → Int32} {xcar : Nat → Int32} {r0 : Int32} {o_xs : Nat → Int32} {o_xtok : Int32} {o_xbeg : Int32} {o_xend : Int32} {o_xval : Int64} (C0 : CX X p s m args meth c cX5_readsItem 5 (some .boolean) RX5 A) : ∀ {xs : Nat → Int32} {xtok : Int32} {xbeg : Int32} {xend : Int32} {xval : Int64} {H : Heap} {locs : List Loc} {ls : Array Slot}, GX X D (tyM cI cC) A s (wM cI cC ad xs xkept xaside xisK xfound xgone xover xtape xtaped xtok xbeg xend xval xwid xsiz xcel xcar) H locs → lv_has ls 5 [(0, .ref (ad 0))] → f5_readsItem xs xtape xtaped xtok xbeg xend xval = some (r0, o_xs, o_xtok, o_xbeg, o_xend, o_xval) → W p l e ({ frames := 5, cells := 0, slots := 0, locals := 109 }) s m args below meth c H locs 0 0 (MQ below (QcI D (tyM cI cC) (wM cI cC ad o_xs xkept xaside xisK xfound xgone xover xtape xtaped o_xtok o_xbeg o_xend o_xval xwid xsiz xcel xcar) A r0) args s 0 0 A) (F0 m 0 ls []) := by
  have hx := C0.1
  have hb := C0.2.1
  have hown := C0.2.2.2.2.1
  have hts := C0.2.2.2.2.2.1
  have hX := C0.2.2.2.2.2.2.2.2
  intro xs xtok xbeg xend xval H locs ls G hl hf
  unfold f5_readsItem at hf
  refine lv_aload_n hx hb dX5_readsItem_0 rfl (lv_at hl 0 rfl) ?_
  refine lv_aload_n hx hb dX5_readsItem_1 rfl (lv_at hl 0 rfl) ?_
  refine s_get (C := RX5) (T := TX5) C0 G i_X5 0 13 rfl rfl (by decide) q726 rfl dX5_readsItem_2 ?_
  obtain ⟨r1, hc2, hf⟩ := ob1_s hf
  refine go_i C0 G (runV_of (n := 1) (q0 := 0) (As := [.ref (ad 7)]) (rest := []) C0 G (c5_wordOf_7 hX hc2) q1078 q54 q1075 q1077 q45 o5_wordOf_7 ⟨rfl, rfl⟩ ⟨Nat.le_of_ble_eq_true rfl, Nat.le_of_ble_eq_true rfl⟩ rfl rfl rfl hl.1 rfl (Nat.le_of_ble_eq_true rfl) dX5_readsItem_5) (fun H locs G => ?_)
  refine lv_istore_n (lv' := [(1, .int r1), (0, .ref (ad 0))]) hx hb dX5_readsItem_8 rfl hl (by decide) rfl (fun ls hl => ?_)
  refine lv_iload_n hx hb dX5_readsItem_9 rfl (lv_at hl 0 rfl) ?_
  refine lv_if_lt (tgt := 19) hx hb dX5_readsItem_10 (by decide) (fun hc3 => ?_) (fun hc3 => ?_)
  · have hf := itp hc3 hf
    refine lv_aload_n hx hb dX5_readsItem_19 rfl (lv_at hl 1 rfl) ?_
    refine lv_aload_n hx hb dX5_readsItem_20 rfl (lv_at hl 1 rfl) ?_
    refine s_get (C := RX5) (T := TX5) C0 G i_X5 0 15 rfl rfl (by decide) q728 rfl dX5_readsItem_21 ?_
    obtain ⟨r4, hc5, hf⟩ := ob1_s hf
    refine go_i C0 G (runV_of (n := 1) (q0 := 0) (As := [.ref (ad 9)]) (rest := []) C0 G (c5_wordOf_9 hX hc5) q1078 q54 q1075 q1077 q45 o5_wordOf_9 ⟨rfl, rfl⟩ ⟨Nat.le_of_ble_eq_true rfl, Nat.le_of_ble_eq_true rfl⟩ rfl rfl rfl hl.1 rfl (Nat.le_of_ble_eq_true rfl) dX5_readsItem_24) (fun H locs G => ?_)
    refine lv_istore_n (lv' := [(2, .int r4), (1, .int r1), (0, .ref (ad 0))]) hx hb dX5_readsItem_27 rfl hl (by decide) rfl (fun ls hl => ?_)
    refine lv_iload_n hx hb dX5_readsItem_28 rfl (lv_at hl 0 rfl) ?_
    refine lv_if_ge (tgt := 34) hx hb dX5_readsItem_29 (by decide) (fun hc6 => ?_) (fun hc6 => ?_)
    · have hf := itp hc6 hf
      refine lv_aload_n hx hb dX5_readsItem_34 rfl (lv_at hl 2 rfl) ?_
      obtain ⟨xtok_7, xbeg_8, xend_9, xval_10, hc11, hf⟩ := ob4_s hf
      refine go_v C0 G (runV_of (n := 0) (q0 := 0) (As := []) (rest := []) C0 G (c5_nextToken hX hc11) q1058 q54 q1055 q1057 q43 o5_nextToken ⟨rfl, rfl⟩ ⟨Nat.le_of_ble_eq_true rfl, Nat.le_of_ble_eq_true rfl⟩ rfl rfl rfl hl.1 rfl (Nat.le_of_ble_eq_true rfl) dX5_readsItem_35) (fun H locs G => ?_)
      refine lv_iload_n hx hb dX5_readsItem_38 rfl (lv_at hl 0 rfl) ?_
      refine lv_if_ne (tgt := 52) hx hb dX5_readsItem_39 (by decide) (fun hc12 => ?_) (fun hc12 => ?_)
      · have hf := itn hc12 hf
        refine lv_iconst (v := (0 : Int32)) hx hb dX5_readsItem_52 (by decide) ?_
        exact b5_readsItem_53 C0  G (lv_sub hl [2, 0] rfl) hf
      · have hf := itp hc12 hf
        refine lv_aload_n hx hb dX5_readsItem_42 rfl (lv_at hl 2 rfl) ?_
        refine lv_iconst (v := (0 : Int32)) hx hb dX5_readsItem_43 (by decide) ?_
        refine lv_bipush (v := (15 : Int32)) hx hb dX5_readsItem_44 (by decide) ?_
        obtain ⟨r13, xtok_14, xbeg_15, xend_16, xval_17, hc18, hf⟩ := ob5_s hf
        refine go_i C0 G (runV_of (n := 2) (q0 := 0) (As := [.int (0 : Int32), .int (15 : Int32)]) (rest := []) C0 G (c5_takesNumber hX hc18) q1086 q54 q1083 q1085 q47 o5_takesNumber ⟨rfl, rfl⟩ ⟨Nat.le_of_ble_eq_true rfl, Nat.le_of_ble_eq_true rfl⟩ rfl rfl rfl hl.1 rfl (Nat.le_of_ble_eq_true rfl) dX5_readsItem_46) (fun H locs G => ?_)
        refine lv_goto (tgt := 53) hx hb dX5_readsItem_49 (by decide) ?_
        exact b5_readsItem_53 C0  G (lv_sub hl [2, 0] rfl) hf
    · have hf := itn hc6 hf
      refine lv_iconst (v := (0 : Int32)) hx hb dX5_readsItem_32 (by decide) ?_
      obtain ⟨rfl, rfl, rfl, rfl, rfl, rfl⟩ := inj6 hf
      exact ret_z C0 G rfl dX5_readsItem_33
  · have hf := itn hc3 hf
    refine lv_aload_n hx hb dX5_readsItem_13 rfl (lv_at hl 1 rfl) ?_
    refine lv_iload_n hx hb dX5_readsItem_14 rfl (lv_at hl 0 rfl) ?_
    obtain ⟨r19, xs_20, xtok_21, xbeg_22, xend_23, xval_24, hc25, hf⟩ := ob6_s hf
    refine go_i C0 G (runV_of (n := 1) (q0 := 0) (As := [.int r1]) (rest := []) C0 G (c5_readsVisitor hX hc25) q1082 q54 q1079 q1081 q46 o5_readsVisitor ⟨rfl, rfl⟩ ⟨Nat.le_of_ble_eq_true rfl, Nat.le_of_ble_eq_true rfl⟩ rfl rfl rfl hl.1 rfl (Nat.le_of_ble_eq_true rfl) dX5_readsItem_15) (fun H locs G => ?_)
    obtain ⟨hz26, hf⟩ := gd_s hf
    obtain ⟨rfl, rfl, rfl, rfl, rfl, rfl⟩ := inj6 hf
    exact ret_z C0 G (b01_n hz26) dX5_readsItem_18
theorem o5_readsItem : okName yX5_readsItem 0 := ⟨by decide, by decide, by decide +kernel⟩
set_option maxHeartbeats 4000000 in
set_option maxRecDepth 100000 in
theorem c5_readsItem {X : XP} (hX : XT X) {l : Launch} {D : va_G} {cI cC : ClassId} {ad : Nat → Nat} {sz : Nat} {xs : Nat → Int32} {xkept : Nat → Int32} {xaside : Nat → Int32} {xisK : Int32} {xfound : Nat → Int32} {xgone : Int32} {xover : Nat → Int32} {xtape : Nat → Int32} {xtaped : Int32} {xtok : Int32} {xbeg : Int32} {xend : Int32} {xval : Int64} {xwid : Nat → Int32} {xsiz : Nat → Int32} {xcel : Nat → Int32} {xcar : Nat → Int32}  {r0 : Int32} {o_xs : Nat → Int32} {o_xtok : Int32} {o_xbeg : Int32} {o_xend : Int32} {o_xval : Int64} (hf : f5_readsItem xs xtape xtaped xtok xbeg xend xval = some (r0, o_xs, o_xtok, o_xbeg, o_xend, o_xval)) : Met l yX5_readsItem (wU yX5_readsItem cX5_readsItem 5 (some .boolean)) ({ frames := 5, cells := 0, slots := 0, locals := 109 }) (va_Pc [.ref (ad 0)] (PreW X D (tyM cI cC) (wM cI cC ad xs xkept xaside xisK xfound xgone xover xtape xtaped xtok xbeg xend xval xwid xsiz xcel xcar) sz)) (QcI D (tyM cI cC) (wM cI cC ad o_xs xkept xaside xisK xfound xgone xover xtape xtaped o_xtok o_xbeg o_xend o_xval xwid xsiz xcel xcar) (va_A (wM cI cC ad xs xkept xaside xisK xfound xgone xover xtape xtaped xtok xbeg xend xval xwid xsiz xcel xcar) sz) r0) 0 0 (va_A (wM cI cC ad xs xkept xaside xisK xfound xgone xover xtape xtaped xtok xbeg xend xval xwid xsiz xcel xcar) sz) := by
  refine startW hX (own := RX5) (by decide) rfl (Nat.le_of_ble_eq_true rfl) (fun p e s m args below meth c ls C0 G hl => ?_)
  exact b5_readsItem_0 C0 G hl hf
/-! 5_text -/
theorem dX5_text_0 : decode cX5_text 0 = .ok (.aload_n 0, 1) := by decide +kernel
theorem dX5_text_1 : decode cX5_text 1 = .ok (.invokevirtual 140, 3) := by decide +kernel
theorem dX5_text_4 : decode cX5_text 4 = .ok (.aload_n 0, 1) := by decide +kernel
theorem dX5_text_5 : decode cX5_text 5 = .ok (.iconst 0, 1) := by decide +kernel
theorem dX5_text_6 : decode cX5_text 6 = .ok (.putfield 199, 3) := by decide +kernel
theorem dX5_text_9 : decode cX5_text 9 = .ok (.aload_n 0, 1) := by decide +kernel
theorem dX5_text_10 : decode cX5_text 10 = .ok (.invokevirtual 230, 3) := by decide +kernel
theorem dX5_text_13 : decode cX5_text 13 = .ok (.iconst 1, 1) := by decide +kernel
theorem dX5_text_14 : decode cX5_text 14 = .ok (.istore_n 1, 1) := by decide +kernel
theorem dX5_text_15 : decode cX5_text 15 = .ok (.aload_n 0, 1) := by decide +kernel
theorem dX5_text_16 : decode cX5_text 16 = .ok (.invokevirtual 243, 3) := by decide +kernel
theorem dX5_text_19 : decode cX5_text 19 = .ok (.istore_n 2, 1) := by decide +kernel
theorem dX5_text_20 : decode cX5_text 20 = .ok (.iload_n 2, 1) := by decide +kernel
theorem dX5_text_21 : decode cX5_text 21 = .ok (.ifCond .eq 26, 3) := by decide +kernel
theorem dX5_text_24 : decode cX5_text 24 = .ok (.aload_n 0, 1) := by decide +kernel
theorem dX5_text_25 : decode cX5_text 25 = .ok (.getfield 209, 3) := by decide +kernel
theorem dX5_text_28 : decode cX5_text 28 = .ok (.iconst 3, 1) := by decide +kernel
theorem dX5_text_29 : decode cX5_text 29 = .ok (.if_icmp .ne 18, 3) := by decide +kernel
theorem dX5_text_32 : decode cX5_text 32 = .ok (.aload_n 0, 1) := by decide +kernel
theorem dX5_text_33 : decode cX5_text 33 = .ok (.invokevirtual 230, 3) := by decide +kernel
theorem dX5_text_36 : decode cX5_text 36 = .ok (.aload_n 0, 1) := by decide +kernel
theorem dX5_text_37 : decode cX5_text 37 = .ok (.invokevirtual 243, 3) := by decide +kernel
theorem dX5_text_40 : decode cX5_text 40 = .ok (.istore_n 2, 1) := by decide +kernel
theorem dX5_text_41 : decode cX5_text 41 = .ok (.iinc 1 1, 3) := by decide +kernel
theorem dX5_text_44 : decode cX5_text 44 = .ok (.goto (-24), 3) := by decide +kernel
theorem dX5_text_47 : decode cX5_text 47 = .ok (.iload_n 2, 1) := by decide +kernel
theorem dX5_text_48 : decode cX5_text 48 = .ok (.ifCond .eq 14, 3) := by decide +kernel
theorem dX5_text_51 : decode cX5_text 51 = .ok (.aload_n 0, 1) := by decide +kernel
theorem dX5_text_52 : decode cX5_text 52 = .ok (.getfield 209, 3) := by decide +kernel
theorem dX5_text_55 : decode cX5_text 55 = .ok (.ifCond .ne 7, 3) := by decide +kernel
theorem dX5_text_58 : decode cX5_text 58 = .ok (.iconst 1, 1) := by decide +kernel
theorem dX5_text_59 : decode cX5_text 59 = .ok (.goto 4, 3) := by decide +kernel
theorem dX5_text_62 : decode cX5_text 62 = .ok (.iconst 0, 1) := by decide +kernel
theorem dX5_text_63 : decode cX5_text 63 = .ok (.istore_n 2, 1) := by decide +kernel
theorem dX5_text_64 : decode cX5_text 64 = .ok (.aload_n 0, 1) := by decide +kernel
theorem dX5_text_65 : decode cX5_text 65 = .ok (.iconst 0, 1) := by decide +kernel
theorem dX5_text_66 : decode cX5_text 66 = .ok (.putfield 196, 3) := by decide +kernel
theorem dX5_text_69 : decode cX5_text 69 = .ok (.iload_n 2, 1) := by decide +kernel
theorem dX5_text_70 : decode cX5_text 70 = .ok (.ifCond .ne 14, 3) := by decide +kernel
theorem dX5_text_73 : decode cX5_text 73 = .ok (.aload_n 0, 1) := by decide +kernel
theorem dX5_text_74 : decode cX5_text 74 = .ok (.invokevirtual 143, 3) := by decide +kernel
theorem dX5_text_77 : decode cX5_text 77 = .ok (.iconst (-1), 1) := by decide +kernel
theorem dX5_text_78 : decode cX5_text 78 = .ok (.aload_n 0, 1) := by decide +kernel
theorem dX5_text_79 : decode cX5_text 79 = .ok (.getfield 202, 3) := by decide +kernel
theorem dX5_text_82 : decode cX5_text 82 = .ok (.isub, 1) := by decide +kernel
theorem dX5_text_83 : decode cX5_text 83 = .ok (.ireturn, 1) := by decide +kernel
theorem dX5_text_84 : decode cX5_text 84 = .ok (.iload_n 1, 1) := by decide +kernel
theorem dX5_text_85 : decode cX5_text 85 = .ok (.ireturn, 1) := by decide +kernel
def j5_text_63  (xs : Nat → Int32) (xaside : Nat → Int32) (xtape : Nat → Int32) (xtaped : Int32) (xtok : Int32) (xbeg : Int32) (xend : Int32) (xval : Int64) (v1 : Int32) (t0 : Int32) : Option (Int32 × (Nat → Int32) × (Nat → Int32) × Int32 × Int32 × Int32 × Int32 × Int64) :=
  if t0 = (0 : Int32) then (
    ob1 (f5_laysBack xs xaside) (fun xs_32 =>
    some (((-1 : Int32) - xbeg), xs_32, xaside, (0 : Int32), xtok, xbeg, xend, xval)))
  else (
    some (v1, xs, xaside, (0 : Int32), xtok, xbeg, xend, xval))
def j5_text_62  (xs : Nat → Int32) (xaside : Nat → Int32) (xtape : Nat → Int32) (xtaped : Int32) (xtok : Int32) (xbeg : Int32) (xend : Int32) (xval : Int64) (v1 : Int32) : Option (Int32 × (Nat → Int32) × (Nat → Int32) × Int32 × Int32 × Int32 × Int32 × Int64) :=
  j5_text_63 xs xaside xtape xtaped xtok xbeg xend xval v1 (0 : Int32)
def j5_text_47  (xs : Nat → Int32) (xaside : Nat → Int32) (xtape : Nat → Int32) (xtaped : Int32) (xtok : Int32) (xbeg : Int32) (xend : Int32) (xval : Int64) (v1 : Int32) (v2 : Int32) : Option (Int32 × (Nat → Int32) × (Nat → Int32) × Int32 × Int32 × Int32 × Int32 × Int64) :=
  if v2 = (0 : Int32) then (
    j5_text_62 xs xaside xtape xtaped xtok xbeg xend xval v1)
  else (
    if xtok = (0 : Int32) then (
      j5_text_63 xs xaside xtape xtaped xtok xbeg xend xval v1 (1 : Int32))
    else (
      j5_text_62 xs xaside xtape xtaped xtok xbeg xend xval v1))
def l5_text_20  : Nat → (Nat → Int32) → (Nat → Int32) → (Nat → Int32) → Int32 → Int32 → Int32 → Int32 → Int64 → Int32 → Int32 → Option (Int32 × (Nat → Int32) × (Nat → Int32) × Int32 × Int32 × Int32 × Int32 × Int64)
  | 0, _, _, _, _, _, _, _, _, _, _ => none
  | n + 1, xs, xaside, xtape, xtaped, xtok, xbeg, xend, xval, v1, v2 =>
    if v2 = (0 : Int32) then (
      j5_text_47 xs xaside xtape xtaped xtok xbeg xend xval v1 v2)
    else (
      if xtok = (3 : Int32) then (
        ob4 (f5_nextToken xtape xtaped xtok xbeg xend xval) (fun xtok_17 xbeg_18 xend_19 xval_20 =>
        ob6 (f5_readsItem xs xtape xtaped xtok_17 xbeg_18 xend_19 xval_20) (fun r22 xs_23 xtok_24 xbeg_25 xend_26 xval_27 =>
        (l5_text_20 n) xs_23 xaside xtape xtaped xtok_24 xbeg_25 xend_26 xval_27 (v1 + (1 : Int32)) r22)))
      else (
        j5_text_47 xs xaside xtape xtaped xtok xbeg xend xval v1 v2))
def f5_text (xs : Nat → Int32) (xaside : Nat → Int32) (xtape : Nat → Int32) (xtaped : Int32) (xtok : Int32) (xbeg : Int32) (xend : Int32) (xval : Int64)  : Option (Int32 × (Nat → Int32) × (Nat → Int32) × Int32 × Int32 × Int32 × Int32 × Int64) :=
  ob1 (f5_setsAside xs xaside) (fun xaside_1 =>
  ob4 (f5_nextToken xtape xtaped xtok xbeg (0 : Int32) xval) (fun xtok_3 xbeg_4 xend_5 xval_6 =>
  ob6 (f5_readsItem xs xtape xtaped xtok_3 xbeg_4 xend_5 xval_6) (fun r8 xs_9 xtok_10 xbeg_11 xend_12 xval_13 =>
  l5_text_20 1000 xs_9 xaside_1 xtape xtaped xtok_10 xbeg_11 xend_12 xval_13 (1 : Int32) r8)))
set_option maxHeartbeats 4000000 in
set_option maxRecDepth 100000 in
theorem b5_text_63 {X : XP} {p : Program} {l : Launch} {e : Env} {s : State} {m : MethodId} {args : Array Value} {below : List Frame} {meth : Method} {c : Code} {D : va_G} {cI cC : ClassId} {ad : Nat → Nat} {A : Nat → Prop} {xkept : Nat → Int32} {xisK : Int32} {xfound : Nat → Int32} {xgone : Int32} {xover : Nat → Int32} {xtape : Nat → Int32} {xwid : Nat → Int32} {xsiz : Nat → Int32} {xcel : Nat → Int32} {xcar : Nat → Int32} {r0 : Int32} {o_xs : Nat → Int32} {o_xaside : Nat → Int32} {o_xtaped : Int32} {o_xtok : Int32} {o_xbeg : Int32} {o_xend : Int32} {o_xval : Int64} (C0 : CX X p s m args meth c cX5_text 3 (some .int) RX5 A) : ∀ {xs : Nat → Int32} {xaside : Nat → Int32} {xtaped : Int32} {xtok : Int32} {xbeg : Int32} {xend : Int32} {xval : Int64} {v1 : Int32} {t0 : Int32} {H : Heap} {locs : List Loc} {ls : Array Slot}, GX X D (tyM cI cC) A s (wM cI cC ad xs xkept xaside xisK xfound xgone xover xtape xtaped xtok xbeg xend xval xwid xsiz xcel xcar) H locs → lv_has ls 3 [(0, .ref (ad 0)), (1, .int v1)] → j5_text_63  xs xaside xtape xtaped xtok xbeg xend xval v1 t0 = some (r0, o_xs, o_xaside, o_xtaped, o_xtok, o_xbeg, o_xend, o_xval) → W p l e ({ frames := 6, cells := 0, slots := 0, locals := 133 }) s m args below meth c H locs 0 0 (MQ below (QcI D (tyM cI cC) (wM cI cC ad o_xs xkept o_xaside xisK xfound xgone xover xtape o_xtaped o_xtok o_xbeg o_xend o_xval xwid xsiz xcel xcar) A r0) args s 0 0 A) (F0 m 63 ls [.int t0]) := by
  have hx := C0.1
  have hb := C0.2.1
  have hown := C0.2.2.2.2.1
  have hts := C0.2.2.2.2.2.1
  have hX := C0.2.2.2.2.2.2.2.2
  intro xs xaside xtaped xtok xbeg xend xval v1 t0 H locs ls G hl hf
  unfold j5_text_63 at hf
  refine lv_istore_n (lv' := [(2, .int t0), (0, .ref (ad 0)), (1, .int v1)]) hx hb dX5_text_63 rfl hl (by decide) rfl (fun ls hl => ?_)
  refine lv_aload_n hx hb dX5_text_64 rfl (lv_at hl 1 rfl) ?_
  refine lv_iconst (v := (0 : Int32)) hx hb dX5_text_65 (by decide) ?_
  refine s_put (C := RX5) (T := TX5) (w' := (wM cI cC ad xs xkept xaside xisK xfound xgone xover xtape (0 : Int32) xtok xbeg xend xval xwid xsiz xcel xcar)) C0 G i_X5 tyX5 tyX5_ok nmX5 0 8 rfl rfl (by decide) q721 rfl (ty := .int) (by decide +kernel) rfl rfl (Nat.le_of_ble_eq_true rfl) rfl dX5_text_66 (fun H locs G => ?_)
  refine lv_iload_n hx hb dX5_text_69 rfl (lv_at hl 0 rfl) ?_
  refine lv_if_ne (tgt := 84) hx hb dX5_text_70 (by decide) (fun hc31 => ?_) (fun hc31 => ?_)
  · have hf := itn hc31 hf
    refine lv_iload_n hx hb dX5_text_84 rfl (lv_at hl 2 rfl) ?_
    obtain ⟨rfl, rfl, rfl, rfl, rfl, rfl, rfl, rfl⟩ := inj8 hf
    exact ret_i C0 G dX5_text_85
  · have hf := itp hc31 hf
    refine lv_aload_n hx hb dX5_text_73 rfl (lv_at hl 1 rfl) ?_
    obtain ⟨xs_32, hc33, hf⟩ := ob1_s hf
    refine go_v C0 G (runV_of (n := 0) (q0 := 0) (As := []) (rest := []) C0 G (c5_laysBack hX hc33) q923 q54 q920 q922 q31 o5_laysBack ⟨rfl, rfl⟩ ⟨Nat.le_of_ble_eq_true rfl, Nat.le_of_ble_eq_true rfl⟩ rfl rfl rfl hl.1 rfl (Nat.le_of_ble_eq_true rfl) dX5_text_74) (fun H locs G => ?_)
    refine lv_iconst (v := (-1 : Int32)) hx hb dX5_text_77 (by decide) ?_
    refine lv_aload_n hx hb dX5_text_78 rfl (lv_at hl 1 rfl) ?_
    refine s_get (C := RX5) (T := TX5) C0 G i_X5 0 10 rfl rfl (by decide) q723 rfl dX5_text_79 ?_
    refine lv_isub hx hb dX5_text_82 ?_
    obtain ⟨rfl, rfl, rfl, rfl, rfl, rfl, rfl, rfl⟩ := inj8 hf
    exact ret_i C0 G dX5_text_83
set_option maxHeartbeats 4000000 in
set_option maxRecDepth 100000 in
theorem b5_text_62 {X : XP} {p : Program} {l : Launch} {e : Env} {s : State} {m : MethodId} {args : Array Value} {below : List Frame} {meth : Method} {c : Code} {D : va_G} {cI cC : ClassId} {ad : Nat → Nat} {A : Nat → Prop} {xkept : Nat → Int32} {xisK : Int32} {xfound : Nat → Int32} {xgone : Int32} {xover : Nat → Int32} {xtape : Nat → Int32} {xwid : Nat → Int32} {xsiz : Nat → Int32} {xcel : Nat → Int32} {xcar : Nat → Int32} {r0 : Int32} {o_xs : Nat → Int32} {o_xaside : Nat → Int32} {o_xtaped : Int32} {o_xtok : Int32} {o_xbeg : Int32} {o_xend : Int32} {o_xval : Int64} (C0 : CX X p s m args meth c cX5_text 3 (some .int) RX5 A) : ∀ {xs : Nat → Int32} {xaside : Nat → Int32} {xtaped : Int32} {xtok : Int32} {xbeg : Int32} {xend : Int32} {xval : Int64} {v1 : Int32} {H : Heap} {locs : List Loc} {ls : Array Slot}, GX X D (tyM cI cC) A s (wM cI cC ad xs xkept xaside xisK xfound xgone xover xtape xtaped xtok xbeg xend xval xwid xsiz xcel xcar) H locs → lv_has ls 3 [(0, .ref (ad 0)), (1, .int v1)] → j5_text_62  xs xaside xtape xtaped xtok xbeg xend xval v1 = some (r0, o_xs, o_xaside, o_xtaped, o_xtok, o_xbeg, o_xend, o_xval) → W p l e ({ frames := 6, cells := 0, slots := 0, locals := 133 }) s m args below meth c H locs 0 0 (MQ below (QcI D (tyM cI cC) (wM cI cC ad o_xs xkept o_xaside xisK xfound xgone xover xtape o_xtaped o_xtok o_xbeg o_xend o_xval xwid xsiz xcel xcar) A r0) args s 0 0 A) (F0 m 62 ls []) := by
  have hx := C0.1
  have hb := C0.2.1
  have hown := C0.2.2.2.2.1
  have hts := C0.2.2.2.2.2.1
  have hX := C0.2.2.2.2.2.2.2.2
  intro xs xaside xtaped xtok xbeg xend xval v1 H locs ls G hl hf
  unfold j5_text_62 at hf
  refine lv_iconst (v := (0 : Int32)) hx hb dX5_text_62 (by decide) ?_
  exact b5_text_63 C0  G (lv_sub hl [0, 1] rfl) hf
set_option maxHeartbeats 4000000 in
set_option maxRecDepth 100000 in
theorem b5_text_47 {X : XP} {p : Program} {l : Launch} {e : Env} {s : State} {m : MethodId} {args : Array Value} {below : List Frame} {meth : Method} {c : Code} {D : va_G} {cI cC : ClassId} {ad : Nat → Nat} {A : Nat → Prop} {xkept : Nat → Int32} {xisK : Int32} {xfound : Nat → Int32} {xgone : Int32} {xover : Nat → Int32} {xtape : Nat → Int32} {xwid : Nat → Int32} {xsiz : Nat → Int32} {xcel : Nat → Int32} {xcar : Nat → Int32} {r0 : Int32} {o_xs : Nat → Int32} {o_xaside : Nat → Int32} {o_xtaped : Int32} {o_xtok : Int32} {o_xbeg : Int32} {o_xend : Int32} {o_xval : Int64} (C0 : CX X p s m args meth c cX5_text 3 (some .int) RX5 A) : ∀ {xs : Nat → Int32} {xaside : Nat → Int32} {xtaped : Int32} {xtok : Int32} {xbeg : Int32} {xend : Int32} {xval : Int64} {v1 : Int32} {v2 : Int32} {H : Heap} {locs : List Loc} {ls : Array Slot}, GX X D (tyM cI cC) A s (wM cI cC ad xs xkept xaside xisK xfound xgone xover xtape xtaped xtok xbeg xend xval xwid xsiz xcel xcar) H locs → lv_has ls 3 [(0, .ref (ad 0)), (1, .int v1), (2, .int v2)] → j5_text_47  xs xaside xtape xtaped xtok xbeg xend xval v1 v2 = some (r0, o_xs, o_xaside, o_xtaped, o_xtok, o_xbeg, o_xend, o_xval) → W p l e ({ frames := 6, cells := 0, slots := 0, locals := 133 }) s m args below meth c H locs 0 0 (MQ below (QcI D (tyM cI cC) (wM cI cC ad o_xs xkept o_xaside xisK xfound xgone xover xtape o_xtaped o_xtok o_xbeg o_xend o_xval xwid xsiz xcel xcar) A r0) args s 0 0 A) (F0 m 47 ls []) := by
  have hx := C0.1
  have hb := C0.2.1
  have hown := C0.2.2.2.2.1
  have hts := C0.2.2.2.2.2.1
  have hX := C0.2.2.2.2.2.2.2.2
  intro xs xaside xtaped xtok xbeg xend xval v1 v2 H locs ls G hl hf
  unfold j5_text_47 at hf
  refine lv_iload_n hx hb dX5_text_47 rfl (lv_at hl 2 rfl) ?_
  refine lv_if_eq (tgt := 62) hx hb dX5_text_48 (by decide) (fun hc29 => ?_) (fun hc29 => ?_)
  · have hf := itp hc29 hf
    exact b5_text_62 C0  G (lv_sub hl [0, 1] rfl) hf
  · have hf := itn hc29 hf
    refine lv_aload_n hx hb dX5_text_51 rfl (lv_at hl 0 rfl) ?_
    refine s_get (C := RX5) (T := TX5) C0 G i_X5 0 9 rfl rfl (by decide) q722 rfl dX5_text_52 ?_
    refine lv_if_ne (tgt := 62) hx hb dX5_text_55 (by decide) (fun hc30 => ?_) (fun hc30 => ?_)
    · have hf := itn hc30 hf
      exact b5_text_62 C0  G (lv_sub hl [0, 1] rfl) hf
    · have hf := itp hc30 hf
      refine lv_iconst (v := (1 : Int32)) hx hb dX5_text_58 (by decide) ?_
      refine lv_goto (tgt := 63) hx hb dX5_text_59 (by decide) ?_
      exact b5_text_63 C0  G (lv_sub hl [0, 1] rfl) hf
set_option maxHeartbeats 4000000 in
set_option maxRecDepth 100000 in
theorem b5_text_20 {X : XP} {p : Program} {l : Launch} {e : Env} {s : State} {m : MethodId} {args : Array Value} {below : List Frame} {meth : Method} {c : Code} {D : va_G} {cI cC : ClassId} {ad : Nat → Nat} {A : Nat → Prop} {xkept : Nat → Int32} {xisK : Int32} {xfound : Nat → Int32} {xgone : Int32} {xover : Nat → Int32} {xtape : Nat → Int32} {xwid : Nat → Int32} {xsiz : Nat → Int32} {xcel : Nat → Int32} {xcar : Nat → Int32} {r0 : Int32} {o_xs : Nat → Int32} {o_xaside : Nat → Int32} {o_xtaped : Int32} {o_xtok : Int32} {o_xbeg : Int32} {o_xend : Int32} {o_xval : Int64} (C0 : CX X p s m args meth c cX5_text 3 (some .int) RX5 A) : ∀ (n : Nat) {xs : Nat → Int32} {xaside : Nat → Int32} {xtaped : Int32} {xtok : Int32} {xbeg : Int32} {xend : Int32} {xval : Int64} {v1 : Int32} {v2 : Int32} {H : Heap} {locs : List Loc} {ls : Array Slot}, GX X D (tyM cI cC) A s (wM cI cC ad xs xkept xaside xisK xfound xgone xover xtape xtaped xtok xbeg xend xval xwid xsiz xcel xcar) H locs → lv_has ls 3 [(0, .ref (ad 0)), (1, .int v1), (2, .int v2)] → l5_text_20  n xs xaside xtape xtaped xtok xbeg xend xval v1 v2 = some (r0, o_xs, o_xaside, o_xtaped, o_xtok, o_xbeg, o_xend, o_xval) → W p l e ({ frames := 6, cells := 0, slots := 0, locals := 133 }) s m args below meth c H locs 0 0 (MQ below (QcI D (tyM cI cC) (wM cI cC ad o_xs xkept o_xaside xisK xfound xgone xover xtape o_xtaped o_xtok o_xbeg o_xend o_xval xwid xsiz xcel xcar) A r0) args s 0 0 A) (F0 m 20 ls []) := by
  have hx := C0.1
  have hb := C0.2.1
  have hown := C0.2.2.2.2.1
  have hts := C0.2.2.2.2.2.1
  have hX := C0.2.2.2.2.2.2.2.2
  intro n
  induction n with
  | zero =>
    intro _ _ _ _ _ _ _ _ _ _ _ _ G hl hf
    cases hf
  | succ n ih =>
    intro xs xaside xtaped xtok xbeg xend xval v1 v2 H locs ls G hl hf
    rw [l5_text_20] at hf
    refine lv_iload_n hx hb dX5_text_20 rfl (lv_at hl 2 rfl) ?_
    refine lv_if_eq (tgt := 47) hx hb dX5_text_21 (by decide) (fun hc15 => ?_) (fun hc15 => ?_)
    · have hf := itp hc15 hf
      exact b5_text_47 C0  G (lv_sub hl [0, 1, 2] rfl) hf
    · have hf := itn hc15 hf
      refine lv_aload_n hx hb dX5_text_24 rfl (lv_at hl 0 rfl) ?_
      refine s_get (C := RX5) (T := TX5) C0 G i_X5 0 9 rfl rfl (by decide) q722 rfl dX5_text_25 ?_
      refine lv_iconst (v := (3 : Int32)) hx hb dX5_text_28 (by decide) ?_
      refine lv_icmp_ne (tgt := 47) hx hb dX5_text_29 (by decide) (fun hc16 => ?_) (fun hc16 => ?_)
      · have hf := itn hc16 hf
        exact b5_text_47 C0  G (lv_sub hl [0, 1, 2] rfl) hf
      · have hf := itp hc16 hf
        refine lv_aload_n hx hb dX5_text_32 rfl (lv_at hl 0 rfl) ?_
        obtain ⟨xtok_17, xbeg_18, xend_19, xval_20, hc21, hf⟩ := ob4_s hf
        refine go_v C0 G (runV_of (n := 0) (q0 := 0) (As := []) (rest := []) C0 G (c5_nextToken hX hc21) q1058 q54 q1055 q1057 q43 o5_nextToken ⟨rfl, rfl⟩ ⟨Nat.le_of_ble_eq_true rfl, Nat.le_of_ble_eq_true rfl⟩ rfl rfl rfl hl.1 rfl (Nat.le_of_ble_eq_true rfl) dX5_text_33) (fun H locs G => ?_)
        refine lv_aload_n hx hb dX5_text_36 rfl (lv_at hl 0 rfl) ?_
        obtain ⟨r22, xs_23, xtok_24, xbeg_25, xend_26, xval_27, hc28, hf⟩ := ob6_s hf
        refine go_i C0 G (runV_of (n := 0) (q0 := 0) (As := []) (rest := []) C0 G (c5_readsItem hX hc28) q1074 q54 q1071 q1073 q44 o5_readsItem ⟨rfl, rfl⟩ ⟨Nat.le_of_ble_eq_true rfl, Nat.le_of_ble_eq_true rfl⟩ rfl rfl rfl hl.1 rfl (Nat.le_of_ble_eq_true rfl) dX5_text_37) (fun H locs G => ?_)
        refine lv_istore_n (lv' := [(2, .int r22), (0, .ref (ad 0)), (1, .int v1)]) hx hb dX5_text_40 rfl hl (by decide) rfl (fun ls hl => ?_)
        refine lv_iinc (v := (v1 + (1 : Int32))) (lv' := [(1, .int (v1 + (1 : Int32))), (2, .int r22), (0, .ref (ad 0))]) hx hb dX5_text_41 hl (k := 2) rfl rfl (by decide) rfl (fun ls hl => ?_)
        refine lv_goto (tgt := 20) hx hb dX5_text_44 (by decide) ?_
        exact ih G (lv_sub hl [2, 0, 1] rfl) hf
set_option maxHeartbeats 4000000 in
set_option maxRecDepth 100000 in
theorem b5_text_0 {X : XP} {p : Program} {l : Launch} {e : Env} {s : State} {m : MethodId} {args : Array Value} {below : List Frame} {meth : Method} {c : Code} {D : va_G} {cI cC : ClassId} {ad : Nat → Nat} {A : Nat → Prop} {xkept : Nat → Int32} {xisK : Int32} {xfound : Nat → Int32} {xgone : Int32} {xover : Nat → Int32} {xtape : Nat → Int32} {xwid : Nat → Int32} {xsiz : Nat → Int32} {xcel : Nat → Int32} {xcar : Nat → Int32} {r0 : Int32} {o_xs : Nat → Int32} {o_xaside : Nat → Int32} {o_xtaped : Int32} {o_xtok : Int32} {o_xbeg : Int32} {o_xend : Int32} {o_xval : Int64} (C0 : CX X p s m args meth c cX5_text 3 (some .int) RX5 A) : ∀ {xs : Nat → Int32} {xaside : Nat → Int32} {xtaped : Int32} {xtok : Int32} {xbeg : Int32} {xend : Int32} {xval : Int64} {H : Heap} {locs : List Loc} {ls : Array Slot}, GX X D (tyM cI cC) A s (wM cI cC ad xs xkept xaside xisK xfound xgone xover xtape xtaped xtok xbeg xend xval xwid xsiz xcel xcar) H locs → lv_has ls 3 [(0, .ref (ad 0))] → f5_text xs xaside xtape xtaped xtok xbeg xend xval = some (r0, o_xs, o_xaside, o_xtaped, o_xtok, o_xbeg, o_xend, o_xval) → W p l e ({ frames := 6, cells := 0, slots := 0, locals := 133 }) s m args below meth c H locs 0 0 (MQ below (QcI D (tyM cI cC) (wM cI cC ad o_xs xkept o_xaside xisK xfound xgone xover xtape o_xtaped o_xtok o_xbeg o_xend o_xval xwid xsiz xcel xcar) A r0) args s 0 0 A) (F0 m 0 ls []) := by
  have hx := C0.1
  have hb := C0.2.1
  have hown := C0.2.2.2.2.1
  have hts := C0.2.2.2.2.2.1
  have hX := C0.2.2.2.2.2.2.2.2
  intro xs xaside xtaped xtok xbeg xend xval H locs ls G hl hf
  unfold f5_text at hf
  refine lv_aload_n hx hb dX5_text_0 rfl (lv_at hl 0 rfl) ?_
  obtain ⟨xaside_1, hc2, hf⟩ := ob1_s hf
  refine go_v C0 G (runV_of (n := 0) (q0 := 0) (As := []) (rest := []) C0 G (c5_setsAside hX hc2) q919 q54 q916 q918 q30 o5_setsAside ⟨rfl, rfl⟩ ⟨Nat.le_of_ble_eq_true rfl, Nat.le_of_ble_eq_true rfl⟩ rfl rfl rfl hl.1 rfl (Nat.le_of_ble_eq_true rfl) dX5_text_1) (fun H locs G => ?_)
  refine lv_aload_n hx hb dX5_text_4 rfl (lv_at hl 0 rfl) ?_
  refine lv_iconst (v := (0 : Int32)) hx hb dX5_text_5 (by decide) ?_
  refine s_put (C := RX5) (T := TX5) (w' := (wM cI cC ad xs xkept xaside_1 xisK xfound xgone xover xtape xtaped xtok xbeg (0 : Int32) xval xwid xsiz xcel xcar)) C0 G i_X5 tyX5 tyX5_ok nmX5 0 11 rfl rfl (by decide) q724 rfl (ty := .int) (by decide +kernel) rfl rfl (Nat.le_of_ble_eq_true rfl) rfl dX5_text_6 (fun H locs G => ?_)
  refine lv_aload_n hx hb dX5_text_9 rfl (lv_at hl 0 rfl) ?_
  obtain ⟨xtok_3, xbeg_4, xend_5, xval_6, hc7, hf⟩ := ob4_s hf
  refine go_v C0 G (runV_of (n := 0) (q0 := 0) (As := []) (rest := []) C0 G (c5_nextToken hX hc7) q1058 q54 q1055 q1057 q43 o5_nextToken ⟨rfl, rfl⟩ ⟨Nat.le_of_ble_eq_true rfl, Nat.le_of_ble_eq_true rfl⟩ rfl rfl rfl hl.1 rfl (Nat.le_of_ble_eq_true rfl) dX5_text_10) (fun H locs G => ?_)
  refine lv_iconst (v := (1 : Int32)) hx hb dX5_text_13 (by decide) ?_
  refine lv_istore_n (lv' := [(1, .int (1 : Int32)), (0, .ref (ad 0))]) hx hb dX5_text_14 rfl hl (by decide) rfl (fun ls hl => ?_)
  refine lv_aload_n hx hb dX5_text_15 rfl (lv_at hl 1 rfl) ?_
  obtain ⟨r8, xs_9, xtok_10, xbeg_11, xend_12, xval_13, hc14, hf⟩ := ob6_s hf
  refine go_i C0 G (runV_of (n := 0) (q0 := 0) (As := []) (rest := []) C0 G (c5_readsItem hX hc14) q1074 q54 q1071 q1073 q44 o5_readsItem ⟨rfl, rfl⟩ ⟨Nat.le_of_ble_eq_true rfl, Nat.le_of_ble_eq_true rfl⟩ rfl rfl rfl hl.1 rfl (Nat.le_of_ble_eq_true rfl) dX5_text_16) (fun H locs G => ?_)
  refine lv_istore_n (lv' := [(2, .int r8), (1, .int (1 : Int32)), (0, .ref (ad 0))]) hx hb dX5_text_19 rfl hl (by decide) rfl (fun ls hl => ?_)
  exact b5_text_20 C0  1000 G (lv_sub hl [2, 1, 0] rfl) hf
theorem o5_text : okName yX5_text 0 := ⟨by decide, by decide, by decide +kernel⟩
set_option maxHeartbeats 4000000 in
set_option maxRecDepth 100000 in
theorem c5_text {X : XP} (hX : XT X) {l : Launch} {D : va_G} {cI cC : ClassId} {ad : Nat → Nat} {sz : Nat} {xs : Nat → Int32} {xkept : Nat → Int32} {xaside : Nat → Int32} {xisK : Int32} {xfound : Nat → Int32} {xgone : Int32} {xover : Nat → Int32} {xtape : Nat → Int32} {xtaped : Int32} {xtok : Int32} {xbeg : Int32} {xend : Int32} {xval : Int64} {xwid : Nat → Int32} {xsiz : Nat → Int32} {xcel : Nat → Int32} {xcar : Nat → Int32}  {r0 : Int32} {o_xs : Nat → Int32} {o_xaside : Nat → Int32} {o_xtaped : Int32} {o_xtok : Int32} {o_xbeg : Int32} {o_xend : Int32} {o_xval : Int64} (hf : f5_text xs xaside xtape xtaped xtok xbeg xend xval = some (r0, o_xs, o_xaside, o_xtaped, o_xtok, o_xbeg, o_xend, o_xval)) : Met l yX5_text (wU yX5_text cX5_text 3 (some .int)) ({ frames := 6, cells := 0, slots := 0, locals := 133 }) (va_Pc [.ref (ad 0)] (PreW X D (tyM cI cC) (wM cI cC ad xs xkept xaside xisK xfound xgone xover xtape xtaped xtok xbeg xend xval xwid xsiz xcel xcar) sz)) (QcI D (tyM cI cC) (wM cI cC ad o_xs xkept o_xaside xisK xfound xgone xover xtape o_xtaped o_xtok o_xbeg o_xend o_xval xwid xsiz xcel xcar) (va_A (wM cI cC ad xs xkept xaside xisK xfound xgone xover xtape xtaped xtok xbeg xend xval xwid xsiz xcel xcar) sz) r0) 0 0 (va_A (wM cI cC ad xs xkept xaside xisK xfound xgone xover xtape xtaped xtok xbeg xend xval xwid xsiz xcel xcar) sz) := by
  refine startW hX (own := RX5) (by decide) rfl (Nat.le_of_ble_eq_true rfl) (fun p e s m args below meth c ls C0 G hl => ?_)
  exact b5_text_0 C0 G hl hf
/-! 5_isSpot -/
theorem dX5_isSpot_0 : decode cX5_isSpot 0 = .ok (.iload_n 0, 1) := by decide +kernel
theorem dX5_isSpot_1 : decode cX5_isSpot 1 = .ok (.iconst 0, 1) := by decide +kernel
theorem dX5_isSpot_2 : decode cX5_isSpot 2 = .ok (.bipush 9, 2) := by decide +kernel
theorem dX5_isSpot_4 : decode cX5_isSpot 4 = .ok (.invokestatic 51, 3) := by decide +kernel
theorem dX5_isSpot_7 : decode cX5_isSpot 7 = .ok (.ireturn, 1) := by decide +kernel
def f5_isSpot  (v0 : Int32) : Int32 :=
  (f5_in1 v0 (0 : Int32) (9 : Int32))
set_option maxHeartbeats 4000000 in
set_option maxRecDepth 100000 in
theorem b5_isSpot_0 {X : XP} {p : Program} {l : Launch} {e : Env} {s : State} {m : MethodId} {args : Array Value} {below : List Frame} {meth : Method} {c : Code} {D : va_G} {cI cC : ClassId} {ad : Nat → Nat} {A : Nat → Prop} {xs : Nat → Int32} {xkept : Nat → Int32} {xaside : Nat → Int32} {xisK : Int32} {xfound : Nat → Int32} {xgone : Int32} {xover : Nat → Int32} {xtape : Nat → Int32} {xtaped : Int32} {xtok : Int32} {xbeg : Int32} {xend : Int32} {xval : Int64} {xwid : Nat → Int32} {xsiz : Nat → Int32} {xcel : Nat → Int32} {xcar : Nat → Int32} {r0 : Int32} (C0 : CX X p s m args meth c cX5_isSpot 1 (some .boolean) RX5 A) : ∀ {v0 : Int32} {H : Heap} {locs : List Loc} {ls : Array Slot}, GX X D (tyM cI cC) A s (wM cI cC ad xs xkept xaside xisK xfound xgone xover xtape xtaped xtok xbeg xend xval xwid xsiz xcel xcar) H locs → lv_has ls 1 [(0, .int v0)] → f5_isSpot v0 = r0 → W p l e ({ frames := 1, cells := 0, slots := 0, locals := 22 }) s m args below meth c H locs 0 0 (MQ below (QcI D (tyM cI cC) (wM cI cC ad xs xkept xaside xisK xfound xgone xover xtape xtaped xtok xbeg xend xval xwid xsiz xcel xcar) A r0) args s 0 0 A) (F0 m 0 ls []) := by
  have hx := C0.1
  have hb := C0.2.1
  have hown := C0.2.2.2.2.1
  have hts := C0.2.2.2.2.2.1
  have hX := C0.2.2.2.2.2.2.2.2
  intro v0 H locs ls G hl hf
  unfold f5_isSpot at hf
  refine lv_iload_n hx hb dX5_isSpot_0 rfl (lv_at hl 0 rfl) ?_
  refine lv_iconst (v := (0 : Int32)) hx hb dX5_isSpot_1 (by decide) ?_
  refine lv_bipush (v := (9 : Int32)) hx hb dX5_isSpot_2 (by decide) ?_
  refine go_i C0 G (runS_of (n := 3) (As := [.int v0, .int (0 : Int32), .int (9 : Int32)]) (rest := []) C0 G (c5_in1 hX rfl) q784 q54 q782 q783 o5_in1 ⟨rfl, rfl⟩ ⟨Nat.le_of_ble_eq_true rfl, Nat.le_of_ble_eq_true rfl⟩ rfl hl.1 rfl (Nat.le_of_ble_eq_true rfl) dX5_isSpot_4) (fun H locs G => ?_)
  obtain rfl := tnj1 hf
  exact ret_z C0 G (b01_n (z5_in1 _ _ _)) dX5_isSpot_7
theorem z5_isSpot  (v0 : Int32) : b01 (f5_isSpot v0) = true := by
  unfold f5_isSpot
  (repeat' split) <;> first | rfl | exact z5_in1 _ _ _
theorem o5_isSpot : okName yX5_isSpot 1 := ⟨by decide, by decide, by decide +kernel⟩
set_option maxHeartbeats 4000000 in
set_option maxRecDepth 100000 in
theorem c5_isSpot {X : XP} (hX : XT X) {l : Launch} {D : va_G} {cI cC : ClassId} {ad : Nat → Nat} {sz : Nat} {xs : Nat → Int32} {xkept : Nat → Int32} {xaside : Nat → Int32} {xisK : Int32} {xfound : Nat → Int32} {xgone : Int32} {xover : Nat → Int32} {xtape : Nat → Int32} {xtaped : Int32} {xtok : Int32} {xbeg : Int32} {xend : Int32} {xval : Int64} {xwid : Nat → Int32} {xsiz : Nat → Int32} {xcel : Nat → Int32} {xcar : Nat → Int32} {v0 : Int32} {r0 : Int32} (hf : f5_isSpot v0 = r0) : Met l yX5_isSpot (wU yX5_isSpot cX5_isSpot 1 (some .boolean)) ({ frames := 1, cells := 0, slots := 0, locals := 22 }) (va_Pc [.int v0] (PreW X D (tyM cI cC) (wM cI cC ad xs xkept xaside xisK xfound xgone xover xtape xtaped xtok xbeg xend xval xwid xsiz xcel xcar) sz)) (QcI D (tyM cI cC) (wM cI cC ad xs xkept xaside xisK xfound xgone xover xtape xtaped xtok xbeg xend xval xwid xsiz xcel xcar) (va_A (wM cI cC ad xs xkept xaside xisK xfound xgone xover xtape xtaped xtok xbeg xend xval xwid xsiz xcel xcar) sz) r0) 0 0 (va_A (wM cI cC ad xs xkept xaside xisK xfound xgone xover xtape xtaped xtok xbeg xend xval xwid xsiz xcel xcar) sz) := by
  refine startW hX (own := RX5) (by decide) rfl (Nat.le_of_ble_eq_true rfl) (fun p e s m args below meth c ls C0 G hl => ?_)
  exact b5_isSpot_0 C0 G hl hf
/-! 5_hold -/
theorem dX5_hold_0 : decode cX5_hold 0 = .ok (.iload_n 1, 1) := by decide +kernel
theorem dX5_hold_1 : decode cX5_hold 1 = .ok (.invokestatic 247, 3) := by decide +kernel
theorem dX5_hold_4 : decode cX5_hold 4 = .ok (.ifCond .eq 16, 3) := by decide +kernel
theorem dX5_hold_7 : decode cX5_hold 7 = .ok (.iload_n 2, 1) := by decide +kernel
theorem dX5_hold_8 : decode cX5_hold 8 = .ok (.iconst (-1), 1) := by decide +kernel
theorem dX5_hold_9 : decode cX5_hold 9 = .ok (.if_icmp .eq 17, 3) := by decide +kernel
theorem dX5_hold_12 : decode cX5_hold 12 = .ok (.aload_n 0, 1) := by decide +kernel
theorem dX5_hold_13 : decode cX5_hold 13 = .ok (.iload_n 2, 1) := by decide +kernel
theorem dX5_hold_14 : decode cX5_hold 14 = .ok (.invokevirtual 111, 3) := by decide +kernel
theorem dX5_hold_17 : decode cX5_hold 17 = .ok (.ifCond .ne 9, 3) := by decide +kernel
theorem dX5_hold_20 : decode cX5_hold 20 = .ok (.aload_n 0, 1) := by decide +kernel
theorem dX5_hold_21 : decode cX5_hold 21 = .ok (.iconst 0, 1) := by decide +kernel
theorem dX5_hold_22 : decode cX5_hold 22 = .ok (.invokevirtual 105, 3) := by decide +kernel
theorem dX5_hold_25 : decode cX5_hold 25 = .ok (.ireturn, 1) := by decide +kernel
theorem dX5_hold_26 : decode cX5_hold 26 = .ok (.aload_n 0, 1) := by decide +kernel
theorem dX5_hold_27 : decode cX5_hold 27 = .ok (.getfield 9, 3) := by decide +kernel
theorem dX5_hold_30 : decode cX5_hold 30 = .ok (.bipush 78, 2) := by decide +kernel
theorem dX5_hold_32 : decode cX5_hold 32 = .ok (.iload_n 1, 1) := by decide +kernel
theorem dX5_hold_33 : decode cX5_hold 33 = .ok (.iadd, 1) := by decide +kernel
theorem dX5_hold_34 : decode cX5_hold 34 = .ok (.iload_n 2, 1) := by decide +kernel
theorem dX5_hold_35 : decode cX5_hold 35 = .ok (.iastore, 1) := by decide +kernel
theorem dX5_hold_36 : decode cX5_hold 36 = .ok (.iconst 1, 1) := by decide +kernel
theorem dX5_hold_37 : decode cX5_hold 37 = .ok (.ireturn, 1) := by decide +kernel
def j5_hold_20  (xs : Nat → Int32) (xfound : Nat → Int32)  : Option (Int32 × (Nat → Int32) × (Nat → Int32)) :=
  ob2 (f5_no xfound (0 : Int32)) (fun r4 xfound_5 =>
  some (r4, xs, xfound_5))
def j5_hold_26  (xs : Nat → Int32) (xfound : Nat → Int32) (v1 : Int32) (v2 : Int32) : Option (Int32 × (Nat → Int32) × (Nat → Int32)) :=
  gd (inb ((78 : Int32) + v1) 88) (
  some ((1 : Int32), (upd xs (((78 : Int32) + v1).toNatClampNeg) v2), xfound))
def f5_hold (xs : Nat → Int32) (xfound : Nat → Int32) (v1 : Int32) (v2 : Int32) : Option (Int32 × (Nat → Int32) × (Nat → Int32)) :=
  if (f5_isSpot v1) = (0 : Int32) then (
    j5_hold_20 xs xfound)
  else (
    if v2 = (-1 : Int32) then (
      j5_hold_26 xs xfound v1 v2)
    else (
      if (f5_isVisitor xs v2) = (0 : Int32) then (
        j5_hold_20 xs xfound)
      else (
        j5_hold_26 xs xfound v1 v2)))
set_option maxHeartbeats 4000000 in
set_option maxRecDepth 100000 in
theorem b5_hold_20 {X : XP} {p : Program} {l : Launch} {e : Env} {s : State} {m : MethodId} {args : Array Value} {below : List Frame} {meth : Method} {c : Code} {D : va_G} {cI cC : ClassId} {ad : Nat → Nat} {A : Nat → Prop} {xkept : Nat → Int32} {xaside : Nat → Int32} {xisK : Int32} {xgone : Int32} {xover : Nat → Int32} {xtape : Nat → Int32} {xtaped : Int32} {xtok : Int32} {xbeg : Int32} {xend : Int32} {xval : Int64} {xwid : Nat → Int32} {xsiz : Nat → Int32} {xcel : Nat → Int32} {xcar : Nat → Int32} {r0 : Int32} {o_xs : Nat → Int32} {o_xfound : Nat → Int32} (C0 : CX X p s m args meth c cX5_hold 3 (some .int) RX5 A) : ∀ {xs : Nat → Int32} {xfound : Nat → Int32} {H : Heap} {locs : List Loc} {ls : Array Slot}, GX X D (tyM cI cC) A s (wM cI cC ad xs xkept xaside xisK xfound xgone xover xtape xtaped xtok xbeg xend xval xwid xsiz xcel xcar) H locs → lv_has ls 3 [(0, .ref (ad 0))] → j5_hold_20  xs xfound = some (r0, o_xs, o_xfound) → W p l e ({ frames := 2, cells := 0, slots := 0, locals := 43 }) s m args below meth c H locs 0 0 (MQ below (QcI D (tyM cI cC) (wM cI cC ad o_xs xkept xaside xisK o_xfound xgone xover xtape xtaped xtok xbeg xend xval xwid xsiz xcel xcar) A r0) args s 0 0 A) (F0 m 20 ls []) := by
  have hx := C0.1
  have hb := C0.2.1
  have hown := C0.2.2.2.2.1
  have hts := C0.2.2.2.2.2.1
  have hX := C0.2.2.2.2.2.2.2.2
  intro xs xfound H locs ls G hl hf
  unfold j5_hold_20 at hf
  refine lv_aload_n hx hb dX5_hold_20 rfl (lv_at hl 0 rfl) ?_
  refine lv_iconst (v := (0 : Int32)) hx hb dX5_hold_21 (by decide) ?_
  obtain ⟨r4, xfound_5, hc6, hf⟩ := ob2_s hf
  refine go_i C0 G (runV_of (n := 1) (q0 := 0) (As := [.int (0 : Int32)]) (rest := []) C0 G (c5_no hX hc6) q788 q54 q785 q787 q9 o5_no ⟨rfl, rfl⟩ ⟨Nat.le_of_ble_eq_true rfl, Nat.le_of_ble_eq_true rfl⟩ rfl rfl rfl hl.1 rfl (Nat.le_of_ble_eq_true rfl) dX5_hold_22) (fun H locs G => ?_)
  obtain ⟨rfl, rfl, rfl⟩ := inj3 hf
  exact ret_i C0 G dX5_hold_25
set_option maxHeartbeats 4000000 in
set_option maxRecDepth 100000 in
theorem b5_hold_26 {X : XP} {p : Program} {l : Launch} {e : Env} {s : State} {m : MethodId} {args : Array Value} {below : List Frame} {meth : Method} {c : Code} {D : va_G} {cI cC : ClassId} {ad : Nat → Nat} {A : Nat → Prop} {xkept : Nat → Int32} {xaside : Nat → Int32} {xisK : Int32} {xgone : Int32} {xover : Nat → Int32} {xtape : Nat → Int32} {xtaped : Int32} {xtok : Int32} {xbeg : Int32} {xend : Int32} {xval : Int64} {xwid : Nat → Int32} {xsiz : Nat → Int32} {xcel : Nat → Int32} {xcar : Nat → Int32} {r0 : Int32} {o_xs : Nat → Int32} {o_xfound : Nat → Int32} (C0 : CX X p s m args meth c cX5_hold 3 (some .int) RX5 A) : ∀ {xs : Nat → Int32} {xfound : Nat → Int32} {v1 : Int32} {v2 : Int32} {H : Heap} {locs : List Loc} {ls : Array Slot}, GX X D (tyM cI cC) A s (wM cI cC ad xs xkept xaside xisK xfound xgone xover xtape xtaped xtok xbeg xend xval xwid xsiz xcel xcar) H locs → lv_has ls 3 [(0, .ref (ad 0)), (1, .int v1), (2, .int v2)] → j5_hold_26  xs xfound v1 v2 = some (r0, o_xs, o_xfound) → W p l e ({ frames := 2, cells := 0, slots := 0, locals := 43 }) s m args below meth c H locs 0 0 (MQ below (QcI D (tyM cI cC) (wM cI cC ad o_xs xkept xaside xisK o_xfound xgone xover xtape xtaped xtok xbeg xend xval xwid xsiz xcel xcar) A r0) args s 0 0 A) (F0 m 26 ls []) := by
  have hx := C0.1
  have hb := C0.2.1
  have hown := C0.2.2.2.2.1
  have hts := C0.2.2.2.2.2.1
  have hX := C0.2.2.2.2.2.2.2.2
  intro xs xfound v1 v2 H locs ls G hl hf
  unfold j5_hold_26 at hf
  refine lv_aload_n hx hb dX5_hold_26 rfl (lv_at hl 0 rfl) ?_
  refine s_get (C := RX5) (T := TX5) C0 G i_X5 0 0 rfl rfl (by decide) q713 rfl dX5_hold_27 ?_
  refine lv_bipush (v := (78 : Int32)) hx hb dX5_hold_30 (by decide) ?_
  refine lv_iload_n hx hb dX5_hold_32 rfl (lv_at hl 1 rfl) ?_
  refine lv_iadd hx hb dX5_hold_33 ?_
  refine lv_iload_n hx hb dX5_hold_34 rfl (lv_at hl 2 rfl) ?_
  obtain ⟨hi7, hf⟩ := gd_s hf
  refine s_iast (k := ((78 : Int32) + v1).toNatClampNeg) (w' := (wM cI cC ad (upd xs (((78 : Int32) + v1).toNatClampNeg) v2) xkept xaside xisK xfound xgone xover xtape xtaped xtok xbeg xend xval xwid xsiz xcel xcar)) C0 G 1 0 rfl rfl (vin hi7) rfl rfl dX5_hold_35 (fun H locs G => ?_)
  refine lv_iconst (v := (1 : Int32)) hx hb dX5_hold_36 (by decide) ?_
  obtain ⟨rfl, rfl, rfl⟩ := inj3 hf
  exact ret_i C0 G dX5_hold_37
set_option maxHeartbeats 4000000 in
set_option maxRecDepth 100000 in
theorem b5_hold_0 {X : XP} {p : Program} {l : Launch} {e : Env} {s : State} {m : MethodId} {args : Array Value} {below : List Frame} {meth : Method} {c : Code} {D : va_G} {cI cC : ClassId} {ad : Nat → Nat} {A : Nat → Prop} {xkept : Nat → Int32} {xaside : Nat → Int32} {xisK : Int32} {xgone : Int32} {xover : Nat → Int32} {xtape : Nat → Int32} {xtaped : Int32} {xtok : Int32} {xbeg : Int32} {xend : Int32} {xval : Int64} {xwid : Nat → Int32} {xsiz : Nat → Int32} {xcel : Nat → Int32} {xcar : Nat → Int32} {r0 : Int32} {o_xs : Nat → Int32} {o_xfound : Nat → Int32} (C0 : CX X p s m args meth c cX5_hold 3 (some .int) RX5 A) : ∀ {xs : Nat → Int32} {xfound : Nat → Int32} {v1 : Int32} {v2 : Int32} {H : Heap} {locs : List Loc} {ls : Array Slot}, GX X D (tyM cI cC) A s (wM cI cC ad xs xkept xaside xisK xfound xgone xover xtape xtaped xtok xbeg xend xval xwid xsiz xcel xcar) H locs → lv_has ls 3 [(0, .ref (ad 0)), (1, .int v1), (2, .int v2)] → f5_hold xs xfound v1 v2 = some (r0, o_xs, o_xfound) → W p l e ({ frames := 2, cells := 0, slots := 0, locals := 43 }) s m args below meth c H locs 0 0 (MQ below (QcI D (tyM cI cC) (wM cI cC ad o_xs xkept xaside xisK o_xfound xgone xover xtape xtaped xtok xbeg xend xval xwid xsiz xcel xcar) A r0) args s 0 0 A) (F0 m 0 ls []) := by
  have hx := C0.1
  have hb := C0.2.1
  have hown := C0.2.2.2.2.1
  have hts := C0.2.2.2.2.2.1
  have hX := C0.2.2.2.2.2.2.2.2
  intro xs xfound v1 v2 H locs ls G hl hf
  unfold f5_hold at hf
  refine lv_iload_n hx hb dX5_hold_0 rfl (lv_at hl 1 rfl) ?_
  refine go_i C0 G (runS_of (n := 1) (As := [.int v1]) (rest := []) C0 G (c5_isSpot hX rfl) q1093 q54 q1091 q1092 o5_isSpot ⟨rfl, rfl⟩ ⟨Nat.le_of_ble_eq_true rfl, Nat.le_of_ble_eq_true rfl⟩ rfl hl.1 rfl (Nat.le_of_ble_eq_true rfl) dX5_hold_1) (fun H locs G => ?_)
  refine lv_if_eq (tgt := 20) hx hb dX5_hold_4 (by decide) (fun hc1 => ?_) (fun hc1 => ?_)
  · have hf := itp hc1 hf
    exact b5_hold_20 C0  G (lv_sub hl [0] rfl) hf
  · have hf := itn hc1 hf
    refine lv_iload_n hx hb dX5_hold_7 rfl (lv_at hl 2 rfl) ?_
    refine lv_iconst (v := (-1 : Int32)) hx hb dX5_hold_8 (by decide) ?_
    refine lv_icmp_eq (tgt := 26) hx hb dX5_hold_9 (by decide) (fun hc2 => ?_) (fun hc2 => ?_)
    · have hf := itp hc2 hf
      exact b5_hold_26 C0  G (lv_sub hl [0, 1, 2] rfl) hf
    · have hf := itn hc2 hf
      refine lv_aload_n hx hb dX5_hold_12 rfl (lv_at hl 0 rfl) ?_
      refine lv_iload_n hx hb dX5_hold_13 rfl (lv_at hl 2 rfl) ?_
      refine go_i C0 G (runV_of (n := 1) (q0 := 0) (As := [.int v2]) (rest := []) C0 G (c5_isVisitor hX rfl) q825 q54 q822 q824 q14 o5_isVisitor ⟨rfl, rfl⟩ ⟨Nat.le_of_ble_eq_true rfl, Nat.le_of_ble_eq_true rfl⟩ rfl rfl rfl hl.1 rfl (Nat.le_of_ble_eq_true rfl) dX5_hold_14) (fun H locs G => ?_)
      refine lv_if_ne (tgt := 26) hx hb dX5_hold_17 (by decide) (fun hc3 => ?_) (fun hc3 => ?_)
      · have hf := itn hc3 hf
        exact b5_hold_26 C0  G (lv_sub hl [0, 1, 2] rfl) hf
      · have hf := itp hc3 hf
        exact b5_hold_20 C0  G (lv_sub hl [0] rfl) hf
theorem o5_hold : okName yX5_hold 2 := ⟨by decide, by decide, by decide +kernel⟩
set_option maxHeartbeats 4000000 in
set_option maxRecDepth 100000 in
theorem c5_hold {X : XP} (hX : XT X) {l : Launch} {D : va_G} {cI cC : ClassId} {ad : Nat → Nat} {sz : Nat} {xs : Nat → Int32} {xkept : Nat → Int32} {xaside : Nat → Int32} {xisK : Int32} {xfound : Nat → Int32} {xgone : Int32} {xover : Nat → Int32} {xtape : Nat → Int32} {xtaped : Int32} {xtok : Int32} {xbeg : Int32} {xend : Int32} {xval : Int64} {xwid : Nat → Int32} {xsiz : Nat → Int32} {xcel : Nat → Int32} {xcar : Nat → Int32} {v1 : Int32} {v2 : Int32} {r0 : Int32} {o_xs : Nat → Int32} {o_xfound : Nat → Int32} (hf : f5_hold xs xfound v1 v2 = some (r0, o_xs, o_xfound)) : Met l yX5_hold (wU yX5_hold cX5_hold 3 (some .int)) ({ frames := 2, cells := 0, slots := 0, locals := 43 }) (va_Pc [.ref (ad 0), .int v1, .int v2] (PreW X D (tyM cI cC) (wM cI cC ad xs xkept xaside xisK xfound xgone xover xtape xtaped xtok xbeg xend xval xwid xsiz xcel xcar) sz)) (QcI D (tyM cI cC) (wM cI cC ad o_xs xkept xaside xisK o_xfound xgone xover xtape xtaped xtok xbeg xend xval xwid xsiz xcel xcar) (va_A (wM cI cC ad xs xkept xaside xisK xfound xgone xover xtape xtaped xtok xbeg xend xval xwid xsiz xcel xcar) sz) r0) 0 0 (va_A (wM cI cC ad xs xkept xaside xisK xfound xgone xover xtape xtaped xtok xbeg xend xval xwid xsiz xcel xcar) sz) := by
  refine startW hX (own := RX5) (by decide) rfl (Nat.le_of_ble_eq_true rfl) (fun p e s m args below meth c ls C0 G hl => ?_)
  exact b5_hold_0 C0 G hl hf
/-! 5_above -/
theorem dX5_above_0 : decode cX5_above 0 = .ok (.iload_n 0, 1) := by decide +kernel
theorem dX5_above_1 : decode cX5_above 1 = .ok (.iconst 3, 1) := by decide +kernel
theorem dX5_above_2 : decode cX5_above 2 = .ok (.if_icmp .ne 7, 3) := by decide +kernel
theorem dX5_above_5 : decode cX5_above 5 = .ok (.iconst 1, 1) := by decide +kernel
theorem dX5_above_6 : decode cX5_above 6 = .ok (.goto 23, 3) := by decide +kernel
theorem dX5_above_9 : decode cX5_above 9 = .ok (.iload_n 0, 1) := by decide +kernel
theorem dX5_above_10 : decode cX5_above 10 = .ok (.iconst 4, 1) := by decide +kernel
theorem dX5_above_11 : decode cX5_above 11 = .ok (.if_icmp .ne 7, 3) := by decide +kernel
theorem dX5_above_14 : decode cX5_above 14 = .ok (.iconst 3, 1) := by decide +kernel
theorem dX5_above_15 : decode cX5_above 15 = .ok (.goto 14, 3) := by decide +kernel
theorem dX5_above_18 : decode cX5_above 18 = .ok (.iload_n 0, 1) := by decide +kernel
theorem dX5_above_19 : decode cX5_above 19 = .ok (.bipush 6, 2) := by decide +kernel
theorem dX5_above_21 : decode cX5_above 21 = .ok (.if_icmp .ne 7, 3) := by decide +kernel
theorem dX5_above_24 : decode cX5_above 24 = .ok (.iconst 2, 1) := by decide +kernel
theorem dX5_above_25 : decode cX5_above 25 = .ok (.goto 4, 3) := by decide +kernel
theorem dX5_above_28 : decode cX5_above 28 = .ok (.iconst 0, 1) := by decide +kernel
theorem dX5_above_29 : decode cX5_above 29 = .ok (.ireturn, 1) := by decide +kernel
def f5_above  (v0 : Int32) : Int32 :=
  if v0 = (3 : Int32) then (
    (1 : Int32))
  else (
    if v0 = (4 : Int32) then (
      (3 : Int32))
    else (
      if v0 = (6 : Int32) then (
        (2 : Int32))
      else (
        (0 : Int32))))
set_option maxHeartbeats 4000000 in
set_option maxRecDepth 100000 in
theorem b5_above_0 {X : XP} {p : Program} {l : Launch} {e : Env} {s : State} {m : MethodId} {args : Array Value} {below : List Frame} {meth : Method} {c : Code} {D : va_G} {cI cC : ClassId} {ad : Nat → Nat} {A : Nat → Prop} {xs : Nat → Int32} {xkept : Nat → Int32} {xaside : Nat → Int32} {xisK : Int32} {xfound : Nat → Int32} {xgone : Int32} {xover : Nat → Int32} {xtape : Nat → Int32} {xtaped : Int32} {xtok : Int32} {xbeg : Int32} {xend : Int32} {xval : Int64} {xwid : Nat → Int32} {xsiz : Nat → Int32} {xcel : Nat → Int32} {xcar : Nat → Int32} {r0 : Int32} (C0 : CX X p s m args meth c cX5_above 1 (some .int) RX5 A) : ∀ {v0 : Int32} {H : Heap} {locs : List Loc} {ls : Array Slot}, GX X D (tyM cI cC) A s (wM cI cC ad xs xkept xaside xisK xfound xgone xover xtape xtaped xtok xbeg xend xval xwid xsiz xcel xcar) H locs → lv_has ls 1 [(0, .int v0)] → f5_above v0 = r0 → W p l e ({ frames := 0, cells := 0, slots := 0, locals := 0 }) s m args below meth c H locs 0 0 (MQ below (QcI D (tyM cI cC) (wM cI cC ad xs xkept xaside xisK xfound xgone xover xtape xtaped xtok xbeg xend xval xwid xsiz xcel xcar) A r0) args s 0 0 A) (F0 m 0 ls []) := by
  have hx := C0.1
  have hb := C0.2.1
  have hown := C0.2.2.2.2.1
  have hts := C0.2.2.2.2.2.1
  have hX := C0.2.2.2.2.2.2.2.2
  intro v0 H locs ls G hl hf
  unfold f5_above at hf
  refine lv_iload_n hx hb dX5_above_0 rfl (lv_at hl 0 rfl) ?_
  refine lv_iconst (v := (3 : Int32)) hx hb dX5_above_1 (by decide) ?_
  refine lv_icmp_ne (tgt := 9) hx hb dX5_above_2 (by decide) (fun hc1 => ?_) (fun hc1 => ?_)
  · have hf := itn hc1 hf
    refine lv_iload_n hx hb dX5_above_9 rfl (lv_at hl 0 rfl) ?_
    refine lv_iconst (v := (4 : Int32)) hx hb dX5_above_10 (by decide) ?_
    refine lv_icmp_ne (tgt := 18) hx hb dX5_above_11 (by decide) (fun hc2 => ?_) (fun hc2 => ?_)
    · have hf := itn hc2 hf
      refine lv_iload_n hx hb dX5_above_18 rfl (lv_at hl 0 rfl) ?_
      refine lv_bipush (v := (6 : Int32)) hx hb dX5_above_19 (by decide) ?_
      refine lv_icmp_ne (tgt := 28) hx hb dX5_above_21 (by decide) (fun hc3 => ?_) (fun hc3 => ?_)
      · have hf := itn hc3 hf
        refine lv_iconst (v := (0 : Int32)) hx hb dX5_above_28 (by decide) ?_
        obtain rfl := tnj1 hf
        exact ret_i C0 G dX5_above_29
      · have hf := itp hc3 hf
        refine lv_iconst (v := (2 : Int32)) hx hb dX5_above_24 (by decide) ?_
        refine lv_goto (tgt := 29) hx hb dX5_above_25 (by decide) ?_
        obtain rfl := tnj1 hf
        exact ret_i C0 G dX5_above_29
    · have hf := itp hc2 hf
      refine lv_iconst (v := (3 : Int32)) hx hb dX5_above_14 (by decide) ?_
      refine lv_goto (tgt := 29) hx hb dX5_above_15 (by decide) ?_
      obtain rfl := tnj1 hf
      exact ret_i C0 G dX5_above_29
  · have hf := itp hc1 hf
    refine lv_iconst (v := (1 : Int32)) hx hb dX5_above_5 (by decide) ?_
    refine lv_goto (tgt := 29) hx hb dX5_above_6 (by decide) ?_
    obtain rfl := tnj1 hf
    exact ret_i C0 G dX5_above_29
theorem o5_above : okName yX5_above 1 := ⟨by decide, by decide, by decide +kernel⟩
set_option maxHeartbeats 4000000 in
set_option maxRecDepth 100000 in
theorem c5_above {X : XP} (hX : XT X) {l : Launch} {D : va_G} {cI cC : ClassId} {ad : Nat → Nat} {sz : Nat} {xs : Nat → Int32} {xkept : Nat → Int32} {xaside : Nat → Int32} {xisK : Int32} {xfound : Nat → Int32} {xgone : Int32} {xover : Nat → Int32} {xtape : Nat → Int32} {xtaped : Int32} {xtok : Int32} {xbeg : Int32} {xend : Int32} {xval : Int64} {xwid : Nat → Int32} {xsiz : Nat → Int32} {xcel : Nat → Int32} {xcar : Nat → Int32} {v0 : Int32} {r0 : Int32} (hf : f5_above v0 = r0) : Met l yX5_above (wU yX5_above cX5_above 1 (some .int)) ({ frames := 0, cells := 0, slots := 0, locals := 0 }) (va_Pc [.int v0] (PreW X D (tyM cI cC) (wM cI cC ad xs xkept xaside xisK xfound xgone xover xtape xtaped xtok xbeg xend xval xwid xsiz xcel xcar) sz)) (QcI D (tyM cI cC) (wM cI cC ad xs xkept xaside xisK xfound xgone xover xtape xtaped xtok xbeg xend xval xwid xsiz xcel xcar) (va_A (wM cI cC ad xs xkept xaside xisK xfound xgone xover xtape xtaped xtok xbeg xend xval xwid xsiz xcel xcar) sz) r0) 0 0 (va_A (wM cI cC ad xs xkept xaside xisK xfound xgone xover xtape xtaped xtok xbeg xend xval xwid xsiz xcel xcar) sz) := by
  refine startW hX (own := RX5) (by decide) rfl (Nat.le_of_ble_eq_true rfl) (fun p e s m args below meth c ls C0 G hl => ?_)
  exact b5_above_0 C0 G hl hf
/-! 5_as -/
theorem dX5_as_0 : decode cX5_as 0 = .ok (.iload_n 1, 1) := by decide +kernel
theorem dX5_as_1 : decode cX5_as 1 = .ok (.invokestatic 247, 3) := by decide +kernel
theorem dX5_as_4 : decode cX5_as 4 = .ok (.ifCond .eq 13, 3) := by decide +kernel
theorem dX5_as_7 : decode cX5_as 7 = .ok (.iload_n 2, 1) := by decide +kernel
theorem dX5_as_8 : decode cX5_as 8 = .ok (.iconst 0, 1) := by decide +kernel
theorem dX5_as_9 : decode cX5_as 9 = .ok (.bipush 6, 2) := by decide +kernel
theorem dX5_as_11 : decode cX5_as 11 = .ok (.invokestatic 51, 3) := by decide +kernel
theorem dX5_as_14 : decode cX5_as 14 = .ok (.ifCond .ne 9, 3) := by decide +kernel
theorem dX5_as_17 : decode cX5_as 17 = .ok (.aload_n 0, 1) := by decide +kernel
theorem dX5_as_18 : decode cX5_as 18 = .ok (.iconst 0, 1) := by decide +kernel
theorem dX5_as_19 : decode cX5_as 19 = .ok (.invokevirtual 105, 3) := by decide +kernel
theorem dX5_as_22 : decode cX5_as 22 = .ok (.ireturn, 1) := by decide +kernel
theorem dX5_as_23 : decode cX5_as 23 = .ok (.aload_n 0, 1) := by decide +kernel
theorem dX5_as_24 : decode cX5_as 24 = .ok (.getfield 9, 3) := by decide +kernel
theorem dX5_as_27 : decode cX5_as 27 = .ok (.bipush 78, 2) := by decide +kernel
theorem dX5_as_29 : decode cX5_as 29 = .ok (.iload_n 1, 1) := by decide +kernel
theorem dX5_as_30 : decode cX5_as 30 = .ok (.iadd, 1) := by decide +kernel
theorem dX5_as_31 : decode cX5_as 31 = .ok (.iaload, 1) := by decide +kernel
theorem dX5_as_32 : decode cX5_as 32 = .ok (.istore_n 3, 1) := by decide +kernel
theorem dX5_as_33 : decode cX5_as 33 = .ok (.iload_n 3, 1) := by decide +kernel
theorem dX5_as_34 : decode cX5_as 34 = .ok (.ifCond .ge 9, 3) := by decide +kernel
theorem dX5_as_37 : decode cX5_as 37 = .ok (.aload_n 0, 1) := by decide +kernel
theorem dX5_as_38 : decode cX5_as 38 = .ok (.iconst 5, 1) := by decide +kernel
theorem dX5_as_39 : decode cX5_as 39 = .ok (.invokevirtual 105, 3) := by decide +kernel
theorem dX5_as_42 : decode cX5_as 42 = .ok (.ireturn, 1) := by decide +kernel
theorem dX5_as_43 : decode cX5_as 43 = .ok (.aload_n 0, 1) := by decide +kernel
theorem dX5_as_44 : decode cX5_as 44 = .ok (.iload_n 3, 1) := by decide +kernel
theorem dX5_as_45 : decode cX5_as 45 = .ok (.iconst 0, 1) := by decide +kernel
theorem dX5_as_46 : decode cX5_as 46 = .ok (.invokevirtual 55, 3) := by decide +kernel
theorem dX5_as_49 : decode cX5_as 49 = .ok (.istore 4, 2) := by decide +kernel
theorem dX5_as_51 : decode cX5_as 51 = .ok (.iload 4, 2) := by decide +kernel
theorem dX5_as_53 : decode cX5_as 53 = .ok (.iload_n 2, 1) := by decide +kernel
theorem dX5_as_54 : decode cX5_as 54 = .ok (.if_icmp .eq 18, 3) := by decide +kernel
theorem dX5_as_57 : decode cX5_as 57 = .ok (.iload 4, 2) := by decide +kernel
theorem dX5_as_59 : decode cX5_as 59 = .ok (.ifCond .eq 13, 3) := by decide +kernel
theorem dX5_as_62 : decode cX5_as 62 = .ok (.iload 4, 2) := by decide +kernel
theorem dX5_as_64 : decode cX5_as 64 = .ok (.invokestatic 250, 3) := by decide +kernel
theorem dX5_as_67 : decode cX5_as 67 = .ok (.istore 4, 2) := by decide +kernel
theorem dX5_as_69 : decode cX5_as 69 = .ok (.goto (-18), 3) := by decide +kernel
theorem dX5_as_72 : decode cX5_as 72 = .ok (.iload 4, 2) := by decide +kernel
theorem dX5_as_74 : decode cX5_as 74 = .ok (.iload_n 2, 1) := by decide +kernel
theorem dX5_as_75 : decode cX5_as 75 = .ok (.if_icmp .ne 7, 3) := by decide +kernel
theorem dX5_as_78 : decode cX5_as 78 = .ok (.iload_n 3, 1) := by decide +kernel
theorem dX5_as_79 : decode cX5_as 79 = .ok (.goto 8, 3) := by decide +kernel
theorem dX5_as_82 : decode cX5_as 82 = .ok (.aload_n 0, 1) := by decide +kernel
theorem dX5_as_83 : decode cX5_as 83 = .ok (.iconst 2, 1) := by decide +kernel
theorem dX5_as_84 : decode cX5_as 84 = .ok (.invokevirtual 105, 3) := by decide +kernel
theorem dX5_as_87 : decode cX5_as 87 = .ok (.ireturn, 1) := by decide +kernel
def j5_as_17  (xs : Nat → Int32) (xfound : Nat → Int32)  : Option (Int32 × (Nat → Int32)) :=
  ob2 (f5_no xfound (0 : Int32)) (fun r10 xfound_11 =>
  some (r10, xfound_11))
def j5_as_72  (xs : Nat → Int32) (xfound : Nat → Int32) (v2 : Int32) (v3 : Int32) (v4 : Int32) : Option (Int32 × (Nat → Int32)) :=
  if v4 = v2 then (
    some (v3, xfound))
  else (
    ob2 (f5_no xfound (2 : Int32)) (fun r16 xfound_17 =>
    some (r16, xfound_17)))
def l5_as_51  : Nat → (Nat → Int32) → (Nat → Int32) → Int32 → Int32 → Int32 → Option (Int32 × (Nat → Int32))
  | 0, _, _, _, _, _ => none
  | n + 1, xs, xfound, v2, v3, v4 =>
    if v4 = v2 then (
      j5_as_72 xs xfound v2 v3 v4)
    else (
      if v4 = (0 : Int32) then (
        j5_as_72 xs xfound v2 v3 v4)
      else (
        (l5_as_51 n) xs xfound v2 v3 (f5_above v4)))
def f5_as (xs : Nat → Int32) (xfound : Nat → Int32) (v1 : Int32) (v2 : Int32) : Option (Int32 × (Nat → Int32)) :=
  if (f5_isSpot v1) = (0 : Int32) then (
    j5_as_17 xs xfound)
  else (
    if (f5_in1 v2 (0 : Int32) (6 : Int32)) = (0 : Int32) then (
      j5_as_17 xs xfound)
    else (
      gd (inb ((78 : Int32) + v1) 88) (
      if (0 : Int32) ≤ (xs (((78 : Int32) + v1).toNatClampNeg)) then (
        ob1 (f5_get xs (xs (((78 : Int32) + v1).toNatClampNeg)) (0 : Int32)) (fun r5 =>
        l5_as_51 1000 xs xfound v2 (xs (((78 : Int32) + v1).toNatClampNeg)) r5))
      else (
        ob2 (f5_no xfound (5 : Int32)) (fun r7 xfound_8 =>
        some (r7, xfound_8))))))
set_option maxHeartbeats 4000000 in
set_option maxRecDepth 100000 in
theorem b5_as_17 {X : XP} {p : Program} {l : Launch} {e : Env} {s : State} {m : MethodId} {args : Array Value} {below : List Frame} {meth : Method} {c : Code} {D : va_G} {cI cC : ClassId} {ad : Nat → Nat} {A : Nat → Prop} {xs : Nat → Int32} {xkept : Nat → Int32} {xaside : Nat → Int32} {xisK : Int32} {xgone : Int32} {xover : Nat → Int32} {xtape : Nat → Int32} {xtaped : Int32} {xtok : Int32} {xbeg : Int32} {xend : Int32} {xval : Int64} {xwid : Nat → Int32} {xsiz : Nat → Int32} {xcel : Nat → Int32} {xcar : Nat → Int32} {r0 : Int32} {o_xfound : Nat → Int32} (C0 : CX X p s m args meth c cX5_as 5 (some .int) RX5 A) : ∀ {xfound : Nat → Int32} {H : Heap} {locs : List Loc} {ls : Array Slot}, GX X D (tyM cI cC) A s (wM cI cC ad xs xkept xaside xisK xfound xgone xover xtape xtaped xtok xbeg xend xval xwid xsiz xcel xcar) H locs → lv_has ls 5 [(0, .ref (ad 0))] → j5_as_17  xs xfound = some (r0, o_xfound) → W p l e ({ frames := 2, cells := 0, slots := 0, locals := 42 }) s m args below meth c H locs 0 0 (MQ below (QcI D (tyM cI cC) (wM cI cC ad xs xkept xaside xisK o_xfound xgone xover xtape xtaped xtok xbeg xend xval xwid xsiz xcel xcar) A r0) args s 0 0 A) (F0 m 17 ls []) := by
  have hx := C0.1
  have hb := C0.2.1
  have hown := C0.2.2.2.2.1
  have hts := C0.2.2.2.2.2.1
  have hX := C0.2.2.2.2.2.2.2.2
  intro xfound H locs ls G hl hf
  unfold j5_as_17 at hf
  refine lv_aload_n hx hb dX5_as_17 rfl (lv_at hl 0 rfl) ?_
  refine lv_iconst (v := (0 : Int32)) hx hb dX5_as_18 (by decide) ?_
  obtain ⟨r10, xfound_11, hc12, hf⟩ := ob2_s hf
  refine go_i C0 G (runV_of (n := 1) (q0 := 0) (As := [.int (0 : Int32)]) (rest := []) C0 G (c5_no hX hc12) q788 q54 q785 q787 q9 o5_no ⟨rfl, rfl⟩ ⟨Nat.le_of_ble_eq_true rfl, Nat.le_of_ble_eq_true rfl⟩ rfl rfl rfl hl.1 rfl (Nat.le_of_ble_eq_true rfl) dX5_as_19) (fun H locs G => ?_)
  obtain ⟨rfl, rfl⟩ := inj2 hf
  exact ret_i C0 G dX5_as_22
set_option maxHeartbeats 4000000 in
set_option maxRecDepth 100000 in
theorem b5_as_72 {X : XP} {p : Program} {l : Launch} {e : Env} {s : State} {m : MethodId} {args : Array Value} {below : List Frame} {meth : Method} {c : Code} {D : va_G} {cI cC : ClassId} {ad : Nat → Nat} {A : Nat → Prop} {xs : Nat → Int32} {xkept : Nat → Int32} {xaside : Nat → Int32} {xisK : Int32} {xgone : Int32} {xover : Nat → Int32} {xtape : Nat → Int32} {xtaped : Int32} {xtok : Int32} {xbeg : Int32} {xend : Int32} {xval : Int64} {xwid : Nat → Int32} {xsiz : Nat → Int32} {xcel : Nat → Int32} {xcar : Nat → Int32} {r0 : Int32} {o_xfound : Nat → Int32} (C0 : CX X p s m args meth c cX5_as 5 (some .int) RX5 A) : ∀ {xfound : Nat → Int32} {v2 : Int32} {v3 : Int32} {v4 : Int32} {H : Heap} {locs : List Loc} {ls : Array Slot}, GX X D (tyM cI cC) A s (wM cI cC ad xs xkept xaside xisK xfound xgone xover xtape xtaped xtok xbeg xend xval xwid xsiz xcel xcar) H locs → lv_has ls 5 [(0, .ref (ad 0)), (2, .int v2), (3, .int v3), (4, .int v4)] → j5_as_72  xs xfound v2 v3 v4 = some (r0, o_xfound) → W p l e ({ frames := 2, cells := 0, slots := 0, locals := 42 }) s m args below meth c H locs 0 0 (MQ below (QcI D (tyM cI cC) (wM cI cC ad xs xkept xaside xisK o_xfound xgone xover xtape xtaped xtok xbeg xend xval xwid xsiz xcel xcar) A r0) args s 0 0 A) (F0 m 72 ls []) := by
  have hx := C0.1
  have hb := C0.2.1
  have hown := C0.2.2.2.2.1
  have hts := C0.2.2.2.2.2.1
  have hX := C0.2.2.2.2.2.2.2.2
  intro xfound v2 v3 v4 H locs ls G hl hf
  unfold j5_as_72 at hf
  refine lv_iload hx hb dX5_as_72 (lv_at hl 3 rfl) ?_
  refine lv_iload_n hx hb dX5_as_74 rfl (lv_at hl 1 rfl) ?_
  refine lv_icmp_ne (tgt := 82) hx hb dX5_as_75 (by decide) (fun hc15 => ?_) (fun hc15 => ?_)
  · have hf := itn hc15 hf
    refine lv_aload_n hx hb dX5_as_82 rfl (lv_at hl 0 rfl) ?_
    refine lv_iconst (v := (2 : Int32)) hx hb dX5_as_83 (by decide) ?_
    obtain ⟨r16, xfound_17, hc18, hf⟩ := ob2_s hf
    refine go_i C0 G (runV_of (n := 1) (q0 := 0) (As := [.int (2 : Int32)]) (rest := []) C0 G (c5_no hX hc18) q788 q54 q785 q787 q9 o5_no ⟨rfl, rfl⟩ ⟨Nat.le_of_ble_eq_true rfl, Nat.le_of_ble_eq_true rfl⟩ rfl rfl rfl hl.1 rfl (Nat.le_of_ble_eq_true rfl) dX5_as_84) (fun H locs G => ?_)
    obtain ⟨rfl, rfl⟩ := inj2 hf
    exact ret_i C0 G dX5_as_87
  · have hf := itp hc15 hf
    refine lv_iload_n hx hb dX5_as_78 rfl (lv_at hl 2 rfl) ?_
    refine lv_goto (tgt := 87) hx hb dX5_as_79 (by decide) ?_
    obtain ⟨rfl, rfl⟩ := inj2 hf
    exact ret_i C0 G dX5_as_87
set_option maxHeartbeats 4000000 in
set_option maxRecDepth 100000 in
theorem b5_as_51 {X : XP} {p : Program} {l : Launch} {e : Env} {s : State} {m : MethodId} {args : Array Value} {below : List Frame} {meth : Method} {c : Code} {D : va_G} {cI cC : ClassId} {ad : Nat → Nat} {A : Nat → Prop} {xs : Nat → Int32} {xkept : Nat → Int32} {xaside : Nat → Int32} {xisK : Int32} {xgone : Int32} {xover : Nat → Int32} {xtape : Nat → Int32} {xtaped : Int32} {xtok : Int32} {xbeg : Int32} {xend : Int32} {xval : Int64} {xwid : Nat → Int32} {xsiz : Nat → Int32} {xcel : Nat → Int32} {xcar : Nat → Int32} {r0 : Int32} {o_xfound : Nat → Int32} (C0 : CX X p s m args meth c cX5_as 5 (some .int) RX5 A) : ∀ (n : Nat) {xfound : Nat → Int32} {v2 : Int32} {v3 : Int32} {v4 : Int32} {H : Heap} {locs : List Loc} {ls : Array Slot}, GX X D (tyM cI cC) A s (wM cI cC ad xs xkept xaside xisK xfound xgone xover xtape xtaped xtok xbeg xend xval xwid xsiz xcel xcar) H locs → lv_has ls 5 [(0, .ref (ad 0)), (2, .int v2), (3, .int v3), (4, .int v4)] → l5_as_51  n xs xfound v2 v3 v4 = some (r0, o_xfound) → W p l e ({ frames := 2, cells := 0, slots := 0, locals := 42 }) s m args below meth c H locs 0 0 (MQ below (QcI D (tyM cI cC) (wM cI cC ad xs xkept xaside xisK o_xfound xgone xover xtape xtaped xtok xbeg xend xval xwid xsiz xcel xcar) A r0) args s 0 0 A) (F0 m 51 ls []) := by
  have hx := C0.1
  have hb := C0.2.1
  have hown := C0.2.2.2.2.1
  have hts := C0.2.2.2.2.2.1
  have hX := C0.2.2.2.2.2.2.2.2
  intro n
  induction n with
  | zero =>
    intro _ _ _ _ _ _ _ G hl hf
    cases hf
  | succ n ih =>
    intro xfound v2 v3 v4 H locs ls G hl hf
    rw [l5_as_51] at hf
    refine lv_iload hx hb dX5_as_51 (lv_at hl 3 rfl) ?_
    refine lv_iload_n hx hb dX5_as_53 rfl (lv_at hl 1 rfl) ?_
    refine lv_icmp_eq (tgt := 72) hx hb dX5_as_54 (by decide) (fun hc13 => ?_) (fun hc13 => ?_)
    · have hf := itp hc13 hf
      exact b5_as_72 C0  G (lv_sub hl [0, 1, 2, 3] rfl) hf
    · have hf := itn hc13 hf
      refine lv_iload hx hb dX5_as_57 (lv_at hl 3 rfl) ?_
      refine lv_if_eq (tgt := 72) hx hb dX5_as_59 (by decide) (fun hc14 => ?_) (fun hc14 => ?_)
      · have hf := itp hc14 hf
        exact b5_as_72 C0  G (lv_sub hl [0, 1, 2, 3] rfl) hf
      · have hf := itn hc14 hf
        refine lv_iload hx hb dX5_as_62 (lv_at hl 3 rfl) ?_
        refine go_i C0 G (runS_of (n := 1) (As := [.int v4]) (rest := []) C0 G (c5_above hX rfl) q1100 q54 q1098 q1099 o5_above ⟨rfl, rfl⟩ ⟨Nat.le_of_ble_eq_true rfl, Nat.le_of_ble_eq_true rfl⟩ rfl hl.1 rfl (Nat.le_of_ble_eq_true rfl) dX5_as_64) (fun H locs G => ?_)
        refine lv_istore (lv' := [(4, .int (f5_above v4)), (0, .ref (ad 0)), (2, .int v2), (3, .int v3)]) hx hb dX5_as_67 hl (by decide) rfl (fun ls hl => ?_)
        refine lv_goto (tgt := 51) hx hb dX5_as_69 (by decide) ?_
        exact ih G (lv_sub hl [1, 2, 3, 0] rfl) hf
set_option maxHeartbeats 4000000 in
set_option maxRecDepth 100000 in
theorem b5_as_0 {X : XP} {p : Program} {l : Launch} {e : Env} {s : State} {m : MethodId} {args : Array Value} {below : List Frame} {meth : Method} {c : Code} {D : va_G} {cI cC : ClassId} {ad : Nat → Nat} {A : Nat → Prop} {xs : Nat → Int32} {xkept : Nat → Int32} {xaside : Nat → Int32} {xisK : Int32} {xgone : Int32} {xover : Nat → Int32} {xtape : Nat → Int32} {xtaped : Int32} {xtok : Int32} {xbeg : Int32} {xend : Int32} {xval : Int64} {xwid : Nat → Int32} {xsiz : Nat → Int32} {xcel : Nat → Int32} {xcar : Nat → Int32} {r0 : Int32} {o_xfound : Nat → Int32} (C0 : CX X p s m args meth c cX5_as 5 (some .int) RX5 A) : ∀ {xfound : Nat → Int32} {v1 : Int32} {v2 : Int32} {H : Heap} {locs : List Loc} {ls : Array Slot}, GX X D (tyM cI cC) A s (wM cI cC ad xs xkept xaside xisK xfound xgone xover xtape xtaped xtok xbeg xend xval xwid xsiz xcel xcar) H locs → lv_has ls 5 [(0, .ref (ad 0)), (1, .int v1), (2, .int v2)] → f5_as xs xfound v1 v2 = some (r0, o_xfound) → W p l e ({ frames := 2, cells := 0, slots := 0, locals := 42 }) s m args below meth c H locs 0 0 (MQ below (QcI D (tyM cI cC) (wM cI cC ad xs xkept xaside xisK o_xfound xgone xover xtape xtaped xtok xbeg xend xval xwid xsiz xcel xcar) A r0) args s 0 0 A) (F0 m 0 ls []) := by
  have hx := C0.1
  have hb := C0.2.1
  have hown := C0.2.2.2.2.1
  have hts := C0.2.2.2.2.2.1
  have hX := C0.2.2.2.2.2.2.2.2
  intro xfound v1 v2 H locs ls G hl hf
  unfold f5_as at hf
  refine lv_iload_n hx hb dX5_as_0 rfl (lv_at hl 1 rfl) ?_
  refine go_i C0 G (runS_of (n := 1) (As := [.int v1]) (rest := []) C0 G (c5_isSpot hX rfl) q1093 q54 q1091 q1092 o5_isSpot ⟨rfl, rfl⟩ ⟨Nat.le_of_ble_eq_true rfl, Nat.le_of_ble_eq_true rfl⟩ rfl hl.1 rfl (Nat.le_of_ble_eq_true rfl) dX5_as_1) (fun H locs G => ?_)
  refine lv_if_eq (tgt := 17) hx hb dX5_as_4 (by decide) (fun hc1 => ?_) (fun hc1 => ?_)
  · have hf := itp hc1 hf
    exact b5_as_17 C0  G (lv_sub hl [0] rfl) hf
  · have hf := itn hc1 hf
    refine lv_iload_n hx hb dX5_as_7 rfl (lv_at hl 2 rfl) ?_
    refine lv_iconst (v := (0 : Int32)) hx hb dX5_as_8 (by decide) ?_
    refine lv_bipush (v := (6 : Int32)) hx hb dX5_as_9 (by decide) ?_
    refine go_i C0 G (runS_of (n := 3) (As := [.int v2, .int (0 : Int32), .int (6 : Int32)]) (rest := []) C0 G (c5_in1 hX rfl) q784 q54 q782 q783 o5_in1 ⟨rfl, rfl⟩ ⟨Nat.le_of_ble_eq_true rfl, Nat.le_of_ble_eq_true rfl⟩ rfl hl.1 rfl (Nat.le_of_ble_eq_true rfl) dX5_as_11) (fun H locs G => ?_)
    refine lv_if_ne (tgt := 23) hx hb dX5_as_14 (by decide) (fun hc2 => ?_) (fun hc2 => ?_)
    · have hf := itn hc2 hf
      refine lv_aload_n hx hb dX5_as_23 rfl (lv_at hl 0 rfl) ?_
      refine s_get (C := RX5) (T := TX5) C0 G i_X5 0 0 rfl rfl (by decide) q713 rfl dX5_as_24 ?_
      refine lv_bipush (v := (78 : Int32)) hx hb dX5_as_27 (by decide) ?_
      refine lv_iload_n hx hb dX5_as_29 rfl (lv_at hl 1 rfl) ?_
      refine lv_iadd hx hb dX5_as_30 ?_
      obtain ⟨hi3, hf⟩ := gd_s hf
      refine s_iald (k := ((78 : Int32) + v1).toNatClampNeg) C0 G 1 0 rfl rfl (vin hi3) rfl dX5_as_31 ?_
      refine lv_istore_n (lv' := [(3, .int (xs (((78 : Int32) + v1).toNatClampNeg))), (0, .ref (ad 0)), (1, .int v1), (2, .int v2)]) hx hb dX5_as_32 rfl hl (by decide) rfl (fun ls hl => ?_)
      refine lv_iload_n hx hb dX5_as_33 rfl (lv_at hl 0 rfl) ?_
      refine lv_if_ge (tgt := 43) hx hb dX5_as_34 (by decide) (fun hc4 => ?_) (fun hc4 => ?_)
      · have hf := itp hc4 hf
        refine lv_aload_n hx hb dX5_as_43 rfl (lv_at hl 1 rfl) ?_
        refine lv_iload_n hx hb dX5_as_44 rfl (lv_at hl 0 rfl) ?_
        refine lv_iconst (v := (0 : Int32)) hx hb dX5_as_45 (by decide) ?_
        obtain ⟨r5, hc6, hf⟩ := ob1_s hf
        refine go_i C0 G (runV_of (n := 2) (q0 := 0) (As := [.int (xs (((78 : Int32) + v1).toNatClampNeg)), .int (0 : Int32)]) (rest := []) C0 G (c5_get hX hc6) q801 q54 q798 q800 q11 o5_get ⟨rfl, rfl⟩ ⟨Nat.le_of_ble_eq_true rfl, Nat.le_of_ble_eq_true rfl⟩ rfl rfl rfl hl.1 rfl (Nat.le_of_ble_eq_true rfl) dX5_as_46) (fun H locs G => ?_)
        refine lv_istore (lv' := [(4, .int r5), (3, .int (xs (((78 : Int32) + v1).toNatClampNeg))), (0, .ref (ad 0)), (1, .int v1), (2, .int v2)]) hx hb dX5_as_49 hl (by decide) rfl (fun ls hl => ?_)
        exact b5_as_51 C0  1000 G (lv_sub hl [2, 4, 1, 0] rfl) hf
      · have hf := itn hc4 hf
        refine lv_aload_n hx hb dX5_as_37 rfl (lv_at hl 1 rfl) ?_
        refine lv_iconst (v := (5 : Int32)) hx hb dX5_as_38 (by decide) ?_
        obtain ⟨r7, xfound_8, hc9, hf⟩ := ob2_s hf
        refine go_i C0 G (runV_of (n := 1) (q0 := 0) (As := [.int (5 : Int32)]) (rest := []) C0 G (c5_no hX hc9) q788 q54 q785 q787 q9 o5_no ⟨rfl, rfl⟩ ⟨Nat.le_of_ble_eq_true rfl, Nat.le_of_ble_eq_true rfl⟩ rfl rfl rfl hl.1 rfl (Nat.le_of_ble_eq_true rfl) dX5_as_39) (fun H locs G => ?_)
        obtain ⟨rfl, rfl⟩ := inj2 hf
        exact ret_i C0 G dX5_as_42
    · have hf := itp hc2 hf
      exact b5_as_17 C0  G (lv_sub hl [0] rfl) hf
theorem o5_as : okName yX5_as 2 := ⟨by decide, by decide, by decide +kernel⟩
set_option maxHeartbeats 4000000 in
set_option maxRecDepth 100000 in
theorem c5_as {X : XP} (hX : XT X) {l : Launch} {D : va_G} {cI cC : ClassId} {ad : Nat → Nat} {sz : Nat} {xs : Nat → Int32} {xkept : Nat → Int32} {xaside : Nat → Int32} {xisK : Int32} {xfound : Nat → Int32} {xgone : Int32} {xover : Nat → Int32} {xtape : Nat → Int32} {xtaped : Int32} {xtok : Int32} {xbeg : Int32} {xend : Int32} {xval : Int64} {xwid : Nat → Int32} {xsiz : Nat → Int32} {xcel : Nat → Int32} {xcar : Nat → Int32} {v1 : Int32} {v2 : Int32} {r0 : Int32} {o_xfound : Nat → Int32} (hf : f5_as xs xfound v1 v2 = some (r0, o_xfound)) : Met l yX5_as (wU yX5_as cX5_as 5 (some .int)) ({ frames := 2, cells := 0, slots := 0, locals := 42 }) (va_Pc [.ref (ad 0), .int v1, .int v2] (PreW X D (tyM cI cC) (wM cI cC ad xs xkept xaside xisK xfound xgone xover xtape xtaped xtok xbeg xend xval xwid xsiz xcel xcar) sz)) (QcI D (tyM cI cC) (wM cI cC ad xs xkept xaside xisK o_xfound xgone xover xtape xtaped xtok xbeg xend xval xwid xsiz xcel xcar) (va_A (wM cI cC ad xs xkept xaside xisK xfound xgone xover xtape xtaped xtok xbeg xend xval xwid xsiz xcel xcar) sz) r0) 0 0 (va_A (wM cI cC ad xs xkept xaside xisK xfound xgone xover xtape xtaped xtok xbeg xend xval xwid xsiz xcel xcar) sz) := by
  refine startW hX (own := RX5) (by decide) rfl (Nat.le_of_ble_eq_true rfl) (fun p e s m args below meth c ls C0 G hl => ?_)
  exact b5_as_0 C0 G hl hf
/-! 5_sheet -/
theorem dX5_sheet_0 : decode cX5_sheet 0 = .ok (.iload_n 1, 1) := by decide +kernel
theorem dX5_sheet_1 : decode cX5_sheet 1 = .ok (.invokestatic 170, 3) := by decide +kernel
theorem dX5_sheet_4 : decode cX5_sheet 4 = .ok (.ifCond .eq 25, 3) := by decide +kernel
theorem dX5_sheet_7 : decode cX5_sheet 7 = .ok (.iload_n 2, 1) := by decide +kernel
theorem dX5_sheet_8 : decode cX5_sheet 8 = .ok (.ifCond .eq 27, 3) := by decide +kernel
theorem dX5_sheet_11 : decode cX5_sheet 11 = .ok (.iload_n 2, 1) := by decide +kernel
theorem dX5_sheet_12 : decode cX5_sheet 12 = .ok (.bipush 8, 2) := by decide +kernel
theorem dX5_sheet_14 : decode cX5_sheet 14 = .ok (.if_icmp .eq 21, 3) := by decide +kernel
theorem dX5_sheet_17 : decode cX5_sheet 17 = .ok (.iload_n 2, 1) := by decide +kernel
theorem dX5_sheet_18 : decode cX5_sheet 18 = .ok (.bipush 16, 2) := by decide +kernel
theorem dX5_sheet_20 : decode cX5_sheet 20 = .ok (.if_icmp .eq 15, 3) := by decide +kernel
theorem dX5_sheet_23 : decode cX5_sheet 23 = .ok (.iload_n 2, 1) := by decide +kernel
theorem dX5_sheet_24 : decode cX5_sheet 24 = .ok (.bipush 32, 2) := by decide +kernel
theorem dX5_sheet_26 : decode cX5_sheet 26 = .ok (.if_icmp .eq 9, 3) := by decide +kernel
theorem dX5_sheet_29 : decode cX5_sheet 29 = .ok (.aload_n 0, 1) := by decide +kernel
theorem dX5_sheet_30 : decode cX5_sheet 30 = .ok (.iconst 0, 1) := by decide +kernel
theorem dX5_sheet_31 : decode cX5_sheet 31 = .ok (.invokevirtual 105, 3) := by decide +kernel
theorem dX5_sheet_34 : decode cX5_sheet 34 = .ok (.ireturn, 1) := by decide +kernel
theorem dX5_sheet_35 : decode cX5_sheet 35 = .ok (.iload_n 3, 1) := by decide +kernel
theorem dX5_sheet_36 : decode cX5_sheet 36 = .ok (.ifCond .ge 10, 3) := by decide +kernel
theorem dX5_sheet_39 : decode cX5_sheet 39 = .ok (.aload_n 0, 1) := by decide +kernel
theorem dX5_sheet_40 : decode cX5_sheet 40 = .ok (.bipush 6, 2) := by decide +kernel
theorem dX5_sheet_42 : decode cX5_sheet 42 = .ok (.invokevirtual 105, 3) := by decide +kernel
theorem dX5_sheet_45 : decode cX5_sheet 45 = .ok (.ireturn, 1) := by decide +kernel
theorem dX5_sheet_46 : decode cX5_sheet 46 = .ok (.iload_n 3, 1) := by decide +kernel
theorem dX5_sheet_47 : decode cX5_sheet 47 = .ok (.bipush 40, 2) := by decide +kernel
theorem dX5_sheet_49 : decode cX5_sheet 49 = .ok (.if_icmp .le 9, 3) := by decide +kernel
theorem dX5_sheet_52 : decode cX5_sheet 52 = .ok (.aload_n 0, 1) := by decide +kernel
theorem dX5_sheet_53 : decode cX5_sheet 53 = .ok (.iconst 0, 1) := by decide +kernel
theorem dX5_sheet_54 : decode cX5_sheet 54 = .ok (.invokevirtual 105, 3) := by decide +kernel
theorem dX5_sheet_57 : decode cX5_sheet 57 = .ok (.ireturn, 1) := by decide +kernel
theorem dX5_sheet_58 : decode cX5_sheet 58 = .ok (.aload_n 0, 1) := by decide +kernel
theorem dX5_sheet_59 : decode cX5_sheet 59 = .ok (.getfield 38, 3) := by decide +kernel
theorem dX5_sheet_62 : decode cX5_sheet 62 = .ok (.iload_n 1, 1) := by decide +kernel
theorem dX5_sheet_63 : decode cX5_sheet 63 = .ok (.iload_n 2, 1) := by decide +kernel
theorem dX5_sheet_64 : decode cX5_sheet 64 = .ok (.iastore, 1) := by decide +kernel
theorem dX5_sheet_65 : decode cX5_sheet 65 = .ok (.aload_n 0, 1) := by decide +kernel
theorem dX5_sheet_66 : decode cX5_sheet 66 = .ok (.getfield 41, 3) := by decide +kernel
theorem dX5_sheet_69 : decode cX5_sheet 69 = .ok (.iload_n 1, 1) := by decide +kernel
theorem dX5_sheet_70 : decode cX5_sheet 70 = .ok (.iload_n 2, 1) := by decide +kernel
theorem dX5_sheet_71 : decode cX5_sheet 71 = .ok (.ifCond .ne 7, 3) := by decide +kernel
theorem dX5_sheet_74 : decode cX5_sheet 74 = .ok (.iconst 0, 1) := by decide +kernel
theorem dX5_sheet_75 : decode cX5_sheet 75 = .ok (.goto 4, 3) := by decide +kernel
theorem dX5_sheet_78 : decode cX5_sheet 78 = .ok (.iload_n 3, 1) := by decide +kernel
theorem dX5_sheet_79 : decode cX5_sheet 79 = .ok (.iastore, 1) := by decide +kernel
theorem dX5_sheet_80 : decode cX5_sheet 80 = .ok (.iconst 0, 1) := by decide +kernel
theorem dX5_sheet_81 : decode cX5_sheet 81 = .ok (.istore 4, 2) := by decide +kernel
theorem dX5_sheet_83 : decode cX5_sheet 83 = .ok (.iload 4, 2) := by decide +kernel
theorem dX5_sheet_85 : decode cX5_sheet 85 = .ok (.bipush 40, 2) := by decide +kernel
theorem dX5_sheet_87 : decode cX5_sheet 87 = .ok (.if_icmp .ge 22, 3) := by decide +kernel
theorem dX5_sheet_90 : decode cX5_sheet 90 = .ok (.aload_n 0, 1) := by decide +kernel
theorem dX5_sheet_91 : decode cX5_sheet 91 = .ok (.getfield 44, 3) := by decide +kernel
theorem dX5_sheet_94 : decode cX5_sheet 94 = .ok (.bipush 40, 2) := by decide +kernel
theorem dX5_sheet_96 : decode cX5_sheet 96 = .ok (.iload_n 1, 1) := by decide +kernel
theorem dX5_sheet_97 : decode cX5_sheet 97 = .ok (.imul, 1) := by decide +kernel
theorem dX5_sheet_98 : decode cX5_sheet 98 = .ok (.iload 4, 2) := by decide +kernel
theorem dX5_sheet_100 : decode cX5_sheet 100 = .ok (.iadd, 1) := by decide +kernel
theorem dX5_sheet_101 : decode cX5_sheet 101 = .ok (.iconst 0, 1) := by decide +kernel
theorem dX5_sheet_102 : decode cX5_sheet 102 = .ok (.iastore, 1) := by decide +kernel
theorem dX5_sheet_103 : decode cX5_sheet 103 = .ok (.iinc 4 1, 3) := by decide +kernel
theorem dX5_sheet_106 : decode cX5_sheet 106 = .ok (.goto (-23), 3) := by decide +kernel
theorem dX5_sheet_109 : decode cX5_sheet 109 = .ok (.aload_n 0, 1) := by decide +kernel
theorem dX5_sheet_110 : decode cX5_sheet 110 = .ok (.getfield 41, 3) := by decide +kernel
theorem dX5_sheet_113 : decode cX5_sheet 113 = .ok (.iload_n 1, 1) := by decide +kernel
theorem dX5_sheet_114 : decode cX5_sheet 114 = .ok (.iaload, 1) := by decide +kernel
theorem dX5_sheet_115 : decode cX5_sheet 115 = .ok (.ireturn, 1) := by decide +kernel
def j5_sheet_29  (xfound : Nat → Int32) (xwid : Nat → Int32) (xsiz : Nat → Int32) (xcel : Nat → Int32)  : Option (Int32 × (Nat → Int32) × (Nat → Int32) × (Nat → Int32) × (Nat → Int32)) :=
  ob2 (f5_no xfound (0 : Int32)) (fun r6 xfound_7 =>
  some (r6, xfound_7, xwid, xsiz, xcel))
def l5_sheet_83  : Nat → (Nat → Int32) → (Nat → Int32) → (Nat → Int32) → (Nat → Int32) → Int32 → Int32 → Option (Int32 × (Nat → Int32) × (Nat → Int32) × (Nat → Int32) × (Nat → Int32))
  | 0, _, _, _, _, _, _ => none
  | n + 1, xfound, xwid, xsiz, xcel, v1, v4 =>
    if (40 : Int32) ≤ v4 then (
      gd (inb v1 4) (
      some ((xsiz v1.toNatClampNeg), xfound, xwid, xsiz, xcel)))
    else (
      gd (inb (((40 : Int32) * v1) + v4) 160) (
      (l5_sheet_83 n) xfound xwid xsiz (upd xcel ((((40 : Int32) * v1) + v4).toNatClampNeg) (0 : Int32)) v1 (v4 + (1 : Int32))))
def j5_sheet_79  (xfound : Nat → Int32) (xwid : Nat → Int32) (xsiz : Nat → Int32) (xcel : Nat → Int32) (v1 : Int32) (t1 : Int32) (t2 : Int32) : Option (Int32 × (Nat → Int32) × (Nat → Int32) × (Nat → Int32) × (Nat → Int32)) :=
  gd (inb t1 4) (
  l5_sheet_83 1000 xfound xwid (upd xsiz t1.toNatClampNeg t2) xcel v1 (0 : Int32))
def j5_sheet_35  (xfound : Nat → Int32) (xwid : Nat → Int32) (xsiz : Nat → Int32) (xcel : Nat → Int32) (v1 : Int32) (v2 : Int32) (v3 : Int32) : Option (Int32 × (Nat → Int32) × (Nat → Int32) × (Nat → Int32) × (Nat → Int32)) :=
  if (0 : Int32) ≤ v3 then (
    if v3 ≤ (40 : Int32) then (
      gd (inb v1 4) (
      if v2 = (0 : Int32) then (
        j5_sheet_79 xfound (upd xwid v1.toNatClampNeg v2) xsiz xcel v1 v1 (0 : Int32))
      else (
        j5_sheet_79 xfound (upd xwid v1.toNatClampNeg v2) xsiz xcel v1 v1 v3)))
    else (
      ob2 (f5_no xfound (0 : Int32)) (fun r13 xfound_14 =>
      some (r13, xfound_14, xwid, xsiz, xcel))))
  else (
    ob2 (f5_no xfound (6 : Int32)) (fun r16 xfound_17 =>
    some (r16, xfound_17, xwid, xsiz, xcel)))
def f5_sheet (xfound : Nat → Int32) (xwid : Nat → Int32) (xsiz : Nat → Int32) (xcel : Nat → Int32) (v1 : Int32) (v2 : Int32) (v3 : Int32) : Option (Int32 × (Nat → Int32) × (Nat → Int32) × (Nat → Int32) × (Nat → Int32)) :=
  if (f5_isSheet v1) = (0 : Int32) then (
    j5_sheet_29 xfound xwid xsiz xcel)
  else (
    if v2 = (0 : Int32) then (
      j5_sheet_35 xfound xwid xsiz xcel v1 v2 v3)
    else (
      if v2 = (8 : Int32) then (
        j5_sheet_35 xfound xwid xsiz xcel v1 v2 v3)
      else (
        if v2 = (16 : Int32) then (
          j5_sheet_35 xfound xwid xsiz xcel v1 v2 v3)
        else (
          if v2 = (32 : Int32) then (
            j5_sheet_35 xfound xwid xsiz xcel v1 v2 v3)
          else (
            j5_sheet_29 xfound xwid xsiz xcel)))))
set_option maxHeartbeats 4000000 in
set_option maxRecDepth 100000 in
theorem b5_sheet_29 {X : XP} {p : Program} {l : Launch} {e : Env} {s : State} {m : MethodId} {args : Array Value} {below : List Frame} {meth : Method} {c : Code} {D : va_G} {cI cC : ClassId} {ad : Nat → Nat} {A : Nat → Prop} {xs : Nat → Int32} {xkept : Nat → Int32} {xaside : Nat → Int32} {xisK : Int32} {xgone : Int32} {xover : Nat → Int32} {xtape : Nat → Int32} {xtaped : Int32} {xtok : Int32} {xbeg : Int32} {xend : Int32} {xval : Int64} {xcar : Nat → Int32} {r0 : Int32} {o_xfound : Nat → Int32} {o_xwid : Nat → Int32} {o_xsiz : Nat → Int32} {o_xcel : Nat → Int32} (C0 : CX X p s m args meth c cX5_sheet 5 (some .int) RX5 A) : ∀ {xfound : Nat → Int32} {xwid : Nat → Int32} {xsiz : Nat → Int32} {xcel : Nat → Int32} {H : Heap} {locs : List Loc} {ls : Array Slot}, GX X D (tyM cI cC) A s (wM cI cC ad xs xkept xaside xisK xfound xgone xover xtape xtaped xtok xbeg xend xval xwid xsiz xcel xcar) H locs → lv_has ls 5 [(0, .ref (ad 0))] → j5_sheet_29  xfound xwid xsiz xcel = some (r0, o_xfound, o_xwid, o_xsiz, o_xcel) → W p l e ({ frames := 2, cells := 0, slots := 0, locals := 42 }) s m args below meth c H locs 0 0 (MQ below (QcI D (tyM cI cC) (wM cI cC ad xs xkept xaside xisK o_xfound xgone xover xtape xtaped xtok xbeg xend xval o_xwid o_xsiz o_xcel xcar) A r0) args s 0 0 A) (F0 m 29 ls []) := by
  have hx := C0.1
  have hb := C0.2.1
  have hown := C0.2.2.2.2.1
  have hts := C0.2.2.2.2.2.1
  have hX := C0.2.2.2.2.2.2.2.2
  intro xfound xwid xsiz xcel H locs ls G hl hf
  unfold j5_sheet_29 at hf
  refine lv_aload_n hx hb dX5_sheet_29 rfl (lv_at hl 0 rfl) ?_
  refine lv_iconst (v := (0 : Int32)) hx hb dX5_sheet_30 (by decide) ?_
  obtain ⟨r6, xfound_7, hc8, hf⟩ := ob2_s hf
  refine go_i C0 G (runV_of (n := 1) (q0 := 0) (As := [.int (0 : Int32)]) (rest := []) C0 G (c5_no hX hc8) q788 q54 q785 q787 q9 o5_no ⟨rfl, rfl⟩ ⟨Nat.le_of_ble_eq_true rfl, Nat.le_of_ble_eq_true rfl⟩ rfl rfl rfl hl.1 rfl (Nat.le_of_ble_eq_true rfl) dX5_sheet_31) (fun H locs G => ?_)
  obtain ⟨rfl, rfl, rfl, rfl, rfl⟩ := inj5 hf
  exact ret_i C0 G dX5_sheet_34
set_option maxHeartbeats 4000000 in
set_option maxRecDepth 100000 in
theorem b5_sheet_83 {X : XP} {p : Program} {l : Launch} {e : Env} {s : State} {m : MethodId} {args : Array Value} {below : List Frame} {meth : Method} {c : Code} {D : va_G} {cI cC : ClassId} {ad : Nat → Nat} {A : Nat → Prop} {xs : Nat → Int32} {xkept : Nat → Int32} {xaside : Nat → Int32} {xisK : Int32} {xgone : Int32} {xover : Nat → Int32} {xtape : Nat → Int32} {xtaped : Int32} {xtok : Int32} {xbeg : Int32} {xend : Int32} {xval : Int64} {xcar : Nat → Int32} {r0 : Int32} {o_xfound : Nat → Int32} {o_xwid : Nat → Int32} {o_xsiz : Nat → Int32} {o_xcel : Nat → Int32} (C0 : CX X p s m args meth c cX5_sheet 5 (some .int) RX5 A) : ∀ (n : Nat) {xfound : Nat → Int32} {xwid : Nat → Int32} {xsiz : Nat → Int32} {xcel : Nat → Int32} {v1 : Int32} {v4 : Int32} {H : Heap} {locs : List Loc} {ls : Array Slot}, GX X D (tyM cI cC) A s (wM cI cC ad xs xkept xaside xisK xfound xgone xover xtape xtaped xtok xbeg xend xval xwid xsiz xcel xcar) H locs → lv_has ls 5 [(0, .ref (ad 0)), (1, .int v1), (4, .int v4)] → l5_sheet_83  n xfound xwid xsiz xcel v1 v4 = some (r0, o_xfound, o_xwid, o_xsiz, o_xcel) → W p l e ({ frames := 2, cells := 0, slots := 0, locals := 42 }) s m args below meth c H locs 0 0 (MQ below (QcI D (tyM cI cC) (wM cI cC ad xs xkept xaside xisK o_xfound xgone xover xtape xtaped xtok xbeg xend xval o_xwid o_xsiz o_xcel xcar) A r0) args s 0 0 A) (F0 m 83 ls []) := by
  have hx := C0.1
  have hb := C0.2.1
  have hown := C0.2.2.2.2.1
  have hts := C0.2.2.2.2.2.1
  have hX := C0.2.2.2.2.2.2.2.2
  intro n
  induction n with
  | zero =>
    intro _ _ _ _ _ _ _ _ _ G hl hf
    cases hf
  | succ n ih =>
    intro xfound xwid xsiz xcel v1 v4 H locs ls G hl hf
    rw [l5_sheet_83] at hf
    refine lv_iload hx hb dX5_sheet_83 (lv_at hl 2 rfl) ?_
    refine lv_bipush (v := (40 : Int32)) hx hb dX5_sheet_85 (by decide) ?_
    refine lv_icmp_ge (tgt := 109) hx hb dX5_sheet_87 (by decide) (fun hc20 => ?_) (fun hc20 => ?_)
    · have hf := itp hc20 hf
      refine lv_aload_n hx hb dX5_sheet_109 rfl (lv_at hl 0 rfl) ?_
      refine s_get (C := RX5) (T := TX5) C0 G i_X5 0 17 rfl rfl (by decide) q730 rfl dX5_sheet_110 ?_
      refine lv_iload_n hx hb dX5_sheet_113 rfl (lv_at hl 1 rfl) ?_
      obtain ⟨hi21, hf⟩ := gd_s hf
      refine s_iald (k := v1.toNatClampNeg) C0 G 11 0 rfl rfl (vin hi21) rfl dX5_sheet_114 ?_
      obtain ⟨rfl, rfl, rfl, rfl, rfl⟩ := inj5 hf
      exact ret_i C0 G dX5_sheet_115
    · have hf := itn hc20 hf
      refine lv_aload_n hx hb dX5_sheet_90 rfl (lv_at hl 0 rfl) ?_
      refine s_get (C := RX5) (T := TX5) C0 G i_X5 0 18 rfl rfl (by decide) q731 rfl dX5_sheet_91 ?_
      refine lv_bipush (v := (40 : Int32)) hx hb dX5_sheet_94 (by decide) ?_
      refine lv_iload_n hx hb dX5_sheet_96 rfl (lv_at hl 1 rfl) ?_
      refine lv_imul hx hb dX5_sheet_97 ?_
      refine lv_iload hx hb dX5_sheet_98 (lv_at hl 2 rfl) ?_
      refine lv_iadd hx hb dX5_sheet_100 ?_
      refine lv_iconst (v := (0 : Int32)) hx hb dX5_sheet_101 (by decide) ?_
      obtain ⟨hi22, hf⟩ := gd_s hf
      refine s_iast (k := (((40 : Int32) * v1) + v4).toNatClampNeg) (w' := (wM cI cC ad xs xkept xaside xisK xfound xgone xover xtape xtaped xtok xbeg xend xval xwid xsiz (upd xcel ((((40 : Int32) * v1) + v4).toNatClampNeg) (0 : Int32)) xcar)) C0 G 12 0 rfl rfl (vin hi22) rfl rfl dX5_sheet_102 (fun H locs G => ?_)
      refine lv_iinc (v := (v4 + (1 : Int32))) (lv' := [(4, .int (v4 + (1 : Int32))), (0, .ref (ad 0)), (1, .int v1)]) hx hb dX5_sheet_103 hl (k := 2) rfl rfl (by decide) rfl (fun ls hl => ?_)
      refine lv_goto (tgt := 83) hx hb dX5_sheet_106 (by decide) ?_
      exact ih G (lv_sub hl [1, 2, 0] rfl) hf
set_option maxHeartbeats 4000000 in
set_option maxRecDepth 100000 in
theorem b5_sheet_79 {X : XP} {p : Program} {l : Launch} {e : Env} {s : State} {m : MethodId} {args : Array Value} {below : List Frame} {meth : Method} {c : Code} {D : va_G} {cI cC : ClassId} {ad : Nat → Nat} {A : Nat → Prop} {xs : Nat → Int32} {xkept : Nat → Int32} {xaside : Nat → Int32} {xisK : Int32} {xgone : Int32} {xover : Nat → Int32} {xtape : Nat → Int32} {xtaped : Int32} {xtok : Int32} {xbeg : Int32} {xend : Int32} {xval : Int64} {xcar : Nat → Int32} {r0 : Int32} {o_xfound : Nat → Int32} {o_xwid : Nat → Int32} {o_xsiz : Nat → Int32} {o_xcel : Nat → Int32} (C0 : CX X p s m args meth c cX5_sheet 5 (some .int) RX5 A) : ∀ {xfound : Nat → Int32} {xwid : Nat → Int32} {xsiz : Nat → Int32} {xcel : Nat → Int32} {v1 : Int32} {t1 : Int32} {t2 : Int32} {H : Heap} {locs : List Loc} {ls : Array Slot}, GX X D (tyM cI cC) A s (wM cI cC ad xs xkept xaside xisK xfound xgone xover xtape xtaped xtok xbeg xend xval xwid xsiz xcel xcar) H locs → lv_has ls 5 [(0, .ref (ad 0)), (1, .int v1)] → j5_sheet_79  xfound xwid xsiz xcel v1 t1 t2 = some (r0, o_xfound, o_xwid, o_xsiz, o_xcel) → W p l e ({ frames := 2, cells := 0, slots := 0, locals := 42 }) s m args below meth c H locs 0 0 (MQ below (QcI D (tyM cI cC) (wM cI cC ad xs xkept xaside xisK o_xfound xgone xover xtape xtaped xtok xbeg xend xval o_xwid o_xsiz o_xcel xcar) A r0) args s 0 0 A) (F0 m 79 ls [.int t2, .int t1, .ref (ad 11)]) := by
  have hx := C0.1
  have hb := C0.2.1
  have hown := C0.2.2.2.2.1
  have hts := C0.2.2.2.2.2.1
  have hX := C0.2.2.2.2.2.2.2.2
  intro xfound xwid xsiz xcel v1 t1 t2 H locs ls G hl hf
  unfold j5_sheet_79 at hf
  obtain ⟨hi19, hf⟩ := gd_s hf
  refine s_iast (k := t1.toNatClampNeg) (w' := (wM cI cC ad xs xkept xaside xisK xfound xgone xover xtape xtaped xtok xbeg xend xval xwid (upd xsiz t1.toNatClampNeg t2) xcel xcar)) C0 G 11 0 rfl rfl (vin hi19) rfl rfl dX5_sheet_79 (fun H locs G => ?_)
  refine lv_iconst (v := (0 : Int32)) hx hb dX5_sheet_80 (by decide) ?_
  refine lv_istore (lv' := [(4, .int (0 : Int32)), (0, .ref (ad 0)), (1, .int v1)]) hx hb dX5_sheet_81 hl (by decide) rfl (fun ls hl => ?_)
  exact b5_sheet_83 C0  1000 G (lv_sub hl [1, 2, 0] rfl) hf
set_option maxHeartbeats 4000000 in
set_option maxRecDepth 100000 in
theorem b5_sheet_35 {X : XP} {p : Program} {l : Launch} {e : Env} {s : State} {m : MethodId} {args : Array Value} {below : List Frame} {meth : Method} {c : Code} {D : va_G} {cI cC : ClassId} {ad : Nat → Nat} {A : Nat → Prop} {xs : Nat → Int32} {xkept : Nat → Int32} {xaside : Nat → Int32} {xisK : Int32} {xgone : Int32} {xover : Nat → Int32} {xtape : Nat → Int32} {xtaped : Int32} {xtok : Int32} {xbeg : Int32} {xend : Int32} {xval : Int64} {xcar : Nat → Int32} {r0 : Int32} {o_xfound : Nat → Int32} {o_xwid : Nat → Int32} {o_xsiz : Nat → Int32} {o_xcel : Nat → Int32} (C0 : CX X p s m args meth c cX5_sheet 5 (some .int) RX5 A) : ∀ {xfound : Nat → Int32} {xwid : Nat → Int32} {xsiz : Nat → Int32} {xcel : Nat → Int32} {v1 : Int32} {v2 : Int32} {v3 : Int32} {H : Heap} {locs : List Loc} {ls : Array Slot}, GX X D (tyM cI cC) A s (wM cI cC ad xs xkept xaside xisK xfound xgone xover xtape xtaped xtok xbeg xend xval xwid xsiz xcel xcar) H locs → lv_has ls 5 [(0, .ref (ad 0)), (1, .int v1), (2, .int v2), (3, .int v3)] → j5_sheet_35  xfound xwid xsiz xcel v1 v2 v3 = some (r0, o_xfound, o_xwid, o_xsiz, o_xcel) → W p l e ({ frames := 2, cells := 0, slots := 0, locals := 42 }) s m args below meth c H locs 0 0 (MQ below (QcI D (tyM cI cC) (wM cI cC ad xs xkept xaside xisK o_xfound xgone xover xtape xtaped xtok xbeg xend xval o_xwid o_xsiz o_xcel xcar) A r0) args s 0 0 A) (F0 m 35 ls []) := by
  have hx := C0.1
  have hb := C0.2.1
  have hown := C0.2.2.2.2.1
  have hts := C0.2.2.2.2.2.1
  have hX := C0.2.2.2.2.2.2.2.2
  intro xfound xwid xsiz xcel v1 v2 v3 H locs ls G hl hf
  unfold j5_sheet_35 at hf
  refine lv_iload_n hx hb dX5_sheet_35 rfl (lv_at hl 3 rfl) ?_
  refine lv_if_ge (tgt := 46) hx hb dX5_sheet_36 (by decide) (fun hc9 => ?_) (fun hc9 => ?_)
  · have hf := itp hc9 hf
    refine lv_iload_n hx hb dX5_sheet_46 rfl (lv_at hl 3 rfl) ?_
    refine lv_bipush (v := (40 : Int32)) hx hb dX5_sheet_47 (by decide) ?_
    refine lv_icmp_le (tgt := 58) hx hb dX5_sheet_49 (by decide) (fun hc10 => ?_) (fun hc10 => ?_)
    · have hf := itp hc10 hf
      refine lv_aload_n hx hb dX5_sheet_58 rfl (lv_at hl 0 rfl) ?_
      refine s_get (C := RX5) (T := TX5) C0 G i_X5 0 16 rfl rfl (by decide) q729 rfl dX5_sheet_59 ?_
      refine lv_iload_n hx hb dX5_sheet_62 rfl (lv_at hl 1 rfl) ?_
      refine lv_iload_n hx hb dX5_sheet_63 rfl (lv_at hl 2 rfl) ?_
      obtain ⟨hi11, hf⟩ := gd_s hf
      refine s_iast (k := v1.toNatClampNeg) (w' := (wM cI cC ad xs xkept xaside xisK xfound xgone xover xtape xtaped xtok xbeg xend xval (upd xwid v1.toNatClampNeg v2) xsiz xcel xcar)) C0 G 10 0 rfl rfl (vin hi11) rfl rfl dX5_sheet_64 (fun H locs G => ?_)
      refine lv_aload_n hx hb dX5_sheet_65 rfl (lv_at hl 0 rfl) ?_
      refine s_get (C := RX5) (T := TX5) C0 G i_X5 0 17 rfl rfl (by decide) q730 rfl dX5_sheet_66 ?_
      refine lv_iload_n hx hb dX5_sheet_69 rfl (lv_at hl 1 rfl) ?_
      refine lv_iload_n hx hb dX5_sheet_70 rfl (lv_at hl 2 rfl) ?_
      refine lv_if_ne (tgt := 78) hx hb dX5_sheet_71 (by decide) (fun hc12 => ?_) (fun hc12 => ?_)
      · have hf := itn hc12 hf
        refine lv_iload_n hx hb dX5_sheet_78 rfl (lv_at hl 3 rfl) ?_
        exact b5_sheet_79 C0  G (lv_sub hl [0, 1] rfl) hf
      · have hf := itp hc12 hf
        refine lv_iconst (v := (0 : Int32)) hx hb dX5_sheet_74 (by decide) ?_
        refine lv_goto (tgt := 79) hx hb dX5_sheet_75 (by decide) ?_
        exact b5_sheet_79 C0  G (lv_sub hl [0, 1] rfl) hf
    · have hf := itn hc10 hf
      refine lv_aload_n hx hb dX5_sheet_52 rfl (lv_at hl 0 rfl) ?_
      refine lv_iconst (v := (0 : Int32)) hx hb dX5_sheet_53 (by decide) ?_
      obtain ⟨r13, xfound_14, hc15, hf⟩ := ob2_s hf
      refine go_i C0 G (runV_of (n := 1) (q0 := 0) (As := [.int (0 : Int32)]) (rest := []) C0 G (c5_no hX hc15) q788 q54 q785 q787 q9 o5_no ⟨rfl, rfl⟩ ⟨Nat.le_of_ble_eq_true rfl, Nat.le_of_ble_eq_true rfl⟩ rfl rfl rfl hl.1 rfl (Nat.le_of_ble_eq_true rfl) dX5_sheet_54) (fun H locs G => ?_)
      obtain ⟨rfl, rfl, rfl, rfl, rfl⟩ := inj5 hf
      exact ret_i C0 G dX5_sheet_57
  · have hf := itn hc9 hf
    refine lv_aload_n hx hb dX5_sheet_39 rfl (lv_at hl 0 rfl) ?_
    refine lv_bipush (v := (6 : Int32)) hx hb dX5_sheet_40 (by decide) ?_
    obtain ⟨r16, xfound_17, hc18, hf⟩ := ob2_s hf
    refine go_i C0 G (runV_of (n := 1) (q0 := 0) (As := [.int (6 : Int32)]) (rest := []) C0 G (c5_no hX hc18) q788 q54 q785 q787 q9 o5_no ⟨rfl, rfl⟩ ⟨Nat.le_of_ble_eq_true rfl, Nat.le_of_ble_eq_true rfl⟩ rfl rfl rfl hl.1 rfl (Nat.le_of_ble_eq_true rfl) dX5_sheet_42) (fun H locs G => ?_)
    obtain ⟨rfl, rfl, rfl, rfl, rfl⟩ := inj5 hf
    exact ret_i C0 G dX5_sheet_45
set_option maxHeartbeats 4000000 in
set_option maxRecDepth 100000 in
theorem b5_sheet_0 {X : XP} {p : Program} {l : Launch} {e : Env} {s : State} {m : MethodId} {args : Array Value} {below : List Frame} {meth : Method} {c : Code} {D : va_G} {cI cC : ClassId} {ad : Nat → Nat} {A : Nat → Prop} {xs : Nat → Int32} {xkept : Nat → Int32} {xaside : Nat → Int32} {xisK : Int32} {xgone : Int32} {xover : Nat → Int32} {xtape : Nat → Int32} {xtaped : Int32} {xtok : Int32} {xbeg : Int32} {xend : Int32} {xval : Int64} {xcar : Nat → Int32} {r0 : Int32} {o_xfound : Nat → Int32} {o_xwid : Nat → Int32} {o_xsiz : Nat → Int32} {o_xcel : Nat → Int32} (C0 : CX X p s m args meth c cX5_sheet 5 (some .int) RX5 A) : ∀ {xfound : Nat → Int32} {xwid : Nat → Int32} {xsiz : Nat → Int32} {xcel : Nat → Int32} {v1 : Int32} {v2 : Int32} {v3 : Int32} {H : Heap} {locs : List Loc} {ls : Array Slot}, GX X D (tyM cI cC) A s (wM cI cC ad xs xkept xaside xisK xfound xgone xover xtape xtaped xtok xbeg xend xval xwid xsiz xcel xcar) H locs → lv_has ls 5 [(0, .ref (ad 0)), (1, .int v1), (2, .int v2), (3, .int v3)] → f5_sheet xfound xwid xsiz xcel v1 v2 v3 = some (r0, o_xfound, o_xwid, o_xsiz, o_xcel) → W p l e ({ frames := 2, cells := 0, slots := 0, locals := 42 }) s m args below meth c H locs 0 0 (MQ below (QcI D (tyM cI cC) (wM cI cC ad xs xkept xaside xisK o_xfound xgone xover xtape xtaped xtok xbeg xend xval o_xwid o_xsiz o_xcel xcar) A r0) args s 0 0 A) (F0 m 0 ls []) := by
  have hx := C0.1
  have hb := C0.2.1
  have hown := C0.2.2.2.2.1
  have hts := C0.2.2.2.2.2.1
  have hX := C0.2.2.2.2.2.2.2.2
  intro xfound xwid xsiz xcel v1 v2 v3 H locs ls G hl hf
  unfold f5_sheet at hf
  refine lv_iload_n hx hb dX5_sheet_0 rfl (lv_at hl 1 rfl) ?_
  refine go_i C0 G (runS_of (n := 1) (As := [.int v1]) (rest := []) C0 G (c5_isSheet hX rfl) q1008 q54 q1006 q1007 o5_isSheet ⟨rfl, rfl⟩ ⟨Nat.le_of_ble_eq_true rfl, Nat.le_of_ble_eq_true rfl⟩ rfl hl.1 rfl (Nat.le_of_ble_eq_true rfl) dX5_sheet_1) (fun H locs G => ?_)
  refine lv_if_eq (tgt := 29) hx hb dX5_sheet_4 (by decide) (fun hc1 => ?_) (fun hc1 => ?_)
  · have hf := itp hc1 hf
    exact b5_sheet_29 C0  G (lv_sub hl [0] rfl) hf
  · have hf := itn hc1 hf
    refine lv_iload_n hx hb dX5_sheet_7 rfl (lv_at hl 2 rfl) ?_
    refine lv_if_eq (tgt := 35) hx hb dX5_sheet_8 (by decide) (fun hc2 => ?_) (fun hc2 => ?_)
    · have hf := itp hc2 hf
      exact b5_sheet_35 C0  G (lv_sub hl [0, 1, 2, 3] rfl) hf
    · have hf := itn hc2 hf
      refine lv_iload_n hx hb dX5_sheet_11 rfl (lv_at hl 2 rfl) ?_
      refine lv_bipush (v := (8 : Int32)) hx hb dX5_sheet_12 (by decide) ?_
      refine lv_icmp_eq (tgt := 35) hx hb dX5_sheet_14 (by decide) (fun hc3 => ?_) (fun hc3 => ?_)
      · have hf := itp hc3 hf
        exact b5_sheet_35 C0  G (lv_sub hl [0, 1, 2, 3] rfl) hf
      · have hf := itn hc3 hf
        refine lv_iload_n hx hb dX5_sheet_17 rfl (lv_at hl 2 rfl) ?_
        refine lv_bipush (v := (16 : Int32)) hx hb dX5_sheet_18 (by decide) ?_
        refine lv_icmp_eq (tgt := 35) hx hb dX5_sheet_20 (by decide) (fun hc4 => ?_) (fun hc4 => ?_)
        · have hf := itp hc4 hf
          exact b5_sheet_35 C0  G (lv_sub hl [0, 1, 2, 3] rfl) hf
        · have hf := itn hc4 hf
          refine lv_iload_n hx hb dX5_sheet_23 rfl (lv_at hl 2 rfl) ?_
          refine lv_bipush (v := (32 : Int32)) hx hb dX5_sheet_24 (by decide) ?_
          refine lv_icmp_eq (tgt := 35) hx hb dX5_sheet_26 (by decide) (fun hc5 => ?_) (fun hc5 => ?_)
          · have hf := itp hc5 hf
            exact b5_sheet_35 C0  G (lv_sub hl [0, 1, 2, 3] rfl) hf
          · have hf := itn hc5 hf
            exact b5_sheet_29 C0  G (lv_sub hl [0] rfl) hf
theorem o5_sheet : okName yX5_sheet 3 := ⟨by decide, by decide, by decide +kernel⟩
set_option maxHeartbeats 4000000 in
set_option maxRecDepth 100000 in
theorem c5_sheet {X : XP} (hX : XT X) {l : Launch} {D : va_G} {cI cC : ClassId} {ad : Nat → Nat} {sz : Nat} {xs : Nat → Int32} {xkept : Nat → Int32} {xaside : Nat → Int32} {xisK : Int32} {xfound : Nat → Int32} {xgone : Int32} {xover : Nat → Int32} {xtape : Nat → Int32} {xtaped : Int32} {xtok : Int32} {xbeg : Int32} {xend : Int32} {xval : Int64} {xwid : Nat → Int32} {xsiz : Nat → Int32} {xcel : Nat → Int32} {xcar : Nat → Int32} {v1 : Int32} {v2 : Int32} {v3 : Int32} {r0 : Int32} {o_xfound : Nat → Int32} {o_xwid : Nat → Int32} {o_xsiz : Nat → Int32} {o_xcel : Nat → Int32} (hf : f5_sheet xfound xwid xsiz xcel v1 v2 v3 = some (r0, o_xfound, o_xwid, o_xsiz, o_xcel)) : Met l yX5_sheet (wU yX5_sheet cX5_sheet 5 (some .int)) ({ frames := 2, cells := 0, slots := 0, locals := 42 }) (va_Pc [.ref (ad 0), .int v1, .int v2, .int v3] (PreW X D (tyM cI cC) (wM cI cC ad xs xkept xaside xisK xfound xgone xover xtape xtaped xtok xbeg xend xval xwid xsiz xcel xcar) sz)) (QcI D (tyM cI cC) (wM cI cC ad xs xkept xaside xisK o_xfound xgone xover xtape xtaped xtok xbeg xend xval o_xwid o_xsiz o_xcel xcar) (va_A (wM cI cC ad xs xkept xaside xisK xfound xgone xover xtape xtaped xtok xbeg xend xval xwid xsiz xcel xcar) sz) r0) 0 0 (va_A (wM cI cC ad xs xkept xaside xisK xfound xgone xover xtape xtaped xtok xbeg xend xval xwid xsiz xcel xcar) sz) := by
  refine startW hX (own := RX5) (by decide) rfl (Nat.le_of_ble_eq_true rfl) (fun p e s m args below meth c ls C0 G hl => ?_)
  exact b5_sheet_0 C0 G hl hf
/-! 5_write -/
theorem dX5_write_0 : decode cX5_write 0 = .ok (.aload_n 0, 1) := by decide +kernel
theorem dX5_write_1 : decode cX5_write 1 = .ok (.iload_n 1, 1) := by decide +kernel
theorem dX5_write_2 : decode cX5_write 2 = .ok (.invokevirtual 173, 3) := by decide +kernel
theorem dX5_write_5 : decode cX5_write 5 = .ok (.istore 4, 2) := by decide +kernel
theorem dX5_write_7 : decode cX5_write 7 = .ok (.iload 4, 2) := by decide +kernel
theorem dX5_write_9 : decode cX5_write 9 = .ok (.ifCond .ge 22, 3) := by decide +kernel
theorem dX5_write_12 : decode cX5_write 12 = .ok (.iload_n 2, 1) := by decide +kernel
theorem dX5_write_13 : decode cX5_write 13 = .ok (.iconst 0, 1) := by decide +kernel
theorem dX5_write_14 : decode cX5_write 14 = .ok (.aload_n 0, 1) := by decide +kernel
theorem dX5_write_15 : decode cX5_write 15 = .ok (.getfield 41, 3) := by decide +kernel
theorem dX5_write_18 : decode cX5_write 18 = .ok (.iload_n 1, 1) := by decide +kernel
theorem dX5_write_19 : decode cX5_write 19 = .ok (.iaload, 1) := by decide +kernel
theorem dX5_write_20 : decode cX5_write 20 = .ok (.iconst 1, 1) := by decide +kernel
theorem dX5_write_21 : decode cX5_write 21 = .ok (.isub, 1) := by decide +kernel
theorem dX5_write_22 : decode cX5_write 22 = .ok (.invokestatic 51, 3) := by decide +kernel
theorem dX5_write_25 : decode cX5_write 25 = .ok (.ifCond .ne 6, 3) := by decide +kernel
theorem dX5_write_28 : decode cX5_write 28 = .ok (.iconst 0, 1) := by decide +kernel
theorem dX5_write_29 : decode cX5_write 29 = .ok (.istore 4, 2) := by decide +kernel
theorem dX5_write_31 : decode cX5_write 31 = .ok (.iload 4, 2) := by decide +kernel
theorem dX5_write_33 : decode cX5_write 33 = .ok (.ifCond .lt 10, 3) := by decide +kernel
theorem dX5_write_36 : decode cX5_write 36 = .ok (.aload_n 0, 1) := by decide +kernel
theorem dX5_write_37 : decode cX5_write 37 = .ok (.iload 4, 2) := by decide +kernel
theorem dX5_write_39 : decode cX5_write 39 = .ok (.invokevirtual 105, 3) := by decide +kernel
theorem dX5_write_42 : decode cX5_write 42 = .ok (.ireturn, 1) := by decide +kernel
theorem dX5_write_43 : decode cX5_write 43 = .ok (.aload_n 0, 1) := by decide +kernel
theorem dX5_write_44 : decode cX5_write 44 = .ok (.getfield 44, 3) := by decide +kernel
theorem dX5_write_47 : decode cX5_write 47 = .ok (.bipush 40, 2) := by decide +kernel
theorem dX5_write_49 : decode cX5_write 49 = .ok (.iload_n 1, 1) := by decide +kernel
theorem dX5_write_50 : decode cX5_write 50 = .ok (.imul, 1) := by decide +kernel
theorem dX5_write_51 : decode cX5_write 51 = .ok (.iload_n 2, 1) := by decide +kernel
theorem dX5_write_52 : decode cX5_write 52 = .ok (.iadd, 1) := by decide +kernel
theorem dX5_write_53 : decode cX5_write 53 = .ok (.aload_n 0, 1) := by decide +kernel
theorem dX5_write_54 : decode cX5_write 54 = .ok (.getfield 38, 3) := by decide +kernel
theorem dX5_write_57 : decode cX5_write 57 = .ok (.iload_n 1, 1) := by decide +kernel
theorem dX5_write_58 : decode cX5_write 58 = .ok (.iaload, 1) := by decide +kernel
theorem dX5_write_59 : decode cX5_write 59 = .ok (.bipush 8, 2) := by decide +kernel
theorem dX5_write_61 : decode cX5_write 61 = .ok (.if_icmp .ne 8, 3) := by decide +kernel
theorem dX5_write_64 : decode cX5_write 64 = .ok (.iload_n 3, 1) := by decide +kernel
theorem dX5_write_65 : decode cX5_write 65 = .ok (.i2b, 1) := by decide +kernel
theorem dX5_write_66 : decode cX5_write 66 = .ok (.goto 20, 3) := by decide +kernel
theorem dX5_write_69 : decode cX5_write 69 = .ok (.aload_n 0, 1) := by decide +kernel
theorem dX5_write_70 : decode cX5_write 70 = .ok (.getfield 38, 3) := by decide +kernel
theorem dX5_write_73 : decode cX5_write 73 = .ok (.iload_n 1, 1) := by decide +kernel
theorem dX5_write_74 : decode cX5_write 74 = .ok (.iaload, 1) := by decide +kernel
theorem dX5_write_75 : decode cX5_write 75 = .ok (.bipush 16, 2) := by decide +kernel
theorem dX5_write_77 : decode cX5_write 77 = .ok (.if_icmp .ne 8, 3) := by decide +kernel
theorem dX5_write_80 : decode cX5_write 80 = .ok (.iload_n 3, 1) := by decide +kernel
theorem dX5_write_81 : decode cX5_write 81 = .ok (.i2s, 1) := by decide +kernel
theorem dX5_write_82 : decode cX5_write 82 = .ok (.goto 4, 3) := by decide +kernel
theorem dX5_write_85 : decode cX5_write 85 = .ok (.iload_n 3, 1) := by decide +kernel
theorem dX5_write_86 : decode cX5_write 86 = .ok (.iastore, 1) := by decide +kernel
theorem dX5_write_87 : decode cX5_write 87 = .ok (.iconst 1, 1) := by decide +kernel
theorem dX5_write_88 : decode cX5_write 88 = .ok (.ireturn, 1) := by decide +kernel
def j5_write_31  (xfound : Nat → Int32) (xwid : Nat → Int32) (xsiz : Nat → Int32) (xcel : Nat → Int32) (v1 : Int32) (v2 : Int32) (v3 : Int32) (v4 : Int32) : Option (Int32 × (Nat → Int32) × (Nat → Int32)) :=
  if v4 < (0 : Int32) then (
    gd (inb v1 4) (
    if (xwid v1.toNatClampNeg) = (8 : Int32) then (
      gd (inb (((40 : Int32) * v1) + v2) 160) (
      some ((1 : Int32), xfound, (upd xcel ((((40 : Int32) * v1) + v2).toNatClampNeg) (v3.toInt8.toInt32)))))
    else (
      gd (inb v1 4) (
      if (xwid v1.toNatClampNeg) = (16 : Int32) then (
        gd (inb (((40 : Int32) * v1) + v2) 160) (
        some ((1 : Int32), xfound, (upd xcel ((((40 : Int32) * v1) + v2).toNatClampNeg) (v3.toInt16.toInt32)))))
      else (
        gd (inb (((40 : Int32) * v1) + v2) 160) (
        some ((1 : Int32), xfound, (upd xcel ((((40 : Int32) * v1) + v2).toNatClampNeg) v3))))))))
  else (
    ob2 (f5_no xfound v4) (fun r14 xfound_15 =>
    some (r14, xfound_15, xcel)))
def f5_write (xfound : Nat → Int32) (xwid : Nat → Int32) (xsiz : Nat → Int32) (xcel : Nat → Int32) (v1 : Int32) (v2 : Int32) (v3 : Int32) : Option (Int32 × (Nat → Int32) × (Nat → Int32)) :=
  ob1 (f5_wrongSheet xwid v1) (fun r1 =>
  if (0 : Int32) ≤ r1 then (
    j5_write_31 xfound xwid xsiz xcel v1 v2 v3 r1)
  else (
    gd (inb v1 4) (
    if (f5_in1 v2 (0 : Int32) ((xsiz v1.toNatClampNeg) - (1 : Int32))) = (0 : Int32) then (
      j5_write_31 xfound xwid xsiz xcel v1 v2 v3 (0 : Int32))
    else (
      j5_write_31 xfound xwid xsiz xcel v1 v2 v3 r1))))
set_option maxHeartbeats 4000000 in
set_option maxRecDepth 100000 in
theorem b5_write_31 {X : XP} {p : Program} {l : Launch} {e : Env} {s : State} {m : MethodId} {args : Array Value} {below : List Frame} {meth : Method} {c : Code} {D : va_G} {cI cC : ClassId} {ad : Nat → Nat} {A : Nat → Prop} {xs : Nat → Int32} {xkept : Nat → Int32} {xaside : Nat → Int32} {xisK : Int32} {xgone : Int32} {xover : Nat → Int32} {xtape : Nat → Int32} {xtaped : Int32} {xtok : Int32} {xbeg : Int32} {xend : Int32} {xval : Int64} {xwid : Nat → Int32} {xsiz : Nat → Int32} {xcar : Nat → Int32} {r0 : Int32} {o_xfound : Nat → Int32} {o_xcel : Nat → Int32} (C0 : CX X p s m args meth c cX5_write 5 (some .int) RX5 A) : ∀ {xfound : Nat → Int32} {xcel : Nat → Int32} {v1 : Int32} {v2 : Int32} {v3 : Int32} {v4 : Int32} {H : Heap} {locs : List Loc} {ls : Array Slot}, GX X D (tyM cI cC) A s (wM cI cC ad xs xkept xaside xisK xfound xgone xover xtape xtaped xtok xbeg xend xval xwid xsiz xcel xcar) H locs → lv_has ls 5 [(0, .ref (ad 0)), (1, .int v1), (2, .int v2), (3, .int v3), (4, .int v4)] → j5_write_31  xfound xwid xsiz xcel v1 v2 v3 v4 = some (r0, o_xfound, o_xcel) → W p l e ({ frames := 3, cells := 0, slots := 0, locals := 63 }) s m args below meth c H locs 0 0 (MQ below (QcI D (tyM cI cC) (wM cI cC ad xs xkept xaside xisK o_xfound xgone xover xtape xtaped xtok xbeg xend xval xwid xsiz o_xcel xcar) A r0) args s 0 0 A) (F0 m 31 ls []) := by
  have hx := C0.1
  have hb := C0.2.1
  have hown := C0.2.2.2.2.1
  have hts := C0.2.2.2.2.2.1
  have hX := C0.2.2.2.2.2.2.2.2
  intro xfound xcel v1 v2 v3 v4 H locs ls G hl hf
  unfold j5_write_31 at hf
  refine lv_iload hx hb dX5_write_31 (lv_at hl 4 rfl) ?_
  refine lv_if_lt (tgt := 43) hx hb dX5_write_33 (by decide) (fun hc6 => ?_) (fun hc6 => ?_)
  · have hf := itp hc6 hf
    refine lv_aload_n hx hb dX5_write_43 rfl (lv_at hl 0 rfl) ?_
    refine s_get (C := RX5) (T := TX5) C0 G i_X5 0 18 rfl rfl (by decide) q731 rfl dX5_write_44 ?_
    refine lv_bipush (v := (40 : Int32)) hx hb dX5_write_47 (by decide) ?_
    refine lv_iload_n hx hb dX5_write_49 rfl (lv_at hl 1 rfl) ?_
    refine lv_imul hx hb dX5_write_50 ?_
    refine lv_iload_n hx hb dX5_write_51 rfl (lv_at hl 2 rfl) ?_
    refine lv_iadd hx hb dX5_write_52 ?_
    refine lv_aload_n hx hb dX5_write_53 rfl (lv_at hl 0 rfl) ?_
    refine s_get (C := RX5) (T := TX5) C0 G i_X5 0 16 rfl rfl (by decide) q729 rfl dX5_write_54 ?_
    refine lv_iload_n hx hb dX5_write_57 rfl (lv_at hl 1 rfl) ?_
    obtain ⟨hi7, hf⟩ := gd_s hf
    refine s_iald (k := v1.toNatClampNeg) C0 G 10 0 rfl rfl (vin hi7) rfl dX5_write_58 ?_
    refine lv_bipush (v := (8 : Int32)) hx hb dX5_write_59 (by decide) ?_
    refine lv_icmp_ne (tgt := 69) hx hb dX5_write_61 (by decide) (fun hc8 => ?_) (fun hc8 => ?_)
    · have hf := itn hc8 hf
      refine lv_aload_n hx hb dX5_write_69 rfl (lv_at hl 0 rfl) ?_
      refine s_get (C := RX5) (T := TX5) C0 G i_X5 0 16 rfl rfl (by decide) q729 rfl dX5_write_70 ?_
      refine lv_iload_n hx hb dX5_write_73 rfl (lv_at hl 1 rfl) ?_
      obtain ⟨hi9, hf⟩ := gd_s hf
      refine s_iald (k := v1.toNatClampNeg) C0 G 10 0 rfl rfl (vin hi9) rfl dX5_write_74 ?_
      refine lv_bipush (v := (16 : Int32)) hx hb dX5_write_75 (by decide) ?_
      refine lv_icmp_ne (tgt := 85) hx hb dX5_write_77 (by decide) (fun hc10 => ?_) (fun hc10 => ?_)
      · have hf := itn hc10 hf
        refine lv_iload_n hx hb dX5_write_85 rfl (lv_at hl 3 rfl) ?_
        obtain ⟨hi11, hf⟩ := gd_s hf
        refine s_iast (k := (((40 : Int32) * v1) + v2).toNatClampNeg) (w' := (wM cI cC ad xs xkept xaside xisK xfound xgone xover xtape xtaped xtok xbeg xend xval xwid xsiz (upd xcel ((((40 : Int32) * v1) + v2).toNatClampNeg) v3) xcar)) C0 G 12 0 rfl rfl (vin hi11) rfl rfl dX5_write_86 (fun H locs G => ?_)
        refine lv_iconst (v := (1 : Int32)) hx hb dX5_write_87 (by decide) ?_
        obtain ⟨rfl, rfl, rfl⟩ := inj3 hf
        exact ret_i C0 G dX5_write_88
      · have hf := itp hc10 hf
        refine lv_iload_n hx hb dX5_write_80 rfl (lv_at hl 3 rfl) ?_
        refine lv_i2s hx hb dX5_write_81 rfl ?_
        refine lv_goto (tgt := 86) hx hb dX5_write_82 (by decide) ?_
        obtain ⟨hi12, hf⟩ := gd_s hf
        refine s_iast (k := (((40 : Int32) * v1) + v2).toNatClampNeg) (w' := (wM cI cC ad xs xkept xaside xisK xfound xgone xover xtape xtaped xtok xbeg xend xval xwid xsiz (upd xcel ((((40 : Int32) * v1) + v2).toNatClampNeg) (v3.toInt16.toInt32)) xcar)) C0 G 12 0 rfl rfl (vin hi12) rfl rfl dX5_write_86 (fun H locs G => ?_)
        refine lv_iconst (v := (1 : Int32)) hx hb dX5_write_87 (by decide) ?_
        obtain ⟨rfl, rfl, rfl⟩ := inj3 hf
        exact ret_i C0 G dX5_write_88
    · have hf := itp hc8 hf
      refine lv_iload_n hx hb dX5_write_64 rfl (lv_at hl 3 rfl) ?_
      refine lv_i2b hx hb dX5_write_65 rfl ?_
      refine lv_goto (tgt := 86) hx hb dX5_write_66 (by decide) ?_
      obtain ⟨hi13, hf⟩ := gd_s hf
      refine s_iast (k := (((40 : Int32) * v1) + v2).toNatClampNeg) (w' := (wM cI cC ad xs xkept xaside xisK xfound xgone xover xtape xtaped xtok xbeg xend xval xwid xsiz (upd xcel ((((40 : Int32) * v1) + v2).toNatClampNeg) (v3.toInt8.toInt32)) xcar)) C0 G 12 0 rfl rfl (vin hi13) rfl rfl dX5_write_86 (fun H locs G => ?_)
      refine lv_iconst (v := (1 : Int32)) hx hb dX5_write_87 (by decide) ?_
      obtain ⟨rfl, rfl, rfl⟩ := inj3 hf
      exact ret_i C0 G dX5_write_88
  · have hf := itn hc6 hf
    refine lv_aload_n hx hb dX5_write_36 rfl (lv_at hl 0 rfl) ?_
    refine lv_iload hx hb dX5_write_37 (lv_at hl 4 rfl) ?_
    obtain ⟨r14, xfound_15, hc16, hf⟩ := ob2_s hf
    refine go_i C0 G (runV_of (n := 1) (q0 := 0) (As := [.int v4]) (rest := []) C0 G (c5_no hX hc16) q788 q54 q785 q787 q9 o5_no ⟨rfl, rfl⟩ ⟨Nat.le_of_ble_eq_true rfl, Nat.le_of_ble_eq_true rfl⟩ rfl rfl rfl hl.1 rfl (Nat.le_of_ble_eq_true rfl) dX5_write_39) (fun H locs G => ?_)
    obtain ⟨rfl, rfl, rfl⟩ := inj3 hf
    exact ret_i C0 G dX5_write_42
set_option maxHeartbeats 4000000 in
set_option maxRecDepth 100000 in
theorem b5_write_0 {X : XP} {p : Program} {l : Launch} {e : Env} {s : State} {m : MethodId} {args : Array Value} {below : List Frame} {meth : Method} {c : Code} {D : va_G} {cI cC : ClassId} {ad : Nat → Nat} {A : Nat → Prop} {xs : Nat → Int32} {xkept : Nat → Int32} {xaside : Nat → Int32} {xisK : Int32} {xgone : Int32} {xover : Nat → Int32} {xtape : Nat → Int32} {xtaped : Int32} {xtok : Int32} {xbeg : Int32} {xend : Int32} {xval : Int64} {xwid : Nat → Int32} {xsiz : Nat → Int32} {xcar : Nat → Int32} {r0 : Int32} {o_xfound : Nat → Int32} {o_xcel : Nat → Int32} (C0 : CX X p s m args meth c cX5_write 5 (some .int) RX5 A) : ∀ {xfound : Nat → Int32} {xcel : Nat → Int32} {v1 : Int32} {v2 : Int32} {v3 : Int32} {H : Heap} {locs : List Loc} {ls : Array Slot}, GX X D (tyM cI cC) A s (wM cI cC ad xs xkept xaside xisK xfound xgone xover xtape xtaped xtok xbeg xend xval xwid xsiz xcel xcar) H locs → lv_has ls 5 [(0, .ref (ad 0)), (1, .int v1), (2, .int v2), (3, .int v3)] → f5_write xfound xwid xsiz xcel v1 v2 v3 = some (r0, o_xfound, o_xcel) → W p l e ({ frames := 3, cells := 0, slots := 0, locals := 63 }) s m args below meth c H locs 0 0 (MQ below (QcI D (tyM cI cC) (wM cI cC ad xs xkept xaside xisK o_xfound xgone xover xtape xtaped xtok xbeg xend xval xwid xsiz o_xcel xcar) A r0) args s 0 0 A) (F0 m 0 ls []) := by
  have hx := C0.1
  have hb := C0.2.1
  have hown := C0.2.2.2.2.1
  have hts := C0.2.2.2.2.2.1
  have hX := C0.2.2.2.2.2.2.2.2
  intro xfound xcel v1 v2 v3 H locs ls G hl hf
  unfold f5_write at hf
  refine lv_aload_n hx hb dX5_write_0 rfl (lv_at hl 0 rfl) ?_
  refine lv_iload_n hx hb dX5_write_1 rfl (lv_at hl 1 rfl) ?_
  obtain ⟨r1, hc2, hf⟩ := ob1_s hf
  refine go_i C0 G (runV_of (n := 1) (q0 := 0) (As := [.int v1]) (rest := []) C0 G (c5_wrongSheet hX hc2) q1005 q54 q1002 q1004 q38 o5_wrongSheet ⟨rfl, rfl⟩ ⟨Nat.le_of_ble_eq_true rfl, Nat.le_of_ble_eq_true rfl⟩ rfl rfl rfl hl.1 rfl (Nat.le_of_ble_eq_true rfl) dX5_write_2) (fun H locs G => ?_)
  refine lv_istore (lv' := [(4, .int r1), (0, .ref (ad 0)), (1, .int v1), (2, .int v2), (3, .int v3)]) hx hb dX5_write_5 hl (by decide) rfl (fun ls hl => ?_)
  refine lv_iload hx hb dX5_write_7 (lv_at hl 0 rfl) ?_
  refine lv_if_ge (tgt := 31) hx hb dX5_write_9 (by decide) (fun hc3 => ?_) (fun hc3 => ?_)
  · have hf := itp hc3 hf
    exact b5_write_31 C0  G (lv_sub hl [1, 2, 3, 4, 0] rfl) hf
  · have hf := itn hc3 hf
    refine lv_iload_n hx hb dX5_write_12 rfl (lv_at hl 3 rfl) ?_
    refine lv_iconst (v := (0 : Int32)) hx hb dX5_write_13 (by decide) ?_
    refine lv_aload_n hx hb dX5_write_14 rfl (lv_at hl 1 rfl) ?_
    refine s_get (C := RX5) (T := TX5) C0 G i_X5 0 17 rfl rfl (by decide) q730 rfl dX5_write_15 ?_
    refine lv_iload_n hx hb dX5_write_18 rfl (lv_at hl 2 rfl) ?_
    obtain ⟨hi4, hf⟩ := gd_s hf
    refine s_iald (k := v1.toNatClampNeg) C0 G 11 0 rfl rfl (vin hi4) rfl dX5_write_19 ?_
    refine lv_iconst (v := (1 : Int32)) hx hb dX5_write_20 (by decide) ?_
    refine lv_isub hx hb dX5_write_21 ?_
    refine go_i C0 G (runS_of (n := 3) (As := [.int v2, .int (0 : Int32), .int ((xsiz v1.toNatClampNeg) - (1 : Int32))]) (rest := []) C0 G (c5_in1 hX rfl) q784 q54 q782 q783 o5_in1 ⟨rfl, rfl⟩ ⟨Nat.le_of_ble_eq_true rfl, Nat.le_of_ble_eq_true rfl⟩ rfl hl.1 rfl (Nat.le_of_ble_eq_true rfl) dX5_write_22) (fun H locs G => ?_)
    refine lv_if_ne (tgt := 31) hx hb dX5_write_25 (by decide) (fun hc5 => ?_) (fun hc5 => ?_)
    · have hf := itn hc5 hf
      exact b5_write_31 C0  G (lv_sub hl [1, 2, 3, 4, 0] rfl) hf
    · have hf := itp hc5 hf
      refine lv_iconst (v := (0 : Int32)) hx hb dX5_write_28 (by decide) ?_
      refine lv_istore (lv' := [(4, .int (0 : Int32)), (0, .ref (ad 0)), (1, .int v1), (2, .int v2), (3, .int v3)]) hx hb dX5_write_29 hl (by decide) rfl (fun ls hl => ?_)
      exact b5_write_31 C0  G (lv_sub hl [1, 2, 3, 4, 0] rfl) hf
theorem o5_write : okName yX5_write 3 := ⟨by decide, by decide, by decide +kernel⟩
set_option maxHeartbeats 4000000 in
set_option maxRecDepth 100000 in
theorem c5_write {X : XP} (hX : XT X) {l : Launch} {D : va_G} {cI cC : ClassId} {ad : Nat → Nat} {sz : Nat} {xs : Nat → Int32} {xkept : Nat → Int32} {xaside : Nat → Int32} {xisK : Int32} {xfound : Nat → Int32} {xgone : Int32} {xover : Nat → Int32} {xtape : Nat → Int32} {xtaped : Int32} {xtok : Int32} {xbeg : Int32} {xend : Int32} {xval : Int64} {xwid : Nat → Int32} {xsiz : Nat → Int32} {xcel : Nat → Int32} {xcar : Nat → Int32} {v1 : Int32} {v2 : Int32} {v3 : Int32} {r0 : Int32} {o_xfound : Nat → Int32} {o_xcel : Nat → Int32} (hf : f5_write xfound xwid xsiz xcel v1 v2 v3 = some (r0, o_xfound, o_xcel)) : Met l yX5_write (wU yX5_write cX5_write 5 (some .int)) ({ frames := 3, cells := 0, slots := 0, locals := 63 }) (va_Pc [.ref (ad 0), .int v1, .int v2, .int v3] (PreW X D (tyM cI cC) (wM cI cC ad xs xkept xaside xisK xfound xgone xover xtape xtaped xtok xbeg xend xval xwid xsiz xcel xcar) sz)) (QcI D (tyM cI cC) (wM cI cC ad xs xkept xaside xisK o_xfound xgone xover xtape xtaped xtok xbeg xend xval xwid xsiz o_xcel xcar) (va_A (wM cI cC ad xs xkept xaside xisK xfound xgone xover xtape xtaped xtok xbeg xend xval xwid xsiz xcel xcar) sz) r0) 0 0 (va_A (wM cI cC ad xs xkept xaside xisK xfound xgone xover xtape xtaped xtok xbeg xend xval xwid xsiz xcel xcar) sz) := by
  refine startW hX (own := RX5) (by decide) rfl (Nat.le_of_ble_eq_true rfl) (fun p e s m args below meth c ls C0 G hl => ?_)
  exact b5_write_0 C0 G hl hf
/-! 5_copy -/
theorem dX5_copy_0 : decode cX5_copy 0 = .ok (.iload_n 1, 1) := by decide +kernel
theorem dX5_copy_1 : decode cX5_copy 1 = .ok (.invokestatic 170, 3) := by decide +kernel
theorem dX5_copy_4 : decode cX5_copy 4 = .ok (.ifCond .eq 10, 3) := by decide +kernel
theorem dX5_copy_7 : decode cX5_copy 7 = .ok (.iload_n 3, 1) := by decide +kernel
theorem dX5_copy_8 : decode cX5_copy 8 = .ok (.invokestatic 170, 3) := by decide +kernel
theorem dX5_copy_11 : decode cX5_copy 11 = .ok (.ifCond .ne 9, 3) := by decide +kernel
theorem dX5_copy_14 : decode cX5_copy 14 = .ok (.aload_n 0, 1) := by decide +kernel
theorem dX5_copy_15 : decode cX5_copy 15 = .ok (.iconst 0, 1) := by decide +kernel
theorem dX5_copy_16 : decode cX5_copy 16 = .ok (.invokevirtual 105, 3) := by decide +kernel
theorem dX5_copy_19 : decode cX5_copy 19 = .ok (.ireturn, 1) := by decide +kernel
theorem dX5_copy_20 : decode cX5_copy 20 = .ok (.aload_n 0, 1) := by decide +kernel
theorem dX5_copy_21 : decode cX5_copy 21 = .ok (.getfield 38, 3) := by decide +kernel
theorem dX5_copy_24 : decode cX5_copy 24 = .ok (.iload_n 1, 1) := by decide +kernel
theorem dX5_copy_25 : decode cX5_copy 25 = .ok (.iaload, 1) := by decide +kernel
theorem dX5_copy_26 : decode cX5_copy 26 = .ok (.ifCond .eq 12, 3) := by decide +kernel
theorem dX5_copy_29 : decode cX5_copy 29 = .ok (.aload_n 0, 1) := by decide +kernel
theorem dX5_copy_30 : decode cX5_copy 30 = .ok (.getfield 38, 3) := by decide +kernel
theorem dX5_copy_33 : decode cX5_copy 33 = .ok (.iload_n 3, 1) := by decide +kernel
theorem dX5_copy_34 : decode cX5_copy 34 = .ok (.iaload, 1) := by decide +kernel
theorem dX5_copy_35 : decode cX5_copy 35 = .ok (.ifCond .ne 9, 3) := by decide +kernel
theorem dX5_copy_38 : decode cX5_copy 38 = .ok (.aload_n 0, 1) := by decide +kernel
theorem dX5_copy_39 : decode cX5_copy 39 = .ok (.iconst 5, 1) := by decide +kernel
theorem dX5_copy_40 : decode cX5_copy 40 = .ok (.invokevirtual 105, 3) := by decide +kernel
theorem dX5_copy_43 : decode cX5_copy 43 = .ok (.ireturn, 1) := by decide +kernel
theorem dX5_copy_44 : decode cX5_copy 44 = .ok (.aload_n 0, 1) := by decide +kernel
theorem dX5_copy_45 : decode cX5_copy 45 = .ok (.getfield 38, 3) := by decide +kernel
theorem dX5_copy_48 : decode cX5_copy 48 = .ok (.iload_n 1, 1) := by decide +kernel
theorem dX5_copy_49 : decode cX5_copy 49 = .ok (.iaload, 1) := by decide +kernel
theorem dX5_copy_50 : decode cX5_copy 50 = .ok (.aload_n 0, 1) := by decide +kernel
theorem dX5_copy_51 : decode cX5_copy 51 = .ok (.getfield 38, 3) := by decide +kernel
theorem dX5_copy_54 : decode cX5_copy 54 = .ok (.iload_n 3, 1) := by decide +kernel
theorem dX5_copy_55 : decode cX5_copy 55 = .ok (.iaload, 1) := by decide +kernel
theorem dX5_copy_56 : decode cX5_copy 56 = .ok (.if_icmp .eq 9, 3) := by decide +kernel
theorem dX5_copy_59 : decode cX5_copy 59 = .ok (.aload_n 0, 1) := by decide +kernel
theorem dX5_copy_60 : decode cX5_copy 60 = .ok (.iconst 2, 1) := by decide +kernel
theorem dX5_copy_61 : decode cX5_copy 61 = .ok (.invokevirtual 105, 3) := by decide +kernel
theorem dX5_copy_64 : decode cX5_copy 64 = .ok (.ireturn, 1) := by decide +kernel
theorem dX5_copy_65 : decode cX5_copy 65 = .ok (.iload 5, 2) := by decide +kernel
theorem dX5_copy_67 : decode cX5_copy 67 = .ok (.ifCond .lt 39, 3) := by decide +kernel
theorem dX5_copy_70 : decode cX5_copy 70 = .ok (.iload_n 2, 1) := by decide +kernel
theorem dX5_copy_71 : decode cX5_copy 71 = .ok (.ifCond .lt 35, 3) := by decide +kernel
theorem dX5_copy_74 : decode cX5_copy 74 = .ok (.iload 4, 2) := by decide +kernel
theorem dX5_copy_76 : decode cX5_copy 76 = .ok (.ifCond .lt 30, 3) := by decide +kernel
theorem dX5_copy_79 : decode cX5_copy 79 = .ok (.iload_n 2, 1) := by decide +kernel
theorem dX5_copy_80 : decode cX5_copy 80 = .ok (.aload_n 0, 1) := by decide +kernel
theorem dX5_copy_81 : decode cX5_copy 81 = .ok (.getfield 41, 3) := by decide +kernel
theorem dX5_copy_84 : decode cX5_copy 84 = .ok (.iload_n 1, 1) := by decide +kernel
theorem dX5_copy_85 : decode cX5_copy 85 = .ok (.iaload, 1) := by decide +kernel
theorem dX5_copy_86 : decode cX5_copy 86 = .ok (.iload 5, 2) := by decide +kernel
theorem dX5_copy_88 : decode cX5_copy 88 = .ok (.isub, 1) := by decide +kernel
theorem dX5_copy_89 : decode cX5_copy 89 = .ok (.if_icmp .gt 17, 3) := by decide +kernel
theorem dX5_copy_92 : decode cX5_copy 92 = .ok (.iload 4, 2) := by decide +kernel
theorem dX5_copy_94 : decode cX5_copy 94 = .ok (.aload_n 0, 1) := by decide +kernel
theorem dX5_copy_95 : decode cX5_copy 95 = .ok (.getfield 41, 3) := by decide +kernel
theorem dX5_copy_98 : decode cX5_copy 98 = .ok (.iload_n 3, 1) := by decide +kernel
theorem dX5_copy_99 : decode cX5_copy 99 = .ok (.iaload, 1) := by decide +kernel
theorem dX5_copy_100 : decode cX5_copy 100 = .ok (.iload 5, 2) := by decide +kernel
theorem dX5_copy_102 : decode cX5_copy 102 = .ok (.isub, 1) := by decide +kernel
theorem dX5_copy_103 : decode cX5_copy 103 = .ok (.if_icmp .le 9, 3) := by decide +kernel
theorem dX5_copy_106 : decode cX5_copy 106 = .ok (.aload_n 0, 1) := by decide +kernel
theorem dX5_copy_107 : decode cX5_copy 107 = .ok (.iconst 0, 1) := by decide +kernel
theorem dX5_copy_108 : decode cX5_copy 108 = .ok (.invokevirtual 105, 3) := by decide +kernel
theorem dX5_copy_111 : decode cX5_copy 111 = .ok (.ireturn, 1) := by decide +kernel
theorem dX5_copy_112 : decode cX5_copy 112 = .ok (.iconst 0, 1) := by decide +kernel
theorem dX5_copy_113 : decode cX5_copy 113 = .ok (.istore 6, 2) := by decide +kernel
theorem dX5_copy_115 : decode cX5_copy 115 = .ok (.iload 6, 2) := by decide +kernel
theorem dX5_copy_117 : decode cX5_copy 117 = .ok (.iload 5, 2) := by decide +kernel
theorem dX5_copy_119 : decode cX5_copy 119 = .ok (.if_icmp .ge 30, 3) := by decide +kernel
theorem dX5_copy_122 : decode cX5_copy 122 = .ok (.aload_n 0, 1) := by decide +kernel
theorem dX5_copy_123 : decode cX5_copy 123 = .ok (.getfield 47, 3) := by decide +kernel
theorem dX5_copy_126 : decode cX5_copy 126 = .ok (.iload 6, 2) := by decide +kernel
theorem dX5_copy_128 : decode cX5_copy 128 = .ok (.aload_n 0, 1) := by decide +kernel
theorem dX5_copy_129 : decode cX5_copy 129 = .ok (.getfield 44, 3) := by decide +kernel
theorem dX5_copy_132 : decode cX5_copy 132 = .ok (.bipush 40, 2) := by decide +kernel
theorem dX5_copy_134 : decode cX5_copy 134 = .ok (.iload_n 1, 1) := by decide +kernel
theorem dX5_copy_135 : decode cX5_copy 135 = .ok (.imul, 1) := by decide +kernel
theorem dX5_copy_136 : decode cX5_copy 136 = .ok (.iload_n 2, 1) := by decide +kernel
theorem dX5_copy_137 : decode cX5_copy 137 = .ok (.iadd, 1) := by decide +kernel
theorem dX5_copy_138 : decode cX5_copy 138 = .ok (.iload 6, 2) := by decide +kernel
theorem dX5_copy_140 : decode cX5_copy 140 = .ok (.iadd, 1) := by decide +kernel
theorem dX5_copy_141 : decode cX5_copy 141 = .ok (.iaload, 1) := by decide +kernel
theorem dX5_copy_142 : decode cX5_copy 142 = .ok (.iastore, 1) := by decide +kernel
theorem dX5_copy_143 : decode cX5_copy 143 = .ok (.iinc 6 1, 3) := by decide +kernel
theorem dX5_copy_146 : decode cX5_copy 146 = .ok (.goto (-31), 3) := by decide +kernel
theorem dX5_copy_149 : decode cX5_copy 149 = .ok (.iconst 0, 1) := by decide +kernel
theorem dX5_copy_150 : decode cX5_copy 150 = .ok (.istore 6, 2) := by decide +kernel
theorem dX5_copy_152 : decode cX5_copy 152 = .ok (.iload 6, 2) := by decide +kernel
theorem dX5_copy_154 : decode cX5_copy 154 = .ok (.iload 5, 2) := by decide +kernel
theorem dX5_copy_156 : decode cX5_copy 156 = .ok (.if_icmp .ge 31, 3) := by decide +kernel
theorem dX5_copy_159 : decode cX5_copy 159 = .ok (.aload_n 0, 1) := by decide +kernel
theorem dX5_copy_160 : decode cX5_copy 160 = .ok (.getfield 44, 3) := by decide +kernel
theorem dX5_copy_163 : decode cX5_copy 163 = .ok (.bipush 40, 2) := by decide +kernel
theorem dX5_copy_165 : decode cX5_copy 165 = .ok (.iload_n 3, 1) := by decide +kernel
theorem dX5_copy_166 : decode cX5_copy 166 = .ok (.imul, 1) := by decide +kernel
theorem dX5_copy_167 : decode cX5_copy 167 = .ok (.iload 4, 2) := by decide +kernel
theorem dX5_copy_169 : decode cX5_copy 169 = .ok (.iadd, 1) := by decide +kernel
theorem dX5_copy_170 : decode cX5_copy 170 = .ok (.iload 6, 2) := by decide +kernel
theorem dX5_copy_172 : decode cX5_copy 172 = .ok (.iadd, 1) := by decide +kernel
theorem dX5_copy_173 : decode cX5_copy 173 = .ok (.aload_n 0, 1) := by decide +kernel
theorem dX5_copy_174 : decode cX5_copy 174 = .ok (.getfield 47, 3) := by decide +kernel
theorem dX5_copy_177 : decode cX5_copy 177 = .ok (.iload 6, 2) := by decide +kernel
theorem dX5_copy_179 : decode cX5_copy 179 = .ok (.iaload, 1) := by decide +kernel
theorem dX5_copy_180 : decode cX5_copy 180 = .ok (.iastore, 1) := by decide +kernel
theorem dX5_copy_181 : decode cX5_copy 181 = .ok (.iinc 6 1, 3) := by decide +kernel
theorem dX5_copy_184 : decode cX5_copy 184 = .ok (.goto (-32), 3) := by decide +kernel
theorem dX5_copy_187 : decode cX5_copy 187 = .ok (.iload 5, 2) := by decide +kernel
theorem dX5_copy_189 : decode cX5_copy 189 = .ok (.ireturn, 1) := by decide +kernel
def j5_copy_14  (xfound : Nat → Int32) (xwid : Nat → Int32) (xsiz : Nat → Int32) (xcel : Nat → Int32) (xcar : Nat → Int32)  : Option (Int32 × (Nat → Int32) × (Nat → Int32) × (Nat → Int32)) :=
  ob2 (f5_no xfound (0 : Int32)) (fun r20 xfound_21 =>
  some (r20, xfound_21, xcel, xcar))
def j5_copy_38  (xfound : Nat → Int32) (xwid : Nat → Int32) (xsiz : Nat → Int32) (xcel : Nat → Int32) (xcar : Nat → Int32)  : Option (Int32 × (Nat → Int32) × (Nat → Int32) × (Nat → Int32)) :=
  ob2 (f5_no xfound (5 : Int32)) (fun r23 xfound_24 =>
  some (r23, xfound_24, xcel, xcar))
def j5_copy_106  (xfound : Nat → Int32) (xwid : Nat → Int32) (xsiz : Nat → Int32) (xcel : Nat → Int32) (xcar : Nat → Int32)  : Option (Int32 × (Nat → Int32) × (Nat → Int32) × (Nat → Int32)) :=
  ob2 (f5_no xfound (0 : Int32)) (fun r26 xfound_27 =>
  some (r26, xfound_27, xcel, xcar))
def l5_copy_152  : Nat → (Nat → Int32) → (Nat → Int32) → (Nat → Int32) → (Nat → Int32) → (Nat → Int32) → Int32 → Int32 → Int32 → Int32 → Option (Int32 × (Nat → Int32) × (Nat → Int32) × (Nat → Int32))
  | 0, _, _, _, _, _, _, _, _, _ => none
  | n + 1, xfound, xwid, xsiz, xcel, xcar, v3, v4, v5, v6 =>
    if v5 ≤ v6 then (
      some (v5, xfound, xcel, xcar))
    else (
      gd (inb v6 40) (
      gd (inb ((((40 : Int32) * v3) + v4) + v6) 160) (
      (l5_copy_152 n) xfound xwid xsiz (upd xcel (((((40 : Int32) * v3) + v4) + v6).toNatClampNeg) (xcar v6.toNatClampNeg)) xcar v3 v4 v5 (v6 + (1 : Int32)))))
def l5_copy_115  : Nat → (Nat → Int32) → (Nat → Int32) → (Nat → Int32) → (Nat → Int32) → (Nat → Int32) → Int32 → Int32 → Int32 → Int32 → Int32 → Int32 → Option (Int32 × (Nat → Int32) × (Nat → Int32) × (Nat → Int32))
  | 0, _, _, _, _, _, _, _, _, _, _, _ => none
  | n + 1, xfound, xwid, xsiz, xcel, xcar, v1, v2, v3, v4, v5, v6 =>
    if v5 ≤ v6 then (
      l5_copy_152 1000 xfound xwid xsiz xcel xcar v3 v4 v5 (0 : Int32))
    else (
      gd (inb ((((40 : Int32) * v1) + v2) + v6) 160) (
      gd (inb v6 40) (
      (l5_copy_115 n) xfound xwid xsiz xcel (upd xcar v6.toNatClampNeg (xcel (((((40 : Int32) * v1) + v2) + v6).toNatClampNeg))) v1 v2 v3 v4 v5 (v6 + (1 : Int32)))))
def f5_copy (xfound : Nat → Int32) (xwid : Nat → Int32) (xsiz : Nat → Int32) (xcel : Nat → Int32) (xcar : Nat → Int32) (v1 : Int32) (v2 : Int32) (v3 : Int32) (v4 : Int32) (v5 : Int32) : Option (Int32 × (Nat → Int32) × (Nat → Int32) × (Nat → Int32)) :=
  if (f5_isSheet v1) = (0 : Int32) then (
    j5_copy_14 xfound xwid xsiz xcel xcar)
  else (
    if (f5_isSheet v3) = (0 : Int32) then (
      j5_copy_14 xfound xwid xsiz xcel xcar)
    else (
      gd (inb v1 4) (
      if (xwid v1.toNatClampNeg) = (0 : Int32) then (
        j5_copy_38 xfound xwid xsiz xcel xcar)
      else (
        gd (inb v3 4) (
        if (xwid v3.toNatClampNeg) = (0 : Int32) then (
          j5_copy_38 xfound xwid xsiz xcel xcar)
        else (
          gd (inb v1 4) (
          gd (inb v3 4) (
          if (xwid v1.toNatClampNeg) = (xwid v3.toNatClampNeg) then (
            if v5 < (0 : Int32) then (
              j5_copy_106 xfound xwid xsiz xcel xcar)
            else (
              if v2 < (0 : Int32) then (
                j5_copy_106 xfound xwid xsiz xcel xcar)
              else (
                if v4 < (0 : Int32) then (
                  j5_copy_106 xfound xwid xsiz xcel xcar)
                else (
                  gd (inb v1 4) (
                  if ((xsiz v1.toNatClampNeg) - v5) < v2 then (
                    j5_copy_106 xfound xwid xsiz xcel xcar)
                  else (
                    gd (inb v3 4) (
                    if v4 ≤ ((xsiz v3.toNatClampNeg) - v5) then (
                      l5_copy_115 1000 xfound xwid xsiz xcel xcar v1 v2 v3 v4 v5 (0 : Int32))
                    else (
                      j5_copy_106 xfound xwid xsiz xcel xcar))))))))
          else (
            ob2 (f5_no xfound (2 : Int32)) (fun r17 xfound_18 =>
            some (r17, xfound_18, xcel, xcar)))))))))))
set_option maxHeartbeats 4000000 in
set_option maxRecDepth 100000 in
theorem b5_copy_14 {X : XP} {p : Program} {l : Launch} {e : Env} {s : State} {m : MethodId} {args : Array Value} {below : List Frame} {meth : Method} {c : Code} {D : va_G} {cI cC : ClassId} {ad : Nat → Nat} {A : Nat → Prop} {xs : Nat → Int32} {xkept : Nat → Int32} {xaside : Nat → Int32} {xisK : Int32} {xgone : Int32} {xover : Nat → Int32} {xtape : Nat → Int32} {xtaped : Int32} {xtok : Int32} {xbeg : Int32} {xend : Int32} {xval : Int64} {xwid : Nat → Int32} {xsiz : Nat → Int32} {r0 : Int32} {o_xfound : Nat → Int32} {o_xcel : Nat → Int32} {o_xcar : Nat → Int32} (C0 : CX X p s m args meth c cX5_copy 7 (some .int) RX5 A) : ∀ {xfound : Nat → Int32} {xcel : Nat → Int32} {xcar : Nat → Int32} {H : Heap} {locs : List Loc} {ls : Array Slot}, GX X D (tyM cI cC) A s (wM cI cC ad xs xkept xaside xisK xfound xgone xover xtape xtaped xtok xbeg xend xval xwid xsiz xcel xcar) H locs → lv_has ls 7 [(0, .ref (ad 0))] → j5_copy_14  xfound xwid xsiz xcel xcar = some (r0, o_xfound, o_xcel, o_xcar) → W p l e ({ frames := 2, cells := 0, slots := 0, locals := 42 }) s m args below meth c H locs 0 0 (MQ below (QcI D (tyM cI cC) (wM cI cC ad xs xkept xaside xisK o_xfound xgone xover xtape xtaped xtok xbeg xend xval xwid xsiz o_xcel o_xcar) A r0) args s 0 0 A) (F0 m 14 ls []) := by
  have hx := C0.1
  have hb := C0.2.1
  have hown := C0.2.2.2.2.1
  have hts := C0.2.2.2.2.2.1
  have hX := C0.2.2.2.2.2.2.2.2
  intro xfound xcel xcar H locs ls G hl hf
  unfold j5_copy_14 at hf
  refine lv_aload_n hx hb dX5_copy_14 rfl (lv_at hl 0 rfl) ?_
  refine lv_iconst (v := (0 : Int32)) hx hb dX5_copy_15 (by decide) ?_
  obtain ⟨r20, xfound_21, hc22, hf⟩ := ob2_s hf
  refine go_i C0 G (runV_of (n := 1) (q0 := 0) (As := [.int (0 : Int32)]) (rest := []) C0 G (c5_no hX hc22) q788 q54 q785 q787 q9 o5_no ⟨rfl, rfl⟩ ⟨Nat.le_of_ble_eq_true rfl, Nat.le_of_ble_eq_true rfl⟩ rfl rfl rfl hl.1 rfl (Nat.le_of_ble_eq_true rfl) dX5_copy_16) (fun H locs G => ?_)
  obtain ⟨rfl, rfl, rfl, rfl⟩ := inj4 hf
  exact ret_i C0 G dX5_copy_19
set_option maxHeartbeats 4000000 in
set_option maxRecDepth 100000 in
theorem b5_copy_38 {X : XP} {p : Program} {l : Launch} {e : Env} {s : State} {m : MethodId} {args : Array Value} {below : List Frame} {meth : Method} {c : Code} {D : va_G} {cI cC : ClassId} {ad : Nat → Nat} {A : Nat → Prop} {xs : Nat → Int32} {xkept : Nat → Int32} {xaside : Nat → Int32} {xisK : Int32} {xgone : Int32} {xover : Nat → Int32} {xtape : Nat → Int32} {xtaped : Int32} {xtok : Int32} {xbeg : Int32} {xend : Int32} {xval : Int64} {xwid : Nat → Int32} {xsiz : Nat → Int32} {r0 : Int32} {o_xfound : Nat → Int32} {o_xcel : Nat → Int32} {o_xcar : Nat → Int32} (C0 : CX X p s m args meth c cX5_copy 7 (some .int) RX5 A) : ∀ {xfound : Nat → Int32} {xcel : Nat → Int32} {xcar : Nat → Int32} {H : Heap} {locs : List Loc} {ls : Array Slot}, GX X D (tyM cI cC) A s (wM cI cC ad xs xkept xaside xisK xfound xgone xover xtape xtaped xtok xbeg xend xval xwid xsiz xcel xcar) H locs → lv_has ls 7 [(0, .ref (ad 0))] → j5_copy_38  xfound xwid xsiz xcel xcar = some (r0, o_xfound, o_xcel, o_xcar) → W p l e ({ frames := 2, cells := 0, slots := 0, locals := 42 }) s m args below meth c H locs 0 0 (MQ below (QcI D (tyM cI cC) (wM cI cC ad xs xkept xaside xisK o_xfound xgone xover xtape xtaped xtok xbeg xend xval xwid xsiz o_xcel o_xcar) A r0) args s 0 0 A) (F0 m 38 ls []) := by
  have hx := C0.1
  have hb := C0.2.1
  have hown := C0.2.2.2.2.1
  have hts := C0.2.2.2.2.2.1
  have hX := C0.2.2.2.2.2.2.2.2
  intro xfound xcel xcar H locs ls G hl hf
  unfold j5_copy_38 at hf
  refine lv_aload_n hx hb dX5_copy_38 rfl (lv_at hl 0 rfl) ?_
  refine lv_iconst (v := (5 : Int32)) hx hb dX5_copy_39 (by decide) ?_
  obtain ⟨r23, xfound_24, hc25, hf⟩ := ob2_s hf
  refine go_i C0 G (runV_of (n := 1) (q0 := 0) (As := [.int (5 : Int32)]) (rest := []) C0 G (c5_no hX hc25) q788 q54 q785 q787 q9 o5_no ⟨rfl, rfl⟩ ⟨Nat.le_of_ble_eq_true rfl, Nat.le_of_ble_eq_true rfl⟩ rfl rfl rfl hl.1 rfl (Nat.le_of_ble_eq_true rfl) dX5_copy_40) (fun H locs G => ?_)
  obtain ⟨rfl, rfl, rfl, rfl⟩ := inj4 hf
  exact ret_i C0 G dX5_copy_43
set_option maxHeartbeats 4000000 in
set_option maxRecDepth 100000 in
theorem b5_copy_106 {X : XP} {p : Program} {l : Launch} {e : Env} {s : State} {m : MethodId} {args : Array Value} {below : List Frame} {meth : Method} {c : Code} {D : va_G} {cI cC : ClassId} {ad : Nat → Nat} {A : Nat → Prop} {xs : Nat → Int32} {xkept : Nat → Int32} {xaside : Nat → Int32} {xisK : Int32} {xgone : Int32} {xover : Nat → Int32} {xtape : Nat → Int32} {xtaped : Int32} {xtok : Int32} {xbeg : Int32} {xend : Int32} {xval : Int64} {xwid : Nat → Int32} {xsiz : Nat → Int32} {r0 : Int32} {o_xfound : Nat → Int32} {o_xcel : Nat → Int32} {o_xcar : Nat → Int32} (C0 : CX X p s m args meth c cX5_copy 7 (some .int) RX5 A) : ∀ {xfound : Nat → Int32} {xcel : Nat → Int32} {xcar : Nat → Int32} {H : Heap} {locs : List Loc} {ls : Array Slot}, GX X D (tyM cI cC) A s (wM cI cC ad xs xkept xaside xisK xfound xgone xover xtape xtaped xtok xbeg xend xval xwid xsiz xcel xcar) H locs → lv_has ls 7 [(0, .ref (ad 0))] → j5_copy_106  xfound xwid xsiz xcel xcar = some (r0, o_xfound, o_xcel, o_xcar) → W p l e ({ frames := 2, cells := 0, slots := 0, locals := 42 }) s m args below meth c H locs 0 0 (MQ below (QcI D (tyM cI cC) (wM cI cC ad xs xkept xaside xisK o_xfound xgone xover xtape xtaped xtok xbeg xend xval xwid xsiz o_xcel o_xcar) A r0) args s 0 0 A) (F0 m 106 ls []) := by
  have hx := C0.1
  have hb := C0.2.1
  have hown := C0.2.2.2.2.1
  have hts := C0.2.2.2.2.2.1
  have hX := C0.2.2.2.2.2.2.2.2
  intro xfound xcel xcar H locs ls G hl hf
  unfold j5_copy_106 at hf
  refine lv_aload_n hx hb dX5_copy_106 rfl (lv_at hl 0 rfl) ?_
  refine lv_iconst (v := (0 : Int32)) hx hb dX5_copy_107 (by decide) ?_
  obtain ⟨r26, xfound_27, hc28, hf⟩ := ob2_s hf
  refine go_i C0 G (runV_of (n := 1) (q0 := 0) (As := [.int (0 : Int32)]) (rest := []) C0 G (c5_no hX hc28) q788 q54 q785 q787 q9 o5_no ⟨rfl, rfl⟩ ⟨Nat.le_of_ble_eq_true rfl, Nat.le_of_ble_eq_true rfl⟩ rfl rfl rfl hl.1 rfl (Nat.le_of_ble_eq_true rfl) dX5_copy_108) (fun H locs G => ?_)
  obtain ⟨rfl, rfl, rfl, rfl⟩ := inj4 hf
  exact ret_i C0 G dX5_copy_111
set_option maxHeartbeats 4000000 in
set_option maxRecDepth 100000 in
theorem b5_copy_152 {X : XP} {p : Program} {l : Launch} {e : Env} {s : State} {m : MethodId} {args : Array Value} {below : List Frame} {meth : Method} {c : Code} {D : va_G} {cI cC : ClassId} {ad : Nat → Nat} {A : Nat → Prop} {xs : Nat → Int32} {xkept : Nat → Int32} {xaside : Nat → Int32} {xisK : Int32} {xgone : Int32} {xover : Nat → Int32} {xtape : Nat → Int32} {xtaped : Int32} {xtok : Int32} {xbeg : Int32} {xend : Int32} {xval : Int64} {xwid : Nat → Int32} {xsiz : Nat → Int32} {r0 : Int32} {o_xfound : Nat → Int32} {o_xcel : Nat → Int32} {o_xcar : Nat → Int32} (C0 : CX X p s m args meth c cX5_copy 7 (some .int) RX5 A) : ∀ (n : Nat) {xfound : Nat → Int32} {xcel : Nat → Int32} {xcar : Nat → Int32} {v3 : Int32} {v4 : Int32} {v5 : Int32} {v6 : Int32} {H : Heap} {locs : List Loc} {ls : Array Slot}, GX X D (tyM cI cC) A s (wM cI cC ad xs xkept xaside xisK xfound xgone xover xtape xtaped xtok xbeg xend xval xwid xsiz xcel xcar) H locs → lv_has ls 7 [(0, .ref (ad 0)), (3, .int v3), (4, .int v4), (5, .int v5), (6, .int v6)] → l5_copy_152  n xfound xwid xsiz xcel xcar v3 v4 v5 v6 = some (r0, o_xfound, o_xcel, o_xcar) → W p l e ({ frames := 2, cells := 0, slots := 0, locals := 42 }) s m args below meth c H locs 0 0 (MQ below (QcI D (tyM cI cC) (wM cI cC ad xs xkept xaside xisK o_xfound xgone xover xtape xtaped xtok xbeg xend xval xwid xsiz o_xcel o_xcar) A r0) args s 0 0 A) (F0 m 152 ls []) := by
  have hx := C0.1
  have hb := C0.2.1
  have hown := C0.2.2.2.2.1
  have hts := C0.2.2.2.2.2.1
  have hX := C0.2.2.2.2.2.2.2.2
  intro n
  induction n with
  | zero =>
    intro _ _ _ _ _ _ _ _ _ _ G hl hf
    cases hf
  | succ n ih =>
    intro xfound xcel xcar v3 v4 v5 v6 H locs ls G hl hf
    rw [l5_copy_152] at hf
    refine lv_iload hx hb dX5_copy_152 (lv_at hl 4 rfl) ?_
    refine lv_iload hx hb dX5_copy_154 (lv_at hl 3 rfl) ?_
    refine lv_icmp_ge (tgt := 187) hx hb dX5_copy_156 (by decide) (fun hc32 => ?_) (fun hc32 => ?_)
    · have hf := itp hc32 hf
      refine lv_iload hx hb dX5_copy_187 (lv_at hl 3 rfl) ?_
      obtain ⟨rfl, rfl, rfl, rfl⟩ := inj4 hf
      exact ret_i C0 G dX5_copy_189
    · have hf := itn hc32 hf
      refine lv_aload_n hx hb dX5_copy_159 rfl (lv_at hl 0 rfl) ?_
      refine s_get (C := RX5) (T := TX5) C0 G i_X5 0 18 rfl rfl (by decide) q731 rfl dX5_copy_160 ?_
      refine lv_bipush (v := (40 : Int32)) hx hb dX5_copy_163 (by decide) ?_
      refine lv_iload_n hx hb dX5_copy_165 rfl (lv_at hl 1 rfl) ?_
      refine lv_imul hx hb dX5_copy_166 ?_
      refine lv_iload hx hb dX5_copy_167 (lv_at hl 2 rfl) ?_
      refine lv_iadd hx hb dX5_copy_169 ?_
      refine lv_iload hx hb dX5_copy_170 (lv_at hl 4 rfl) ?_
      refine lv_iadd hx hb dX5_copy_172 ?_
      refine lv_aload_n hx hb dX5_copy_173 rfl (lv_at hl 0 rfl) ?_
      refine s_get (C := RX5) (T := TX5) C0 G i_X5 0 19 rfl rfl (by decide) q732 rfl dX5_copy_174 ?_
      refine lv_iload hx hb dX5_copy_177 (lv_at hl 4 rfl) ?_
      obtain ⟨hi33, hf⟩ := gd_s hf
      refine s_iald (k := v6.toNatClampNeg) C0 G 13 0 rfl rfl (vin hi33) rfl dX5_copy_179 ?_
      obtain ⟨hi34, hf⟩ := gd_s hf
      refine s_iast (k := ((((40 : Int32) * v3) + v4) + v6).toNatClampNeg) (w' := (wM cI cC ad xs xkept xaside xisK xfound xgone xover xtape xtaped xtok xbeg xend xval xwid xsiz (upd xcel (((((40 : Int32) * v3) + v4) + v6).toNatClampNeg) (xcar v6.toNatClampNeg)) xcar)) C0 G 12 0 rfl rfl (vin hi34) rfl rfl dX5_copy_180 (fun H locs G => ?_)
      refine lv_iinc (v := (v6 + (1 : Int32))) (lv' := [(6, .int (v6 + (1 : Int32))), (0, .ref (ad 0)), (3, .int v3), (4, .int v4), (5, .int v5)]) hx hb dX5_copy_181 hl (k := 4) rfl rfl (by decide) rfl (fun ls hl => ?_)
      refine lv_goto (tgt := 152) hx hb dX5_copy_184 (by decide) ?_
      exact ih G (lv_sub hl [1, 2, 3, 4, 0] rfl) hf
set_option maxHeartbeats 4000000 in
set_option maxRecDepth 100000 in
theorem b5_copy_115 {X : XP} {p : Program} {l : Launch} {e : Env} {s : State} {m : MethodId} {args : Array Value} {below : List Frame} {meth : Method} {c : Code} {D : va_G} {cI cC : ClassId} {ad : Nat → Nat} {A : Nat → Prop} {xs : Nat → Int32} {xkept : Nat → Int32} {xaside : Nat → Int32} {xisK : Int32} {xgone : Int32} {xover : Nat → Int32} {xtape : Nat → Int32} {xtaped : Int32} {xtok : Int32} {xbeg : Int32} {xend : Int32} {xval : Int64} {xwid : Nat → Int32} {xsiz : Nat → Int32} {r0 : Int32} {o_xfound : Nat → Int32} {o_xcel : Nat → Int32} {o_xcar : Nat → Int32} (C0 : CX X p s m args meth c cX5_copy 7 (some .int) RX5 A) : ∀ (n : Nat) {xfound : Nat → Int32} {xcel : Nat → Int32} {xcar : Nat → Int32} {v1 : Int32} {v2 : Int32} {v3 : Int32} {v4 : Int32} {v5 : Int32} {v6 : Int32} {H : Heap} {locs : List Loc} {ls : Array Slot}, GX X D (tyM cI cC) A s (wM cI cC ad xs xkept xaside xisK xfound xgone xover xtape xtaped xtok xbeg xend xval xwid xsiz xcel xcar) H locs → lv_has ls 7 [(0, .ref (ad 0)), (1, .int v1), (2, .int v2), (3, .int v3), (4, .int v4), (5, .int v5), (6, .int v6)] → l5_copy_115  n xfound xwid xsiz xcel xcar v1 v2 v3 v4 v5 v6 = some (r0, o_xfound, o_xcel, o_xcar) → W p l e ({ frames := 2, cells := 0, slots := 0, locals := 42 }) s m args below meth c H locs 0 0 (MQ below (QcI D (tyM cI cC) (wM cI cC ad xs xkept xaside xisK o_xfound xgone xover xtape xtaped xtok xbeg xend xval xwid xsiz o_xcel o_xcar) A r0) args s 0 0 A) (F0 m 115 ls []) := by
  have hx := C0.1
  have hb := C0.2.1
  have hown := C0.2.2.2.2.1
  have hts := C0.2.2.2.2.2.1
  have hX := C0.2.2.2.2.2.2.2.2
  intro n
  induction n with
  | zero =>
    intro _ _ _ _ _ _ _ _ _ _ _ _ G hl hf
    cases hf
  | succ n ih =>
    intro xfound xcel xcar v1 v2 v3 v4 v5 v6 H locs ls G hl hf
    rw [l5_copy_115] at hf
    refine lv_iload hx hb dX5_copy_115 (lv_at hl 6 rfl) ?_
    refine lv_iload hx hb dX5_copy_117 (lv_at hl 5 rfl) ?_
    refine lv_icmp_ge (tgt := 149) hx hb dX5_copy_119 (by decide) (fun hc29 => ?_) (fun hc29 => ?_)
    · have hf := itp hc29 hf
      refine lv_iconst (v := (0 : Int32)) hx hb dX5_copy_149 (by decide) ?_
      refine lv_istore (lv' := [(6, .int (0 : Int32)), (0, .ref (ad 0)), (1, .int v1), (2, .int v2), (3, .int v3), (4, .int v4), (5, .int v5)]) hx hb dX5_copy_150 hl (by decide) rfl (fun ls hl => ?_)
      exact b5_copy_152 C0  1000 G (lv_sub hl [1, 4, 5, 6, 0] rfl) hf
    · have hf := itn hc29 hf
      refine lv_aload_n hx hb dX5_copy_122 rfl (lv_at hl 0 rfl) ?_
      refine s_get (C := RX5) (T := TX5) C0 G i_X5 0 19 rfl rfl (by decide) q732 rfl dX5_copy_123 ?_
      refine lv_iload hx hb dX5_copy_126 (lv_at hl 6 rfl) ?_
      refine lv_aload_n hx hb dX5_copy_128 rfl (lv_at hl 0 rfl) ?_
      refine s_get (C := RX5) (T := TX5) C0 G i_X5 0 18 rfl rfl (by decide) q731 rfl dX5_copy_129 ?_
      refine lv_bipush (v := (40 : Int32)) hx hb dX5_copy_132 (by decide) ?_
      refine lv_iload_n hx hb dX5_copy_134 rfl (lv_at hl 1 rfl) ?_
      refine lv_imul hx hb dX5_copy_135 ?_
      refine lv_iload_n hx hb dX5_copy_136 rfl (lv_at hl 2 rfl) ?_
      refine lv_iadd hx hb dX5_copy_137 ?_
      refine lv_iload hx hb dX5_copy_138 (lv_at hl 6 rfl) ?_
      refine lv_iadd hx hb dX5_copy_140 ?_
      obtain ⟨hi30, hf⟩ := gd_s hf
      refine s_iald (k := ((((40 : Int32) * v1) + v2) + v6).toNatClampNeg) C0 G 12 0 rfl rfl (vin hi30) rfl dX5_copy_141 ?_
      obtain ⟨hi31, hf⟩ := gd_s hf
      refine s_iast (k := v6.toNatClampNeg) (w' := (wM cI cC ad xs xkept xaside xisK xfound xgone xover xtape xtaped xtok xbeg xend xval xwid xsiz xcel (upd xcar v6.toNatClampNeg (xcel (((((40 : Int32) * v1) + v2) + v6).toNatClampNeg))))) C0 G 13 0 rfl rfl (vin hi31) rfl rfl dX5_copy_142 (fun H locs G => ?_)
      refine lv_iinc (v := (v6 + (1 : Int32))) (lv' := [(6, .int (v6 + (1 : Int32))), (0, .ref (ad 0)), (1, .int v1), (2, .int v2), (3, .int v3), (4, .int v4), (5, .int v5)]) hx hb dX5_copy_143 hl (k := 6) rfl rfl (by decide) rfl (fun ls hl => ?_)
      refine lv_goto (tgt := 115) hx hb dX5_copy_146 (by decide) ?_
      exact ih G (lv_sub hl [1, 2, 3, 4, 5, 6, 0] rfl) hf
set_option maxHeartbeats 4000000 in
set_option maxRecDepth 100000 in
theorem b5_copy_0 {X : XP} {p : Program} {l : Launch} {e : Env} {s : State} {m : MethodId} {args : Array Value} {below : List Frame} {meth : Method} {c : Code} {D : va_G} {cI cC : ClassId} {ad : Nat → Nat} {A : Nat → Prop} {xs : Nat → Int32} {xkept : Nat → Int32} {xaside : Nat → Int32} {xisK : Int32} {xgone : Int32} {xover : Nat → Int32} {xtape : Nat → Int32} {xtaped : Int32} {xtok : Int32} {xbeg : Int32} {xend : Int32} {xval : Int64} {xwid : Nat → Int32} {xsiz : Nat → Int32} {r0 : Int32} {o_xfound : Nat → Int32} {o_xcel : Nat → Int32} {o_xcar : Nat → Int32} (C0 : CX X p s m args meth c cX5_copy 7 (some .int) RX5 A) : ∀ {xfound : Nat → Int32} {xcel : Nat → Int32} {xcar : Nat → Int32} {v1 : Int32} {v2 : Int32} {v3 : Int32} {v4 : Int32} {v5 : Int32} {H : Heap} {locs : List Loc} {ls : Array Slot}, GX X D (tyM cI cC) A s (wM cI cC ad xs xkept xaside xisK xfound xgone xover xtape xtaped xtok xbeg xend xval xwid xsiz xcel xcar) H locs → lv_has ls 7 [(0, .ref (ad 0)), (1, .int v1), (2, .int v2), (3, .int v3), (4, .int v4), (5, .int v5)] → f5_copy xfound xwid xsiz xcel xcar v1 v2 v3 v4 v5 = some (r0, o_xfound, o_xcel, o_xcar) → W p l e ({ frames := 2, cells := 0, slots := 0, locals := 42 }) s m args below meth c H locs 0 0 (MQ below (QcI D (tyM cI cC) (wM cI cC ad xs xkept xaside xisK o_xfound xgone xover xtape xtaped xtok xbeg xend xval xwid xsiz o_xcel o_xcar) A r0) args s 0 0 A) (F0 m 0 ls []) := by
  have hx := C0.1
  have hb := C0.2.1
  have hown := C0.2.2.2.2.1
  have hts := C0.2.2.2.2.2.1
  have hX := C0.2.2.2.2.2.2.2.2
  intro xfound xcel xcar v1 v2 v3 v4 v5 H locs ls G hl hf
  unfold f5_copy at hf
  refine lv_iload_n hx hb dX5_copy_0 rfl (lv_at hl 1 rfl) ?_
  refine go_i C0 G (runS_of (n := 1) (As := [.int v1]) (rest := []) C0 G (c5_isSheet hX rfl) q1008 q54 q1006 q1007 o5_isSheet ⟨rfl, rfl⟩ ⟨Nat.le_of_ble_eq_true rfl, Nat.le_of_ble_eq_true rfl⟩ rfl hl.1 rfl (Nat.le_of_ble_eq_true rfl) dX5_copy_1) (fun H locs G => ?_)
  refine lv_if_eq (tgt := 14) hx hb dX5_copy_4 (by decide) (fun hc1 => ?_) (fun hc1 => ?_)
  · have hf := itp hc1 hf
    exact b5_copy_14 C0  G (lv_sub hl [0] rfl) hf
  · have hf := itn hc1 hf
    refine lv_iload_n hx hb dX5_copy_7 rfl (lv_at hl 3 rfl) ?_
    refine go_i C0 G (runS_of (n := 1) (As := [.int v3]) (rest := []) C0 G (c5_isSheet hX rfl) q1008 q54 q1006 q1007 o5_isSheet ⟨rfl, rfl⟩ ⟨Nat.le_of_ble_eq_true rfl, Nat.le_of_ble_eq_true rfl⟩ rfl hl.1 rfl (Nat.le_of_ble_eq_true rfl) dX5_copy_8) (fun H locs G => ?_)
    refine lv_if_ne (tgt := 20) hx hb dX5_copy_11 (by decide) (fun hc2 => ?_) (fun hc2 => ?_)
    · have hf := itn hc2 hf
      refine lv_aload_n hx hb dX5_copy_20 rfl (lv_at hl 0 rfl) ?_
      refine s_get (C := RX5) (T := TX5) C0 G i_X5 0 16 rfl rfl (by decide) q729 rfl dX5_copy_21 ?_
      refine lv_iload_n hx hb dX5_copy_24 rfl (lv_at hl 1 rfl) ?_
      obtain ⟨hi3, hf⟩ := gd_s hf
      refine s_iald (k := v1.toNatClampNeg) C0 G 10 0 rfl rfl (vin hi3) rfl dX5_copy_25 ?_
      refine lv_if_eq (tgt := 38) hx hb dX5_copy_26 (by decide) (fun hc4 => ?_) (fun hc4 => ?_)
      · have hf := itp hc4 hf
        exact b5_copy_38 C0  G (lv_sub hl [0] rfl) hf
      · have hf := itn hc4 hf
        refine lv_aload_n hx hb dX5_copy_29 rfl (lv_at hl 0 rfl) ?_
        refine s_get (C := RX5) (T := TX5) C0 G i_X5 0 16 rfl rfl (by decide) q729 rfl dX5_copy_30 ?_
        refine lv_iload_n hx hb dX5_copy_33 rfl (lv_at hl 3 rfl) ?_
        obtain ⟨hi5, hf⟩ := gd_s hf
        refine s_iald (k := v3.toNatClampNeg) C0 G 10 0 rfl rfl (vin hi5) rfl dX5_copy_34 ?_
        refine lv_if_ne (tgt := 44) hx hb dX5_copy_35 (by decide) (fun hc6 => ?_) (fun hc6 => ?_)
        · have hf := itn hc6 hf
          refine lv_aload_n hx hb dX5_copy_44 rfl (lv_at hl 0 rfl) ?_
          refine s_get (C := RX5) (T := TX5) C0 G i_X5 0 16 rfl rfl (by decide) q729 rfl dX5_copy_45 ?_
          refine lv_iload_n hx hb dX5_copy_48 rfl (lv_at hl 1 rfl) ?_
          obtain ⟨hi7, hf⟩ := gd_s hf
          refine s_iald (k := v1.toNatClampNeg) C0 G 10 0 rfl rfl (vin hi7) rfl dX5_copy_49 ?_
          refine lv_aload_n hx hb dX5_copy_50 rfl (lv_at hl 0 rfl) ?_
          refine s_get (C := RX5) (T := TX5) C0 G i_X5 0 16 rfl rfl (by decide) q729 rfl dX5_copy_51 ?_
          refine lv_iload_n hx hb dX5_copy_54 rfl (lv_at hl 3 rfl) ?_
          obtain ⟨hi8, hf⟩ := gd_s hf
          refine s_iald (k := v3.toNatClampNeg) C0 G 10 0 rfl rfl (vin hi8) rfl dX5_copy_55 ?_
          refine lv_icmp_eq (tgt := 65) hx hb dX5_copy_56 (by decide) (fun hc9 => ?_) (fun hc9 => ?_)
          · have hf := itp hc9 hf
            refine lv_iload hx hb dX5_copy_65 (lv_at hl 5 rfl) ?_
            refine lv_if_lt (tgt := 106) hx hb dX5_copy_67 (by decide) (fun hc10 => ?_) (fun hc10 => ?_)
            · have hf := itp hc10 hf
              exact b5_copy_106 C0  G (lv_sub hl [0] rfl) hf
            · have hf := itn hc10 hf
              refine lv_iload_n hx hb dX5_copy_70 rfl (lv_at hl 2 rfl) ?_
              refine lv_if_lt (tgt := 106) hx hb dX5_copy_71 (by decide) (fun hc11 => ?_) (fun hc11 => ?_)
              · have hf := itp hc11 hf
                exact b5_copy_106 C0  G (lv_sub hl [0] rfl) hf
              · have hf := itn hc11 hf
                refine lv_iload hx hb dX5_copy_74 (lv_at hl 4 rfl) ?_
                refine lv_if_lt (tgt := 106) hx hb dX5_copy_76 (by decide) (fun hc12 => ?_) (fun hc12 => ?_)
                · have hf := itp hc12 hf
                  exact b5_copy_106 C0  G (lv_sub hl [0] rfl) hf
                · have hf := itn hc12 hf
                  refine lv_iload_n hx hb dX5_copy_79 rfl (lv_at hl 2 rfl) ?_
                  refine lv_aload_n hx hb dX5_copy_80 rfl (lv_at hl 0 rfl) ?_
                  refine s_get (C := RX5) (T := TX5) C0 G i_X5 0 17 rfl rfl (by decide) q730 rfl dX5_copy_81 ?_
                  refine lv_iload_n hx hb dX5_copy_84 rfl (lv_at hl 1 rfl) ?_
                  obtain ⟨hi13, hf⟩ := gd_s hf
                  refine s_iald (k := v1.toNatClampNeg) C0 G 11 0 rfl rfl (vin hi13) rfl dX5_copy_85 ?_
                  refine lv_iload hx hb dX5_copy_86 (lv_at hl 5 rfl) ?_
                  refine lv_isub hx hb dX5_copy_88 ?_
                  refine lv_icmp_gt (tgt := 106) hx hb dX5_copy_89 (by decide) (fun hc14 => ?_) (fun hc14 => ?_)
                  · have hf := itp hc14 hf
                    exact b5_copy_106 C0  G (lv_sub hl [0] rfl) hf
                  · have hf := itn hc14 hf
                    refine lv_iload hx hb dX5_copy_92 (lv_at hl 4 rfl) ?_
                    refine lv_aload_n hx hb dX5_copy_94 rfl (lv_at hl 0 rfl) ?_
                    refine s_get (C := RX5) (T := TX5) C0 G i_X5 0 17 rfl rfl (by decide) q730 rfl dX5_copy_95 ?_
                    refine lv_iload_n hx hb dX5_copy_98 rfl (lv_at hl 3 rfl) ?_
                    obtain ⟨hi15, hf⟩ := gd_s hf
                    refine s_iald (k := v3.toNatClampNeg) C0 G 11 0 rfl rfl (vin hi15) rfl dX5_copy_99 ?_
                    refine lv_iload hx hb dX5_copy_100 (lv_at hl 5 rfl) ?_
                    refine lv_isub hx hb dX5_copy_102 ?_
                    refine lv_icmp_le (tgt := 112) hx hb dX5_copy_103 (by decide) (fun hc16 => ?_) (fun hc16 => ?_)
                    · have hf := itp hc16 hf
                      refine lv_iconst (v := (0 : Int32)) hx hb dX5_copy_112 (by decide) ?_
                      refine lv_istore (lv' := [(6, .int (0 : Int32)), (0, .ref (ad 0)), (1, .int v1), (2, .int v2), (3, .int v3), (4, .int v4), (5, .int v5)]) hx hb dX5_copy_113 hl (by decide) rfl (fun ls hl => ?_)
                      exact b5_copy_115 C0  1000 G (lv_sub hl [1, 2, 3, 4, 5, 6, 0] rfl) hf
                    · have hf := itn hc16 hf
                      exact b5_copy_106 C0  G (lv_sub hl [0] rfl) hf
          · have hf := itn hc9 hf
            refine lv_aload_n hx hb dX5_copy_59 rfl (lv_at hl 0 rfl) ?_
            refine lv_iconst (v := (2 : Int32)) hx hb dX5_copy_60 (by decide) ?_
            obtain ⟨r17, xfound_18, hc19, hf⟩ := ob2_s hf
            refine go_i C0 G (runV_of (n := 1) (q0 := 0) (As := [.int (2 : Int32)]) (rest := []) C0 G (c5_no hX hc19) q788 q54 q785 q787 q9 o5_no ⟨rfl, rfl⟩ ⟨Nat.le_of_ble_eq_true rfl, Nat.le_of_ble_eq_true rfl⟩ rfl rfl rfl hl.1 rfl (Nat.le_of_ble_eq_true rfl) dX5_copy_61) (fun H locs G => ?_)
            obtain ⟨rfl, rfl, rfl, rfl⟩ := inj4 hf
            exact ret_i C0 G dX5_copy_64
        · have hf := itp hc6 hf
          exact b5_copy_38 C0  G (lv_sub hl [0] rfl) hf
    · have hf := itp hc2 hf
      exact b5_copy_14 C0  G (lv_sub hl [0] rfl) hf
theorem o5_copy : okName yX5_copy 5 := ⟨by decide, by decide, by decide +kernel⟩
set_option maxHeartbeats 4000000 in
set_option maxRecDepth 100000 in
theorem c5_copy {X : XP} (hX : XT X) {l : Launch} {D : va_G} {cI cC : ClassId} {ad : Nat → Nat} {sz : Nat} {xs : Nat → Int32} {xkept : Nat → Int32} {xaside : Nat → Int32} {xisK : Int32} {xfound : Nat → Int32} {xgone : Int32} {xover : Nat → Int32} {xtape : Nat → Int32} {xtaped : Int32} {xtok : Int32} {xbeg : Int32} {xend : Int32} {xval : Int64} {xwid : Nat → Int32} {xsiz : Nat → Int32} {xcel : Nat → Int32} {xcar : Nat → Int32} {v1 : Int32} {v2 : Int32} {v3 : Int32} {v4 : Int32} {v5 : Int32} {r0 : Int32} {o_xfound : Nat → Int32} {o_xcel : Nat → Int32} {o_xcar : Nat → Int32} (hf : f5_copy xfound xwid xsiz xcel xcar v1 v2 v3 v4 v5 = some (r0, o_xfound, o_xcel, o_xcar)) : Met l yX5_copy (wU yX5_copy cX5_copy 7 (some .int)) ({ frames := 2, cells := 0, slots := 0, locals := 42 }) (va_Pc [.ref (ad 0), .int v1, .int v2, .int v3, .int v4, .int v5] (PreW X D (tyM cI cC) (wM cI cC ad xs xkept xaside xisK xfound xgone xover xtape xtaped xtok xbeg xend xval xwid xsiz xcel xcar) sz)) (QcI D (tyM cI cC) (wM cI cC ad xs xkept xaside xisK o_xfound xgone xover xtape xtaped xtok xbeg xend xval xwid xsiz o_xcel o_xcar) (va_A (wM cI cC ad xs xkept xaside xisK xfound xgone xover xtape xtaped xtok xbeg xend xval xwid xsiz xcel xcar) sz) r0) 0 0 (va_A (wM cI cC ad xs xkept xaside xisK xfound xgone xover xtape xtaped xtok xbeg xend xval xwid xsiz xcel xcar) sz) := by
  refine startW hX (own := RX5) (by decide) rfl (Nat.le_of_ble_eq_true rfl) (fun p e s m args below meth c ls C0 G hl => ?_)
  exact b5_copy_0 C0 G hl hf
