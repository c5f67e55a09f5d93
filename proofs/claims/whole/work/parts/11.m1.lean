/-! 5_of -/
theorem dX5_of_0 : decode cX5_of 0 = .ok (.aload_n 0, 1) := by decide +kernel
theorem dX5_of_1 : decode cX5_of 1 = .ok (.iload_n 1, 1) := by decide +kernel
theorem dX5_of_2 : decode cX5_of 2 = .ok (.invokevirtual 111, 3) := by decide +kernel
theorem dX5_of_5 : decode cX5_of 5 = .ok (.ifCond .eq 13, 3) := by decide +kernel
theorem dX5_of_8 : decode cX5_of 8 = .ok (.iload_n 2, 1) := by decide +kernel
theorem dX5_of_9 : decode cX5_of 9 = .ok (.iconst 0, 1) := by decide +kernel
theorem dX5_of_10 : decode cX5_of 10 = .ok (.bipush 10, 2) := by decide +kernel
theorem dX5_of_12 : decode cX5_of 12 = .ok (.invokestatic 51, 3) := by decide +kernel
theorem dX5_of_15 : decode cX5_of 15 = .ok (.ifCond .ne 9, 3) := by decide +kernel
theorem dX5_of_18 : decode cX5_of 18 = .ok (.aload_n 0, 1) := by decide +kernel
theorem dX5_of_19 : decode cX5_of 19 = .ok (.iconst 0, 1) := by decide +kernel
theorem dX5_of_20 : decode cX5_of 20 = .ok (.invokevirtual 105, 3) := by decide +kernel
theorem dX5_of_23 : decode cX5_of 23 = .ok (.ireturn, 1) := by decide +kernel
theorem dX5_of_24 : decode cX5_of 24 = .ok (.iload_n 2, 1) := by decide +kernel
theorem dX5_of_25 : decode cX5_of 25 = .ok (.tableswitch 63 7 10 #[31, 37, 43, 49], 31) := by decide +kernel
theorem dX5_of_56 : decode cX5_of 56 = .ok (.aload_n 0, 1) := by decide +kernel
theorem dX5_of_57 : decode cX5_of 57 = .ok (.iload_n 1, 1) := by decide +kernel
theorem dX5_of_58 : decode cX5_of 58 = .ok (.invokevirtual 66, 3) := by decide +kernel
theorem dX5_of_61 : decode cX5_of 61 = .ok (.ireturn, 1) := by decide +kernel
theorem dX5_of_62 : decode cX5_of 62 = .ok (.aload_n 0, 1) := by decide +kernel
theorem dX5_of_63 : decode cX5_of 63 = .ok (.iload_n 1, 1) := by decide +kernel
theorem dX5_of_64 : decode cX5_of 64 = .ok (.invokevirtual 70, 3) := by decide +kernel
theorem dX5_of_67 : decode cX5_of 67 = .ok (.ireturn, 1) := by decide +kernel
theorem dX5_of_68 : decode cX5_of 68 = .ok (.aload_n 0, 1) := by decide +kernel
theorem dX5_of_69 : decode cX5_of 69 = .ok (.iload_n 1, 1) := by decide +kernel
theorem dX5_of_70 : decode cX5_of 70 = .ok (.invokevirtual 73, 3) := by decide +kernel
theorem dX5_of_73 : decode cX5_of 73 = .ok (.ireturn, 1) := by decide +kernel
theorem dX5_of_74 : decode cX5_of 74 = .ok (.aload_n 0, 1) := by decide +kernel
theorem dX5_of_75 : decode cX5_of 75 = .ok (.iload_n 1, 1) := by decide +kernel
theorem dX5_of_76 : decode cX5_of 76 = .ok (.invokevirtual 80, 3) := by decide +kernel
theorem dX5_of_79 : decode cX5_of 79 = .ok (.ifCond .eq 7, 3) := by decide +kernel
theorem dX5_of_82 : decode cX5_of 82 = .ok (.iconst 1, 1) := by decide +kernel
theorem dX5_of_83 : decode cX5_of 83 = .ok (.goto 4, 3) := by decide +kernel
theorem dX5_of_86 : decode cX5_of 86 = .ok (.iconst 0, 1) := by decide +kernel
theorem dX5_of_87 : decode cX5_of 87 = .ok (.ireturn, 1) := by decide +kernel
theorem dX5_of_88 : decode cX5_of 88 = .ok (.aload_n 0, 1) := by decide +kernel
theorem dX5_of_89 : decode cX5_of 89 = .ok (.iload_n 1, 1) := by decide +kernel
theorem dX5_of_90 : decode cX5_of 90 = .ok (.iload_n 2, 1) := by decide +kernel
theorem dX5_of_91 : decode cX5_of 91 = .ok (.invokevirtual 55, 3) := by decide +kernel
theorem dX5_of_94 : decode cX5_of 94 = .ok (.ireturn, 1) := by decide +kernel
def j5_of_18  (xs : Nat → Int32) (xfound : Nat → Int32)  : Option (Int32 × (Nat → Int32)) :=
  ob2 (f5_no xfound (0 : Int32)) (fun r18 xfound_19 =>
  some (r18, xfound_19))
def f5_of (xs : Nat → Int32) (xfound : Nat → Int32) (v1 : Int32) (v2 : Int32) : Option (Int32 × (Nat → Int32)) :=
  if (f5_isVisitor xs v1) = (0 : Int32) then (
    j5_of_18 xs xfound)
  else (
    if (f5_in1 v2 (0 : Int32) (10 : Int32)) = (0 : Int32) then (
      j5_of_18 xs xfound)
    else (
      if v2 = (7 : Int32) then (
        ob1 (f5_spanOf xs v1) (fun r4 =>
        some (r4, xfound)))
      else
      if v2 = (8 : Int32) then (
        ob1 (f5_raisesOf xs v1) (fun r7 =>
        some (r7, xfound)))
      else
      if v2 = (9 : Int32) then (
        ob1 (f5_movesOf xs v1) (fun r10 =>
        some (r10, xfound)))
      else
      if v2 = (10 : Int32) then (
        ob1 (f5_standsNow xs v1) (fun r13 =>
        if r13 = (0 : Int32) then (
          some ((0 : Int32), xfound))
        else (
          some ((1 : Int32), xfound))))
      else
      ob1 (f5_get xs v1 v2) (fun r16 =>
      some (r16, xfound))))
set_option maxHeartbeats 4000000 in
set_option maxRecDepth 100000 in
theorem b5_of_18 {X : XP} {p : Program} {l : Launch} {e : Env} {s : State} {m : MethodId} {args : Array Value} {below : List Frame} {meth : Method} {c : Code} {D : va_G} {cI cC : ClassId} {ad : Nat → Nat} {A : Nat → Prop} {xs : Nat → Int32} {xkept : Nat → Int32} {xaside : Nat → Int32} {xisK : Int32} {xgone : Int32} {xover : Nat → Int32} {xtape : Nat → Int32} {xtaped : Int32} {xtok : Int32} {xbeg : Int32} {xend : Int32} {xval : Int64} {xwid : Nat → Int32} {xsiz : Nat → Int32} {xcel : Nat → Int32} {xcar : Nat → Int32} {r0 : Int32} {o_xfound : Nat → Int32} (C0 : CX X p s m args meth c cX5_of 3 (some .int) RX5 A) : ∀ {xfound : Nat → Int32} {H : Heap} {locs : List Loc} {ls : Array Slot}, GX X D (tyM cI cC) A s (wM cI cC ad xs xkept xaside xisK xfound xgone xover xtape xtaped xtok xbeg xend xval xwid xsiz xcel xcar) H locs → lv_has ls 3 [(0, .ref (ad 0))] → j5_of_18  xs xfound = some (r0, o_xfound) → W p l e ({ frames := 4, cells := 0, slots := 0, locals := 96 }) s m args below meth c H locs 0 0 (MQ below (QcI D (tyM cI cC) (wM cI cC ad xs xkept xaside xisK o_xfound xgone xover xtape xtaped xtok xbeg xend xval xwid xsiz xcel xcar) A r0) args s 0 0 A) (F0 m 18 ls []) := by
  have hx := C0.1
  have hb := C0.2.1
  have hown := C0.2.2.2.2.1
  have hts := C0.2.2.2.2.2.1
  have hX := C0.2.2.2.2.2.2.2.2
  intro xfound H locs ls G hl hf
  unfold j5_of_18 at hf
  refine lv_aload_n hx hb dX5_of_18 rfl (lv_at hl 0 rfl) ?_
  refine lv_iconst (v := (0 : Int32)) hx hb dX5_of_19 (by decide) ?_
  obtain ⟨r18, xfound_19, hc20, hf⟩ := ob2_s hf
  refine go_i C0 G (runV_of (n := 1) (q0 := 0) (As := [.int (0 : Int32)]) (rest := []) C0 G (c5_no hX hc20) q788 q54 q785 q787 q9 o5_no ⟨rfl, rfl⟩ ⟨Nat.le_of_ble_eq_true rfl, Nat.le_of_ble_eq_true rfl⟩ rfl rfl rfl hl.1 rfl (Nat.le_of_ble_eq_true rfl) dX5_of_20) (fun H locs G => ?_)
  obtain ⟨rfl, rfl⟩ := inj2 hf
  exact ret_i C0 G dX5_of_23
set_option maxHeartbeats 4000000 in
set_option maxRecDepth 100000 in
theorem b5_of_0 {X : XP} {p : Program} {l : Launch} {e : Env} {s : State} {m : MethodId} {args : Array Value} {below : List Frame} {meth : Method} {c : Code} {D : va_G} {cI cC : ClassId} {ad : Nat → Nat} {A : Nat → Prop} {xs : Nat → Int32} {xkept : Nat → Int32} {xaside : Nat → Int32} {xisK : Int32} {xgone : Int32} {xover : Nat → Int32} {xtape : Nat → Int32} {xtaped : Int32} {xtok : Int32} {xbeg : Int32} {xend : Int32} {xval : Int64} {xwid : Nat → Int32} {xsiz : Nat → Int32} {xcel : Nat → Int32} {xcar : Nat → Int32} {r0 : Int32} {o_xfound : Nat → Int32} (C0 : CX X p s m args meth c cX5_of 3 (some .int) RX5 A) : ∀ {xfound : Nat → Int32} {v1 : Int32} {v2 : Int32} {H : Heap} {locs : List Loc} {ls : Array Slot}, GX X D (tyM cI cC) A s (wM cI cC ad xs xkept xaside xisK xfound xgone xover xtape xtaped xtok xbeg xend xval xwid xsiz xcel xcar) H locs → lv_has ls 3 [(0, .ref (ad 0)), (1, .int v1), (2, .int v2)] → f5_of xs xfound v1 v2 = some (r0, o_xfound) → W p l e ({ frames := 4, cells := 0, slots := 0, locals := 96 }) s m args below meth c H locs 0 0 (MQ below (QcI D (tyM cI cC) (wM cI cC ad xs xkept xaside xisK o_xfound xgone xover xtape xtaped xtok xbeg xend xval xwid xsiz xcel xcar) A r0) args s 0 0 A) (F0 m 0 ls []) := by
  have hx := C0.1
  have hb := C0.2.1
  have hown := C0.2.2.2.2.1
  have hts := C0.2.2.2.2.2.1
  have hX := C0.2.2.2.2.2.2.2.2
  intro xfound v1 v2 H locs ls G hl hf
  unfold f5_of at hf
  refine lv_aload_n hx hb dX5_of_0 rfl (lv_at hl 0 rfl) ?_
  refine lv_iload_n hx hb dX5_of_1 rfl (lv_at hl 1 rfl) ?_
  refine go_i C0 G (runV_of (n := 1) (q0 := 0) (As := [.int v1]) (rest := []) C0 G (c5_isVisitor hX rfl) q825 q54 q822 q824 q14 o5_isVisitor ⟨rfl, rfl⟩ ⟨Nat.le_of_ble_eq_true rfl, Nat.le_of_ble_eq_true rfl⟩ rfl rfl rfl hl.1 rfl (Nat.le_of_ble_eq_true rfl) dX5_of_2) (fun H locs G => ?_)
  refine lv_if_eq (tgt := 18) hx hb dX5_of_5 (by decide) (fun hc1 => ?_) (fun hc1 => ?_)
  · have hf := itp hc1 hf
    exact b5_of_18 C0  G (lv_sub hl [0] rfl) hf
  · have hf := itn hc1 hf
    refine lv_iload_n hx hb dX5_of_8 rfl (lv_at hl 2 rfl) ?_
    refine lv_iconst (v := (0 : Int32)) hx hb dX5_of_9 (by decide) ?_
    refine lv_bipush (v := (10 : Int32)) hx hb dX5_of_10 (by decide) ?_
    refine go_i C0 G (runS_of (n := 3) (As := [.int v2, .int (0 : Int32), .int (10 : Int32)]) (rest := []) C0 G (c5_in1 hX rfl) q784 q54 q782 q783 o5_in1 ⟨rfl, rfl⟩ ⟨Nat.le_of_ble_eq_true rfl, Nat.le_of_ble_eq_true rfl⟩ rfl hl.1 rfl (Nat.le_of_ble_eq_true rfl) dX5_of_12) (fun H locs G => ?_)
    refine lv_if_ne (tgt := 24) hx hb dX5_of_15 (by decide) (fun hc2 => ?_) (fun hc2 => ?_)
    · have hf := itn hc2 hf
      refine lv_iload_n hx hb dX5_of_24 rfl (lv_at hl 2 rfl) ?_
      by_cases hs3 : v2 = (7 : Int32)
      · have hf := itp hs3 hf
        refine lv_tableIn (tgt := 56) hx hb dX5_of_25 (by rw [hs3]; decide) (by rw [hs3]; decide) (by rw [hs3]; rfl) (by decide) ?_
        refine lv_aload_n hx hb dX5_of_56 rfl (lv_at hl 0 rfl) ?_
        refine lv_iload_n hx hb dX5_of_57 rfl (lv_at hl 1 rfl) ?_
        obtain ⟨r4, hc5, hf⟩ := ob1_s hf
        refine go_i C0 G (runV_of (n := 1) (q0 := 0) (As := [.int v1]) (rest := []) C0 G (c5_spanOf hX hc5) q797 q54 q794 q796 q10 o5_spanOf ⟨rfl, rfl⟩ ⟨Nat.le_of_ble_eq_true rfl, Nat.le_of_ble_eq_true rfl⟩ rfl rfl rfl hl.1 rfl (Nat.le_of_ble_eq_true rfl) dX5_of_58) (fun H locs G => ?_)
        obtain ⟨rfl, rfl⟩ := inj2 hf
        exact ret_i C0 G dX5_of_61
      have hf := itn hs3 hf
      by_cases hs6 : v2 = (8 : Int32)
      · have hf := itp hs6 hf
        refine lv_tableIn (tgt := 62) hx hb dX5_of_25 (by rw [hs6]; decide) (by rw [hs6]; decide) (by rw [hs6]; rfl) (by decide) ?_
        refine lv_aload_n hx hb dX5_of_62 rfl (lv_at hl 0 rfl) ?_
        refine lv_iload_n hx hb dX5_of_63 rfl (lv_at hl 1 rfl) ?_
        obtain ⟨r7, hc8, hf⟩ := ob1_s hf
        refine go_i C0 G (runV_of (n := 1) (q0 := 0) (As := [.int v1]) (rest := []) C0 G (c5_raisesOf hX hc8) q829 q54 q826 q828 q15 o5_raisesOf ⟨rfl, rfl⟩ ⟨Nat.le_of_ble_eq_true rfl, Nat.le_of_ble_eq_true rfl⟩ rfl rfl rfl hl.1 rfl (Nat.le_of_ble_eq_true rfl) dX5_of_64) (fun H locs G => ?_)
        obtain ⟨rfl, rfl⟩ := inj2 hf
        exact ret_i C0 G dX5_of_67
      have hf := itn hs6 hf
      by_cases hs9 : v2 = (9 : Int32)
      · have hf := itp hs9 hf
        refine lv_tableIn (tgt := 68) hx hb dX5_of_25 (by rw [hs9]; decide) (by rw [hs9]; decide) (by rw [hs9]; rfl) (by decide) ?_
        refine lv_aload_n hx hb dX5_of_68 rfl (lv_at hl 0 rfl) ?_
        refine lv_iload_n hx hb dX5_of_69 rfl (lv_at hl 1 rfl) ?_
        obtain ⟨r10, hc11, hf⟩ := ob1_s hf
        refine go_i C0 G (runV_of (n := 1) (q0 := 0) (As := [.int v1]) (rest := []) C0 G (c5_movesOf hX hc11) q836 q54 q833 q835 q16 o5_movesOf ⟨rfl, rfl⟩ ⟨Nat.le_of_ble_eq_true rfl, Nat.le_of_ble_eq_true rfl⟩ rfl rfl rfl hl.1 rfl (Nat.le_of_ble_eq_true rfl) dX5_of_70) (fun H locs G => ?_)
        obtain ⟨rfl, rfl⟩ := inj2 hf
        exact ret_i C0 G dX5_of_73
      have hf := itn hs9 hf
      by_cases hs12 : v2 = (10 : Int32)
      · have hf := itp hs12 hf
        refine lv_tableIn (tgt := 74) hx hb dX5_of_25 (by rw [hs12]; decide) (by rw [hs12]; decide) (by rw [hs12]; rfl) (by decide) ?_
        refine lv_aload_n hx hb dX5_of_74 rfl (lv_at hl 0 rfl) ?_
        refine lv_iload_n hx hb dX5_of_75 rfl (lv_at hl 1 rfl) ?_
        obtain ⟨r13, hc14, hf⟩ := ob1_s hf
        refine go_i C0 G (runV_of (n := 1) (q0 := 0) (As := [.int v1]) (rest := []) C0 G (c5_standsNow hX hc14) q840 q54 q837 q839 q17 o5_standsNow ⟨rfl, rfl⟩ ⟨Nat.le_of_ble_eq_true rfl, Nat.le_of_ble_eq_true rfl⟩ rfl rfl rfl hl.1 rfl (Nat.le_of_ble_eq_true rfl) dX5_of_76) (fun H locs G => ?_)
        refine lv_if_eq (tgt := 86) hx hb dX5_of_79 (by decide) (fun hc15 => ?_) (fun hc15 => ?_)
        · have hf := itp hc15 hf
          refine lv_iconst (v := (0 : Int32)) hx hb dX5_of_86 (by decide) ?_
          obtain ⟨rfl, rfl⟩ := inj2 hf
          exact ret_i C0 G dX5_of_87
        · have hf := itn hc15 hf
          refine lv_iconst (v := (1 : Int32)) hx hb dX5_of_82 (by decide) ?_
          refine lv_goto (tgt := 87) hx hb dX5_of_83 (by decide) ?_
          obtain ⟨rfl, rfl⟩ := inj2 hf
          exact ret_i C0 G dX5_of_87
      have hf := itn hs12 hf
      refine lv_tableOut (tgt := 88) hx hb dX5_of_25 (by have := lv_neT (a := 7) hs3 (by decide); have := lv_neT (a := 8) hs6 (by decide); have := lv_neT (a := 9) hs9 (by decide); have := lv_neT (a := 10) hs12 (by decide); omega) (by decide) ?_
      refine lv_aload_n hx hb dX5_of_88 rfl (lv_at hl 0 rfl) ?_
      refine lv_iload_n hx hb dX5_of_89 rfl (lv_at hl 1 rfl) ?_
      refine lv_iload_n hx hb dX5_of_90 rfl (lv_at hl 2 rfl) ?_
      obtain ⟨r16, hc17, hf⟩ := ob1_s hf
      refine go_i C0 G (runV_of (n := 2) (q0 := 0) (As := [.int v1, .int v2]) (rest := []) C0 G (c5_get hX hc17) q801 q54 q798 q800 q11 o5_get ⟨rfl, rfl⟩ ⟨Nat.le_of_ble_eq_true rfl, Nat.le_of_ble_eq_true rfl⟩ rfl rfl rfl hl.1 rfl (Nat.le_of_ble_eq_true rfl) dX5_of_91) (fun H locs G => ?_)
      obtain ⟨rfl, rfl⟩ := inj2 hf
      exact ret_i C0 G dX5_of_94
    · have hf := itp hc2 hf
      exact b5_of_18 C0  G (lv_sub hl [0] rfl) hf
theorem o5_of : okName yX5_of 2 := ⟨by decide, by decide, by decide +kernel⟩
set_option maxHeartbeats 4000000 in
set_option maxRecDepth 100000 in
theorem c5_of {X : XP} (hX : XT X) {l : Launch} {D : va_G} {cI cC : ClassId} {ad : Nat → Nat} {sz : Nat} {xs : Nat → Int32} {xkept : Nat → Int32} {xaside : Nat → Int32} {xisK : Int32} {xfound : Nat → Int32} {xgone : Int32} {xover : Nat → Int32} {xtape : Nat → Int32} {xtaped : Int32} {xtok : Int32} {xbeg : Int32} {xend : Int32} {xval : Int64} {xwid : Nat → Int32} {xsiz : Nat → Int32} {xcel : Nat → Int32} {xcar : Nat → Int32} {v1 : Int32} {v2 : Int32} {r0 : Int32} {o_xfound : Nat → Int32} (hf : f5_of xs xfound v1 v2 = some (r0, o_xfound)) : Met l yX5_of (wU yX5_of cX5_of 3 (some .int)) ({ frames := 4, cells := 0, slots := 0, locals := 96 }) (va_Pc [.ref (ad 0), .int v1, .int v2] (PreW X D (tyM cI cC) (wM cI cC ad xs xkept xaside xisK xfound xgone xover xtape xtaped xtok xbeg xend xval xwid xsiz xcel xcar) sz)) (QcI D (tyM cI cC) (wM cI cC ad xs xkept xaside xisK o_xfound xgone xover xtape xtaped xtok xbeg xend xval xwid xsiz xcel xcar) (va_A (wM cI cC ad xs xkept xaside xisK xfound xgone xover xtape xtaped xtok xbeg xend xval xwid xsiz xcel xcar) sz) r0) 0 0 (va_A (wM cI cC ad xs xkept xaside xisK xfound xgone xover xtape xtaped xtok xbeg xend xval xwid xsiz xcel xcar) sz) := by
  refine startW hX (own := RX5) (by decide) rfl (Nat.le_of_ble_eq_true rfl) (fun p e s m args below meth c ls C0 G hl => ?_)
  exact b5_of_0 C0 G hl hf
/-! 5_leastOf -/
theorem dX5_leastOf_0 : decode cX5_leastOf 0 = .ok (.iload_n 0, 1) := by decide +kernel
theorem dX5_leastOf_1 : decode cX5_leastOf 1 = .ok (.iconst 2, 1) := by decide +kernel
theorem dX5_leastOf_2 : decode cX5_leastOf 2 = .ok (.if_icmp .eq 8, 3) := by decide +kernel
theorem dX5_leastOf_5 : decode cX5_leastOf 5 = .ok (.iload_n 0, 1) := by decide +kernel
theorem dX5_leastOf_6 : decode cX5_leastOf 6 = .ok (.iconst 4, 1) := by decide +kernel
theorem dX5_leastOf_7 : decode cX5_leastOf 7 = .ok (.if_icmp .ne 7, 3) := by decide +kernel
theorem dX5_leastOf_10 : decode cX5_leastOf 10 = .ok (.iconst 1, 1) := by decide +kernel
theorem dX5_leastOf_11 : decode cX5_leastOf 11 = .ok (.goto 4, 3) := by decide +kernel
theorem dX5_leastOf_14 : decode cX5_leastOf 14 = .ok (.iconst 0, 1) := by decide +kernel
theorem dX5_leastOf_15 : decode cX5_leastOf 15 = .ok (.ireturn, 1) := by decide +kernel
def j5_leastOf_10    : Int32 :=
  (1 : Int32)
def f5_leastOf  (v0 : Int32) : Int32 :=
  if v0 = (2 : Int32) then (
    j5_leastOf_10 )
  else (
    if v0 = (4 : Int32) then (
      j5_leastOf_10 )
    else (
      (0 : Int32)))
set_option maxHeartbeats 4000000 in
set_option maxRecDepth 100000 in
theorem b5_leastOf_10 {X : XP} {p : Program} {l : Launch} {e : Env} {s : State} {m : MethodId} {args : Array Value} {below : List Frame} {meth : Method} {c : Code} {D : va_G} {cI cC : ClassId} {ad : Nat → Nat} {A : Nat → Prop} {xs : Nat → Int32} {xkept : Nat → Int32} {xaside : Nat → Int32} {xisK : Int32} {xfound : Nat → Int32} {xgone : Int32} {xover : Nat → Int32} {xtape : Nat → Int32} {xtaped : Int32} {xtok : Int32} {xbeg : Int32} {xend : Int32} {xval : Int64} {xwid : Nat → Int32} {xsiz : Nat → Int32} {xcel : Nat → Int32} {xcar : Nat → Int32} {r0 : Int32} (C0 : CX X p s m args meth c cX5_leastOf 1 (some .int) RX5 A) : ∀ {H : Heap} {locs : List Loc} {ls : Array Slot}, GX X D (tyM cI cC) A s (wM cI cC ad xs xkept xaside xisK xfound xgone xover xtape xtaped xtok xbeg xend xval xwid xsiz xcel xcar) H locs → lv_has ls 1 [] → j5_leastOf_10  = r0 → W p l e ({ frames := 0, cells := 0, slots := 0, locals := 0 }) s m args below meth c H locs 0 0 (MQ below (QcI D (tyM cI cC) (wM cI cC ad xs xkept xaside xisK xfound xgone xover xtape xtaped xtok xbeg xend xval xwid xsiz xcel xcar) A r0) args s 0 0 A) (F0 m 10 ls []) := by
  have hx := C0.1
  have hb := C0.2.1
  have hown := C0.2.2.2.2.1
  have hts := C0.2.2.2.2.2.1
  have hX := C0.2.2.2.2.2.2.2.2
  intro H locs ls G hl hf
  unfold j5_leastOf_10 at hf
  refine lv_iconst (v := (1 : Int32)) hx hb dX5_leastOf_10 (by decide) ?_
  refine lv_goto (tgt := 15) hx hb dX5_leastOf_11 (by decide) ?_
  obtain rfl := tnj1 hf
  exact ret_i C0 G dX5_leastOf_15
set_option maxHeartbeats 4000000 in
set_option maxRecDepth 100000 in
theorem b5_leastOf_0 {X : XP} {p : Program} {l : Launch} {e : Env} {s : State} {m : MethodId} {args : Array Value} {below : List Frame} {meth : Method} {c : Code} {D : va_G} {cI cC : ClassId} {ad : Nat → Nat} {A : Nat → Prop} {xs : Nat → Int32} {xkept : Nat → Int32} {xaside : Nat → Int32} {xisK : Int32} {xfound : Nat → Int32} {xgone : Int32} {xover : Nat → Int32} {xtape : Nat → Int32} {xtaped : Int32} {xtok : Int32} {xbeg : Int32} {xend : Int32} {xval : Int64} {xwid : Nat → Int32} {xsiz : Nat → Int32} {xcel : Nat → Int32} {xcar : Nat → Int32} {r0 : Int32} (C0 : CX X p s m args meth c cX5_leastOf 1 (some .int) RX5 A) : ∀ {v0 : Int32} {H : Heap} {locs : List Loc} {ls : Array Slot}, GX X D (tyM cI cC) A s (wM cI cC ad xs xkept xaside xisK xfound xgone xover xtape xtaped xtok xbeg xend xval xwid xsiz xcel xcar) H locs → lv_has ls 1 [(0, .int v0)] → f5_leastOf v0 = r0 → W p l e ({ frames := 0, cells := 0, slots := 0, locals := 0 }) s m args below meth c H locs 0 0 (MQ below (QcI D (tyM cI cC) (wM cI cC ad xs xkept xaside xisK xfound xgone xover xtape xtaped xtok xbeg xend xval xwid xsiz xcel xcar) A r0) args s 0 0 A) (F0 m 0 ls []) := by
  have hx := C0.1
  have hb := C0.2.1
  have hown := C0.2.2.2.2.1
  have hts := C0.2.2.2.2.2.1
  have hX := C0.2.2.2.2.2.2.2.2
  intro v0 H locs ls G hl hf
  unfold f5_leastOf at hf
  refine lv_iload_n hx hb dX5_leastOf_0 rfl (lv_at hl 0 rfl) ?_
  refine lv_iconst (v := (2 : Int32)) hx hb dX5_leastOf_1 (by decide) ?_
  refine lv_icmp_eq (tgt := 10) hx hb dX5_leastOf_2 (by decide) (fun hc1 => ?_) (fun hc1 => ?_)
  · have hf := itp hc1 hf
    exact b5_leastOf_10 C0  G (lv_sub hl [] rfl) hf
  · have hf := itn hc1 hf
    refine lv_iload_n hx hb dX5_leastOf_5 rfl (lv_at hl 0 rfl) ?_
    refine lv_iconst (v := (4 : Int32)) hx hb dX5_leastOf_6 (by decide) ?_
    refine lv_icmp_ne (tgt := 14) hx hb dX5_leastOf_7 (by decide) (fun hc2 => ?_) (fun hc2 => ?_)
    · have hf := itn hc2 hf
      refine lv_iconst (v := (0 : Int32)) hx hb dX5_leastOf_14 (by decide) ?_
      obtain rfl := tnj1 hf
      exact ret_i C0 G dX5_leastOf_15
    · have hf := itp hc2 hf
      exact b5_leastOf_10 C0  G (lv_sub hl [] rfl) hf
theorem o5_leastOf : okName yX5_leastOf 1 := ⟨by decide, by decide, by decide +kernel⟩
set_option maxHeartbeats 4000000 in
set_option maxRecDepth 100000 in
theorem c5_leastOf {X : XP} (hX : XT X) {l : Launch} {D : va_G} {cI cC : ClassId} {ad : Nat → Nat} {sz : Nat} {xs : Nat → Int32} {xkept : Nat → Int32} {xaside : Nat → Int32} {xisK : Int32} {xfound : Nat → Int32} {xgone : Int32} {xover : Nat → Int32} {xtape : Nat → Int32} {xtaped : Int32} {xtok : Int32} {xbeg : Int32} {xend : Int32} {xval : Int64} {xwid : Nat → Int32} {xsiz : Nat → Int32} {xcel : Nat → Int32} {xcar : Nat → Int32} {v0 : Int32} {r0 : Int32} (hf : f5_leastOf v0 = r0) : Met l yX5_leastOf (wU yX5_leastOf cX5_leastOf 1 (some .int)) ({ frames := 0, cells := 0, slots := 0, locals := 0 }) (va_Pc [.int v0] (PreW X D (tyM cI cC) (wM cI cC ad xs xkept xaside xisK xfound xgone xover xtape xtaped xtok xbeg xend xval xwid xsiz xcel xcar) sz)) (QcI D (tyM cI cC) (wM cI cC ad xs xkept xaside xisK xfound xgone xover xtape xtaped xtok xbeg xend xval xwid xsiz xcel xcar) (va_A (wM cI cC ad xs xkept xaside xisK xfound xgone xover xtape xtaped xtok xbeg xend xval xwid xsiz xcel xcar) sz) r0) 0 0 (va_A (wM cI cC ad xs xkept xaside xisK xfound xgone xover xtape xtaped xtok xbeg xend xval xwid xsiz xcel xcar) sz) := by
  refine startW hX (own := RX5) (by decide) rfl (Nat.le_of_ble_eq_true rfl) (fun p e s m args below meth c ls C0 G hl => ?_)
  exact b5_leastOf_0 C0 G hl hf
/-! 5_mostOf -/
theorem dX5_mostOf_0 : decode cX5_mostOf 0 = .ok (.iload_n 0, 1) := by decide +kernel
theorem dX5_mostOf_1 : decode cX5_mostOf 1 = .ok (.tableswitch 50 0 4 #[35, 38, 41, 44, 47], 35) := by decide +kernel
theorem dX5_mostOf_36 : decode cX5_mostOf 36 = .ok (.bipush 6, 2) := by decide +kernel
theorem dX5_mostOf_38 : decode cX5_mostOf 38 = .ok (.ireturn, 1) := by decide +kernel
theorem dX5_mostOf_39 : decode cX5_mostOf 39 = .ok (.bipush 15, 2) := by decide +kernel
theorem dX5_mostOf_41 : decode cX5_mostOf 41 = .ok (.ireturn, 1) := by decide +kernel
theorem dX5_mostOf_42 : decode cX5_mostOf 42 = .ok (.bipush 8, 2) := by decide +kernel
theorem dX5_mostOf_44 : decode cX5_mostOf 44 = .ok (.ireturn, 1) := by decide +kernel
theorem dX5_mostOf_45 : decode cX5_mostOf 45 = .ok (.bipush 20, 2) := by decide +kernel
theorem dX5_mostOf_47 : decode cX5_mostOf 47 = .ok (.ireturn, 1) := by decide +kernel
theorem dX5_mostOf_48 : decode cX5_mostOf 48 = .ok (.bipush 9, 2) := by decide +kernel
theorem dX5_mostOf_50 : decode cX5_mostOf 50 = .ok (.ireturn, 1) := by decide +kernel
theorem dX5_mostOf_51 : decode cX5_mostOf 51 = .ok (.sipush 9999, 3) := by decide +kernel
theorem dX5_mostOf_54 : decode cX5_mostOf 54 = .ok (.ireturn, 1) := by decide +kernel
def f5_mostOf  (v0 : Int32) : Int32 :=
  if v0 = (0 : Int32) then (
    (6 : Int32))
  else
  if v0 = (1 : Int32) then (
    (15 : Int32))
  else
  if v0 = (2 : Int32) then (
    (8 : Int32))
  else
  if v0 = (3 : Int32) then (
    (20 : Int32))
  else
  if v0 = (4 : Int32) then (
    (9 : Int32))
  else
  (9999 : Int32)
set_option maxHeartbeats 4000000 in
set_option maxRecDepth 100000 in
theorem b5_mostOf_0 {X : XP} {p : Program} {l : Launch} {e : Env} {s : State} {m : MethodId} {args : Array Value} {below : List Frame} {meth : Method} {c : Code} {D : va_G} {cI cC : ClassId} {ad : Nat → Nat} {A : Nat → Prop} {xs : Nat → Int32} {xkept : Nat → Int32} {xaside : Nat → Int32} {xisK : Int32} {xfound : Nat → Int32} {xgone : Int32} {xover : Nat → Int32} {xtape : Nat → Int32} {xtaped : Int32} {xtok : Int32} {xbeg : Int32} {xend : Int32} {xval : Int64} {xwid : Nat → Int32} {xsiz : Nat → Int32} {xcel : Nat → Int32} {xcar : Nat → Int32} {r0 : Int32} (C0 : CX X p s m args meth c cX5_mostOf 1 (some .int) RX5 A) : ∀ {v0 : Int32} {H : Heap} {locs : List Loc} {ls : Array Slot}, GX X D (tyM cI cC) A s (wM cI cC ad xs xkept xaside xisK xfound xgone xover xtape xtaped xtok xbeg xend xval xwid xsiz xcel xcar) H locs → lv_has ls 1 [(0, .int v0)] → f5_mostOf v0 = r0 → W p l e ({ frames := 0, cells := 0, slots := 0, locals := 0 }) s m args below meth c H locs 0 0 (MQ below (QcI D (tyM cI cC) (wM cI cC ad xs xkept xaside xisK xfound xgone xover xtape xtaped xtok xbeg xend xval xwid xsiz xcel xcar) A r0) args s 0 0 A) (F0 m 0 ls []) := by
  have hx := C0.1
  have hb := C0.2.1
  have hown := C0.2.2.2.2.1
  have hts := C0.2.2.2.2.2.1
  have hX := C0.2.2.2.2.2.2.2.2
  intro v0 H locs ls G hl hf
  unfold f5_mostOf at hf
  refine lv_iload_n hx hb dX5_mostOf_0 rfl (lv_at hl 0 rfl) ?_
  by_cases hs1 : v0 = (0 : Int32)
  · have hf := itp hs1 hf
    refine lv_tableIn (tgt := 36) hx hb dX5_mostOf_1 (by rw [hs1]; decide) (by rw [hs1]; decide) (by rw [hs1]; rfl) (by decide) ?_
    refine lv_bipush (v := (6 : Int32)) hx hb dX5_mostOf_36 (by decide) ?_
    obtain rfl := tnj1 hf
    exact ret_i C0 G dX5_mostOf_38
  have hf := itn hs1 hf
  by_cases hs2 : v0 = (1 : Int32)
  · have hf := itp hs2 hf
    refine lv_tableIn (tgt := 39) hx hb dX5_mostOf_1 (by rw [hs2]; decide) (by rw [hs2]; decide) (by rw [hs2]; rfl) (by decide) ?_
    refine lv_bipush (v := (15 : Int32)) hx hb dX5_mostOf_39 (by decide) ?_
    obtain rfl := tnj1 hf
    exact ret_i C0 G dX5_mostOf_41
  have hf := itn hs2 hf
  by_cases hs3 : v0 = (2 : Int32)
  · have hf := itp hs3 hf
    refine lv_tableIn (tgt := 42) hx hb dX5_mostOf_1 (by rw [hs3]; decide) (by rw [hs3]; decide) (by rw [hs3]; rfl) (by decide) ?_
    refine lv_bipush (v := (8 : Int32)) hx hb dX5_mostOf_42 (by decide) ?_
    obtain rfl := tnj1 hf
    exact ret_i C0 G dX5_mostOf_44
  have hf := itn hs3 hf
  by_cases hs4 : v0 = (3 : Int32)
  · have hf := itp hs4 hf
    refine lv_tableIn (tgt := 45) hx hb dX5_mostOf_1 (by rw [hs4]; decide) (by rw [hs4]; decide) (by rw [hs4]; rfl) (by decide) ?_
    refine lv_bipush (v := (20 : Int32)) hx hb dX5_mostOf_45 (by decide) ?_
    obtain rfl := tnj1 hf
    exact ret_i C0 G dX5_mostOf_47
  have hf := itn hs4 hf
  by_cases hs5 : v0 = (4 : Int32)
  · have hf := itp hs5 hf
    refine lv_tableIn (tgt := 48) hx hb dX5_mostOf_1 (by rw [hs5]; decide) (by rw [hs5]; decide) (by rw [hs5]; rfl) (by decide) ?_
    refine lv_bipush (v := (9 : Int32)) hx hb dX5_mostOf_48 (by decide) ?_
    obtain rfl := tnj1 hf
    exact ret_i C0 G dX5_mostOf_50
  have hf := itn hs5 hf
  refine lv_tableOut (tgt := 51) hx hb dX5_mostOf_1 (by have := lv_neT (a := 0) hs1 (by decide); have := lv_neT (a := 1) hs2 (by decide); have := lv_neT (a := 2) hs3 (by decide); have := lv_neT (a := 3) hs4 (by decide); have := lv_neT (a := 4) hs5 (by decide); omega) (by decide) ?_
  refine lv_sipush (v := (9999 : Int32)) hx hb dX5_mostOf_51 (by decide) ?_
  obtain rfl := tnj1 hf
  exact ret_i C0 G dX5_mostOf_54
theorem o5_mostOf : okName yX5_mostOf 1 := ⟨by decide, by decide, by decide +kernel⟩
set_option maxHeartbeats 4000000 in
set_option maxRecDepth 100000 in
theorem c5_mostOf {X : XP} (hX : XT X) {l : Launch} {D : va_G} {cI cC : ClassId} {ad : Nat → Nat} {sz : Nat} {xs : Nat → Int32} {xkept : Nat → Int32} {xaside : Nat → Int32} {xisK : Int32} {xfound : Nat → Int32} {xgone : Int32} {xover : Nat → Int32} {xtape : Nat → Int32} {xtaped : Int32} {xtok : Int32} {xbeg : Int32} {xend : Int32} {xval : Int64} {xwid : Nat → Int32} {xsiz : Nat → Int32} {xcel : Nat → Int32} {xcar : Nat → Int32} {v0 : Int32} {r0 : Int32} (hf : f5_mostOf v0 = r0) : Met l yX5_mostOf (wU yX5_mostOf cX5_mostOf 1 (some .int)) ({ frames := 0, cells := 0, slots := 0, locals := 0 }) (va_Pc [.int v0] (PreW X D (tyM cI cC) (wM cI cC ad xs xkept xaside xisK xfound xgone xover xtape xtaped xtok xbeg xend xval xwid xsiz xcel xcar) sz)) (QcI D (tyM cI cC) (wM cI cC ad xs xkept xaside xisK xfound xgone xover xtape xtaped xtok xbeg xend xval xwid xsiz xcel xcar) (va_A (wM cI cC ad xs xkept xaside xisK xfound xgone xover xtape xtaped xtok xbeg xend xval xwid xsiz xcel xcar) sz) r0) 0 0 (va_A (wM cI cC ad xs xkept xaside xisK xfound xgone xover xtape xtaped xtok xbeg xend xval xwid xsiz xcel xcar) sz) := by
  refine startW hX (own := RX5) (by decide) rfl (Nat.le_of_ble_eq_true rfl) (fun p e s m args below meth c ls C0 G hl => ?_)
  exact b5_mostOf_0 C0 G hl hf
/-! 5_change -/
theorem dX5_change_0 : decode cX5_change 0 = .ok (.aload_n 0, 1) := by decide +kernel
theorem dX5_change_1 : decode cX5_change 1 = .ok (.iload_n 1, 1) := by decide +kernel
theorem dX5_change_2 : decode cX5_change 2 = .ok (.invokevirtual 111, 3) := by decide +kernel
theorem dX5_change_5 : decode cX5_change 5 = .ok (.ifCond .eq 28, 3) := by decide +kernel
theorem dX5_change_8 : decode cX5_change 8 = .ok (.iload_n 2, 1) := by decide +kernel
theorem dX5_change_9 : decode cX5_change 9 = .ok (.iconst 0, 1) := by decide +kernel
theorem dX5_change_10 : decode cX5_change 10 = .ok (.bipush 6, 2) := by decide +kernel
theorem dX5_change_12 : decode cX5_change 12 = .ok (.invokestatic 51, 3) := by decide +kernel
theorem dX5_change_15 : decode cX5_change 15 = .ok (.ifCond .eq 18, 3) := by decide +kernel
theorem dX5_change_18 : decode cX5_change 18 = .ok (.iload_n 3, 1) := by decide +kernel
theorem dX5_change_19 : decode cX5_change 19 = .ok (.iload_n 2, 1) := by decide +kernel
theorem dX5_change_20 : decode cX5_change 20 = .ok (.invokestatic 114, 3) := by decide +kernel
theorem dX5_change_23 : decode cX5_change 23 = .ok (.iload_n 2, 1) := by decide +kernel
theorem dX5_change_24 : decode cX5_change 24 = .ok (.invokestatic 117, 3) := by decide +kernel
theorem dX5_change_27 : decode cX5_change 27 = .ok (.invokestatic 51, 3) := by decide +kernel
theorem dX5_change_30 : decode cX5_change 30 = .ok (.ifCond .ne 9, 3) := by decide +kernel
theorem dX5_change_33 : decode cX5_change 33 = .ok (.aload_n 0, 1) := by decide +kernel
theorem dX5_change_34 : decode cX5_change 34 = .ok (.iconst 0, 1) := by decide +kernel
theorem dX5_change_35 : decode cX5_change 35 = .ok (.invokevirtual 105, 3) := by decide +kernel
theorem dX5_change_38 : decode cX5_change 38 = .ok (.ireturn, 1) := by decide +kernel
theorem dX5_change_39 : decode cX5_change 39 = .ok (.aload_n 0, 1) := by decide +kernel
theorem dX5_change_40 : decode cX5_change 40 = .ok (.iload_n 1, 1) := by decide +kernel
theorem dX5_change_41 : decode cX5_change 41 = .ok (.iload_n 2, 1) := by decide +kernel
theorem dX5_change_42 : decode cX5_change 42 = .ok (.invokevirtual 55, 3) := by decide +kernel
theorem dX5_change_45 : decode cX5_change 45 = .ok (.istore 4, 2) := by decide +kernel
theorem dX5_change_47 : decode cX5_change 47 = .ok (.aload_n 0, 1) := by decide +kernel
theorem dX5_change_48 : decode cX5_change 48 = .ok (.iload_n 1, 1) := by decide +kernel
theorem dX5_change_49 : decode cX5_change 49 = .ok (.iload_n 2, 1) := by decide +kernel
theorem dX5_change_50 : decode cX5_change 50 = .ok (.iload_n 3, 1) := by decide +kernel
theorem dX5_change_51 : decode cX5_change 51 = .ok (.invokevirtual 83, 3) := by decide +kernel
theorem dX5_change_54 : decode cX5_change 54 = .ok (.iload 4, 2) := by decide +kernel
theorem dX5_change_56 : decode cX5_change 56 = .ok (.ireturn, 1) := by decide +kernel
def j5_change_33  (xs : Nat → Int32) (xfound : Nat → Int32)  : Option (Int32 × (Nat → Int32) × (Nat → Int32)) :=
  ob2 (f5_no xfound (0 : Int32)) (fun r8 xfound_9 =>
  some (r8, xs, xfound_9))
def f5_change (xs : Nat → Int32) (xfound : Nat → Int32) (v1 : Int32) (v2 : Int32) (v3 : Int32) : Option (Int32 × (Nat → Int32) × (Nat → Int32)) :=
  if (f5_isVisitor xs v1) = (0 : Int32) then (
    j5_change_33 xs xfound)
  else (
    if (f5_in1 v2 (0 : Int32) (6 : Int32)) = (0 : Int32) then (
      j5_change_33 xs xfound)
    else (
      if (f5_in1 v3 (f5_leastOf v2) (f5_mostOf v2)) = (0 : Int32) then (
        j5_change_33 xs xfound)
      else (
        ob1 (f5_get xs v1 v2) (fun r4 =>
        ob1 (f5_puts xs v1 v2 v3) (fun xs_6 =>
        some (r4, xs_6, xfound))))))
set_option maxHeartbeats 4000000 in
set_option maxRecDepth 100000 in
theorem b5_change_33 {X : XP} {p : Program} {l : Launch} {e : Env} {s : State} {m : MethodId} {args : Array Value} {below : List Frame} {meth : Method} {c : Code} {D : va_G} {cI cC : ClassId} {ad : Nat → Nat} {A : Nat → Prop} {xkept : Nat → Int32} {xaside : Nat → Int32} {xisK : Int32} {xgone : Int32} {xover : Nat → Int32} {xtape : Nat → Int32} {xtaped : Int32} {xtok : Int32} {xbeg : Int32} {xend : Int32} {xval : Int64} {xwid : Nat → Int32} {xsiz : Nat → Int32} {xcel : Nat → Int32} {xcar : Nat → Int32} {r0 : Int32} {o_xs : Nat → Int32} {o_xfound : Nat → Int32} (C0 : CX X p s m args meth c cX5_change 5 (some .int) RX5 A) : ∀ {xs : Nat → Int32} {xfound : Nat → Int32} {H : Heap} {locs : List Loc} {ls : Array Slot}, GX X D (tyM cI cC) A s (wM cI cC ad xs xkept xaside xisK xfound xgone xover xtape xtaped xtok xbeg xend xval xwid xsiz xcel xcar) H locs → lv_has ls 5 [(0, .ref (ad 0))] → j5_change_33  xs xfound = some (r0, o_xs, o_xfound) → W p l e ({ frames := 2, cells := 0, slots := 0, locals := 43 }) s m args below meth c H locs 0 0 (MQ below (QcI D (tyM cI cC) (wM cI cC ad o_xs xkept xaside xisK o_xfound xgone xover xtape xtaped xtok xbeg xend xval xwid xsiz xcel xcar) A r0) args s 0 0 A) (F0 m 33 ls []) := by
  have hx := C0.1
  have hb := C0.2.1
  have hown := C0.2.2.2.2.1
  have hts := C0.2.2.2.2.2.1
  have hX := C0.2.2.2.2.2.2.2.2
  intro xs xfound H locs ls G hl hf
  unfold j5_change_33 at hf
  refine lv_aload_n hx hb dX5_change_33 rfl (lv_at hl 0 rfl) ?_
  refine lv_iconst (v := (0 : Int32)) hx hb dX5_change_34 (by decide) ?_
  obtain ⟨r8, xfound_9, hc10, hf⟩ := ob2_s hf
  refine go_i C0 G (runV_of (n := 1) (q0 := 0) (As := [.int (0 : Int32)]) (rest := []) C0 G (c5_no hX hc10) q788 q54 q785 q787 q9 o5_no ⟨rfl, rfl⟩ ⟨Nat.le_of_ble_eq_true rfl, Nat.le_of_ble_eq_true rfl⟩ rfl rfl rfl hl.1 rfl (Nat.le_of_ble_eq_true rfl) dX5_change_35) (fun H locs G => ?_)
  obtain ⟨rfl, rfl, rfl⟩ := inj3 hf
  exact ret_i C0 G dX5_change_38
set_option maxHeartbeats 4000000 in
set_option maxRecDepth 100000 in
theorem b5_change_0 {X : XP} {p : Program} {l : Launch} {e : Env} {s : State} {m : MethodId} {args : Array Value} {below : List Frame} {meth : Method} {c : Code} {D : va_G} {cI cC : ClassId} {ad : Nat → Nat} {A : Nat → Prop} {xkept : Nat → Int32} {xaside : Nat → Int32} {xisK : Int32} {xgone : Int32} {xover : Nat → Int32} {xtape : Nat → Int32} {xtaped : Int32} {xtok : Int32} {xbeg : Int32} {xend : Int32} {xval : Int64} {xwid : Nat → Int32} {xsiz : Nat → Int32} {xcel : Nat → Int32} {xcar : Nat → Int32} {r0 : Int32} {o_xs : Nat → Int32} {o_xfound : Nat → Int32} (C0 : CX X p s m args meth c cX5_change 5 (some .int) RX5 A) : ∀ {xs : Nat → Int32} {xfound : Nat → Int32} {v1 : Int32} {v2 : Int32} {v3 : Int32} {H : Heap} {locs : List Loc} {ls : Array Slot}, GX X D (tyM cI cC) A s (wM cI cC ad xs xkept xaside xisK xfound xgone xover xtape xtaped xtok xbeg xend xval xwid xsiz xcel xcar) H locs → lv_has ls 5 [(0, .ref (ad 0)), (1, .int v1), (2, .int v2), (3, .int v3)] → f5_change xs xfound v1 v2 v3 = some (r0, o_xs, o_xfound) → W p l e ({ frames := 2, cells := 0, slots := 0, locals := 43 }) s m args below meth c H locs 0 0 (MQ below (QcI D (tyM cI cC) (wM cI cC ad o_xs xkept xaside xisK o_xfound xgone xover xtape xtaped xtok xbeg xend xval xwid xsiz xcel xcar) A r0) args s 0 0 A) (F0 m 0 ls []) := by
  have hx := C0.1
  have hb := C0.2.1
  have hown := C0.2.2.2.2.1
  have hts := C0.2.2.2.2.2.1
  have hX := C0.2.2.2.2.2.2.2.2
  intro xs xfound v1 v2 v3 H locs ls G hl hf
  unfold f5_change at hf
  refine lv_aload_n hx hb dX5_change_0 rfl (lv_at hl 0 rfl) ?_
  refine lv_iload_n hx hb dX5_change_1 rfl (lv_at hl 1 rfl) ?_
  refine go_i C0 G (runV_of (n := 1) (q0 := 0) (As := [.int v1]) (rest := []) C0 G (c5_isVisitor hX rfl) q825 q54 q822 q824 q14 o5_isVisitor ⟨rfl, rfl⟩ ⟨Nat.le_of_ble_eq_true rfl, Nat.le_of_ble_eq_true rfl⟩ rfl rfl rfl hl.1 rfl (Nat.le_of_ble_eq_true rfl) dX5_change_2) (fun H locs G => ?_)
  refine lv_if_eq (tgt := 33) hx hb dX5_change_5 (by decide) (fun hc1 => ?_) (fun hc1 => ?_)
  · have hf := itp hc1 hf
    exact b5_change_33 C0  G (lv_sub hl [0] rfl) hf
  · have hf := itn hc1 hf
    refine lv_iload_n hx hb dX5_change_8 rfl (lv_at hl 2 rfl) ?_
    refine lv_iconst (v := (0 : Int32)) hx hb dX5_change_9 (by decide) ?_
    refine lv_bipush (v := (6 : Int32)) hx hb dX5_change_10 (by decide) ?_
    refine go_i C0 G (runS_of (n := 3) (As := [.int v2, .int (0 : Int32), .int (6 : Int32)]) (rest := []) C0 G (c5_in1 hX rfl) q784 q54 q782 q783 o5_in1 ⟨rfl, rfl⟩ ⟨Nat.le_of_ble_eq_true rfl, Nat.le_of_ble_eq_true rfl⟩ rfl hl.1 rfl (Nat.le_of_ble_eq_true rfl) dX5_change_12) (fun H locs G => ?_)
    refine lv_if_eq (tgt := 33) hx hb dX5_change_15 (by decide) (fun hc2 => ?_) (fun hc2 => ?_)
    · have hf := itp hc2 hf
      exact b5_change_33 C0  G (lv_sub hl [0] rfl) hf
    · have hf := itn hc2 hf
      refine lv_iload_n hx hb dX5_change_18 rfl (lv_at hl 3 rfl) ?_
      refine lv_iload_n hx hb dX5_change_19 rfl (lv_at hl 2 rfl) ?_
      refine go_i C0 G (runS_of (n := 1) (As := [.int v2]) (rest := [.int v3]) C0 G (c5_leastOf hX rfl) q847 q54 q845 q846 o5_leastOf ⟨rfl, rfl⟩ ⟨Nat.le_of_ble_eq_true rfl, Nat.le_of_ble_eq_true rfl⟩ rfl hl.1 rfl (Nat.le_of_ble_eq_true rfl) dX5_change_20) (fun H locs G => ?_)
      refine lv_iload_n hx hb dX5_change_23 rfl (lv_at hl 2 rfl) ?_
      refine go_i C0 G (runS_of (n := 1) (As := [.int v2]) (rest := [.int (f5_leastOf v2), .int v3]) C0 G (c5_mostOf hX rfl) q850 q54 q848 q849 o5_mostOf ⟨rfl, rfl⟩ ⟨Nat.le_of_ble_eq_true rfl, Nat.le_of_ble_eq_true rfl⟩ rfl hl.1 rfl (Nat.le_of_ble_eq_true rfl) dX5_change_24) (fun H locs G => ?_)
      refine go_i C0 G (runS_of (n := 3) (As := [.int v3, .int (f5_leastOf v2), .int (f5_mostOf v2)]) (rest := []) C0 G (c5_in1 hX rfl) q784 q54 q782 q783 o5_in1 ⟨rfl, rfl⟩ ⟨Nat.le_of_ble_eq_true rfl, Nat.le_of_ble_eq_true rfl⟩ rfl hl.1 rfl (Nat.le_of_ble_eq_true rfl) dX5_change_27) (fun H locs G => ?_)
      refine lv_if_ne (tgt := 39) hx hb dX5_change_30 (by decide) (fun hc3 => ?_) (fun hc3 => ?_)
      · have hf := itn hc3 hf
        refine lv_aload_n hx hb dX5_change_39 rfl (lv_at hl 0 rfl) ?_
        refine lv_iload_n hx hb dX5_change_40 rfl (lv_at hl 1 rfl) ?_
        refine lv_iload_n hx hb dX5_change_41 rfl (lv_at hl 2 rfl) ?_
        obtain ⟨r4, hc5, hf⟩ := ob1_s hf
        refine go_i C0 G (runV_of (n := 2) (q0 := 0) (As := [.int v1, .int v2]) (rest := []) C0 G (c5_get hX hc5) q801 q54 q798 q800 q11 o5_get ⟨rfl, rfl⟩ ⟨Nat.le_of_ble_eq_true rfl, Nat.le_of_ble_eq_true rfl⟩ rfl rfl rfl hl.1 rfl (Nat.le_of_ble_eq_true rfl) dX5_change_42) (fun H locs G => ?_)
        refine lv_istore (lv' := [(4, .int r4), (0, .ref (ad 0)), (1, .int v1), (2, .int v2), (3, .int v3)]) hx hb dX5_change_45 hl (by decide) rfl (fun ls hl => ?_)
        refine lv_aload_n hx hb dX5_change_47 rfl (lv_at hl 1 rfl) ?_
        refine lv_iload_n hx hb dX5_change_48 rfl (lv_at hl 2 rfl) ?_
        refine lv_iload_n hx hb dX5_change_49 rfl (lv_at hl 3 rfl) ?_
        refine lv_iload_n hx hb dX5_change_50 rfl (lv_at hl 4 rfl) ?_
        obtain ⟨xs_6, hc7, hf⟩ := ob1_s hf
        refine go_v C0 G (runV_of (n := 3) (q0 := 0) (As := [.int v1, .int v2, .int v3]) (rest := []) C0 G (c5_puts hX hc7) q817 q54 q814 q816 q13 o5_puts ⟨rfl, rfl⟩ ⟨Nat.le_of_ble_eq_true rfl, Nat.le_of_ble_eq_true rfl⟩ rfl rfl rfl hl.1 rfl (Nat.le_of_ble_eq_true rfl) dX5_change_51) (fun H locs G => ?_)
        refine lv_iload hx hb dX5_change_54 (lv_at hl 0 rfl) ?_
        obtain ⟨rfl, rfl, rfl⟩ := inj3 hf
        exact ret_i C0 G dX5_change_56
      · have hf := itp hc3 hf
        exact b5_change_33 C0  G (lv_sub hl [0] rfl) hf
theorem o5_change : okName yX5_change 3 := ⟨by decide, by decide, by decide +kernel⟩
set_option maxHeartbeats 4000000 in
set_option maxRecDepth 100000 in
theorem c5_change {X : XP} (hX : XT X) {l : Launch} {D : va_G} {cI cC : ClassId} {ad : Nat → Nat} {sz : Nat} {xs : Nat → Int32} {xkept : Nat → Int32} {xaside : Nat → Int32} {xisK : Int32} {xfound : Nat → Int32} {xgone : Int32} {xover : Nat → Int32} {xtape : Nat → Int32} {xtaped : Int32} {xtok : Int32} {xbeg : Int32} {xend : Int32} {xval : Int64} {xwid : Nat → Int32} {xsiz : Nat → Int32} {xcel : Nat → Int32} {xcar : Nat → Int32} {v1 : Int32} {v2 : Int32} {v3 : Int32} {r0 : Int32} {o_xs : Nat → Int32} {o_xfound : Nat → Int32} (hf : f5_change xs xfound v1 v2 v3 = some (r0, o_xs, o_xfound)) : Met l yX5_change (wU yX5_change cX5_change 5 (some .int)) ({ frames := 2, cells := 0, slots := 0, locals := 43 }) (va_Pc [.ref (ad 0), .int v1, .int v2, .int v3] (PreW X D (tyM cI cC) (wM cI cC ad xs xkept xaside xisK xfound xgone xover xtape xtaped xtok xbeg xend xval xwid xsiz xcel xcar) sz)) (QcI D (tyM cI cC) (wM cI cC ad o_xs xkept xaside xisK o_xfound xgone xover xtape xtaped xtok xbeg xend xval xwid xsiz xcel xcar) (va_A (wM cI cC ad xs xkept xaside xisK xfound xgone xover xtape xtaped xtok xbeg xend xval xwid xsiz xcel xcar) sz) r0) 0 0 (va_A (wM cI cC ad xs xkept xaside xisK xfound xgone xover xtape xtaped xtok xbeg xend xval xwid xsiz xcel xcar) sz) := by
  refine startW hX (own := RX5) (by decide) rfl (Nat.le_of_ble_eq_true rfl) (fun p e s m args below meth c ls C0 G hl => ?_)
  exact b5_change_0 C0 G hl hf
/-! 5_getsAt -/
theorem dX5_getsAt_0 : decode cX5_getsAt 0 = .ok (.aload_n 0, 1) := by decide +kernel
theorem dX5_getsAt_1 : decode cX5_getsAt 1 = .ok (.iload_n 1, 1) := by decide +kernel
theorem dX5_getsAt_2 : decode cX5_getsAt 2 = .ok (.iconst 0, 1) := by decide +kernel
theorem dX5_getsAt_3 : decode cX5_getsAt 3 = .ok (.invokevirtual 55, 3) := by decide +kernel
theorem dX5_getsAt_6 : decode cX5_getsAt 6 = .ok (.iconst 4, 1) := by decide +kernel
theorem dX5_getsAt_7 : decode cX5_getsAt 7 = .ok (.if_icmp .ne 18, 3) := by decide +kernel
theorem dX5_getsAt_10 : decode cX5_getsAt 10 = .ok (.aload_n 0, 1) := by decide +kernel
theorem dX5_getsAt_11 : decode cX5_getsAt 11 = .ok (.getfield 9, 3) := by decide +kernel
theorem dX5_getsAt_14 : decode cX5_getsAt 14 = .ok (.bipush 6, 2) := by decide +kernel
theorem dX5_getsAt_16 : decode cX5_getsAt 16 = .ok (.iload_n 2, 1) := by decide +kernel
theorem dX5_getsAt_17 : decode cX5_getsAt 17 = .ok (.iadd, 1) := by decide +kernel
theorem dX5_getsAt_18 : decode cX5_getsAt 18 = .ok (.iaload, 1) := by decide +kernel
theorem dX5_getsAt_19 : decode cX5_getsAt 19 = .ok (.iload_n 3, 1) := by decide +kernel
theorem dX5_getsAt_20 : decode cX5_getsAt 20 = .ok (.invokestatic 63, 3) := by decide +kernel
theorem dX5_getsAt_23 : decode cX5_getsAt 23 = .ok (.ineg, 1) := by decide +kernel
theorem dX5_getsAt_24 : decode cX5_getsAt 24 = .ok (.ireturn, 1) := by decide +kernel
theorem dX5_getsAt_25 : decode cX5_getsAt 25 = .ok (.aload_n 0, 1) := by decide +kernel
theorem dX5_getsAt_26 : decode cX5_getsAt 26 = .ok (.iload_n 1, 1) := by decide +kernel
theorem dX5_getsAt_27 : decode cX5_getsAt 27 = .ok (.invokevirtual 70, 3) := by decide +kernel
theorem dX5_getsAt_30 : decode cX5_getsAt 30 = .ok (.aload_n 0, 1) := by decide +kernel
theorem dX5_getsAt_31 : decode cX5_getsAt 31 = .ok (.getfield 9, 3) := by decide +kernel
theorem dX5_getsAt_34 : decode cX5_getsAt 34 = .ok (.bipush 6, 2) := by decide +kernel
theorem dX5_getsAt_36 : decode cX5_getsAt 36 = .ok (.iload_n 2, 1) := by decide +kernel
theorem dX5_getsAt_37 : decode cX5_getsAt 37 = .ok (.iadd, 1) := by decide +kernel
theorem dX5_getsAt_38 : decode cX5_getsAt 38 = .ok (.iaload, 1) := by decide +kernel
theorem dX5_getsAt_39 : decode cX5_getsAt 39 = .ok (.isub, 1) := by decide +kernel
theorem dX5_getsAt_40 : decode cX5_getsAt 40 = .ok (.istore 4, 2) := by decide +kernel
theorem dX5_getsAt_42 : decode cX5_getsAt 42 = .ok (.iload 4, 2) := by decide +kernel
theorem dX5_getsAt_44 : decode cX5_getsAt 44 = .ok (.ifCond .gt 7, 3) := by decide +kernel
theorem dX5_getsAt_47 : decode cX5_getsAt 47 = .ok (.iconst 0, 1) := by decide +kernel
theorem dX5_getsAt_48 : decode cX5_getsAt 48 = .ok (.goto 18, 3) := by decide +kernel
theorem dX5_getsAt_51 : decode cX5_getsAt 51 = .ok (.iload 4, 2) := by decide +kernel
theorem dX5_getsAt_53 : decode cX5_getsAt 53 = .ok (.iload_n 3, 1) := by decide +kernel
theorem dX5_getsAt_54 : decode cX5_getsAt 54 = .ok (.invokestatic 63, 3) := by decide +kernel
theorem dX5_getsAt_57 : decode cX5_getsAt 57 = .ok (.aload_n 0, 1) := by decide +kernel
theorem dX5_getsAt_58 : decode cX5_getsAt 58 = .ok (.getfield 9, 3) := by decide +kernel
theorem dX5_getsAt_61 : decode cX5_getsAt 61 = .ok (.iconst 3, 1) := by decide +kernel
theorem dX5_getsAt_62 : decode cX5_getsAt 62 = .ok (.iaload, 1) := by decide +kernel
theorem dX5_getsAt_63 : decode cX5_getsAt 63 = .ok (.invokestatic 63, 3) := by decide +kernel
theorem dX5_getsAt_66 : decode cX5_getsAt 66 = .ok (.ireturn, 1) := by decide +kernel
def f5_getsAt (xs : Nat → Int32) (v1 : Int32) (v2 : Int32) (v3 : Int32) : Option (Int32) :=
  ob1 (f5_get xs v1 (0 : Int32)) (fun r1 =>
  if r1 = (4 : Int32) then (
    gd (inb ((6 : Int32) + v2) 88) (
    some (-(f5_less (xs (((6 : Int32) + v2).toNatClampNeg)) v3))))
  else (
    ob1 (f5_raisesOf xs v1) (fun r4 =>
    gd (inb ((6 : Int32) + v2) 88) (
    if (0 : Int32) < (r4 - (xs (((6 : Int32) + v2).toNatClampNeg))) then (
      some (f5_less (f5_less (r4 - (xs (((6 : Int32) + v2).toNatClampNeg))) v3) (xs 3)))
    else (
      some (0 : Int32))))))
set_option maxHeartbeats 4000000 in
set_option maxRecDepth 100000 in
theorem b5_getsAt_0 {X : XP} {p : Program} {l : Launch} {e : Env} {s : State} {m : MethodId} {args : Array Value} {below : List Frame} {meth : Method} {c : Code} {D : va_G} {cI cC : ClassId} {ad : Nat → Nat} {A : Nat → Prop} {xs : Nat → Int32} {xkept : Nat → Int32} {xaside : Nat → Int32} {xisK : Int32} {xfound : Nat → Int32} {xgone : Int32} {xover : Nat → Int32} {xtape : Nat → Int32} {xtaped : Int32} {xtok : Int32} {xbeg : Int32} {xend : Int32} {xval : Int64} {xwid : Nat → Int32} {xsiz : Nat → Int32} {xcel : Nat → Int32} {xcar : Nat → Int32} {r0 : Int32} (C0 : CX X p s m args meth c cX5_getsAt 5 (some .int) RX5 A) : ∀ {v1 : Int32} {v2 : Int32} {v3 : Int32} {H : Heap} {locs : List Loc} {ls : Array Slot}, GX X D (tyM cI cC) A s (wM cI cC ad xs xkept xaside xisK xfound xgone xover xtape xtaped xtok xbeg xend xval xwid xsiz xcel xcar) H locs → lv_has ls 5 [(0, .ref (ad 0)), (1, .int v1), (2, .int v2), (3, .int v3)] → f5_getsAt xs v1 v2 v3 = some r0 → W p l e ({ frames := 2, cells := 0, slots := 0, locals := 45 }) s m args below meth c H locs 0 0 (MQ below (QcI D (tyM cI cC) (wM cI cC ad xs xkept xaside xisK xfound xgone xover xtape xtaped xtok xbeg xend xval xwid xsiz xcel xcar) A r0) args s 0 0 A) (F0 m 0 ls []) := by
  have hx := C0.1
  have hb := C0.2.1
  have hown := C0.2.2.2.2.1
  have hts := C0.2.2.2.2.2.1
  have hX := C0.2.2.2.2.2.2.2.2
  intro v1 v2 v3 H locs ls G hl hf
  unfold f5_getsAt at hf
  refine lv_aload_n hx hb dX5_getsAt_0 rfl (lv_at hl 0 rfl) ?_
  refine lv_iload_n hx hb dX5_getsAt_1 rfl (lv_at hl 1 rfl) ?_
  refine lv_iconst (v := (0 : Int32)) hx hb dX5_getsAt_2 (by decide) ?_
  obtain ⟨r1, hc2, hf⟩ := ob1_s hf
  refine go_i C0 G (runV_of (n := 2) (q0 := 0) (As := [.int v1, .int (0 : Int32)]) (rest := []) C0 G (c5_get hX hc2) q801 q54 q798 q800 q11 o5_get ⟨rfl, rfl⟩ ⟨Nat.le_of_ble_eq_true rfl, Nat.le_of_ble_eq_true rfl⟩ rfl rfl rfl hl.1 rfl (Nat.le_of_ble_eq_true rfl) dX5_getsAt_3) (fun H locs G => ?_)
  refine lv_iconst (v := (4 : Int32)) hx hb dX5_getsAt_6 (by decide) ?_
  refine lv_icmp_ne (tgt := 25) hx hb dX5_getsAt_7 (by decide) (fun hc3 => ?_) (fun hc3 => ?_)
  · have hf := itn hc3 hf
    refine lv_aload_n hx hb dX5_getsAt_25 rfl (lv_at hl 0 rfl) ?_
    refine lv_iload_n hx hb dX5_getsAt_26 rfl (lv_at hl 1 rfl) ?_
    obtain ⟨r4, hc5, hf⟩ := ob1_s hf
    refine go_i C0 G (runV_of (n := 1) (q0 := 0) (As := [.int v1]) (rest := []) C0 G (c5_raisesOf hX hc5) q829 q54 q826 q828 q15 o5_raisesOf ⟨rfl, rfl⟩ ⟨Nat.le_of_ble_eq_true rfl, Nat.le_of_ble_eq_true rfl⟩ rfl rfl rfl hl.1 rfl (Nat.le_of_ble_eq_true rfl) dX5_getsAt_27) (fun H locs G => ?_)
    refine lv_aload_n hx hb dX5_getsAt_30 rfl (lv_at hl 0 rfl) ?_
    refine s_get (C := RX5) (T := TX5) C0 G i_X5 0 0 rfl rfl (by decide) q713 rfl dX5_getsAt_31 ?_
    refine lv_bipush (v := (6 : Int32)) hx hb dX5_getsAt_34 (by decide) ?_
    refine lv_iload_n hx hb dX5_getsAt_36 rfl (lv_at hl 2 rfl) ?_
    refine lv_iadd hx hb dX5_getsAt_37 ?_
    obtain ⟨hi6, hf⟩ := gd_s hf
    refine s_iald (k := ((6 : Int32) + v2).toNatClampNeg) C0 G 1 0 rfl rfl (vin hi6) rfl dX5_getsAt_38 ?_
    refine lv_isub hx hb dX5_getsAt_39 ?_
    refine lv_istore (lv' := [(4, .int (r4 - (xs (((6 : Int32) + v2).toNatClampNeg)))), (0, .ref (ad 0)), (1, .int v1), (2, .int v2), (3, .int v3)]) hx hb dX5_getsAt_40 hl (by decide) rfl (fun ls hl => ?_)
    refine lv_iload hx hb dX5_getsAt_42 (lv_at hl 0 rfl) ?_
    refine lv_if_gt (tgt := 51) hx hb dX5_getsAt_44 (by decide) (fun hc7 => ?_) (fun hc7 => ?_)
    · have hf := itp hc7 hf
      refine lv_iload hx hb dX5_getsAt_51 (lv_at hl 0 rfl) ?_
      refine lv_iload_n hx hb dX5_getsAt_53 rfl (lv_at hl 4 rfl) ?_
      refine go_i C0 G (runS_of (n := 2) (As := [.int (r4 - (xs (((6 : Int32) + v2).toNatClampNeg))), .int v3]) (rest := []) C0 G (c5_less hX rfl) q832 q54 q830 q831 o5_less ⟨rfl, rfl⟩ ⟨Nat.le_of_ble_eq_true rfl, Nat.le_of_ble_eq_true rfl⟩ rfl hl.1 rfl (Nat.le_of_ble_eq_true rfl) dX5_getsAt_54) (fun H locs G => ?_)
      refine lv_aload_n hx hb dX5_getsAt_57 rfl (lv_at hl 1 rfl) ?_
      refine s_get (C := RX5) (T := TX5) C0 G i_X5 0 0 rfl rfl (by decide) q713 rfl dX5_getsAt_58 ?_
      refine lv_iconst (v := (3 : Int32)) hx hb dX5_getsAt_61 (by decide) ?_
      refine s_iald (k := 3) C0 G 1 0 rfl rfl (vin (by decide)) (by decide) dX5_getsAt_62 ?_
      refine go_i C0 G (runS_of (n := 2) (As := [.int (f5_less (r4 - (xs (((6 : Int32) + v2).toNatClampNeg))) v3), .int (xs 3)]) (rest := []) C0 G (c5_less hX rfl) q832 q54 q830 q831 o5_less ⟨rfl, rfl⟩ ⟨Nat.le_of_ble_eq_true rfl, Nat.le_of_ble_eq_true rfl⟩ rfl hl.1 rfl (Nat.le_of_ble_eq_true rfl) dX5_getsAt_63) (fun H locs G => ?_)
      obtain rfl := inj1 hf
      exact ret_i C0 G dX5_getsAt_66
    · have hf := itn hc7 hf
      refine lv_iconst (v := (0 : Int32)) hx hb dX5_getsAt_47 (by decide) ?_
      refine lv_goto (tgt := 66) hx hb dX5_getsAt_48 (by decide) ?_
      obtain rfl := inj1 hf
      exact ret_i C0 G dX5_getsAt_66
  · have hf := itp hc3 hf
    refine lv_aload_n hx hb dX5_getsAt_10 rfl (lv_at hl 0 rfl) ?_
    refine s_get (C := RX5) (T := TX5) C0 G i_X5 0 0 rfl rfl (by decide) q713 rfl dX5_getsAt_11 ?_
    refine lv_bipush (v := (6 : Int32)) hx hb dX5_getsAt_14 (by decide) ?_
    refine lv_iload_n hx hb dX5_getsAt_16 rfl (lv_at hl 2 rfl) ?_
    refine lv_iadd hx hb dX5_getsAt_17 ?_
    obtain ⟨hi8, hf⟩ := gd_s hf
    refine s_iald (k := ((6 : Int32) + v2).toNatClampNeg) C0 G 1 0 rfl rfl (vin hi8) rfl dX5_getsAt_18 ?_
    refine lv_iload_n hx hb dX5_getsAt_19 rfl (lv_at hl 3 rfl) ?_
    refine go_i C0 G (runS_of (n := 2) (As := [.int (xs (((6 : Int32) + v2).toNatClampNeg)), .int v3]) (rest := []) C0 G (c5_less hX rfl) q832 q54 q830 q831 o5_less ⟨rfl, rfl⟩ ⟨Nat.le_of_ble_eq_true rfl, Nat.le_of_ble_eq_true rfl⟩ rfl hl.1 rfl (Nat.le_of_ble_eq_true rfl) dX5_getsAt_20) (fun H locs G => ?_)
    refine lv_ineg hx hb dX5_getsAt_23 ?_
    obtain rfl := inj1 hf
    exact ret_i C0 G dX5_getsAt_24
theorem o5_getsAt : okName yX5_getsAt 3 := ⟨by decide, by decide, by decide +kernel⟩
set_option maxHeartbeats 4000000 in
set_option maxRecDepth 100000 in
theorem c5_getsAt {X : XP} (hX : XT X) {l : Launch} {D : va_G} {cI cC : ClassId} {ad : Nat → Nat} {sz : Nat} {xs : Nat → Int32} {xkept : Nat → Int32} {xaside : Nat → Int32} {xisK : Int32} {xfound : Nat → Int32} {xgone : Int32} {xover : Nat → Int32} {xtape : Nat → Int32} {xtaped : Int32} {xtok : Int32} {xbeg : Int32} {xend : Int32} {xval : Int64} {xwid : Nat → Int32} {xsiz : Nat → Int32} {xcel : Nat → Int32} {xcar : Nat → Int32} {v1 : Int32} {v2 : Int32} {v3 : Int32} {r0 : Int32} (hf : f5_getsAt xs v1 v2 v3 = some r0) : Met l yX5_getsAt (wU yX5_getsAt cX5_getsAt 5 (some .int)) ({ frames := 2, cells := 0, slots := 0, locals := 45 }) (va_Pc [.ref (ad 0), .int v1, .int v2, .int v3] (PreW X D (tyM cI cC) (wM cI cC ad xs xkept xaside xisK xfound xgone xover xtape xtaped xtok xbeg xend xval xwid xsiz xcel xcar) sz)) (QcI D (tyM cI cC) (wM cI cC ad xs xkept xaside xisK xfound xgone xover xtape xtaped xtok xbeg xend xval xwid xsiz xcel xcar) (va_A (wM cI cC ad xs xkept xaside xisK xfound xgone xover xtape xtaped xtok xbeg xend xval xwid xsiz xcel xcar) sz) r0) 0 0 (va_A (wM cI cC ad xs xkept xaside xisK xfound xgone xover xtape xtaped xtok xbeg xend xval xwid xsiz xcel xcar) sz) := by
  refine startW hX (own := RX5) (by decide) rfl (Nat.le_of_ble_eq_true rfl) (fun p e s m args below meth c ls C0 G hl => ?_)
  exact b5_getsAt_0 C0 G hl hf
/-! 5_comes -/
theorem dX5_comes_0 : decode cX5_comes 0 = .ok (.aload_n 0, 1) := by decide +kernel
theorem dX5_comes_1 : decode cX5_comes 1 = .ok (.iload_n 1, 1) := by decide +kernel
theorem dX5_comes_2 : decode cX5_comes 2 = .ok (.invokevirtual 66, 3) := by decide +kernel
theorem dX5_comes_5 : decode cX5_comes 5 = .ok (.istore_n 2, 1) := by decide +kernel
theorem dX5_comes_6 : decode cX5_comes 6 = .ok (.aload_n 0, 1) := by decide +kernel
theorem dX5_comes_7 : decode cX5_comes 7 = .ok (.iload_n 1, 1) := by decide +kernel
theorem dX5_comes_8 : decode cX5_comes 8 = .ok (.invokevirtual 73, 3) := by decide +kernel
theorem dX5_comes_11 : decode cX5_comes 11 = .ok (.istore_n 3, 1) := by decide +kernel
theorem dX5_comes_12 : decode cX5_comes 12 = .ok (.iconst 0, 1) := by decide +kernel
theorem dX5_comes_13 : decode cX5_comes 13 = .ok (.istore 4, 2) := by decide +kernel
theorem dX5_comes_15 : decode cX5_comes 15 = .ok (.iload 4, 2) := by decide +kernel
theorem dX5_comes_17 : decode cX5_comes 17 = .ok (.bipush 16, 2) := by decide +kernel
theorem dX5_comes_19 : decode cX5_comes 19 = .ok (.if_icmp .ge 85, 3) := by decide +kernel
theorem dX5_comes_22 : decode cX5_comes 22 = .ok (.iload_n 2, 1) := by decide +kernel
theorem dX5_comes_23 : decode cX5_comes 23 = .ok (.iload 4, 2) := by decide +kernel
theorem dX5_comes_25 : decode cX5_comes 25 = .ok (.ishr, 1) := by decide +kernel
theorem dX5_comes_26 : decode cX5_comes 26 = .ok (.iconst 1, 1) := by decide +kernel
theorem dX5_comes_27 : decode cX5_comes 27 = .ok (.iand, 1) := by decide +kernel
theorem dX5_comes_28 : decode cX5_comes 28 = .ok (.iconst 1, 1) := by decide +kernel
theorem dX5_comes_29 : decode cX5_comes 29 = .ok (.if_icmp .ne 14, 3) := by decide +kernel
theorem dX5_comes_32 : decode cX5_comes 32 = .ok (.aload_n 0, 1) := by decide +kernel
theorem dX5_comes_33 : decode cX5_comes 33 = .ok (.iload_n 1, 1) := by decide +kernel
theorem dX5_comes_34 : decode cX5_comes 34 = .ok (.iload 4, 2) := by decide +kernel
theorem dX5_comes_36 : decode cX5_comes 36 = .ok (.iload_n 3, 1) := by decide +kernel
theorem dX5_comes_37 : decode cX5_comes 37 = .ok (.invokevirtual 76, 3) := by decide +kernel
theorem dX5_comes_40 : decode cX5_comes 40 = .ok (.goto 4, 3) := by decide +kernel
theorem dX5_comes_43 : decode cX5_comes 43 = .ok (.iconst 0, 1) := by decide +kernel
theorem dX5_comes_44 : decode cX5_comes 44 = .ok (.istore 5, 2) := by decide +kernel
theorem dX5_comes_46 : decode cX5_comes 46 = .ok (.aload_n 0, 1) := by decide +kernel
theorem dX5_comes_47 : decode cX5_comes 47 = .ok (.getfield 9, 3) := by decide +kernel
theorem dX5_comes_50 : decode cX5_comes 50 = .ok (.bipush 6, 2) := by decide +kernel
theorem dX5_comes_52 : decode cX5_comes 52 = .ok (.iload 4, 2) := by decide +kernel
theorem dX5_comes_54 : decode cX5_comes 54 = .ok (.iadd, 1) := by decide +kernel
theorem dX5_comes_55 : decode cX5_comes 55 = .ok (.dup2, 1) := by decide +kernel
theorem dX5_comes_56 : decode cX5_comes 56 = .ok (.iaload, 1) := by decide +kernel
theorem dX5_comes_57 : decode cX5_comes 57 = .ok (.iload 5, 2) := by decide +kernel
theorem dX5_comes_59 : decode cX5_comes 59 = .ok (.iadd, 1) := by decide +kernel
theorem dX5_comes_60 : decode cX5_comes 60 = .ok (.iastore, 1) := by decide +kernel
theorem dX5_comes_61 : decode cX5_comes 61 = .ok (.aload_n 0, 1) := by decide +kernel
theorem dX5_comes_62 : decode cX5_comes 62 = .ok (.getfield 9, 3) := by decide +kernel
theorem dX5_comes_65 : decode cX5_comes 65 = .ok (.iconst 3, 1) := by decide +kernel
theorem dX5_comes_66 : decode cX5_comes 66 = .ok (.sipush 9999, 3) := by decide +kernel
theorem dX5_comes_69 : decode cX5_comes 69 = .ok (.aload_n 0, 1) := by decide +kernel
theorem dX5_comes_70 : decode cX5_comes 70 = .ok (.getfield 9, 3) := by decide +kernel
theorem dX5_comes_73 : decode cX5_comes 73 = .ok (.iconst 3, 1) := by decide +kernel
theorem dX5_comes_74 : decode cX5_comes 74 = .ok (.iaload, 1) := by decide +kernel
theorem dX5_comes_75 : decode cX5_comes 75 = .ok (.iload 5, 2) := by decide +kernel
theorem dX5_comes_77 : decode cX5_comes 77 = .ok (.isub, 1) := by decide +kernel
theorem dX5_comes_78 : decode cX5_comes 78 = .ok (.invokestatic 63, 3) := by decide +kernel
theorem dX5_comes_81 : decode cX5_comes 81 = .ok (.iastore, 1) := by decide +kernel
theorem dX5_comes_82 : decode cX5_comes 82 = .ok (.iload_n 3, 1) := by decide +kernel
theorem dX5_comes_83 : decode cX5_comes 83 = .ok (.iload 5, 2) := by decide +kernel
theorem dX5_comes_85 : decode cX5_comes 85 = .ok (.ifCond .ge 9, 3) := by decide +kernel
theorem dX5_comes_88 : decode cX5_comes 88 = .ok (.iload 5, 2) := by decide +kernel
theorem dX5_comes_90 : decode cX5_comes 90 = .ok (.ineg, 1) := by decide +kernel
theorem dX5_comes_91 : decode cX5_comes 91 = .ok (.goto 5, 3) := by decide +kernel
theorem dX5_comes_94 : decode cX5_comes 94 = .ok (.iload 5, 2) := by decide +kernel
theorem dX5_comes_96 : decode cX5_comes 96 = .ok (.isub, 1) := by decide +kernel
theorem dX5_comes_97 : decode cX5_comes 97 = .ok (.istore_n 3, 1) := by decide +kernel
theorem dX5_comes_98 : decode cX5_comes 98 = .ok (.iinc 4 1, 3) := by decide +kernel
theorem dX5_comes_101 : decode cX5_comes 101 = .ok (.goto (-86), 3) := by decide +kernel
theorem dX5_comes_104 : decode cX5_comes 104 = .ok (.aload_n 0, 1) := by decide +kernel
theorem dX5_comes_105 : decode cX5_comes 105 = .ok (.iload_n 1, 1) := by decide +kernel
theorem dX5_comes_106 : decode cX5_comes 106 = .ok (.bipush 6, 2) := by decide +kernel
theorem dX5_comes_108 : decode cX5_comes 108 = .ok (.aload_n 0, 1) := by decide +kernel
theorem dX5_comes_109 : decode cX5_comes 109 = .ok (.iload_n 1, 1) := by decide +kernel
theorem dX5_comes_110 : decode cX5_comes 110 = .ok (.invokevirtual 80, 3) := by decide +kernel
theorem dX5_comes_113 : decode cX5_comes 113 = .ok (.ifCond .eq 21, 3) := by decide +kernel
theorem dX5_comes_116 : decode cX5_comes 116 = .ok (.sipush 9999, 3) := by decide +kernel
theorem dX5_comes_119 : decode cX5_comes 119 = .ok (.aload_n 0, 1) := by decide +kernel
theorem dX5_comes_120 : decode cX5_comes 120 = .ok (.iload_n 1, 1) := by decide +kernel
theorem dX5_comes_121 : decode cX5_comes 121 = .ok (.bipush 6, 2) := by decide +kernel
theorem dX5_comes_123 : decode cX5_comes 123 = .ok (.invokevirtual 55, 3) := by decide +kernel
theorem dX5_comes_126 : decode cX5_comes 126 = .ok (.iconst 1, 1) := by decide +kernel
theorem dX5_comes_127 : decode cX5_comes 127 = .ok (.iadd, 1) := by decide +kernel
theorem dX5_comes_128 : decode cX5_comes 128 = .ok (.invokestatic 63, 3) := by decide +kernel
theorem dX5_comes_131 : decode cX5_comes 131 = .ok (.goto 10, 3) := by decide +kernel
theorem dX5_comes_134 : decode cX5_comes 134 = .ok (.aload_n 0, 1) := by decide +kernel
theorem dX5_comes_135 : decode cX5_comes 135 = .ok (.iload_n 1, 1) := by decide +kernel
theorem dX5_comes_136 : decode cX5_comes 136 = .ok (.bipush 6, 2) := by decide +kernel
theorem dX5_comes_138 : decode cX5_comes 138 = .ok (.invokevirtual 55, 3) := by decide +kernel
theorem dX5_comes_141 : decode cX5_comes 141 = .ok (.invokevirtual 83, 3) := by decide +kernel
theorem dX5_comes_144 : decode cX5_comes 144 = .ok (.aload_n 0, 1) := by decide +kernel
theorem dX5_comes_145 : decode cX5_comes 145 = .ok (.iload_n 1, 1) := by decide +kernel
theorem dX5_comes_146 : decode cX5_comes 146 = .ok (.invokevirtual 73, 3) := by decide +kernel
theorem dX5_comes_149 : decode cX5_comes 149 = .ok (.iload_n 3, 1) := by decide +kernel
theorem dX5_comes_150 : decode cX5_comes 150 = .ok (.isub, 1) := by decide +kernel
theorem dX5_comes_151 : decode cX5_comes 151 = .ok (.ireturn, 1) := by decide +kernel
def j5_comes_141  (xs : Nat → Int32) (v1 : Int32) (v3 : Int32) (t1 : Int32) (t2 : Int32) (t3 : Int32) : Option (Int32 × (Nat → Int32)) :=
  ob1 (f5_puts xs t1 t2 t3) (fun xs_16 =>
  ob1 (f5_movesOf xs_16 v1) (fun r18 =>
  some ((r18 - v3), xs_16)))
def j5_comes_96 (k15 : (Nat → Int32) → Int32 → Int32 → Int32 → Int32 → Option (Int32 × (Nat → Int32))) (xs : Nat → Int32) (v1 : Int32) (v2 : Int32) (v4 : Int32) (t0 : Int32) (t1 : Int32) : Option (Int32 × (Nat → Int32)) :=
  k15 xs v1 v2 (t0 - t1) (v4 + (1 : Int32))
def j5_comes_44 (k15 : (Nat → Int32) → Int32 → Int32 → Int32 → Int32 → Option (Int32 × (Nat → Int32))) (xs : Nat → Int32) (v1 : Int32) (v2 : Int32) (v3 : Int32) (v4 : Int32) (t0 : Int32) : Option (Int32 × (Nat → Int32)) :=
  gd (inb ((6 : Int32) + v4) 88) (
  gd (inb ((6 : Int32) + v4) 88) (
  if (0 : Int32) ≤ t0 then (
    j5_comes_96 k15 (upd (upd xs (((6 : Int32) + v4).toNatClampNeg) ((xs (((6 : Int32) + v4).toNatClampNeg)) + t0)) 3 (f5_less (9999 : Int32) (((upd xs (((6 : Int32) + v4).toNatClampNeg) ((xs (((6 : Int32) + v4).toNatClampNeg)) + t0)) 3) - t0))) v1 v2 v4 v3 t0)
  else (
    j5_comes_96 k15 (upd (upd xs (((6 : Int32) + v4).toNatClampNeg) ((xs (((6 : Int32) + v4).toNatClampNeg)) + t0)) 3 (f5_less (9999 : Int32) (((upd xs (((6 : Int32) + v4).toNatClampNeg) ((xs (((6 : Int32) + v4).toNatClampNeg)) + t0)) 3) - t0))) v1 v2 v4 v3 (-t0))))
def l5_comes_15  : Nat → (Nat → Int32) → Int32 → Int32 → Int32 → Int32 → Option (Int32 × (Nat → Int32))
  | 0, _, _, _, _, _ => none
  | n + 1, xs, v1, v2, v3, v4 =>
    if (16 : Int32) ≤ v4 then (
      ob1 (f5_standsNow xs v1) (fun r6 =>
      if r6 = (0 : Int32) then (
        ob1 (f5_get xs v1 (6 : Int32)) (fun r9 =>
        j5_comes_141 xs v1 v3 v1 (6 : Int32) r9))
      else (
        ob1 (f5_get xs v1 (6 : Int32)) (fun r11 =>
        j5_comes_141 xs v1 v3 v1 (6 : Int32) (f5_less (9999 : Int32) (r11 + (1 : Int32)))))))
    else (
      if ((v2 >>> (v4 &&& 31)) &&& (1 : Int32)) = (1 : Int32) then (
        ob1 (f5_getsAt xs v1 v4 v3) (fun r14 =>
        j5_comes_44 (l5_comes_15 n) xs v1 v2 v3 v4 r14))
      else (
        j5_comes_44 (l5_comes_15 n) xs v1 v2 v3 v4 (0 : Int32)))
def f5_comes (xs : Nat → Int32) (v1 : Int32) : Option (Int32 × (Nat → Int32)) :=
  ob1 (f5_spanOf xs v1) (fun r1 =>
  ob1 (f5_movesOf xs v1) (fun r3 =>
  l5_comes_15 1000 xs v1 r1 r3 (0 : Int32)))
set_option maxHeartbeats 4000000 in
set_option maxRecDepth 100000 in
theorem b5_comes_141 {X : XP} {p : Program} {l : Launch} {e : Env} {s : State} {m : MethodId} {args : Array Value} {below : List Frame} {meth : Method} {c : Code} {D : va_G} {cI cC : ClassId} {ad : Nat → Nat} {A : Nat → Prop} {xkept : Nat → Int32} {xaside : Nat → Int32} {xisK : Int32} {xfound : Nat → Int32} {xgone : Int32} {xover : Nat → Int32} {xtape : Nat → Int32} {xtaped : Int32} {xtok : Int32} {xbeg : Int32} {xend : Int32} {xval : Int64} {xwid : Nat → Int32} {xsiz : Nat → Int32} {xcel : Nat → Int32} {xcar : Nat → Int32} {r0 : Int32} {o_xs : Nat → Int32} (C0 : CX X p s m args meth c cX5_comes 6 (some .int) RX5 A) : ∀ {xs : Nat → Int32} {v1 : Int32} {v3 : Int32} {t1 : Int32} {t2 : Int32} {t3 : Int32} {H : Heap} {locs : List Loc} {ls : Array Slot}, GX X D (tyM cI cC) A s (wM cI cC ad xs xkept xaside xisK xfound xgone xover xtape xtaped xtok xbeg xend xval xwid xsiz xcel xcar) H locs → lv_has ls 6 [(0, .ref (ad 0)), (1, .int v1), (3, .int v3)] → j5_comes_141  xs v1 v3 t1 t2 t3 = some (r0, o_xs) → W p l e ({ frames := 4, cells := 0, slots := 0, locals := 96 }) s m args below meth c H locs 0 0 (MQ below (QcI D (tyM cI cC) (wM cI cC ad o_xs xkept xaside xisK xfound xgone xover xtape xtaped xtok xbeg xend xval xwid xsiz xcel xcar) A r0) args s 0 0 A) (F0 m 141 ls [.int t3, .int t2, .int t1, .ref (ad 0)]) := by
  have hx := C0.1
  have hb := C0.2.1
  have hown := C0.2.2.2.2.1
  have hts := C0.2.2.2.2.2.1
  have hX := C0.2.2.2.2.2.2.2.2
  intro xs v1 v3 t1 t2 t3 H locs ls G hl hf
  unfold j5_comes_141 at hf
  obtain ⟨xs_16, hc17, hf⟩ := ob1_s hf
  refine go_v C0 G (runV_of (n := 3) (q0 := 0) (As := [.int t1, .int t2, .int t3]) (rest := []) C0 G (c5_puts hX hc17) q817 q54 q814 q816 q13 o5_puts ⟨rfl, rfl⟩ ⟨Nat.le_of_ble_eq_true rfl, Nat.le_of_ble_eq_true rfl⟩ rfl rfl rfl hl.1 rfl (Nat.le_of_ble_eq_true rfl) dX5_comes_141) (fun H locs G => ?_)
  refine lv_aload_n hx hb dX5_comes_144 rfl (lv_at hl 0 rfl) ?_
  refine lv_iload_n hx hb dX5_comes_145 rfl (lv_at hl 1 rfl) ?_
  obtain ⟨r18, hc19, hf⟩ := ob1_s hf
  refine go_i C0 G (runV_of (n := 1) (q0 := 0) (As := [.int v1]) (rest := []) C0 G (c5_movesOf hX hc19) q836 q54 q833 q835 q16 o5_movesOf ⟨rfl, rfl⟩ ⟨Nat.le_of_ble_eq_true rfl, Nat.le_of_ble_eq_true rfl⟩ rfl rfl rfl hl.1 rfl (Nat.le_of_ble_eq_true rfl) dX5_comes_146) (fun H locs G => ?_)
  refine lv_iload_n hx hb dX5_comes_149 rfl (lv_at hl 2 rfl) ?_
  refine lv_isub hx hb dX5_comes_150 ?_
  obtain ⟨rfl, rfl⟩ := inj2 hf
  exact ret_i C0 G dX5_comes_151
set_option maxHeartbeats 4000000 in
set_option maxRecDepth 100000 in
theorem b5_comes_96 {X : XP} {p : Program} {l : Launch} {e : Env} {s : State} {m : MethodId} {args : Array Value} {below : List Frame} {meth : Method} {c : Code} {D : va_G} {cI cC : ClassId} {ad : Nat → Nat} {A : Nat → Prop} {xkept : Nat → Int32} {xaside : Nat → Int32} {xisK : Int32} {xfound : Nat → Int32} {xgone : Int32} {xover : Nat → Int32} {xtape : Nat → Int32} {xtaped : Int32} {xtok : Int32} {xbeg : Int32} {xend : Int32} {xval : Int64} {xwid : Nat → Int32} {xsiz : Nat → Int32} {xcel : Nat → Int32} {xcar : Nat → Int32} {r0 : Int32} {o_xs : Nat → Int32} (C0 : CX X p s m args meth c cX5_comes 6 (some .int) RX5 A) {k15 : (Nat → Int32) → Int32 → Int32 → Int32 → Int32 → Option (Int32 × (Nat → Int32))} (hk15 : ∀ {xs : Nat → Int32} {v1 : Int32} {v2 : Int32} {v3 : Int32} {v4 : Int32} {H : Heap} {locs : List Loc} {ls : Array Slot}, GX X D (tyM cI cC) A s (wM cI cC ad xs xkept xaside xisK xfound xgone xover xtape xtaped xtok xbeg xend xval xwid xsiz xcel xcar) H locs → lv_has ls 6 [(0, .ref (ad 0)), (1, .int v1), (2, .int v2), (3, .int v3), (4, .int v4)] → k15 xs v1 v2 v3 v4 = some (r0, o_xs) → W p l e ({ frames := 4, cells := 0, slots := 0, locals := 96 }) s m args below meth c H locs 0 0 (MQ below (QcI D (tyM cI cC) (wM cI cC ad o_xs xkept xaside xisK xfound xgone xover xtape xtaped xtok xbeg xend xval xwid xsiz xcel xcar) A r0) args s 0 0 A) (F0 m 15 ls [])) : ∀ {xs : Nat → Int32} {v1 : Int32} {v2 : Int32} {v4 : Int32} {t0 : Int32} {t1 : Int32} {H : Heap} {locs : List Loc} {ls : Array Slot}, GX X D (tyM cI cC) A s (wM cI cC ad xs xkept xaside xisK xfound xgone xover xtape xtaped xtok xbeg xend xval xwid xsiz xcel xcar) H locs → lv_has ls 6 [(0, .ref (ad 0)), (1, .int v1), (2, .int v2), (4, .int v4)] → j5_comes_96 k15 xs v1 v2 v4 t0 t1 = some (r0, o_xs) → W p l e ({ frames := 4, cells := 0, slots := 0, locals := 96 }) s m args below meth c H locs 0 0 (MQ below (QcI D (tyM cI cC) (wM cI cC ad o_xs xkept xaside xisK xfound xgone xover xtape xtaped xtok xbeg xend xval xwid xsiz xcel xcar) A r0) args s 0 0 A) (F0 m 96 ls [.int t1, .int t0]) := by
  have hx := C0.1
  have hb := C0.2.1
  have hown := C0.2.2.2.2.1
  have hts := C0.2.2.2.2.2.1
  have hX := C0.2.2.2.2.2.2.2.2
  intro xs v1 v2 v4 t0 t1 H locs ls G hl hf
  unfold j5_comes_96 at hf
  refine lv_isub hx hb dX5_comes_96 ?_
  refine lv_istore_n (lv' := [(3, .int (t0 - t1)), (0, .ref (ad 0)), (1, .int v1), (2, .int v2), (4, .int v4)]) hx hb dX5_comes_97 rfl hl (by decide) rfl (fun ls hl => ?_)
  refine lv_iinc (v := (v4 + (1 : Int32))) (lv' := [(4, .int (v4 + (1 : Int32))), (3, .int (t0 - t1)), (0, .ref (ad 0)), (1, .int v1), (2, .int v2)]) hx hb dX5_comes_98 hl (k := 4) rfl rfl (by decide) rfl (fun ls hl => ?_)
  refine lv_goto (tgt := 15) hx hb dX5_comes_101 (by decide) ?_
  exact hk15 G (lv_sub hl [2, 3, 4, 1, 0] rfl) hf
set_option maxHeartbeats 4000000 in
set_option maxRecDepth 100000 in
theorem b5_comes_44 {X : XP} {p : Program} {l : Launch} {e : Env} {s : State} {m : MethodId} {args : Array Value} {below : List Frame} {meth : Method} {c : Code} {D : va_G} {cI cC : ClassId} {ad : Nat → Nat} {A : Nat → Prop} {xkept : Nat → Int32} {xaside : Nat → Int32} {xisK : Int32} {xfound : Nat → Int32} {xgone : Int32} {xover : Nat → Int32} {xtape : Nat → Int32} {xtaped : Int32} {xtok : Int32} {xbeg : Int32} {xend : Int32} {xval : Int64} {xwid : Nat → Int32} {xsiz : Nat → Int32} {xcel : Nat → Int32} {xcar : Nat → Int32} {r0 : Int32} {o_xs : Nat → Int32} (C0 : CX X p s m args meth c cX5_comes 6 (some .int) RX5 A) {k15 : (Nat → Int32) → Int32 → Int32 → Int32 → Int32 → Option (Int32 × (Nat → Int32))} (hk15 : ∀ {xs : Nat → Int32} {v1 : Int32} {v2 : Int32} {v3 : Int32} {v4 : Int32} {H : Heap} {locs : List Loc} {ls : Array Slot}, GX X D (tyM cI cC) A s (wM cI cC ad xs xkept xaside xisK xfound xgone xover xtape xtaped xtok xbeg xend xval xwid xsiz xcel xcar) H locs → lv_has ls 6 [(0, .ref (ad 0)), (1, .int v1), (2, .int v2), (3, .int v3), (4, .int v4)] → k15 xs v1 v2 v3 v4 = some (r0, o_xs) → W p l e ({ frames := 4, cells := 0, slots := 0, locals := 96 }) s m args below meth c H locs 0 0 (MQ below (QcI D (tyM cI cC) (wM cI cC ad o_xs xkept xaside xisK xfound xgone xover xtape xtaped xtok xbeg xend xval xwid xsiz xcel xcar) A r0) args s 0 0 A) (F0 m 15 ls [])) : ∀ {xs : Nat → Int32} {v1 : Int32} {v2 : Int32} {v3 : Int32} {v4 : Int32} {t0 : Int32} {H : Heap} {locs : List Loc} {ls : Array Slot}, GX X D (tyM cI cC) A s (wM cI cC ad xs xkept xaside xisK xfound xgone xover xtape xtaped xtok xbeg xend xval xwid xsiz xcel xcar) H locs → lv_has ls 6 [(0, .ref (ad 0)), (1, .int v1), (2, .int v2), (3, .int v3), (4, .int v4)] → j5_comes_44 k15 xs v1 v2 v3 v4 t0 = some (r0, o_xs) → W p l e ({ frames := 4, cells := 0, slots := 0, locals := 96 }) s m args below meth c H locs 0 0 (MQ below (QcI D (tyM cI cC) (wM cI cC ad o_xs xkept xaside xisK xfound xgone xover xtape xtaped xtok xbeg xend xval xwid xsiz xcel xcar) A r0) args s 0 0 A) (F0 m 44 ls [.int t0]) := by
  have hx := C0.1
  have hb := C0.2.1
  have hown := C0.2.2.2.2.1
  have hts := C0.2.2.2.2.2.1
  have hX := C0.2.2.2.2.2.2.2.2
  intro xs v1 v2 v3 v4 t0 H locs ls G hl hf
  unfold j5_comes_44 at hf
  refine lv_istore (lv' := [(5, .int t0), (0, .ref (ad 0)), (1, .int v1), (2, .int v2), (3, .int v3), (4, .int v4)]) hx hb dX5_comes_44 hl (by decide) rfl (fun ls hl => ?_)
  refine lv_aload_n hx hb dX5_comes_46 rfl (lv_at hl 1 rfl) ?_
  refine s_get (C := RX5) (T := TX5) C0 G i_X5 0 0 rfl rfl (by decide) q713 rfl dX5_comes_47 ?_
  refine lv_bipush (v := (6 : Int32)) hx hb dX5_comes_50 (by decide) ?_
  refine lv_iload hx hb dX5_comes_52 (lv_at hl 5 rfl) ?_
  refine lv_iadd hx hb dX5_comes_54 ?_
  refine lv_dup2_11 hx hb dX5_comes_55 rfl rfl ?_
  obtain ⟨hi20, hf⟩ := gd_s hf
  refine s_iald (k := ((6 : Int32) + v4).toNatClampNeg) C0 G 1 0 rfl rfl (vin hi20) rfl dX5_comes_56 ?_
  refine lv_iload hx hb dX5_comes_57 (lv_at hl 0 rfl) ?_
  refine lv_iadd hx hb dX5_comes_59 ?_
  obtain ⟨hi21, hf⟩ := gd_s hf
  refine s_iast (k := ((6 : Int32) + v4).toNatClampNeg) (w' := (wM cI cC ad (upd xs (((6 : Int32) + v4).toNatClampNeg) ((xs (((6 : Int32) + v4).toNatClampNeg)) + t0)) xkept xaside xisK xfound xgone xover xtape xtaped xtok xbeg xend xval xwid xsiz xcel xcar)) C0 G 1 0 rfl rfl (vin hi21) rfl rfl dX5_comes_60 (fun H locs G => ?_)
  refine lv_aload_n hx hb dX5_comes_61 rfl (lv_at hl 1 rfl) ?_
  refine s_get (C := RX5) (T := TX5) C0 G i_X5 0 0 rfl rfl (by decide) q713 rfl dX5_comes_62 ?_
  refine lv_iconst (v := (3 : Int32)) hx hb dX5_comes_65 (by decide) ?_
  refine lv_sipush (v := (9999 : Int32)) hx hb dX5_comes_66 (by decide) ?_
  refine lv_aload_n hx hb dX5_comes_69 rfl (lv_at hl 1 rfl) ?_
  refine s_get (C := RX5) (T := TX5) C0 G i_X5 0 0 rfl rfl (by decide) q713 rfl dX5_comes_70 ?_
  refine lv_iconst (v := (3 : Int32)) hx hb dX5_comes_73 (by decide) ?_
  refine s_iald (k := 3) C0 G 1 0 rfl rfl (vin (by decide)) (by decide) dX5_comes_74 ?_
  refine lv_iload hx hb dX5_comes_75 (lv_at hl 0 rfl) ?_
  refine lv_isub hx hb dX5_comes_77 ?_
  refine go_i C0 G (runS_of (n := 2) (As := [.int (9999 : Int32), .int (((upd xs (((6 : Int32) + v4).toNatClampNeg) ((xs (((6 : Int32) + v4).toNatClampNeg)) + t0)) 3) - t0)]) (rest := [.int (3 : Int32), .ref (ad 1)]) C0 G (c5_less hX rfl) q832 q54 q830 q831 o5_less ⟨rfl, rfl⟩ ⟨Nat.le_of_ble_eq_true rfl, Nat.le_of_ble_eq_true rfl⟩ rfl hl.1 rfl (Nat.le_of_ble_eq_true rfl) dX5_comes_78) (fun H locs G => ?_)
  refine s_iast (k := 3) (w' := (wM cI cC ad (upd (upd xs (((6 : Int32) + v4).toNatClampNeg) ((xs (((6 : Int32) + v4).toNatClampNeg)) + t0)) 3 (f5_less (9999 : Int32) (((upd xs (((6 : Int32) + v4).toNatClampNeg) ((xs (((6 : Int32) + v4).toNatClampNeg)) + t0)) 3) - t0))) xkept xaside xisK xfound xgone xover xtape xtaped xtok xbeg xend xval xwid xsiz xcel xcar)) C0 G 1 0 rfl rfl (vin (by decide)) (by decide) rfl dX5_comes_81 (fun H locs G => ?_)
  refine lv_iload_n hx hb dX5_comes_82 rfl (lv_at hl 4 rfl) ?_
  refine lv_iload hx hb dX5_comes_83 (lv_at hl 0 rfl) ?_
  refine lv_if_ge (tgt := 94) hx hb dX5_comes_85 (by decide) (fun hc22 => ?_) (fun hc22 => ?_)
  · have hf := itp hc22 hf
    refine lv_iload hx hb dX5_comes_94 (lv_at hl 0 rfl) ?_
    exact b5_comes_96 C0 hk15 G (lv_sub hl [1, 2, 3, 5] rfl) hf
  · have hf := itn hc22 hf
    refine lv_iload hx hb dX5_comes_88 (lv_at hl 0 rfl) ?_
    refine lv_ineg hx hb dX5_comes_90 ?_
    refine lv_goto (tgt := 96) hx hb dX5_comes_91 (by decide) ?_
    exact b5_comes_96 C0 hk15 G (lv_sub hl [1, 2, 3, 5] rfl) hf
set_option maxHeartbeats 4000000 in
set_option maxRecDepth 100000 in
theorem b5_comes_15 {X : XP} {p : Program} {l : Launch} {e : Env} {s : State} {m : MethodId} {args : Array Value} {below : List Frame} {meth : Method} {c : Code} {D : va_G} {cI cC : ClassId} {ad : Nat → Nat} {A : Nat → Prop} {xkept : Nat → Int32} {xaside : Nat → Int32} {xisK : Int32} {xfound : Nat → Int32} {xgone : Int32} {xover : Nat → Int32} {xtape : Nat → Int32} {xtaped : Int32} {xtok : Int32} {xbeg : Int32} {xend : Int32} {xval : Int64} {xwid : Nat → Int32} {xsiz : Nat → Int32} {xcel : Nat → Int32} {xcar : Nat → Int32} {r0 : Int32} {o_xs : Nat → Int32} (C0 : CX X p s m args meth c cX5_comes 6 (some .int) RX5 A) : ∀ (n : Nat) {xs : Nat → Int32} {v1 : Int32} {v2 : Int32} {v3 : Int32} {v4 : Int32} {H : Heap} {locs : List Loc} {ls : Array Slot}, GX X D (tyM cI cC) A s (wM cI cC ad xs xkept xaside xisK xfound xgone xover xtape xtaped xtok xbeg xend xval xwid xsiz xcel xcar) H locs → lv_has ls 6 [(0, .ref (ad 0)), (1, .int v1), (2, .int v2), (3, .int v3), (4, .int v4)] → l5_comes_15  n xs v1 v2 v3 v4 = some (r0, o_xs) → W p l e ({ frames := 4, cells := 0, slots := 0, locals := 96 }) s m args below meth c H locs 0 0 (MQ below (QcI D (tyM cI cC) (wM cI cC ad o_xs xkept xaside xisK xfound xgone xover xtape xtaped xtok xbeg xend xval xwid xsiz xcel xcar) A r0) args s 0 0 A) (F0 m 15 ls []) := by
  have hx := C0.1
  have hb := C0.2.1
  have hown := C0.2.2.2.2.1
  have hts := C0.2.2.2.2.2.1
  have hX := C0.2.2.2.2.2.2.2.2
  intro n
  induction n with
  | zero =>
    intro _ _ _ _ _ _ _ _ G hl hf
    cases hf
  | succ n ih =>
    intro xs v1 v2 v3 v4 H locs ls G hl hf
    rw [l5_comes_15] at hf
    refine lv_iload hx hb dX5_comes_15 (lv_at hl 4 rfl) ?_
    refine lv_bipush (v := (16 : Int32)) hx hb dX5_comes_17 (by decide) ?_
    refine lv_icmp_ge (tgt := 104) hx hb dX5_comes_19 (by decide) (fun hc5 => ?_) (fun hc5 => ?_)
    · have hf := itp hc5 hf
      refine lv_aload_n hx hb dX5_comes_104 rfl (lv_at hl 0 rfl) ?_
      refine lv_iload_n hx hb dX5_comes_105 rfl (lv_at hl 1 rfl) ?_
      refine lv_bipush (v := (6 : Int32)) hx hb dX5_comes_106 (by decide) ?_
      refine lv_aload_n hx hb dX5_comes_108 rfl (lv_at hl 0 rfl) ?_
      refine lv_iload_n hx hb dX5_comes_109 rfl (lv_at hl 1 rfl) ?_
      obtain ⟨r6, hc7, hf⟩ := ob1_s hf
      refine go_i C0 G (runV_of (n := 1) (q0 := 0) (As := [.int v1]) (rest := [.int (6 : Int32), .int v1, .ref (ad 0)]) C0 G (c5_standsNow hX hc7) q840 q54 q837 q839 q17 o5_standsNow ⟨rfl, rfl⟩ ⟨Nat.le_of_ble_eq_true rfl, Nat.le_of_ble_eq_true rfl⟩ rfl rfl rfl hl.1 rfl (Nat.le_of_ble_eq_true rfl) dX5_comes_110) (fun H locs G => ?_)
      refine lv_if_eq (tgt := 134) hx hb dX5_comes_113 (by decide) (fun hc8 => ?_) (fun hc8 => ?_)
      · have hf := itp hc8 hf
        refine lv_aload_n hx hb dX5_comes_134 rfl (lv_at hl 0 rfl) ?_
        refine lv_iload_n hx hb dX5_comes_135 rfl (lv_at hl 1 rfl) ?_
        refine lv_bipush (v := (6 : Int32)) hx hb dX5_comes_136 (by decide) ?_
        obtain ⟨r9, hc10, hf⟩ := ob1_s hf
        refine go_i C0 G (runV_of (n := 2) (q0 := 0) (As := [.int v1, .int (6 : Int32)]) (rest := [.int (6 : Int32), .int v1, .ref (ad 0)]) C0 G (c5_get hX hc10) q801 q54 q798 q800 q11 o5_get ⟨rfl, rfl⟩ ⟨Nat.le_of_ble_eq_true rfl, Nat.le_of_ble_eq_true rfl⟩ rfl rfl rfl hl.1 rfl (Nat.le_of_ble_eq_true rfl) dX5_comes_138) (fun H locs G => ?_)
        exact b5_comes_141 C0  G (lv_sub hl [0, 1, 3] rfl) hf
      · have hf := itn hc8 hf
        refine lv_sipush (v := (9999 : Int32)) hx hb dX5_comes_116 (by decide) ?_
        refine lv_aload_n hx hb dX5_comes_119 rfl (lv_at hl 0 rfl) ?_
        refine lv_iload_n hx hb dX5_comes_120 rfl (lv_at hl 1 rfl) ?_
        refine lv_bipush (v := (6 : Int32)) hx hb dX5_comes_121 (by decide) ?_
        obtain ⟨r11, hc12, hf⟩ := ob1_s hf
        refine go_i C0 G (runV_of (n := 2) (q0 := 0) (As := [.int v1, .int (6 : Int32)]) (rest := [.int (9999 : Int32), .int (6 : Int32), .int v1, .ref (ad 0)]) C0 G (c5_get hX hc12) q801 q54 q798 q800 q11 o5_get ⟨rfl, rfl⟩ ⟨Nat.le_of_ble_eq_true rfl, Nat.le_of_ble_eq_true rfl⟩ rfl rfl rfl hl.1 rfl (Nat.le_of_ble_eq_true rfl) dX5_comes_123) (fun H locs G => ?_)
        refine lv_iconst (v := (1 : Int32)) hx hb dX5_comes_126 (by decide) ?_
        refine lv_iadd hx hb dX5_comes_127 ?_
        refine go_i C0 G (runS_of (n := 2) (As := [.int (9999 : Int32), .int (r11 + (1 : Int32))]) (rest := [.int (6 : Int32), .int v1, .ref (ad 0)]) C0 G (c5_less hX rfl) q832 q54 q830 q831 o5_less ⟨rfl, rfl⟩ ⟨Nat.le_of_ble_eq_true rfl, Nat.le_of_ble_eq_true rfl⟩ rfl hl.1 rfl (Nat.le_of_ble_eq_true rfl) dX5_comes_128) (fun H locs G => ?_)
        refine lv_goto (tgt := 141) hx hb dX5_comes_131 (by decide) ?_
        exact b5_comes_141 C0  G (lv_sub hl [0, 1, 3] rfl) hf
    · have hf := itn hc5 hf
      refine lv_iload_n hx hb dX5_comes_22 rfl (lv_at hl 2 rfl) ?_
      refine lv_iload hx hb dX5_comes_23 (lv_at hl 4 rfl) ?_
      refine lv_ishr hx hb dX5_comes_25 ?_
      refine lv_iconst (v := (1 : Int32)) hx hb dX5_comes_26 (by decide) ?_
      refine lv_iand hx hb dX5_comes_27 ?_
      refine lv_iconst (v := (1 : Int32)) hx hb dX5_comes_28 (by decide) ?_
      refine lv_icmp_ne (tgt := 43) hx hb dX5_comes_29 (by decide) (fun hc13 => ?_) (fun hc13 => ?_)
      · have hf := itn hc13 hf
        refine lv_iconst (v := (0 : Int32)) hx hb dX5_comes_43 (by decide) ?_
        exact b5_comes_44 C0 ih G (lv_sub hl [0, 1, 2, 3, 4] rfl) hf
      · have hf := itp hc13 hf
        refine lv_aload_n hx hb dX5_comes_32 rfl (lv_at hl 0 rfl) ?_
        refine lv_iload_n hx hb dX5_comes_33 rfl (lv_at hl 1 rfl) ?_
        refine lv_iload hx hb dX5_comes_34 (lv_at hl 4 rfl) ?_
        refine lv_iload_n hx hb dX5_comes_36 rfl (lv_at hl 3 rfl) ?_
        obtain ⟨r14, hc15, hf⟩ := ob1_s hf
        refine go_i C0 G (runV_of (n := 3) (q0 := 0) (As := [.int v1, .int v4, .int v3]) (rest := []) C0 G (c5_getsAt hX hc15) q862 q54 q859 q861 q19 o5_getsAt ⟨rfl, rfl⟩ ⟨Nat.le_of_ble_eq_true rfl, Nat.le_of_ble_eq_true rfl⟩ rfl rfl rfl hl.1 rfl (Nat.le_of_ble_eq_true rfl) dX5_comes_37) (fun H locs G => ?_)
        refine lv_goto (tgt := 44) hx hb dX5_comes_40 (by decide) ?_
        exact b5_comes_44 C0 ih G (lv_sub hl [0, 1, 2, 3, 4] rfl) hf
set_option maxHeartbeats 4000000 in
set_option maxRecDepth 100000 in
theorem b5_comes_0 {X : XP} {p : Program} {l : Launch} {e : Env} {s : State} {m : MethodId} {args : Array Value} {below : List Frame} {meth : Method} {c : Code} {D : va_G} {cI cC : ClassId} {ad : Nat → Nat} {A : Nat → Prop} {xkept : Nat → Int32} {xaside : Nat → Int32} {xisK : Int32} {xfound : Nat → Int32} {xgone : Int32} {xover : Nat → Int32} {xtape : Nat → Int32} {xtaped : Int32} {xtok : Int32} {xbeg : Int32} {xend : Int32} {xval : Int64} {xwid : Nat → Int32} {xsiz : Nat → Int32} {xcel : Nat → Int32} {xcar : Nat → Int32} {r0 : Int32} {o_xs : Nat → Int32} (C0 : CX X p s m args meth c cX5_comes 6 (some .int) RX5 A) : ∀ {xs : Nat → Int32} {v1 : Int32} {H : Heap} {locs : List Loc} {ls : Array Slot}, GX X D (tyM cI cC) A s (wM cI cC ad xs xkept xaside xisK xfound xgone xover xtape xtaped xtok xbeg xend xval xwid xsiz xcel xcar) H locs → lv_has ls 6 [(0, .ref (ad 0)), (1, .int v1)] → f5_comes xs v1 = some (r0, o_xs) → W p l e ({ frames := 4, cells := 0, slots := 0, locals := 96 }) s m args below meth c H locs 0 0 (MQ below (QcI D (tyM cI cC) (wM cI cC ad o_xs xkept xaside xisK xfound xgone xover xtape xtaped xtok xbeg xend xval xwid xsiz xcel xcar) A r0) args s 0 0 A) (F0 m 0 ls []) := by
  have hx := C0.1
  have hb := C0.2.1
  have hown := C0.2.2.2.2.1
  have hts := C0.2.2.2.2.2.1
  have hX := C0.2.2.2.2.2.2.2.2
  intro xs v1 H locs ls G hl hf
  unfold f5_comes at hf
  refine lv_aload_n hx hb dX5_comes_0 rfl (lv_at hl 0 rfl) ?_
  refine lv_iload_n hx hb dX5_comes_1 rfl (lv_at hl 1 rfl) ?_
  obtain ⟨r1, hc2, hf⟩ := ob1_s hf
  refine go_i C0 G (runV_of (n := 1) (q0 := 0) (As := [.int v1]) (rest := []) C0 G (c5_spanOf hX hc2) q797 q54 q794 q796 q10 o5_spanOf ⟨rfl, rfl⟩ ⟨Nat.le_of_ble_eq_true rfl, Nat.le_of_ble_eq_true rfl⟩ rfl rfl rfl hl.1 rfl (Nat.le_of_ble_eq_true rfl) dX5_comes_2) (fun H locs G => ?_)
  refine lv_istore_n (lv' := [(2, .int r1), (0, .ref (ad 0)), (1, .int v1)]) hx hb dX5_comes_5 rfl hl (by decide) rfl (fun ls hl => ?_)
  refine lv_aload_n hx hb dX5_comes_6 rfl (lv_at hl 1 rfl) ?_
  refine lv_iload_n hx hb dX5_comes_7 rfl (lv_at hl 2 rfl) ?_
  obtain ⟨r3, hc4, hf⟩ := ob1_s hf
  refine go_i C0 G (runV_of (n := 1) (q0 := 0) (As := [.int v1]) (rest := []) C0 G (c5_movesOf hX hc4) q836 q54 q833 q835 q16 o5_movesOf ⟨rfl, rfl⟩ ⟨Nat.le_of_ble_eq_true rfl, Nat.le_of_ble_eq_true rfl⟩ rfl rfl rfl hl.1 rfl (Nat.le_of_ble_eq_true rfl) dX5_comes_8) (fun H locs G => ?_)
  refine lv_istore_n (lv' := [(3, .int r3), (2, .int r1), (0, .ref (ad 0)), (1, .int v1)]) hx hb dX5_comes_11 rfl hl (by decide) rfl (fun ls hl => ?_)
  refine lv_iconst (v := (0 : Int32)) hx hb dX5_comes_12 (by decide) ?_
  refine lv_istore (lv' := [(4, .int (0 : Int32)), (3, .int r3), (2, .int r1), (0, .ref (ad 0)), (1, .int v1)]) hx hb dX5_comes_13 hl (by decide) rfl (fun ls hl => ?_)
  exact b5_comes_15 C0  1000 G (lv_sub hl [3, 4, 2, 1, 0] rfl) hf
theorem o5_comes : okName yX5_comes 1 := ⟨by decide, by decide, by decide +kernel⟩
set_option maxHeartbeats 4000000 in
set_option maxRecDepth 100000 in
theorem c5_comes {X : XP} (hX : XT X) {l : Launch} {D : va_G} {cI cC : ClassId} {ad : Nat → Nat} {sz : Nat} {xs : Nat → Int32} {xkept : Nat → Int32} {xaside : Nat → Int32} {xisK : Int32} {xfound : Nat → Int32} {xgone : Int32} {xover : Nat → Int32} {xtape : Nat → Int32} {xtaped : Int32} {xtok : Int32} {xbeg : Int32} {xend : Int32} {xval : Int64} {xwid : Nat → Int32} {xsiz : Nat → Int32} {xcel : Nat → Int32} {xcar : Nat → Int32} {v1 : Int32} {r0 : Int32} {o_xs : Nat → Int32} (hf : f5_comes xs v1 = some (r0, o_xs)) : Met l yX5_comes (wU yX5_comes cX5_comes 6 (some .int)) ({ frames := 4, cells := 0, slots := 0, locals := 96 }) (va_Pc [.ref (ad 0), .int v1] (PreW X D (tyM cI cC) (wM cI cC ad xs xkept xaside xisK xfound xgone xover xtape xtaped xtok xbeg xend xval xwid xsiz xcel xcar) sz)) (QcI D (tyM cI cC) (wM cI cC ad o_xs xkept xaside xisK xfound xgone xover xtape xtaped xtok xbeg xend xval xwid xsiz xcel xcar) (va_A (wM cI cC ad xs xkept xaside xisK xfound xgone xover xtape xtaped xtok xbeg xend xval xwid xsiz xcel xcar) sz) r0) 0 0 (va_A (wM cI cC ad xs xkept xaside xisK xfound xgone xover xtape xtaped xtok xbeg xend xval xwid xsiz xcel xcar) sz) := by
  refine startW hX (own := RX5) (by decide) rfl (Nat.le_of_ble_eq_true rfl) (fun p e s m args below meth c ls C0 G hl => ?_)
  exact b5_comes_0 C0 G hl hf
/-! 5_come -/
theorem dX5_come_0 : decode cX5_come 0 = .ok (.aload_n 0, 1) := by decide +kernel
theorem dX5_come_1 : decode cX5_come 1 = .ok (.iload_n 1, 1) := by decide +kernel
theorem dX5_come_2 : decode cX5_come 2 = .ok (.invokevirtual 111, 3) := by decide +kernel
theorem dX5_come_5 : decode cX5_come 5 = .ok (.ifCond .eq 11, 3) := by decide +kernel
theorem dX5_come_8 : decode cX5_come 8 = .ok (.aload_n 0, 1) := by decide +kernel
theorem dX5_come_9 : decode cX5_come 9 = .ok (.iload_n 1, 1) := by decide +kernel
theorem dX5_come_10 : decode cX5_come 10 = .ok (.invokevirtual 94, 3) := by decide +kernel
theorem dX5_come_13 : decode cX5_come 13 = .ok (.goto 8, 3) := by decide +kernel
theorem dX5_come_16 : decode cX5_come 16 = .ok (.aload_n 0, 1) := by decide +kernel
theorem dX5_come_17 : decode cX5_come 17 = .ok (.iconst 0, 1) := by decide +kernel
theorem dX5_come_18 : decode cX5_come 18 = .ok (.invokevirtual 105, 3) := by decide +kernel
theorem dX5_come_21 : decode cX5_come 21 = .ok (.ireturn, 1) := by decide +kernel
def f5_come (xs : Nat → Int32) (xfound : Nat → Int32) (v1 : Int32) : Option (Int32 × (Nat → Int32) × (Nat → Int32)) :=
  if (f5_isVisitor xs v1) = (0 : Int32) then (
    ob2 (f5_no xfound (0 : Int32)) (fun r2 xfound_3 =>
    some (r2, xs, xfound_3)))
  else (
    ob2 (f5_comes xs v1) (fun r5 xs_6 =>
    some (r5, xs_6, xfound)))
set_option maxHeartbeats 4000000 in
set_option maxRecDepth 100000 in
theorem b5_come_0 {X : XP} {p : Program} {l : Launch} {e : Env} {s : State} {m : MethodId} {args : Array Value} {below : List Frame} {meth : Method} {c : Code} {D : va_G} {cI cC : ClassId} {ad : Nat → Nat} {A : Nat → Prop} {xkept : Nat → Int32} {xaside : Nat → Int32} {xisK : Int32} {xgone : Int32} {xover : Nat → Int32} {xtape : Nat → Int32} {xtaped : Int32} {xtok : Int32} {xbeg : Int32} {xend : Int32} {xval : Int64} {xwid : Nat → Int32} {xsiz : Nat → Int32} {xcel : Nat → Int32} {xcar : Nat → Int32} {r0 : Int32} {o_xs : Nat → Int32} {o_xfound : Nat → Int32} (C0 : CX X p s m args meth c cX5_come 2 (some .int) RX5 A) : ∀ {xs : Nat → Int32} {xfound : Nat → Int32} {v1 : Int32} {H : Heap} {locs : List Loc} {ls : Array Slot}, GX X D (tyM cI cC) A s (wM cI cC ad xs xkept xaside xisK xfound xgone xover xtape xtaped xtok xbeg xend xval xwid xsiz xcel xcar) H locs → lv_has ls 2 [(0, .ref (ad 0)), (1, .int v1)] → f5_come xs xfound v1 = some (r0, o_xs, o_xfound) → W p l e ({ frames := 5, cells := 0, slots := 0, locals := 121 }) s m args below meth c H locs 0 0 (MQ below (QcI D (tyM cI cC) (wM cI cC ad o_xs xkept xaside xisK o_xfound xgone xover xtape xtaped xtok xbeg xend xval xwid xsiz xcel xcar) A r0) args s 0 0 A) (F0 m 0 ls []) := by
  have hx := C0.1
  have hb := C0.2.1
  have hown := C0.2.2.2.2.1
  have hts := C0.2.2.2.2.2.1
  have hX := C0.2.2.2.2.2.2.2.2
  intro xs xfound v1 H locs ls G hl hf
  unfold f5_come at hf
  refine lv_aload_n hx hb dX5_come_0 rfl (lv_at hl 0 rfl) ?_
  refine lv_iload_n hx hb dX5_come_1 rfl (lv_at hl 1 rfl) ?_
  refine go_i C0 G (runV_of (n := 1) (q0 := 0) (As := [.int v1]) (rest := []) C0 G (c5_isVisitor hX rfl) q825 q54 q822 q824 q14 o5_isVisitor ⟨rfl, rfl⟩ ⟨Nat.le_of_ble_eq_true rfl, Nat.le_of_ble_eq_true rfl⟩ rfl rfl rfl hl.1 rfl (Nat.le_of_ble_eq_true rfl) dX5_come_2) (fun H locs G => ?_)
  refine lv_if_eq (tgt := 16) hx hb dX5_come_5 (by decide) (fun hc1 => ?_) (fun hc1 => ?_)
  · have hf := itp hc1 hf
    refine lv_aload_n hx hb dX5_come_16 rfl (lv_at hl 0 rfl) ?_
    refine lv_iconst (v := (0 : Int32)) hx hb dX5_come_17 (by decide) ?_
    obtain ⟨r2, xfound_3, hc4, hf⟩ := ob2_s hf
    refine go_i C0 G (runV_of (n := 1) (q0 := 0) (As := [.int (0 : Int32)]) (rest := []) C0 G (c5_no hX hc4) q788 q54 q785 q787 q9 o5_no ⟨rfl, rfl⟩ ⟨Nat.le_of_ble_eq_true rfl, Nat.le_of_ble_eq_true rfl⟩ rfl rfl rfl hl.1 rfl (Nat.le_of_ble_eq_true rfl) dX5_come_18) (fun H locs G => ?_)
    obtain ⟨rfl, rfl, rfl⟩ := inj3 hf
    exact ret_i C0 G dX5_come_21
  · have hf := itn hc1 hf
    refine lv_aload_n hx hb dX5_come_8 rfl (lv_at hl 0 rfl) ?_
    refine lv_iload_n hx hb dX5_come_9 rfl (lv_at hl 1 rfl) ?_
    obtain ⟨r5, xs_6, hc7, hf⟩ := ob2_s hf
    refine go_i C0 G (runV_of (n := 1) (q0 := 0) (As := [.int v1]) (rest := []) C0 G (c5_comes hX hc7) q858 q54 q855 q857 q18 o5_comes ⟨rfl, rfl⟩ ⟨Nat.le_of_ble_eq_true rfl, Nat.le_of_ble_eq_true rfl⟩ rfl rfl rfl hl.1 rfl (Nat.le_of_ble_eq_true rfl) dX5_come_10) (fun H locs G => ?_)
    refine lv_goto (tgt := 21) hx hb dX5_come_13 (by decide) ?_
    obtain ⟨rfl, rfl, rfl⟩ := inj3 hf
    exact ret_i C0 G dX5_come_21
theorem o5_come : okName yX5_come 1 := ⟨by decide, by decide, by decide +kernel⟩
set_option maxHeartbeats 4000000 in
set_option maxRecDepth 100000 in
theorem c5_come {X : XP} (hX : XT X) {l : Launch} {D : va_G} {cI cC : ClassId} {ad : Nat → Nat} {sz : Nat} {xs : Nat → Int32} {xkept : Nat → Int32} {xaside : Nat → Int32} {xisK : Int32} {xfound : Nat → Int32} {xgone : Int32} {xover : Nat → Int32} {xtape : Nat → Int32} {xtaped : Int32} {xtok : Int32} {xbeg : Int32} {xend : Int32} {xval : Int64} {xwid : Nat → Int32} {xsiz : Nat → Int32} {xcel : Nat → Int32} {xcar : Nat → Int32} {v1 : Int32} {r0 : Int32} {o_xs : Nat → Int32} {o_xfound : Nat → Int32} (hf : f5_come xs xfound v1 = some (r0, o_xs, o_xfound)) : Met l yX5_come (wU yX5_come cX5_come 2 (some .int)) ({ frames := 5, cells := 0, slots := 0, locals := 121 }) (va_Pc [.ref (ad 0), .int v1] (PreW X D (tyM cI cC) (wM cI cC ad xs xkept xaside xisK xfound xgone xover xtape xtaped xtok xbeg xend xval xwid xsiz xcel xcar) sz)) (QcI D (tyM cI cC) (wM cI cC ad o_xs xkept xaside xisK o_xfound xgone xover xtape xtaped xtok xbeg xend xval xwid xsiz xcel xcar) (va_A (wM cI cC ad xs xkept xaside xisK xfound xgone xover xtape xtaped xtok xbeg xend xval xwid xsiz xcel xcar) sz) r0) 0 0 (va_A (wM cI cC ad xs xkept xaside xisK xfound xgone xover xtape xtaped xtok xbeg xend xval xwid xsiz xcel xcar) sz) := by
  refine startW hX (own := RX5) (by decide) rfl (Nat.le_of_ble_eq_true rfl) (fun p e s m args below meth c ls C0 G hl => ?_)
  exact b5_come_0 C0 G hl hf
/-! 5_isDue -/
theorem dX5_isDue_0 : decode cX5_isDue 0 = .ok (.aload_n 0, 1) := by decide +kernel
theorem dX5_isDue_1 : decode cX5_isDue 1 = .ok (.getfield 9, 3) := by decide +kernel
theorem dX5_isDue_4 : decode cX5_isDue 4 = .ok (.iconst 0, 1) := by decide +kernel
theorem dX5_isDue_5 : decode cX5_isDue 5 = .ok (.iaload, 1) := by decide +kernel
theorem dX5_isDue_6 : decode cX5_isDue 6 = .ok (.aload_n 0, 1) := by decide +kernel
theorem dX5_isDue_7 : decode cX5_isDue 7 = .ok (.iload_n 1, 1) := by decide +kernel
theorem dX5_isDue_8 : decode cX5_isDue 8 = .ok (.iconst 4, 1) := by decide +kernel
theorem dX5_isDue_9 : decode cX5_isDue 9 = .ok (.invokevirtual 55, 3) := by decide +kernel
theorem dX5_isDue_12 : decode cX5_isDue 12 = .ok (.irem, 1) := by decide +kernel
theorem dX5_isDue_13 : decode cX5_isDue 13 = .ok (.ifCond .ne 7, 3) := by decide +kernel
theorem dX5_isDue_16 : decode cX5_isDue 16 = .ok (.iconst 1, 1) := by decide +kernel
theorem dX5_isDue_17 : decode cX5_isDue 17 = .ok (.goto 4, 3) := by decide +kernel
theorem dX5_isDue_20 : decode cX5_isDue 20 = .ok (.iconst 0, 1) := by decide +kernel
theorem dX5_isDue_21 : decode cX5_isDue 21 = .ok (.ireturn, 1) := by decide +kernel
def f5_isDue (xs : Nat → Int32) (v1 : Int32) : Option (Int32) :=
  ob1 (f5_get xs v1 (4 : Int32)) (fun r1 =>
  gd (nz r1) (
  if ((xs 0) - (xs 0) / r1 * r1) = (0 : Int32) then (
    some (1 : Int32))
  else (
    some (0 : Int32))))
set_option maxHeartbeats 4000000 in
set_option maxRecDepth 100000 in
theorem b5_isDue_0 {X : XP} {p : Program} {l : Launch} {e : Env} {s : State} {m : MethodId} {args : Array Value} {below : List Frame} {meth : Method} {c : Code} {D : va_G} {cI cC : ClassId} {ad : Nat → Nat} {A : Nat → Prop} {xs : Nat → Int32} {xkept : Nat → Int32} {xaside : Nat → Int32} {xisK : Int32} {xfound : Nat → Int32} {xgone : Int32} {xover : Nat → Int32} {xtape : Nat → Int32} {xtaped : Int32} {xtok : Int32} {xbeg : Int32} {xend : Int32} {xval : Int64} {xwid : Nat → Int32} {xsiz : Nat → Int32} {xcel : Nat → Int32} {xcar : Nat → Int32} {r0 : Int32} (C0 : CX X p s m args meth c cX5_isDue 2 (some .boolean) RX5 A) : ∀ {v1 : Int32} {H : Heap} {locs : List Loc} {ls : Array Slot}, GX X D (tyM cI cC) A s (wM cI cC ad xs xkept xaside xisK xfound xgone xover xtape xtaped xtok xbeg xend xval xwid xsiz xcel xcar) H locs → lv_has ls 2 [(0, .ref (ad 0)), (1, .int v1)] → f5_isDue xs v1 = some r0 → W p l e ({ frames := 1, cells := 0, slots := 0, locals := 22 }) s m args below meth c H locs 0 0 (MQ below (QcI D (tyM cI cC) (wM cI cC ad xs xkept xaside xisK xfound xgone xover xtape xtaped xtok xbeg xend xval xwid xsiz xcel xcar) A r0) args s 0 0 A) (F0 m 0 ls []) := by
  have hx := C0.1
  have hb := C0.2.1
  have hown := C0.2.2.2.2.1
  have hts := C0.2.2.2.2.2.1
  have hX := C0.2.2.2.2.2.2.2.2
  intro v1 H locs ls G hl hf
  unfold f5_isDue at hf
  refine lv_aload_n hx hb dX5_isDue_0 rfl (lv_at hl 0 rfl) ?_
  refine s_get (C := RX5) (T := TX5) C0 G i_X5 0 0 rfl rfl (by decide) q713 rfl dX5_isDue_1 ?_
  refine lv_iconst (v := (0 : Int32)) hx hb dX5_isDue_4 (by decide) ?_
  refine s_iald (k := 0) C0 G 1 0 rfl rfl (vin (by decide)) (by decide) dX5_isDue_5 ?_
  refine lv_aload_n hx hb dX5_isDue_6 rfl (lv_at hl 0 rfl) ?_
  refine lv_iload_n hx hb dX5_isDue_7 rfl (lv_at hl 1 rfl) ?_
  refine lv_iconst (v := (4 : Int32)) hx hb dX5_isDue_8 (by decide) ?_
  obtain ⟨r1, hc2, hf⟩ := ob1_s hf
  refine go_i C0 G (runV_of (n := 2) (q0 := 0) (As := [.int v1, .int (4 : Int32)]) (rest := [.int (xs 0)]) C0 G (c5_get hX hc2) q801 q54 q798 q800 q11 o5_get ⟨rfl, rfl⟩ ⟨Nat.le_of_ble_eq_true rfl, Nat.le_of_ble_eq_true rfl⟩ rfl rfl rfl hl.1 rfl (Nat.le_of_ble_eq_true rfl) dX5_isDue_9) (fun H locs G => ?_)
  obtain ⟨hz3, hf⟩ := gd_s hf
  refine lv_irem hx hb dX5_isDue_12 (nz_ne hz3) ?_
  refine lv_if_ne (tgt := 20) hx hb dX5_isDue_13 (by decide) (fun hc4 => ?_) (fun hc4 => ?_)
  · have hf := itn hc4 hf
    refine lv_iconst (v := (0 : Int32)) hx hb dX5_isDue_20 (by decide) ?_
    obtain rfl := inj1 hf
    exact ret_z C0 G rfl dX5_isDue_21
  · have hf := itp hc4 hf
    refine lv_iconst (v := (1 : Int32)) hx hb dX5_isDue_16 (by decide) ?_
    refine lv_goto (tgt := 21) hx hb dX5_isDue_17 (by decide) ?_
    obtain rfl := inj1 hf
    exact ret_z C0 G rfl dX5_isDue_21
theorem o5_isDue : okName yX5_isDue 1 := ⟨by decide, by decide, by decide +kernel⟩
set_option maxHeartbeats 4000000 in
set_option maxRecDepth 100000 in
theorem c5_isDue {X : XP} (hX : XT X) {l : Launch} {D : va_G} {cI cC : ClassId} {ad : Nat → Nat} {sz : Nat} {xs : Nat → Int32} {xkept : Nat → Int32} {xaside : Nat → Int32} {xisK : Int32} {xfound : Nat → Int32} {xgone : Int32} {xover : Nat → Int32} {xtape : Nat → Int32} {xtaped : Int32} {xtok : Int32} {xbeg : Int32} {xend : Int32} {xval : Int64} {xwid : Nat → Int32} {xsiz : Nat → Int32} {xcel : Nat → Int32} {xcar : Nat → Int32} {v1 : Int32} {r0 : Int32} (hf : f5_isDue xs v1 = some r0) : Met l yX5_isDue (wU yX5_isDue cX5_isDue 2 (some .boolean)) ({ frames := 1, cells := 0, slots := 0, locals := 22 }) (va_Pc [.ref (ad 0), .int v1] (PreW X D (tyM cI cC) (wM cI cC ad xs xkept xaside xisK xfound xgone xover xtape xtaped xtok xbeg xend xval xwid xsiz xcel xcar) sz)) (QcI D (tyM cI cC) (wM cI cC ad xs xkept xaside xisK xfound xgone xover xtape xtaped xtok xbeg xend xval xwid xsiz xcel xcar) (va_A (wM cI cC ad xs xkept xaside xisK xfound xgone xover xtape xtaped xtok xbeg xend xval xwid xsiz xcel xcar) sz) r0) 0 0 (va_A (wM cI cC ad xs xkept xaside xisK xfound xgone xover xtape xtaped xtok xbeg xend xval xwid xsiz xcel xcar) sz) := by
  refine startW hX (own := RX5) (by decide) rfl (Nat.le_of_ble_eq_true rfl) (fun p e s m args below meth c ls C0 G hl => ?_)
  exact b5_isDue_0 C0 G hl hf
/-! 5_slides -/
theorem dX5_slides_0 : decode cX5_slides 0 = .ok (.iconst 0, 1) := by decide +kernel
theorem dX5_slides_1 : decode cX5_slides 1 = .ok (.istore_n 2, 1) := by decide +kernel
theorem dX5_slides_2 : decode cX5_slides 2 = .ok (.iload_n 2, 1) := by decide +kernel
theorem dX5_slides_3 : decode cX5_slides 3 = .ok (.bipush 16, 2) := by decide +kernel
theorem dX5_slides_5 : decode cX5_slides 5 = .ok (.if_icmp .ge 61, 3) := by decide +kernel
theorem dX5_slides_8 : decode cX5_slides 8 = .ok (.aload_n 0, 1) := by decide +kernel
theorem dX5_slides_9 : decode cX5_slides 9 = .ok (.getfield 22, 3) := by decide +kernel
theorem dX5_slides_12 : decode cX5_slides 12 = .ok (.iload_n 2, 1) := by decide +kernel
theorem dX5_slides_13 : decode cX5_slides 13 = .ok (.iload_n 2, 1) := by decide +kernel
theorem dX5_slides_14 : decode cX5_slides 14 = .ok (.iload_n 1, 1) := by decide +kernel
theorem dX5_slides_15 : decode cX5_slides 15 = .ok (.iadd, 1) := by decide +kernel
theorem dX5_slides_16 : decode cX5_slides 16 = .ok (.invokestatic 59, 3) := by decide +kernel
theorem dX5_slides_19 : decode cX5_slides 19 = .ok (.ifCond .eq 39, 3) := by decide +kernel
theorem dX5_slides_22 : decode cX5_slides 22 = .ok (.aload_n 0, 1) := by decide +kernel
theorem dX5_slides_23 : decode cX5_slides 23 = .ok (.getfield 9, 3) := by decide +kernel
theorem dX5_slides_26 : decode cX5_slides 26 = .ok (.bipush 6, 2) := by decide +kernel
theorem dX5_slides_28 : decode cX5_slides 28 = .ok (.iload_n 2, 1) := by decide +kernel
theorem dX5_slides_29 : decode cX5_slides 29 = .ok (.iadd, 1) := by decide +kernel
theorem dX5_slides_30 : decode cX5_slides 30 = .ok (.iaload, 1) := by decide +kernel
theorem dX5_slides_31 : decode cX5_slides 31 = .ok (.aload_n 0, 1) := by decide +kernel
theorem dX5_slides_32 : decode cX5_slides 32 = .ok (.getfield 9, 3) := by decide +kernel
theorem dX5_slides_35 : decode cX5_slides 35 = .ok (.bipush 6, 2) := by decide +kernel
theorem dX5_slides_37 : decode cX5_slides 37 = .ok (.iload_n 2, 1) := by decide +kernel
theorem dX5_slides_38 : decode cX5_slides 38 = .ok (.iadd, 1) := by decide +kernel
theorem dX5_slides_39 : decode cX5_slides 39 = .ok (.iload_n 1, 1) := by decide +kernel
theorem dX5_slides_40 : decode cX5_slides 40 = .ok (.iadd, 1) := by decide +kernel
theorem dX5_slides_41 : decode cX5_slides 41 = .ok (.iaload, 1) := by decide +kernel
theorem dX5_slides_42 : decode cX5_slides 42 = .ok (.aload_n 0, 1) := by decide +kernel
theorem dX5_slides_43 : decode cX5_slides 43 = .ok (.getfield 9, 3) := by decide +kernel
theorem dX5_slides_46 : decode cX5_slides 46 = .ok (.iconst 5, 1) := by decide +kernel
theorem dX5_slides_47 : decode cX5_slides 47 = .ok (.iaload, 1) := by decide +kernel
theorem dX5_slides_48 : decode cX5_slides 48 = .ok (.iadd, 1) := by decide +kernel
theorem dX5_slides_49 : decode cX5_slides 49 = .ok (.iconst 2, 1) := by decide +kernel
theorem dX5_slides_50 : decode cX5_slides 50 = .ok (.iadd, 1) := by decide +kernel
theorem dX5_slides_51 : decode cX5_slides 51 = .ok (.if_icmp .le 7, 3) := by decide +kernel
theorem dX5_slides_54 : decode cX5_slides 54 = .ok (.iconst 1, 1) := by decide +kernel
theorem dX5_slides_55 : decode cX5_slides 55 = .ok (.goto 4, 3) := by decide +kernel
theorem dX5_slides_58 : decode cX5_slides 58 = .ok (.iconst 0, 1) := by decide +kernel
theorem dX5_slides_59 : decode cX5_slides 59 = .ok (.iastore, 1) := by decide +kernel
theorem dX5_slides_60 : decode cX5_slides 60 = .ok (.iinc 2 1, 3) := by decide +kernel
theorem dX5_slides_63 : decode cX5_slides 63 = .ok (.goto (-61), 3) := by decide +kernel
theorem dX5_slides_66 : decode cX5_slides 66 = .ok (.iconst 0, 1) := by decide +kernel
theorem dX5_slides_67 : decode cX5_slides 67 = .ok (.istore_n 2, 1) := by decide +kernel
theorem dX5_slides_68 : decode cX5_slides 68 = .ok (.iload_n 2, 1) := by decide +kernel
theorem dX5_slides_69 : decode cX5_slides 69 = .ok (.bipush 16, 2) := by decide +kernel
theorem dX5_slides_71 : decode cX5_slides 71 = .ok (.if_icmp .ge 47, 3) := by decide +kernel
theorem dX5_slides_74 : decode cX5_slides 74 = .ok (.aload_n 0, 1) := by decide +kernel
theorem dX5_slides_75 : decode cX5_slides 75 = .ok (.getfield 22, 3) := by decide +kernel
theorem dX5_slides_78 : decode cX5_slides 78 = .ok (.iload_n 2, 1) := by decide +kernel
theorem dX5_slides_79 : decode cX5_slides 79 = .ok (.iaload, 1) := by decide +kernel
theorem dX5_slides_80 : decode cX5_slides 80 = .ok (.iconst 1, 1) := by decide +kernel
theorem dX5_slides_81 : decode cX5_slides 81 = .ok (.if_icmp .ne 31, 3) := by decide +kernel
theorem dX5_slides_84 : decode cX5_slides 84 = .ok (.aload_n 0, 1) := by decide +kernel
theorem dX5_slides_85 : decode cX5_slides 85 = .ok (.getfield 9, 3) := by decide +kernel
theorem dX5_slides_88 : decode cX5_slides 88 = .ok (.bipush 6, 2) := by decide +kernel
theorem dX5_slides_90 : decode cX5_slides 90 = .ok (.iload_n 2, 1) := by decide +kernel
theorem dX5_slides_91 : decode cX5_slides 91 = .ok (.iadd, 1) := by decide +kernel
theorem dX5_slides_92 : decode cX5_slides 92 = .ok (.dup2, 1) := by decide +kernel
theorem dX5_slides_93 : decode cX5_slides 93 = .ok (.iaload, 1) := by decide +kernel
theorem dX5_slides_94 : decode cX5_slides 94 = .ok (.iconst 1, 1) := by decide +kernel
theorem dX5_slides_95 : decode cX5_slides 95 = .ok (.isub, 1) := by decide +kernel
theorem dX5_slides_96 : decode cX5_slides 96 = .ok (.iastore, 1) := by decide +kernel
theorem dX5_slides_97 : decode cX5_slides 97 = .ok (.aload_n 0, 1) := by decide +kernel
theorem dX5_slides_98 : decode cX5_slides 98 = .ok (.getfield 9, 3) := by decide +kernel
theorem dX5_slides_101 : decode cX5_slides 101 = .ok (.bipush 6, 2) := by decide +kernel
theorem dX5_slides_103 : decode cX5_slides 103 = .ok (.iload_n 2, 1) := by decide +kernel
theorem dX5_slides_104 : decode cX5_slides 104 = .ok (.iadd, 1) := by decide +kernel
theorem dX5_slides_105 : decode cX5_slides 105 = .ok (.iload_n 1, 1) := by decide +kernel
theorem dX5_slides_106 : decode cX5_slides 106 = .ok (.iadd, 1) := by decide +kernel
theorem dX5_slides_107 : decode cX5_slides 107 = .ok (.dup2, 1) := by decide +kernel
theorem dX5_slides_108 : decode cX5_slides 108 = .ok (.iaload, 1) := by decide +kernel
theorem dX5_slides_109 : decode cX5_slides 109 = .ok (.iconst 1, 1) := by decide +kernel
theorem dX5_slides_110 : decode cX5_slides 110 = .ok (.iadd, 1) := by decide +kernel
theorem dX5_slides_111 : decode cX5_slides 111 = .ok (.iastore, 1) := by decide +kernel
theorem dX5_slides_112 : decode cX5_slides 112 = .ok (.iinc 2 1, 3) := by decide +kernel
theorem dX5_slides_115 : decode cX5_slides 115 = .ok (.goto (-47), 3) := by decide +kernel
theorem dX5_slides_118 : decode cX5_slides 118 = .ok (.return_, 1) := by decide +kernel
def j5_slides_112 (k68 : (Nat → Int32) → (Nat → Int32) → Int32 → Int32 → Option ((Nat → Int32) × (Nat → Int32))) (xs : Nat → Int32) (xover : Nat → Int32) (v1 : Int32) (v2 : Int32) : Option ((Nat → Int32) × (Nat → Int32)) :=
  k68 xs xover v1 (v2 + (1 : Int32))
def l5_slides_68  : Nat → (Nat → Int32) → (Nat → Int32) → Int32 → Int32 → Option ((Nat → Int32) × (Nat → Int32))
  | 0, _, _, _, _ => none
  | n + 1, xs, xover, v1, v2 =>
    if (16 : Int32) ≤ v2 then (
      some (xs, xover))
    else (
      gd (inb v2 16) (
      if (xover v2.toNatClampNeg) = (1 : Int32) then (
        gd (inb ((6 : Int32) + v2) 88) (
        gd (inb ((6 : Int32) + v2) 88) (
        gd (inb (((6 : Int32) + v2) + v1) 88) (
        gd (inb (((6 : Int32) + v2) + v1) 88) (
        j5_slides_112 (l5_slides_68 n) (upd (upd xs (((6 : Int32) + v2).toNatClampNeg) ((xs (((6 : Int32) + v2).toNatClampNeg)) - (1 : Int32))) ((((6 : Int32) + v2) + v1).toNatClampNeg) (((upd xs (((6 : Int32) + v2).toNatClampNeg) ((xs (((6 : Int32) + v2).toNatClampNeg)) - (1 : Int32))) ((((6 : Int32) + v2) + v1).toNatClampNeg)) + (1 : Int32))) xover v1 v2)))))
      else (
        j5_slides_112 (l5_slides_68 n) xs xover v1 v2)))
def j5_slides_59 (k2 : (Nat → Int32) → (Nat → Int32) → Int32 → Int32 → Option ((Nat → Int32) × (Nat → Int32))) (xs : Nat → Int32) (xover : Nat → Int32) (v1 : Int32) (v2 : Int32) (t1 : Int32) (t2 : Int32) : Option ((Nat → Int32) × (Nat → Int32)) :=
  gd (inb t1 16) (
  k2 xs (upd xover t1.toNatClampNeg t2) v1 (v2 + (1 : Int32)))
def j5_slides_58 (k2 : (Nat → Int32) → (Nat → Int32) → Int32 → Int32 → Option ((Nat → Int32) × (Nat → Int32))) (xs : Nat → Int32) (xover : Nat → Int32) (v1 : Int32) (v2 : Int32) (t1 : Int32) : Option ((Nat → Int32) × (Nat → Int32)) :=
  j5_slides_59 k2 xs xover v1 v2 t1 (0 : Int32)
def l5_slides_2  : Nat → (Nat → Int32) → (Nat → Int32) → Int32 → Int32 → Option ((Nat → Int32) × (Nat → Int32))
  | 0, _, _, _, _ => none
  | n + 1, xs, xover, v1, v2 =>
    if (16 : Int32) ≤ v2 then (
      l5_slides_68 1000 xs xover v1 (0 : Int32))
    else (
      if (f5_isCell (v2 + v1)) = (0 : Int32) then (
        j5_slides_58 (l5_slides_2 n) xs xover v1 v2 v2)
      else (
        gd (inb ((6 : Int32) + v2) 88) (
        gd (inb (((6 : Int32) + v2) + v1) 88) (
        if (xs (((6 : Int32) + v2).toNatClampNeg)) ≤ (((xs ((((6 : Int32) + v2) + v1).toNatClampNeg)) + (xs 5)) + (2 : Int32)) then (
          j5_slides_58 (l5_slides_2 n) xs xover v1 v2 v2)
        else (
          j5_slides_59 (l5_slides_2 n) xs xover v1 v2 v2 (1 : Int32))))))
def f5_slides (xs : Nat → Int32) (xover : Nat → Int32) (v1 : Int32) : Option ((Nat → Int32) × (Nat → Int32)) :=
  l5_slides_2 1000 xs xover v1 (0 : Int32)
set_option maxHeartbeats 4000000 in
set_option maxRecDepth 100000 in
theorem b5_slides_112 {X : XP} {p : Program} {l : Launch} {e : Env} {s : State} {m : MethodId} {args : Array Value} {below : List Frame} {meth : Method} {c : Code} {D : va_G} {cI cC : ClassId} {ad : Nat → Nat} {A : Nat → Prop} {xkept : Nat → Int32} {xaside : Nat → Int32} {xisK : Int32} {xfound : Nat → Int32} {xgone : Int32} {xtape : Nat → Int32} {xtaped : Int32} {xtok : Int32} {xbeg : Int32} {xend : Int32} {xval : Int64} {xwid : Nat → Int32} {xsiz : Nat → Int32} {xcel : Nat → Int32} {xcar : Nat → Int32} {o_xs : Nat → Int32} {o_xover : Nat → Int32} (C0 : CX X p s m args meth c cX5_slides 3 none RX5 A) {k68 : (Nat → Int32) → (Nat → Int32) → Int32 → Int32 → Option ((Nat → Int32) × (Nat → Int32))} (hk68 : ∀ {xs : Nat → Int32} {xover : Nat → Int32} {v1 : Int32} {v2 : Int32} {H : Heap} {locs : List Loc} {ls : Array Slot}, GX X D (tyM cI cC) A s (wM cI cC ad xs xkept xaside xisK xfound xgone xover xtape xtaped xtok xbeg xend xval xwid xsiz xcel xcar) H locs → lv_has ls 3 [(0, .ref (ad 0)), (1, .int v1), (2, .int v2)] → k68 xs xover v1 v2 = some (o_xs, o_xover) → W p l e ({ frames := 2, cells := 0, slots := 0, locals := 42 }) s m args below meth c H locs 0 0 (MQ below (QcV D (tyM cI cC) (wM cI cC ad o_xs xkept xaside xisK xfound xgone o_xover xtape xtaped xtok xbeg xend xval xwid xsiz xcel xcar) A) args s 0 0 A) (F0 m 68 ls [])) : ∀ {xs : Nat → Int32} {xover : Nat → Int32} {v1 : Int32} {v2 : Int32} {H : Heap} {locs : List Loc} {ls : Array Slot}, GX X D (tyM cI cC) A s (wM cI cC ad xs xkept xaside xisK xfound xgone xover xtape xtaped xtok xbeg xend xval xwid xsiz xcel xcar) H locs → lv_has ls 3 [(0, .ref (ad 0)), (1, .int v1), (2, .int v2)] → j5_slides_112 k68 xs xover v1 v2 = some (o_xs, o_xover) → W p l e ({ frames := 2, cells := 0, slots := 0, locals := 42 }) s m args below meth c H locs 0 0 (MQ below (QcV D (tyM cI cC) (wM cI cC ad o_xs xkept xaside xisK xfound xgone o_xover xtape xtaped xtok xbeg xend xval xwid xsiz xcel xcar) A) args s 0 0 A) (F0 m 112 ls []) := by
  have hx := C0.1
  have hb := C0.2.1
  have hown := C0.2.2.2.2.1
  have hts := C0.2.2.2.2.2.1
  have hX := C0.2.2.2.2.2.2.2.2
  intro xs xover v1 v2 H locs ls G hl hf
  unfold j5_slides_112 at hf
  refine lv_iinc (v := (v2 + (1 : Int32))) (lv' := [(2, .int (v2 + (1 : Int32))), (0, .ref (ad 0)), (1, .int v1)]) hx hb dX5_slides_112 hl (k := 2) rfl rfl (by decide) rfl (fun ls hl => ?_)
  refine lv_goto (tgt := 68) hx hb dX5_slides_115 (by decide) ?_
  exact hk68 G (lv_sub hl [1, 2, 0] rfl) hf
set_option maxHeartbeats 4000000 in
set_option maxRecDepth 100000 in
theorem b5_slides_68 {X : XP} {p : Program} {l : Launch} {e : Env} {s : State} {m : MethodId} {args : Array Value} {below : List Frame} {meth : Method} {c : Code} {D : va_G} {cI cC : ClassId} {ad : Nat → Nat} {A : Nat → Prop} {xkept : Nat → Int32} {xaside : Nat → Int32} {xisK : Int32} {xfound : Nat → Int32} {xgone : Int32} {xtape : Nat → Int32} {xtaped : Int32} {xtok : Int32} {xbeg : Int32} {xend : Int32} {xval : Int64} {xwid : Nat → Int32} {xsiz : Nat → Int32} {xcel : Nat → Int32} {xcar : Nat → Int32} {o_xs : Nat → Int32} {o_xover : Nat → Int32} (C0 : CX X p s m args meth c cX5_slides 3 none RX5 A) : ∀ (n : Nat) {xs : Nat → Int32} {xover : Nat → Int32} {v1 : Int32} {v2 : Int32} {H : Heap} {locs : List Loc} {ls : Array Slot}, GX X D (tyM cI cC) A s (wM cI cC ad xs xkept xaside xisK xfound xgone xover xtape xtaped xtok xbeg xend xval xwid xsiz xcel xcar) H locs → lv_has ls 3 [(0, .ref (ad 0)), (1, .int v1), (2, .int v2)] → l5_slides_68  n xs xover v1 v2 = some (o_xs, o_xover) → W p l e ({ frames := 2, cells := 0, slots := 0, locals := 42 }) s m args below meth c H locs 0 0 (MQ below (QcV D (tyM cI cC) (wM cI cC ad o_xs xkept xaside xisK xfound xgone o_xover xtape xtaped xtok xbeg xend xval xwid xsiz xcel xcar) A) args s 0 0 A) (F0 m 68 ls []) := by
  have hx := C0.1
  have hb := C0.2.1
  have hown := C0.2.2.2.2.1
  have hts := C0.2.2.2.2.2.1
  have hX := C0.2.2.2.2.2.2.2.2
  intro n
  induction n with
  | zero =>
    intro _ _ _ _ _ _ _ G hl hf
    cases hf
  | succ n ih =>
    intro xs xover v1 v2 H locs ls G hl hf
    rw [l5_slides_68] at hf
    refine lv_iload_n hx hb dX5_slides_68 rfl (lv_at hl 2 rfl) ?_
    refine lv_bipush (v := (16 : Int32)) hx hb dX5_slides_69 (by decide) ?_
    refine lv_icmp_ge (tgt := 118) hx hb dX5_slides_71 (by decide) (fun hc6 => ?_) (fun hc6 => ?_)
    · have hf := itp hc6 hf
      obtain ⟨rfl, rfl⟩ := inj2 hf
      exact ret_v C0 G dX5_slides_118
    · have hf := itn hc6 hf
      refine lv_aload_n hx hb dX5_slides_74 rfl (lv_at hl 0 rfl) ?_
      refine s_get (C := RX5) (T := TX5) C0 G i_X5 0 6 rfl rfl (by decide) q719 rfl dX5_slides_75 ?_
      refine lv_iload_n hx hb dX5_slides_78 rfl (lv_at hl 2 rfl) ?_
      obtain ⟨hi7, hf⟩ := gd_s hf
      refine s_iald (k := v2.toNatClampNeg) C0 G 5 0 rfl rfl (vin hi7) rfl dX5_slides_79 ?_
      refine lv_iconst (v := (1 : Int32)) hx hb dX5_slides_80 (by decide) ?_
      refine lv_icmp_ne (tgt := 112) hx hb dX5_slides_81 (by decide) (fun hc8 => ?_) (fun hc8 => ?_)
      · have hf := itn hc8 hf
        exact b5_slides_112 C0 ih G (lv_sub hl [0, 1, 2] rfl) hf
      · have hf := itp hc8 hf
        refine lv_aload_n hx hb dX5_slides_84 rfl (lv_at hl 0 rfl) ?_
        refine s_get (C := RX5) (T := TX5) C0 G i_X5 0 0 rfl rfl (by decide) q713 rfl dX5_slides_85 ?_
        refine lv_bipush (v := (6 : Int32)) hx hb dX5_slides_88 (by decide) ?_
        refine lv_iload_n hx hb dX5_slides_90 rfl (lv_at hl 2 rfl) ?_
        refine lv_iadd hx hb dX5_slides_91 ?_
        refine lv_dup2_11 hx hb dX5_slides_92 rfl rfl ?_
        obtain ⟨hi9, hf⟩ := gd_s hf
        refine s_iald (k := ((6 : Int32) + v2).toNatClampNeg) C0 G 1 0 rfl rfl (vin hi9) rfl dX5_slides_93 ?_
        refine lv_iconst (v := (1 : Int32)) hx hb dX5_slides_94 (by decide) ?_
        refine lv_isub hx hb dX5_slides_95 ?_
        obtain ⟨hi10, hf⟩ := gd_s hf
        refine s_iast (k := ((6 : Int32) + v2).toNatClampNeg) (w' := (wM cI cC ad (upd xs (((6 : Int32) + v2).toNatClampNeg) ((xs (((6 : Int32) + v2).toNatClampNeg)) - (1 : Int32))) xkept xaside xisK xfound xgone xover xtape xtaped xtok xbeg xend xval xwid xsiz xcel xcar)) C0 G 1 0 rfl rfl (vin hi10) rfl rfl dX5_slides_96 (fun H locs G => ?_)
        refine lv_aload_n hx hb dX5_slides_97 rfl (lv_at hl 0 rfl) ?_
        refine s_get (C := RX5) (T := TX5) C0 G i_X5 0 0 rfl rfl (by decide) q713 rfl dX5_slides_98 ?_
        refine lv_bipush (v := (6 : Int32)) hx hb dX5_slides_101 (by decide) ?_
        refine lv_iload_n hx hb dX5_slides_103 rfl (lv_at hl 2 rfl) ?_
        refine lv_iadd hx hb dX5_slides_104 ?_
        refine lv_iload_n hx hb dX5_slides_105 rfl (lv_at hl 1 rfl) ?_
        refine lv_iadd hx hb dX5_slides_106 ?_
        refine lv_dup2_11 hx hb dX5_slides_107 rfl rfl ?_
        obtain ⟨hi11, hf⟩ := gd_s hf
        refine s_iald (k := (((6 : Int32) + v2) + v1).toNatClampNeg) C0 G 1 0 rfl rfl (vin hi11) rfl dX5_slides_108 ?_
        refine lv_iconst (v := (1 : Int32)) hx hb dX5_slides_109 (by decide) ?_
        refine lv_iadd hx hb dX5_slides_110 ?_
        obtain ⟨hi12, hf⟩ := gd_s hf
        refine s_iast (k := (((6 : Int32) + v2) + v1).toNatClampNeg) (w' := (wM cI cC ad (upd (upd xs (((6 : Int32) + v2).toNatClampNeg) ((xs (((6 : Int32) + v2).toNatClampNeg)) - (1 : Int32))) ((((6 : Int32) + v2) + v1).toNatClampNeg) (((upd xs (((6 : Int32) + v2).toNatClampNeg) ((xs (((6 : Int32) + v2).toNatClampNeg)) - (1 : Int32))) ((((6 : Int32) + v2) + v1).toNatClampNeg)) + (1 : Int32))) xkept xaside xisK xfound xgone xover xtape xtaped xtok xbeg xend xval xwid xsiz xcel xcar)) C0 G 1 0 rfl rfl (vin hi12) rfl rfl dX5_slides_111 (fun H locs G => ?_)
        exact b5_slides_112 C0 ih G (lv_sub hl [0, 1, 2] rfl) hf
set_option maxHeartbeats 4000000 in
set_option maxRecDepth 100000 in
theorem b5_slides_59 {X : XP} {p : Program} {l : Launch} {e : Env} {s : State} {m : MethodId} {args : Array Value} {below : List Frame} {meth : Method} {c : Code} {D : va_G} {cI cC : ClassId} {ad : Nat → Nat} {A : Nat → Prop} {xkept : Nat → Int32} {xaside : Nat → Int32} {xisK : Int32} {xfound : Nat → Int32} {xgone : Int32} {xtape : Nat → Int32} {xtaped : Int32} {xtok : Int32} {xbeg : Int32} {xend : Int32} {xval : Int64} {xwid : Nat → Int32} {xsiz : Nat → Int32} {xcel : Nat → Int32} {xcar : Nat → Int32} {o_xs : Nat → Int32} {o_xover : Nat → Int32} (C0 : CX X p s m args meth c cX5_slides 3 none RX5 A) {k2 : (Nat → Int32) → (Nat → Int32) → Int32 → Int32 → Option ((Nat → Int32) × (Nat → Int32))} (hk2 : ∀ {xs : Nat → Int32} {xover : Nat → Int32} {v1 : Int32} {v2 : Int32} {H : Heap} {locs : List Loc} {ls : Array Slot}, GX X D (tyM cI cC) A s (wM cI cC ad xs xkept xaside xisK xfound xgone xover xtape xtaped xtok xbeg xend xval xwid xsiz xcel xcar) H locs → lv_has ls 3 [(0, .ref (ad 0)), (1, .int v1), (2, .int v2)] → k2 xs xover v1 v2 = some (o_xs, o_xover) → W p l e ({ frames := 2, cells := 0, slots := 0, locals := 42 }) s m args below meth c H locs 0 0 (MQ below (QcV D (tyM cI cC) (wM cI cC ad o_xs xkept xaside xisK xfound xgone o_xover xtape xtaped xtok xbeg xend xval xwid xsiz xcel xcar) A) args s 0 0 A) (F0 m 2 ls [])) : ∀ {xs : Nat → Int32} {xover : Nat → Int32} {v1 : Int32} {v2 : Int32} {t1 : Int32} {t2 : Int32} {H : Heap} {locs : List Loc} {ls : Array Slot}, GX X D (tyM cI cC) A s (wM cI cC ad xs xkept xaside xisK xfound xgone xover xtape xtaped xtok xbeg xend xval xwid xsiz xcel xcar) H locs → lv_has ls 3 [(0, .ref (ad 0)), (1, .int v1), (2, .int v2)] → j5_slides_59 k2 xs xover v1 v2 t1 t2 = some (o_xs, o_xover) → W p l e ({ frames := 2, cells := 0, slots := 0, locals := 42 }) s m args below meth c H locs 0 0 (MQ below (QcV D (tyM cI cC) (wM cI cC ad o_xs xkept xaside xisK xfound xgone o_xover xtape xtaped xtok xbeg xend xval xwid xsiz xcel xcar) A) args s 0 0 A) (F0 m 59 ls [.int t2, .int t1, .ref (ad 5)]) := by
  have hx := C0.1
  have hb := C0.2.1
  have hown := C0.2.2.2.2.1
  have hts := C0.2.2.2.2.2.1
  have hX := C0.2.2.2.2.2.2.2.2
  intro xs xover v1 v2 t1 t2 H locs ls G hl hf
  unfold j5_slides_59 at hf
  obtain ⟨hi13, hf⟩ := gd_s hf
  refine s_iast (k := t1.toNatClampNeg) (w' := (wM cI cC ad xs xkept xaside xisK xfound xgone (upd xover t1.toNatClampNeg t2) xtape xtaped xtok xbeg xend xval xwid xsiz xcel xcar)) C0 G 5 0 rfl rfl (vin hi13) rfl rfl dX5_slides_59 (fun H locs G => ?_)
  refine lv_iinc (v := (v2 + (1 : Int32))) (lv' := [(2, .int (v2 + (1 : Int32))), (0, .ref (ad 0)), (1, .int v1)]) hx hb dX5_slides_60 hl (k := 2) rfl rfl (by decide) rfl (fun ls hl => ?_)
  refine lv_goto (tgt := 2) hx hb dX5_slides_63 (by decide) ?_
  exact hk2 G (lv_sub hl [1, 2, 0] rfl) hf
set_option maxHeartbeats 4000000 in
set_option maxRecDepth 100000 in
theorem b5_slides_58 {X : XP} {p : Program} {l : Launch} {e : Env} {s : State} {m : MethodId} {args : Array Value} {below : List Frame} {meth : Method} {c : Code} {D : va_G} {cI cC : ClassId} {ad : Nat → Nat} {A : Nat → Prop} {xkept : Nat → Int32} {xaside : Nat → Int32} {xisK : Int32} {xfound : Nat → Int32} {xgone : Int32} {xtape : Nat → Int32} {xtaped : Int32} {xtok : Int32} {xbeg : Int32} {xend : Int32} {xval : Int64} {xwid : Nat → Int32} {xsiz : Nat → Int32} {xcel : Nat → Int32} {xcar : Nat → Int32} {o_xs : Nat → Int32} {o_xover : Nat → Int32} (C0 : CX X p s m args meth c cX5_slides 3 none RX5 A) {k2 : (Nat → Int32) → (Nat → Int32) → Int32 → Int32 → Option ((Nat → Int32) × (Nat → Int32))} (hk2 : ∀ {xs : Nat → Int32} {xover : Nat → Int32} {v1 : Int32} {v2 : Int32} {H : Heap} {locs : List Loc} {ls : Array Slot}, GX X D (tyM cI cC) A s (wM cI cC ad xs xkept xaside xisK xfound xgone xover xtape xtaped xtok xbeg xend xval xwid xsiz xcel xcar) H locs → lv_has ls 3 [(0, .ref (ad 0)), (1, .int v1), (2, .int v2)] → k2 xs xover v1 v2 = some (o_xs, o_xover) → W p l e ({ frames := 2, cells := 0, slots := 0, locals := 42 }) s m args below meth c H locs 0 0 (MQ below (QcV D (tyM cI cC) (wM cI cC ad o_xs xkept xaside xisK xfound xgone o_xover xtape xtaped xtok xbeg xend xval xwid xsiz xcel xcar) A) args s 0 0 A) (F0 m 2 ls [])) : ∀ {xs : Nat → Int32} {xover : Nat → Int32} {v1 : Int32} {v2 : Int32} {t1 : Int32} {H : Heap} {locs : List Loc} {ls : Array Slot}, GX X D (tyM cI cC) A s (wM cI cC ad xs xkept xaside xisK xfound xgone xover xtape xtaped xtok xbeg xend xval xwid xsiz xcel xcar) H locs → lv_has ls 3 [(0, .ref (ad 0)), (1, .int v1), (2, .int v2)] → j5_slides_58 k2 xs xover v1 v2 t1 = some (o_xs, o_xover) → W p l e ({ frames := 2, cells := 0, slots := 0, locals := 42 }) s m args below meth c H locs 0 0 (MQ below (QcV D (tyM cI cC) (wM cI cC ad o_xs xkept xaside xisK xfound xgone o_xover xtape xtaped xtok xbeg xend xval xwid xsiz xcel xcar) A) args s 0 0 A) (F0 m 58 ls [.int t1, .ref (ad 5)]) := by
  have hx := C0.1
  have hb := C0.2.1
  have hown := C0.2.2.2.2.1
  have hts := C0.2.2.2.2.2.1
  have hX := C0.2.2.2.2.2.2.2.2
  intro xs xover v1 v2 t1 H locs ls G hl hf
  unfold j5_slides_58 at hf
  refine lv_iconst (v := (0 : Int32)) hx hb dX5_slides_58 (by decide) ?_
  exact b5_slides_59 C0 hk2 G (lv_sub hl [0, 1, 2] rfl) hf
set_option maxHeartbeats 4000000 in
set_option maxRecDepth 100000 in
theorem b5_slides_2 {X : XP} {p : Program} {l : Launch} {e : Env} {s : State} {m : MethodId} {args : Array Value} {below : List Frame} {meth : Method} {c : Code} {D : va_G} {cI cC : ClassId} {ad : Nat → Nat} {A : Nat → Prop} {xkept : Nat → Int32} {xaside : Nat → Int32} {xisK : Int32} {xfound : Nat → Int32} {xgone : Int32} {xtape : Nat → Int32} {xtaped : Int32} {xtok : Int32} {xbeg : Int32} {xend : Int32} {xval : Int64} {xwid : Nat → Int32} {xsiz : Nat → Int32} {xcel : Nat → Int32} {xcar : Nat → Int32} {o_xs : Nat → Int32} {o_xover : Nat → Int32} (C0 : CX X p s m args meth c cX5_slides 3 none RX5 A) : ∀ (n : Nat) {xs : Nat → Int32} {xover : Nat → Int32} {v1 : Int32} {v2 : Int32} {H : Heap} {locs : List Loc} {ls : Array Slot}, GX X D (tyM cI cC) A s (wM cI cC ad xs xkept xaside xisK xfound xgone xover xtape xtaped xtok xbeg xend xval xwid xsiz xcel xcar) H locs → lv_has ls 3 [(0, .ref (ad 0)), (1, .int v1), (2, .int v2)] → l5_slides_2  n xs xover v1 v2 = some (o_xs, o_xover) → W p l e ({ frames := 2, cells := 0, slots := 0, locals := 42 }) s m args below meth c H locs 0 0 (MQ below (QcV D (tyM cI cC) (wM cI cC ad o_xs xkept xaside xisK xfound xgone o_xover xtape xtaped xtok xbeg xend xval xwid xsiz xcel xcar) A) args s 0 0 A) (F0 m 2 ls []) := by
  have hx := C0.1
  have hb := C0.2.1
  have hown := C0.2.2.2.2.1
  have hts := C0.2.2.2.2.2.1
  have hX := C0.2.2.2.2.2.2.2.2
  intro n
  induction n with
  | zero =>
    intro _ _ _ _ _ _ _ G hl hf
    cases hf
  | succ n ih =>
    intro xs xover v1 v2 H locs ls G hl hf
    rw [l5_slides_2] at hf
    refine lv_iload_n hx hb dX5_slides_2 rfl (lv_at hl 2 rfl) ?_
    refine lv_bipush (v := (16 : Int32)) hx hb dX5_slides_3 (by decide) ?_
    refine lv_icmp_ge (tgt := 66) hx hb dX5_slides_5 (by decide) (fun hc1 => ?_) (fun hc1 => ?_)
    · have hf := itp hc1 hf
      refine lv_iconst (v := (0 : Int32)) hx hb dX5_slides_66 (by decide) ?_
      refine lv_istore_n (lv' := [(2, .int (0 : Int32)), (0, .ref (ad 0)), (1, .int v1)]) hx hb dX5_slides_67 rfl hl (by decide) rfl (fun ls hl => ?_)
      exact b5_slides_68 C0  1000 G (lv_sub hl [1, 2, 0] rfl) hf
    · have hf := itn hc1 hf
      refine lv_aload_n hx hb dX5_slides_8 rfl (lv_at hl 0 rfl) ?_
      refine s_get (C := RX5) (T := TX5) C0 G i_X5 0 6 rfl rfl (by decide) q719 rfl dX5_slides_9 ?_
      refine lv_iload_n hx hb dX5_slides_12 rfl (lv_at hl 2 rfl) ?_
      refine lv_iload_n hx hb dX5_slides_13 rfl (lv_at hl 2 rfl) ?_
      refine lv_iload_n hx hb dX5_slides_14 rfl (lv_at hl 1 rfl) ?_
      refine lv_iadd hx hb dX5_slides_15 ?_
      refine go_i C0 G (runS_of (n := 1) (As := [.int (v2 + v1)]) (rest := [.int v2, .ref (ad 5)]) C0 G (c5_isCell hX rfl) q781 q54 q779 q780 o5_isCell ⟨rfl, rfl⟩ ⟨Nat.le_of_ble_eq_true rfl, Nat.le_of_ble_eq_true rfl⟩ rfl hl.1 rfl (Nat.le_of_ble_eq_true rfl) dX5_slides_16) (fun H locs G => ?_)
      refine lv_if_eq (tgt := 58) hx hb dX5_slides_19 (by decide) (fun hc2 => ?_) (fun hc2 => ?_)
      · have hf := itp hc2 hf
        exact b5_slides_58 C0 ih G (lv_sub hl [0, 1, 2] rfl) hf
      · have hf := itn hc2 hf
        refine lv_aload_n hx hb dX5_slides_22 rfl (lv_at hl 0 rfl) ?_
        refine s_get (C := RX5) (T := TX5) C0 G i_X5 0 0 rfl rfl (by decide) q713 rfl dX5_slides_23 ?_
        refine lv_bipush (v := (6 : Int32)) hx hb dX5_slides_26 (by decide) ?_
        refine lv_iload_n hx hb dX5_slides_28 rfl (lv_at hl 2 rfl) ?_
        refine lv_iadd hx hb dX5_slides_29 ?_
        obtain ⟨hi3, hf⟩ := gd_s hf
        refine s_iald (k := ((6 : Int32) + v2).toNatClampNeg) C0 G 1 0 rfl rfl (vin hi3) rfl dX5_slides_30 ?_
        refine lv_aload_n hx hb dX5_slides_31 rfl (lv_at hl 0 rfl) ?_
        refine s_get (C := RX5) (T := TX5) C0 G i_X5 0 0 rfl rfl (by decide) q713 rfl dX5_slides_32 ?_
        refine lv_bipush (v := (6 : Int32)) hx hb dX5_slides_35 (by decide) ?_
        refine lv_iload_n hx hb dX5_slides_37 rfl (lv_at hl 2 rfl) ?_
        refine lv_iadd hx hb dX5_slides_38 ?_
        refine lv_iload_n hx hb dX5_slides_39 rfl (lv_at hl 1 rfl) ?_
        refine lv_iadd hx hb dX5_slides_40 ?_
        obtain ⟨hi4, hf⟩ := gd_s hf
        refine s_iald (k := (((6 : Int32) + v2) + v1).toNatClampNeg) C0 G 1 0 rfl rfl (vin hi4) rfl dX5_slides_41 ?_
        refine lv_aload_n hx hb dX5_slides_42 rfl (lv_at hl 0 rfl) ?_
        refine s_get (C := RX5) (T := TX5) C0 G i_X5 0 0 rfl rfl (by decide) q713 rfl dX5_slides_43 ?_
        refine lv_iconst (v := (5 : Int32)) hx hb dX5_slides_46 (by decide) ?_
        refine s_iald (k := 5) C0 G 1 0 rfl rfl (vin (by decide)) (by decide) dX5_slides_47 ?_
        refine lv_iadd hx hb dX5_slides_48 ?_
        refine lv_iconst (v := (2 : Int32)) hx hb dX5_slides_49 (by decide) ?_
        refine lv_iadd hx hb dX5_slides_50 ?_
        refine lv_icmp_le (tgt := 58) hx hb dX5_slides_51 (by decide) (fun hc5 => ?_) (fun hc5 => ?_)
        · have hf := itp hc5 hf
          exact b5_slides_58 C0 ih G (lv_sub hl [0, 1, 2] rfl) hf
        · have hf := itn hc5 hf
          refine lv_iconst (v := (1 : Int32)) hx hb dX5_slides_54 (by decide) ?_
          refine lv_goto (tgt := 59) hx hb dX5_slides_55 (by decide) ?_
          exact b5_slides_59 C0 ih G (lv_sub hl [0, 1, 2] rfl) hf
set_option maxHeartbeats 4000000 in
set_option maxRecDepth 100000 in
theorem b5_slides_0 {X : XP} {p : Program} {l : Launch} {e : Env} {s : State} {m : MethodId} {args : Array Value} {below : List Frame} {meth : Method} {c : Code} {D : va_G} {cI cC : ClassId} {ad : Nat → Nat} {A : Nat → Prop} {xkept : Nat → Int32} {xaside : Nat → Int32} {xisK : Int32} {xfound : Nat → Int32} {xgone : Int32} {xtape : Nat → Int32} {xtaped : Int32} {xtok : Int32} {xbeg : Int32} {xend : Int32} {xval : Int64} {xwid : Nat → Int32} {xsiz : Nat → Int32} {xcel : Nat → Int32} {xcar : Nat → Int32} {o_xs : Nat → Int32} {o_xover : Nat → Int32} (C0 : CX X p s m args meth c cX5_slides 3 none RX5 A) : ∀ {xs : Nat → Int32} {xover : Nat → Int32} {v1 : Int32} {H : Heap} {locs : List Loc} {ls : Array Slot}, GX X D (tyM cI cC) A s (wM cI cC ad xs xkept xaside xisK xfound xgone xover xtape xtaped xtok xbeg xend xval xwid xsiz xcel xcar) H locs → lv_has ls 3 [(0, .ref (ad 0)), (1, .int v1)] → f5_slides xs xover v1 = some (o_xs, o_xover) → W p l e ({ frames := 2, cells := 0, slots := 0, locals := 42 }) s m args below meth c H locs 0 0 (MQ below (QcV D (tyM cI cC) (wM cI cC ad o_xs xkept xaside xisK xfound xgone o_xover xtape xtaped xtok xbeg xend xval xwid xsiz xcel xcar) A) args s 0 0 A) (F0 m 0 ls []) := by
  have hx := C0.1
  have hb := C0.2.1
  have hown := C0.2.2.2.2.1
  have hts := C0.2.2.2.2.2.1
  have hX := C0.2.2.2.2.2.2.2.2
  intro xs xover v1 H locs ls G hl hf
  unfold f5_slides at hf
  refine lv_iconst (v := (0 : Int32)) hx hb dX5_slides_0 (by decide) ?_
  refine lv_istore_n (lv' := [(2, .int (0 : Int32)), (0, .ref (ad 0)), (1, .int v1)]) hx hb dX5_slides_1 rfl hl (by decide) rfl (fun ls hl => ?_)
  exact b5_slides_2 C0  1000 G (lv_sub hl [1, 2, 0] rfl) hf
theorem o5_slides : okName yX5_slides 1 := ⟨by decide, by decide, by decide +kernel⟩
set_option maxHeartbeats 4000000 in
set_option maxRecDepth 100000 in
theorem c5_slides {X : XP} (hX : XT X) {l : Launch} {D : va_G} {cI cC : ClassId} {ad : Nat → Nat} {sz : Nat} {xs : Nat → Int32} {xkept : Nat → Int32} {xaside : Nat → Int32} {xisK : Int32} {xfound : Nat → Int32} {xgone : Int32} {xover : Nat → Int32} {xtape : Nat → Int32} {xtaped : Int32} {xtok : Int32} {xbeg : Int32} {xend : Int32} {xval : Int64} {xwid : Nat → Int32} {xsiz : Nat → Int32} {xcel : Nat → Int32} {xcar : Nat → Int32} {v1 : Int32} {o_xs : Nat → Int32} {o_xover : Nat → Int32} (hf : f5_slides xs xover v1 = some (o_xs, o_xover)) : Met l yX5_slides (wU yX5_slides cX5_slides 3 none) ({ frames := 2, cells := 0, slots := 0, locals := 42 }) (va_Pc [.ref (ad 0), .int v1] (PreW X D (tyM cI cC) (wM cI cC ad xs xkept xaside xisK xfound xgone xover xtape xtaped xtok xbeg xend xval xwid xsiz xcel xcar) sz)) (QcV D (tyM cI cC) (wM cI cC ad o_xs xkept xaside xisK xfound xgone o_xover xtape xtaped xtok xbeg xend xval xwid xsiz xcel xcar) (va_A (wM cI cC ad xs xkept xaside xisK xfound xgone xover xtape xtaped xtok xbeg xend xval xwid xsiz xcel xcar) sz)) 0 0 (va_A (wM cI cC ad xs xkept xaside xisK xfound xgone xover xtape xtaped xtok xbeg xend xval xwid xsiz xcel xcar) sz) := by
  refine startW hX (own := RX5) (by decide) rfl (Nat.le_of_ble_eq_true rfl) (fun p e s m args below meth c ls C0 G hl => ?_)
  exact b5_slides_0 C0 G hl hf
/-! 5_day -/
theorem dX5_day_0 : decode cX5_day 0 = .ok (.iconst 0, 1) := by decide +kernel
theorem dX5_day_1 : decode cX5_day 1 = .ok (.istore_n 1, 1) := by decide +kernel
theorem dX5_day_2 : decode cX5_day 2 = .ok (.iload_n 1, 1) := by decide +kernel
theorem dX5_day_3 : decode cX5_day 3 = .ok (.aload_n 0, 1) := by decide +kernel
theorem dX5_day_4 : decode cX5_day 4 = .ok (.getfield 9, 3) := by decide +kernel
theorem dX5_day_7 : decode cX5_day 7 = .ok (.iconst 1, 1) := by decide +kernel
theorem dX5_day_8 : decode cX5_day 8 = .ok (.iaload, 1) := by decide +kernel
theorem dX5_day_9 : decode cX5_day 9 = .ok (.if_icmp .ge 34, 3) := by decide +kernel
theorem dX5_day_12 : decode cX5_day 12 = .ok (.aload_n 0, 1) := by decide +kernel
theorem dX5_day_13 : decode cX5_day 13 = .ok (.iload_n 1, 1) := by decide +kernel
theorem dX5_day_14 : decode cX5_day 14 = .ok (.invokevirtual 87, 3) := by decide +kernel
theorem dX5_day_17 : decode cX5_day 17 = .ok (.ifCond .eq 20, 3) := by decide +kernel
theorem dX5_day_20 : decode cX5_day 20 = .ok (.aload_n 0, 1) := by decide +kernel
theorem dX5_day_21 : decode cX5_day 21 = .ok (.getfield 90, 3) := by decide +kernel
theorem dX5_day_24 : decode cX5_day 24 = .ok (.iload_n 1, 1) := by decide +kernel
theorem dX5_day_25 : decode cX5_day 25 = .ok (.ishr, 1) := by decide +kernel
theorem dX5_day_26 : decode cX5_day 26 = .ok (.iconst 1, 1) := by decide +kernel
theorem dX5_day_27 : decode cX5_day 27 = .ok (.iand, 1) := by decide +kernel
theorem dX5_day_28 : decode cX5_day 28 = .ok (.ifCond .ne 9, 3) := by decide +kernel
theorem dX5_day_31 : decode cX5_day 31 = .ok (.aload_n 0, 1) := by decide +kernel
theorem dX5_day_32 : decode cX5_day 32 = .ok (.iload_n 1, 1) := by decide +kernel
theorem dX5_day_33 : decode cX5_day 33 = .ok (.invokevirtual 94, 3) := by decide +kernel
theorem dX5_day_36 : decode cX5_day 36 = .ok (.istore_n 2, 1) := by decide +kernel
theorem dX5_day_37 : decode cX5_day 37 = .ok (.iinc 1 1, 3) := by decide +kernel
theorem dX5_day_40 : decode cX5_day 40 = .ok (.goto (-38), 3) := by decide +kernel
theorem dX5_day_43 : decode cX5_day 43 = .ok (.iconst 0, 1) := by decide +kernel
theorem dX5_day_44 : decode cX5_day 44 = .ok (.istore_n 1, 1) := by decide +kernel
theorem dX5_day_45 : decode cX5_day 45 = .ok (.iload_n 1, 1) := by decide +kernel
theorem dX5_day_46 : decode cX5_day 46 = .ok (.aload_n 0, 1) := by decide +kernel
theorem dX5_day_47 : decode cX5_day 47 = .ok (.getfield 9, 3) := by decide +kernel
theorem dX5_day_50 : decode cX5_day 50 = .ok (.iconst 1, 1) := by decide +kernel
theorem dX5_day_51 : decode cX5_day 51 = .ok (.iaload, 1) := by decide +kernel
theorem dX5_day_52 : decode cX5_day 52 = .ok (.if_icmp .ge 29, 3) := by decide +kernel
theorem dX5_day_55 : decode cX5_day 55 = .ok (.aload_n 0, 1) := by decide +kernel
theorem dX5_day_56 : decode cX5_day 56 = .ok (.iload_n 1, 1) := by decide +kernel
theorem dX5_day_57 : decode cX5_day 57 = .ok (.iconst 5, 1) := by decide +kernel
theorem dX5_day_58 : decode cX5_day 58 = .ok (.sipush 9999, 3) := by decide +kernel
theorem dX5_day_61 : decode cX5_day 61 = .ok (.aload_n 0, 1) := by decide +kernel
theorem dX5_day_62 : decode cX5_day 62 = .ok (.iload_n 1, 1) := by decide +kernel
theorem dX5_day_63 : decode cX5_day 63 = .ok (.iconst 5, 1) := by decide +kernel
theorem dX5_day_64 : decode cX5_day 64 = .ok (.invokevirtual 55, 3) := by decide +kernel
theorem dX5_day_67 : decode cX5_day 67 = .ok (.iconst 1, 1) := by decide +kernel
theorem dX5_day_68 : decode cX5_day 68 = .ok (.iadd, 1) := by decide +kernel
theorem dX5_day_69 : decode cX5_day 69 = .ok (.invokestatic 63, 3) := by decide +kernel
theorem dX5_day_72 : decode cX5_day 72 = .ok (.invokevirtual 83, 3) := by decide +kernel
theorem dX5_day_75 : decode cX5_day 75 = .ok (.iinc 1 1, 3) := by decide +kernel
theorem dX5_day_78 : decode cX5_day 78 = .ok (.goto (-33), 3) := by decide +kernel
theorem dX5_day_81 : decode cX5_day 81 = .ok (.iconst 0, 1) := by decide +kernel
theorem dX5_day_82 : decode cX5_day 82 = .ok (.istore_n 1, 1) := by decide +kernel
theorem dX5_day_83 : decode cX5_day 83 = .ok (.iload_n 1, 1) := by decide +kernel
theorem dX5_day_84 : decode cX5_day 84 = .ok (.aload_n 0, 1) := by decide +kernel
theorem dX5_day_85 : decode cX5_day 85 = .ok (.getfield 9, 3) := by decide +kernel
theorem dX5_day_88 : decode cX5_day 88 = .ok (.iconst 4, 1) := by decide +kernel
theorem dX5_day_89 : decode cX5_day 89 = .ok (.iaload, 1) := by decide +kernel
theorem dX5_day_90 : decode cX5_day 90 = .ok (.if_icmp .ge 19, 3) := by decide +kernel
theorem dX5_day_93 : decode cX5_day 93 = .ok (.aload_n 0, 1) := by decide +kernel
theorem dX5_day_94 : decode cX5_day 94 = .ok (.iconst 1, 1) := by decide +kernel
theorem dX5_day_95 : decode cX5_day 95 = .ok (.invokevirtual 97, 3) := by decide +kernel
theorem dX5_day_98 : decode cX5_day 98 = .ok (.aload_n 0, 1) := by decide +kernel
theorem dX5_day_99 : decode cX5_day 99 = .ok (.iconst (-1), 1) := by decide +kernel
theorem dX5_day_100 : decode cX5_day 100 = .ok (.invokevirtual 97, 3) := by decide +kernel
theorem dX5_day_103 : decode cX5_day 103 = .ok (.iinc 1 1, 3) := by decide +kernel
theorem dX5_day_106 : decode cX5_day 106 = .ok (.goto (-23), 3) := by decide +kernel
theorem dX5_day_109 : decode cX5_day 109 = .ok (.aload_n 0, 1) := by decide +kernel
theorem dX5_day_110 : decode cX5_day 110 = .ok (.getfield 9, 3) := by decide +kernel
theorem dX5_day_113 : decode cX5_day 113 = .ok (.iconst 0, 1) := by decide +kernel
theorem dX5_day_114 : decode cX5_day 114 = .ok (.ldc 101, 2) := by decide +kernel
theorem dX5_day_116 : decode cX5_day 116 = .ok (.aload_n 0, 1) := by decide +kernel
theorem dX5_day_117 : decode cX5_day 117 = .ok (.getfield 9, 3) := by decide +kernel
theorem dX5_day_120 : decode cX5_day 120 = .ok (.iconst 0, 1) := by decide +kernel
theorem dX5_day_121 : decode cX5_day 121 = .ok (.iaload, 1) := by decide +kernel
theorem dX5_day_122 : decode cX5_day 122 = .ok (.iconst 1, 1) := by decide +kernel
theorem dX5_day_123 : decode cX5_day 123 = .ok (.iadd, 1) := by decide +kernel
theorem dX5_day_124 : decode cX5_day 124 = .ok (.invokestatic 63, 3) := by decide +kernel
theorem dX5_day_127 : decode cX5_day 127 = .ok (.iastore, 1) := by decide +kernel
theorem dX5_day_128 : decode cX5_day 128 = .ok (.return_, 1) := by decide +kernel
def l5_day_83  : Nat → (Nat → Int32) → Int32 → (Nat → Int32) → Int32 → Option ((Nat → Int32) × (Nat → Int32))
  | 0, _, _, _, _ => none
  | n + 1, xs, xgone, xover, v1 =>
    if (xs 4) ≤ v1 then (
      some ((upd xs 0 (f5_less (99999 : Int32) ((xs 0) + (1 : Int32)))), xover))
    else (
      ob2 (f5_slides xs xover (1 : Int32)) (fun xs_15 xover_16 =>
      ob2 (f5_slides xs_15 xover_16 (-1 : Int32)) (fun xs_18 xover_19 =>
      (l5_day_83 n) xs_18 xgone xover_19 (v1 + (1 : Int32)))))
def l5_day_45  : Nat → (Nat → Int32) → Int32 → (Nat → Int32) → Int32 → Option ((Nat → Int32) × (Nat → Int32))
  | 0, _, _, _, _ => none
  | n + 1, xs, xgone, xover, v1 =>
    if (xs 1) ≤ v1 then (
      l5_day_83 1000 xs xgone xover (0 : Int32))
    else (
      ob1 (f5_get xs v1 (5 : Int32)) (fun r10 =>
      ob1 (f5_puts xs v1 (5 : Int32) (f5_less (9999 : Int32) (r10 + (1 : Int32)))) (fun xs_12 =>
      (l5_day_45 n) xs_12 xgone xover (v1 + (1 : Int32)))))
def j5_day_37 (k2 : (Nat → Int32) → Int32 → (Nat → Int32) → Int32 → Option ((Nat → Int32) × (Nat → Int32))) (xs : Nat → Int32) (xgone : Int32) (xover : Nat → Int32) (v1 : Int32) : Option ((Nat → Int32) × (Nat → Int32)) :=
  k2 xs xgone xover (v1 + (1 : Int32))
def l5_day_2  : Nat → (Nat → Int32) → Int32 → (Nat → Int32) → Int32 → Option ((Nat → Int32) × (Nat → Int32))
  | 0, _, _, _, _ => none
  | n + 1, xs, xgone, xover, v1 =>
    if (xs 1) ≤ v1 then (
      l5_day_45 1000 xs xgone xover (0 : Int32))
    else (
      ob1 (f5_isDue xs v1) (fun r2 =>
      if r2 = (0 : Int32) then (
        j5_day_37 (l5_day_2 n) xs xgone xover v1)
      else (
        if ((xgone >>> (v1 &&& 31)) &&& (1 : Int32)) = (0 : Int32) then (
          ob2 (f5_comes xs v1) (fun r6 xs_7 =>
          j5_day_37 (l5_day_2 n) xs_7 xgone xover v1))
        else (
          j5_day_37 (l5_day_2 n) xs xgone xover v1))))
def f5_day (xs : Nat → Int32) (xgone : Int32) (xover : Nat → Int32)  : Option ((Nat → Int32) × (Nat → Int32)) :=
  l5_day_2 1000 xs xgone xover (0 : Int32)
set_option maxHeartbeats 4000000 in
set_option maxRecDepth 100000 in
theorem b5_day_83 {X : XP} {p : Program} {l : Launch} {e : Env} {s : State} {m : MethodId} {args : Array Value} {below : List Frame} {meth : Method} {c : Code} {D : va_G} {cI cC : ClassId} {ad : Nat → Nat} {A : Nat → Prop} {xkept : Nat → Int32} {xaside : Nat → Int32} {xisK : Int32} {xfound : Nat → Int32} {xgone : Int32} {xtape : Nat → Int32} {xtaped : Int32} {xtok : Int32} {xbeg : Int32} {xend : Int32} {xval : Int64} {xwid : Nat → Int32} {xsiz : Nat → Int32} {xcel : Nat → Int32} {xcar : Nat → Int32} {o_xs : Nat → Int32} {o_xover : Nat → Int32} (C0 : CX X p s m args meth c cX5_day 3 none RX5 A) : ∀ (n : Nat) {xs : Nat → Int32} {xover : Nat → Int32} {v1 : Int32} {H : Heap} {locs : List Loc} {ls : Array Slot}, GX X D (tyM cI cC) A s (wM cI cC ad xs xkept xaside xisK xfound xgone xover xtape xtaped xtok xbeg xend xval xwid xsiz xcel xcar) H locs → lv_has ls 3 [(0, .ref (ad 0)), (1, .int v1)] → l5_day_83  n xs xgone xover v1 = some (o_xs, o_xover) → W p l e ({ frames := 5, cells := 0, slots := 0, locals := 121 }) s m args below meth c H locs 0 0 (MQ below (QcV D (tyM cI cC) (wM cI cC ad o_xs xkept xaside xisK xfound xgone o_xover xtape xtaped xtok xbeg xend xval xwid xsiz xcel xcar) A) args s 0 0 A) (F0 m 83 ls []) := by
  have hx := C0.1
  have hb := C0.2.1
  have hown := C0.2.2.2.2.1
  have hts := C0.2.2.2.2.2.1
  have hX := C0.2.2.2.2.2.2.2.2
  intro n
  induction n with
  | zero =>
    intro _ _ _ _ _ _ G hl hf
    cases hf
  | succ n ih =>
    intro xs xover v1 H locs ls G hl hf
    rw [l5_day_83] at hf
    refine lv_iload_n hx hb dX5_day_83 rfl (lv_at hl 1 rfl) ?_
    refine lv_aload_n hx hb dX5_day_84 rfl (lv_at hl 0 rfl) ?_
    refine s_get (C := RX5) (T := TX5) C0 G i_X5 0 0 rfl rfl (by decide) q713 rfl dX5_day_85 ?_
    refine lv_iconst (v := (4 : Int32)) hx hb dX5_day_88 (by decide) ?_
    refine s_iald (k := 4) C0 G 1 0 rfl rfl (vin (by decide)) (by decide) dX5_day_89 ?_
    refine lv_icmp_ge (tgt := 109) hx hb dX5_day_90 (by decide) (fun hc14 => ?_) (fun hc14 => ?_)
    · have hf := itp hc14 hf
      refine lv_aload_n hx hb dX5_day_109 rfl (lv_at hl 0 rfl) ?_
      refine s_get (C := RX5) (T := TX5) C0 G i_X5 0 0 rfl rfl (by decide) q713 rfl dX5_day_110 ?_
      refine lv_iconst (v := (0 : Int32)) hx hb dX5_day_113 (by decide) ?_
      refine lv_ldc (v := (99999 : Int32)) hx hb hown (hts _ q867) dX5_day_114 ?_
      refine lv_aload_n hx hb dX5_day_116 rfl (lv_at hl 0 rfl) ?_
      refine s_get (C := RX5) (T := TX5) C0 G i_X5 0 0 rfl rfl (by decide) q713 rfl dX5_day_117 ?_
      refine lv_iconst (v := (0 : Int32)) hx hb dX5_day_120 (by decide) ?_
      refine s_iald (k := 0) C0 G 1 0 rfl rfl (vin (by decide)) (by decide) dX5_day_121 ?_
      refine lv_iconst (v := (1 : Int32)) hx hb dX5_day_122 (by decide) ?_
      refine lv_iadd hx hb dX5_day_123 ?_
      refine go_i C0 G (runS_of (n := 2) (As := [.int (99999 : Int32), .int ((xs 0) + (1 : Int32))]) (rest := [.int (0 : Int32), .ref (ad 1)]) C0 G (c5_less hX rfl) q832 q54 q830 q831 o5_less ⟨rfl, rfl⟩ ⟨Nat.le_of_ble_eq_true rfl, Nat.le_of_ble_eq_true rfl⟩ rfl hl.1 rfl (Nat.le_of_ble_eq_true rfl) dX5_day_124) (fun H locs G => ?_)
      refine s_iast (k := 0) (w' := (wM cI cC ad (upd xs 0 (f5_less (99999 : Int32) ((xs 0) + (1 : Int32)))) xkept xaside xisK xfound xgone xover xtape xtaped xtok xbeg xend xval xwid xsiz xcel xcar)) C0 G 1 0 rfl rfl (vin (by decide)) (by decide) rfl dX5_day_127 (fun H locs G => ?_)
      obtain ⟨rfl, rfl⟩ := inj2 hf
      exact ret_v C0 G dX5_day_128
    · have hf := itn hc14 hf
      refine lv_aload_n hx hb dX5_day_93 rfl (lv_at hl 0 rfl) ?_
      refine lv_iconst (v := (1 : Int32)) hx hb dX5_day_94 (by decide) ?_
      obtain ⟨xs_15, xover_16, hc17, hf⟩ := ob2_s hf
      refine go_v C0 G (runV_of (n := 1) (q0 := 0) (As := [.int (1 : Int32)]) (rest := []) C0 G (c5_slides hX hc17) q883 q54 q880 q882 q23 o5_slides ⟨rfl, rfl⟩ ⟨Nat.le_of_ble_eq_true rfl, Nat.le_of_ble_eq_true rfl⟩ rfl rfl rfl hl.1 rfl (Nat.le_of_ble_eq_true rfl) dX5_day_95) (fun H locs G => ?_)
      refine lv_aload_n hx hb dX5_day_98 rfl (lv_at hl 0 rfl) ?_
      refine lv_iconst (v := (-1 : Int32)) hx hb dX5_day_99 (by decide) ?_
      obtain ⟨xs_18, xover_19, hc20, hf⟩ := ob2_s hf
      refine go_v C0 G (runV_of (n := 1) (q0 := 0) (As := [.int (-1 : Int32)]) (rest := []) C0 G (c5_slides hX hc20) q883 q54 q880 q882 q23 o5_slides ⟨rfl, rfl⟩ ⟨Nat.le_of_ble_eq_true rfl, Nat.le_of_ble_eq_true rfl⟩ rfl rfl rfl hl.1 rfl (Nat.le_of_ble_eq_true rfl) dX5_day_100) (fun H locs G => ?_)
      refine lv_iinc (v := (v1 + (1 : Int32))) (lv' := [(1, .int (v1 + (1 : Int32))), (0, .ref (ad 0))]) hx hb dX5_day_103 hl (k := 1) rfl rfl (by decide) rfl (fun ls hl => ?_)
      refine lv_goto (tgt := 83) hx hb dX5_day_106 (by decide) ?_
      exact ih G (lv_sub hl [1, 0] rfl) hf
set_option maxHeartbeats 4000000 in
set_option maxRecDepth 100000 in
theorem b5_day_45 {X : XP} {p : Program} {l : Launch} {e : Env} {s : State} {m : MethodId} {args : Array Value} {below : List Frame} {meth : Method} {c : Code} {D : va_G} {cI cC : ClassId} {ad : Nat → Nat} {A : Nat → Prop} {xkept : Nat → Int32} {xaside : Nat → Int32} {xisK : Int32} {xfound : Nat → Int32} {xgone : Int32} {xtape : Nat → Int32} {xtaped : Int32} {xtok : Int32} {xbeg : Int32} {xend : Int32} {xval : Int64} {xwid : Nat → Int32} {xsiz : Nat → Int32} {xcel : Nat → Int32} {xcar : Nat → Int32} {o_xs : Nat → Int32} {o_xover : Nat → Int32} (C0 : CX X p s m args meth c cX5_day 3 none RX5 A) : ∀ (n : Nat) {xs : Nat → Int32} {xover : Nat → Int32} {v1 : Int32} {H : Heap} {locs : List Loc} {ls : Array Slot}, GX X D (tyM cI cC) A s (wM cI cC ad xs xkept xaside xisK xfound xgone xover xtape xtaped xtok xbeg xend xval xwid xsiz xcel xcar) H locs → lv_has ls 3 [(0, .ref (ad 0)), (1, .int v1)] → l5_day_45  n xs xgone xover v1 = some (o_xs, o_xover) → W p l e ({ frames := 5, cells := 0, slots := 0, locals := 121 }) s m args below meth c H locs 0 0 (MQ below (QcV D (tyM cI cC) (wM cI cC ad o_xs xkept xaside xisK xfound xgone o_xover xtape xtaped xtok xbeg xend xval xwid xsiz xcel xcar) A) args s 0 0 A) (F0 m 45 ls []) := by
  have hx := C0.1
  have hb := C0.2.1
  have hown := C0.2.2.2.2.1
  have hts := C0.2.2.2.2.2.1
  have hX := C0.2.2.2.2.2.2.2.2
  intro n
  induction n with
  | zero =>
    intro _ _ _ _ _ _ G hl hf
    cases hf
  | succ n ih =>
    intro xs xover v1 H locs ls G hl hf
    rw [l5_day_45] at hf
    refine lv_iload_n hx hb dX5_day_45 rfl (lv_at hl 1 rfl) ?_
    refine lv_aload_n hx hb dX5_day_46 rfl (lv_at hl 0 rfl) ?_
    refine s_get (C := RX5) (T := TX5) C0 G i_X5 0 0 rfl rfl (by decide) q713 rfl dX5_day_47 ?_
    refine lv_iconst (v := (1 : Int32)) hx hb dX5_day_50 (by decide) ?_
    refine s_iald (k := 1) C0 G 1 0 rfl rfl (vin (by decide)) (by decide) dX5_day_51 ?_
    refine lv_icmp_ge (tgt := 81) hx hb dX5_day_52 (by decide) (fun hc9 => ?_) (fun hc9 => ?_)
    · have hf := itp hc9 hf
      refine lv_iconst (v := (0 : Int32)) hx hb dX5_day_81 (by decide) ?_
      refine lv_istore_n (lv' := [(1, .int (0 : Int32)), (0, .ref (ad 0))]) hx hb dX5_day_82 rfl hl (by decide) rfl (fun ls hl => ?_)
      exact b5_day_83 C0  1000 G (lv_sub hl [1, 0] rfl) hf
    · have hf := itn hc9 hf
      refine lv_aload_n hx hb dX5_day_55 rfl (lv_at hl 0 rfl) ?_
      refine lv_iload_n hx hb dX5_day_56 rfl (lv_at hl 1 rfl) ?_
      refine lv_iconst (v := (5 : Int32)) hx hb dX5_day_57 (by decide) ?_
      refine lv_sipush (v := (9999 : Int32)) hx hb dX5_day_58 (by decide) ?_
      refine lv_aload_n hx hb dX5_day_61 rfl (lv_at hl 0 rfl) ?_
      refine lv_iload_n hx hb dX5_day_62 rfl (lv_at hl 1 rfl) ?_
      refine lv_iconst (v := (5 : Int32)) hx hb dX5_day_63 (by decide) ?_
      obtain ⟨r10, hc11, hf⟩ := ob1_s hf
      refine go_i C0 G (runV_of (n := 2) (q0 := 0) (As := [.int v1, .int (5 : Int32)]) (rest := [.int (9999 : Int32), .int (5 : Int32), .int v1, .ref (ad 0)]) C0 G (c5_get hX hc11) q801 q54 q798 q800 q11 o5_get ⟨rfl, rfl⟩ ⟨Nat.le_of_ble_eq_true rfl, Nat.le_of_ble_eq_true rfl⟩ rfl rfl rfl hl.1 rfl (Nat.le_of_ble_eq_true rfl) dX5_day_64) (fun H locs G => ?_)
      refine lv_iconst (v := (1 : Int32)) hx hb dX5_day_67 (by decide) ?_
      refine lv_iadd hx hb dX5_day_68 ?_
      refine go_i C0 G (runS_of (n := 2) (As := [.int (9999 : Int32), .int (r10 + (1 : Int32))]) (rest := [.int (5 : Int32), .int v1, .ref (ad 0)]) C0 G (c5_less hX rfl) q832 q54 q830 q831 o5_less ⟨rfl, rfl⟩ ⟨Nat.le_of_ble_eq_true rfl, Nat.le_of_ble_eq_true rfl⟩ rfl hl.1 rfl (Nat.le_of_ble_eq_true rfl) dX5_day_69) (fun H locs G => ?_)
      obtain ⟨xs_12, hc13, hf⟩ := ob1_s hf
      refine go_v C0 G (runV_of (n := 3) (q0 := 0) (As := [.int v1, .int (5 : Int32), .int (f5_less (9999 : Int32) (r10 + (1 : Int32)))]) (rest := []) C0 G (c5_puts hX hc13) q817 q54 q814 q816 q13 o5_puts ⟨rfl, rfl⟩ ⟨Nat.le_of_ble_eq_true rfl, Nat.le_of_ble_eq_true rfl⟩ rfl rfl rfl hl.1 rfl (Nat.le_of_ble_eq_true rfl) dX5_day_72) (fun H locs G => ?_)
      refine lv_iinc (v := (v1 + (1 : Int32))) (lv' := [(1, .int (v1 + (1 : Int32))), (0, .ref (ad 0))]) hx hb dX5_day_75 hl (k := 1) rfl rfl (by decide) rfl (fun ls hl => ?_)
      refine lv_goto (tgt := 45) hx hb dX5_day_78 (by decide) ?_
      exact ih G (lv_sub hl [1, 0] rfl) hf
set_option maxHeartbeats 4000000 in
set_option maxRecDepth 100000 in
theorem b5_day_37 {X : XP} {p : Program} {l : Launch} {e : Env} {s : State} {m : MethodId} {args : Array Value} {below : List Frame} {meth : Method} {c : Code} {D : va_G} {cI cC : ClassId} {ad : Nat → Nat} {A : Nat → Prop} {xkept : Nat → Int32} {xaside : Nat → Int32} {xisK : Int32} {xfound : Nat → Int32} {xgone : Int32} {xtape : Nat → Int32} {xtaped : Int32} {xtok : Int32} {xbeg : Int32} {xend : Int32} {xval : Int64} {xwid : Nat → Int32} {xsiz : Nat → Int32} {xcel : Nat → Int32} {xcar : Nat → Int32} {o_xs : Nat → Int32} {o_xover : Nat → Int32} (C0 : CX X p s m args meth c cX5_day 3 none RX5 A) {k2 : (Nat → Int32) → Int32 → (Nat → Int32) → Int32 → Option ((Nat → Int32) × (Nat → Int32))} (hk2 : ∀ {xs : Nat → Int32} {xover : Nat → Int32} {v1 : Int32} {H : Heap} {locs : List Loc} {ls : Array Slot}, GX X D (tyM cI cC) A s (wM cI cC ad xs xkept xaside xisK xfound xgone xover xtape xtaped xtok xbeg xend xval xwid xsiz xcel xcar) H locs → lv_has ls 3 [(0, .ref (ad 0)), (1, .int v1)] → k2 xs xgone xover v1 = some (o_xs, o_xover) → W p l e ({ frames := 5, cells := 0, slots := 0, locals := 121 }) s m args below meth c H locs 0 0 (MQ below (QcV D (tyM cI cC) (wM cI cC ad o_xs xkept xaside xisK xfound xgone o_xover xtape xtaped xtok xbeg xend xval xwid xsiz xcel xcar) A) args s 0 0 A) (F0 m 2 ls [])) : ∀ {xs : Nat → Int32} {xover : Nat → Int32} {v1 : Int32} {H : Heap} {locs : List Loc} {ls : Array Slot}, GX X D (tyM cI cC) A s (wM cI cC ad xs xkept xaside xisK xfound xgone xover xtape xtaped xtok xbeg xend xval xwid xsiz xcel xcar) H locs → lv_has ls 3 [(0, .ref (ad 0)), (1, .int v1)] → j5_day_37 k2 xs xgone xover v1 = some (o_xs, o_xover) → W p l e ({ frames := 5, cells := 0, slots := 0, locals := 121 }) s m args below meth c H locs 0 0 (MQ below (QcV D (tyM cI cC) (wM cI cC ad o_xs xkept xaside xisK xfound xgone o_xover xtape xtaped xtok xbeg xend xval xwid xsiz xcel xcar) A) args s 0 0 A) (F0 m 37 ls []) := by
  have hx := C0.1
  have hb := C0.2.1
  have hown := C0.2.2.2.2.1
  have hts := C0.2.2.2.2.2.1
  have hX := C0.2.2.2.2.2.2.2.2
  intro xs xover v1 H locs ls G hl hf
  unfold j5_day_37 at hf
  refine lv_iinc (v := (v1 + (1 : Int32))) (lv' := [(1, .int (v1 + (1 : Int32))), (0, .ref (ad 0))]) hx hb dX5_day_37 hl (k := 1) rfl rfl (by decide) rfl (fun ls hl => ?_)
  refine lv_goto (tgt := 2) hx hb dX5_day_40 (by decide) ?_
  exact hk2 G (lv_sub hl [1, 0] rfl) hf
set_option maxHeartbeats 4000000 in
set_option maxRecDepth 100000 in
theorem b5_day_2 {X : XP} {p : Program} {l : Launch} {e : Env} {s : State} {m : MethodId} {args : Array Value} {below : List Frame} {meth : Method} {c : Code} {D : va_G} {cI cC : ClassId} {ad : Nat → Nat} {A : Nat → Prop} {xkept : Nat → Int32} {xaside : Nat → Int32} {xisK : Int32} {xfound : Nat → Int32} {xgone : Int32} {xtape : Nat → Int32} {xtaped : Int32} {xtok : Int32} {xbeg : Int32} {xend : Int32} {xval : Int64} {xwid : Nat → Int32} {xsiz : Nat → Int32} {xcel : Nat → Int32} {xcar : Nat → Int32} {o_xs : Nat → Int32} {o_xover : Nat → Int32} (C0 : CX X p s m args meth c cX5_day 3 none RX5 A) : ∀ (n : Nat) {xs : Nat → Int32} {xover : Nat → Int32} {v1 : Int32} {H : Heap} {locs : List Loc} {ls : Array Slot}, GX X D (tyM cI cC) A s (wM cI cC ad xs xkept xaside xisK xfound xgone xover xtape xtaped xtok xbeg xend xval xwid xsiz xcel xcar) H locs → lv_has ls 3 [(0, .ref (ad 0)), (1, .int v1)] → l5_day_2  n xs xgone xover v1 = some (o_xs, o_xover) → W p l e ({ frames := 5, cells := 0, slots := 0, locals := 121 }) s m args below meth c H locs 0 0 (MQ below (QcV D (tyM cI cC) (wM cI cC ad o_xs xkept xaside xisK xfound xgone o_xover xtape xtaped xtok xbeg xend xval xwid xsiz xcel xcar) A) args s 0 0 A) (F0 m 2 ls []) := by
  have hx := C0.1
  have hb := C0.2.1
  have hown := C0.2.2.2.2.1
  have hts := C0.2.2.2.2.2.1
  have hX := C0.2.2.2.2.2.2.2.2
  intro n
  induction n with
  | zero =>
    intro _ _ _ _ _ _ G hl hf
    cases hf
  | succ n ih =>
    intro xs xover v1 H locs ls G hl hf
    rw [l5_day_2] at hf
    refine lv_iload_n hx hb dX5_day_2 rfl (lv_at hl 1 rfl) ?_
    refine lv_aload_n hx hb dX5_day_3 rfl (lv_at hl 0 rfl) ?_
    refine s_get (C := RX5) (T := TX5) C0 G i_X5 0 0 rfl rfl (by decide) q713 rfl dX5_day_4 ?_
    refine lv_iconst (v := (1 : Int32)) hx hb dX5_day_7 (by decide) ?_
    refine s_iald (k := 1) C0 G 1 0 rfl rfl (vin (by decide)) (by decide) dX5_day_8 ?_
    refine lv_icmp_ge (tgt := 43) hx hb dX5_day_9 (by decide) (fun hc1 => ?_) (fun hc1 => ?_)
    · have hf := itp hc1 hf
      refine lv_iconst (v := (0 : Int32)) hx hb dX5_day_43 (by decide) ?_
      refine lv_istore_n (lv' := [(1, .int (0 : Int32)), (0, .ref (ad 0))]) hx hb dX5_day_44 rfl hl (by decide) rfl (fun ls hl => ?_)
      exact b5_day_45 C0  1000 G (lv_sub hl [1, 0] rfl) hf
    · have hf := itn hc1 hf
      refine lv_aload_n hx hb dX5_day_12 rfl (lv_at hl 0 rfl) ?_
      refine lv_iload_n hx hb dX5_day_13 rfl (lv_at hl 1 rfl) ?_
      obtain ⟨r2, hc3, hf⟩ := ob1_s hf
      refine go_i C0 G (runV_of (n := 1) (q0 := 0) (As := [.int v1]) (rest := []) C0 G (c5_isDue hX hc3) q879 q54 q876 q878 q22 o5_isDue ⟨rfl, rfl⟩ ⟨Nat.le_of_ble_eq_true rfl, Nat.le_of_ble_eq_true rfl⟩ rfl rfl rfl hl.1 rfl (Nat.le_of_ble_eq_true rfl) dX5_day_14) (fun H locs G => ?_)
      refine lv_if_eq (tgt := 37) hx hb dX5_day_17 (by decide) (fun hc4 => ?_) (fun hc4 => ?_)
      · have hf := itp hc4 hf
        exact b5_day_37 C0 ih G (lv_sub hl [0, 1] rfl) hf
      · have hf := itn hc4 hf
        refine lv_aload_n hx hb dX5_day_20 rfl (lv_at hl 0 rfl) ?_
        refine s_get (C := RX5) (T := TX5) C0 G i_X5 0 5 rfl rfl (by decide) q718 rfl dX5_day_21 ?_
        refine lv_iload_n hx hb dX5_day_24 rfl (lv_at hl 1 rfl) ?_
        refine lv_ishr hx hb dX5_day_25 ?_
        refine lv_iconst (v := (1 : Int32)) hx hb dX5_day_26 (by decide) ?_
        refine lv_iand hx hb dX5_day_27 ?_
        refine lv_if_ne (tgt := 37) hx hb dX5_day_28 (by decide) (fun hc5 => ?_) (fun hc5 => ?_)
        · have hf := itn hc5 hf
          exact b5_day_37 C0 ih G (lv_sub hl [0, 1] rfl) hf
        · have hf := itp hc5 hf
          refine lv_aload_n hx hb dX5_day_31 rfl (lv_at hl 0 rfl) ?_
          refine lv_iload_n hx hb dX5_day_32 rfl (lv_at hl 1 rfl) ?_
          obtain ⟨r6, xs_7, hc8, hf⟩ := ob2_s hf
          refine go_i C0 G (runV_of (n := 1) (q0 := 0) (As := [.int v1]) (rest := []) C0 G (c5_comes hX hc8) q858 q54 q855 q857 q18 o5_comes ⟨rfl, rfl⟩ ⟨Nat.le_of_ble_eq_true rfl, Nat.le_of_ble_eq_true rfl⟩ rfl rfl rfl hl.1 rfl (Nat.le_of_ble_eq_true rfl) dX5_day_33) (fun H locs G => ?_)
          refine lv_istore_n (lv' := [(2, .int r6), (0, .ref (ad 0)), (1, .int v1)]) hx hb dX5_day_36 rfl hl (by decide) rfl (fun ls hl => ?_)
          exact b5_day_37 C0 ih G (lv_sub hl [1, 2] rfl) hf
set_option maxHeartbeats 4000000 in
set_option maxRecDepth 100000 in
theorem b5_day_0 {X : XP} {p : Program} {l : Launch} {e : Env} {s : State} {m : MethodId} {args : Array Value} {below : List Frame} {meth : Method} {c : Code} {D : va_G} {cI cC : ClassId} {ad : Nat → Nat} {A : Nat → Prop} {xkept : Nat → Int32} {xaside : Nat → Int32} {xisK : Int32} {xfound : Nat → Int32} {xgone : Int32} {xtape : Nat → Int32} {xtaped : Int32} {xtok : Int32} {xbeg : Int32} {xend : Int32} {xval : Int64} {xwid : Nat → Int32} {xsiz : Nat → Int32} {xcel : Nat → Int32} {xcar : Nat → Int32} {o_xs : Nat → Int32} {o_xover : Nat → Int32} (C0 : CX X p s m args meth c cX5_day 3 none RX5 A) : ∀ {xs : Nat → Int32} {xover : Nat → Int32} {H : Heap} {locs : List Loc} {ls : Array Slot}, GX X D (tyM cI cC) A s (wM cI cC ad xs xkept xaside xisK xfound xgone xover xtape xtaped xtok xbeg xend xval xwid xsiz xcel xcar) H locs → lv_has ls 3 [(0, .ref (ad 0))] → f5_day xs xgone xover = some (o_xs, o_xover) → W p l e ({ frames := 5, cells := 0, slots := 0, locals := 121 }) s m args below meth c H locs 0 0 (MQ below (QcV D (tyM cI cC) (wM cI cC ad o_xs xkept xaside xisK xfound xgone o_xover xtape xtaped xtok xbeg xend xval xwid xsiz xcel xcar) A) args s 0 0 A) (F0 m 0 ls []) := by
  have hx := C0.1
  have hb := C0.2.1
  have hown := C0.2.2.2.2.1
  have hts := C0.2.2.2.2.2.1
  have hX := C0.2.2.2.2.2.2.2.2
  intro xs xover H locs ls G hl hf
  unfold f5_day at hf
  refine lv_iconst (v := (0 : Int32)) hx hb dX5_day_0 (by decide) ?_
  refine lv_istore_n (lv' := [(1, .int (0 : Int32)), (0, .ref (ad 0))]) hx hb dX5_day_1 rfl hl (by decide) rfl (fun ls hl => ?_)
  exact b5_day_2 C0  1000 G (lv_sub hl [1, 0] rfl) hf
theorem o5_day : okName yX5_day 0 := ⟨by decide, by decide, by decide +kernel⟩
set_option maxHeartbeats 4000000 in
set_option maxRecDepth 100000 in
theorem c5_day {X : XP} (hX : XT X) {l : Launch} {D : va_G} {cI cC : ClassId} {ad : Nat → Nat} {sz : Nat} {xs : Nat → Int32} {xkept : Nat → Int32} {xaside : Nat → Int32} {xisK : Int32} {xfound : Nat → Int32} {xgone : Int32} {xover : Nat → Int32} {xtape : Nat → Int32} {xtaped : Int32} {xtok : Int32} {xbeg : Int32} {xend : Int32} {xval : Int64} {xwid : Nat → Int32} {xsiz : Nat → Int32} {xcel : Nat → Int32} {xcar : Nat → Int32}  {o_xs : Nat → Int32} {o_xover : Nat → Int32} (hf : f5_day xs xgone xover = some (o_xs, o_xover)) : Met l yX5_day (wU yX5_day cX5_day 3 none) ({ frames := 5, cells := 0, slots := 0, locals := 121 }) (va_Pc [.ref (ad 0)] (PreW X D (tyM cI cC) (wM cI cC ad xs xkept xaside xisK xfound xgone xover xtape xtaped xtok xbeg xend xval xwid xsiz xcel xcar) sz)) (QcV D (tyM cI cC) (wM cI cC ad o_xs xkept xaside xisK xfound xgone o_xover xtape xtaped xtok xbeg xend xval xwid xsiz xcel xcar) (va_A (wM cI cC ad xs xkept xaside xisK xfound xgone xover xtape xtaped xtok xbeg xend xval xwid xsiz xcel xcar) sz)) 0 0 (va_A (wM cI cC ad xs xkept xaside xisK xfound xgone xover xtape xtaped xtok xbeg xend xval xwid xsiz xcel xcar) sz) := by
  refine startW hX (own := RX5) (by decide) rfl (Nat.le_of_ble_eq_true rfl) (fun p e s m args below meth c ls C0 G hl => ?_)
  exact b5_day_0 C0 G hl hf
/-! 5_goes -/
theorem dX5_goes_0 : decode cX5_goes 0 = .ok (.iconst 0, 1) := by decide +kernel
theorem dX5_goes_1 : decode cX5_goes 1 = .ok (.istore_n 2, 1) := by decide +kernel
theorem dX5_goes_2 : decode cX5_goes 2 = .ok (.iload_n 2, 1) := by decide +kernel
theorem dX5_goes_3 : decode cX5_goes 3 = .ok (.iload_n 1, 1) := by decide +kernel
theorem dX5_goes_4 : decode cX5_goes 4 = .ok (.if_icmp .ge 13, 3) := by decide +kernel
theorem dX5_goes_7 : decode cX5_goes 7 = .ok (.aload_n 0, 1) := by decide +kernel
theorem dX5_goes_8 : decode cX5_goes 8 = .ok (.invokevirtual 102, 3) := by decide +kernel
theorem dX5_goes_11 : decode cX5_goes 11 = .ok (.iinc 2 1, 3) := by decide +kernel
theorem dX5_goes_14 : decode cX5_goes 14 = .ok (.goto (-12), 3) := by decide +kernel
theorem dX5_goes_17 : decode cX5_goes 17 = .ok (.return_, 1) := by decide +kernel
def l5_goes_2  : Nat → (Nat → Int32) → Int32 → (Nat → Int32) → Int32 → Int32 → Option ((Nat → Int32) × (Nat → Int32))
  | 0, _, _, _, _, _ => none
  | n + 1, xs, xgone, xover, v1, v2 =>
    if v1 ≤ v2 then (
      some (xs, xover))
    else (
      ob2 (f5_day xs xgone xover) (fun xs_2 xover_3 =>
      (l5_goes_2 n) xs_2 xgone xover_3 v1 (v2 + (1 : Int32))))
def f5_goes (xs : Nat → Int32) (xgone : Int32) (xover : Nat → Int32) (v1 : Int32) : Option ((Nat → Int32) × (Nat → Int32)) :=
  l5_goes_2 1000 xs xgone xover v1 (0 : Int32)
set_option maxHeartbeats 4000000 in
set_option maxRecDepth 100000 in
theorem b5_goes_2 {X : XP} {p : Program} {l : Launch} {e : Env} {s : State} {m : MethodId} {args : Array Value} {below : List Frame} {meth : Method} {c : Code} {D : va_G} {cI cC : ClassId} {ad : Nat → Nat} {A : Nat → Prop} {xkept : Nat → Int32} {xaside : Nat → Int32} {xisK : Int32} {xfound : Nat → Int32} {xgone : Int32} {xtape : Nat → Int32} {xtaped : Int32} {xtok : Int32} {xbeg : Int32} {xend : Int32} {xval : Int64} {xwid : Nat → Int32} {xsiz : Nat → Int32} {xcel : Nat → Int32} {xcar : Nat → Int32} {o_xs : Nat → Int32} {o_xover : Nat → Int32} (C0 : CX X p s m args meth c cX5_goes 3 none RX5 A) : ∀ (n : Nat) {xs : Nat → Int32} {xover : Nat → Int32} {v1 : Int32} {v2 : Int32} {H : Heap} {locs : List Loc} {ls : Array Slot}, GX X D (tyM cI cC) A s (wM cI cC ad xs xkept xaside xisK xfound xgone xover xtape xtaped xtok xbeg xend xval xwid xsiz xcel xcar) H locs → lv_has ls 3 [(0, .ref (ad 0)), (1, .int v1), (2, .int v2)] → l5_goes_2  n xs xgone xover v1 v2 = some (o_xs, o_xover) → W p l e ({ frames := 6, cells := 0, slots := 0, locals := 143 }) s m args below meth c H locs 0 0 (MQ below (QcV D (tyM cI cC) (wM cI cC ad o_xs xkept xaside xisK xfound xgone o_xover xtape xtaped xtok xbeg xend xval xwid xsiz xcel xcar) A) args s 0 0 A) (F0 m 2 ls []) := by
  have hx := C0.1
  have hb := C0.2.1
  have hown := C0.2.2.2.2.1
  have hts := C0.2.2.2.2.2.1
  have hX := C0.2.2.2.2.2.2.2.2
  intro n
  induction n with
  | zero =>
    intro _ _ _ _ _ _ _ G hl hf
    cases hf
  | succ n ih =>
    intro xs xover v1 v2 H locs ls G hl hf
    rw [l5_goes_2] at hf
    refine lv_iload_n hx hb dX5_goes_2 rfl (lv_at hl 2 rfl) ?_
    refine lv_iload_n hx hb dX5_goes_3 rfl (lv_at hl 1 rfl) ?_
    refine lv_icmp_ge (tgt := 17) hx hb dX5_goes_4 (by decide) (fun hc1 => ?_) (fun hc1 => ?_)
    · have hf := itp hc1 hf
      obtain ⟨rfl, rfl⟩ := inj2 hf
      exact ret_v C0 G dX5_goes_17
    · have hf := itn hc1 hf
      refine lv_aload_n hx hb dX5_goes_7 rfl (lv_at hl 0 rfl) ?_
      obtain ⟨xs_2, xover_3, hc4, hf⟩ := ob2_s hf
      refine go_v C0 G (runV_of (n := 0) (q0 := 0) (As := []) (rest := []) C0 G (c5_day hX hc4) q875 q54 q872 q874 q21 o5_day ⟨rfl, rfl⟩ ⟨Nat.le_of_ble_eq_true rfl, Nat.le_of_ble_eq_true rfl⟩ rfl rfl rfl hl.1 rfl (Nat.le_of_ble_eq_true rfl) dX5_goes_8) (fun H locs G => ?_)
      refine lv_iinc (v := (v2 + (1 : Int32))) (lv' := [(2, .int (v2 + (1 : Int32))), (0, .ref (ad 0)), (1, .int v1)]) hx hb dX5_goes_11 hl (k := 2) rfl rfl (by decide) rfl (fun ls hl => ?_)
      refine lv_goto (tgt := 2) hx hb dX5_goes_14 (by decide) ?_
      exact ih G (lv_sub hl [1, 2, 0] rfl) hf
set_option maxHeartbeats 4000000 in
set_option maxRecDepth 100000 in
theorem b5_goes_0 {X : XP} {p : Program} {l : Launch} {e : Env} {s : State} {m : MethodId} {args : Array Value} {below : List Frame} {meth : Method} {c : Code} {D : va_G} {cI cC : ClassId} {ad : Nat → Nat} {A : Nat → Prop} {xkept : Nat → Int32} {xaside : Nat → Int32} {xisK : Int32} {xfound : Nat → Int32} {xgone : Int32} {xtape : Nat → Int32} {xtaped : Int32} {xtok : Int32} {xbeg : Int32} {xend : Int32} {xval : Int64} {xwid : Nat → Int32} {xsiz : Nat → Int32} {xcel : Nat → Int32} {xcar : Nat → Int32} {o_xs : Nat → Int32} {o_xover : Nat → Int32} (C0 : CX X p s m args meth c cX5_goes 3 none RX5 A) : ∀ {xs : Nat → Int32} {xover : Nat → Int32} {v1 : Int32} {H : Heap} {locs : List Loc} {ls : Array Slot}, GX X D (tyM cI cC) A s (wM cI cC ad xs xkept xaside xisK xfound xgone xover xtape xtaped xtok xbeg xend xval xwid xsiz xcel xcar) H locs → lv_has ls 3 [(0, .ref (ad 0)), (1, .int v1)] → f5_goes xs xgone xover v1 = some (o_xs, o_xover) → W p l e ({ frames := 6, cells := 0, slots := 0, locals := 143 }) s m args below meth c H locs 0 0 (MQ below (QcV D (tyM cI cC) (wM cI cC ad o_xs xkept xaside xisK xfound xgone o_xover xtape xtaped xtok xbeg xend xval xwid xsiz xcel xcar) A) args s 0 0 A) (F0 m 0 ls []) := by
  have hx := C0.1
  have hb := C0.2.1
  have hown := C0.2.2.2.2.1
  have hts := C0.2.2.2.2.2.1
  have hX := C0.2.2.2.2.2.2.2.2
  intro xs xover v1 H locs ls G hl hf
  unfold f5_goes at hf
  refine lv_iconst (v := (0 : Int32)) hx hb dX5_goes_0 (by decide) ?_
  refine lv_istore_n (lv' := [(2, .int (0 : Int32)), (0, .ref (ad 0)), (1, .int v1)]) hx hb dX5_goes_1 rfl hl (by decide) rfl (fun ls hl => ?_)
  exact b5_goes_2 C0  1000 G (lv_sub hl [1, 2, 0] rfl) hf
theorem o5_goes : okName yX5_goes 1 := ⟨by decide, by decide, by decide +kernel⟩
set_option maxHeartbeats 4000000 in
set_option maxRecDepth 100000 in
theorem c5_goes {X : XP} (hX : XT X) {l : Launch} {D : va_G} {cI cC : ClassId} {ad : Nat → Nat} {sz : Nat} {xs : Nat → Int32} {xkept : Nat → Int32} {xaside : Nat → Int32} {xisK : Int32} {xfound : Nat → Int32} {xgone : Int32} {xover : Nat → Int32} {xtape : Nat → Int32} {xtaped : Int32} {xtok : Int32} {xbeg : Int32} {xend : Int32} {xval : Int64} {xwid : Nat → Int32} {xsiz : Nat → Int32} {xcel : Nat → Int32} {xcar : Nat → Int32} {v1 : Int32} {o_xs : Nat → Int32} {o_xover : Nat → Int32} (hf : f5_goes xs xgone xover v1 = some (o_xs, o_xover)) : Met l yX5_goes (wU yX5_goes cX5_goes 3 none) ({ frames := 6, cells := 0, slots := 0, locals := 143 }) (va_Pc [.ref (ad 0), .int v1] (PreW X D (tyM cI cC) (wM cI cC ad xs xkept xaside xisK xfound xgone xover xtape xtaped xtok xbeg xend xval xwid xsiz xcel xcar) sz)) (QcV D (tyM cI cC) (wM cI cC ad o_xs xkept xaside xisK xfound xgone o_xover xtape xtaped xtok xbeg xend xval xwid xsiz xcel xcar) (va_A (wM cI cC ad xs xkept xaside xisK xfound xgone xover xtape xtaped xtok xbeg xend xval xwid xsiz xcel xcar) sz)) 0 0 (va_A (wM cI cC ad xs xkept xaside xisK xfound xgone xover xtape xtaped xtok xbeg xend xval xwid xsiz xcel xcar) sz) := by
  refine startW hX (own := RX5) (by decide) rfl (Nat.le_of_ble_eq_true rfl) (fun p e s m args below meth c ls C0 G hl => ?_)
  exact b5_goes_0 C0 G hl hf
/-! 5_roadNow -/
theorem dX5_roadNow_0 : decode cX5_roadNow 0 = .ok (.iconst 0, 1) := by decide +kernel
theorem dX5_roadNow_1 : decode cX5_roadNow 1 = .ok (.istore_n 1, 1) := by decide +kernel
theorem dX5_roadNow_2 : decode cX5_roadNow 2 = .ok (.iconst 0, 1) := by decide +kernel
theorem dX5_roadNow_3 : decode cX5_roadNow 3 = .ok (.istore_n 2, 1) := by decide +kernel
theorem dX5_roadNow_4 : decode cX5_roadNow 4 = .ok (.iconst 0, 1) := by decide +kernel
theorem dX5_roadNow_5 : decode cX5_roadNow 5 = .ok (.istore_n 3, 1) := by decide +kernel
theorem dX5_roadNow_6 : decode cX5_roadNow 6 = .ok (.iload_n 3, 1) := by decide +kernel
theorem dX5_roadNow_7 : decode cX5_roadNow 7 = .ok (.bipush 16, 2) := by decide +kernel
theorem dX5_roadNow_9 : decode cX5_roadNow 9 = .ok (.if_icmp .ge 41, 3) := by decide +kernel
theorem dX5_roadNow_12 : decode cX5_roadNow 12 = .ok (.aload_n 0, 1) := by decide +kernel
theorem dX5_roadNow_13 : decode cX5_roadNow 13 = .ok (.getfield 9, 3) := by decide +kernel
theorem dX5_roadNow_16 : decode cX5_roadNow 16 = .ok (.bipush 6, 2) := by decide +kernel
theorem dX5_roadNow_18 : decode cX5_roadNow 18 = .ok (.iload_n 3, 1) := by decide +kernel
theorem dX5_roadNow_19 : decode cX5_roadNow 19 = .ok (.iadd, 1) := by decide +kernel
theorem dX5_roadNow_20 : decode cX5_roadNow 20 = .ok (.iaload, 1) := by decide +kernel
theorem dX5_roadNow_21 : decode cX5_roadNow 21 = .ok (.iconst 5, 1) := by decide +kernel
theorem dX5_roadNow_22 : decode cX5_roadNow 22 = .ok (.if_icmp .lt 9, 3) := by decide +kernel
theorem dX5_roadNow_25 : decode cX5_roadNow 25 = .ok (.iload_n 2, 1) := by decide +kernel
theorem dX5_roadNow_26 : decode cX5_roadNow 26 = .ok (.iconst 1, 1) := by decide +kernel
theorem dX5_roadNow_27 : decode cX5_roadNow 27 = .ok (.iadd, 1) := by decide +kernel
theorem dX5_roadNow_28 : decode cX5_roadNow 28 = .ok (.goto 4, 3) := by decide +kernel
theorem dX5_roadNow_31 : decode cX5_roadNow 31 = .ok (.iconst 0, 1) := by decide +kernel
theorem dX5_roadNow_32 : decode cX5_roadNow 32 = .ok (.istore_n 2, 1) := by decide +kernel
theorem dX5_roadNow_33 : decode cX5_roadNow 33 = .ok (.iload_n 2, 1) := by decide +kernel
theorem dX5_roadNow_34 : decode cX5_roadNow 34 = .ok (.iload_n 1, 1) := by decide +kernel
theorem dX5_roadNow_35 : decode cX5_roadNow 35 = .ok (.if_icmp .le 7, 3) := by decide +kernel
theorem dX5_roadNow_38 : decode cX5_roadNow 38 = .ok (.iload_n 2, 1) := by decide +kernel
theorem dX5_roadNow_39 : decode cX5_roadNow 39 = .ok (.goto 4, 3) := by decide +kernel
theorem dX5_roadNow_42 : decode cX5_roadNow 42 = .ok (.iload_n 1, 1) := by decide +kernel
theorem dX5_roadNow_43 : decode cX5_roadNow 43 = .ok (.istore_n 1, 1) := by decide +kernel
theorem dX5_roadNow_44 : decode cX5_roadNow 44 = .ok (.iinc 3 1, 3) := by decide +kernel
theorem dX5_roadNow_47 : decode cX5_roadNow 47 = .ok (.goto (-41), 3) := by decide +kernel
theorem dX5_roadNow_50 : decode cX5_roadNow 50 = .ok (.iload_n 1, 1) := by decide +kernel
theorem dX5_roadNow_51 : decode cX5_roadNow 51 = .ok (.ireturn, 1) := by decide +kernel
def j5_roadNow_43 (k6 : (Nat → Int32) → Int32 → Int32 → Int32 → Option (Int32)) (xs : Nat → Int32) (v2 : Int32) (v3 : Int32) (t0 : Int32) : Option (Int32) :=
  k6 xs t0 v2 (v3 + (1 : Int32))
def j5_roadNow_32 (k6 : (Nat → Int32) → Int32 → Int32 → Int32 → Option (Int32)) (xs : Nat → Int32) (v1 : Int32) (v3 : Int32) (t0 : Int32) : Option (Int32) :=
  if t0 ≤ v1 then (
    j5_roadNow_43 k6 xs t0 v3 v1)
  else (
    j5_roadNow_43 k6 xs t0 v3 t0)
def l5_roadNow_6  : Nat → (Nat → Int32) → Int32 → Int32 → Int32 → Option (Int32)
  | 0, _, _, _, _ => none
  | n + 1, xs, v1, v2, v3 =>
    if (16 : Int32) ≤ v3 then (
      some v1)
    else (
      gd (inb ((6 : Int32) + v3) 88) (
      if (xs (((6 : Int32) + v3).toNatClampNeg)) < (5 : Int32) then (
        j5_roadNow_32 (l5_roadNow_6 n) xs v1 v3 (0 : Int32))
      else (
        j5_roadNow_32 (l5_roadNow_6 n) xs v1 v3 (v2 + (1 : Int32)))))
def f5_roadNow (xs : Nat → Int32)  : Option (Int32) :=
  l5_roadNow_6 1000 xs (0 : Int32) (0 : Int32) (0 : Int32)
set_option maxHeartbeats 4000000 in
set_option maxRecDepth 100000 in
theorem b5_roadNow_43 {X : XP} {p : Program} {l : Launch} {e : Env} {s : State} {m : MethodId} {args : Array Value} {below : List Frame} {meth : Method} {c : Code} {D : va_G} {cI cC : ClassId} {ad : Nat → Nat} {A : Nat → Prop} {xs : Nat → Int32} {xkept : Nat → Int32} {xaside : Nat → Int32} {xisK : Int32} {xfound : Nat → Int32} {xgone : Int32} {xover : Nat → Int32} {xtape : Nat → Int32} {xtaped : Int32} {xtok : Int32} {xbeg : Int32} {xend : Int32} {xval : Int64} {xwid : Nat → Int32} {xsiz : Nat → Int32} {xcel : Nat → Int32} {xcar : Nat → Int32} {r0 : Int32} (C0 : CX X p s m args meth c cX5_roadNow 4 (some .int) RX5 A) {k6 : (Nat → Int32) → Int32 → Int32 → Int32 → Option (Int32)} (hk6 : ∀ {v1 : Int32} {v2 : Int32} {v3 : Int32} {H : Heap} {locs : List Loc} {ls : Array Slot}, GX X D (tyM cI cC) A s (wM cI cC ad xs xkept xaside xisK xfound xgone xover xtape xtaped xtok xbeg xend xval xwid xsiz xcel xcar) H locs → lv_has ls 4 [(0, .ref (ad 0)), (1, .int v1), (2, .int v2), (3, .int v3)] → k6 xs v1 v2 v3 = some r0 → W p l e ({ frames := 0, cells := 0, slots := 0, locals := 0 }) s m args below meth c H locs 0 0 (MQ below (QcI D (tyM cI cC) (wM cI cC ad xs xkept xaside xisK xfound xgone xover xtape xtaped xtok xbeg xend xval xwid xsiz xcel xcar) A r0) args s 0 0 A) (F0 m 6 ls [])) : ∀ {v2 : Int32} {v3 : Int32} {t0 : Int32} {H : Heap} {locs : List Loc} {ls : Array Slot}, GX X D (tyM cI cC) A s (wM cI cC ad xs xkept xaside xisK xfound xgone xover xtape xtaped xtok xbeg xend xval xwid xsiz xcel xcar) H locs → lv_has ls 4 [(0, .ref (ad 0)), (2, .int v2), (3, .int v3)] → j5_roadNow_43 k6 xs v2 v3 t0 = some r0 → W p l e ({ frames := 0, cells := 0, slots := 0, locals := 0 }) s m args below meth c H locs 0 0 (MQ below (QcI D (tyM cI cC) (wM cI cC ad xs xkept xaside xisK xfound xgone xover xtape xtaped xtok xbeg xend xval xwid xsiz xcel xcar) A r0) args s 0 0 A) (F0 m 43 ls [.int t0]) := by
  have hx := C0.1
  have hb := C0.2.1
  have hown := C0.2.2.2.2.1
  have hts := C0.2.2.2.2.2.1
  have hX := C0.2.2.2.2.2.2.2.2
  intro v2 v3 t0 H locs ls G hl hf
  unfold j5_roadNow_43 at hf
  refine lv_istore_n (lv' := [(1, .int t0), (0, .ref (ad 0)), (2, .int v2), (3, .int v3)]) hx hb dX5_roadNow_43 rfl hl (by decide) rfl (fun ls hl => ?_)
  refine lv_iinc (v := (v3 + (1 : Int32))) (lv' := [(3, .int (v3 + (1 : Int32))), (1, .int t0), (0, .ref (ad 0)), (2, .int v2)]) hx hb dX5_roadNow_44 hl (k := 3) rfl rfl (by decide) rfl (fun ls hl => ?_)
  refine lv_goto (tgt := 6) hx hb dX5_roadNow_47 (by decide) ?_
  exact hk6 G (lv_sub hl [2, 1, 3, 0] rfl) hf
set_option maxHeartbeats 4000000 in
set_option maxRecDepth 100000 in
theorem b5_roadNow_32 {X : XP} {p : Program} {l : Launch} {e : Env} {s : State} {m : MethodId} {args : Array Value} {below : List Frame} {meth : Method} {c : Code} {D : va_G} {cI cC : ClassId} {ad : Nat → Nat} {A : Nat → Prop} {xs : Nat → Int32} {xkept : Nat → Int32} {xaside : Nat → Int32} {xisK : Int32} {xfound : Nat → Int32} {xgone : Int32} {xover : Nat → Int32} {xtape : Nat → Int32} {xtaped : Int32} {xtok : Int32} {xbeg : Int32} {xend : Int32} {xval : Int64} {xwid : Nat → Int32} {xsiz : Nat → Int32} {xcel : Nat → Int32} {xcar : Nat → Int32} {r0 : Int32} (C0 : CX X p s m args meth c cX5_roadNow 4 (some .int) RX5 A) {k6 : (Nat → Int32) → Int32 → Int32 → Int32 → Option (Int32)} (hk6 : ∀ {v1 : Int32} {v2 : Int32} {v3 : Int32} {H : Heap} {locs : List Loc} {ls : Array Slot}, GX X D (tyM cI cC) A s (wM cI cC ad xs xkept xaside xisK xfound xgone xover xtape xtaped xtok xbeg xend xval xwid xsiz xcel xcar) H locs → lv_has ls 4 [(0, .ref (ad 0)), (1, .int v1), (2, .int v2), (3, .int v3)] → k6 xs v1 v2 v3 = some r0 → W p l e ({ frames := 0, cells := 0, slots := 0, locals := 0 }) s m args below meth c H locs 0 0 (MQ below (QcI D (tyM cI cC) (wM cI cC ad xs xkept xaside xisK xfound xgone xover xtape xtaped xtok xbeg xend xval xwid xsiz xcel xcar) A r0) args s 0 0 A) (F0 m 6 ls [])) : ∀ {v1 : Int32} {v3 : Int32} {t0 : Int32} {H : Heap} {locs : List Loc} {ls : Array Slot}, GX X D (tyM cI cC) A s (wM cI cC ad xs xkept xaside xisK xfound xgone xover xtape xtaped xtok xbeg xend xval xwid xsiz xcel xcar) H locs → lv_has ls 4 [(0, .ref (ad 0)), (1, .int v1), (3, .int v3)] → j5_roadNow_32 k6 xs v1 v3 t0 = some r0 → W p l e ({ frames := 0, cells := 0, slots := 0, locals := 0 }) s m args below meth c H locs 0 0 (MQ below (QcI D (tyM cI cC) (wM cI cC ad xs xkept xaside xisK xfound xgone xover xtape xtaped xtok xbeg xend xval xwid xsiz xcel xcar) A r0) args s 0 0 A) (F0 m 32 ls [.int t0]) := by
  have hx := C0.1
  have hb := C0.2.1
  have hown := C0.2.2.2.2.1
  have hts := C0.2.2.2.2.2.1
  have hX := C0.2.2.2.2.2.2.2.2
  intro v1 v3 t0 H locs ls G hl hf
  unfold j5_roadNow_32 at hf
  refine lv_istore_n (lv' := [(2, .int t0), (0, .ref (ad 0)), (1, .int v1), (3, .int v3)]) hx hb dX5_roadNow_32 rfl hl (by decide) rfl (fun ls hl => ?_)
  refine lv_iload_n hx hb dX5_roadNow_33 rfl (lv_at hl 0 rfl) ?_
  refine lv_iload_n hx hb dX5_roadNow_34 rfl (lv_at hl 2 rfl) ?_
  refine lv_icmp_le (tgt := 42) hx hb dX5_roadNow_35 (by decide) (fun hc4 => ?_) (fun hc4 => ?_)
  · have hf := itp hc4 hf
    refine lv_iload_n hx hb dX5_roadNow_42 rfl (lv_at hl 2 rfl) ?_
    exact b5_roadNow_43 C0 hk6 G (lv_sub hl [1, 0, 3] rfl) hf
  · have hf := itn hc4 hf
    refine lv_iload_n hx hb dX5_roadNow_38 rfl (lv_at hl 0 rfl) ?_
    refine lv_goto (tgt := 43) hx hb dX5_roadNow_39 (by decide) ?_
    exact b5_roadNow_43 C0 hk6 G (lv_sub hl [1, 0, 3] rfl) hf
set_option maxHeartbeats 4000000 in
set_option maxRecDepth 100000 in
theorem b5_roadNow_6 {X : XP} {p : Program} {l : Launch} {e : Env} {s : State} {m : MethodId} {args : Array Value} {below : List Frame} {meth : Method} {c : Code} {D : va_G} {cI cC : ClassId} {ad : Nat → Nat} {A : Nat → Prop} {xs : Nat → Int32} {xkept : Nat → Int32} {xaside : Nat → Int32} {xisK : Int32} {xfound : Nat → Int32} {xgone : Int32} {xover : Nat → Int32} {xtape : Nat → Int32} {xtaped : Int32} {xtok : Int32} {xbeg : Int32} {xend : Int32} {xval : Int64} {xwid : Nat → Int32} {xsiz : Nat → Int32} {xcel : Nat → Int32} {xcar : Nat → Int32} {r0 : Int32} (C0 : CX X p s m args meth c cX5_roadNow 4 (some .int) RX5 A) : ∀ (n : Nat) {v1 : Int32} {v2 : Int32} {v3 : Int32} {H : Heap} {locs : List Loc} {ls : Array Slot}, GX X D (tyM cI cC) A s (wM cI cC ad xs xkept xaside xisK xfound xgone xover xtape xtaped xtok xbeg xend xval xwid xsiz xcel xcar) H locs → lv_has ls 4 [(0, .ref (ad 0)), (1, .int v1), (2, .int v2), (3, .int v3)] → l5_roadNow_6  n xs v1 v2 v3 = some r0 → W p l e ({ frames := 0, cells := 0, slots := 0, locals := 0 }) s m args below meth c H locs 0 0 (MQ below (QcI D (tyM cI cC) (wM cI cC ad xs xkept xaside xisK xfound xgone xover xtape xtaped xtok xbeg xend xval xwid xsiz xcel xcar) A r0) args s 0 0 A) (F0 m 6 ls []) := by
  have hx := C0.1
  have hb := C0.2.1
  have hown := C0.2.2.2.2.1
  have hts := C0.2.2.2.2.2.1
  have hX := C0.2.2.2.2.2.2.2.2
  intro n
  induction n with
  | zero =>
    intro _ _ _ _ _ _ G hl hf
    cases hf
  | succ n ih =>
    intro v1 v2 v3 H locs ls G hl hf
    rw [l5_roadNow_6] at hf
    refine lv_iload_n hx hb dX5_roadNow_6 rfl (lv_at hl 3 rfl) ?_
    refine lv_bipush (v := (16 : Int32)) hx hb dX5_roadNow_7 (by decide) ?_
    refine lv_icmp_ge (tgt := 50) hx hb dX5_roadNow_9 (by decide) (fun hc1 => ?_) (fun hc1 => ?_)
    · have hf := itp hc1 hf
      refine lv_iload_n hx hb dX5_roadNow_50 rfl (lv_at hl 1 rfl) ?_
      obtain rfl := inj1 hf
      exact ret_i C0 G dX5_roadNow_51
    · have hf := itn hc1 hf
      refine lv_aload_n hx hb dX5_roadNow_12 rfl (lv_at hl 0 rfl) ?_
      refine s_get (C := RX5) (T := TX5) C0 G i_X5 0 0 rfl rfl (by decide) q713 rfl dX5_roadNow_13 ?_
      refine lv_bipush (v := (6 : Int32)) hx hb dX5_roadNow_16 (by decide) ?_
      refine lv_iload_n hx hb dX5_roadNow_18 rfl (lv_at hl 3 rfl) ?_
      refine lv_iadd hx hb dX5_roadNow_19 ?_
      obtain ⟨hi2, hf⟩ := gd_s hf
      refine s_iald (k := ((6 : Int32) + v3).toNatClampNeg) C0 G 1 0 rfl rfl (vin hi2) rfl dX5_roadNow_20 ?_
      refine lv_iconst (v := (5 : Int32)) hx hb dX5_roadNow_21 (by decide) ?_
      refine lv_icmp_lt (tgt := 31) hx hb dX5_roadNow_22 (by decide) (fun hc3 => ?_) (fun hc3 => ?_)
      · have hf := itp hc3 hf
        refine lv_iconst (v := (0 : Int32)) hx hb dX5_roadNow_31 (by decide) ?_
        exact b5_roadNow_32 C0 ih G (lv_sub hl [0, 1, 3] rfl) hf
      · have hf := itn hc3 hf
        refine lv_iload_n hx hb dX5_roadNow_25 rfl (lv_at hl 2 rfl) ?_
        refine lv_iconst (v := (1 : Int32)) hx hb dX5_roadNow_26 (by decide) ?_
        refine lv_iadd hx hb dX5_roadNow_27 ?_
        refine lv_goto (tgt := 32) hx hb dX5_roadNow_28 (by decide) ?_
        exact b5_roadNow_32 C0 ih G (lv_sub hl [0, 1, 3] rfl) hf
set_option maxHeartbeats 4000000 in
set_option maxRecDepth 100000 in
theorem b5_roadNow_0 {X : XP} {p : Program} {l : Launch} {e : Env} {s : State} {m : MethodId} {args : Array Value} {below : List Frame} {meth : Method} {c : Code} {D : va_G} {cI cC : ClassId} {ad : Nat → Nat} {A : Nat → Prop} {xs : Nat → Int32} {xkept : Nat → Int32} {xaside : Nat → Int32} {xisK : Int32} {xfound : Nat → Int32} {xgone : Int32} {xover : Nat → Int32} {xtape : Nat → Int32} {xtaped : Int32} {xtok : Int32} {xbeg : Int32} {xend : Int32} {xval : Int64} {xwid : Nat → Int32} {xsiz : Nat → Int32} {xcel : Nat → Int32} {xcar : Nat → Int32} {r0 : Int32} (C0 : CX X p s m args meth c cX5_roadNow 4 (some .int) RX5 A) : ∀ {H : Heap} {locs : List Loc} {ls : Array Slot}, GX X D (tyM cI cC) A s (wM cI cC ad xs xkept xaside xisK xfound xgone xover xtape xtaped xtok xbeg xend xval xwid xsiz xcel xcar) H locs → lv_has ls 4 [(0, .ref (ad 0))] → f5_roadNow xs = some r0 → W p l e ({ frames := 0, cells := 0, slots := 0, locals := 0 }) s m args below meth c H locs 0 0 (MQ below (QcI D (tyM cI cC) (wM cI cC ad xs xkept xaside xisK xfound xgone xover xtape xtaped xtok xbeg xend xval xwid xsiz xcel xcar) A r0) args s 0 0 A) (F0 m 0 ls []) := by
  have hx := C0.1
  have hb := C0.2.1
  have hown := C0.2.2.2.2.1
  have hts := C0.2.2.2.2.2.1
  have hX := C0.2.2.2.2.2.2.2.2
  intro H locs ls G hl hf
  unfold f5_roadNow at hf
  refine lv_iconst (v := (0 : Int32)) hx hb dX5_roadNow_0 (by decide) ?_
  refine lv_istore_n (lv' := [(1, .int (0 : Int32)), (0, .ref (ad 0))]) hx hb dX5_roadNow_1 rfl hl (by decide) rfl (fun ls hl => ?_)
  refine lv_iconst (v := (0 : Int32)) hx hb dX5_roadNow_2 (by decide) ?_
  refine lv_istore_n (lv' := [(2, .int (0 : Int32)), (1, .int (0 : Int32)), (0, .ref (ad 0))]) hx hb dX5_roadNow_3 rfl hl (by decide) rfl (fun ls hl => ?_)
  refine lv_iconst (v := (0 : Int32)) hx hb dX5_roadNow_4 (by decide) ?_
  refine lv_istore_n (lv' := [(3, .int (0 : Int32)), (2, .int (0 : Int32)), (1, .int (0 : Int32)), (0, .ref (ad 0))]) hx hb dX5_roadNow_5 rfl hl (by decide) rfl (fun ls hl => ?_)
  exact b5_roadNow_6 C0  1000 G (lv_sub hl [3, 2, 1, 0] rfl) hf
theorem o5_roadNow : okName yX5_roadNow 0 := ⟨by decide, by decide, by decide +kernel⟩
set_option maxHeartbeats 4000000 in
set_option maxRecDepth 100000 in
theorem c5_roadNow {X : XP} (hX : XT X) {l : Launch} {D : va_G} {cI cC : ClassId} {ad : Nat → Nat} {sz : Nat} {xs : Nat → Int32} {xkept : Nat → Int32} {xaside : Nat → Int32} {xisK : Int32} {xfound : Nat → Int32} {xgone : Int32} {xover : Nat → Int32} {xtape : Nat → Int32} {xtaped : Int32} {xtok : Int32} {xbeg : Int32} {xend : Int32} {xval : Int64} {xwid : Nat → Int32} {xsiz : Nat → Int32} {xcel : Nat → Int32} {xcar : Nat → Int32}  {r0 : Int32} (hf : f5_roadNow xs = some r0) : Met l yX5_roadNow (wU yX5_roadNow cX5_roadNow 4 (some .int)) ({ frames := 0, cells := 0, slots := 0, locals := 0 }) (va_Pc [.ref (ad 0)] (PreW X D (tyM cI cC) (wM cI cC ad xs xkept xaside xisK xfound xgone xover xtape xtaped xtok xbeg xend xval xwid xsiz xcel xcar) sz)) (QcI D (tyM cI cC) (wM cI cC ad xs xkept xaside xisK xfound xgone xover xtape xtaped xtok xbeg xend xval xwid xsiz xcel xcar) (va_A (wM cI cC ad xs xkept xaside xisK xfound xgone xover xtape xtaped xtok xbeg xend xval xwid xsiz xcel xcar) sz) r0) 0 0 (va_A (wM cI cC ad xs xkept xaside xisK xfound xgone xover xtape xtaped xtok xbeg xend xval xwid xsiz xcel xcar) sz) := by
  refine startW hX (own := RX5) (by decide) rfl (Nat.le_of_ble_eq_true rfl) (fun p e s m args below meth c ls C0 G hl => ?_)
  exact b5_roadNow_0 C0 G hl hf
/-! 5_go -/
theorem dX5_go_0 : decode cX5_go 0 = .ok (.iload_n 1, 1) := by decide +kernel
theorem dX5_go_1 : decode cX5_go 1 = .ok (.iconst 1, 1) := by decide +kernel
theorem dX5_go_2 : decode cX5_go 2 = .ok (.bipush 60, 2) := by decide +kernel
theorem dX5_go_4 : decode cX5_go 4 = .ok (.invokestatic 51, 3) := by decide +kernel
theorem dX5_go_7 : decode cX5_go 7 = .ok (.ifCond .ne 9, 3) := by decide +kernel
theorem dX5_go_10 : decode cX5_go 10 = .ok (.aload_n 0, 1) := by decide +kernel
theorem dX5_go_11 : decode cX5_go 11 = .ok (.iconst 0, 1) := by decide +kernel
theorem dX5_go_12 : decode cX5_go 12 = .ok (.invokevirtual 105, 3) := by decide +kernel
theorem dX5_go_15 : decode cX5_go 15 = .ok (.ireturn, 1) := by decide +kernel
theorem dX5_go_16 : decode cX5_go 16 = .ok (.aload_n 0, 1) := by decide +kernel
theorem dX5_go_17 : decode cX5_go 17 = .ok (.getfield 9, 3) := by decide +kernel
theorem dX5_go_20 : decode cX5_go 20 = .ok (.iconst 0, 1) := by decide +kernel
theorem dX5_go_21 : decode cX5_go 21 = .ok (.iaload, 1) := by decide +kernel
theorem dX5_go_22 : decode cX5_go 22 = .ok (.iload_n 1, 1) := by decide +kernel
theorem dX5_go_23 : decode cX5_go 23 = .ok (.iadd, 1) := by decide +kernel
theorem dX5_go_24 : decode cX5_go 24 = .ok (.ldc 101, 2) := by decide +kernel
theorem dX5_go_26 : decode cX5_go 26 = .ok (.if_icmp .le 9, 3) := by decide +kernel
theorem dX5_go_29 : decode cX5_go 29 = .ok (.aload_n 0, 1) := by decide +kernel
theorem dX5_go_30 : decode cX5_go 30 = .ok (.iconst 4, 1) := by decide +kernel
theorem dX5_go_31 : decode cX5_go 31 = .ok (.invokevirtual 105, 3) := by decide +kernel
theorem dX5_go_34 : decode cX5_go 34 = .ok (.ireturn, 1) := by decide +kernel
theorem dX5_go_35 : decode cX5_go 35 = .ok (.aload_n 0, 1) := by decide +kernel
theorem dX5_go_36 : decode cX5_go 36 = .ok (.iload_n 1, 1) := by decide +kernel
theorem dX5_go_37 : decode cX5_go 37 = .ok (.invokevirtual 120, 3) := by decide +kernel
theorem dX5_go_40 : decode cX5_go 40 = .ok (.aload_n 0, 1) := by decide +kernel
theorem dX5_go_41 : decode cX5_go 41 = .ok (.invokevirtual 123, 3) := by decide +kernel
theorem dX5_go_44 : decode cX5_go 44 = .ok (.ireturn, 1) := by decide +kernel
def f5_go (xs : Nat → Int32) (xfound : Nat → Int32) (xgone : Int32) (xover : Nat → Int32) (v1 : Int32) : Option (Int32 × (Nat → Int32) × (Nat → Int32) × (Nat → Int32)) :=
  if (f5_in1 v1 (1 : Int32) (60 : Int32)) = (0 : Int32) then (
    ob2 (f5_no xfound (0 : Int32)) (fun r11 xfound_12 =>
    some (r11, xs, xfound_12, xover)))
  else (
    if ((xs 0) + v1) ≤ (99999 : Int32) then (
      ob2 (f5_goes xs xgone xover v1) (fun xs_3 xover_4 =>
      ob1 (f5_roadNow xs_3) (fun r6 =>
      some (r6, xs_3, xfound, xover_4))))
    else (
      ob2 (f5_no xfound (4 : Int32)) (fun r8 xfound_9 =>
      some (r8, xs, xfound_9, xover))))
set_option maxHeartbeats 4000000 in
set_option maxRecDepth 100000 in
theorem b5_go_0 {X : XP} {p : Program} {l : Launch} {e : Env} {s : State} {m : MethodId} {args : Array Value} {below : List Frame} {meth : Method} {c : Code} {D : va_G} {cI cC : ClassId} {ad : Nat → Nat} {A : Nat → Prop} {xkept : Nat → Int32} {xaside : Nat → Int32} {xisK : Int32} {xgone : Int32} {xtape : Nat → Int32} {xtaped : Int32} {xtok : Int32} {xbeg : Int32} {xend : Int32} {xval : Int64} {xwid : Nat → Int32} {xsiz : Nat → Int32} {xcel : Nat → Int32} {xcar : Nat → Int32} {r0 : Int32} {o_xs : Nat → Int32} {o_xfound : Nat → Int32} {o_xover : Nat → Int32} (C0 : CX X p s m args meth c cX5_go 2 (some .int) RX5 A) : ∀ {xs : Nat → Int32} {xfound : Nat → Int32} {xover : Nat → Int32} {v1 : Int32} {H : Heap} {locs : List Loc} {ls : Array Slot}, GX X D (tyM cI cC) A s (wM cI cC ad xs xkept xaside xisK xfound xgone xover xtape xtaped xtok xbeg xend xval xwid xsiz xcel xcar) H locs → lv_has ls 2 [(0, .ref (ad 0)), (1, .int v1)] → f5_go xs xfound xgone xover v1 = some (r0, o_xs, o_xfound, o_xover) → W p l e ({ frames := 7, cells := 0, slots := 0, locals := 165 }) s m args below meth c H locs 0 0 (MQ below (QcI D (tyM cI cC) (wM cI cC ad o_xs xkept xaside xisK o_xfound xgone o_xover xtape xtaped xtok xbeg xend xval xwid xsiz xcel xcar) A r0) args s 0 0 A) (F0 m 0 ls []) := by
  have hx := C0.1
  have hb := C0.2.1
  have hown := C0.2.2.2.2.1
  have hts := C0.2.2.2.2.2.1
  have hX := C0.2.2.2.2.2.2.2.2
  intro xs xfound xover v1 H locs ls G hl hf
  unfold f5_go at hf
  refine lv_iload_n hx hb dX5_go_0 rfl (lv_at hl 1 rfl) ?_
  refine lv_iconst (v := (1 : Int32)) hx hb dX5_go_1 (by decide) ?_
  refine lv_bipush (v := (60 : Int32)) hx hb dX5_go_2 (by decide) ?_
  refine go_i C0 G (runS_of (n := 3) (As := [.int v1, .int (1 : Int32), .int (60 : Int32)]) (rest := []) C0 G (c5_in1 hX rfl) q784 q54 q782 q783 o5_in1 ⟨rfl, rfl⟩ ⟨Nat.le_of_ble_eq_true rfl, Nat.le_of_ble_eq_true rfl⟩ rfl hl.1 rfl (Nat.le_of_ble_eq_true rfl) dX5_go_4) (fun H locs G => ?_)
  refine lv_if_ne (tgt := 16) hx hb dX5_go_7 (by decide) (fun hc1 => ?_) (fun hc1 => ?_)
  · have hf := itn hc1 hf
    refine lv_aload_n hx hb dX5_go_16 rfl (lv_at hl 0 rfl) ?_
    refine s_get (C := RX5) (T := TX5) C0 G i_X5 0 0 rfl rfl (by decide) q713 rfl dX5_go_17 ?_
    refine lv_iconst (v := (0 : Int32)) hx hb dX5_go_20 (by decide) ?_
    refine s_iald (k := 0) C0 G 1 0 rfl rfl (vin (by decide)) (by decide) dX5_go_21 ?_
    refine lv_iload_n hx hb dX5_go_22 rfl (lv_at hl 1 rfl) ?_
    refine lv_iadd hx hb dX5_go_23 ?_
    refine lv_ldc (v := (99999 : Int32)) hx hb hown (hts _ q867) dX5_go_24 ?_
    refine lv_icmp_le (tgt := 35) hx hb dX5_go_26 (by decide) (fun hc2 => ?_) (fun hc2 => ?_)
    · have hf := itp hc2 hf
      refine lv_aload_n hx hb dX5_go_35 rfl (lv_at hl 0 rfl) ?_
      refine lv_iload_n hx hb dX5_go_36 rfl (lv_at hl 1 rfl) ?_
      obtain ⟨xs_3, xover_4, hc5, hf⟩ := ob2_s hf
      refine go_v C0 G (runV_of (n := 1) (q0 := 0) (As := [.int v1]) (rest := []) C0 G (c5_goes hX hc5) q871 q54 q868 q870 q20 o5_goes ⟨rfl, rfl⟩ ⟨Nat.le_of_ble_eq_true rfl, Nat.le_of_ble_eq_true rfl⟩ rfl rfl rfl hl.1 rfl (Nat.le_of_ble_eq_true rfl) dX5_go_37) (fun H locs G => ?_)
      refine lv_aload_n hx hb dX5_go_40 rfl (lv_at hl 0 rfl) ?_
      obtain ⟨r6, hc7, hf⟩ := ob1_s hf
      refine go_i C0 G (runV_of (n := 0) (q0 := 0) (As := []) (rest := []) C0 G (c5_roadNow hX hc7) q887 q54 q884 q886 q24 o5_roadNow ⟨rfl, rfl⟩ ⟨Nat.le_of_ble_eq_true rfl, Nat.le_of_ble_eq_true rfl⟩ rfl rfl rfl hl.1 rfl (Nat.le_of_ble_eq_true rfl) dX5_go_41) (fun H locs G => ?_)
      obtain ⟨rfl, rfl, rfl, rfl⟩ := inj4 hf
      exact ret_i C0 G dX5_go_44
    · have hf := itn hc2 hf
      refine lv_aload_n hx hb dX5_go_29 rfl (lv_at hl 0 rfl) ?_
      refine lv_iconst (v := (4 : Int32)) hx hb dX5_go_30 (by decide) ?_
      obtain ⟨r8, xfound_9, hc10, hf⟩ := ob2_s hf
      refine go_i C0 G (runV_of (n := 1) (q0 := 0) (As := [.int (4 : Int32)]) (rest := []) C0 G (c5_no hX hc10) q788 q54 q785 q787 q9 o5_no ⟨rfl, rfl⟩ ⟨Nat.le_of_ble_eq_true rfl, Nat.le_of_ble_eq_true rfl⟩ rfl rfl rfl hl.1 rfl (Nat.le_of_ble_eq_true rfl) dX5_go_31) (fun H locs G => ?_)
      obtain ⟨rfl, rfl, rfl, rfl⟩ := inj4 hf
      exact ret_i C0 G dX5_go_34
  · have hf := itp hc1 hf
    refine lv_aload_n hx hb dX5_go_10 rfl (lv_at hl 0 rfl) ?_
    refine lv_iconst (v := (0 : Int32)) hx hb dX5_go_11 (by decide) ?_
    obtain ⟨r11, xfound_12, hc13, hf⟩ := ob2_s hf
    refine go_i C0 G (runV_of (n := 1) (q0 := 0) (As := [.int (0 : Int32)]) (rest := []) C0 G (c5_no hX hc13) q788 q54 q785 q787 q9 o5_no ⟨rfl, rfl⟩ ⟨Nat.le_of_ble_eq_true rfl, Nat.le_of_ble_eq_true rfl⟩ rfl rfl rfl hl.1 rfl (Nat.le_of_ble_eq_true rfl) dX5_go_12) (fun H locs G => ?_)
    obtain ⟨rfl, rfl, rfl, rfl⟩ := inj4 hf
    exact ret_i C0 G dX5_go_15
theorem o5_go : okName yX5_go 1 := ⟨by decide, by decide, by decide +kernel⟩
set_option maxHeartbeats 4000000 in
set_option maxRecDepth 100000 in
theorem c5_go {X : XP} (hX : XT X) {l : Launch} {D : va_G} {cI cC : ClassId} {ad : Nat → Nat} {sz : Nat} {xs : Nat → Int32} {xkept : Nat → Int32} {xaside : Nat → Int32} {xisK : Int32} {xfound : Nat → Int32} {xgone : Int32} {xover : Nat → Int32} {xtape : Nat → Int32} {xtaped : Int32} {xtok : Int32} {xbeg : Int32} {xend : Int32} {xval : Int64} {xwid : Nat → Int32} {xsiz : Nat → Int32} {xcel : Nat → Int32} {xcar : Nat → Int32} {v1 : Int32} {r0 : Int32} {o_xs : Nat → Int32} {o_xfound : Nat → Int32} {o_xover : Nat → Int32} (hf : f5_go xs xfound xgone xover v1 = some (r0, o_xs, o_xfound, o_xover)) : Met l yX5_go (wU yX5_go cX5_go 2 (some .int)) ({ frames := 7, cells := 0, slots := 0, locals := 165 }) (va_Pc [.ref (ad 0), .int v1] (PreW X D (tyM cI cC) (wM cI cC ad xs xkept xaside xisK xfound xgone xover xtape xtaped xtok xbeg xend xval xwid xsiz xcel xcar) sz)) (QcI D (tyM cI cC) (wM cI cC ad o_xs xkept xaside xisK o_xfound xgone o_xover xtape xtaped xtok xbeg xend xval xwid xsiz xcel xcar) (va_A (wM cI cC ad xs xkept xaside xisK xfound xgone xover xtape xtaped xtok xbeg xend xval xwid xsiz xcel xcar) sz) r0) 0 0 (va_A (wM cI cC ad xs xkept xaside xisK xfound xgone xover xtape xtaped xtok xbeg xend xval xwid xsiz xcel xcar) sz) := by
  refine startW hX (own := RX5) (by decide) rfl (Nat.le_of_ble_eq_true rfl) (fun p e s m args below meth c ls C0 G hl => ?_)
  exact b5_go_0 C0 G hl hf
