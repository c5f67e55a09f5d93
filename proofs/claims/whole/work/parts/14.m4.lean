/-! 5_seed -/
theorem dX5_seed_0 : decode cX5_seed 0 = .ok (.aload_n 0, 1) := by decide +kernel
theorem dX5_seed_1 : decode cX5_seed 1 = .ok (.getfield 9, 3) := by decide +kernel
theorem dX5_seed_4 : decode cX5_seed 4 = .ok (.iconst 2, 1) := by decide +kernel
theorem dX5_seed_5 : decode cX5_seed 5 = .ok (.iaload, 1) := by decide +kernel
theorem dX5_seed_6 : decode cX5_seed 6 = .ok (.istore_n 2, 1) := by decide +kernel
theorem dX5_seed_7 : decode cX5_seed 7 = .ok (.aload_n 0, 1) := by decide +kernel
theorem dX5_seed_8 : decode cX5_seed 8 = .ok (.getfield 9, 3) := by decide +kernel
theorem dX5_seed_11 : decode cX5_seed 11 = .ok (.iconst 2, 1) := by decide +kernel
theorem dX5_seed_12 : decode cX5_seed 12 = .ok (.iload_n 1, 1) := by decide +kernel
theorem dX5_seed_13 : decode cX5_seed 13 = .ok (.iastore, 1) := by decide +kernel
theorem dX5_seed_14 : decode cX5_seed 14 = .ok (.iload_n 2, 1) := by decide +kernel
theorem dX5_seed_15 : decode cX5_seed 15 = .ok (.ireturn, 1) := by decide +kernel
def f5_seed (xs : Nat → Int32) (v1 : Int32) : Option (Int32 × (Nat → Int32)) :=
  some ((xs 2), (upd xs 2 v1))
set_option maxHeartbeats 4000000 in
set_option maxRecDepth 100000 in
theorem b5_seed_0 {X : XP} {p : Program} {l : Launch} {e : Env} {s : State} {m : MethodId} {args : Array Value} {below : List Frame} {meth : Method} {c : Code} {D : va_G} {cI cC : ClassId} {ad : Nat → Nat} {A : Nat → Prop} {xkept : Nat → Int32} {xaside : Nat → Int32} {xisK : Int32} {xfound : Nat → Int32} {xgone : Int32} {xover : Nat → Int32} {xtape : Nat → Int32} {xtaped : Int32} {xtok : Int32} {xbeg : Int32} {xend : Int32} {xval : Int64} {xwid : Nat → Int32} {xsiz : Nat → Int32} {xcel : Nat → Int32} {xcar : Nat → Int32} {r0 : Int32} {o_xs : Nat → Int32} (C0 : CX X p s m args meth c cX5_seed 3 (some .int) RX5 A) : ∀ {xs : Nat → Int32} {v1 : Int32} {H : Heap} {locs : List Loc} {ls : Array Slot}, GX X D (tyM cI cC) A s (wM cI cC ad xs xkept xaside xisK xfound xgone xover xtape xtaped xtok xbeg xend xval xwid xsiz xcel xcar) H locs → lv_has ls 3 [(0, .ref (ad 0)), (1, .int v1)] → f5_seed xs v1 = some (r0, o_xs) → W p l e ({ frames := 0, cells := 0, slots := 0, locals := 0 }) s m args below meth c H locs 0 0 (MQ below (QcI D (tyM cI cC) (wM cI cC ad o_xs xkept xaside xisK xfound xgone xover xtape xtaped xtok xbeg xend xval xwid xsiz xcel xcar) A r0) args s 0 0 A) (F0 m 0 ls []) := by
  have hx := C0.1
  have hb := C0.2.1
  have hown := C0.2.2.2.2.1
  have hts := C0.2.2.2.2.2.1
  have hX := C0.2.2.2.2.2.2.2.2
  intro xs v1 H locs ls G hl hf
  unfold f5_seed at hf
  refine lv_aload_n hx hb dX5_seed_0 rfl (lv_at hl 0 rfl) ?_
  refine s_get (C := RX5) (T := TX5) C0 G i_X5 0 0 rfl rfl (by decide) q713 rfl dX5_seed_1 ?_
  refine lv_iconst (v := (2 : Int32)) hx hb dX5_seed_4 (by decide) ?_
  refine s_iald (k := 2) C0 G 1 0 rfl rfl (vin (by decide)) (by decide) dX5_seed_5 ?_
  refine lv_istore_n (lv' := [(2, .int (xs 2)), (0, .ref (ad 0)), (1, .int v1)]) hx hb dX5_seed_6 rfl hl (by decide) rfl (fun ls hl => ?_)
  refine lv_aload_n hx hb dX5_seed_7 rfl (lv_at hl 1 rfl) ?_
  refine s_get (C := RX5) (T := TX5) C0 G i_X5 0 0 rfl rfl (by decide) q713 rfl dX5_seed_8 ?_
  refine lv_iconst (v := (2 : Int32)) hx hb dX5_seed_11 (by decide) ?_
  refine lv_iload_n hx hb dX5_seed_12 rfl (lv_at hl 2 rfl) ?_
  refine s_iast (k := 2) (w' := (wM cI cC ad (upd xs 2 v1) xkept xaside xisK xfound xgone xover xtape xtaped xtok xbeg xend xval xwid xsiz xcel xcar)) C0 G 1 0 rfl rfl (vin (by decide)) (by decide) rfl dX5_seed_13 (fun H locs G => ?_)
  refine lv_iload_n hx hb dX5_seed_14 rfl (lv_at hl 0 rfl) ?_
  obtain ⟨rfl, rfl⟩ := inj2 hf
  exact ret_i C0 G dX5_seed_15
theorem o5_seed : okName yX5_seed 1 := ⟨by decide, by decide, by decide +kernel⟩
set_option maxHeartbeats 4000000 in
set_option maxRecDepth 100000 in
theorem c5_seed {X : XP} (hX : XT X) {l : Launch} {D : va_G} {cI cC : ClassId} {ad : Nat → Nat} {sz : Nat} {xs : Nat → Int32} {xkept : Nat → Int32} {xaside : Nat → Int32} {xisK : Int32} {xfound : Nat → Int32} {xgone : Int32} {xover : Nat → Int32} {xtape : Nat → Int32} {xtaped : Int32} {xtok : Int32} {xbeg : Int32} {xend : Int32} {xval : Int64} {xwid : Nat → Int32} {xsiz : Nat → Int32} {xcel : Nat → Int32} {xcar : Nat → Int32} {v1 : Int32} {r0 : Int32} {o_xs : Nat → Int32} (hf : f5_seed xs v1 = some (r0, o_xs)) : Met l yX5_seed (wU yX5_seed cX5_seed 3 (some .int)) ({ frames := 0, cells := 0, slots := 0, locals := 0 }) (va_Pc [.ref (ad 0), .int v1] (PreW X D (tyM cI cC) (wM cI cC ad xs xkept xaside xisK xfound xgone xover xtape xtaped xtok xbeg xend xval xwid xsiz xcel xcar) sz)) (QcI D (tyM cI cC) (wM cI cC ad o_xs xkept xaside xisK xfound xgone xover xtape xtaped xtok xbeg xend xval xwid xsiz xcel xcar) (va_A (wM cI cC ad xs xkept xaside xisK xfound xgone xover xtape xtaped xtok xbeg xend xval xwid xsiz xcel xcar) sz) r0) 0 0 (va_A (wM cI cC ad xs xkept xaside xisK xfound xgone xover xtape xtaped xtok xbeg xend xval xwid xsiz xcel xcar) sz) := by
  refine startW hX (own := RX5) (by decide) rfl (Nat.le_of_ble_eq_true rfl) (fun p e s m args below meth c ls C0 G hl => ?_)
  exact b5_seed_0 C0 G hl hf
/-! 5_feed -/
theorem dX5_feed_0 : decode cX5_feed 0 = .ok (.iload_n 2, 1) := by decide +kernel
theorem dX5_feed_1 : decode cX5_feed 1 = .ok (.iconst 1, 1) := by decide +kernel
theorem dX5_feed_2 : decode cX5_feed 2 = .ok (.iconst 4, 1) := by decide +kernel
theorem dX5_feed_3 : decode cX5_feed 3 = .ok (.invokestatic 51, 3) := by decide +kernel
theorem dX5_feed_6 : decode cX5_feed 6 = .ok (.ifCond .ne 9, 3) := by decide +kernel
theorem dX5_feed_9 : decode cX5_feed 9 = .ok (.aload_n 0, 1) := by decide +kernel
theorem dX5_feed_10 : decode cX5_feed 10 = .ok (.iconst 0, 1) := by decide +kernel
theorem dX5_feed_11 : decode cX5_feed 11 = .ok (.invokevirtual 105, 3) := by decide +kernel
theorem dX5_feed_14 : decode cX5_feed 14 = .ok (.ireturn, 1) := by decide +kernel
theorem dX5_feed_15 : decode cX5_feed 15 = .ok (.aload_n 0, 1) := by decide +kernel
theorem dX5_feed_16 : decode cX5_feed 16 = .ok (.getfield 196, 3) := by decide +kernel
theorem dX5_feed_19 : decode cX5_feed 19 = .ok (.iload_n 2, 1) := by decide +kernel
theorem dX5_feed_20 : decode cX5_feed 20 = .ok (.iadd, 1) := by decide +kernel
theorem dX5_feed_21 : decode cX5_feed 21 = .ok (.bipush 120, 2) := by decide +kernel
theorem dX5_feed_23 : decode cX5_feed 23 = .ok (.if_icmp .le 9, 3) := by decide +kernel
theorem dX5_feed_26 : decode cX5_feed 26 = .ok (.aload_n 0, 1) := by decide +kernel
theorem dX5_feed_27 : decode cX5_feed 27 = .ok (.iconst 1, 1) := by decide +kernel
theorem dX5_feed_28 : decode cX5_feed 28 = .ok (.invokevirtual 105, 3) := by decide +kernel
theorem dX5_feed_31 : decode cX5_feed 31 = .ok (.ireturn, 1) := by decide +kernel
theorem dX5_feed_32 : decode cX5_feed 32 = .ok (.iload_n 2, 1) := by decide +kernel
theorem dX5_feed_33 : decode cX5_feed 33 = .ok (.iconst 1, 1) := by decide +kernel
theorem dX5_feed_34 : decode cX5_feed 34 = .ok (.isub, 1) := by decide +kernel
theorem dX5_feed_35 : decode cX5_feed 35 = .ok (.istore_n 3, 1) := by decide +kernel
theorem dX5_feed_36 : decode cX5_feed 36 = .ok (.iload_n 3, 1) := by decide +kernel
theorem dX5_feed_37 : decode cX5_feed 37 = .ok (.ifCond .lt 38, 3) := by decide +kernel
theorem dX5_feed_40 : decode cX5_feed 40 = .ok (.aload_n 0, 1) := by decide +kernel
theorem dX5_feed_41 : decode cX5_feed 41 = .ok (.getfield 25, 3) := by decide +kernel
theorem dX5_feed_44 : decode cX5_feed 44 = .ok (.aload_n 0, 1) := by decide +kernel
theorem dX5_feed_45 : decode cX5_feed 45 = .ok (.getfield 196, 3) := by decide +kernel
theorem dX5_feed_48 : decode cX5_feed 48 = .ok (.iload_n 1, 1) := by decide +kernel
theorem dX5_feed_49 : decode cX5_feed 49 = .ok (.bipush 8, 2) := by decide +kernel
theorem dX5_feed_51 : decode cX5_feed 51 = .ok (.iload_n 3, 1) := by decide +kernel
theorem dX5_feed_52 : decode cX5_feed 52 = .ok (.imul, 1) := by decide +kernel
theorem dX5_feed_53 : decode cX5_feed 53 = .ok (.ishr, 1) := by decide +kernel
theorem dX5_feed_54 : decode cX5_feed 54 = .ok (.sipush 255, 3) := by decide +kernel
theorem dX5_feed_57 : decode cX5_feed 57 = .ok (.iand, 1) := by decide +kernel
theorem dX5_feed_58 : decode cX5_feed 58 = .ok (.iastore, 1) := by decide +kernel
theorem dX5_feed_59 : decode cX5_feed 59 = .ok (.aload_n 0, 1) := by decide +kernel
theorem dX5_feed_60 : decode cX5_feed 60 = .ok (.dup, 1) := by decide +kernel
theorem dX5_feed_61 : decode cX5_feed 61 = .ok (.getfield 196, 3) := by decide +kernel
theorem dX5_feed_64 : decode cX5_feed 64 = .ok (.iconst 1, 1) := by decide +kernel
theorem dX5_feed_65 : decode cX5_feed 65 = .ok (.iadd, 1) := by decide +kernel
theorem dX5_feed_66 : decode cX5_feed 66 = .ok (.putfield 196, 3) := by decide +kernel
theorem dX5_feed_69 : decode cX5_feed 69 = .ok (.iinc 3 (-1), 3) := by decide +kernel
theorem dX5_feed_72 : decode cX5_feed 72 = .ok (.goto (-36), 3) := by decide +kernel
theorem dX5_feed_75 : decode cX5_feed 75 = .ok (.aload_n 0, 1) := by decide +kernel
theorem dX5_feed_76 : decode cX5_feed 76 = .ok (.getfield 196, 3) := by decide +kernel
theorem dX5_feed_79 : decode cX5_feed 79 = .ok (.ireturn, 1) := by decide +kernel
def l5_feed_36  : Nat → (Nat → Int32) → (Nat → Int32) → Int32 → Int32 → Int32 → Option (Int32 × (Nat → Int32) × (Nat → Int32) × Int32)
  | 0, _, _, _, _, _ => none
  | n + 1, xfound, xtape, xtaped, v1, v3 =>
    if v3 < (0 : Int32) then (
      some (xtaped, xfound, xtape, xtaped))
    else (
      gd (inb xtaped 120) (
      (l5_feed_36 n) xfound (upd xtape xtaped.toNatClampNeg ((v1 >>> (((8 : Int32) * v3) &&& 31)) &&& (255 : Int32))) (xtaped + (1 : Int32)) v1 (v3 + (-1 : Int32))))
def f5_feed (xfound : Nat → Int32) (xtape : Nat → Int32) (xtaped : Int32) (v1 : Int32) (v2 : Int32) : Option (Int32 × (Nat → Int32) × (Nat → Int32) × Int32) :=
  if (f5_in1 v2 (1 : Int32) (4 : Int32)) = (0 : Int32) then (
    ob2 (f5_no xfound (0 : Int32)) (fun r6 xfound_7 =>
    some (r6, xfound_7, xtape, xtaped)))
  else (
    if (xtaped + v2) ≤ (120 : Int32) then (
      l5_feed_36 1000 xfound xtape xtaped v1 (v2 - (1 : Int32)))
    else (
      ob2 (f5_no xfound (1 : Int32)) (fun r3 xfound_4 =>
      some (r3, xfound_4, xtape, xtaped))))
set_option maxHeartbeats 4000000 in
set_option maxRecDepth 100000 in
theorem b5_feed_36 {X : XP} {p : Program} {l : Launch} {e : Env} {s : State} {m : MethodId} {args : Array Value} {below : List Frame} {meth : Method} {c : Code} {D : va_G} {cI cC : ClassId} {ad : Nat → Nat} {A : Nat → Prop} {xs : Nat → Int32} {xkept : Nat → Int32} {xaside : Nat → Int32} {xisK : Int32} {xgone : Int32} {xover : Nat → Int32} {xtok : Int32} {xbeg : Int32} {xend : Int32} {xval : Int64} {xwid : Nat → Int32} {xsiz : Nat → Int32} {xcel : Nat → Int32} {xcar : Nat → Int32} {r0 : Int32} {o_xfound : Nat → Int32} {o_xtape : Nat → Int32} {o_xtaped : Int32} (C0 : CX X p s m args meth c cX5_feed 4 (some .int) RX5 A) : ∀ (n : Nat) {xfound : Nat → Int32} {xtape : Nat → Int32} {xtaped : Int32} {v1 : Int32} {v3 : Int32} {H : Heap} {locs : List Loc} {ls : Array Slot}, GX X D (tyM cI cC) A s (wM cI cC ad xs xkept xaside xisK xfound xgone xover xtape xtaped xtok xbeg xend xval xwid xsiz xcel xcar) H locs → lv_has ls 4 [(0, .ref (ad 0)), (1, .int v1), (3, .int v3)] → l5_feed_36  n xfound xtape xtaped v1 v3 = some (r0, o_xfound, o_xtape, o_xtaped) → W p l e ({ frames := 1, cells := 0, slots := 0, locals := 22 }) s m args below meth c H locs 0 0 (MQ below (QcI D (tyM cI cC) (wM cI cC ad xs xkept xaside xisK o_xfound xgone xover o_xtape o_xtaped xtok xbeg xend xval xwid xsiz xcel xcar) A r0) args s 0 0 A) (F0 m 36 ls []) := by
  have hx := C0.1
  have hb := C0.2.1
  have hown := C0.2.2.2.2.1
  have hts := C0.2.2.2.2.2.1
  have hX := C0.2.2.2.2.2.2.2.2
  intro n
  induction n with
  | zero =>
    intro _ _ _ _ _ _ _ _ G hl hf
    cases hf
  | succ n ih =>
    intro xfound xtape xtaped v1 v3 H locs ls G hl hf
    rw [l5_feed_36] at hf
    refine lv_iload_n hx hb dX5_feed_36 rfl (lv_at hl 2 rfl) ?_
    refine lv_if_lt (tgt := 75) hx hb dX5_feed_37 (by decide) (fun hc9 => ?_) (fun hc9 => ?_)
    · have hf := itp hc9 hf
      refine lv_aload_n hx hb dX5_feed_75 rfl (lv_at hl 0 rfl) ?_
      refine s_get (C := RX5) (T := TX5) C0 G i_X5 0 8 rfl rfl (by decide) q721 rfl dX5_feed_76 ?_
      obtain ⟨rfl, rfl, rfl, rfl⟩ := inj4 hf
      exact ret_i C0 G dX5_feed_79
    · have hf := itn hc9 hf
      refine lv_aload_n hx hb dX5_feed_40 rfl (lv_at hl 0 rfl) ?_
      refine s_get (C := RX5) (T := TX5) C0 G i_X5 0 7 rfl rfl (by decide) q720 rfl dX5_feed_41 ?_
      refine lv_aload_n hx hb dX5_feed_44 rfl (lv_at hl 0 rfl) ?_
      refine s_get (C := RX5) (T := TX5) C0 G i_X5 0 8 rfl rfl (by decide) q721 rfl dX5_feed_45 ?_
      refine lv_iload_n hx hb dX5_feed_48 rfl (lv_at hl 1 rfl) ?_
      refine lv_bipush (v := (8 : Int32)) hx hb dX5_feed_49 (by decide) ?_
      refine lv_iload_n hx hb dX5_feed_51 rfl (lv_at hl 2 rfl) ?_
      refine lv_imul hx hb dX5_feed_52 ?_
      refine lv_ishr hx hb dX5_feed_53 ?_
      refine lv_sipush (v := (255 : Int32)) hx hb dX5_feed_54 (by decide) ?_
      refine lv_iand hx hb dX5_feed_57 ?_
      obtain ⟨hi10, hf⟩ := gd_s hf
      refine s_iast (k := xtaped.toNatClampNeg) (w' := (wM cI cC ad xs xkept xaside xisK xfound xgone xover (upd xtape xtaped.toNatClampNeg ((v1 >>> (((8 : Int32) * v3) &&& 31)) &&& (255 : Int32))) xtaped xtok xbeg xend xval xwid xsiz xcel xcar)) C0 G 6 0 rfl rfl (vin hi10) rfl rfl dX5_feed_58 (fun H locs G => ?_)
      refine lv_aload_n hx hb dX5_feed_59 rfl (lv_at hl 0 rfl) ?_
      refine lv_dup hx hb dX5_feed_60 rfl ?_
      refine s_get (C := RX5) (T := TX5) C0 G i_X5 0 8 rfl rfl (by decide) q721 rfl dX5_feed_61 ?_
      refine lv_iconst (v := (1 : Int32)) hx hb dX5_feed_64 (by decide) ?_
      refine lv_iadd hx hb dX5_feed_65 ?_
      refine s_put (C := RX5) (T := TX5) (w' := (wM cI cC ad xs xkept xaside xisK xfound xgone xover (upd xtape xtaped.toNatClampNeg ((v1 >>> (((8 : Int32) * v3) &&& 31)) &&& (255 : Int32))) (xtaped + (1 : Int32)) xtok xbeg xend xval xwid xsiz xcel xcar)) C0 G i_X5 tyX5 tyX5_ok nmX5 0 8 rfl rfl (by decide) q721 rfl (ty := .int) (by decide +kernel) rfl rfl (Nat.le_of_ble_eq_true rfl) rfl dX5_feed_66 (fun H locs G => ?_)
      refine lv_iinc (v := (v3 + (-1 : Int32))) (lv' := [(3, .int (v3 + (-1 : Int32))), (0, .ref (ad 0)), (1, .int v1)]) hx hb dX5_feed_69 hl (k := 2) rfl rfl (by decide) rfl (fun ls hl => ?_)
      refine lv_goto (tgt := 36) hx hb dX5_feed_72 (by decide) ?_
      exact ih G (lv_sub hl [1, 2, 0] rfl) hf
set_option maxHeartbeats 4000000 in
set_option maxRecDepth 100000 in
theorem b5_feed_0 {X : XP} {p : Program} {l : Launch} {e : Env} {s : State} {m : MethodId} {args : Array Value} {below : List Frame} {meth : Method} {c : Code} {D : va_G} {cI cC : ClassId} {ad : Nat → Nat} {A : Nat → Prop} {xs : Nat → Int32} {xkept : Nat → Int32} {xaside : Nat → Int32} {xisK : Int32} {xgone : Int32} {xover : Nat → Int32} {xtok : Int32} {xbeg : Int32} {xend : Int32} {xval : Int64} {xwid : Nat → Int32} {xsiz : Nat → Int32} {xcel : Nat → Int32} {xcar : Nat → Int32} {r0 : Int32} {o_xfound : Nat → Int32} {o_xtape : Nat → Int32} {o_xtaped : Int32} (C0 : CX X p s m args meth c cX5_feed 4 (some .int) RX5 A) : ∀ {xfound : Nat → Int32} {xtape : Nat → Int32} {xtaped : Int32} {v1 : Int32} {v2 : Int32} {H : Heap} {locs : List Loc} {ls : Array Slot}, GX X D (tyM cI cC) A s (wM cI cC ad xs xkept xaside xisK xfound xgone xover xtape xtaped xtok xbeg xend xval xwid xsiz xcel xcar) H locs → lv_has ls 4 [(0, .ref (ad 0)), (1, .int v1), (2, .int v2)] → f5_feed xfound xtape xtaped v1 v2 = some (r0, o_xfound, o_xtape, o_xtaped) → W p l e ({ frames := 1, cells := 0, slots := 0, locals := 22 }) s m args below meth c H locs 0 0 (MQ below (QcI D (tyM cI cC) (wM cI cC ad xs xkept xaside xisK o_xfound xgone xover o_xtape o_xtaped xtok xbeg xend xval xwid xsiz xcel xcar) A r0) args s 0 0 A) (F0 m 0 ls []) := by
  have hx := C0.1
  have hb := C0.2.1
  have hown := C0.2.2.2.2.1
  have hts := C0.2.2.2.2.2.1
  have hX := C0.2.2.2.2.2.2.2.2
  intro xfound xtape xtaped v1 v2 H locs ls G hl hf
  unfold f5_feed at hf
  refine lv_iload_n hx hb dX5_feed_0 rfl (lv_at hl 2 rfl) ?_
  refine lv_iconst (v := (1 : Int32)) hx hb dX5_feed_1 (by decide) ?_
  refine lv_iconst (v := (4 : Int32)) hx hb dX5_feed_2 (by decide) ?_
  refine go_i C0 G (runS_of (n := 3) (As := [.int v2, .int (1 : Int32), .int (4 : Int32)]) (rest := []) C0 G (c5_in1 hX rfl) q784 q54 q782 q783 o5_in1 ⟨rfl, rfl⟩ ⟨Nat.le_of_ble_eq_true rfl, Nat.le_of_ble_eq_true rfl⟩ rfl hl.1 rfl (Nat.le_of_ble_eq_true rfl) dX5_feed_3) (fun H locs G => ?_)
  refine lv_if_ne (tgt := 15) hx hb dX5_feed_6 (by decide) (fun hc1 => ?_) (fun hc1 => ?_)
  · have hf := itn hc1 hf
    refine lv_aload_n hx hb dX5_feed_15 rfl (lv_at hl 0 rfl) ?_
    refine s_get (C := RX5) (T := TX5) C0 G i_X5 0 8 rfl rfl (by decide) q721 rfl dX5_feed_16 ?_
    refine lv_iload_n hx hb dX5_feed_19 rfl (lv_at hl 2 rfl) ?_
    refine lv_iadd hx hb dX5_feed_20 ?_
    refine lv_bipush (v := (120 : Int32)) hx hb dX5_feed_21 (by decide) ?_
    refine lv_icmp_le (tgt := 32) hx hb dX5_feed_23 (by decide) (fun hc2 => ?_) (fun hc2 => ?_)
    · have hf := itp hc2 hf
      refine lv_iload_n hx hb dX5_feed_32 rfl (lv_at hl 2 rfl) ?_
      refine lv_iconst (v := (1 : Int32)) hx hb dX5_feed_33 (by decide) ?_
      refine lv_isub hx hb dX5_feed_34 ?_
      refine lv_istore_n (lv' := [(3, .int (v2 - (1 : Int32))), (0, .ref (ad 0)), (1, .int v1), (2, .int v2)]) hx hb dX5_feed_35 rfl hl (by decide) rfl (fun ls hl => ?_)
      exact b5_feed_36 C0  1000 G (lv_sub hl [1, 2, 0] rfl) hf
    · have hf := itn hc2 hf
      refine lv_aload_n hx hb dX5_feed_26 rfl (lv_at hl 0 rfl) ?_
      refine lv_iconst (v := (1 : Int32)) hx hb dX5_feed_27 (by decide) ?_
      obtain ⟨r3, xfound_4, hc5, hf⟩ := ob2_s hf
      refine go_i C0 G (runV_of (n := 1) (q0 := 0) (As := [.int (1 : Int32)]) (rest := []) C0 G (c5_no hX hc5) q788 q54 q785 q787 q9 o5_no ⟨rfl, rfl⟩ ⟨Nat.le_of_ble_eq_true rfl, Nat.le_of_ble_eq_true rfl⟩ rfl rfl rfl hl.1 rfl (Nat.le_of_ble_eq_true rfl) dX5_feed_28) (fun H locs G => ?_)
      obtain ⟨rfl, rfl, rfl, rfl⟩ := inj4 hf
      exact ret_i C0 G dX5_feed_31
  · have hf := itp hc1 hf
    refine lv_aload_n hx hb dX5_feed_9 rfl (lv_at hl 0 rfl) ?_
    refine lv_iconst (v := (0 : Int32)) hx hb dX5_feed_10 (by decide) ?_
    obtain ⟨r6, xfound_7, hc8, hf⟩ := ob2_s hf
    refine go_i C0 G (runV_of (n := 1) (q0 := 0) (As := [.int (0 : Int32)]) (rest := []) C0 G (c5_no hX hc8) q788 q54 q785 q787 q9 o5_no ⟨rfl, rfl⟩ ⟨Nat.le_of_ble_eq_true rfl, Nat.le_of_ble_eq_true rfl⟩ rfl rfl rfl hl.1 rfl (Nat.le_of_ble_eq_true rfl) dX5_feed_11) (fun H locs G => ?_)
    obtain ⟨rfl, rfl, rfl, rfl⟩ := inj4 hf
    exact ret_i C0 G dX5_feed_14
theorem o5_feed : okName yX5_feed 2 := ⟨by decide, by decide, by decide +kernel⟩
set_option maxHeartbeats 4000000 in
set_option maxRecDepth 100000 in
theorem c5_feed {X : XP} (hX : XT X) {l : Launch} {D : va_G} {cI cC : ClassId} {ad : Nat → Nat} {sz : Nat} {xs : Nat → Int32} {xkept : Nat → Int32} {xaside : Nat → Int32} {xisK : Int32} {xfound : Nat → Int32} {xgone : Int32} {xover : Nat → Int32} {xtape : Nat → Int32} {xtaped : Int32} {xtok : Int32} {xbeg : Int32} {xend : Int32} {xval : Int64} {xwid : Nat → Int32} {xsiz : Nat → Int32} {xcel : Nat → Int32} {xcar : Nat → Int32} {v1 : Int32} {v2 : Int32} {r0 : Int32} {o_xfound : Nat → Int32} {o_xtape : Nat → Int32} {o_xtaped : Int32} (hf : f5_feed xfound xtape xtaped v1 v2 = some (r0, o_xfound, o_xtape, o_xtaped)) : Met l yX5_feed (wU yX5_feed cX5_feed 4 (some .int)) ({ frames := 1, cells := 0, slots := 0, locals := 22 }) (va_Pc [.ref (ad 0), .int v1, .int v2] (PreW X D (tyM cI cC) (wM cI cC ad xs xkept xaside xisK xfound xgone xover xtape xtaped xtok xbeg xend xval xwid xsiz xcel xcar) sz)) (QcI D (tyM cI cC) (wM cI cC ad xs xkept xaside xisK o_xfound xgone xover o_xtape o_xtaped xtok xbeg xend xval xwid xsiz xcel xcar) (va_A (wM cI cC ad xs xkept xaside xisK xfound xgone xover xtape xtaped xtok xbeg xend xval xwid xsiz xcel xcar) sz) r0) 0 0 (va_A (wM cI cC ad xs xkept xaside xisK xfound xgone xover xtape xtaped xtok xbeg xend xval xwid xsiz xcel xcar) sz) := by
  refine startW hX (own := RX5) (by decide) rfl (Nat.le_of_ble_eq_true rfl) (fun p e s m args below meth c ls C0 G hl => ?_)
  exact b5_feed_0 C0 G hl hf
/-! 5_wipe -/
theorem dX5_wipe_0 : decode cX5_wipe 0 = .ok (.aload_n 0, 1) := by decide +kernel
theorem dX5_wipe_1 : decode cX5_wipe 1 = .ok (.getfield 196, 3) := by decide +kernel
theorem dX5_wipe_4 : decode cX5_wipe 4 = .ok (.istore_n 1, 1) := by decide +kernel
theorem dX5_wipe_5 : decode cX5_wipe 5 = .ok (.aload_n 0, 1) := by decide +kernel
theorem dX5_wipe_6 : decode cX5_wipe 6 = .ok (.iconst 0, 1) := by decide +kernel
theorem dX5_wipe_7 : decode cX5_wipe 7 = .ok (.putfield 196, 3) := by decide +kernel
theorem dX5_wipe_10 : decode cX5_wipe 10 = .ok (.iload_n 1, 1) := by decide +kernel
theorem dX5_wipe_11 : decode cX5_wipe 11 = .ok (.ireturn, 1) := by decide +kernel
def f5_wipe (xtaped : Int32)  : Option (Int32 × Int32) :=
  some (xtaped, (0 : Int32))
set_option maxHeartbeats 4000000 in
set_option maxRecDepth 100000 in
theorem b5_wipe_0 {X : XP} {p : Program} {l : Launch} {e : Env} {s : State} {m : MethodId} {args : Array Value} {below : List Frame} {meth : Method} {c : Code} {D : va_G} {cI cC : ClassId} {ad : Nat → Nat} {A : Nat → Prop} {xs : Nat → Int32} {xkept : Nat → Int32} {xaside : Nat → Int32} {xisK : Int32} {xfound : Nat → Int32} {xgone : Int32} {xover : Nat → Int32} {xtape : Nat → Int32} {xtok : Int32} {xbeg : Int32} {xend : Int32} {xval : Int64} {xwid : Nat → Int32} {xsiz : Nat → Int32} {xcel : Nat → Int32} {xcar : Nat → Int32} {r0 : Int32} {o_xtaped : Int32} (C0 : CX X p s m args meth c cX5_wipe 2 (some .int) RX5 A) : ∀ {xtaped : Int32} {H : Heap} {locs : List Loc} {ls : Array Slot}, GX X D (tyM cI cC) A s (wM cI cC ad xs xkept xaside xisK xfound xgone xover xtape xtaped xtok xbeg xend xval xwid xsiz xcel xcar) H locs → lv_has ls 2 [(0, .ref (ad 0))] → f5_wipe xtaped = some (r0, o_xtaped) → W p l e ({ frames := 0, cells := 0, slots := 0, locals := 0 }) s m args below meth c H locs 0 0 (MQ below (QcI D (tyM cI cC) (wM cI cC ad xs xkept xaside xisK xfound xgone xover xtape o_xtaped xtok xbeg xend xval xwid xsiz xcel xcar) A r0) args s 0 0 A) (F0 m 0 ls []) := by
  have hx := C0.1
  have hb := C0.2.1
  have hown := C0.2.2.2.2.1
  have hts := C0.2.2.2.2.2.1
  have hX := C0.2.2.2.2.2.2.2.2
  intro xtaped H locs ls G hl hf
  unfold f5_wipe at hf
  refine lv_aload_n hx hb dX5_wipe_0 rfl (lv_at hl 0 rfl) ?_
  refine s_get (C := RX5) (T := TX5) C0 G i_X5 0 8 rfl rfl (by decide) q721 rfl dX5_wipe_1 ?_
  refine lv_istore_n (lv' := [(1, .int xtaped), (0, .ref (ad 0))]) hx hb dX5_wipe_4 rfl hl (by decide) rfl (fun ls hl => ?_)
  refine lv_aload_n hx hb dX5_wipe_5 rfl (lv_at hl 1 rfl) ?_
  refine lv_iconst (v := (0 : Int32)) hx hb dX5_wipe_6 (by decide) ?_
  refine s_put (C := RX5) (T := TX5) (w' := (wM cI cC ad xs xkept xaside xisK xfound xgone xover xtape (0 : Int32) xtok xbeg xend xval xwid xsiz xcel xcar)) C0 G i_X5 tyX5 tyX5_ok nmX5 0 8 rfl rfl (by decide) q721 rfl (ty := .int) (by decide +kernel) rfl rfl (Nat.le_of_ble_eq_true rfl) rfl dX5_wipe_7 (fun H locs G => ?_)
  refine lv_iload_n hx hb dX5_wipe_10 rfl (lv_at hl 0 rfl) ?_
  obtain ⟨rfl, rfl⟩ := inj2 hf
  exact ret_i C0 G dX5_wipe_11
theorem o5_wipe : okName yX5_wipe 0 := ⟨by decide, by decide, by decide +kernel⟩
set_option maxHeartbeats 4000000 in
set_option maxRecDepth 100000 in
theorem c5_wipe {X : XP} (hX : XT X) {l : Launch} {D : va_G} {cI cC : ClassId} {ad : Nat → Nat} {sz : Nat} {xs : Nat → Int32} {xkept : Nat → Int32} {xaside : Nat → Int32} {xisK : Int32} {xfound : Nat → Int32} {xgone : Int32} {xover : Nat → Int32} {xtape : Nat → Int32} {xtaped : Int32} {xtok : Int32} {xbeg : Int32} {xend : Int32} {xval : Int64} {xwid : Nat → Int32} {xsiz : Nat → Int32} {xcel : Nat → Int32} {xcar : Nat → Int32}  {r0 : Int32} {o_xtaped : Int32} (hf : f5_wipe xtaped = some (r0, o_xtaped)) : Met l yX5_wipe (wU yX5_wipe cX5_wipe 2 (some .int)) ({ frames := 0, cells := 0, slots := 0, locals := 0 }) (va_Pc [.ref (ad 0)] (PreW X D (tyM cI cC) (wM cI cC ad xs xkept xaside xisK xfound xgone xover xtape xtaped xtok xbeg xend xval xwid xsiz xcel xcar) sz)) (QcI D (tyM cI cC) (wM cI cC ad xs xkept xaside xisK xfound xgone xover xtape o_xtaped xtok xbeg xend xval xwid xsiz xcel xcar) (va_A (wM cI cC ad xs xkept xaside xisK xfound xgone xover xtape xtaped xtok xbeg xend xval xwid xsiz xcel xcar) sz) r0) 0 0 (va_A (wM cI cC ad xs xkept xaside xisK xfound xgone xover xtape xtaped xtok xbeg xend xval xwid xsiz xcel xcar) sz) := by
  refine startW hX (own := RX5) (by decide) rfl (Nat.le_of_ble_eq_true rfl) (fun p e s m args below meth c ls C0 G hl => ?_)
  exact b5_wipe_0 C0 G hl hf
/-! 5_isLetter -/
theorem dX5_isLetter_0 : decode cX5_isLetter 0 = .ok (.iload_n 0, 1) := by decide +kernel
theorem dX5_isLetter_1 : decode cX5_isLetter 1 = .ok (.bipush 97, 2) := by decide +kernel
theorem dX5_isLetter_3 : decode cX5_isLetter 3 = .ok (.bipush 122, 2) := by decide +kernel
theorem dX5_isLetter_5 : decode cX5_isLetter 5 = .ok (.invokestatic 51, 3) := by decide +kernel
theorem dX5_isLetter_8 : decode cX5_isLetter 8 = .ok (.ireturn, 1) := by decide +kernel
def f5_isLetter  (v0 : Int32) : Int32 :=
  (f5_in1 v0 (97 : Int32) (122 : Int32))
set_option maxHeartbeats 4000000 in
set_option maxRecDepth 100000 in
theorem b5_isLetter_0 {X : XP} {p : Program} {l : Launch} {e : Env} {s : State} {m : MethodId} {args : Array Value} {below : List Frame} {meth : Method} {c : Code} {D : va_G} {cI cC : ClassId} {ad : Nat → Nat} {A : Nat → Prop} {xs : Nat → Int32} {xkept : Nat → Int32} {xaside : Nat → Int32} {xisK : Int32} {xfound : Nat → Int32} {xgone : Int32} {xover : Nat → Int32} {xtape : Nat → Int32} {xtaped : Int32} {xtok : Int32} {xbeg : Int32} {xend : Int32} {xval : Int64} {xwid : Nat → Int32} {xsiz : Nat → Int32} {xcel : Nat → Int32} {xcar : Nat → Int32} {r0 : Int32} (C0 : CX X p s m args meth c cX5_isLetter 1 (some .boolean) RX5 A) : ∀ {v0 : Int32} {H : Heap} {locs : List Loc} {ls : Array Slot}, GX X D (tyM cI cC) A s (wM cI cC ad xs xkept xaside xisK xfound xgone xover xtape xtaped xtok xbeg xend xval xwid xsiz xcel xcar) H locs → lv_has ls 1 [(0, .int v0)] → f5_isLetter v0 = r0 → W p l e ({ frames := 1, cells := 0, slots := 0, locals := 22 }) s m args below meth c H locs 0 0 (MQ below (QcI D (tyM cI cC) (wM cI cC ad xs xkept xaside xisK xfound xgone xover xtape xtaped xtok xbeg xend xval xwid xsiz xcel xcar) A r0) args s 0 0 A) (F0 m 0 ls []) := by
  have hx := C0.1
  have hb := C0.2.1
  have hown := C0.2.2.2.2.1
  have hts := C0.2.2.2.2.2.1
  have hX := C0.2.2.2.2.2.2.2.2
  intro v0 H locs ls G hl hf
  unfold f5_isLetter at hf
  refine lv_iload_n hx hb dX5_isLetter_0 rfl (lv_at hl 0 rfl) ?_
  refine lv_bipush (v := (97 : Int32)) hx hb dX5_isLetter_1 (by decide) ?_
  refine lv_bipush (v := (122 : Int32)) hx hb dX5_isLetter_3 (by decide) ?_
  refine go_i C0 G (runS_of (n := 3) (As := [.int v0, .int (97 : Int32), .int (122 : Int32)]) (rest := []) C0 G (c5_in1 hX rfl) q784 q54 q782 q783 o5_in1 ⟨rfl, rfl⟩ ⟨Nat.le_of_ble_eq_true rfl, Nat.le_of_ble_eq_true rfl⟩ rfl hl.1 rfl (Nat.le_of_ble_eq_true rfl) dX5_isLetter_5) (fun H locs G => ?_)
  obtain rfl := tnj1 hf
  exact ret_z C0 G (b01_n (z5_in1 _ _ _)) dX5_isLetter_8
theorem z5_isLetter  (v0 : Int32) : b01 (f5_isLetter v0) = true := by
  unfold f5_isLetter
  (repeat' split) <;> first | rfl | exact z5_in1 _ _ _
theorem o5_isLetter : okName yX5_isLetter 1 := ⟨by decide, by decide, by decide +kernel⟩
set_option maxHeartbeats 4000000 in
set_option maxRecDepth 100000 in
theorem c5_isLetter {X : XP} (hX : XT X) {l : Launch} {D : va_G} {cI cC : ClassId} {ad : Nat → Nat} {sz : Nat} {xs : Nat → Int32} {xkept : Nat → Int32} {xaside : Nat → Int32} {xisK : Int32} {xfound : Nat → Int32} {xgone : Int32} {xover : Nat → Int32} {xtape : Nat → Int32} {xtaped : Int32} {xtok : Int32} {xbeg : Int32} {xend : Int32} {xval : Int64} {xwid : Nat → Int32} {xsiz : Nat → Int32} {xcel : Nat → Int32} {xcar : Nat → Int32} {v0 : Int32} {r0 : Int32} (hf : f5_isLetter v0 = r0) : Met l yX5_isLetter (wU yX5_isLetter cX5_isLetter 1 (some .boolean)) ({ frames := 1, cells := 0, slots := 0, locals := 22 }) (va_Pc [.int v0] (PreW X D (tyM cI cC) (wM cI cC ad xs xkept xaside xisK xfound xgone xover xtape xtaped xtok xbeg xend xval xwid xsiz xcel xcar) sz)) (QcI D (tyM cI cC) (wM cI cC ad xs xkept xaside xisK xfound xgone xover xtape xtaped xtok xbeg xend xval xwid xsiz xcel xcar) (va_A (wM cI cC ad xs xkept xaside xisK xfound xgone xover xtape xtaped xtok xbeg xend xval xwid xsiz xcel xcar) sz) r0) 0 0 (va_A (wM cI cC ad xs xkept xaside xisK xfound xgone xover xtape xtaped xtok xbeg xend xval xwid xsiz xcel xcar) sz) := by
  refine startW hX (own := RX5) (by decide) rfl (Nat.le_of_ble_eq_true rfl) (fun p e s m args below meth c ls C0 G hl => ?_)
  exact b5_isLetter_0 C0 G hl hf
/-! 5_isDigit -/
theorem dX5_isDigit_0 : decode cX5_isDigit 0 = .ok (.iload_n 0, 1) := by decide +kernel
theorem dX5_isDigit_1 : decode cX5_isDigit 1 = .ok (.bipush 48, 2) := by decide +kernel
theorem dX5_isDigit_3 : decode cX5_isDigit 3 = .ok (.bipush 57, 2) := by decide +kernel
theorem dX5_isDigit_5 : decode cX5_isDigit 5 = .ok (.invokestatic 51, 3) := by decide +kernel
theorem dX5_isDigit_8 : decode cX5_isDigit 8 = .ok (.ireturn, 1) := by decide +kernel
def f5_isDigit  (v0 : Int32) : Int32 :=
  (f5_in1 v0 (48 : Int32) (57 : Int32))
set_option maxHeartbeats 4000000 in
set_option maxRecDepth 100000 in
theorem b5_isDigit_0 {X : XP} {p : Program} {l : Launch} {e : Env} {s : State} {m : MethodId} {args : Array Value} {below : List Frame} {meth : Method} {c : Code} {D : va_G} {cI cC : ClassId} {ad : Nat → Nat} {A : Nat → Prop} {xs : Nat → Int32} {xkept : Nat → Int32} {xaside : Nat → Int32} {xisK : Int32} {xfound : Nat → Int32} {xgone : Int32} {xover : Nat → Int32} {xtape : Nat → Int32} {xtaped : Int32} {xtok : Int32} {xbeg : Int32} {xend : Int32} {xval : Int64} {xwid : Nat → Int32} {xsiz : Nat → Int32} {xcel : Nat → Int32} {xcar : Nat → Int32} {r0 : Int32} (C0 : CX X p s m args meth c cX5_isDigit 1 (some .boolean) RX5 A) : ∀ {v0 : Int32} {H : Heap} {locs : List Loc} {ls : Array Slot}, GX X D (tyM cI cC) A s (wM cI cC ad xs xkept xaside xisK xfound xgone xover xtape xtaped xtok xbeg xend xval xwid xsiz xcel xcar) H locs → lv_has ls 1 [(0, .int v0)] → f5_isDigit v0 = r0 → W p l e ({ frames := 1, cells := 0, slots := 0, locals := 22 }) s m args below meth c H locs 0 0 (MQ below (QcI D (tyM cI cC) (wM cI cC ad xs xkept xaside xisK xfound xgone xover xtape xtaped xtok xbeg xend xval xwid xsiz xcel xcar) A r0) args s 0 0 A) (F0 m 0 ls []) := by
  have hx := C0.1
  have hb := C0.2.1
  have hown := C0.2.2.2.2.1
  have hts := C0.2.2.2.2.2.1
  have hX := C0.2.2.2.2.2.2.2.2
  intro v0 H locs ls G hl hf
  unfold f5_isDigit at hf
  refine lv_iload_n hx hb dX5_isDigit_0 rfl (lv_at hl 0 rfl) ?_
  refine lv_bipush (v := (48 : Int32)) hx hb dX5_isDigit_1 (by decide) ?_
  refine lv_bipush (v := (57 : Int32)) hx hb dX5_isDigit_3 (by decide) ?_
  refine go_i C0 G (runS_of (n := 3) (As := [.int v0, .int (48 : Int32), .int (57 : Int32)]) (rest := []) C0 G (c5_in1 hX rfl) q784 q54 q782 q783 o5_in1 ⟨rfl, rfl⟩ ⟨Nat.le_of_ble_eq_true rfl, Nat.le_of_ble_eq_true rfl⟩ rfl hl.1 rfl (Nat.le_of_ble_eq_true rfl) dX5_isDigit_5) (fun H locs G => ?_)
  obtain rfl := tnj1 hf
  exact ret_z C0 G (b01_n (z5_in1 _ _ _)) dX5_isDigit_8
theorem z5_isDigit  (v0 : Int32) : b01 (f5_isDigit v0) = true := by
  unfold f5_isDigit
  (repeat' split) <;> first | rfl | exact z5_in1 _ _ _
theorem o5_isDigit : okName yX5_isDigit 1 := ⟨by decide, by decide, by decide +kernel⟩
set_option maxHeartbeats 4000000 in
set_option maxRecDepth 100000 in
theorem c5_isDigit {X : XP} (hX : XT X) {l : Launch} {D : va_G} {cI cC : ClassId} {ad : Nat → Nat} {sz : Nat} {xs : Nat → Int32} {xkept : Nat → Int32} {xaside : Nat → Int32} {xisK : Int32} {xfound : Nat → Int32} {xgone : Int32} {xover : Nat → Int32} {xtape : Nat → Int32} {xtaped : Int32} {xtok : Int32} {xbeg : Int32} {xend : Int32} {xval : Int64} {xwid : Nat → Int32} {xsiz : Nat → Int32} {xcel : Nat → Int32} {xcar : Nat → Int32} {v0 : Int32} {r0 : Int32} (hf : f5_isDigit v0 = r0) : Met l yX5_isDigit (wU yX5_isDigit cX5_isDigit 1 (some .boolean)) ({ frames := 1, cells := 0, slots := 0, locals := 22 }) (va_Pc [.int v0] (PreW X D (tyM cI cC) (wM cI cC ad xs xkept xaside xisK xfound xgone xover xtape xtaped xtok xbeg xend xval xwid xsiz xcel xcar) sz)) (QcI D (tyM cI cC) (wM cI cC ad xs xkept xaside xisK xfound xgone xover xtape xtaped xtok xbeg xend xval xwid xsiz xcel xcar) (va_A (wM cI cC ad xs xkept xaside xisK xfound xgone xover xtape xtaped xtok xbeg xend xval xwid xsiz xcel xcar) sz) r0) 0 0 (va_A (wM cI cC ad xs xkept xaside xisK xfound xgone xover xtape xtaped xtok xbeg xend xval xwid xsiz xcel xcar) sz) := by
  refine startW hX (own := RX5) (by decide) rfl (Nat.le_of_ble_eq_true rfl) (fun p e s m args below meth c ls C0 G hl => ?_)
  exact b5_isDigit_0 C0 G hl hf
/-! 5_nextToken -/
theorem dX5_nextToken_0 : decode cX5_nextToken 0 = .ok (.aload_n 0, 1) := by decide +kernel
theorem dX5_nextToken_1 : decode cX5_nextToken 1 = .ok (.aload_n 0, 1) := by decide +kernel
theorem dX5_nextToken_2 : decode cX5_nextToken 2 = .ok (.getfield 199, 3) := by decide +kernel
theorem dX5_nextToken_5 : decode cX5_nextToken 5 = .ok (.putfield 202, 3) := by decide +kernel
theorem dX5_nextToken_8 : decode cX5_nextToken 8 = .ok (.aload_n 0, 1) := by decide +kernel
theorem dX5_nextToken_9 : decode cX5_nextToken 9 = .ok (.getfield 202, 3) := by decide +kernel
theorem dX5_nextToken_12 : decode cX5_nextToken 12 = .ok (.aload_n 0, 1) := by decide +kernel
theorem dX5_nextToken_13 : decode cX5_nextToken 13 = .ok (.getfield 196, 3) := by decide +kernel
theorem dX5_nextToken_16 : decode cX5_nextToken 16 = .ok (.if_icmp .ge 30, 3) := by decide +kernel
theorem dX5_nextToken_19 : decode cX5_nextToken 19 = .ok (.aload_n 0, 1) := by decide +kernel
theorem dX5_nextToken_20 : decode cX5_nextToken 20 = .ok (.getfield 25, 3) := by decide +kernel
theorem dX5_nextToken_23 : decode cX5_nextToken 23 = .ok (.aload_n 0, 1) := by decide +kernel
theorem dX5_nextToken_24 : decode cX5_nextToken 24 = .ok (.getfield 202, 3) := by decide +kernel
theorem dX5_nextToken_27 : decode cX5_nextToken 27 = .ok (.iaload, 1) := by decide +kernel
theorem dX5_nextToken_28 : decode cX5_nextToken 28 = .ok (.bipush 32, 2) := by decide +kernel
theorem dX5_nextToken_30 : decode cX5_nextToken 30 = .ok (.if_icmp .ne 16, 3) := by decide +kernel
theorem dX5_nextToken_33 : decode cX5_nextToken 33 = .ok (.aload_n 0, 1) := by decide +kernel
theorem dX5_nextToken_34 : decode cX5_nextToken 34 = .ok (.dup, 1) := by decide +kernel
theorem dX5_nextToken_35 : decode cX5_nextToken 35 = .ok (.getfield 202, 3) := by decide +kernel
theorem dX5_nextToken_38 : decode cX5_nextToken 38 = .ok (.iconst 1, 1) := by decide +kernel
theorem dX5_nextToken_39 : decode cX5_nextToken 39 = .ok (.iadd, 1) := by decide +kernel
theorem dX5_nextToken_40 : decode cX5_nextToken 40 = .ok (.putfield 202, 3) := by decide +kernel
theorem dX5_nextToken_43 : decode cX5_nextToken 43 = .ok (.goto (-35), 3) := by decide +kernel
theorem dX5_nextToken_46 : decode cX5_nextToken 46 = .ok (.aload_n 0, 1) := by decide +kernel
theorem dX5_nextToken_47 : decode cX5_nextToken 47 = .ok (.aload_n 0, 1) := by decide +kernel
theorem dX5_nextToken_48 : decode cX5_nextToken 48 = .ok (.getfield 202, 3) := by decide +kernel
theorem dX5_nextToken_51 : decode cX5_nextToken 51 = .ok (.putfield 199, 3) := by decide +kernel
theorem dX5_nextToken_54 : decode cX5_nextToken 54 = .ok (.aload_n 0, 1) := by decide +kernel
theorem dX5_nextToken_55 : decode cX5_nextToken 55 = .ok (.lconst 0, 1) := by decide +kernel
theorem dX5_nextToken_56 : decode cX5_nextToken 56 = .ok (.putfield 205, 3) := by decide +kernel
theorem dX5_nextToken_59 : decode cX5_nextToken 59 = .ok (.aload_n 0, 1) := by decide +kernel
theorem dX5_nextToken_60 : decode cX5_nextToken 60 = .ok (.getfield 202, 3) := by decide +kernel
theorem dX5_nextToken_63 : decode cX5_nextToken 63 = .ok (.aload_n 0, 1) := by decide +kernel
theorem dX5_nextToken_64 : decode cX5_nextToken 64 = .ok (.getfield 196, 3) := by decide +kernel
theorem dX5_nextToken_67 : decode cX5_nextToken 67 = .ok (.if_icmp .ne 11, 3) := by decide +kernel
theorem dX5_nextToken_70 : decode cX5_nextToken 70 = .ok (.aload_n 0, 1) := by decide +kernel
theorem dX5_nextToken_71 : decode cX5_nextToken 71 = .ok (.iconst 0, 1) := by decide +kernel
theorem dX5_nextToken_72 : decode cX5_nextToken 72 = .ok (.putfield 209, 3) := by decide +kernel
theorem dX5_nextToken_75 : decode cX5_nextToken 75 = .ok (.goto 262, 3) := by decide +kernel
theorem dX5_nextToken_78 : decode cX5_nextToken 78 = .ok (.aload_n 0, 1) := by decide +kernel
theorem dX5_nextToken_79 : decode cX5_nextToken 79 = .ok (.getfield 25, 3) := by decide +kernel
theorem dX5_nextToken_82 : decode cX5_nextToken 82 = .ok (.aload_n 0, 1) := by decide +kernel
theorem dX5_nextToken_83 : decode cX5_nextToken 83 = .ok (.getfield 202, 3) := by decide +kernel
theorem dX5_nextToken_86 : decode cX5_nextToken 86 = .ok (.iaload, 1) := by decide +kernel
theorem dX5_nextToken_87 : decode cX5_nextToken 87 = .ok (.invokestatic 212, 3) := by decide +kernel
theorem dX5_nextToken_90 : decode cX5_nextToken 90 = .ok (.ifCond .eq 92, 3) := by decide +kernel
theorem dX5_nextToken_93 : decode cX5_nextToken 93 = .ok (.aload_n 0, 1) := by decide +kernel
theorem dX5_nextToken_94 : decode cX5_nextToken 94 = .ok (.iconst 1, 1) := by decide +kernel
theorem dX5_nextToken_95 : decode cX5_nextToken 95 = .ok (.putfield 209, 3) := by decide +kernel
theorem dX5_nextToken_98 : decode cX5_nextToken 98 = .ok (.aload_n 0, 1) := by decide +kernel
theorem dX5_nextToken_99 : decode cX5_nextToken 99 = .ok (.getfield 199, 3) := by decide +kernel
theorem dX5_nextToken_102 : decode cX5_nextToken 102 = .ok (.aload_n 0, 1) := by decide +kernel
theorem dX5_nextToken_103 : decode cX5_nextToken 103 = .ok (.getfield 196, 3) := by decide +kernel
theorem dX5_nextToken_106 : decode cX5_nextToken 106 = .ok (.if_icmp .ge 231, 3) := by decide +kernel
theorem dX5_nextToken_109 : decode cX5_nextToken 109 = .ok (.aload_n 0, 1) := by decide +kernel
theorem dX5_nextToken_110 : decode cX5_nextToken 110 = .ok (.getfield 25, 3) := by decide +kernel
theorem dX5_nextToken_113 : decode cX5_nextToken 113 = .ok (.aload_n 0, 1) := by decide +kernel
theorem dX5_nextToken_114 : decode cX5_nextToken 114 = .ok (.getfield 199, 3) := by decide +kernel
theorem dX5_nextToken_117 : decode cX5_nextToken 117 = .ok (.iaload, 1) := by decide +kernel
theorem dX5_nextToken_118 : decode cX5_nextToken 118 = .ok (.invokestatic 212, 3) := by decide +kernel
theorem dX5_nextToken_121 : decode cX5_nextToken 121 = .ok (.ifCond .eq 216, 3) := by decide +kernel
theorem dX5_nextToken_124 : decode cX5_nextToken 124 = .ok (.aload_n 0, 1) := by decide +kernel
theorem dX5_nextToken_125 : decode cX5_nextToken 125 = .ok (.aload_n 0, 1) := by decide +kernel
theorem dX5_nextToken_126 : decode cX5_nextToken 126 = .ok (.getfield 205, 3) := by decide +kernel
theorem dX5_nextToken_129 : decode cX5_nextToken 129 = .ok (.ldc2_w 215, 3) := by decide +kernel
theorem dX5_nextToken_132 : decode cX5_nextToken 132 = .ok (.lcmp, 1) := by decide +kernel
theorem dX5_nextToken_133 : decode cX5_nextToken 133 = .ok (.ifCond .le 10, 3) := by decide +kernel
theorem dX5_nextToken_136 : decode cX5_nextToken 136 = .ok (.aload_n 0, 1) := by decide +kernel
theorem dX5_nextToken_137 : decode cX5_nextToken 137 = .ok (.getfield 205, 3) := by decide +kernel
theorem dX5_nextToken_140 : decode cX5_nextToken 140 = .ok (.goto 26, 3) := by decide +kernel
theorem dX5_nextToken_143 : decode cX5_nextToken 143 = .ok (.aload_n 0, 1) := by decide +kernel
theorem dX5_nextToken_144 : decode cX5_nextToken 144 = .ok (.getfield 205, 3) := by decide +kernel
theorem dX5_nextToken_147 : decode cX5_nextToken 147 = .ok (.ldc2_w 217, 3) := by decide +kernel
theorem dX5_nextToken_150 : decode cX5_nextToken 150 = .ok (.lmul, 1) := by decide +kernel
theorem dX5_nextToken_151 : decode cX5_nextToken 151 = .ok (.aload_n 0, 1) := by decide +kernel
theorem dX5_nextToken_152 : decode cX5_nextToken 152 = .ok (.getfield 25, 3) := by decide +kernel
theorem dX5_nextToken_155 : decode cX5_nextToken 155 = .ok (.aload_n 0, 1) := by decide +kernel
theorem dX5_nextToken_156 : decode cX5_nextToken 156 = .ok (.getfield 199, 3) := by decide +kernel
theorem dX5_nextToken_159 : decode cX5_nextToken 159 = .ok (.iaload, 1) := by decide +kernel
theorem dX5_nextToken_160 : decode cX5_nextToken 160 = .ok (.i2l, 1) := by decide +kernel
theorem dX5_nextToken_161 : decode cX5_nextToken 161 = .ok (.ladd, 1) := by decide +kernel
theorem dX5_nextToken_162 : decode cX5_nextToken 162 = .ok (.ldc2_w 219, 3) := by decide +kernel
theorem dX5_nextToken_165 : decode cX5_nextToken 165 = .ok (.lsub, 1) := by decide +kernel
theorem dX5_nextToken_166 : decode cX5_nextToken 166 = .ok (.putfield 205, 3) := by decide +kernel
theorem dX5_nextToken_169 : decode cX5_nextToken 169 = .ok (.aload_n 0, 1) := by decide +kernel
theorem dX5_nextToken_170 : decode cX5_nextToken 170 = .ok (.dup, 1) := by decide +kernel
theorem dX5_nextToken_171 : decode cX5_nextToken 171 = .ok (.getfield 199, 3) := by decide +kernel
theorem dX5_nextToken_174 : decode cX5_nextToken 174 = .ok (.iconst 1, 1) := by decide +kernel
theorem dX5_nextToken_175 : decode cX5_nextToken 175 = .ok (.iadd, 1) := by decide +kernel
theorem dX5_nextToken_176 : decode cX5_nextToken 176 = .ok (.putfield 199, 3) := by decide +kernel
theorem dX5_nextToken_179 : decode cX5_nextToken 179 = .ok (.goto (-81), 3) := by decide +kernel
theorem dX5_nextToken_182 : decode cX5_nextToken 182 = .ok (.aload_n 0, 1) := by decide +kernel
theorem dX5_nextToken_183 : decode cX5_nextToken 183 = .ok (.getfield 25, 3) := by decide +kernel
theorem dX5_nextToken_186 : decode cX5_nextToken 186 = .ok (.aload_n 0, 1) := by decide +kernel
theorem dX5_nextToken_187 : decode cX5_nextToken 187 = .ok (.getfield 202, 3) := by decide +kernel
theorem dX5_nextToken_190 : decode cX5_nextToken 190 = .ok (.iaload, 1) := by decide +kernel
theorem dX5_nextToken_191 : decode cX5_nextToken 191 = .ok (.invokestatic 221, 3) := by decide +kernel
theorem dX5_nextToken_194 : decode cX5_nextToken 194 = .ok (.ifCond .eq 110, 3) := by decide +kernel
theorem dX5_nextToken_197 : decode cX5_nextToken 197 = .ok (.aload_n 0, 1) := by decide +kernel
theorem dX5_nextToken_198 : decode cX5_nextToken 198 = .ok (.getfield 199, 3) := by decide +kernel
theorem dX5_nextToken_201 : decode cX5_nextToken 201 = .ok (.aload_n 0, 1) := by decide +kernel
theorem dX5_nextToken_202 : decode cX5_nextToken 202 = .ok (.getfield 196, 3) := by decide +kernel
theorem dX5_nextToken_205 : decode cX5_nextToken 205 = .ok (.if_icmp .ge 76, 3) := by decide +kernel
theorem dX5_nextToken_208 : decode cX5_nextToken 208 = .ok (.aload_n 0, 1) := by decide +kernel
theorem dX5_nextToken_209 : decode cX5_nextToken 209 = .ok (.getfield 25, 3) := by decide +kernel
theorem dX5_nextToken_212 : decode cX5_nextToken 212 = .ok (.aload_n 0, 1) := by decide +kernel
theorem dX5_nextToken_213 : decode cX5_nextToken 213 = .ok (.getfield 199, 3) := by decide +kernel
theorem dX5_nextToken_216 : decode cX5_nextToken 216 = .ok (.iaload, 1) := by decide +kernel
theorem dX5_nextToken_217 : decode cX5_nextToken 217 = .ok (.invokestatic 221, 3) := by decide +kernel
theorem dX5_nextToken_220 : decode cX5_nextToken 220 = .ok (.ifCond .eq 61, 3) := by decide +kernel
theorem dX5_nextToken_223 : decode cX5_nextToken 223 = .ok (.aload_n 0, 1) := by decide +kernel
theorem dX5_nextToken_224 : decode cX5_nextToken 224 = .ok (.aload_n 0, 1) := by decide +kernel
theorem dX5_nextToken_225 : decode cX5_nextToken 225 = .ok (.getfield 205, 3) := by decide +kernel
theorem dX5_nextToken_228 : decode cX5_nextToken 228 = .ok (.ldc2_w 224, 3) := by decide +kernel
theorem dX5_nextToken_231 : decode cX5_nextToken 231 = .ok (.lcmp, 1) := by decide +kernel
theorem dX5_nextToken_232 : decode cX5_nextToken 232 = .ok (.ifCond .le 10, 3) := by decide +kernel
theorem dX5_nextToken_235 : decode cX5_nextToken 235 = .ok (.aload_n 0, 1) := by decide +kernel
theorem dX5_nextToken_236 : decode cX5_nextToken 236 = .ok (.getfield 205, 3) := by decide +kernel
theorem dX5_nextToken_239 : decode cX5_nextToken 239 = .ok (.goto 26, 3) := by decide +kernel
theorem dX5_nextToken_242 : decode cX5_nextToken 242 = .ok (.aload_n 0, 1) := by decide +kernel
theorem dX5_nextToken_243 : decode cX5_nextToken 243 = .ok (.getfield 205, 3) := by decide +kernel
theorem dX5_nextToken_246 : decode cX5_nextToken 246 = .ok (.ldc2_w 226, 3) := by decide +kernel
theorem dX5_nextToken_249 : decode cX5_nextToken 249 = .ok (.lmul, 1) := by decide +kernel
theorem dX5_nextToken_250 : decode cX5_nextToken 250 = .ok (.aload_n 0, 1) := by decide +kernel
theorem dX5_nextToken_251 : decode cX5_nextToken 251 = .ok (.getfield 25, 3) := by decide +kernel
theorem dX5_nextToken_254 : decode cX5_nextToken 254 = .ok (.aload_n 0, 1) := by decide +kernel
theorem dX5_nextToken_255 : decode cX5_nextToken 255 = .ok (.getfield 199, 3) := by decide +kernel
theorem dX5_nextToken_258 : decode cX5_nextToken 258 = .ok (.iaload, 1) := by decide +kernel
theorem dX5_nextToken_259 : decode cX5_nextToken 259 = .ok (.i2l, 1) := by decide +kernel
theorem dX5_nextToken_260 : decode cX5_nextToken 260 = .ok (.ladd, 1) := by decide +kernel
theorem dX5_nextToken_261 : decode cX5_nextToken 261 = .ok (.ldc2_w 228, 3) := by decide +kernel
theorem dX5_nextToken_264 : decode cX5_nextToken 264 = .ok (.lsub, 1) := by decide +kernel
theorem dX5_nextToken_265 : decode cX5_nextToken 265 = .ok (.putfield 205, 3) := by decide +kernel
theorem dX5_nextToken_268 : decode cX5_nextToken 268 = .ok (.aload_n 0, 1) := by decide +kernel
theorem dX5_nextToken_269 : decode cX5_nextToken 269 = .ok (.dup, 1) := by decide +kernel
theorem dX5_nextToken_270 : decode cX5_nextToken 270 = .ok (.getfield 199, 3) := by decide +kernel
theorem dX5_nextToken_273 : decode cX5_nextToken 273 = .ok (.iconst 1, 1) := by decide +kernel
theorem dX5_nextToken_274 : decode cX5_nextToken 274 = .ok (.iadd, 1) := by decide +kernel
theorem dX5_nextToken_275 : decode cX5_nextToken 275 = .ok (.putfield 199, 3) := by decide +kernel
theorem dX5_nextToken_278 : decode cX5_nextToken 278 = .ok (.goto (-81), 3) := by decide +kernel
theorem dX5_nextToken_281 : decode cX5_nextToken 281 = .ok (.aload_n 0, 1) := by decide +kernel
theorem dX5_nextToken_282 : decode cX5_nextToken 282 = .ok (.aload_n 0, 1) := by decide +kernel
theorem dX5_nextToken_283 : decode cX5_nextToken 283 = .ok (.getfield 205, 3) := by decide +kernel
theorem dX5_nextToken_286 : decode cX5_nextToken 286 = .ok (.ldc2_w 224, 3) := by decide +kernel
theorem dX5_nextToken_289 : decode cX5_nextToken 289 = .ok (.lcmp, 1) := by decide +kernel
theorem dX5_nextToken_290 : decode cX5_nextToken 290 = .ok (.ifCond .le 7, 3) := by decide +kernel
theorem dX5_nextToken_293 : decode cX5_nextToken 293 = .ok (.iconst 4, 1) := by decide +kernel
theorem dX5_nextToken_294 : decode cX5_nextToken 294 = .ok (.goto 4, 3) := by decide +kernel
theorem dX5_nextToken_297 : decode cX5_nextToken 297 = .ok (.iconst 2, 1) := by decide +kernel
theorem dX5_nextToken_298 : decode cX5_nextToken 298 = .ok (.putfield 209, 3) := by decide +kernel
theorem dX5_nextToken_301 : decode cX5_nextToken 301 = .ok (.goto 36, 3) := by decide +kernel
theorem dX5_nextToken_304 : decode cX5_nextToken 304 = .ok (.aload_n 0, 1) := by decide +kernel
theorem dX5_nextToken_305 : decode cX5_nextToken 305 = .ok (.aload_n 0, 1) := by decide +kernel
theorem dX5_nextToken_306 : decode cX5_nextToken 306 = .ok (.getfield 25, 3) := by decide +kernel
theorem dX5_nextToken_309 : decode cX5_nextToken 309 = .ok (.aload_n 0, 1) := by decide +kernel
theorem dX5_nextToken_310 : decode cX5_nextToken 310 = .ok (.getfield 202, 3) := by decide +kernel
theorem dX5_nextToken_313 : decode cX5_nextToken 313 = .ok (.iaload, 1) := by decide +kernel
theorem dX5_nextToken_314 : decode cX5_nextToken 314 = .ok (.bipush 59, 2) := by decide +kernel
theorem dX5_nextToken_316 : decode cX5_nextToken 316 = .ok (.if_icmp .ne 7, 3) := by decide +kernel
theorem dX5_nextToken_319 : decode cX5_nextToken 319 = .ok (.iconst 3, 1) := by decide +kernel
theorem dX5_nextToken_320 : decode cX5_nextToken 320 = .ok (.goto 4, 3) := by decide +kernel
theorem dX5_nextToken_323 : decode cX5_nextToken 323 = .ok (.iconst 4, 1) := by decide +kernel
theorem dX5_nextToken_324 : decode cX5_nextToken 324 = .ok (.putfield 209, 3) := by decide +kernel
theorem dX5_nextToken_327 : decode cX5_nextToken 327 = .ok (.aload_n 0, 1) := by decide +kernel
theorem dX5_nextToken_328 : decode cX5_nextToken 328 = .ok (.dup, 1) := by decide +kernel
theorem dX5_nextToken_329 : decode cX5_nextToken 329 = .ok (.getfield 199, 3) := by decide +kernel
theorem dX5_nextToken_332 : decode cX5_nextToken 332 = .ok (.iconst 1, 1) := by decide +kernel
theorem dX5_nextToken_333 : decode cX5_nextToken 333 = .ok (.iadd, 1) := by decide +kernel
theorem dX5_nextToken_334 : decode cX5_nextToken 334 = .ok (.putfield 199, 3) := by decide +kernel
theorem dX5_nextToken_337 : decode cX5_nextToken 337 = .ok (.return_, 1) := by decide +kernel
def j5_nextToken_324  (xtape : Nat → Int32) (xtaped : Int32) (xtok : Int32) (xbeg : Int32) (xend : Int32) (xval : Int64) (t1 : Int32) : Option (Int32 × Int32 × Int32 × Int64) :=
  some (t1, xbeg, (xend + (1 : Int32)), xval)
def j5_nextToken_298  (xtape : Nat → Int32) (xtaped : Int32) (xtok : Int32) (xbeg : Int32) (xend : Int32) (xval : Int64) (t1 : Int32) : Option (Int32 × Int32 × Int32 × Int64) :=
  some (t1, xbeg, xend, xval)
def j5_nextToken_281  (xtape : Nat → Int32) (xtaped : Int32) (xtok : Int32) (xbeg : Int32) (xend : Int32) (xval : Int64)  : Option (Int32 × Int32 × Int32 × Int64) :=
  if (lg_cmp xval (9999 : Int64)) ≤ (0 : Int32) then (
    j5_nextToken_298 xtape xtaped xtok xbeg xend xval (2 : Int32))
  else (
    j5_nextToken_298 xtape xtaped xtok xbeg xend xval (4 : Int32))
def j5_nextToken_265 (k197 : (Nat → Int32) → Int32 → Int32 → Int32 → Int32 → Int64 → Option (Int32 × Int32 × Int32 × Int64)) (xtape : Nat → Int32) (xtaped : Int32) (xtok : Int32) (xbeg : Int32) (xend : Int32) (xval : Int64) (t1 : Int64) : Option (Int32 × Int32 × Int32 × Int64) :=
  k197 xtape xtaped xtok xbeg (xend + (1 : Int32)) t1
def l5_nextToken_197  : Nat → (Nat → Int32) → Int32 → Int32 → Int32 → Int32 → Int64 → Option (Int32 × Int32 × Int32 × Int64)
  | 0, _, _, _, _, _, _ => none
  | n + 1, xtape, xtaped, xtok, xbeg, xend, xval =>
    if xtaped ≤ xend then (
      j5_nextToken_281 xtape xtaped xtok xbeg xend xval)
    else (
      gd (inb xend 120) (
      if (f5_isDigit (xtape xend.toNatClampNeg)) = (0 : Int32) then (
        j5_nextToken_281 xtape xtaped xtok xbeg xend xval)
      else (
        if (lg_cmp xval (9999 : Int64)) ≤ (0 : Int32) then (
          gd (inb xend 120) (
          j5_nextToken_265 (l5_nextToken_197 n) xtape xtaped xtok xbeg xend xval (((xval * (10 : Int64)) + ((xtape xend.toNatClampNeg).toInt64)) - (48 : Int64))))
        else (
          j5_nextToken_265 (l5_nextToken_197 n) xtape xtaped xtok xbeg xend xval xval))))
def j5_nextToken_166 (k98 : (Nat → Int32) → Int32 → Int32 → Int32 → Int32 → Int64 → Option (Int32 × Int32 × Int32 × Int64)) (xtape : Nat → Int32) (xtaped : Int32) (xtok : Int32) (xbeg : Int32) (xend : Int32) (xval : Int64) (t1 : Int64) : Option (Int32 × Int32 × Int32 × Int64) :=
  k98 xtape xtaped xtok xbeg (xend + (1 : Int32)) t1
def l5_nextToken_98  : Nat → (Nat → Int32) → Int32 → Int32 → Int32 → Int32 → Int64 → Option (Int32 × Int32 × Int32 × Int64)
  | 0, _, _, _, _, _, _ => none
  | n + 1, xtape, xtaped, xtok, xbeg, xend, xval =>
    if xtaped ≤ xend then (
      some (xtok, xbeg, xend, xval))
    else (
      gd (inb xend 120) (
      if (f5_isLetter (xtape xend.toNatClampNeg)) = (0 : Int32) then (
        some (xtok, xbeg, xend, xval))
      else (
        if (lg_cmp xval (9999999999999 : Int64)) ≤ (0 : Int32) then (
          gd (inb xend 120) (
          j5_nextToken_166 (l5_nextToken_98 n) xtape xtaped xtok xbeg xend xval (((xval * (27 : Int64)) + ((xtape xend.toNatClampNeg).toInt64)) - (96 : Int64))))
        else (
          j5_nextToken_166 (l5_nextToken_98 n) xtape xtaped xtok xbeg xend xval xval))))
def j5_nextToken_46  (xtape : Nat → Int32) (xtaped : Int32) (xtok : Int32) (xbeg : Int32) (xend : Int32) (xval : Int64)  : Option (Int32 × Int32 × Int32 × Int64) :=
  if xbeg = xtaped then (
    some ((0 : Int32), xbeg, xbeg, (0 : Int64)))
  else (
    gd (inb xbeg 120) (
    if (f5_isLetter (xtape xbeg.toNatClampNeg)) = (0 : Int32) then (
      gd (inb xbeg 120) (
      if (f5_isDigit (xtape xbeg.toNatClampNeg)) = (0 : Int32) then (
        gd (inb xbeg 120) (
        if (xtape xbeg.toNatClampNeg) = (59 : Int32) then (
          j5_nextToken_324 xtape xtaped xtok xbeg xbeg (0 : Int64) (3 : Int32))
        else (
          j5_nextToken_324 xtape xtaped xtok xbeg xbeg (0 : Int64) (4 : Int32))))
      else (
        l5_nextToken_197 1000 xtape xtaped xtok xbeg xbeg (0 : Int64))))
    else (
      l5_nextToken_98 1000 xtape xtaped (1 : Int32) xbeg xbeg (0 : Int64))))
def l5_nextToken_8  : Nat → (Nat → Int32) → Int32 → Int32 → Int32 → Int32 → Int64 → Option (Int32 × Int32 × Int32 × Int64)
  | 0, _, _, _, _, _, _ => none
  | n + 1, xtape, xtaped, xtok, xbeg, xend, xval =>
    if xtaped ≤ xbeg then (
      j5_nextToken_46 xtape xtaped xtok xbeg xend xval)
    else (
      gd (inb xbeg 120) (
      if (xtape xbeg.toNatClampNeg) = (32 : Int32) then (
        (l5_nextToken_8 n) xtape xtaped xtok (xbeg + (1 : Int32)) xend xval)
      else (
        j5_nextToken_46 xtape xtaped xtok xbeg xend xval)))
def f5_nextToken (xtape : Nat → Int32) (xtaped : Int32) (xtok : Int32) (xbeg : Int32) (xend : Int32) (xval : Int64)  : Option (Int32 × Int32 × Int32 × Int64) :=
  l5_nextToken_8 1000 xtape xtaped xtok xend xend xval
set_option maxHeartbeats 4000000 in
set_option maxRecDepth 100000 in
theorem b5_nextToken_324 {X : XP} {p : Program} {l : Launch} {e : Env} {s : State} {m : MethodId} {args : Array Value} {below : List Frame} {meth : Method} {c : Code} {D : va_G} {cI cC : ClassId} {ad : Nat → Nat} {A : Nat → Prop} {xs : Nat → Int32} {xkept : Nat → Int32} {xaside : Nat → Int32} {xisK : Int32} {xfound : Nat → Int32} {xgone : Int32} {xover : Nat → Int32} {xtape : Nat → Int32} {xtaped : Int32} {xwid : Nat → Int32} {xsiz : Nat → Int32} {xcel : Nat → Int32} {xcar : Nat → Int32} {o_xtok : Int32} {o_xbeg : Int32} {o_xend : Int32} {o_xval : Int64} (C0 : CX X p s m args meth c cX5_nextToken 1 none RX5 A) : ∀ {xtok : Int32} {xbeg : Int32} {xend : Int32} {xval : Int64} {t1 : Int32} {H : Heap} {locs : List Loc} {ls : Array Slot}, GX X D (tyM cI cC) A s (wM cI cC ad xs xkept xaside xisK xfound xgone xover xtape xtaped xtok xbeg xend xval xwid xsiz xcel xcar) H locs → lv_has ls 1 [(0, .ref (ad 0))] → j5_nextToken_324  xtape xtaped xtok xbeg xend xval t1 = some (o_xtok, o_xbeg, o_xend, o_xval) → W p l e ({ frames := 2, cells := 0, slots := 0, locals := 42 }) s m args below meth c H locs 0 0 (MQ below (QcV D (tyM cI cC) (wM cI cC ad xs xkept xaside xisK xfound xgone xover xtape xtaped o_xtok o_xbeg o_xend o_xval xwid xsiz xcel xcar) A) args s 0 0 A) (F0 m 324 ls [.int t1, .ref (ad 0)]) := by
  have hx := C0.1
  have hb := C0.2.1
  have hown := C0.2.2.2.2.1
  have hts := C0.2.2.2.2.2.1
  have hX := C0.2.2.2.2.2.2.2.2
  intro xtok xbeg xend xval t1 H locs ls G hl hf
  unfold j5_nextToken_324 at hf
  refine s_put (C := RX5) (T := TX5) (w' := (wM cI cC ad xs xkept xaside xisK xfound xgone xover xtape xtaped t1 xbeg xend xval xwid xsiz xcel xcar)) C0 G i_X5 tyX5 tyX5_ok nmX5 0 9 rfl rfl (by decide) q722 rfl (ty := .int) (by decide +kernel) rfl rfl (Nat.le_of_ble_eq_true rfl) rfl dX5_nextToken_324 (fun H locs G => ?_)
  refine lv_aload_n hx hb dX5_nextToken_327 rfl (lv_at hl 0 rfl) ?_
  refine lv_dup hx hb dX5_nextToken_328 rfl ?_
  refine s_get (C := RX5) (T := TX5) C0 G i_X5 0 11 rfl rfl (by decide) q724 rfl dX5_nextToken_329 ?_
  refine lv_iconst (v := (1 : Int32)) hx hb dX5_nextToken_332 (by decide) ?_
  refine lv_iadd hx hb dX5_nextToken_333 ?_
  refine s_put (C := RX5) (T := TX5) (w' := (wM cI cC ad xs xkept xaside xisK xfound xgone xover xtape xtaped t1 xbeg (xend + (1 : Int32)) xval xwid xsiz xcel xcar)) C0 G i_X5 tyX5 tyX5_ok nmX5 0 11 rfl rfl (by decide) q724 rfl (ty := .int) (by decide +kernel) rfl rfl (Nat.le_of_ble_eq_true rfl) rfl dX5_nextToken_334 (fun H locs G => ?_)
  obtain ⟨rfl, rfl, rfl, rfl⟩ := inj4 hf
  exact ret_v C0 G dX5_nextToken_337
set_option maxHeartbeats 4000000 in
set_option maxRecDepth 100000 in
theorem b5_nextToken_298 {X : XP} {p : Program} {l : Launch} {e : Env} {s : State} {m : MethodId} {args : Array Value} {below : List Frame} {meth : Method} {c : Code} {D : va_G} {cI cC : ClassId} {ad : Nat → Nat} {A : Nat → Prop} {xs : Nat → Int32} {xkept : Nat → Int32} {xaside : Nat → Int32} {xisK : Int32} {xfound : Nat → Int32} {xgone : Int32} {xover : Nat → Int32} {xtape : Nat → Int32} {xtaped : Int32} {xwid : Nat → Int32} {xsiz : Nat → Int32} {xcel : Nat → Int32} {xcar : Nat → Int32} {o_xtok : Int32} {o_xbeg : Int32} {o_xend : Int32} {o_xval : Int64} (C0 : CX X p s m args meth c cX5_nextToken 1 none RX5 A) : ∀ {xtok : Int32} {xbeg : Int32} {xend : Int32} {xval : Int64} {t1 : Int32} {H : Heap} {locs : List Loc} {ls : Array Slot}, GX X D (tyM cI cC) A s (wM cI cC ad xs xkept xaside xisK xfound xgone xover xtape xtaped xtok xbeg xend xval xwid xsiz xcel xcar) H locs → lv_has ls 1 [] → j5_nextToken_298  xtape xtaped xtok xbeg xend xval t1 = some (o_xtok, o_xbeg, o_xend, o_xval) → W p l e ({ frames := 2, cells := 0, slots := 0, locals := 42 }) s m args below meth c H locs 0 0 (MQ below (QcV D (tyM cI cC) (wM cI cC ad xs xkept xaside xisK xfound xgone xover xtape xtaped o_xtok o_xbeg o_xend o_xval xwid xsiz xcel xcar) A) args s 0 0 A) (F0 m 298 ls [.int t1, .ref (ad 0)]) := by
  have hx := C0.1
  have hb := C0.2.1
  have hown := C0.2.2.2.2.1
  have hts := C0.2.2.2.2.2.1
  have hX := C0.2.2.2.2.2.2.2.2
  intro xtok xbeg xend xval t1 H locs ls G hl hf
  unfold j5_nextToken_298 at hf
  refine s_put (C := RX5) (T := TX5) (w' := (wM cI cC ad xs xkept xaside xisK xfound xgone xover xtape xtaped t1 xbeg xend xval xwid xsiz xcel xcar)) C0 G i_X5 tyX5 tyX5_ok nmX5 0 9 rfl rfl (by decide) q722 rfl (ty := .int) (by decide +kernel) rfl rfl (Nat.le_of_ble_eq_true rfl) rfl dX5_nextToken_298 (fun H locs G => ?_)
  refine lv_goto (tgt := 337) hx hb dX5_nextToken_301 (by decide) ?_
  obtain ⟨rfl, rfl, rfl, rfl⟩ := inj4 hf
  exact ret_v C0 G dX5_nextToken_337
set_option maxHeartbeats 4000000 in
set_option maxRecDepth 100000 in
theorem b5_nextToken_281 {X : XP} {p : Program} {l : Launch} {e : Env} {s : State} {m : MethodId} {args : Array Value} {below : List Frame} {meth : Method} {c : Code} {D : va_G} {cI cC : ClassId} {ad : Nat → Nat} {A : Nat → Prop} {xs : Nat → Int32} {xkept : Nat → Int32} {xaside : Nat → Int32} {xisK : Int32} {xfound : Nat → Int32} {xgone : Int32} {xover : Nat → Int32} {xtape : Nat → Int32} {xtaped : Int32} {xwid : Nat → Int32} {xsiz : Nat → Int32} {xcel : Nat → Int32} {xcar : Nat → Int32} {o_xtok : Int32} {o_xbeg : Int32} {o_xend : Int32} {o_xval : Int64} (C0 : CX X p s m args meth c cX5_nextToken 1 none RX5 A) : ∀ {xtok : Int32} {xbeg : Int32} {xend : Int32} {xval : Int64} {H : Heap} {locs : List Loc} {ls : Array Slot}, GX X D (tyM cI cC) A s (wM cI cC ad xs xkept xaside xisK xfound xgone xover xtape xtaped xtok xbeg xend xval xwid xsiz xcel xcar) H locs → lv_has ls 1 [(0, .ref (ad 0))] → j5_nextToken_281  xtape xtaped xtok xbeg xend xval = some (o_xtok, o_xbeg, o_xend, o_xval) → W p l e ({ frames := 2, cells := 0, slots := 0, locals := 42 }) s m args below meth c H locs 0 0 (MQ below (QcV D (tyM cI cC) (wM cI cC ad xs xkept xaside xisK xfound xgone xover xtape xtaped o_xtok o_xbeg o_xend o_xval xwid xsiz xcel xcar) A) args s 0 0 A) (F0 m 281 ls []) := by
  have hx := C0.1
  have hb := C0.2.1
  have hown := C0.2.2.2.2.1
  have hts := C0.2.2.2.2.2.1
  have hX := C0.2.2.2.2.2.2.2.2
  intro xtok xbeg xend xval H locs ls G hl hf
  unfold j5_nextToken_281 at hf
  refine lv_aload_n hx hb dX5_nextToken_281 rfl (lv_at hl 0 rfl) ?_
  refine lv_aload_n hx hb dX5_nextToken_282 rfl (lv_at hl 0 rfl) ?_
  refine s_get (C := RX5) (T := TX5) C0 G i_X5 0 12 rfl rfl (by decide) q725 rfl dX5_nextToken_283 ?_
  refine lv_ldc2 (v := (9999 : Int64)) hx hb hown (hts _ q1068) dX5_nextToken_286 ?_
  refine W.lcmp hx hb dX5_nextToken_289 ?_
  refine lv_if_le (tgt := 297) hx hb dX5_nextToken_290 (by decide) (fun hc21 => ?_) (fun hc21 => ?_)
  · have hf := itp hc21 hf
    refine lv_iconst (v := (2 : Int32)) hx hb dX5_nextToken_297 (by decide) ?_
    exact b5_nextToken_298 C0  G (lv_sub hl [] rfl) hf
  · have hf := itn hc21 hf
    refine lv_iconst (v := (4 : Int32)) hx hb dX5_nextToken_293 (by decide) ?_
    refine lv_goto (tgt := 298) hx hb dX5_nextToken_294 (by decide) ?_
    exact b5_nextToken_298 C0  G (lv_sub hl [] rfl) hf
set_option maxHeartbeats 4000000 in
set_option maxRecDepth 100000 in
theorem b5_nextToken_265 {X : XP} {p : Program} {l : Launch} {e : Env} {s : State} {m : MethodId} {args : Array Value} {below : List Frame} {meth : Method} {c : Code} {D : va_G} {cI cC : ClassId} {ad : Nat → Nat} {A : Nat → Prop} {xs : Nat → Int32} {xkept : Nat → Int32} {xaside : Nat → Int32} {xisK : Int32} {xfound : Nat → Int32} {xgone : Int32} {xover : Nat → Int32} {xtape : Nat → Int32} {xtaped : Int32} {xwid : Nat → Int32} {xsiz : Nat → Int32} {xcel : Nat → Int32} {xcar : Nat → Int32} {o_xtok : Int32} {o_xbeg : Int32} {o_xend : Int32} {o_xval : Int64} (C0 : CX X p s m args meth c cX5_nextToken 1 none RX5 A) {k197 : (Nat → Int32) → Int32 → Int32 → Int32 → Int32 → Int64 → Option (Int32 × Int32 × Int32 × Int64)} (hk197 : ∀ {xtok : Int32} {xbeg : Int32} {xend : Int32} {xval : Int64} {H : Heap} {locs : List Loc} {ls : Array Slot}, GX X D (tyM cI cC) A s (wM cI cC ad xs xkept xaside xisK xfound xgone xover xtape xtaped xtok xbeg xend xval xwid xsiz xcel xcar) H locs → lv_has ls 1 [(0, .ref (ad 0))] → k197 xtape xtaped xtok xbeg xend xval = some (o_xtok, o_xbeg, o_xend, o_xval) → W p l e ({ frames := 2, cells := 0, slots := 0, locals := 42 }) s m args below meth c H locs 0 0 (MQ below (QcV D (tyM cI cC) (wM cI cC ad xs xkept xaside xisK xfound xgone xover xtape xtaped o_xtok o_xbeg o_xend o_xval xwid xsiz xcel xcar) A) args s 0 0 A) (F0 m 197 ls [])) : ∀ {xtok : Int32} {xbeg : Int32} {xend : Int32} {xval : Int64} {t1 : Int64} {H : Heap} {locs : List Loc} {ls : Array Slot}, GX X D (tyM cI cC) A s (wM cI cC ad xs xkept xaside xisK xfound xgone xover xtape xtaped xtok xbeg xend xval xwid xsiz xcel xcar) H locs → lv_has ls 1 [(0, .ref (ad 0))] → j5_nextToken_265 k197 xtape xtaped xtok xbeg xend xval t1 = some (o_xtok, o_xbeg, o_xend, o_xval) → W p l e ({ frames := 2, cells := 0, slots := 0, locals := 42 }) s m args below meth c H locs 0 0 (MQ below (QcV D (tyM cI cC) (wM cI cC ad xs xkept xaside xisK xfound xgone xover xtape xtaped o_xtok o_xbeg o_xend o_xval xwid xsiz xcel xcar) A) args s 0 0 A) (F0 m 265 ls [.long t1, .ref (ad 0)]) := by
  have hx := C0.1
  have hb := C0.2.1
  have hown := C0.2.2.2.2.1
  have hts := C0.2.2.2.2.2.1
  have hX := C0.2.2.2.2.2.2.2.2
  intro xtok xbeg xend xval t1 H locs ls G hl hf
  unfold j5_nextToken_265 at hf
  refine s_put (C := RX5) (T := TX5) (w' := (wM cI cC ad xs xkept xaside xisK xfound xgone xover xtape xtaped xtok xbeg xend t1 xwid xsiz xcel xcar)) C0 G i_X5 tyX5 tyX5_ok nmX5 0 12 rfl rfl (by decide) q725 rfl (ty := .long) (by decide +kernel) rfl rfl (Nat.le_of_ble_eq_true rfl) rfl dX5_nextToken_265 (fun H locs G => ?_)
  refine lv_aload_n hx hb dX5_nextToken_268 rfl (lv_at hl 0 rfl) ?_
  refine lv_dup hx hb dX5_nextToken_269 rfl ?_
  refine s_get (C := RX5) (T := TX5) C0 G i_X5 0 11 rfl rfl (by decide) q724 rfl dX5_nextToken_270 ?_
  refine lv_iconst (v := (1 : Int32)) hx hb dX5_nextToken_273 (by decide) ?_
  refine lv_iadd hx hb dX5_nextToken_274 ?_
  refine s_put (C := RX5) (T := TX5) (w' := (wM cI cC ad xs xkept xaside xisK xfound xgone xover xtape xtaped xtok xbeg (xend + (1 : Int32)) t1 xwid xsiz xcel xcar)) C0 G i_X5 tyX5 tyX5_ok nmX5 0 11 rfl rfl (by decide) q724 rfl (ty := .int) (by decide +kernel) rfl rfl (Nat.le_of_ble_eq_true rfl) rfl dX5_nextToken_275 (fun H locs G => ?_)
  refine lv_goto (tgt := 197) hx hb dX5_nextToken_278 (by decide) ?_
  exact hk197 G (lv_sub hl [0] rfl) hf
set_option maxHeartbeats 4000000 in
set_option maxRecDepth 100000 in
theorem b5_nextToken_197 {X : XP} {p : Program} {l : Launch} {e : Env} {s : State} {m : MethodId} {args : Array Value} {below : List Frame} {meth : Method} {c : Code} {D : va_G} {cI cC : ClassId} {ad : Nat → Nat} {A : Nat → Prop} {xs : Nat → Int32} {xkept : Nat → Int32} {xaside : Nat → Int32} {xisK : Int32} {xfound : Nat → Int32} {xgone : Int32} {xover : Nat → Int32} {xtape : Nat → Int32} {xtaped : Int32} {xwid : Nat → Int32} {xsiz : Nat → Int32} {xcel : Nat → Int32} {xcar : Nat → Int32} {o_xtok : Int32} {o_xbeg : Int32} {o_xend : Int32} {o_xval : Int64} (C0 : CX X p s m args meth c cX5_nextToken 1 none RX5 A) : ∀ (n : Nat) {xtok : Int32} {xbeg : Int32} {xend : Int32} {xval : Int64} {H : Heap} {locs : List Loc} {ls : Array Slot}, GX X D (tyM cI cC) A s (wM cI cC ad xs xkept xaside xisK xfound xgone xover xtape xtaped xtok xbeg xend xval xwid xsiz xcel xcar) H locs → lv_has ls 1 [(0, .ref (ad 0))] → l5_nextToken_197  n xtape xtaped xtok xbeg xend xval = some (o_xtok, o_xbeg, o_xend, o_xval) → W p l e ({ frames := 2, cells := 0, slots := 0, locals := 42 }) s m args below meth c H locs 0 0 (MQ below (QcV D (tyM cI cC) (wM cI cC ad xs xkept xaside xisK xfound xgone xover xtape xtaped o_xtok o_xbeg o_xend o_xval xwid xsiz xcel xcar) A) args s 0 0 A) (F0 m 197 ls []) := by
  have hx := C0.1
  have hb := C0.2.1
  have hown := C0.2.2.2.2.1
  have hts := C0.2.2.2.2.2.1
  have hX := C0.2.2.2.2.2.2.2.2
  intro n
  induction n with
  | zero =>
    intro _ _ _ _ _ _ _ G hl hf
    cases hf
  | succ n ih =>
    intro xtok xbeg xend xval H locs ls G hl hf
    rw [l5_nextToken_197] at hf
    refine lv_aload_n hx hb dX5_nextToken_197 rfl (lv_at hl 0 rfl) ?_
    refine s_get (C := RX5) (T := TX5) C0 G i_X5 0 11 rfl rfl (by decide) q724 rfl dX5_nextToken_198 ?_
    refine lv_aload_n hx hb dX5_nextToken_201 rfl (lv_at hl 0 rfl) ?_
    refine s_get (C := RX5) (T := TX5) C0 G i_X5 0 8 rfl rfl (by decide) q721 rfl dX5_nextToken_202 ?_
    refine lv_icmp_ge (tgt := 281) hx hb dX5_nextToken_205 (by decide) (fun hc11 => ?_) (fun hc11 => ?_)
    · have hf := itp hc11 hf
      exact b5_nextToken_281 C0  G (lv_sub hl [0] rfl) hf
    · have hf := itn hc11 hf
      refine lv_aload_n hx hb dX5_nextToken_208 rfl (lv_at hl 0 rfl) ?_
      refine s_get (C := RX5) (T := TX5) C0 G i_X5 0 7 rfl rfl (by decide) q720 rfl dX5_nextToken_209 ?_
      refine lv_aload_n hx hb dX5_nextToken_212 rfl (lv_at hl 0 rfl) ?_
      refine s_get (C := RX5) (T := TX5) C0 G i_X5 0 11 rfl rfl (by decide) q724 rfl dX5_nextToken_213 ?_
      obtain ⟨hi12, hf⟩ := gd_s hf
      refine s_iald (k := xend.toNatClampNeg) C0 G 6 0 rfl rfl (vin hi12) rfl dX5_nextToken_216 ?_
      refine go_i C0 G (runS_of (n := 1) (As := [.int (xtape xend.toNatClampNeg)]) (rest := []) C0 G (c5_isDigit hX rfl) q1067 q54 q1065 q1066 o5_isDigit ⟨rfl, rfl⟩ ⟨Nat.le_of_ble_eq_true rfl, Nat.le_of_ble_eq_true rfl⟩ rfl hl.1 rfl (Nat.le_of_ble_eq_true rfl) dX5_nextToken_217) (fun H locs G => ?_)
      refine lv_if_eq (tgt := 281) hx hb dX5_nextToken_220 (by decide) (fun hc13 => ?_) (fun hc13 => ?_)
      · have hf := itp hc13 hf
        exact b5_nextToken_281 C0  G (lv_sub hl [0] rfl) hf
      · have hf := itn hc13 hf
        refine lv_aload_n hx hb dX5_nextToken_223 rfl (lv_at hl 0 rfl) ?_
        refine lv_aload_n hx hb dX5_nextToken_224 rfl (lv_at hl 0 rfl) ?_
        refine s_get (C := RX5) (T := TX5) C0 G i_X5 0 12 rfl rfl (by decide) q725 rfl dX5_nextToken_225 ?_
        refine lv_ldc2 (v := (9999 : Int64)) hx hb hown (hts _ q1068) dX5_nextToken_228 ?_
        refine W.lcmp hx hb dX5_nextToken_231 ?_
        refine lv_if_le (tgt := 242) hx hb dX5_nextToken_232 (by decide) (fun hc14 => ?_) (fun hc14 => ?_)
        · have hf := itp hc14 hf
          refine lv_aload_n hx hb dX5_nextToken_242 rfl (lv_at hl 0 rfl) ?_
          refine s_get (C := RX5) (T := TX5) C0 G i_X5 0 12 rfl rfl (by decide) q725 rfl dX5_nextToken_243 ?_
          refine lv_ldc2 (v := (10 : Int64)) hx hb hown (hts _ q1069) dX5_nextToken_246 ?_
          refine lv_lmul hx hb dX5_nextToken_249 ?_
          refine lv_aload_n hx hb dX5_nextToken_250 rfl (lv_at hl 0 rfl) ?_
          refine s_get (C := RX5) (T := TX5) C0 G i_X5 0 7 rfl rfl (by decide) q720 rfl dX5_nextToken_251 ?_
          refine lv_aload_n hx hb dX5_nextToken_254 rfl (lv_at hl 0 rfl) ?_
          refine s_get (C := RX5) (T := TX5) C0 G i_X5 0 11 rfl rfl (by decide) q724 rfl dX5_nextToken_255 ?_
          obtain ⟨hi15, hf⟩ := gd_s hf
          refine s_iald (k := xend.toNatClampNeg) C0 G 6 0 rfl rfl (vin hi15) rfl dX5_nextToken_258 ?_
          refine lv_i2l hx hb dX5_nextToken_259 rfl ?_
          refine lv_ladd hx hb dX5_nextToken_260 ?_
          refine lv_ldc2 (v := (48 : Int64)) hx hb hown (hts _ q1070) dX5_nextToken_261 ?_
          refine lv_lsub hx hb dX5_nextToken_264 ?_
          exact b5_nextToken_265 C0 ih G (lv_sub hl [0] rfl) hf
        · have hf := itn hc14 hf
          refine lv_aload_n hx hb dX5_nextToken_235 rfl (lv_at hl 0 rfl) ?_
          refine s_get (C := RX5) (T := TX5) C0 G i_X5 0 12 rfl rfl (by decide) q725 rfl dX5_nextToken_236 ?_
          refine lv_goto (tgt := 265) hx hb dX5_nextToken_239 (by decide) ?_
          exact b5_nextToken_265 C0 ih G (lv_sub hl [0] rfl) hf
set_option maxHeartbeats 4000000 in
set_option maxRecDepth 100000 in
theorem b5_nextToken_166 {X : XP} {p : Program} {l : Launch} {e : Env} {s : State} {m : MethodId} {args : Array Value} {below : List Frame} {meth : Method} {c : Code} {D : va_G} {cI cC : ClassId} {ad : Nat → Nat} {A : Nat → Prop} {xs : Nat → Int32} {xkept : Nat → Int32} {xaside : Nat → Int32} {xisK : Int32} {xfound : Nat → Int32} {xgone : Int32} {xover : Nat → Int32} {xtape : Nat → Int32} {xtaped : Int32} {xwid : Nat → Int32} {xsiz : Nat → Int32} {xcel : Nat → Int32} {xcar : Nat → Int32} {o_xtok : Int32} {o_xbeg : Int32} {o_xend : Int32} {o_xval : Int64} (C0 : CX X p s m args meth c cX5_nextToken 1 none RX5 A) {k98 : (Nat → Int32) → Int32 → Int32 → Int32 → Int32 → Int64 → Option (Int32 × Int32 × Int32 × Int64)} (hk98 : ∀ {xtok : Int32} {xbeg : Int32} {xend : Int32} {xval : Int64} {H : Heap} {locs : List Loc} {ls : Array Slot}, GX X D (tyM cI cC) A s (wM cI cC ad xs xkept xaside xisK xfound xgone xover xtape xtaped xtok xbeg xend xval xwid xsiz xcel xcar) H locs → lv_has ls 1 [(0, .ref (ad 0))] → k98 xtape xtaped xtok xbeg xend xval = some (o_xtok, o_xbeg, o_xend, o_xval) → W p l e ({ frames := 2, cells := 0, slots := 0, locals := 42 }) s m args below meth c H locs 0 0 (MQ below (QcV D (tyM cI cC) (wM cI cC ad xs xkept xaside xisK xfound xgone xover xtape xtaped o_xtok o_xbeg o_xend o_xval xwid xsiz xcel xcar) A) args s 0 0 A) (F0 m 98 ls [])) : ∀ {xtok : Int32} {xbeg : Int32} {xend : Int32} {xval : Int64} {t1 : Int64} {H : Heap} {locs : List Loc} {ls : Array Slot}, GX X D (tyM cI cC) A s (wM cI cC ad xs xkept xaside xisK xfound xgone xover xtape xtaped xtok xbeg xend xval xwid xsiz xcel xcar) H locs → lv_has ls 1 [(0, .ref (ad 0))] → j5_nextToken_166 k98 xtape xtaped xtok xbeg xend xval t1 = some (o_xtok, o_xbeg, o_xend, o_xval) → W p l e ({ frames := 2, cells := 0, slots := 0, locals := 42 }) s m args below meth c H locs 0 0 (MQ below (QcV D (tyM cI cC) (wM cI cC ad xs xkept xaside xisK xfound xgone xover xtape xtaped o_xtok o_xbeg o_xend o_xval xwid xsiz xcel xcar) A) args s 0 0 A) (F0 m 166 ls [.long t1, .ref (ad 0)]) := by
  have hx := C0.1
  have hb := C0.2.1
  have hown := C0.2.2.2.2.1
  have hts := C0.2.2.2.2.2.1
  have hX := C0.2.2.2.2.2.2.2.2
  intro xtok xbeg xend xval t1 H locs ls G hl hf
  unfold j5_nextToken_166 at hf
  refine s_put (C := RX5) (T := TX5) (w' := (wM cI cC ad xs xkept xaside xisK xfound xgone xover xtape xtaped xtok xbeg xend t1 xwid xsiz xcel xcar)) C0 G i_X5 tyX5 tyX5_ok nmX5 0 12 rfl rfl (by decide) q725 rfl (ty := .long) (by decide +kernel) rfl rfl (Nat.le_of_ble_eq_true rfl) rfl dX5_nextToken_166 (fun H locs G => ?_)
  refine lv_aload_n hx hb dX5_nextToken_169 rfl (lv_at hl 0 rfl) ?_
  refine lv_dup hx hb dX5_nextToken_170 rfl ?_
  refine s_get (C := RX5) (T := TX5) C0 G i_X5 0 11 rfl rfl (by decide) q724 rfl dX5_nextToken_171 ?_
  refine lv_iconst (v := (1 : Int32)) hx hb dX5_nextToken_174 (by decide) ?_
  refine lv_iadd hx hb dX5_nextToken_175 ?_
  refine s_put (C := RX5) (T := TX5) (w' := (wM cI cC ad xs xkept xaside xisK xfound xgone xover xtape xtaped xtok xbeg (xend + (1 : Int32)) t1 xwid xsiz xcel xcar)) C0 G i_X5 tyX5 tyX5_ok nmX5 0 11 rfl rfl (by decide) q724 rfl (ty := .int) (by decide +kernel) rfl rfl (Nat.le_of_ble_eq_true rfl) rfl dX5_nextToken_176 (fun H locs G => ?_)
  refine lv_goto (tgt := 98) hx hb dX5_nextToken_179 (by decide) ?_
  exact hk98 G (lv_sub hl [0] rfl) hf
set_option maxHeartbeats 4000000 in
set_option maxRecDepth 100000 in
theorem b5_nextToken_98 {X : XP} {p : Program} {l : Launch} {e : Env} {s : State} {m : MethodId} {args : Array Value} {below : List Frame} {meth : Method} {c : Code} {D : va_G} {cI cC : ClassId} {ad : Nat → Nat} {A : Nat → Prop} {xs : Nat → Int32} {xkept : Nat → Int32} {xaside : Nat → Int32} {xisK : Int32} {xfound : Nat → Int32} {xgone : Int32} {xover : Nat → Int32} {xtape : Nat → Int32} {xtaped : Int32} {xwid : Nat → Int32} {xsiz : Nat → Int32} {xcel : Nat → Int32} {xcar : Nat → Int32} {o_xtok : Int32} {o_xbeg : Int32} {o_xend : Int32} {o_xval : Int64} (C0 : CX X p s m args meth c cX5_nextToken 1 none RX5 A) : ∀ (n : Nat) {xtok : Int32} {xbeg : Int32} {xend : Int32} {xval : Int64} {H : Heap} {locs : List Loc} {ls : Array Slot}, GX X D (tyM cI cC) A s (wM cI cC ad xs xkept xaside xisK xfound xgone xover xtape xtaped xtok xbeg xend xval xwid xsiz xcel xcar) H locs → lv_has ls 1 [(0, .ref (ad 0))] → l5_nextToken_98  n xtape xtaped xtok xbeg xend xval = some (o_xtok, o_xbeg, o_xend, o_xval) → W p l e ({ frames := 2, cells := 0, slots := 0, locals := 42 }) s m args below meth c H locs 0 0 (MQ below (QcV D (tyM cI cC) (wM cI cC ad xs xkept xaside xisK xfound xgone xover xtape xtaped o_xtok o_xbeg o_xend o_xval xwid xsiz xcel xcar) A) args s 0 0 A) (F0 m 98 ls []) := by
  have hx := C0.1
  have hb := C0.2.1
  have hown := C0.2.2.2.2.1
  have hts := C0.2.2.2.2.2.1
  have hX := C0.2.2.2.2.2.2.2.2
  intro n
  induction n with
  | zero =>
    intro _ _ _ _ _ _ _ G hl hf
    cases hf
  | succ n ih =>
    intro xtok xbeg xend xval H locs ls G hl hf
    rw [l5_nextToken_98] at hf
    refine lv_aload_n hx hb dX5_nextToken_98 rfl (lv_at hl 0 rfl) ?_
    refine s_get (C := RX5) (T := TX5) C0 G i_X5 0 11 rfl rfl (by decide) q724 rfl dX5_nextToken_99 ?_
    refine lv_aload_n hx hb dX5_nextToken_102 rfl (lv_at hl 0 rfl) ?_
    refine s_get (C := RX5) (T := TX5) C0 G i_X5 0 8 rfl rfl (by decide) q721 rfl dX5_nextToken_103 ?_
    refine lv_icmp_ge (tgt := 337) hx hb dX5_nextToken_106 (by decide) (fun hc16 => ?_) (fun hc16 => ?_)
    · have hf := itp hc16 hf
      obtain ⟨rfl, rfl, rfl, rfl⟩ := inj4 hf
      exact ret_v C0 G dX5_nextToken_337
    · have hf := itn hc16 hf
      refine lv_aload_n hx hb dX5_nextToken_109 rfl (lv_at hl 0 rfl) ?_
      refine s_get (C := RX5) (T := TX5) C0 G i_X5 0 7 rfl rfl (by decide) q720 rfl dX5_nextToken_110 ?_
      refine lv_aload_n hx hb dX5_nextToken_113 rfl (lv_at hl 0 rfl) ?_
      refine s_get (C := RX5) (T := TX5) C0 G i_X5 0 11 rfl rfl (by decide) q724 rfl dX5_nextToken_114 ?_
      obtain ⟨hi17, hf⟩ := gd_s hf
      refine s_iald (k := xend.toNatClampNeg) C0 G 6 0 rfl rfl (vin hi17) rfl dX5_nextToken_117 ?_
      refine go_i C0 G (runS_of (n := 1) (As := [.int (xtape xend.toNatClampNeg)]) (rest := []) C0 G (c5_isLetter hX rfl) q1061 q54 q1059 q1060 o5_isLetter ⟨rfl, rfl⟩ ⟨Nat.le_of_ble_eq_true rfl, Nat.le_of_ble_eq_true rfl⟩ rfl hl.1 rfl (Nat.le_of_ble_eq_true rfl) dX5_nextToken_118) (fun H locs G => ?_)
      refine lv_if_eq (tgt := 337) hx hb dX5_nextToken_121 (by decide) (fun hc18 => ?_) (fun hc18 => ?_)
      · have hf := itp hc18 hf
        obtain ⟨rfl, rfl, rfl, rfl⟩ := inj4 hf
        exact ret_v C0 G dX5_nextToken_337
      · have hf := itn hc18 hf
        refine lv_aload_n hx hb dX5_nextToken_124 rfl (lv_at hl 0 rfl) ?_
        refine lv_aload_n hx hb dX5_nextToken_125 rfl (lv_at hl 0 rfl) ?_
        refine s_get (C := RX5) (T := TX5) C0 G i_X5 0 12 rfl rfl (by decide) q725 rfl dX5_nextToken_126 ?_
        refine lv_ldc2 (v := (9999999999999 : Int64)) hx hb hown (hts _ q1062) dX5_nextToken_129 ?_
        refine W.lcmp hx hb dX5_nextToken_132 ?_
        refine lv_if_le (tgt := 143) hx hb dX5_nextToken_133 (by decide) (fun hc19 => ?_) (fun hc19 => ?_)
        · have hf := itp hc19 hf
          refine lv_aload_n hx hb dX5_nextToken_143 rfl (lv_at hl 0 rfl) ?_
          refine s_get (C := RX5) (T := TX5) C0 G i_X5 0 12 rfl rfl (by decide) q725 rfl dX5_nextToken_144 ?_
          refine lv_ldc2 (v := (27 : Int64)) hx hb hown (hts _ q1063) dX5_nextToken_147 ?_
          refine lv_lmul hx hb dX5_nextToken_150 ?_
          refine lv_aload_n hx hb dX5_nextToken_151 rfl (lv_at hl 0 rfl) ?_
          refine s_get (C := RX5) (T := TX5) C0 G i_X5 0 7 rfl rfl (by decide) q720 rfl dX5_nextToken_152 ?_
          refine lv_aload_n hx hb dX5_nextToken_155 rfl (lv_at hl 0 rfl) ?_
          refine s_get (C := RX5) (T := TX5) C0 G i_X5 0 11 rfl rfl (by decide) q724 rfl dX5_nextToken_156 ?_
          obtain ⟨hi20, hf⟩ := gd_s hf
          refine s_iald (k := xend.toNatClampNeg) C0 G 6 0 rfl rfl (vin hi20) rfl dX5_nextToken_159 ?_
          refine lv_i2l hx hb dX5_nextToken_160 rfl ?_
          refine lv_ladd hx hb dX5_nextToken_161 ?_
          refine lv_ldc2 (v := (96 : Int64)) hx hb hown (hts _ q1064) dX5_nextToken_162 ?_
          refine lv_lsub hx hb dX5_nextToken_165 ?_
          exact b5_nextToken_166 C0 ih G (lv_sub hl [0] rfl) hf
        · have hf := itn hc19 hf
          refine lv_aload_n hx hb dX5_nextToken_136 rfl (lv_at hl 0 rfl) ?_
          refine s_get (C := RX5) (T := TX5) C0 G i_X5 0 12 rfl rfl (by decide) q725 rfl dX5_nextToken_137 ?_
          refine lv_goto (tgt := 166) hx hb dX5_nextToken_140 (by decide) ?_
          exact b5_nextToken_166 C0 ih G (lv_sub hl [0] rfl) hf
set_option maxHeartbeats 4000000 in
set_option maxRecDepth 100000 in
theorem b5_nextToken_46 {X : XP} {p : Program} {l : Launch} {e : Env} {s : State} {m : MethodId} {args : Array Value} {below : List Frame} {meth : Method} {c : Code} {D : va_G} {cI cC : ClassId} {ad : Nat → Nat} {A : Nat → Prop} {xs : Nat → Int32} {xkept : Nat → Int32} {xaside : Nat → Int32} {xisK : Int32} {xfound : Nat → Int32} {xgone : Int32} {xover : Nat → Int32} {xtape : Nat → Int32} {xtaped : Int32} {xwid : Nat → Int32} {xsiz : Nat → Int32} {xcel : Nat → Int32} {xcar : Nat → Int32} {o_xtok : Int32} {o_xbeg : Int32} {o_xend : Int32} {o_xval : Int64} (C0 : CX X p s m args meth c cX5_nextToken 1 none RX5 A) : ∀ {xtok : Int32} {xbeg : Int32} {xend : Int32} {xval : Int64} {H : Heap} {locs : List Loc} {ls : Array Slot}, GX X D (tyM cI cC) A s (wM cI cC ad xs xkept xaside xisK xfound xgone xover xtape xtaped xtok xbeg xend xval xwid xsiz xcel xcar) H locs → lv_has ls 1 [(0, .ref (ad 0))] → j5_nextToken_46  xtape xtaped xtok xbeg xend xval = some (o_xtok, o_xbeg, o_xend, o_xval) → W p l e ({ frames := 2, cells := 0, slots := 0, locals := 42 }) s m args below meth c H locs 0 0 (MQ below (QcV D (tyM cI cC) (wM cI cC ad xs xkept xaside xisK xfound xgone xover xtape xtaped o_xtok o_xbeg o_xend o_xval xwid xsiz xcel xcar) A) args s 0 0 A) (F0 m 46 ls []) := by
  have hx := C0.1
  have hb := C0.2.1
  have hown := C0.2.2.2.2.1
  have hts := C0.2.2.2.2.2.1
  have hX := C0.2.2.2.2.2.2.2.2
  intro xtok xbeg xend xval H locs ls G hl hf
  unfold j5_nextToken_46 at hf
  refine lv_aload_n hx hb dX5_nextToken_46 rfl (lv_at hl 0 rfl) ?_
  refine lv_aload_n hx hb dX5_nextToken_47 rfl (lv_at hl 0 rfl) ?_
  refine s_get (C := RX5) (T := TX5) C0 G i_X5 0 10 rfl rfl (by decide) q723 rfl dX5_nextToken_48 ?_
  refine s_put (C := RX5) (T := TX5) (w' := (wM cI cC ad xs xkept xaside xisK xfound xgone xover xtape xtaped xtok xbeg xbeg xval xwid xsiz xcel xcar)) C0 G i_X5 tyX5 tyX5_ok nmX5 0 11 rfl rfl (by decide) q724 rfl (ty := .int) (by decide +kernel) rfl rfl (Nat.le_of_ble_eq_true rfl) rfl dX5_nextToken_51 (fun H locs G => ?_)
  refine lv_aload_n hx hb dX5_nextToken_54 rfl (lv_at hl 0 rfl) ?_
  refine lv_lconst (v := (0 : Int64)) hx hb dX5_nextToken_55 (by decide) ?_
  refine s_put (C := RX5) (T := TX5) (w' := (wM cI cC ad xs xkept xaside xisK xfound xgone xover xtape xtaped xtok xbeg xbeg (0 : Int64) xwid xsiz xcel xcar)) C0 G i_X5 tyX5 tyX5_ok nmX5 0 12 rfl rfl (by decide) q725 rfl (ty := .long) (by decide +kernel) rfl rfl (Nat.le_of_ble_eq_true rfl) rfl dX5_nextToken_56 (fun H locs G => ?_)
  refine lv_aload_n hx hb dX5_nextToken_59 rfl (lv_at hl 0 rfl) ?_
  refine s_get (C := RX5) (T := TX5) C0 G i_X5 0 10 rfl rfl (by decide) q723 rfl dX5_nextToken_60 ?_
  refine lv_aload_n hx hb dX5_nextToken_63 rfl (lv_at hl 0 rfl) ?_
  refine s_get (C := RX5) (T := TX5) C0 G i_X5 0 8 rfl rfl (by decide) q721 rfl dX5_nextToken_64 ?_
  refine lv_icmp_ne (tgt := 78) hx hb dX5_nextToken_67 (by decide) (fun hc4 => ?_) (fun hc4 => ?_)
  · have hf := itn hc4 hf
    refine lv_aload_n hx hb dX5_nextToken_78 rfl (lv_at hl 0 rfl) ?_
    refine s_get (C := RX5) (T := TX5) C0 G i_X5 0 7 rfl rfl (by decide) q720 rfl dX5_nextToken_79 ?_
    refine lv_aload_n hx hb dX5_nextToken_82 rfl (lv_at hl 0 rfl) ?_
    refine s_get (C := RX5) (T := TX5) C0 G i_X5 0 10 rfl rfl (by decide) q723 rfl dX5_nextToken_83 ?_
    obtain ⟨hi5, hf⟩ := gd_s hf
    refine s_iald (k := xbeg.toNatClampNeg) C0 G 6 0 rfl rfl (vin hi5) rfl dX5_nextToken_86 ?_
    refine go_i C0 G (runS_of (n := 1) (As := [.int (xtape xbeg.toNatClampNeg)]) (rest := []) C0 G (c5_isLetter hX rfl) q1061 q54 q1059 q1060 o5_isLetter ⟨rfl, rfl⟩ ⟨Nat.le_of_ble_eq_true rfl, Nat.le_of_ble_eq_true rfl⟩ rfl hl.1 rfl (Nat.le_of_ble_eq_true rfl) dX5_nextToken_87) (fun H locs G => ?_)
    refine lv_if_eq (tgt := 182) hx hb dX5_nextToken_90 (by decide) (fun hc6 => ?_) (fun hc6 => ?_)
    · have hf := itp hc6 hf
      refine lv_aload_n hx hb dX5_nextToken_182 rfl (lv_at hl 0 rfl) ?_
      refine s_get (C := RX5) (T := TX5) C0 G i_X5 0 7 rfl rfl (by decide) q720 rfl dX5_nextToken_183 ?_
      refine lv_aload_n hx hb dX5_nextToken_186 rfl (lv_at hl 0 rfl) ?_
      refine s_get (C := RX5) (T := TX5) C0 G i_X5 0 10 rfl rfl (by decide) q723 rfl dX5_nextToken_187 ?_
      obtain ⟨hi7, hf⟩ := gd_s hf
      refine s_iald (k := xbeg.toNatClampNeg) C0 G 6 0 rfl rfl (vin hi7) rfl dX5_nextToken_190 ?_
      refine go_i C0 G (runS_of (n := 1) (As := [.int (xtape xbeg.toNatClampNeg)]) (rest := []) C0 G (c5_isDigit hX rfl) q1067 q54 q1065 q1066 o5_isDigit ⟨rfl, rfl⟩ ⟨Nat.le_of_ble_eq_true rfl, Nat.le_of_ble_eq_true rfl⟩ rfl hl.1 rfl (Nat.le_of_ble_eq_true rfl) dX5_nextToken_191) (fun H locs G => ?_)
      refine lv_if_eq (tgt := 304) hx hb dX5_nextToken_194 (by decide) (fun hc8 => ?_) (fun hc8 => ?_)
      · have hf := itp hc8 hf
        refine lv_aload_n hx hb dX5_nextToken_304 rfl (lv_at hl 0 rfl) ?_
        refine lv_aload_n hx hb dX5_nextToken_305 rfl (lv_at hl 0 rfl) ?_
        refine s_get (C := RX5) (T := TX5) C0 G i_X5 0 7 rfl rfl (by decide) q720 rfl dX5_nextToken_306 ?_
        refine lv_aload_n hx hb dX5_nextToken_309 rfl (lv_at hl 0 rfl) ?_
        refine s_get (C := RX5) (T := TX5) C0 G i_X5 0 10 rfl rfl (by decide) q723 rfl dX5_nextToken_310 ?_
        obtain ⟨hi9, hf⟩ := gd_s hf
        refine s_iald (k := xbeg.toNatClampNeg) C0 G 6 0 rfl rfl (vin hi9) rfl dX5_nextToken_313 ?_
        refine lv_bipush (v := (59 : Int32)) hx hb dX5_nextToken_314 (by decide) ?_
        refine lv_icmp_ne (tgt := 323) hx hb dX5_nextToken_316 (by decide) (fun hc10 => ?_) (fun hc10 => ?_)
        · have hf := itn hc10 hf
          refine lv_iconst (v := (4 : Int32)) hx hb dX5_nextToken_323 (by decide) ?_
          exact b5_nextToken_324 C0  G (lv_sub hl [0] rfl) hf
        · have hf := itp hc10 hf
          refine lv_iconst (v := (3 : Int32)) hx hb dX5_nextToken_319 (by decide) ?_
          refine lv_goto (tgt := 324) hx hb dX5_nextToken_320 (by decide) ?_
          exact b5_nextToken_324 C0  G (lv_sub hl [0] rfl) hf
      · have hf := itn hc8 hf
        exact b5_nextToken_197 C0  1000 G (lv_sub hl [0] rfl) hf
    · have hf := itn hc6 hf
      refine lv_aload_n hx hb dX5_nextToken_93 rfl (lv_at hl 0 rfl) ?_
      refine lv_iconst (v := (1 : Int32)) hx hb dX5_nextToken_94 (by decide) ?_
      refine s_put (C := RX5) (T := TX5) (w' := (wM cI cC ad xs xkept xaside xisK xfound xgone xover xtape xtaped (1 : Int32) xbeg xbeg (0 : Int64) xwid xsiz xcel xcar)) C0 G i_X5 tyX5 tyX5_ok nmX5 0 9 rfl rfl (by decide) q722 rfl (ty := .int) (by decide +kernel) rfl rfl (Nat.le_of_ble_eq_true rfl) rfl dX5_nextToken_95 (fun H locs G => ?_)
      exact b5_nextToken_98 C0  1000 G (lv_sub hl [0] rfl) hf
  · have hf := itp hc4 hf
    refine lv_aload_n hx hb dX5_nextToken_70 rfl (lv_at hl 0 rfl) ?_
    refine lv_iconst (v := (0 : Int32)) hx hb dX5_nextToken_71 (by decide) ?_
    refine s_put (C := RX5) (T := TX5) (w' := (wM cI cC ad xs xkept xaside xisK xfound xgone xover xtape xtaped (0 : Int32) xbeg xbeg (0 : Int64) xwid xsiz xcel xcar)) C0 G i_X5 tyX5 tyX5_ok nmX5 0 9 rfl rfl (by decide) q722 rfl (ty := .int) (by decide +kernel) rfl rfl (Nat.le_of_ble_eq_true rfl) rfl dX5_nextToken_72 (fun H locs G => ?_)
    refine lv_goto (tgt := 337) hx hb dX5_nextToken_75 (by decide) ?_
    obtain ⟨rfl, rfl, rfl, rfl⟩ := inj4 hf
    exact ret_v C0 G dX5_nextToken_337
set_option maxHeartbeats 4000000 in
set_option maxRecDepth 100000 in
theorem b5_nextToken_8 {X : XP} {p : Program} {l : Launch} {e : Env} {s : State} {m : MethodId} {args : Array Value} {below : List Frame} {meth : Method} {c : Code} {D : va_G} {cI cC : ClassId} {ad : Nat → Nat} {A : Nat → Prop} {xs : Nat → Int32} {xkept : Nat → Int32} {xaside : Nat → Int32} {xisK : Int32} {xfound : Nat → Int32} {xgone : Int32} {xover : Nat → Int32} {xtape : Nat → Int32} {xtaped : Int32} {xwid : Nat → Int32} {xsiz : Nat → Int32} {xcel : Nat → Int32} {xcar : Nat → Int32} {o_xtok : Int32} {o_xbeg : Int32} {o_xend : Int32} {o_xval : Int64} (C0 : CX X p s m args meth c cX5_nextToken 1 none RX5 A) : ∀ (n : Nat) {xtok : Int32} {xbeg : Int32} {xend : Int32} {xval : Int64} {H : Heap} {locs : List Loc} {ls : Array Slot}, GX X D (tyM cI cC) A s (wM cI cC ad xs xkept xaside xisK xfound xgone xover xtape xtaped xtok xbeg xend xval xwid xsiz xcel xcar) H locs → lv_has ls 1 [(0, .ref (ad 0))] → l5_nextToken_8  n xtape xtaped xtok xbeg xend xval = some (o_xtok, o_xbeg, o_xend, o_xval) → W p l e ({ frames := 2, cells := 0, slots := 0, locals := 42 }) s m args below meth c H locs 0 0 (MQ below (QcV D (tyM cI cC) (wM cI cC ad xs xkept xaside xisK xfound xgone xover xtape xtaped o_xtok o_xbeg o_xend o_xval xwid xsiz xcel xcar) A) args s 0 0 A) (F0 m 8 ls []) := by
  have hx := C0.1
  have hb := C0.2.1
  have hown := C0.2.2.2.2.1
  have hts := C0.2.2.2.2.2.1
  have hX := C0.2.2.2.2.2.2.2.2
  intro n
  induction n with
  | zero =>
    intro _ _ _ _ _ _ _ G hl hf
    cases hf
  | succ n ih =>
    intro xtok xbeg xend xval H locs ls G hl hf
    rw [l5_nextToken_8] at hf
    refine lv_aload_n hx hb dX5_nextToken_8 rfl (lv_at hl 0 rfl) ?_
    refine s_get (C := RX5) (T := TX5) C0 G i_X5 0 10 rfl rfl (by decide) q723 rfl dX5_nextToken_9 ?_
    refine lv_aload_n hx hb dX5_nextToken_12 rfl (lv_at hl 0 rfl) ?_
    refine s_get (C := RX5) (T := TX5) C0 G i_X5 0 8 rfl rfl (by decide) q721 rfl dX5_nextToken_13 ?_
    refine lv_icmp_ge (tgt := 46) hx hb dX5_nextToken_16 (by decide) (fun hc1 => ?_) (fun hc1 => ?_)
    · have hf := itp hc1 hf
      exact b5_nextToken_46 C0  G (lv_sub hl [0] rfl) hf
    · have hf := itn hc1 hf
      refine lv_aload_n hx hb dX5_nextToken_19 rfl (lv_at hl 0 rfl) ?_
      refine s_get (C := RX5) (T := TX5) C0 G i_X5 0 7 rfl rfl (by decide) q720 rfl dX5_nextToken_20 ?_
      refine lv_aload_n hx hb dX5_nextToken_23 rfl (lv_at hl 0 rfl) ?_
      refine s_get (C := RX5) (T := TX5) C0 G i_X5 0 10 rfl rfl (by decide) q723 rfl dX5_nextToken_24 ?_
      obtain ⟨hi2, hf⟩ := gd_s hf
      refine s_iald (k := xbeg.toNatClampNeg) C0 G 6 0 rfl rfl (vin hi2) rfl dX5_nextToken_27 ?_
      refine lv_bipush (v := (32 : Int32)) hx hb dX5_nextToken_28 (by decide) ?_
      refine lv_icmp_ne (tgt := 46) hx hb dX5_nextToken_30 (by decide) (fun hc3 => ?_) (fun hc3 => ?_)
      · have hf := itn hc3 hf
        exact b5_nextToken_46 C0  G (lv_sub hl [0] rfl) hf
      · have hf := itp hc3 hf
        refine lv_aload_n hx hb dX5_nextToken_33 rfl (lv_at hl 0 rfl) ?_
        refine lv_dup hx hb dX5_nextToken_34 rfl ?_
        refine s_get (C := RX5) (T := TX5) C0 G i_X5 0 10 rfl rfl (by decide) q723 rfl dX5_nextToken_35 ?_
        refine lv_iconst (v := (1 : Int32)) hx hb dX5_nextToken_38 (by decide) ?_
        refine lv_iadd hx hb dX5_nextToken_39 ?_
        refine s_put (C := RX5) (T := TX5) (w' := (wM cI cC ad xs xkept xaside xisK xfound xgone xover xtape xtaped xtok (xbeg + (1 : Int32)) xend xval xwid xsiz xcel xcar)) C0 G i_X5 tyX5 tyX5_ok nmX5 0 10 rfl rfl (by decide) q723 rfl (ty := .int) (by decide +kernel) rfl rfl (Nat.le_of_ble_eq_true rfl) rfl dX5_nextToken_40 (fun H locs G => ?_)
        refine lv_goto (tgt := 8) hx hb dX5_nextToken_43 (by decide) ?_
        exact ih G (lv_sub hl [0] rfl) hf
set_option maxHeartbeats 4000000 in
set_option maxRecDepth 100000 in
theorem b5_nextToken_0 {X : XP} {p : Program} {l : Launch} {e : Env} {s : State} {m : MethodId} {args : Array Value} {below : List Frame} {meth : Method} {c : Code} {D : va_G} {cI cC : ClassId} {ad : Nat → Nat} {A : Nat → Prop} {xs : Nat → Int32} {xkept : Nat → Int32} {xaside : Nat → Int32} {xisK : Int32} {xfound : Nat → Int32} {xgone : Int32} {xover : Nat → Int32} {xtape : Nat → Int32} {xtaped : Int32} {xwid : Nat → Int32} {xsiz : Nat → Int32} {xcel : Nat → Int32} {xcar : Nat → Int32} {o_xtok : Int32} {o_xbeg : Int32} {o_xend : Int32} {o_xval : Int64} (C0 : CX X p s m args meth c cX5_nextToken 1 none RX5 A) : ∀ {xtok : Int32} {xbeg : Int32} {xend : Int32} {xval : Int64} {H : Heap} {locs : List Loc} {ls : Array Slot}, GX X D (tyM cI cC) A s (wM cI cC ad xs xkept xaside xisK xfound xgone xover xtape xtaped xtok xbeg xend xval xwid xsiz xcel xcar) H locs → lv_has ls 1 [(0, .ref (ad 0))] → f5_nextToken xtape xtaped xtok xbeg xend xval = some (o_xtok, o_xbeg, o_xend, o_xval) → W p l e ({ frames := 2, cells := 0, slots := 0, locals := 42 }) s m args below meth c H locs 0 0 (MQ below (QcV D (tyM cI cC) (wM cI cC ad xs xkept xaside xisK xfound xgone xover xtape xtaped o_xtok o_xbeg o_xend o_xval xwid xsiz xcel xcar) A) args s 0 0 A) (F0 m 0 ls []) := by
  have hx := C0.1
  have hb := C0.2.1
  have hown := C0.2.2.2.2.1
  have hts := C0.2.2.2.2.2.1
  have hX := C0.2.2.2.2.2.2.2.2
  intro xtok xbeg xend xval H locs ls G hl hf
  unfold f5_nextToken at hf
  refine lv_aload_n hx hb dX5_nextToken_0 rfl (lv_at hl 0 rfl) ?_
  refine lv_aload_n hx hb dX5_nextToken_1 rfl (lv_at hl 0 rfl) ?_
  refine s_get (C := RX5) (T := TX5) C0 G i_X5 0 11 rfl rfl (by decide) q724 rfl dX5_nextToken_2 ?_
  refine s_put (C := RX5) (T := TX5) (w' := (wM cI cC ad xs xkept xaside xisK xfound xgone xover xtape xtaped xtok xend xend xval xwid xsiz xcel xcar)) C0 G i_X5 tyX5 tyX5_ok nmX5 0 10 rfl rfl (by decide) q723 rfl (ty := .int) (by decide +kernel) rfl rfl (Nat.le_of_ble_eq_true rfl) rfl dX5_nextToken_5 (fun H locs G => ?_)
  exact b5_nextToken_8 C0  1000 G (lv_sub hl [0] rfl) hf
theorem o5_nextToken : okName yX5_nextToken 0 := ⟨by decide, by decide, by decide +kernel⟩
set_option maxHeartbeats 4000000 in
set_option maxRecDepth 100000 in
theorem c5_nextToken {X : XP} (hX : XT X) {l : Launch} {D : va_G} {cI cC : ClassId} {ad : Nat → Nat} {sz : Nat} {xs : Nat → Int32} {xkept : Nat → Int32} {xaside : Nat → Int32} {xisK : Int32} {xfound : Nat → Int32} {xgone : Int32} {xover : Nat → Int32} {xtape : Nat → Int32} {xtaped : Int32} {xtok : Int32} {xbeg : Int32} {xend : Int32} {xval : Int64} {xwid : Nat → Int32} {xsiz : Nat → Int32} {xcel : Nat → Int32} {xcar : Nat → Int32}  {o_xtok : Int32} {o_xbeg : Int32} {o_xend : Int32} {o_xval : Int64} (hf : f5_nextToken xtape xtaped xtok xbeg xend xval = some (o_xtok, o_xbeg, o_xend, o_xval)) : Met l yX5_nextToken (wU yX5_nextToken cX5_nextToken 1 none) ({ frames := 2, cells := 0, slots := 0, locals := 42 }) (va_Pc [.ref (ad 0)] (PreW X D (tyM cI cC) (wM cI cC ad xs xkept xaside xisK xfound xgone xover xtape xtaped xtok xbeg xend xval xwid xsiz xcel xcar) sz)) (QcV D (tyM cI cC) (wM cI cC ad xs xkept xaside xisK xfound xgone xover xtape xtaped o_xtok o_xbeg o_xend o_xval xwid xsiz xcel xcar) (va_A (wM cI cC ad xs xkept xaside xisK xfound xgone xover xtape xtaped xtok xbeg xend xval xwid xsiz xcel xcar) sz)) 0 0 (va_A (wM cI cC ad xs xkept xaside xisK xfound xgone xover xtape xtaped xtok xbeg xend xval xwid xsiz xcel xcar) sz) := by
  refine startW hX (own := RX5) (by decide) rfl (Nat.le_of_ble_eq_true rfl) (fun p e s m args below meth c ls C0 G hl => ?_)
  exact b5_nextToken_0 C0 G hl hf
/-! 5_wordOf_7 -/
theorem dX5_wordOf_0 : decode cX5_wordOf 0 = .ok (.iconst (-1), 1) := by decide +kernel
theorem dX5_wordOf_1 : decode cX5_wordOf 1 = .ok (.istore_n 2, 1) := by decide +kernel
theorem dX5_wordOf_2 : decode cX5_wordOf 2 = .ok (.iconst 0, 1) := by decide +kernel
theorem dX5_wordOf_3 : decode cX5_wordOf 3 = .ok (.istore_n 3, 1) := by decide +kernel
theorem dX5_wordOf_4 : decode cX5_wordOf 4 = .ok (.iload_n 3, 1) := by decide +kernel
theorem dX5_wordOf_5 : decode cX5_wordOf 5 = .ok (.aload_n 1, 1) := by decide +kernel
theorem dX5_wordOf_6 : decode cX5_wordOf 6 = .ok (.arraylength, 1) := by decide +kernel
theorem dX5_wordOf_7 : decode cX5_wordOf 7 = .ok (.bipush 9, 2) := by decide +kernel
theorem dX5_wordOf_9 : decode cX5_wordOf 9 = .ok (.idiv, 1) := by decide +kernel
theorem dX5_wordOf_10 : decode cX5_wordOf 10 = .ok (.if_icmp .ge 94, 3) := by decide +kernel
theorem dX5_wordOf_13 : decode cX5_wordOf 13 = .ok (.aload_n 0, 1) := by decide +kernel
theorem dX5_wordOf_14 : decode cX5_wordOf 14 = .ok (.getfield 209, 3) := by decide +kernel
theorem dX5_wordOf_17 : decode cX5_wordOf 17 = .ok (.iconst 1, 1) := by decide +kernel
theorem dX5_wordOf_18 : decode cX5_wordOf 18 = .ok (.if_icmp .ne 86, 3) := by decide +kernel
theorem dX5_wordOf_21 : decode cX5_wordOf 21 = .ok (.lconst 0, 1) := by decide +kernel
theorem dX5_wordOf_22 : decode cX5_wordOf 22 = .ok (.lstore 4, 2) := by decide +kernel
theorem dX5_wordOf_24 : decode cX5_wordOf 24 = .ok (.iconst 0, 1) := by decide +kernel
theorem dX5_wordOf_25 : decode cX5_wordOf 25 = .ok (.istore 6, 2) := by decide +kernel
theorem dX5_wordOf_27 : decode cX5_wordOf 27 = .ok (.iload 6, 2) := by decide +kernel
theorem dX5_wordOf_29 : decode cX5_wordOf 29 = .ok (.bipush 9, 2) := by decide +kernel
theorem dX5_wordOf_31 : decode cX5_wordOf 31 = .ok (.if_icmp .ge 51, 3) := by decide +kernel
theorem dX5_wordOf_34 : decode cX5_wordOf 34 = .ok (.aload_n 1, 1) := by decide +kernel
theorem dX5_wordOf_35 : decode cX5_wordOf 35 = .ok (.bipush 9, 2) := by decide +kernel
theorem dX5_wordOf_37 : decode cX5_wordOf 37 = .ok (.iload_n 3, 1) := by decide +kernel
theorem dX5_wordOf_38 : decode cX5_wordOf 38 = .ok (.imul, 1) := by decide +kernel
theorem dX5_wordOf_39 : decode cX5_wordOf 39 = .ok (.iload 6, 2) := by decide +kernel
theorem dX5_wordOf_41 : decode cX5_wordOf 41 = .ok (.iadd, 1) := by decide +kernel
theorem dX5_wordOf_42 : decode cX5_wordOf 42 = .ok (.caload, 1) := by decide +kernel
theorem dX5_wordOf_43 : decode cX5_wordOf 43 = .ok (.bipush 32, 2) := by decide +kernel
theorem dX5_wordOf_45 : decode cX5_wordOf 45 = .ok (.if_icmp .ne 8, 3) := by decide +kernel
theorem dX5_wordOf_48 : decode cX5_wordOf 48 = .ok (.lload 4, 2) := by decide +kernel
theorem dX5_wordOf_50 : decode cX5_wordOf 50 = .ok (.goto 24, 3) := by decide +kernel
theorem dX5_wordOf_53 : decode cX5_wordOf 53 = .ok (.lload 4, 2) := by decide +kernel
theorem dX5_wordOf_55 : decode cX5_wordOf 55 = .ok (.ldc2_w 217, 3) := by decide +kernel
theorem dX5_wordOf_58 : decode cX5_wordOf 58 = .ok (.lmul, 1) := by decide +kernel
theorem dX5_wordOf_59 : decode cX5_wordOf 59 = .ok (.aload_n 1, 1) := by decide +kernel
theorem dX5_wordOf_60 : decode cX5_wordOf 60 = .ok (.bipush 9, 2) := by decide +kernel
theorem dX5_wordOf_62 : decode cX5_wordOf 62 = .ok (.iload_n 3, 1) := by decide +kernel
theorem dX5_wordOf_63 : decode cX5_wordOf 63 = .ok (.imul, 1) := by decide +kernel
theorem dX5_wordOf_64 : decode cX5_wordOf 64 = .ok (.iload 6, 2) := by decide +kernel
theorem dX5_wordOf_66 : decode cX5_wordOf 66 = .ok (.iadd, 1) := by decide +kernel
theorem dX5_wordOf_67 : decode cX5_wordOf 67 = .ok (.caload, 1) := by decide +kernel
theorem dX5_wordOf_68 : decode cX5_wordOf 68 = .ok (.i2l, 1) := by decide +kernel
theorem dX5_wordOf_69 : decode cX5_wordOf 69 = .ok (.ladd, 1) := by decide +kernel
theorem dX5_wordOf_70 : decode cX5_wordOf 70 = .ok (.ldc2_w 219, 3) := by decide +kernel
theorem dX5_wordOf_73 : decode cX5_wordOf 73 = .ok (.lsub, 1) := by decide +kernel
theorem dX5_wordOf_74 : decode cX5_wordOf 74 = .ok (.lstore 4, 2) := by decide +kernel
theorem dX5_wordOf_76 : decode cX5_wordOf 76 = .ok (.iinc 6 1, 3) := by decide +kernel
theorem dX5_wordOf_79 : decode cX5_wordOf 79 = .ok (.goto (-52), 3) := by decide +kernel
theorem dX5_wordOf_82 : decode cX5_wordOf 82 = .ok (.lload 4, 2) := by decide +kernel
theorem dX5_wordOf_84 : decode cX5_wordOf 84 = .ok (.aload_n 0, 1) := by decide +kernel
theorem dX5_wordOf_85 : decode cX5_wordOf 85 = .ok (.getfield 205, 3) := by decide +kernel
theorem dX5_wordOf_88 : decode cX5_wordOf 88 = .ok (.lcmp, 1) := by decide +kernel
theorem dX5_wordOf_89 : decode cX5_wordOf 89 = .ok (.ifCond .ne 7, 3) := by decide +kernel
theorem dX5_wordOf_92 : decode cX5_wordOf 92 = .ok (.iload_n 3, 1) := by decide +kernel
theorem dX5_wordOf_93 : decode cX5_wordOf 93 = .ok (.goto 4, 3) := by decide +kernel
theorem dX5_wordOf_96 : decode cX5_wordOf 96 = .ok (.iload_n 2, 1) := by decide +kernel
theorem dX5_wordOf_97 : decode cX5_wordOf 97 = .ok (.istore_n 2, 1) := by decide +kernel
theorem dX5_wordOf_98 : decode cX5_wordOf 98 = .ok (.iinc 3 1, 3) := by decide +kernel
theorem dX5_wordOf_101 : decode cX5_wordOf 101 = .ok (.goto (-97), 3) := by decide +kernel
theorem dX5_wordOf_104 : decode cX5_wordOf 104 = .ok (.iload_n 2, 1) := by decide +kernel
theorem dX5_wordOf_105 : decode cX5_wordOf 105 = .ok (.ireturn, 1) := by decide +kernel
def j5_wordOf_7_97 (k4 : Int32 → Int64 → Int32 → Int32 → Option (Int32)) (xtok : Int32) (xval : Int64) (v3 : Int32) (t0 : Int32) : Option (Int32) :=
  k4 xtok xval t0 (v3 + (1 : Int32))
def j5_wordOf_7_74 (k4 : Int32 → Int64 → Int32 → Int32 → Option (Int32)) (k27 : Int32 → Int64 → Int32 → Int32 → Int64 → Int32 → Option (Int32)) (xtok : Int32) (xval : Int64) (v2 : Int32) (v3 : Int32) (v6 : Int32) (t0 : Int64) : Option (Int32) :=
  k27 xtok xval v2 v3 t0 (v6 + (1 : Int32))
def l5_wordOf_7_27 (k4 : Int32 → Int64 → Int32 → Int32 → Option (Int32)) : Nat → Int32 → Int64 → Int32 → Int32 → Int64 → Int32 → Option (Int32)
  | 0, _, _, _, _, _, _ => none
  | n + 1, xtok, xval, v2, v3, v4, v6 =>
    if (9 : Int32) ≤ v6 then (
      if (lg_cmp v4 xval) = (0 : Int32) then (
        j5_wordOf_7_97 k4 xtok xval v3 v3)
      else (
        j5_wordOf_7_97 k4 xtok xval v3 v2))
    else (
      gd (inb (((9 : Int32) * v3) + v6) 63) (
      if (kLet ((((9 : Int32) * v3) + v6).toNatClampNeg)) = (32 : Int32) then (
        j5_wordOf_7_74 k4 (l5_wordOf_7_27 k4 n) xtok xval v2 v3 v6 v4)
      else (
        gd (inb (((9 : Int32) * v3) + v6) 63) (
        j5_wordOf_7_74 k4 (l5_wordOf_7_27 k4 n) xtok xval v2 v3 v6 (((v4 * (27 : Int64)) + ((kLet ((((9 : Int32) * v3) + v6).toNatClampNeg)).toInt64)) - (96 : Int64))))))
def l5_wordOf_7_4  : Nat → Int32 → Int64 → Int32 → Int32 → Option (Int32)
  | 0, _, _, _, _ => none
  | n + 1, xtok, xval, v2, v3 =>
    if ((63 : Int32) / (9 : Int32)) ≤ v3 then (
      some v2)
    else (
      if xtok = (1 : Int32) then (
        l5_wordOf_7_27 (l5_wordOf_7_4 n) 1000 xtok xval v2 v3 (0 : Int64) (0 : Int32))
      else (
        some v2))
def f5_wordOf_7 (xtok : Int32) (xval : Int64)  : Option (Int32) :=
  l5_wordOf_7_4 1000 xtok xval (-1 : Int32) (0 : Int32)
set_option maxHeartbeats 4000000 in
set_option maxRecDepth 100000 in
theorem b5_wordOf_7_97 {X : XP} {p : Program} {l : Launch} {e : Env} {s : State} {m : MethodId} {args : Array Value} {below : List Frame} {meth : Method} {c : Code} {D : va_G} {cI cC : ClassId} {ad : Nat → Nat} {A : Nat → Prop} {xs : Nat → Int32} {xkept : Nat → Int32} {xaside : Nat → Int32} {xisK : Int32} {xfound : Nat → Int32} {xgone : Int32} {xover : Nat → Int32} {xtape : Nat → Int32} {xtaped : Int32} {xtok : Int32} {xbeg : Int32} {xend : Int32} {xval : Int64} {xwid : Nat → Int32} {xsiz : Nat → Int32} {xcel : Nat → Int32} {xcar : Nat → Int32} {r0 : Int32} (C0 : CX X p s m args meth c cX5_wordOf 7 (some .int) RX5 A) {k4 : Int32 → Int64 → Int32 → Int32 → Option (Int32)} (hk4 : ∀ {v2 : Int32} {v3 : Int32} {H : Heap} {locs : List Loc} {ls : Array Slot}, GX X D (tyM cI cC) A s (wM cI cC ad xs xkept xaside xisK xfound xgone xover xtape xtaped xtok xbeg xend xval xwid xsiz xcel xcar) H locs → lv_has ls 7 [(0, .ref (ad 0)), (1, .ref (ad 7)), (2, .int v2), (3, .int v3)] → k4 xtok xval v2 v3 = some r0 → W p l e ({ frames := 0, cells := 0, slots := 0, locals := 0 }) s m args below meth c H locs 0 0 (MQ below (QcI D (tyM cI cC) (wM cI cC ad xs xkept xaside xisK xfound xgone xover xtape xtaped xtok xbeg xend xval xwid xsiz xcel xcar) A r0) args s 0 0 A) (F0 m 4 ls [])) : ∀ {v3 : Int32} {t0 : Int32} {H : Heap} {locs : List Loc} {ls : Array Slot}, GX X D (tyM cI cC) A s (wM cI cC ad xs xkept xaside xisK xfound xgone xover xtape xtaped xtok xbeg xend xval xwid xsiz xcel xcar) H locs → lv_has ls 7 [(0, .ref (ad 0)), (1, .ref (ad 7)), (3, .int v3)] → j5_wordOf_7_97 k4 xtok xval v3 t0 = some r0 → W p l e ({ frames := 0, cells := 0, slots := 0, locals := 0 }) s m args below meth c H locs 0 0 (MQ below (QcI D (tyM cI cC) (wM cI cC ad xs xkept xaside xisK xfound xgone xover xtape xtaped xtok xbeg xend xval xwid xsiz xcel xcar) A r0) args s 0 0 A) (F0 m 97 ls [.int t0]) := by
  have hx := C0.1
  have hb := C0.2.1
  have hown := C0.2.2.2.2.1
  have hts := C0.2.2.2.2.2.1
  have hX := C0.2.2.2.2.2.2.2.2
  intro v3 t0 H locs ls G hl hf
  unfold j5_wordOf_7_97 at hf
  refine lv_istore_n (lv' := [(2, .int t0), (0, .ref (ad 0)), (1, .ref (ad 7)), (3, .int v3)]) hx hb dX5_wordOf_97 rfl hl (by decide) rfl (fun ls hl => ?_)
  refine lv_iinc (v := (v3 + (1 : Int32))) (lv' := [(3, .int (v3 + (1 : Int32))), (2, .int t0), (0, .ref (ad 0)), (1, .ref (ad 7))]) hx hb dX5_wordOf_98 hl (k := 3) rfl rfl (by decide) rfl (fun ls hl => ?_)
  refine lv_goto (tgt := 4) hx hb dX5_wordOf_101 (by decide) ?_
  exact hk4 G (lv_sub hl [2, 3, 1, 0] rfl) hf
set_option maxHeartbeats 4000000 in
set_option maxRecDepth 100000 in
theorem b5_wordOf_7_74 {X : XP} {p : Program} {l : Launch} {e : Env} {s : State} {m : MethodId} {args : Array Value} {below : List Frame} {meth : Method} {c : Code} {D : va_G} {cI cC : ClassId} {ad : Nat → Nat} {A : Nat → Prop} {xs : Nat → Int32} {xkept : Nat → Int32} {xaside : Nat → Int32} {xisK : Int32} {xfound : Nat → Int32} {xgone : Int32} {xover : Nat → Int32} {xtape : Nat → Int32} {xtaped : Int32} {xtok : Int32} {xbeg : Int32} {xend : Int32} {xval : Int64} {xwid : Nat → Int32} {xsiz : Nat → Int32} {xcel : Nat → Int32} {xcar : Nat → Int32} {r0 : Int32} (C0 : CX X p s m args meth c cX5_wordOf 7 (some .int) RX5 A) {k4 : Int32 → Int64 → Int32 → Int32 → Option (Int32)} (hk4 : ∀ {v2 : Int32} {v3 : Int32} {H : Heap} {locs : List Loc} {ls : Array Slot}, GX X D (tyM cI cC) A s (wM cI cC ad xs xkept xaside xisK xfound xgone xover xtape xtaped xtok xbeg xend xval xwid xsiz xcel xcar) H locs → lv_has ls 7 [(0, .ref (ad 0)), (1, .ref (ad 7)), (2, .int v2), (3, .int v3)] → k4 xtok xval v2 v3 = some r0 → W p l e ({ frames := 0, cells := 0, slots := 0, locals := 0 }) s m args below meth c H locs 0 0 (MQ below (QcI D (tyM cI cC) (wM cI cC ad xs xkept xaside xisK xfound xgone xover xtape xtaped xtok xbeg xend xval xwid xsiz xcel xcar) A r0) args s 0 0 A) (F0 m 4 ls [])) {k27 : Int32 → Int64 → Int32 → Int32 → Int64 → Int32 → Option (Int32)} (hk27 : ∀ {v2 : Int32} {v3 : Int32} {v4 : Int64} {v6 : Int32} {H : Heap} {locs : List Loc} {ls : Array Slot}, GX X D (tyM cI cC) A s (wM cI cC ad xs xkept xaside xisK xfound xgone xover xtape xtaped xtok xbeg xend xval xwid xsiz xcel xcar) H locs → lv_has ls 7 [(0, .ref (ad 0)), (1, .ref (ad 7)), (2, .int v2), (3, .int v3), (4, .long v4), (6, .int v6)] → k27 xtok xval v2 v3 v4 v6 = some r0 → W p l e ({ frames := 0, cells := 0, slots := 0, locals := 0 }) s m args below meth c H locs 0 0 (MQ below (QcI D (tyM cI cC) (wM cI cC ad xs xkept xaside xisK xfound xgone xover xtape xtaped xtok xbeg xend xval xwid xsiz xcel xcar) A r0) args s 0 0 A) (F0 m 27 ls [])) : ∀ {v2 : Int32} {v3 : Int32} {v6 : Int32} {t0 : Int64} {H : Heap} {locs : List Loc} {ls : Array Slot}, GX X D (tyM cI cC) A s (wM cI cC ad xs xkept xaside xisK xfound xgone xover xtape xtaped xtok xbeg xend xval xwid xsiz xcel xcar) H locs → lv_has ls 7 [(0, .ref (ad 0)), (1, .ref (ad 7)), (2, .int v2), (3, .int v3), (6, .int v6)] → j5_wordOf_7_74 k4 k27 xtok xval v2 v3 v6 t0 = some r0 → W p l e ({ frames := 0, cells := 0, slots := 0, locals := 0 }) s m args below meth c H locs 0 0 (MQ below (QcI D (tyM cI cC) (wM cI cC ad xs xkept xaside xisK xfound xgone xover xtape xtaped xtok xbeg xend xval xwid xsiz xcel xcar) A r0) args s 0 0 A) (F0 m 74 ls [.long t0]) := by
  have hx := C0.1
  have hb := C0.2.1
  have hown := C0.2.2.2.2.1
  have hts := C0.2.2.2.2.2.1
  have hX := C0.2.2.2.2.2.2.2.2
  intro v2 v3 v6 t0 H locs ls G hl hf
  unfold j5_wordOf_7_74 at hf
  refine lv_lstore (lv' := [(4, .long t0), (0, .ref (ad 0)), (1, .ref (ad 7)), (2, .int v2), (3, .int v3), (6, .int v6)]) hx hb dX5_wordOf_74 hl (by decide) rfl (fun ls hl => ?_)
  refine lv_iinc (v := (v6 + (1 : Int32))) (lv' := [(6, .int (v6 + (1 : Int32))), (4, .long t0), (0, .ref (ad 0)), (1, .ref (ad 7)), (2, .int v2), (3, .int v3)]) hx hb dX5_wordOf_76 hl (k := 5) rfl rfl (by decide) rfl (fun ls hl => ?_)
  refine lv_goto (tgt := 27) hx hb dX5_wordOf_79 (by decide) ?_
  exact hk27 G (lv_sub hl [2, 3, 4, 5, 1, 0] rfl) hf
set_option maxHeartbeats 4000000 in
set_option maxRecDepth 100000 in
theorem b5_wordOf_7_27 {X : XP} {p : Program} {l : Launch} {e : Env} {s : State} {m : MethodId} {args : Array Value} {below : List Frame} {meth : Method} {c : Code} {D : va_G} {cI cC : ClassId} {ad : Nat → Nat} {A : Nat → Prop} {xs : Nat → Int32} {xkept : Nat → Int32} {xaside : Nat → Int32} {xisK : Int32} {xfound : Nat → Int32} {xgone : Int32} {xover : Nat → Int32} {xtape : Nat → Int32} {xtaped : Int32} {xtok : Int32} {xbeg : Int32} {xend : Int32} {xval : Int64} {xwid : Nat → Int32} {xsiz : Nat → Int32} {xcel : Nat → Int32} {xcar : Nat → Int32} {r0 : Int32} (C0 : CX X p s m args meth c cX5_wordOf 7 (some .int) RX5 A) {k4 : Int32 → Int64 → Int32 → Int32 → Option (Int32)} (hk4 : ∀ {v2 : Int32} {v3 : Int32} {H : Heap} {locs : List Loc} {ls : Array Slot}, GX X D (tyM cI cC) A s (wM cI cC ad xs xkept xaside xisK xfound xgone xover xtape xtaped xtok xbeg xend xval xwid xsiz xcel xcar) H locs → lv_has ls 7 [(0, .ref (ad 0)), (1, .ref (ad 7)), (2, .int v2), (3, .int v3)] → k4 xtok xval v2 v3 = some r0 → W p l e ({ frames := 0, cells := 0, slots := 0, locals := 0 }) s m args below meth c H locs 0 0 (MQ below (QcI D (tyM cI cC) (wM cI cC ad xs xkept xaside xisK xfound xgone xover xtape xtaped xtok xbeg xend xval xwid xsiz xcel xcar) A r0) args s 0 0 A) (F0 m 4 ls [])) : ∀ (n : Nat) {v2 : Int32} {v3 : Int32} {v4 : Int64} {v6 : Int32} {H : Heap} {locs : List Loc} {ls : Array Slot}, GX X D (tyM cI cC) A s (wM cI cC ad xs xkept xaside xisK xfound xgone xover xtape xtaped xtok xbeg xend xval xwid xsiz xcel xcar) H locs → lv_has ls 7 [(0, .ref (ad 0)), (1, .ref (ad 7)), (2, .int v2), (3, .int v3), (4, .long v4), (6, .int v6)] → l5_wordOf_7_27 k4 n xtok xval v2 v3 v4 v6 = some r0 → W p l e ({ frames := 0, cells := 0, slots := 0, locals := 0 }) s m args below meth c H locs 0 0 (MQ below (QcI D (tyM cI cC) (wM cI cC ad xs xkept xaside xisK xfound xgone xover xtape xtaped xtok xbeg xend xval xwid xsiz xcel xcar) A r0) args s 0 0 A) (F0 m 27 ls []) := by
  have hx := C0.1
  have hb := C0.2.1
  have hown := C0.2.2.2.2.1
  have hts := C0.2.2.2.2.2.1
  have hX := C0.2.2.2.2.2.2.2.2
  intro n
  induction n with
  | zero =>
    intro _ _ _ _ _ _ _ G hl hf
    cases hf
  | succ n ih =>
    intro v2 v3 v4 v6 H locs ls G hl hf
    rw [l5_wordOf_7_27] at hf
    refine lv_iload hx hb dX5_wordOf_27 (lv_at hl 5 rfl) ?_
    refine lv_bipush (v := (9 : Int32)) hx hb dX5_wordOf_29 (by decide) ?_
    refine lv_icmp_ge (tgt := 82) hx hb dX5_wordOf_31 (by decide) (fun hc3 => ?_) (fun hc3 => ?_)
    · have hf := itp hc3 hf
      refine lv_lload hx hb dX5_wordOf_82 (lv_at hl 4 rfl) ?_
      refine lv_aload_n hx hb dX5_wordOf_84 rfl (lv_at hl 0 rfl) ?_
      refine s_get (C := RX5) (T := TX5) C0 G i_X5 0 12 rfl rfl (by decide) q725 rfl dX5_wordOf_85 ?_
      refine W.lcmp hx hb dX5_wordOf_88 ?_
      refine lv_if_ne (tgt := 96) hx hb dX5_wordOf_89 (by decide) (fun hc4 => ?_) (fun hc4 => ?_)
      · have hf := itn hc4 hf
        refine lv_iload_n hx hb dX5_wordOf_96 rfl (lv_at hl 2 rfl) ?_
        exact b5_wordOf_7_97 C0 hk4 G (lv_sub hl [0, 1, 3] rfl) hf
      · have hf := itp hc4 hf
        refine lv_iload_n hx hb dX5_wordOf_92 rfl (lv_at hl 3 rfl) ?_
        refine lv_goto (tgt := 97) hx hb dX5_wordOf_93 (by decide) ?_
        exact b5_wordOf_7_97 C0 hk4 G (lv_sub hl [0, 1, 3] rfl) hf
    · have hf := itn hc3 hf
      refine lv_aload_n hx hb dX5_wordOf_34 rfl (lv_at hl 1 rfl) ?_
      refine lv_bipush (v := (9 : Int32)) hx hb dX5_wordOf_35 (by decide) ?_
      refine lv_iload_n hx hb dX5_wordOf_37 rfl (lv_at hl 3 rfl) ?_
      refine lv_imul hx hb dX5_wordOf_38 ?_
      refine lv_iload hx hb dX5_wordOf_39 (lv_at hl 5 rfl) ?_
      refine lv_iadd hx hb dX5_wordOf_41 ?_
      obtain ⟨hi5, hf⟩ := gd_s hf
      refine s_cald (k := (((9 : Int32) * v3) + v6).toNatClampNeg) C0 G 7 1 rfl rfl (vin hi5) rfl dX5_wordOf_42 ?_
      refine lv_bipush (v := (32 : Int32)) hx hb dX5_wordOf_43 (by decide) ?_
      refine lv_icmp_ne (tgt := 53) hx hb dX5_wordOf_45 (by decide) (fun hc6 => ?_) (fun hc6 => ?_)
      · have hf := itn hc6 hf
        refine lv_lload hx hb dX5_wordOf_53 (lv_at hl 4 rfl) ?_
        refine lv_ldc2 (v := (27 : Int64)) hx hb hown (hts _ q1063) dX5_wordOf_55 ?_
        refine lv_lmul hx hb dX5_wordOf_58 ?_
        refine lv_aload_n hx hb dX5_wordOf_59 rfl (lv_at hl 1 rfl) ?_
        refine lv_bipush (v := (9 : Int32)) hx hb dX5_wordOf_60 (by decide) ?_
        refine lv_iload_n hx hb dX5_wordOf_62 rfl (lv_at hl 3 rfl) ?_
        refine lv_imul hx hb dX5_wordOf_63 ?_
        refine lv_iload hx hb dX5_wordOf_64 (lv_at hl 5 rfl) ?_
        refine lv_iadd hx hb dX5_wordOf_66 ?_
        obtain ⟨hi7, hf⟩ := gd_s hf
        refine s_cald (k := (((9 : Int32) * v3) + v6).toNatClampNeg) C0 G 7 1 rfl rfl (vin hi7) rfl dX5_wordOf_67 ?_
        refine lv_i2l hx hb dX5_wordOf_68 rfl ?_
        refine lv_ladd hx hb dX5_wordOf_69 ?_
        refine lv_ldc2 (v := (96 : Int64)) hx hb hown (hts _ q1064) dX5_wordOf_70 ?_
        refine lv_lsub hx hb dX5_wordOf_73 ?_
        exact b5_wordOf_7_74 C0 hk4 ih G (lv_sub hl [0, 1, 2, 3, 5] rfl) hf
      · have hf := itp hc6 hf
        refine lv_lload hx hb dX5_wordOf_48 (lv_at hl 4 rfl) ?_
        refine lv_goto (tgt := 74) hx hb dX5_wordOf_50 (by decide) ?_
        exact b5_wordOf_7_74 C0 hk4 ih G (lv_sub hl [0, 1, 2, 3, 5] rfl) hf
set_option maxHeartbeats 4000000 in
set_option maxRecDepth 100000 in
theorem b5_wordOf_7_4 {X : XP} {p : Program} {l : Launch} {e : Env} {s : State} {m : MethodId} {args : Array Value} {below : List Frame} {meth : Method} {c : Code} {D : va_G} {cI cC : ClassId} {ad : Nat → Nat} {A : Nat → Prop} {xs : Nat → Int32} {xkept : Nat → Int32} {xaside : Nat → Int32} {xisK : Int32} {xfound : Nat → Int32} {xgone : Int32} {xover : Nat → Int32} {xtape : Nat → Int32} {xtaped : Int32} {xtok : Int32} {xbeg : Int32} {xend : Int32} {xval : Int64} {xwid : Nat → Int32} {xsiz : Nat → Int32} {xcel : Nat → Int32} {xcar : Nat → Int32} {r0 : Int32} (C0 : CX X p s m args meth c cX5_wordOf 7 (some .int) RX5 A) : ∀ (n : Nat) {v2 : Int32} {v3 : Int32} {H : Heap} {locs : List Loc} {ls : Array Slot}, GX X D (tyM cI cC) A s (wM cI cC ad xs xkept xaside xisK xfound xgone xover xtape xtaped xtok xbeg xend xval xwid xsiz xcel xcar) H locs → lv_has ls 7 [(0, .ref (ad 0)), (1, .ref (ad 7)), (2, .int v2), (3, .int v3)] → l5_wordOf_7_4  n xtok xval v2 v3 = some r0 → W p l e ({ frames := 0, cells := 0, slots := 0, locals := 0 }) s m args below meth c H locs 0 0 (MQ below (QcI D (tyM cI cC) (wM cI cC ad xs xkept xaside xisK xfound xgone xover xtape xtaped xtok xbeg xend xval xwid xsiz xcel xcar) A r0) args s 0 0 A) (F0 m 4 ls []) := by
  have hx := C0.1
  have hb := C0.2.1
  have hown := C0.2.2.2.2.1
  have hts := C0.2.2.2.2.2.1
  have hX := C0.2.2.2.2.2.2.2.2
  intro n
  induction n with
  | zero =>
    intro _ _ _ _ _ G hl hf
    cases hf
  | succ n ih =>
    intro v2 v3 H locs ls G hl hf
    rw [l5_wordOf_7_4] at hf
    refine lv_iload_n hx hb dX5_wordOf_4 rfl (lv_at hl 3 rfl) ?_
    refine lv_aload_n hx hb dX5_wordOf_5 rfl (lv_at hl 1 rfl) ?_
    refine s_alen C0 G 7 1 rfl rfl (x := (63 : Int32)) rfl dX5_wordOf_6 ?_
    refine lv_bipush (v := (9 : Int32)) hx hb dX5_wordOf_7 (by decide) ?_
    refine lv_idiv hx hb dX5_wordOf_9 (by decide) ?_
    refine lv_icmp_ge (tgt := 104) hx hb dX5_wordOf_10 (by decide) (fun hc1 => ?_) (fun hc1 => ?_)
    · have hf := itp hc1 hf
      refine lv_iload_n hx hb dX5_wordOf_104 rfl (lv_at hl 2 rfl) ?_
      obtain rfl := inj1 hf
      exact ret_i C0 G dX5_wordOf_105
    · have hf := itn hc1 hf
      refine lv_aload_n hx hb dX5_wordOf_13 rfl (lv_at hl 0 rfl) ?_
      refine s_get (C := RX5) (T := TX5) C0 G i_X5 0 9 rfl rfl (by decide) q722 rfl dX5_wordOf_14 ?_
      refine lv_iconst (v := (1 : Int32)) hx hb dX5_wordOf_17 (by decide) ?_
      refine lv_icmp_ne (tgt := 104) hx hb dX5_wordOf_18 (by decide) (fun hc2 => ?_) (fun hc2 => ?_)
      · have hf := itn hc2 hf
        refine lv_iload_n hx hb dX5_wordOf_104 rfl (lv_at hl 2 rfl) ?_
        obtain rfl := inj1 hf
        exact ret_i C0 G dX5_wordOf_105
      · have hf := itp hc2 hf
        refine lv_lconst (v := (0 : Int64)) hx hb dX5_wordOf_21 (by decide) ?_
        refine lv_lstore (lv' := [(4, .long (0 : Int64)), (0, .ref (ad 0)), (1, .ref (ad 7)), (2, .int v2), (3, .int v3)]) hx hb dX5_wordOf_22 hl (by decide) rfl (fun ls hl => ?_)
        refine lv_iconst (v := (0 : Int32)) hx hb dX5_wordOf_24 (by decide) ?_
        refine lv_istore (lv' := [(6, .int (0 : Int32)), (4, .long (0 : Int64)), (0, .ref (ad 0)), (1, .ref (ad 7)), (2, .int v2), (3, .int v3)]) hx hb dX5_wordOf_25 hl (by decide) rfl (fun ls hl => ?_)
        exact b5_wordOf_7_27 C0 ih 1000 G (lv_sub hl [2, 3, 4, 5, 1, 0] rfl) hf
set_option maxHeartbeats 4000000 in
set_option maxRecDepth 100000 in
theorem b5_wordOf_7_0 {X : XP} {p : Program} {l : Launch} {e : Env} {s : State} {m : MethodId} {args : Array Value} {below : List Frame} {meth : Method} {c : Code} {D : va_G} {cI cC : ClassId} {ad : Nat → Nat} {A : Nat → Prop} {xs : Nat → Int32} {xkept : Nat → Int32} {xaside : Nat → Int32} {xisK : Int32} {xfound : Nat → Int32} {xgone : Int32} {xover : Nat → Int32} {xtape : Nat → Int32} {xtaped : Int32} {xtok : Int32} {xbeg : Int32} {xend : Int32} {xval : Int64} {xwid : Nat → Int32} {xsiz : Nat → Int32} {xcel : Nat → Int32} {xcar : Nat → Int32} {r0 : Int32} (C0 : CX X p s m args meth c cX5_wordOf 7 (some .int) RX5 A) : ∀ {H : Heap} {locs : List Loc} {ls : Array Slot}, GX X D (tyM cI cC) A s (wM cI cC ad xs xkept xaside xisK xfound xgone xover xtape xtaped xtok xbeg xend xval xwid xsiz xcel xcar) H locs → lv_has ls 7 [(0, .ref (ad 0)), (1, .ref (ad 7))] → f5_wordOf_7 xtok xval = some r0 → W p l e ({ frames := 0, cells := 0, slots := 0, locals := 0 }) s m args below meth c H locs 0 0 (MQ below (QcI D (tyM cI cC) (wM cI cC ad xs xkept xaside xisK xfound xgone xover xtape xtaped xtok xbeg xend xval xwid xsiz xcel xcar) A r0) args s 0 0 A) (F0 m 0 ls []) := by
  have hx := C0.1
  have hb := C0.2.1
  have hown := C0.2.2.2.2.1
  have hts := C0.2.2.2.2.2.1
  have hX := C0.2.2.2.2.2.2.2.2
  intro H locs ls G hl hf
  unfold f5_wordOf_7 at hf
  refine lv_iconst (v := (-1 : Int32)) hx hb dX5_wordOf_0 (by decide) ?_
  refine lv_istore_n (lv' := [(2, .int (-1 : Int32)), (0, .ref (ad 0)), (1, .ref (ad 7))]) hx hb dX5_wordOf_1 rfl hl (by decide) rfl (fun ls hl => ?_)
  refine lv_iconst (v := (0 : Int32)) hx hb dX5_wordOf_2 (by decide) ?_
  refine lv_istore_n (lv' := [(3, .int (0 : Int32)), (2, .int (-1 : Int32)), (0, .ref (ad 0)), (1, .ref (ad 7))]) hx hb dX5_wordOf_3 rfl hl (by decide) rfl (fun ls hl => ?_)
  exact b5_wordOf_7_4 C0  1000 G (lv_sub hl [2, 3, 1, 0] rfl) hf
theorem o5_wordOf_7 : okName yX5_wordOf 1 := ⟨by decide, by decide, by decide +kernel⟩
set_option maxHeartbeats 4000000 in
set_option maxRecDepth 100000 in
theorem c5_wordOf_7 {X : XP} (hX : XT X) {l : Launch} {D : va_G} {cI cC : ClassId} {ad : Nat → Nat} {sz : Nat} {xs : Nat → Int32} {xkept : Nat → Int32} {xaside : Nat → Int32} {xisK : Int32} {xfound : Nat → Int32} {xgone : Int32} {xover : Nat → Int32} {xtape : Nat → Int32} {xtaped : Int32} {xtok : Int32} {xbeg : Int32} {xend : Int32} {xval : Int64} {xwid : Nat → Int32} {xsiz : Nat → Int32} {xcel : Nat → Int32} {xcar : Nat → Int32}  {r0 : Int32} (hf : f5_wordOf_7 xtok xval = some r0) : Met l yX5_wordOf (wU yX5_wordOf cX5_wordOf 7 (some .int)) ({ frames := 0, cells := 0, slots := 0, locals := 0 }) (va_Pc [.ref (ad 0), .ref (ad 7)] (PreW X D (tyM cI cC) (wM cI cC ad xs xkept xaside xisK xfound xgone xover xtape xtaped xtok xbeg xend xval xwid xsiz xcel xcar) sz)) (QcI D (tyM cI cC) (wM cI cC ad xs xkept xaside xisK xfound xgone xover xtape xtaped xtok xbeg xend xval xwid xsiz xcel xcar) (va_A (wM cI cC ad xs xkept xaside xisK xfound xgone xover xtape xtaped xtok xbeg xend xval xwid xsiz xcel xcar) sz) r0) 0 0 (va_A (wM cI cC ad xs xkept xaside xisK xfound xgone xover xtape xtaped xtok xbeg xend xval xwid xsiz xcel xcar) sz) := by
  refine startW hX (own := RX5) (by decide) rfl (Nat.le_of_ble_eq_true rfl) (fun p e s m args below meth c ls C0 G hl => ?_)
  exact b5_wordOf_7_0 C0 G hl hf
/-! 5_wordOf_9 -/
def j5_wordOf_9_97 (k4 : Int32 → Int64 → Int32 → Int32 → Option (Int32)) (xtok : Int32) (xval : Int64) (v3 : Int32) (t0 : Int32) : Option (Int32) :=
  k4 xtok xval t0 (v3 + (1 : Int32))
def j5_wordOf_9_74 (k4 : Int32 → Int64 → Int32 → Int32 → Option (Int32)) (k27 : Int32 → Int64 → Int32 → Int32 → Int64 → Int32 → Option (Int32)) (xtok : Int32) (xval : Int64) (v2 : Int32) (v3 : Int32) (v6 : Int32) (t0 : Int64) : Option (Int32) :=
  k27 xtok xval v2 v3 t0 (v6 + (1 : Int32))
def l5_wordOf_9_27 (k4 : Int32 → Int64 → Int32 → Int32 → Option (Int32)) : Nat → Int32 → Int64 → Int32 → Int32 → Int64 → Int32 → Option (Int32)
  | 0, _, _, _, _, _, _ => none
  | n + 1, xtok, xval, v2, v3, v4, v6 =>
    if (9 : Int32) ≤ v6 then (
      if (lg_cmp v4 xval) = (0 : Int32) then (
        j5_wordOf_9_97 k4 xtok xval v3 v3)
      else (
        j5_wordOf_9_97 k4 xtok xval v3 v2))
    else (
      gd (inb (((9 : Int32) * v3) + v6) 36) (
      if (kOth ((((9 : Int32) * v3) + v6).toNatClampNeg)) = (32 : Int32) then (
        j5_wordOf_9_74 k4 (l5_wordOf_9_27 k4 n) xtok xval v2 v3 v6 v4)
      else (
        gd (inb (((9 : Int32) * v3) + v6) 36) (
        j5_wordOf_9_74 k4 (l5_wordOf_9_27 k4 n) xtok xval v2 v3 v6 (((v4 * (27 : Int64)) + ((kOth ((((9 : Int32) * v3) + v6).toNatClampNeg)).toInt64)) - (96 : Int64))))))
def l5_wordOf_9_4  : Nat → Int32 → Int64 → Int32 → Int32 → Option (Int32)
  | 0, _, _, _, _ => none
  | n + 1, xtok, xval, v2, v3 =>
    if ((36 : Int32) / (9 : Int32)) ≤ v3 then (
      some v2)
    else (
      if xtok = (1 : Int32) then (
        l5_wordOf_9_27 (l5_wordOf_9_4 n) 1000 xtok xval v2 v3 (0 : Int64) (0 : Int32))
      else (
        some v2))
def f5_wordOf_9 (xtok : Int32) (xval : Int64)  : Option (Int32) :=
  l5_wordOf_9_4 1000 xtok xval (-1 : Int32) (0 : Int32)
set_option maxHeartbeats 4000000 in
set_option maxRecDepth 100000 in
theorem b5_wordOf_9_97 {X : XP} {p : Program} {l : Launch} {e : Env} {s : State} {m : MethodId} {args : Array Value} {below : List Frame} {meth : Method} {c : Code} {D : va_G} {cI cC : ClassId} {ad : Nat → Nat} {A : Nat → Prop} {xs : Nat → Int32} {xkept : Nat → Int32} {xaside : Nat → Int32} {xisK : Int32} {xfound : Nat → Int32} {xgone : Int32} {xover : Nat → Int32} {xtape : Nat → Int32} {xtaped : Int32} {xtok : Int32} {xbeg : Int32} {xend : Int32} {xval : Int64} {xwid : Nat → Int32} {xsiz : Nat → Int32} {xcel : Nat → Int32} {xcar : Nat → Int32} {r0 : Int32} (C0 : CX X p s m args meth c cX5_wordOf 7 (some .int) RX5 A) {k4 : Int32 → Int64 → Int32 → Int32 → Option (Int32)} (hk4 : ∀ {v2 : Int32} {v3 : Int32} {H : Heap} {locs : List Loc} {ls : Array Slot}, GX X D (tyM cI cC) A s (wM cI cC ad xs xkept xaside xisK xfound xgone xover xtape xtaped xtok xbeg xend xval xwid xsiz xcel xcar) H locs → lv_has ls 7 [(0, .ref (ad 0)), (1, .ref (ad 9)), (2, .int v2), (3, .int v3)] → k4 xtok xval v2 v3 = some r0 → W p l e ({ frames := 0, cells := 0, slots := 0, locals := 0 }) s m args below meth c H locs 0 0 (MQ below (QcI D (tyM cI cC) (wM cI cC ad xs xkept xaside xisK xfound xgone xover xtape xtaped xtok xbeg xend xval xwid xsiz xcel xcar) A r0) args s 0 0 A) (F0 m 4 ls [])) : ∀ {v3 : Int32} {t0 : Int32} {H : Heap} {locs : List Loc} {ls : Array Slot}, GX X D (tyM cI cC) A s (wM cI cC ad xs xkept xaside xisK xfound xgone xover xtape xtaped xtok xbeg xend xval xwid xsiz xcel xcar) H locs → lv_has ls 7 [(0, .ref (ad 0)), (1, .ref (ad 9)), (3, .int v3)] → j5_wordOf_9_97 k4 xtok xval v3 t0 = some r0 → W p l e ({ frames := 0, cells := 0, slots := 0, locals := 0 }) s m args below meth c H locs 0 0 (MQ below (QcI D (tyM cI cC) (wM cI cC ad xs xkept xaside xisK xfound xgone xover xtape xtaped xtok xbeg xend xval xwid xsiz xcel xcar) A r0) args s 0 0 A) (F0 m 97 ls [.int t0]) := by
  have hx := C0.1
  have hb := C0.2.1
  have hown := C0.2.2.2.2.1
  have hts := C0.2.2.2.2.2.1
  have hX := C0.2.2.2.2.2.2.2.2
  intro v3 t0 H locs ls G hl hf
  unfold j5_wordOf_9_97 at hf
  refine lv_istore_n (lv' := [(2, .int t0), (0, .ref (ad 0)), (1, .ref (ad 9)), (3, .int v3)]) hx hb dX5_wordOf_97 rfl hl (by decide) rfl (fun ls hl => ?_)
  refine lv_iinc (v := (v3 + (1 : Int32))) (lv' := [(3, .int (v3 + (1 : Int32))), (2, .int t0), (0, .ref (ad 0)), (1, .ref (ad 9))]) hx hb dX5_wordOf_98 hl (k := 3) rfl rfl (by decide) rfl (fun ls hl => ?_)
  refine lv_goto (tgt := 4) hx hb dX5_wordOf_101 (by decide) ?_
  exact hk4 G (lv_sub hl [2, 3, 1, 0] rfl) hf
set_option maxHeartbeats 4000000 in
set_option maxRecDepth 100000 in
theorem b5_wordOf_9_74 {X : XP} {p : Program} {l : Launch} {e : Env} {s : State} {m : MethodId} {args : Array Value} {below : List Frame} {meth : Method} {c : Code} {D : va_G} {cI cC : ClassId} {ad : Nat → Nat} {A : Nat → Prop} {xs : Nat → Int32} {xkept : Nat → Int32} {xaside : Nat → Int32} {xisK : Int32} {xfound : Nat → Int32} {xgone : Int32} {xover : Nat → Int32} {xtape : Nat → Int32} {xtaped : Int32} {xtok : Int32} {xbeg : Int32} {xend : Int32} {xval : Int64} {xwid : Nat → Int32} {xsiz : Nat → Int32} {xcel : Nat → Int32} {xcar : Nat → Int32} {r0 : Int32} (C0 : CX X p s m args meth c cX5_wordOf 7 (some .int) RX5 A) {k4 : Int32 → Int64 → Int32 → Int32 → Option (Int32)} (hk4 : ∀ {v2 : Int32} {v3 : Int32} {H : Heap} {locs : List Loc} {ls : Array Slot}, GX X D (tyM cI cC) A s (wM cI cC ad xs xkept xaside xisK xfound xgone xover xtape xtaped xtok xbeg xend xval xwid xsiz xcel xcar) H locs → lv_has ls 7 [(0, .ref (ad 0)), (1, .ref (ad 9)), (2, .int v2), (3, .int v3)] → k4 xtok xval v2 v3 = some r0 → W p l e ({ frames := 0, cells := 0, slots := 0, locals := 0 }) s m args below meth c H locs 0 0 (MQ below (QcI D (tyM cI cC) (wM cI cC ad xs xkept xaside xisK xfound xgone xover xtape xtaped xtok xbeg xend xval xwid xsiz xcel xcar) A r0) args s 0 0 A) (F0 m 4 ls [])) {k27 : Int32 → Int64 → Int32 → Int32 → Int64 → Int32 → Option (Int32)} (hk27 : ∀ {v2 : Int32} {v3 : Int32} {v4 : Int64} {v6 : Int32} {H : Heap} {locs : List Loc} {ls : Array Slot}, GX X D (tyM cI cC) A s (wM cI cC ad xs xkept xaside xisK xfound xgone xover xtape xtaped xtok xbeg xend xval xwid xsiz xcel xcar) H locs → lv_has ls 7 [(0, .ref (ad 0)), (1, .ref (ad 9)), (2, .int v2), (3, .int v3), (4, .long v4), (6, .int v6)] → k27 xtok xval v2 v3 v4 v6 = some r0 → W p l e ({ frames := 0, cells := 0, slots := 0, locals := 0 }) s m args below meth c H locs 0 0 (MQ below (QcI D (tyM cI cC) (wM cI cC ad xs xkept xaside xisK xfound xgone xover xtape xtaped xtok xbeg xend xval xwid xsiz xcel xcar) A r0) args s 0 0 A) (F0 m 27 ls [])) : ∀ {v2 : Int32} {v3 : Int32} {v6 : Int32} {t0 : Int64} {H : Heap} {locs : List Loc} {ls : Array Slot}, GX X D (tyM cI cC) A s (wM cI cC ad xs xkept xaside xisK xfound xgone xover xtape xtaped xtok xbeg xend xval xwid xsiz xcel xcar) H locs → lv_has ls 7 [(0, .ref (ad 0)), (1, .ref (ad 9)), (2, .int v2), (3, .int v3), (6, .int v6)] → j5_wordOf_9_74 k4 k27 xtok xval v2 v3 v6 t0 = some r0 → W p l e ({ frames := 0, cells := 0, slots := 0, locals := 0 }) s m args below meth c H locs 0 0 (MQ below (QcI D (tyM cI cC) (wM cI cC ad xs xkept xaside xisK xfound xgone xover xtape xtaped xtok xbeg xend xval xwid xsiz xcel xcar) A r0) args s 0 0 A) (F0 m 74 ls [.long t0]) := by
  have hx := C0.1
  have hb := C0.2.1
  have hown := C0.2.2.2.2.1
  have hts := C0.2.2.2.2.2.1
  have hX := C0.2.2.2.2.2.2.2.2
  intro v2 v3 v6 t0 H locs ls G hl hf
  unfold j5_wordOf_9_74 at hf
  refine lv_lstore (lv' := [(4, .long t0), (0, .ref (ad 0)), (1, .ref (ad 9)), (2, .int v2), (3, .int v3), (6, .int v6)]) hx hb dX5_wordOf_74 hl (by decide) rfl (fun ls hl => ?_)
  refine lv_iinc (v := (v6 + (1 : Int32))) (lv' := [(6, .int (v6 + (1 : Int32))), (4, .long t0), (0, .ref (ad 0)), (1, .ref (ad 9)), (2, .int v2), (3, .int v3)]) hx hb dX5_wordOf_76 hl (k := 5) rfl rfl (by decide) rfl (fun ls hl => ?_)
  refine lv_goto (tgt := 27) hx hb dX5_wordOf_79 (by decide) ?_
  exact hk27 G (lv_sub hl [2, 3, 4, 5, 1, 0] rfl) hf
set_option maxHeartbeats 4000000 in
set_option maxRecDepth 100000 in
theorem b5_wordOf_9_27 {X : XP} {p : Program} {l : Launch} {e : Env} {s : State} {m : MethodId} {args : Array Value} {below : List Frame} {meth : Method} {c : Code} {D : va_G} {cI cC : ClassId} {ad : Nat → Nat} {A : Nat → Prop} {xs : Nat → Int32} {xkept : Nat → Int32} {xaside : Nat → Int32} {xisK : Int32} {xfound : Nat → Int32} {xgone : Int32} {xover : Nat → Int32} {xtape : Nat → Int32} {xtaped : Int32} {xtok : Int32} {xbeg : Int32} {xend : Int32} {xval : Int64} {xwid : Nat → Int32} {xsiz : Nat → Int32} {xcel : Nat → Int32} {xcar : Nat → Int32} {r0 : Int32} (C0 : CX X p s m args meth c cX5_wordOf 7 (some .int) RX5 A) {k4 : Int32 → Int64 → Int32 → Int32 → Option (Int32)} (hk4 : ∀ {v2 : Int32} {v3 : Int32} {H : Heap} {locs : List Loc} {ls : Array Slot}, GX X D (tyM cI cC) A s (wM cI cC ad xs xkept xaside xisK xfound xgone xover xtape xtaped xtok xbeg xend xval xwid xsiz xcel xcar) H locs → lv_has ls 7 [(0, .ref (ad 0)), (1, .ref (ad 9)), (2, .int v2), (3, .int v3)] → k4 xtok xval v2 v3 = some r0 → W p l e ({ frames := 0, cells := 0, slots := 0, locals := 0 }) s m args below meth c H locs 0 0 (MQ below (QcI D (tyM cI cC) (wM cI cC ad xs xkept xaside xisK xfound xgone xover xtape xtaped xtok xbeg xend xval xwid xsiz xcel xcar) A r0) args s 0 0 A) (F0 m 4 ls [])) : ∀ (n : Nat) {v2 : Int32} {v3 : Int32} {v4 : Int64} {v6 : Int32} {H : Heap} {locs : List Loc} {ls : Array Slot}, GX X D (tyM cI cC) A s (wM cI cC ad xs xkept xaside xisK xfound xgone xover xtape xtaped xtok xbeg xend xval xwid xsiz xcel xcar) H locs → lv_has ls 7 [(0, .ref (ad 0)), (1, .ref (ad 9)), (2, .int v2), (3, .int v3), (4, .long v4), (6, .int v6)] → l5_wordOf_9_27 k4 n xtok xval v2 v3 v4 v6 = some r0 → W p l e ({ frames := 0, cells := 0, slots := 0, locals := 0 }) s m args below meth c H locs 0 0 (MQ below (QcI D (tyM cI cC) (wM cI cC ad xs xkept xaside xisK xfound xgone xover xtape xtaped xtok xbeg xend xval xwid xsiz xcel xcar) A r0) args s 0 0 A) (F0 m 27 ls []) := by
  have hx := C0.1
  have hb := C0.2.1
  have hown := C0.2.2.2.2.1
  have hts := C0.2.2.2.2.2.1
  have hX := C0.2.2.2.2.2.2.2.2
  intro n
  induction n with
  | zero =>
    intro _ _ _ _ _ _ _ G hl hf
    cases hf
  | succ n ih =>
    intro v2 v3 v4 v6 H locs ls G hl hf
    rw [l5_wordOf_9_27] at hf
    refine lv_iload hx hb dX5_wordOf_27 (lv_at hl 5 rfl) ?_
    refine lv_bipush (v := (9 : Int32)) hx hb dX5_wordOf_29 (by decide) ?_
    refine lv_icmp_ge (tgt := 82) hx hb dX5_wordOf_31 (by decide) (fun hc3 => ?_) (fun hc3 => ?_)
    · have hf := itp hc3 hf
      refine lv_lload hx hb dX5_wordOf_82 (lv_at hl 4 rfl) ?_
      refine lv_aload_n hx hb dX5_wordOf_84 rfl (lv_at hl 0 rfl) ?_
      refine s_get (C := RX5) (T := TX5) C0 G i_X5 0 12 rfl rfl (by decide) q725 rfl dX5_wordOf_85 ?_
      refine W.lcmp hx hb dX5_wordOf_88 ?_
      refine lv_if_ne (tgt := 96) hx hb dX5_wordOf_89 (by decide) (fun hc4 => ?_) (fun hc4 => ?_)
      · have hf := itn hc4 hf
        refine lv_iload_n hx hb dX5_wordOf_96 rfl (lv_at hl 2 rfl) ?_
        exact b5_wordOf_9_97 C0 hk4 G (lv_sub hl [0, 1, 3] rfl) hf
      · have hf := itp hc4 hf
        refine lv_iload_n hx hb dX5_wordOf_92 rfl (lv_at hl 3 rfl) ?_
        refine lv_goto (tgt := 97) hx hb dX5_wordOf_93 (by decide) ?_
        exact b5_wordOf_9_97 C0 hk4 G (lv_sub hl [0, 1, 3] rfl) hf
    · have hf := itn hc3 hf
      refine lv_aload_n hx hb dX5_wordOf_34 rfl (lv_at hl 1 rfl) ?_
      refine lv_bipush (v := (9 : Int32)) hx hb dX5_wordOf_35 (by decide) ?_
      refine lv_iload_n hx hb dX5_wordOf_37 rfl (lv_at hl 3 rfl) ?_
      refine lv_imul hx hb dX5_wordOf_38 ?_
      refine lv_iload hx hb dX5_wordOf_39 (lv_at hl 5 rfl) ?_
      refine lv_iadd hx hb dX5_wordOf_41 ?_
      obtain ⟨hi5, hf⟩ := gd_s hf
      refine s_cald (k := (((9 : Int32) * v3) + v6).toNatClampNeg) C0 G 9 1 rfl rfl (vin hi5) rfl dX5_wordOf_42 ?_
      refine lv_bipush (v := (32 : Int32)) hx hb dX5_wordOf_43 (by decide) ?_
      refine lv_icmp_ne (tgt := 53) hx hb dX5_wordOf_45 (by decide) (fun hc6 => ?_) (fun hc6 => ?_)
      · have hf := itn hc6 hf
        refine lv_lload hx hb dX5_wordOf_53 (lv_at hl 4 rfl) ?_
        refine lv_ldc2 (v := (27 : Int64)) hx hb hown (hts _ q1063) dX5_wordOf_55 ?_
        refine lv_lmul hx hb dX5_wordOf_58 ?_
        refine lv_aload_n hx hb dX5_wordOf_59 rfl (lv_at hl 1 rfl) ?_
        refine lv_bipush (v := (9 : Int32)) hx hb dX5_wordOf_60 (by decide) ?_
        refine lv_iload_n hx hb dX5_wordOf_62 rfl (lv_at hl 3 rfl) ?_
        refine lv_imul hx hb dX5_wordOf_63 ?_
        refine lv_iload hx hb dX5_wordOf_64 (lv_at hl 5 rfl) ?_
        refine lv_iadd hx hb dX5_wordOf_66 ?_
        obtain ⟨hi7, hf⟩ := gd_s hf
        refine s_cald (k := (((9 : Int32) * v3) + v6).toNatClampNeg) C0 G 9 1 rfl rfl (vin hi7) rfl dX5_wordOf_67 ?_
        refine lv_i2l hx hb dX5_wordOf_68 rfl ?_
        refine lv_ladd hx hb dX5_wordOf_69 ?_
        refine lv_ldc2 (v := (96 : Int64)) hx hb hown (hts _ q1064) dX5_wordOf_70 ?_
        refine lv_lsub hx hb dX5_wordOf_73 ?_
        exact b5_wordOf_9_74 C0 hk4 ih G (lv_sub hl [0, 1, 2, 3, 5] rfl) hf
      · have hf := itp hc6 hf
        refine lv_lload hx hb dX5_wordOf_48 (lv_at hl 4 rfl) ?_
        refine lv_goto (tgt := 74) hx hb dX5_wordOf_50 (by decide) ?_
        exact b5_wordOf_9_74 C0 hk4 ih G (lv_sub hl [0, 1, 2, 3, 5] rfl) hf
set_option maxHeartbeats 4000000 in
set_option maxRecDepth 100000 in
theorem b5_wordOf_9_4 {X : XP} {p : Program} {l : Launch} {e : Env} {s : State} {m : MethodId} {args : Array Value} {below : List Frame} {meth : Method} {c : Code} {D : va_G} {cI cC : ClassId} {ad : Nat → Nat} {A : Nat → Prop} {xs : Nat → Int32} {xkept : Nat → Int32} {xaside : Nat → Int32} {xisK : Int32} {xfound : Nat → Int32} {xgone : Int32} {xover : Nat → Int32} {xtape : Nat → Int32} {xtaped : Int32} {xtok : Int32} {xbeg : Int32} {xend : Int32} {xval : Int64} {xwid : Nat → Int32} {xsiz : Nat → Int32} {xcel : Nat → Int32} {xcar : Nat → Int32} {r0 : Int32} (C0 : CX X p s m args meth c cX5_wordOf 7 (some .int) RX5 A) : ∀ (n : Nat) {v2 : Int32} {v3 : Int32} {H : Heap} {locs : List Loc} {ls : Array Slot}, GX X D (tyM cI cC) A s (wM cI cC ad xs xkept xaside xisK xfound xgone xover xtape xtaped xtok xbeg xend xval xwid xsiz xcel xcar) H locs → lv_has ls 7 [(0, .ref (ad 0)), (1, .ref (ad 9)), (2, .int v2), (3, .int v3)] → l5_wordOf_9_4  n xtok xval v2 v3 = some r0 → W p l e ({ frames := 0, cells := 0, slots := 0, locals := 0 }) s m args below meth c H locs 0 0 (MQ below (QcI D (tyM cI cC) (wM cI cC ad xs xkept xaside xisK xfound xgone xover xtape xtaped xtok xbeg xend xval xwid xsiz xcel xcar) A r0) args s 0 0 A) (F0 m 4 ls []) := by
  have hx := C0.1
  have hb := C0.2.1
  have hown := C0.2.2.2.2.1
  have hts := C0.2.2.2.2.2.1
  have hX := C0.2.2.2.2.2.2.2.2
  intro n
  induction n with
  | zero =>
    intro _ _ _ _ _ G hl hf
    cases hf
  | succ n ih =>
    intro v2 v3 H locs ls G hl hf
    rw [l5_wordOf_9_4] at hf
    refine lv_iload_n hx hb dX5_wordOf_4 rfl (lv_at hl 3 rfl) ?_
    refine lv_aload_n hx hb dX5_wordOf_5 rfl (lv_at hl 1 rfl) ?_
    refine s_alen C0 G 9 1 rfl rfl (x := (36 : Int32)) rfl dX5_wordOf_6 ?_
    refine lv_bipush (v := (9 : Int32)) hx hb dX5_wordOf_7 (by decide) ?_
    refine lv_idiv hx hb dX5_wordOf_9 (by decide) ?_
    refine lv_icmp_ge (tgt := 104) hx hb dX5_wordOf_10 (by decide) (fun hc1 => ?_) (fun hc1 => ?_)
    · have hf := itp hc1 hf
      refine lv_iload_n hx hb dX5_wordOf_104 rfl (lv_at hl 2 rfl) ?_
      obtain rfl := inj1 hf
      exact ret_i C0 G dX5_wordOf_105
    · have hf := itn hc1 hf
      refine lv_aload_n hx hb dX5_wordOf_13 rfl (lv_at hl 0 rfl) ?_
      refine s_get (C := RX5) (T := TX5) C0 G i_X5 0 9 rfl rfl (by decide) q722 rfl dX5_wordOf_14 ?_
      refine lv_iconst (v := (1 : Int32)) hx hb dX5_wordOf_17 (by decide) ?_
      refine lv_icmp_ne (tgt := 104) hx hb dX5_wordOf_18 (by decide) (fun hc2 => ?_) (fun hc2 => ?_)
      · have hf := itn hc2 hf
        refine lv_iload_n hx hb dX5_wordOf_104 rfl (lv_at hl 2 rfl) ?_
        obtain rfl := inj1 hf
        exact ret_i C0 G dX5_wordOf_105
      · have hf := itp hc2 hf
        refine lv_lconst (v := (0 : Int64)) hx hb dX5_wordOf_21 (by decide) ?_
        refine lv_lstore (lv' := [(4, .long (0 : Int64)), (0, .ref (ad 0)), (1, .ref (ad 9)), (2, .int v2), (3, .int v3)]) hx hb dX5_wordOf_22 hl (by decide) rfl (fun ls hl => ?_)
        refine lv_iconst (v := (0 : Int32)) hx hb dX5_wordOf_24 (by decide) ?_
        refine lv_istore (lv' := [(6, .int (0 : Int32)), (4, .long (0 : Int64)), (0, .ref (ad 0)), (1, .ref (ad 9)), (2, .int v2), (3, .int v3)]) hx hb dX5_wordOf_25 hl (by decide) rfl (fun ls hl => ?_)
        exact b5_wordOf_9_27 C0 ih 1000 G (lv_sub hl [2, 3, 4, 5, 1, 0] rfl) hf
set_option maxHeartbeats 4000000 in
set_option maxRecDepth 100000 in
theorem b5_wordOf_9_0 {X : XP} {p : Program} {l : Launch} {e : Env} {s : State} {m : MethodId} {args : Array Value} {below : List Frame} {meth : Method} {c : Code} {D : va_G} {cI cC : ClassId} {ad : Nat → Nat} {A : Nat → Prop} {xs : Nat → Int32} {xkept : Nat → Int32} {xaside : Nat → Int32} {xisK : Int32} {xfound : Nat → Int32} {xgone : Int32} {xover : Nat → Int32} {xtape : Nat → Int32} {xtaped : Int32} {xtok : Int32} {xbeg : Int32} {xend : Int32} {xval : Int64} {xwid : Nat → Int32} {xsiz : Nat → Int32} {xcel : Nat → Int32} {xcar : Nat → Int32} {r0 : Int32} (C0 : CX X p s m args meth c cX5_wordOf 7 (some .int) RX5 A) : ∀ {H : Heap} {locs : List Loc} {ls : Array Slot}, GX X D (tyM cI cC) A s (wM cI cC ad xs xkept xaside xisK xfound xgone xover xtape xtaped xtok xbeg xend xval xwid xsiz xcel xcar) H locs → lv_has ls 7 [(0, .ref (ad 0)), (1, .ref (ad 9))] → f5_wordOf_9 xtok xval = some r0 → W p l e ({ frames := 0, cells := 0, slots := 0, locals := 0 }) s m args below meth c H locs 0 0 (MQ below (QcI D (tyM cI cC) (wM cI cC ad xs xkept xaside xisK xfound xgone xover xtape xtaped xtok xbeg xend xval xwid xsiz xcel xcar) A r0) args s 0 0 A) (F0 m 0 ls []) := by
  have hx := C0.1
  have hb := C0.2.1
  have hown := C0.2.2.2.2.1
  have hts := C0.2.2.2.2.2.1
  have hX := C0.2.2.2.2.2.2.2.2
  intro H locs ls G hl hf
  unfold f5_wordOf_9 at hf
  refine lv_iconst (v := (-1 : Int32)) hx hb dX5_wordOf_0 (by decide) ?_
  refine lv_istore_n (lv' := [(2, .int (-1 : Int32)), (0, .ref (ad 0)), (1, .ref (ad 9))]) hx hb dX5_wordOf_1 rfl hl (by decide) rfl (fun ls hl => ?_)
  refine lv_iconst (v := (0 : Int32)) hx hb dX5_wordOf_2 (by decide) ?_
  refine lv_istore_n (lv' := [(3, .int (0 : Int32)), (2, .int (-1 : Int32)), (0, .ref (ad 0)), (1, .ref (ad 9))]) hx hb dX5_wordOf_3 rfl hl (by decide) rfl (fun ls hl => ?_)
  exact b5_wordOf_9_4 C0  1000 G (lv_sub hl [2, 3, 1, 0] rfl) hf
theorem o5_wordOf_9 : okName yX5_wordOf 1 := ⟨by decide, by decide, by decide +kernel⟩
set_option maxHeartbeats 4000000 in
set_option maxRecDepth 100000 in
theorem c5_wordOf_9 {X : XP} (hX : XT X) {l : Launch} {D : va_G} {cI cC : ClassId} {ad : Nat → Nat} {sz : Nat} {xs : Nat → Int32} {xkept : Nat → Int32} {xaside : Nat → Int32} {xisK : Int32} {xfound : Nat → Int32} {xgone : Int32} {xover : Nat → Int32} {xtape : Nat → Int32} {xtaped : Int32} {xtok : Int32} {xbeg : Int32} {xend : Int32} {xval : Int64} {xwid : Nat → Int32} {xsiz : Nat → Int32} {xcel : Nat → Int32} {xcar : Nat → Int32}  {r0 : Int32} (hf : f5_wordOf_9 xtok xval = some r0) : Met l yX5_wordOf (wU yX5_wordOf cX5_wordOf 7 (some .int)) ({ frames := 0, cells := 0, slots := 0, locals := 0 }) (va_Pc [.ref (ad 0), .ref (ad 9)] (PreW X D (tyM cI cC) (wM cI cC ad xs xkept xaside xisK xfound xgone xover xtape xtaped xtok xbeg xend xval xwid xsiz xcel xcar) sz)) (QcI D (tyM cI cC) (wM cI cC ad xs xkept xaside xisK xfound xgone xover xtape xtaped xtok xbeg xend xval xwid xsiz xcel xcar) (va_A (wM cI cC ad xs xkept xaside xisK xfound xgone xover xtape xtaped xtok xbeg xend xval xwid xsiz xcel xcar) sz) r0) 0 0 (va_A (wM cI cC ad xs xkept xaside xisK xfound xgone xover xtape xtaped xtok xbeg xend xval xwid xsiz xcel xcar) sz) := by
  refine startW hX (own := RX5) (by decide) rfl (Nat.le_of_ble_eq_true rfl) (fun p e s m args below meth c ls C0 G hl => ?_)
  exact b5_wordOf_9_0 C0 G hl hf
/-! 5_takesNumber -/
theorem dX5_takesNumber_0 : decode cX5_takesNumber 0 = .ok (.aload_n 0, 1) := by decide +kernel
theorem dX5_takesNumber_1 : decode cX5_takesNumber 1 = .ok (.getfield 209, 3) := by decide +kernel
theorem dX5_takesNumber_4 : decode cX5_takesNumber 4 = .ok (.iconst 2, 1) := by decide +kernel
theorem dX5_takesNumber_5 : decode cX5_takesNumber 5 = .ok (.if_icmp .ne 24, 3) := by decide +kernel
theorem dX5_takesNumber_8 : decode cX5_takesNumber 8 = .ok (.aload_n 0, 1) := by decide +kernel
theorem dX5_takesNumber_9 : decode cX5_takesNumber 9 = .ok (.getfield 205, 3) := by decide +kernel
theorem dX5_takesNumber_12 : decode cX5_takesNumber 12 = .ok (.l2i, 1) := by decide +kernel
theorem dX5_takesNumber_13 : decode cX5_takesNumber 13 = .ok (.iload_n 1, 1) := by decide +kernel
theorem dX5_takesNumber_14 : decode cX5_takesNumber 14 = .ok (.iload_n 2, 1) := by decide +kernel
theorem dX5_takesNumber_15 : decode cX5_takesNumber 15 = .ok (.invokestatic 51, 3) := by decide +kernel
theorem dX5_takesNumber_18 : decode cX5_takesNumber 18 = .ok (.ifCond .eq 11, 3) := by decide +kernel
theorem dX5_takesNumber_21 : decode cX5_takesNumber 21 = .ok (.aload_n 0, 1) := by decide +kernel
theorem dX5_takesNumber_22 : decode cX5_takesNumber 22 = .ok (.getfield 205, 3) := by decide +kernel
theorem dX5_takesNumber_25 : decode cX5_takesNumber 25 = .ok (.l2i, 1) := by decide +kernel
theorem dX5_takesNumber_26 : decode cX5_takesNumber 26 = .ok (.goto 4, 3) := by decide +kernel
theorem dX5_takesNumber_29 : decode cX5_takesNumber 29 = .ok (.iconst (-1), 1) := by decide +kernel
theorem dX5_takesNumber_30 : decode cX5_takesNumber 30 = .ok (.istore_n 3, 1) := by decide +kernel
theorem dX5_takesNumber_31 : decode cX5_takesNumber 31 = .ok (.iload_n 3, 1) := by decide +kernel
theorem dX5_takesNumber_32 : decode cX5_takesNumber 32 = .ok (.ifCond .lt 7, 3) := by decide +kernel
theorem dX5_takesNumber_35 : decode cX5_takesNumber 35 = .ok (.aload_n 0, 1) := by decide +kernel
theorem dX5_takesNumber_36 : decode cX5_takesNumber 36 = .ok (.invokevirtual 230, 3) := by decide +kernel
theorem dX5_takesNumber_39 : decode cX5_takesNumber 39 = .ok (.iload_n 3, 1) := by decide +kernel
theorem dX5_takesNumber_40 : decode cX5_takesNumber 40 = .ok (.ireturn, 1) := by decide +kernel
def j5_takesNumber_30  (xtape : Nat → Int32) (xtaped : Int32) (xtok : Int32) (xbeg : Int32) (xend : Int32) (xval : Int64) (t0 : Int32) : Option (Int32 × Int32 × Int32 × Int32 × Int64) :=
  if t0 < (0 : Int32) then (
    some (t0, xtok, xbeg, xend, xval))
  else (
    ob4 (f5_nextToken xtape xtaped xtok xbeg xend xval) (fun xtok_4 xbeg_5 xend_6 xval_7 =>
    some (t0, xtok_4, xbeg_5, xend_6, xval_7)))
def j5_takesNumber_29  (xtape : Nat → Int32) (xtaped : Int32) (xtok : Int32) (xbeg : Int32) (xend : Int32) (xval : Int64)  : Option (Int32 × Int32 × Int32 × Int32 × Int64) :=
  j5_takesNumber_30 xtape xtaped xtok xbeg xend xval (-1 : Int32)
def f5_takesNumber (xtape : Nat → Int32) (xtaped : Int32) (xtok : Int32) (xbeg : Int32) (xend : Int32) (xval : Int64) (v1 : Int32) (v2 : Int32) : Option (Int32 × Int32 × Int32 × Int32 × Int64) :=
  if xtok = (2 : Int32) then (
    if (f5_in1 (xval.toInt32) v1 v2) = (0 : Int32) then (
      j5_takesNumber_29 xtape xtaped xtok xbeg xend xval)
    else (
      j5_takesNumber_30 xtape xtaped xtok xbeg xend xval (xval.toInt32)))
  else (
    j5_takesNumber_29 xtape xtaped xtok xbeg xend xval)
set_option maxHeartbeats 4000000 in
set_option maxRecDepth 100000 in
theorem b5_takesNumber_30 {X : XP} {p : Program} {l : Launch} {e : Env} {s : State} {m : MethodId} {args : Array Value} {below : List Frame} {meth : Method} {c : Code} {D : va_G} {cI cC : ClassId} {ad : Nat → Nat} {A : Nat → Prop} {xs : Nat → Int32} {xkept : Nat → Int32} {xaside : Nat → Int32} {xisK : Int32} {xfound : Nat → Int32} {xgone : Int32} {xover : Nat → Int32} {xtape : Nat → Int32} {xtaped : Int32} {xwid : Nat → Int32} {xsiz : Nat → Int32} {xcel : Nat → Int32} {xcar : Nat → Int32} {r0 : Int32} {o_xtok : Int32} {o_xbeg : Int32} {o_xend : Int32} {o_xval : Int64} (C0 : CX X p s m args meth c cX5_takesNumber 4 (some .int) RX5 A) : ∀ {xtok : Int32} {xbeg : Int32} {xend : Int32} {xval : Int64} {t0 : Int32} {H : Heap} {locs : List Loc} {ls : Array Slot}, GX X D (tyM cI cC) A s (wM cI cC ad xs xkept xaside xisK xfound xgone xover xtape xtaped xtok xbeg xend xval xwid xsiz xcel xcar) H locs → lv_has ls 4 [(0, .ref (ad 0))] → j5_takesNumber_30  xtape xtaped xtok xbeg xend xval t0 = some (r0, o_xtok, o_xbeg, o_xend, o_xval) → W p l e ({ frames := 3, cells := 0, slots := 0, locals := 62 }) s m args below meth c H locs 0 0 (MQ below (QcI D (tyM cI cC) (wM cI cC ad xs xkept xaside xisK xfound xgone xover xtape xtaped o_xtok o_xbeg o_xend o_xval xwid xsiz xcel xcar) A r0) args s 0 0 A) (F0 m 30 ls [.int t0]) := by
  have hx := C0.1
  have hb := C0.2.1
  have hown := C0.2.2.2.2.1
  have hts := C0.2.2.2.2.2.1
  have hX := C0.2.2.2.2.2.2.2.2
  intro xtok xbeg xend xval t0 H locs ls G hl hf
  unfold j5_takesNumber_30 at hf
  refine lv_istore_n (lv' := [(3, .int t0), (0, .ref (ad 0))]) hx hb dX5_takesNumber_30 rfl hl (by decide) rfl (fun ls hl => ?_)
  refine lv_iload_n hx hb dX5_takesNumber_31 rfl (lv_at hl 0 rfl) ?_
  refine lv_if_lt (tgt := 39) hx hb dX5_takesNumber_32 (by decide) (fun hc3 => ?_) (fun hc3 => ?_)
  · have hf := itp hc3 hf
    refine lv_iload_n hx hb dX5_takesNumber_39 rfl (lv_at hl 0 rfl) ?_
    obtain ⟨rfl, rfl, rfl, rfl, rfl⟩ := inj5 hf
    exact ret_i C0 G dX5_takesNumber_40
  · have hf := itn hc3 hf
    refine lv_aload_n hx hb dX5_takesNumber_35 rfl (lv_at hl 1 rfl) ?_
    obtain ⟨xtok_4, xbeg_5, xend_6, xval_7, hc8, hf⟩ := ob4_s hf
    refine go_v C0 G (runV_of (n := 0) (q0 := 0) (As := []) (rest := []) C0 G (c5_nextToken hX hc8) q1058 q54 q1055 q1057 q43 o5_nextToken ⟨rfl, rfl⟩ ⟨Nat.le_of_ble_eq_true rfl, Nat.le_of_ble_eq_true rfl⟩ rfl rfl rfl hl.1 rfl (Nat.le_of_ble_eq_true rfl) dX5_takesNumber_36) (fun H locs G => ?_)
    refine lv_iload_n hx hb dX5_takesNumber_39 rfl (lv_at hl 0 rfl) ?_
    obtain ⟨rfl, rfl, rfl, rfl, rfl⟩ := inj5 hf
    exact ret_i C0 G dX5_takesNumber_40
set_option maxHeartbeats 4000000 in
set_option maxRecDepth 100000 in
theorem b5_takesNumber_29 {X : XP} {p : Program} {l : Launch} {e : Env} {s : State} {m : MethodId} {args : Array Value} {below : List Frame} {meth : Method} {c : Code} {D : va_G} {cI cC : ClassId} {ad : Nat → Nat} {A : Nat → Prop} {xs : Nat → Int32} {xkept : Nat → Int32} {xaside : Nat → Int32} {xisK : Int32} {xfound : Nat → Int32} {xgone : Int32} {xover : Nat → Int32} {xtape : Nat → Int32} {xtaped : Int32} {xwid : Nat → Int32} {xsiz : Nat → Int32} {xcel : Nat → Int32} {xcar : Nat → Int32} {r0 : Int32} {o_xtok : Int32} {o_xbeg : Int32} {o_xend : Int32} {o_xval : Int64} (C0 : CX X p s m args meth c cX5_takesNumber 4 (some .int) RX5 A) : ∀ {xtok : Int32} {xbeg : Int32} {xend : Int32} {xval : Int64} {H : Heap} {locs : List Loc} {ls : Array Slot}, GX X D (tyM cI cC) A s (wM cI cC ad xs xkept xaside xisK xfound xgone xover xtape xtaped xtok xbeg xend xval xwid xsiz xcel xcar) H locs → lv_has ls 4 [(0, .ref (ad 0))] → j5_takesNumber_29  xtape xtaped xtok xbeg xend xval = some (r0, o_xtok, o_xbeg, o_xend, o_xval) → W p l e ({ frames := 3, cells := 0, slots := 0, locals := 62 }) s m args below meth c H locs 0 0 (MQ below (QcI D (tyM cI cC) (wM cI cC ad xs xkept xaside xisK xfound xgone xover xtape xtaped o_xtok o_xbeg o_xend o_xval xwid xsiz xcel xcar) A r0) args s 0 0 A) (F0 m 29 ls []) := by
  have hx := C0.1
  have hb := C0.2.1
  have hown := C0.2.2.2.2.1
  have hts := C0.2.2.2.2.2.1
  have hX := C0.2.2.2.2.2.2.2.2
  intro xtok xbeg xend xval H locs ls G hl hf
  unfold j5_takesNumber_29 at hf
  refine lv_iconst (v := (-1 : Int32)) hx hb dX5_takesNumber_29 (by decide) ?_
  exact b5_takesNumber_30 C0  G (lv_sub hl [0] rfl) hf
set_option maxHeartbeats 4000000 in
set_option maxRecDepth 100000 in
theorem b5_takesNumber_0 {X : XP} {p : Program} {l : Launch} {e : Env} {s : State} {m : MethodId} {args : Array Value} {below : List Frame} {meth : Method} {c : Code} {D : va_G} {cI cC : ClassId} {ad : Nat → Nat} {A : Nat → Prop} {xs : Nat → Int32} {xkept : Nat → Int32} {xaside : Nat → Int32} {xisK : Int32} {xfound : Nat → Int32} {xgone : Int32} {xover : Nat → Int32} {xtape : Nat → Int32} {xtaped : Int32} {xwid : Nat → Int32} {xsiz : Nat → Int32} {xcel : Nat → Int32} {xcar : Nat → Int32} {r0 : Int32} {o_xtok : Int32} {o_xbeg : Int32} {o_xend : Int32} {o_xval : Int64} (C0 : CX X p s m args meth c cX5_takesNumber 4 (some .int) RX5 A) : ∀ {xtok : Int32} {xbeg : Int32} {xend : Int32} {xval : Int64} {v1 : Int32} {v2 : Int32} {H : Heap} {locs : List Loc} {ls : Array Slot}, GX X D (tyM cI cC) A s (wM cI cC ad xs xkept xaside xisK xfound xgone xover xtape xtaped xtok xbeg xend xval xwid xsiz xcel xcar) H locs → lv_has ls 4 [(0, .ref (ad 0)), (1, .int v1), (2, .int v2)] → f5_takesNumber xtape xtaped xtok xbeg xend xval v1 v2 = some (r0, o_xtok, o_xbeg, o_xend, o_xval) → W p l e ({ frames := 3, cells := 0, slots := 0, locals := 62 }) s m args below meth c H locs 0 0 (MQ below (QcI D (tyM cI cC) (wM cI cC ad xs xkept xaside xisK xfound xgone xover xtape xtaped o_xtok o_xbeg o_xend o_xval xwid xsiz xcel xcar) A r0) args s 0 0 A) (F0 m 0 ls []) := by
  have hx := C0.1
  have hb := C0.2.1
  have hown := C0.2.2.2.2.1
  have hts := C0.2.2.2.2.2.1
  have hX := C0.2.2.2.2.2.2.2.2
  intro xtok xbeg xend xval v1 v2 H locs ls G hl hf
  unfold f5_takesNumber at hf
  refine lv_aload_n hx hb dX5_takesNumber_0 rfl (lv_at hl 0 rfl) ?_
  refine s_get (C := RX5) (T := TX5) C0 G i_X5 0 9 rfl rfl (by decide) q722 rfl dX5_takesNumber_1 ?_
  refine lv_iconst (v := (2 : Int32)) hx hb dX5_takesNumber_4 (by decide) ?_
  refine lv_icmp_ne (tgt := 29) hx hb dX5_takesNumber_5 (by decide) (fun hc1 => ?_) (fun hc1 => ?_)
  · have hf := itn hc1 hf
    exact b5_takesNumber_29 C0  G (lv_sub hl [0] rfl) hf
  · have hf := itp hc1 hf
    refine lv_aload_n hx hb dX5_takesNumber_8 rfl (lv_at hl 0 rfl) ?_
    refine s_get (C := RX5) (T := TX5) C0 G i_X5 0 12 rfl rfl (by decide) q725 rfl dX5_takesNumber_9 ?_
    refine lv_l2i hx hb dX5_takesNumber_12 rfl ?_
    refine lv_iload_n hx hb dX5_takesNumber_13 rfl (lv_at hl 1 rfl) ?_
    refine lv_iload_n hx hb dX5_takesNumber_14 rfl (lv_at hl 2 rfl) ?_
    refine go_i C0 G (runS_of (n := 3) (As := [.int (xval.toInt32), .int v1, .int v2]) (rest := []) C0 G (c5_in1 hX rfl) q784 q54 q782 q783 o5_in1 ⟨rfl, rfl⟩ ⟨Nat.le_of_ble_eq_true rfl, Nat.le_of_ble_eq_true rfl⟩ rfl hl.1 rfl (Nat.le_of_ble_eq_true rfl) dX5_takesNumber_15) (fun H locs G => ?_)
    refine lv_if_eq (tgt := 29) hx hb dX5_takesNumber_18 (by decide) (fun hc2 => ?_) (fun hc2 => ?_)
    · have hf := itp hc2 hf
      exact b5_takesNumber_29 C0  G (lv_sub hl [0] rfl) hf
    · have hf := itn hc2 hf
      refine lv_aload_n hx hb dX5_takesNumber_21 rfl (lv_at hl 0 rfl) ?_
      refine s_get (C := RX5) (T := TX5) C0 G i_X5 0 12 rfl rfl (by decide) q725 rfl dX5_takesNumber_22 ?_
      refine lv_l2i hx hb dX5_takesNumber_25 rfl ?_
      refine lv_goto (tgt := 30) hx hb dX5_takesNumber_26 (by decide) ?_
      exact b5_takesNumber_30 C0  G (lv_sub hl [0] rfl) hf
theorem o5_takesNumber : okName yX5_takesNumber 2 := ⟨by decide, by decide, by decide +kernel⟩
set_option maxHeartbeats 4000000 in
set_option maxRecDepth 100000 in
theorem c5_takesNumber {X : XP} (hX : XT X) {l : Launch} {D : va_G} {cI cC : ClassId} {ad : Nat → Nat} {sz : Nat} {xs : Nat → Int32} {xkept : Nat → Int32} {xaside : Nat → Int32} {xisK : Int32} {xfound : Nat → Int32} {xgone : Int32} {xover : Nat → Int32} {xtape : Nat → Int32} {xtaped : Int32} {xtok : Int32} {xbeg : Int32} {xend : Int32} {xval : Int64} {xwid : Nat → Int32} {xsiz : Nat → Int32} {xcel : Nat → Int32} {xcar : Nat → Int32} {v1 : Int32} {v2 : Int32} {r0 : Int32} {o_xtok : Int32} {o_xbeg : Int32} {o_xend : Int32} {o_xval : Int64} (hf : f5_takesNumber xtape xtaped xtok xbeg xend xval v1 v2 = some (r0, o_xtok, o_xbeg, o_xend, o_xval)) : Met l yX5_takesNumber (wU yX5_takesNumber cX5_takesNumber 4 (some .int)) ({ frames := 3, cells := 0, slots := 0, locals := 62 }) (va_Pc [.ref (ad 0), .int v1, .int v2] (PreW X D (tyM cI cC) (wM cI cC ad xs xkept xaside xisK xfound xgone xover xtape xtaped xtok xbeg xend xval xwid xsiz xcel xcar) sz)) (QcI D (tyM cI cC) (wM cI cC ad xs xkept xaside xisK xfound xgone xover xtape xtaped o_xtok o_xbeg o_xend o_xval xwid xsiz xcel xcar) (va_A (wM cI cC ad xs xkept xaside xisK xfound xgone xover xtape xtaped xtok xbeg xend xval xwid xsiz xcel xcar) sz) r0) 0 0 (va_A (wM cI cC ad xs xkept xaside xisK xfound xgone xover xtape xtaped xtok xbeg xend xval xwid xsiz xcel xcar) sz) := by
  refine startW hX (own := RX5) (by decide) rfl (Nat.le_of_ble_eq_true rfl) (fun p e s m args below meth c ls C0 G hl => ?_)
  exact b5_takesNumber_0 C0 G hl hf
/-! 5_wordOf_8 -/
def j5_wordOf_8_97 (k4 : Int32 → Int64 → Int32 → Int32 → Option (Int32)) (xtok : Int32) (xval : Int64) (v3 : Int32) (t0 : Int32) : Option (Int32) :=
  k4 xtok xval t0 (v3 + (1 : Int32))
def j5_wordOf_8_74 (k4 : Int32 → Int64 → Int32 → Int32 → Option (Int32)) (k27 : Int32 → Int64 → Int32 → Int32 → Int64 → Int32 → Option (Int32)) (xtok : Int32) (xval : Int64) (v2 : Int32) (v3 : Int32) (v6 : Int32) (t0 : Int64) : Option (Int32) :=
  k27 xtok xval v2 v3 t0 (v6 + (1 : Int32))
def l5_wordOf_8_27 (k4 : Int32 → Int64 → Int32 → Int32 → Option (Int32)) : Nat → Int32 → Int64 → Int32 → Int32 → Int64 → Int32 → Option (Int32)
  | 0, _, _, _, _, _, _ => none
  | n + 1, xtok, xval, v2, v3, v4, v6 =>
    if (9 : Int32) ≤ v6 then (
      if (lg_cmp v4 xval) = (0 : Int32) then (
        j5_wordOf_8_97 k4 xtok xval v3 v3)
      else (
        j5_wordOf_8_97 k4 xtok xval v3 v2))
    else (
      gd (inb (((9 : Int32) * v3) + v6) 36) (
      if (kMor ((((9 : Int32) * v3) + v6).toNatClampNeg)) = (32 : Int32) then (
        j5_wordOf_8_74 k4 (l5_wordOf_8_27 k4 n) xtok xval v2 v3 v6 v4)
      else (
        gd (inb (((9 : Int32) * v3) + v6) 36) (
        j5_wordOf_8_74 k4 (l5_wordOf_8_27 k4 n) xtok xval v2 v3 v6 (((v4 * (27 : Int64)) + ((kMor ((((9 : Int32) * v3) + v6).toNatClampNeg)).toInt64)) - (96 : Int64))))))
def l5_wordOf_8_4  : Nat → Int32 → Int64 → Int32 → Int32 → Option (Int32)
  | 0, _, _, _, _ => none
  | n + 1, xtok, xval, v2, v3 =>
    if ((36 : Int32) / (9 : Int32)) ≤ v3 then (
      some v2)
    else (
      if xtok = (1 : Int32) then (
        l5_wordOf_8_27 (l5_wordOf_8_4 n) 1000 xtok xval v2 v3 (0 : Int64) (0 : Int32))
      else (
        some v2))
def f5_wordOf_8 (xtok : Int32) (xval : Int64)  : Option (Int32) :=
  l5_wordOf_8_4 1000 xtok xval (-1 : Int32) (0 : Int32)
set_option maxHeartbeats 4000000 in
set_option maxRecDepth 100000 in
theorem b5_wordOf_8_97 {X : XP} {p : Program} {l : Launch} {e : Env} {s : State} {m : MethodId} {args : Array Value} {below : List Frame} {meth : Method} {c : Code} {D : va_G} {cI cC : ClassId} {ad : Nat → Nat} {A : Nat → Prop} {xs : Nat → Int32} {xkept : Nat → Int32} {xaside : Nat → Int32} {xisK : Int32} {xfound : Nat → Int32} {xgone : Int32} {xover : Nat → Int32} {xtape : Nat → Int32} {xtaped : Int32} {xtok : Int32} {xbeg : Int32} {xend : Int32} {xval : Int64} {xwid : Nat → Int32} {xsiz : Nat → Int32} {xcel : Nat → Int32} {xcar : Nat → Int32} {r0 : Int32} (C0 : CX X p s m args meth c cX5_wordOf 7 (some .int) RX5 A) {k4 : Int32 → Int64 → Int32 → Int32 → Option (Int32)} (hk4 : ∀ {v2 : Int32} {v3 : Int32} {H : Heap} {locs : List Loc} {ls : Array Slot}, GX X D (tyM cI cC) A s (wM cI cC ad xs xkept xaside xisK xfound xgone xover xtape xtaped xtok xbeg xend xval xwid xsiz xcel xcar) H locs → lv_has ls 7 [(0, .ref (ad 0)), (1, .ref (ad 8)), (2, .int v2), (3, .int v3)] → k4 xtok xval v2 v3 = some r0 → W p l e ({ frames := 0, cells := 0, slots := 0, locals := 0 }) s m args below meth c H locs 0 0 (MQ below (QcI D (tyM cI cC) (wM cI cC ad xs xkept xaside xisK xfound xgone xover xtape xtaped xtok xbeg xend xval xwid xsiz xcel xcar) A r0) args s 0 0 A) (F0 m 4 ls [])) : ∀ {v3 : Int32} {t0 : Int32} {H : Heap} {locs : List Loc} {ls : Array Slot}, GX X D (tyM cI cC) A s (wM cI cC ad xs xkept xaside xisK xfound xgone xover xtape xtaped xtok xbeg xend xval xwid xsiz xcel xcar) H locs → lv_has ls 7 [(0, .ref (ad 0)), (1, .ref (ad 8)), (3, .int v3)] → j5_wordOf_8_97 k4 xtok xval v3 t0 = some r0 → W p l e ({ frames := 0, cells := 0, slots := 0, locals := 0 }) s m args below meth c H locs 0 0 (MQ below (QcI D (tyM cI cC) (wM cI cC ad xs xkept xaside xisK xfound xgone xover xtape xtaped xtok xbeg xend xval xwid xsiz xcel xcar) A r0) args s 0 0 A) (F0 m 97 ls [.int t0]) := by
  have hx := C0.1
  have hb := C0.2.1
  have hown := C0.2.2.2.2.1
  have hts := C0.2.2.2.2.2.1
  have hX := C0.2.2.2.2.2.2.2.2
  intro v3 t0 H locs ls G hl hf
  unfold j5_wordOf_8_97 at hf
  refine lv_istore_n (lv' := [(2, .int t0), (0, .ref (ad 0)), (1, .ref (ad 8)), (3, .int v3)]) hx hb dX5_wordOf_97 rfl hl (by decide) rfl (fun ls hl => ?_)
  refine lv_iinc (v := (v3 + (1 : Int32))) (lv' := [(3, .int (v3 + (1 : Int32))), (2, .int t0), (0, .ref (ad 0)), (1, .ref (ad 8))]) hx hb dX5_wordOf_98 hl (k := 3) rfl rfl (by decide) rfl (fun ls hl => ?_)
  refine lv_goto (tgt := 4) hx hb dX5_wordOf_101 (by decide) ?_
  exact hk4 G (lv_sub hl [2, 3, 1, 0] rfl) hf
set_option maxHeartbeats 4000000 in
set_option maxRecDepth 100000 in
theorem b5_wordOf_8_74 {X : XP} {p : Program} {l : Launch} {e : Env} {s : State} {m : MethodId} {args : Array Value} {below : List Frame} {meth : Method} {c : Code} {D : va_G} {cI cC : ClassId} {ad : Nat → Nat} {A : Nat → Prop} {xs : Nat → Int32} {xkept : Nat → Int32} {xaside : Nat → Int32} {xisK : Int32} {xfound : Nat → Int32} {xgone : Int32} {xover : Nat → Int32} {xtape : Nat → Int32} {xtaped : Int32} {xtok : Int32} {xbeg : Int32} {xend : Int32} {xval : Int64} {xwid : Nat → Int32} {xsiz : Nat → Int32} {xcel : Nat → Int32} {xcar : Nat → Int32} {r0 : Int32} (C0 : CX X p s m args meth c cX5_wordOf 7 (some .int) RX5 A) {k4 : Int32 → Int64 → Int32 → Int32 → Option (Int32)} (hk4 : ∀ {v2 : Int32} {v3 : Int32} {H : Heap} {locs : List Loc} {ls : Array Slot}, GX X D (tyM cI cC) A s (wM cI cC ad xs xkept xaside xisK xfound xgone xover xtape xtaped xtok xbeg xend xval xwid xsiz xcel xcar) H locs → lv_has ls 7 [(0, .ref (ad 0)), (1, .ref (ad 8)), (2, .int v2), (3, .int v3)] → k4 xtok xval v2 v3 = some r0 → W p l e ({ frames := 0, cells := 0, slots := 0, locals := 0 }) s m args below meth c H locs 0 0 (MQ below (QcI D (tyM cI cC) (wM cI cC ad xs xkept xaside xisK xfound xgone xover xtape xtaped xtok xbeg xend xval xwid xsiz xcel xcar) A r0) args s 0 0 A) (F0 m 4 ls [])) {k27 : Int32 → Int64 → Int32 → Int32 → Int64 → Int32 → Option (Int32)} (hk27 : ∀ {v2 : Int32} {v3 : Int32} {v4 : Int64} {v6 : Int32} {H : Heap} {locs : List Loc} {ls : Array Slot}, GX X D (tyM cI cC) A s (wM cI cC ad xs xkept xaside xisK xfound xgone xover xtape xtaped xtok xbeg xend xval xwid xsiz xcel xcar) H locs → lv_has ls 7 [(0, .ref (ad 0)), (1, .ref (ad 8)), (2, .int v2), (3, .int v3), (4, .long v4), (6, .int v6)] → k27 xtok xval v2 v3 v4 v6 = some r0 → W p l e ({ frames := 0, cells := 0, slots := 0, locals := 0 }) s m args below meth c H locs 0 0 (MQ below (QcI D (tyM cI cC) (wM cI cC ad xs xkept xaside xisK xfound xgone xover xtape xtaped xtok xbeg xend xval xwid xsiz xcel xcar) A r0) args s 0 0 A) (F0 m 27 ls [])) : ∀ {v2 : Int32} {v3 : Int32} {v6 : Int32} {t0 : Int64} {H : Heap} {locs : List Loc} {ls : Array Slot}, GX X D (tyM cI cC) A s (wM cI cC ad xs xkept xaside xisK xfound xgone xover xtape xtaped xtok xbeg xend xval xwid xsiz xcel xcar) H locs → lv_has ls 7 [(0, .ref (ad 0)), (1, .ref (ad 8)), (2, .int v2), (3, .int v3), (6, .int v6)] → j5_wordOf_8_74 k4 k27 xtok xval v2 v3 v6 t0 = some r0 → W p l e ({ frames := 0, cells := 0, slots := 0, locals := 0 }) s m args below meth c H locs 0 0 (MQ below (QcI D (tyM cI cC) (wM cI cC ad xs xkept xaside xisK xfound xgone xover xtape xtaped xtok xbeg xend xval xwid xsiz xcel xcar) A r0) args s 0 0 A) (F0 m 74 ls [.long t0]) := by
  have hx := C0.1
  have hb := C0.2.1
  have hown := C0.2.2.2.2.1
  have hts := C0.2.2.2.2.2.1
  have hX := C0.2.2.2.2.2.2.2.2
  intro v2 v3 v6 t0 H locs ls G hl hf
  unfold j5_wordOf_8_74 at hf
  refine lv_lstore (lv' := [(4, .long t0), (0, .ref (ad 0)), (1, .ref (ad 8)), (2, .int v2), (3, .int v3), (6, .int v6)]) hx hb dX5_wordOf_74 hl (by decide) rfl (fun ls hl => ?_)
  refine lv_iinc (v := (v6 + (1 : Int32))) (lv' := [(6, .int (v6 + (1 : Int32))), (4, .long t0), (0, .ref (ad 0)), (1, .ref (ad 8)), (2, .int v2), (3, .int v3)]) hx hb dX5_wordOf_76 hl (k := 5) rfl rfl (by decide) rfl (fun ls hl => ?_)
  refine lv_goto (tgt := 27) hx hb dX5_wordOf_79 (by decide) ?_
  exact hk27 G (lv_sub hl [2, 3, 4, 5, 1, 0] rfl) hf
set_option maxHeartbeats 4000000 in
set_option maxRecDepth 100000 in
theorem b5_wordOf_8_27 {X : XP} {p : Program} {l : Launch} {e : Env} {s : State} {m : MethodId} {args : Array Value} {below : List Frame} {meth : Method} {c : Code} {D : va_G} {cI cC : ClassId} {ad : Nat → Nat} {A : Nat → Prop} {xs : Nat → Int32} {xkept : Nat → Int32} {xaside : Nat → Int32} {xisK : Int32} {xfound : Nat → Int32} {xgone : Int32} {xover : Nat → Int32} {xtape : Nat → Int32} {xtaped : Int32} {xtok : Int32} {xbeg : Int32} {xend : Int32} {xval : Int64} {xwid : Nat → Int32} {xsiz : Nat → Int32} {xcel : Nat → Int32} {xcar : Nat → Int32} {r0 : Int32} (C0 : CX X p s m args meth c cX5_wordOf 7 (some .int) RX5 A) {k4 : Int32 → Int64 → Int32 → Int32 → Option (Int32)} (hk4 : ∀ {v2 : Int32} {v3 : Int32} {H : Heap} {locs : List Loc} {ls : Array Slot}, GX X D (tyM cI cC) A s (wM cI cC ad xs xkept xaside xisK xfound xgone xover xtape xtaped xtok xbeg xend xval xwid xsiz xcel xcar) H locs → lv_has ls 7 [(0, .ref (ad 0)), (1, .ref (ad 8)), (2, .int v2), (3, .int v3)] → k4 xtok xval v2 v3 = some r0 → W p l e ({ frames := 0, cells := 0, slots := 0, locals := 0 }) s m args below meth c H locs 0 0 (MQ below (QcI D (tyM cI cC) (wM cI cC ad xs xkept xaside xisK xfound xgone xover xtape xtaped xtok xbeg xend xval xwid xsiz xcel xcar) A r0) args s 0 0 A) (F0 m 4 ls [])) : ∀ (n : Nat) {v2 : Int32} {v3 : Int32} {v4 : Int64} {v6 : Int32} {H : Heap} {locs : List Loc} {ls : Array Slot}, GX X D (tyM cI cC) A s (wM cI cC ad xs xkept xaside xisK xfound xgone xover xtape xtaped xtok xbeg xend xval xwid xsiz xcel xcar) H locs → lv_has ls 7 [(0, .ref (ad 0)), (1, .ref (ad 8)), (2, .int v2), (3, .int v3), (4, .long v4), (6, .int v6)] → l5_wordOf_8_27 k4 n xtok xval v2 v3 v4 v6 = some r0 → W p l e ({ frames := 0, cells := 0, slots := 0, locals := 0 }) s m args below meth c H locs 0 0 (MQ below (QcI D (tyM cI cC) (wM cI cC ad xs xkept xaside xisK xfound xgone xover xtape xtaped xtok xbeg xend xval xwid xsiz xcel xcar) A r0) args s 0 0 A) (F0 m 27 ls []) := by
  have hx := C0.1
  have hb := C0.2.1
  have hown := C0.2.2.2.2.1
  have hts := C0.2.2.2.2.2.1
  have hX := C0.2.2.2.2.2.2.2.2
  intro n
  induction n with
  | zero =>
    intro _ _ _ _ _ _ _ G hl hf
    cases hf
  | succ n ih =>
    intro v2 v3 v4 v6 H locs ls G hl hf
    rw [l5_wordOf_8_27] at hf
    refine lv_iload hx hb dX5_wordOf_27 (lv_at hl 5 rfl) ?_
    refine lv_bipush (v := (9 : Int32)) hx hb dX5_wordOf_29 (by decide) ?_
    refine lv_icmp_ge (tgt := 82) hx hb dX5_wordOf_31 (by decide) (fun hc3 => ?_) (fun hc3 => ?_)
    · have hf := itp hc3 hf
      refine lv_lload hx hb dX5_wordOf_82 (lv_at hl 4 rfl) ?_
      refine lv_aload_n hx hb dX5_wordOf_84 rfl (lv_at hl 0 rfl) ?_
      refine s_get (C := RX5) (T := TX5) C0 G i_X5 0 12 rfl rfl (by decide) q725 rfl dX5_wordOf_85 ?_
      refine W.lcmp hx hb dX5_wordOf_88 ?_
      refine lv_if_ne (tgt := 96) hx hb dX5_wordOf_89 (by decide) (fun hc4 => ?_) (fun hc4 => ?_)
      · have hf := itn hc4 hf
        refine lv_iload_n hx hb dX5_wordOf_96 rfl (lv_at hl 2 rfl) ?_
        exact b5_wordOf_8_97 C0 hk4 G (lv_sub hl [0, 1, 3] rfl) hf
      · have hf := itp hc4 hf
        refine lv_iload_n hx hb dX5_wordOf_92 rfl (lv_at hl 3 rfl) ?_
        refine lv_goto (tgt := 97) hx hb dX5_wordOf_93 (by decide) ?_
        exact b5_wordOf_8_97 C0 hk4 G (lv_sub hl [0, 1, 3] rfl) hf
    · have hf := itn hc3 hf
      refine lv_aload_n hx hb dX5_wordOf_34 rfl (lv_at hl 1 rfl) ?_
      refine lv_bipush (v := (9 : Int32)) hx hb dX5_wordOf_35 (by decide) ?_
      refine lv_iload_n hx hb dX5_wordOf_37 rfl (lv_at hl 3 rfl) ?_
      refine lv_imul hx hb dX5_wordOf_38 ?_
      refine lv_iload hx hb dX5_wordOf_39 (lv_at hl 5 rfl) ?_
      refine lv_iadd hx hb dX5_wordOf_41 ?_
      obtain ⟨hi5, hf⟩ := gd_s hf
      refine s_cald (k := (((9 : Int32) * v3) + v6).toNatClampNeg) C0 G 8 1 rfl rfl (vin hi5) rfl dX5_wordOf_42 ?_
      refine lv_bipush (v := (32 : Int32)) hx hb dX5_wordOf_43 (by decide) ?_
      refine lv_icmp_ne (tgt := 53) hx hb dX5_wordOf_45 (by decide) (fun hc6 => ?_) (fun hc6 => ?_)
      · have hf := itn hc6 hf
        refine lv_lload hx hb dX5_wordOf_53 (lv_at hl 4 rfl) ?_
        refine lv_ldc2 (v := (27 : Int64)) hx hb hown (hts _ q1063) dX5_wordOf_55 ?_
        refine lv_lmul hx hb dX5_wordOf_58 ?_
        refine lv_aload_n hx hb dX5_wordOf_59 rfl (lv_at hl 1 rfl) ?_
        refine lv_bipush (v := (9 : Int32)) hx hb dX5_wordOf_60 (by decide) ?_
        refine lv_iload_n hx hb dX5_wordOf_62 rfl (lv_at hl 3 rfl) ?_
        refine lv_imul hx hb dX5_wordOf_63 ?_
        refine lv_iload hx hb dX5_wordOf_64 (lv_at hl 5 rfl) ?_
        refine lv_iadd hx hb dX5_wordOf_66 ?_
        obtain ⟨hi7, hf⟩ := gd_s hf
        refine s_cald (k := (((9 : Int32) * v3) + v6).toNatClampNeg) C0 G 8 1 rfl rfl (vin hi7) rfl dX5_wordOf_67 ?_
        refine lv_i2l hx hb dX5_wordOf_68 rfl ?_
        refine lv_ladd hx hb dX5_wordOf_69 ?_
        refine lv_ldc2 (v := (96 : Int64)) hx hb hown (hts _ q1064) dX5_wordOf_70 ?_
        refine lv_lsub hx hb dX5_wordOf_73 ?_
        exact b5_wordOf_8_74 C0 hk4 ih G (lv_sub hl [0, 1, 2, 3, 5] rfl) hf
      · have hf := itp hc6 hf
        refine lv_lload hx hb dX5_wordOf_48 (lv_at hl 4 rfl) ?_
        refine lv_goto (tgt := 74) hx hb dX5_wordOf_50 (by decide) ?_
        exact b5_wordOf_8_74 C0 hk4 ih G (lv_sub hl [0, 1, 2, 3, 5] rfl) hf
set_option maxHeartbeats 4000000 in
set_option maxRecDepth 100000 in
theorem b5_wordOf_8_4 {X : XP} {p : Program} {l : Launch} {e : Env} {s : State} {m : MethodId} {args : Array Value} {below : List Frame} {meth : Method} {c : Code} {D : va_G} {cI cC : ClassId} {ad : Nat → Nat} {A : Nat → Prop} {xs : Nat → Int32} {xkept : Nat → Int32} {xaside : Nat → Int32} {xisK : Int32} {xfound : Nat → Int32} {xgone : Int32} {xover : Nat → Int32} {xtape : Nat → Int32} {xtaped : Int32} {xtok : Int32} {xbeg : Int32} {xend : Int32} {xval : Int64} {xwid : Nat → Int32} {xsiz : Nat → Int32} {xcel : Nat → Int32} {xcar : Nat → Int32} {r0 : Int32} (C0 : CX X p s m args meth c cX5_wordOf 7 (some .int) RX5 A) : ∀ (n : Nat) {v2 : Int32} {v3 : Int32} {H : Heap} {locs : List Loc} {ls : Array Slot}, GX X D (tyM cI cC) A s (wM cI cC ad xs xkept xaside xisK xfound xgone xover xtape xtaped xtok xbeg xend xval xwid xsiz xcel xcar) H locs → lv_has ls 7 [(0, .ref (ad 0)), (1, .ref (ad 8)), (2, .int v2), (3, .int v3)] → l5_wordOf_8_4  n xtok xval v2 v3 = some r0 → W p l e ({ frames := 0, cells := 0, slots := 0, locals := 0 }) s m args below meth c H locs 0 0 (MQ below (QcI D (tyM cI cC) (wM cI cC ad xs xkept xaside xisK xfound xgone xover xtape xtaped xtok xbeg xend xval xwid xsiz xcel xcar) A r0) args s 0 0 A) (F0 m 4 ls []) := by
  have hx := C0.1
  have hb := C0.2.1
  have hown := C0.2.2.2.2.1
  have hts := C0.2.2.2.2.2.1
  have hX := C0.2.2.2.2.2.2.2.2
  intro n
  induction n with
  | zero =>
    intro _ _ _ _ _ G hl hf
    cases hf
  | succ n ih =>
    intro v2 v3 H locs ls G hl hf
    rw [l5_wordOf_8_4] at hf
    refine lv_iload_n hx hb dX5_wordOf_4 rfl (lv_at hl 3 rfl) ?_
    refine lv_aload_n hx hb dX5_wordOf_5 rfl (lv_at hl 1 rfl) ?_
    refine s_alen C0 G 8 1 rfl rfl (x := (36 : Int32)) rfl dX5_wordOf_6 ?_
    refine lv_bipush (v := (9 : Int32)) hx hb dX5_wordOf_7 (by decide) ?_
    refine lv_idiv hx hb dX5_wordOf_9 (by decide) ?_
    refine lv_icmp_ge (tgt := 104) hx hb dX5_wordOf_10 (by decide) (fun hc1 => ?_) (fun hc1 => ?_)
    · have hf := itp hc1 hf
      refine lv_iload_n hx hb dX5_wordOf_104 rfl (lv_at hl 2 rfl) ?_
      obtain rfl := inj1 hf
      exact ret_i C0 G dX5_wordOf_105
    · have hf := itn hc1 hf
      refine lv_aload_n hx hb dX5_wordOf_13 rfl (lv_at hl 0 rfl) ?_
      refine s_get (C := RX5) (T := TX5) C0 G i_X5 0 9 rfl rfl (by decide) q722 rfl dX5_wordOf_14 ?_
      refine lv_iconst (v := (1 : Int32)) hx hb dX5_wordOf_17 (by decide) ?_
      refine lv_icmp_ne (tgt := 104) hx hb dX5_wordOf_18 (by decide) (fun hc2 => ?_) (fun hc2 => ?_)
      · have hf := itn hc2 hf
        refine lv_iload_n hx hb dX5_wordOf_104 rfl (lv_at hl 2 rfl) ?_
        obtain rfl := inj1 hf
        exact ret_i C0 G dX5_wordOf_105
      · have hf := itp hc2 hf
        refine lv_lconst (v := (0 : Int64)) hx hb dX5_wordOf_21 (by decide) ?_
        refine lv_lstore (lv' := [(4, .long (0 : Int64)), (0, .ref (ad 0)), (1, .ref (ad 8)), (2, .int v2), (3, .int v3)]) hx hb dX5_wordOf_22 hl (by decide) rfl (fun ls hl => ?_)
        refine lv_iconst (v := (0 : Int32)) hx hb dX5_wordOf_24 (by decide) ?_
        refine lv_istore (lv' := [(6, .int (0 : Int32)), (4, .long (0 : Int64)), (0, .ref (ad 0)), (1, .ref (ad 8)), (2, .int v2), (3, .int v3)]) hx hb dX5_wordOf_25 hl (by decide) rfl (fun ls hl => ?_)
        exact b5_wordOf_8_27 C0 ih 1000 G (lv_sub hl [2, 3, 4, 5, 1, 0] rfl) hf
set_option maxHeartbeats 4000000 in
set_option maxRecDepth 100000 in
theorem b5_wordOf_8_0 {X : XP} {p : Program} {l : Launch} {e : Env} {s : State} {m : MethodId} {args : Array Value} {below : List Frame} {meth : Method} {c : Code} {D : va_G} {cI cC : ClassId} {ad : Nat → Nat} {A : Nat → Prop} {xs : Nat → Int32} {xkept : Nat → Int32} {xaside : Nat → Int32} {xisK : Int32} {xfound : Nat → Int32} {xgone : Int32} {xover : Nat → Int32} {xtape : Nat → Int32} {xtaped : Int32} {xtok : Int32} {xbeg : Int32} {xend : Int32} {xval : Int64} {xwid : Nat → Int32} {xsiz : Nat → Int32} {xcel : Nat → Int32} {xcar : Nat → Int32} {r0 : Int32} (C0 : CX X p s m args meth c cX5_wordOf 7 (some .int) RX5 A) : ∀ {H : Heap} {locs : List Loc} {ls : Array Slot}, GX X D (tyM cI cC) A s (wM cI cC ad xs xkept xaside xisK xfound xgone xover xtape xtaped xtok xbeg xend xval xwid xsiz xcel xcar) H locs → lv_has ls 7 [(0, .ref (ad 0)), (1, .ref (ad 8))] → f5_wordOf_8 xtok xval = some r0 → W p l e ({ frames := 0, cells := 0, slots := 0, locals := 0 }) s m args below meth c H locs 0 0 (MQ below (QcI D (tyM cI cC) (wM cI cC ad xs xkept xaside xisK xfound xgone xover xtape xtaped xtok xbeg xend xval xwid xsiz xcel xcar) A r0) args s 0 0 A) (F0 m 0 ls []) := by
  have hx := C0.1
  have hb := C0.2.1
  have hown := C0.2.2.2.2.1
  have hts := C0.2.2.2.2.2.1
  have hX := C0.2.2.2.2.2.2.2.2
  intro H locs ls G hl hf
  unfold f5_wordOf_8 at hf
  refine lv_iconst (v := (-1 : Int32)) hx hb dX5_wordOf_0 (by decide) ?_
  refine lv_istore_n (lv' := [(2, .int (-1 : Int32)), (0, .ref (ad 0)), (1, .ref (ad 8))]) hx hb dX5_wordOf_1 rfl hl (by decide) rfl (fun ls hl => ?_)
  refine lv_iconst (v := (0 : Int32)) hx hb dX5_wordOf_2 (by decide) ?_
  refine lv_istore_n (lv' := [(3, .int (0 : Int32)), (2, .int (-1 : Int32)), (0, .ref (ad 0)), (1, .ref (ad 8))]) hx hb dX5_wordOf_3 rfl hl (by decide) rfl (fun ls hl => ?_)
  exact b5_wordOf_8_4 C0  1000 G (lv_sub hl [2, 3, 1, 0] rfl) hf
theorem o5_wordOf_8 : okName yX5_wordOf 1 := ⟨by decide, by decide, by decide +kernel⟩
set_option maxHeartbeats 4000000 in
set_option maxRecDepth 100000 in
theorem c5_wordOf_8 {X : XP} (hX : XT X) {l : Launch} {D : va_G} {cI cC : ClassId} {ad : Nat → Nat} {sz : Nat} {xs : Nat → Int32} {xkept : Nat → Int32} {xaside : Nat → Int32} {xisK : Int32} {xfound : Nat → Int32} {xgone : Int32} {xover : Nat → Int32} {xtape : Nat → Int32} {xtaped : Int32} {xtok : Int32} {xbeg : Int32} {xend : Int32} {xval : Int64} {xwid : Nat → Int32} {xsiz : Nat → Int32} {xcel : Nat → Int32} {xcar : Nat → Int32}  {r0 : Int32} (hf : f5_wordOf_8 xtok xval = some r0) : Met l yX5_wordOf (wU yX5_wordOf cX5_wordOf 7 (some .int)) ({ frames := 0, cells := 0, slots := 0, locals := 0 }) (va_Pc [.ref (ad 0), .ref (ad 8)] (PreW X D (tyM cI cC) (wM cI cC ad xs xkept xaside xisK xfound xgone xover xtape xtaped xtok xbeg xend xval xwid xsiz xcel xcar) sz)) (QcI D (tyM cI cC) (wM cI cC ad xs xkept xaside xisK xfound xgone xover xtape xtaped xtok xbeg xend xval xwid xsiz xcel xcar) (va_A (wM cI cC ad xs xkept xaside xisK xfound xgone xover xtape xtaped xtok xbeg xend xval xwid xsiz xcel xcar) sz) r0) 0 0 (va_A (wM cI cC ad xs xkept xaside xisK xfound xgone xover xtape xtaped xtok xbeg xend xval xwid xsiz xcel xcar) sz) := by
  refine startW hX (own := RX5) (by decide) rfl (Nat.le_of_ble_eq_true rfl) (fun p e s m args below meth c ls C0 G hl => ?_)
  exact b5_wordOf_8_0 C0 G hl hf
