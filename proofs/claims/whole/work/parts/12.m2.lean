/-! 5_sands -/
theorem dX5_sands_0 : decode cX5_sands 0 = .ok (.iconst 0, 1) := by decide +kernel
theorem dX5_sands_1 : decode cX5_sands 1 = .ok (.istore_n 1, 1) := by decide +kernel
theorem dX5_sands_2 : decode cX5_sands 2 = .ok (.iconst 0, 1) := by decide +kernel
theorem dX5_sands_3 : decode cX5_sands 3 = .ok (.istore_n 2, 1) := by decide +kernel
theorem dX5_sands_4 : decode cX5_sands 4 = .ok (.iload_n 2, 1) := by decide +kernel
theorem dX5_sands_5 : decode cX5_sands 5 = .ok (.bipush 16, 2) := by decide +kernel
theorem dX5_sands_7 : decode cX5_sands 7 = .ok (.if_icmp .ge 21, 3) := by decide +kernel
theorem dX5_sands_10 : decode cX5_sands 10 = .ok (.iload_n 1, 1) := by decide +kernel
theorem dX5_sands_11 : decode cX5_sands 11 = .ok (.aload_n 0, 1) := by decide +kernel
theorem dX5_sands_12 : decode cX5_sands 12 = .ok (.getfield 9, 3) := by decide +kernel
theorem dX5_sands_15 : decode cX5_sands 15 = .ok (.bipush 6, 2) := by decide +kernel
theorem dX5_sands_17 : decode cX5_sands 17 = .ok (.iload_n 2, 1) := by decide +kernel
theorem dX5_sands_18 : decode cX5_sands 18 = .ok (.iadd, 1) := by decide +kernel
theorem dX5_sands_19 : decode cX5_sands 19 = .ok (.iaload, 1) := by decide +kernel
theorem dX5_sands_20 : decode cX5_sands 20 = .ok (.iadd, 1) := by decide +kernel
theorem dX5_sands_21 : decode cX5_sands 21 = .ok (.istore_n 1, 1) := by decide +kernel
theorem dX5_sands_22 : decode cX5_sands 22 = .ok (.iinc 2 1, 3) := by decide +kernel
theorem dX5_sands_25 : decode cX5_sands 25 = .ok (.goto (-21), 3) := by decide +kernel
theorem dX5_sands_28 : decode cX5_sands 28 = .ok (.iload_n 1, 1) := by decide +kernel
theorem dX5_sands_29 : decode cX5_sands 29 = .ok (.ireturn, 1) := by decide +kernel
def l5_sands_4  : Nat → (Nat → Int32) → Int32 → Int32 → Option (Int32)
  | 0, _, _, _ => none
  | n + 1, xs, v1, v2 =>
    if (16 : Int32) ≤ v2 then (
      some v1)
    else (
      gd (inb ((6 : Int32) + v2) 88) (
      (l5_sands_4 n) xs (v1 + (xs (((6 : Int32) + v2).toNatClampNeg))) (v2 + (1 : Int32))))
def f5_sands (xs : Nat → Int32)  : Option (Int32) :=
  l5_sands_4 1000 xs (0 : Int32) (0 : Int32)
set_option maxHeartbeats 4000000 in
set_option maxRecDepth 100000 in
theorem b5_sands_4 {X : XP} {p : Program} {l : Launch} {e : Env} {s : State} {m : MethodId} {args : Array Value} {below : List Frame} {meth : Method} {c : Code} {D : va_G} {cI cC : ClassId} {ad : Nat → Nat} {A : Nat → Prop} {xs : Nat → Int32} {xkept : Nat → Int32} {xaside : Nat → Int32} {xisK : Int32} {xfound : Nat → Int32} {xgone : Int32} {xover : Nat → Int32} {xtape : Nat → Int32} {xtaped : Int32} {xtok : Int32} {xbeg : Int32} {xend : Int32} {xval : Int64} {xwid : Nat → Int32} {xsiz : Nat → Int32} {xcel : Nat → Int32} {xcar : Nat → Int32} {r0 : Int32} (C0 : CX X p s m args meth c cX5_sands 3 (some .int) RX5 A) : ∀ (n : Nat) {v1 : Int32} {v2 : Int32} {H : Heap} {locs : List Loc} {ls : Array Slot}, GX X D (tyM cI cC) A s (wM cI cC ad xs xkept xaside xisK xfound xgone xover xtape xtaped xtok xbeg xend xval xwid xsiz xcel xcar) H locs → lv_has ls 3 [(0, .ref (ad 0)), (1, .int v1), (2, .int v2)] → l5_sands_4  n xs v1 v2 = some r0 → W p l e ({ frames := 0, cells := 0, slots := 0, locals := 0 }) s m args below meth c H locs 0 0 (MQ below (QcI D (tyM cI cC) (wM cI cC ad xs xkept xaside xisK xfound xgone xover xtape xtaped xtok xbeg xend xval xwid xsiz xcel xcar) A r0) args s 0 0 A) (F0 m 4 ls []) := by
  have hx := C0.1
  have hb := C0.2.1
  have hown := C0.2.2.2.2.1
  have hts := C0.2.2.2.2.2.1
  have hX := C0.2.2.2.2.2.2.2.2
  intro n
  induction n with
  | zero =>
    intro _ _ _ _ _ G hl hf
    cases hf
  | succ n ih =>
    intro v1 v2 H locs ls G hl hf
    rw [l5_sands_4] at hf
    refine lv_iload_n hx hb dX5_sands_4 rfl (lv_at hl 2 rfl) ?_
    refine lv_bipush (v := (16 : Int32)) hx hb dX5_sands_5 (by decide) ?_
    refine lv_icmp_ge (tgt := 28) hx hb dX5_sands_7 (by decide) (fun hc1 => ?_) (fun hc1 => ?_)
    · have hf := itp hc1 hf
      refine lv_iload_n hx hb dX5_sands_28 rfl (lv_at hl 1 rfl) ?_
      obtain rfl := inj1 hf
      exact ret_i C0 G dX5_sands_29
    · have hf := itn hc1 hf
      refine lv_iload_n hx hb dX5_sands_10 rfl (lv_at hl 1 rfl) ?_
      refine lv_aload_n hx hb dX5_sands_11 rfl (lv_at hl 0 rfl) ?_
      refine s_get (C := RX5) (T := TX5) C0 G i_X5 0 0 rfl rfl (by decide) q713 rfl dX5_sands_12 ?_
      refine lv_bipush (v := (6 : Int32)) hx hb dX5_sands_15 (by decide) ?_
      refine lv_iload_n hx hb dX5_sands_17 rfl (lv_at hl 2 rfl) ?_
      refine lv_iadd hx hb dX5_sands_18 ?_
      obtain ⟨hi2, hf⟩ := gd_s hf
      refine s_iald (k := ((6 : Int32) + v2).toNatClampNeg) C0 G 1 0 rfl rfl (vin hi2) rfl dX5_sands_19 ?_
      refine lv_iadd hx hb dX5_sands_20 ?_
      refine lv_istore_n (lv' := [(1, .int (v1 + (xs (((6 : Int32) + v2).toNatClampNeg)))), (0, .ref (ad 0)), (2, .int v2)]) hx hb dX5_sands_21 rfl hl (by decide) rfl (fun ls hl => ?_)
      refine lv_iinc (v := (v2 + (1 : Int32))) (lv' := [(2, .int (v2 + (1 : Int32))), (1, .int (v1 + (xs (((6 : Int32) + v2).toNatClampNeg)))), (0, .ref (ad 0))]) hx hb dX5_sands_22 hl (k := 2) rfl rfl (by decide) rfl (fun ls hl => ?_)
      refine lv_goto (tgt := 4) hx hb dX5_sands_25 (by decide) ?_
      exact ih G (lv_sub hl [2, 1, 0] rfl) hf
set_option maxHeartbeats 4000000 in
set_option maxRecDepth 100000 in
theorem b5_sands_0 {X : XP} {p : Program} {l : Launch} {e : Env} {s : State} {m : MethodId} {args : Array Value} {below : List Frame} {meth : Method} {c : Code} {D : va_G} {cI cC : ClassId} {ad : Nat → Nat} {A : Nat → Prop} {xs : Nat → Int32} {xkept : Nat → Int32} {xaside : Nat → Int32} {xisK : Int32} {xfound : Nat → Int32} {xgone : Int32} {xover : Nat → Int32} {xtape : Nat → Int32} {xtaped : Int32} {xtok : Int32} {xbeg : Int32} {xend : Int32} {xval : Int64} {xwid : Nat → Int32} {xsiz : Nat → Int32} {xcel : Nat → Int32} {xcar : Nat → Int32} {r0 : Int32} (C0 : CX X p s m args meth c cX5_sands 3 (some .int) RX5 A) : ∀ {H : Heap} {locs : List Loc} {ls : Array Slot}, GX X D (tyM cI cC) A s (wM cI cC ad xs xkept xaside xisK xfound xgone xover xtape xtaped xtok xbeg xend xval xwid xsiz xcel xcar) H locs → lv_has ls 3 [(0, .ref (ad 0))] → f5_sands xs = some r0 → W p l e ({ frames := 0, cells := 0, slots := 0, locals := 0 }) s m args below meth c H locs 0 0 (MQ below (QcI D (tyM cI cC) (wM cI cC ad xs xkept xaside xisK xfound xgone xover xtape xtaped xtok xbeg xend xval xwid xsiz xcel xcar) A r0) args s 0 0 A) (F0 m 0 ls []) := by
  have hx := C0.1
  have hb := C0.2.1
  have hown := C0.2.2.2.2.1
  have hts := C0.2.2.2.2.2.1
  have hX := C0.2.2.2.2.2.2.2.2
  intro H locs ls G hl hf
  unfold f5_sands at hf
  refine lv_iconst (v := (0 : Int32)) hx hb dX5_sands_0 (by decide) ?_
  refine lv_istore_n (lv' := [(1, .int (0 : Int32)), (0, .ref (ad 0))]) hx hb dX5_sands_1 rfl hl (by decide) rfl (fun ls hl => ?_)
  refine lv_iconst (v := (0 : Int32)) hx hb dX5_sands_2 (by decide) ?_
  refine lv_istore_n (lv' := [(2, .int (0 : Int32)), (1, .int (0 : Int32)), (0, .ref (ad 0))]) hx hb dX5_sands_3 rfl hl (by decide) rfl (fun ls hl => ?_)
  exact b5_sands_4 C0  1000 G (lv_sub hl [2, 1, 0] rfl) hf
theorem o5_sands : okName yX5_sands 0 := ⟨by decide, by decide, by decide +kernel⟩
set_option maxHeartbeats 4000000 in
set_option maxRecDepth 100000 in
theorem c5_sands {X : XP} (hX : XT X) {l : Launch} {D : va_G} {cI cC : ClassId} {ad : Nat → Nat} {sz : Nat} {xs : Nat → Int32} {xkept : Nat → Int32} {xaside : Nat → Int32} {xisK : Int32} {xfound : Nat → Int32} {xgone : Int32} {xover : Nat → Int32} {xtape : Nat → Int32} {xtaped : Int32} {xtok : Int32} {xbeg : Int32} {xend : Int32} {xval : Int64} {xwid : Nat → Int32} {xsiz : Nat → Int32} {xcel : Nat → Int32} {xcar : Nat → Int32}  {r0 : Int32} (hf : f5_sands xs = some r0) : Met l yX5_sands (wU yX5_sands cX5_sands 3 (some .int)) ({ frames := 0, cells := 0, slots := 0, locals := 0 }) (va_Pc [.ref (ad 0)] (PreW X D (tyM cI cC) (wM cI cC ad xs xkept xaside xisK xfound xgone xover xtape xtaped xtok xbeg xend xval xwid xsiz xcel xcar) sz)) (QcI D (tyM cI cC) (wM cI cC ad xs xkept xaside xisK xfound xgone xover xtape xtaped xtok xbeg xend xval xwid xsiz xcel xcar) (va_A (wM cI cC ad xs xkept xaside xisK xfound xgone xover xtape xtaped xtok xbeg xend xval xwid xsiz xcel xcar) sz) r0) 0 0 (va_A (wM cI cC ad xs xkept xaside xisK xfound xgone xover xtape xtaped xtok xbeg xend xval xwid xsiz xcel xcar) sz) := by
  refine startW hX (own := RX5) (by decide) rfl (Nat.le_of_ble_eq_true rfl) (fun p e s m args below meth c ls C0 G hl => ?_)
  exact b5_sands_0 C0 G hl hf
/-! 5_setOf -/
theorem dX5_setOf_0 : decode cX5_setOf 0 = .ok (.iconst 0, 1) := by decide +kernel
theorem dX5_setOf_1 : decode cX5_setOf 1 = .ok (.istore_n 2, 1) := by decide +kernel
theorem dX5_setOf_2 : decode cX5_setOf 2 = .ok (.iconst 0, 1) := by decide +kernel
theorem dX5_setOf_3 : decode cX5_setOf 3 = .ok (.istore_n 3, 1) := by decide +kernel
theorem dX5_setOf_4 : decode cX5_setOf 4 = .ok (.iload_n 3, 1) := by decide +kernel
theorem dX5_setOf_5 : decode cX5_setOf 5 = .ok (.aload_n 0, 1) := by decide +kernel
theorem dX5_setOf_6 : decode cX5_setOf 6 = .ok (.getfield 9, 3) := by decide +kernel
theorem dX5_setOf_9 : decode cX5_setOf 9 = .ok (.iconst 1, 1) := by decide +kernel
theorem dX5_setOf_10 : decode cX5_setOf 10 = .ok (.iaload, 1) := by decide +kernel
theorem dX5_setOf_11 : decode cX5_setOf 11 = .ok (.if_icmp .ge 42, 3) := by decide +kernel
theorem dX5_setOf_14 : decode cX5_setOf 14 = .ok (.iload_n 2, 1) := by decide +kernel
theorem dX5_setOf_15 : decode cX5_setOf 15 = .ok (.iload_n 1, 1) := by decide +kernel
theorem dX5_setOf_16 : decode cX5_setOf 16 = .ok (.ifCond .eq 14, 3) := by decide +kernel
theorem dX5_setOf_19 : decode cX5_setOf 19 = .ok (.aload_n 0, 1) := by decide +kernel
theorem dX5_setOf_20 : decode cX5_setOf 20 = .ok (.iload_n 3, 1) := by decide +kernel
theorem dX5_setOf_21 : decode cX5_setOf 21 = .ok (.invokevirtual 80, 3) := by decide +kernel
theorem dX5_setOf_24 : decode cX5_setOf 24 = .ok (.ifCond .eq 20, 3) := by decide +kernel
theorem dX5_setOf_27 : decode cX5_setOf 27 = .ok (.goto 11, 3) := by decide +kernel
theorem dX5_setOf_30 : decode cX5_setOf 30 = .ok (.aload_n 0, 1) := by decide +kernel
theorem dX5_setOf_31 : decode cX5_setOf 31 = .ok (.iload_n 3, 1) := by decide +kernel
theorem dX5_setOf_32 : decode cX5_setOf 32 = .ok (.invokevirtual 87, 3) := by decide +kernel
theorem dX5_setOf_35 : decode cX5_setOf 35 = .ok (.ifCond .eq 9, 3) := by decide +kernel
theorem dX5_setOf_38 : decode cX5_setOf 38 = .ok (.iconst 1, 1) := by decide +kernel
theorem dX5_setOf_39 : decode cX5_setOf 39 = .ok (.iload_n 3, 1) := by decide +kernel
theorem dX5_setOf_40 : decode cX5_setOf 40 = .ok (.ishl, 1) := by decide +kernel
theorem dX5_setOf_41 : decode cX5_setOf 41 = .ok (.goto 4, 3) := by decide +kernel
theorem dX5_setOf_44 : decode cX5_setOf 44 = .ok (.iconst 0, 1) := by decide +kernel
theorem dX5_setOf_45 : decode cX5_setOf 45 = .ok (.ior, 1) := by decide +kernel
theorem dX5_setOf_46 : decode cX5_setOf 46 = .ok (.istore_n 2, 1) := by decide +kernel
theorem dX5_setOf_47 : decode cX5_setOf 47 = .ok (.iinc 3 1, 3) := by decide +kernel
theorem dX5_setOf_50 : decode cX5_setOf 50 = .ok (.goto (-46), 3) := by decide +kernel
theorem dX5_setOf_53 : decode cX5_setOf 53 = .ok (.iload_n 2, 1) := by decide +kernel
theorem dX5_setOf_54 : decode cX5_setOf 54 = .ok (.ireturn, 1) := by decide +kernel
def j5_setOf_45 (k4 : (Nat → Int32) → Int32 → Int32 → Int32 → Option (Int32)) (xs : Nat → Int32) (v1 : Int32) (v3 : Int32) (t0 : Int32) (t1 : Int32) : Option (Int32) :=
  k4 xs v1 (t0 ||| t1) (v3 + (1 : Int32))
def j5_setOf_44 (k4 : (Nat → Int32) → Int32 → Int32 → Int32 → Option (Int32)) (xs : Nat → Int32) (v1 : Int32) (v3 : Int32) (t0 : Int32) : Option (Int32) :=
  j5_setOf_45 k4 xs v1 v3 t0 (0 : Int32)
def j5_setOf_38 (k4 : (Nat → Int32) → Int32 → Int32 → Int32 → Option (Int32)) (xs : Nat → Int32) (v1 : Int32) (v3 : Int32) (t0 : Int32) : Option (Int32) :=
  j5_setOf_45 k4 xs v1 v3 t0 ((1 : Int32) <<< (v3 &&& 31))
def l5_setOf_4  : Nat → (Nat → Int32) → Int32 → Int32 → Int32 → Option (Int32)
  | 0, _, _, _, _ => none
  | n + 1, xs, v1, v2, v3 =>
    if (xs 1) ≤ v3 then (
      some v2)
    else (
      if v1 = (0 : Int32) then (
        ob1 (f5_isDue xs v3) (fun r3 =>
        if r3 = (0 : Int32) then (
          j5_setOf_44 (l5_setOf_4 n) xs v1 v3 v2)
        else (
          j5_setOf_38 (l5_setOf_4 n) xs v1 v3 v2)))
      else (
        ob1 (f5_standsNow xs v3) (fun r6 =>
        if r6 = (0 : Int32) then (
          j5_setOf_44 (l5_setOf_4 n) xs v1 v3 v2)
        else (
          j5_setOf_38 (l5_setOf_4 n) xs v1 v3 v2))))
def f5_setOf (xs : Nat → Int32) (v1 : Int32) : Option (Int32) :=
  l5_setOf_4 1000 xs v1 (0 : Int32) (0 : Int32)
set_option maxHeartbeats 4000000 in
set_option maxRecDepth 100000 in
theorem b5_setOf_45 {X : XP} {p : Program} {l : Launch} {e : Env} {s : State} {m : MethodId} {args : Array Value} {below : List Frame} {meth : Method} {c : Code} {D : va_G} {cI cC : ClassId} {ad : Nat → Nat} {A : Nat → Prop} {xs : Nat → Int32} {xkept : Nat → Int32} {xaside : Nat → Int32} {xisK : Int32} {xfound : Nat → Int32} {xgone : Int32} {xover : Nat → Int32} {xtape : Nat → Int32} {xtaped : Int32} {xtok : Int32} {xbeg : Int32} {xend : Int32} {xval : Int64} {xwid : Nat → Int32} {xsiz : Nat → Int32} {xcel : Nat → Int32} {xcar : Nat → Int32} {r0 : Int32} (C0 : CX X p s m args meth c cX5_setOf 4 (some .int) RX5 A) {k4 : (Nat → Int32) → Int32 → Int32 → Int32 → Option (Int32)} (hk4 : ∀ {v1 : Int32} {v2 : Int32} {v3 : Int32} {H : Heap} {locs : List Loc} {ls : Array Slot}, GX X D (tyM cI cC) A s (wM cI cC ad xs xkept xaside xisK xfound xgone xover xtape xtaped xtok xbeg xend xval xwid xsiz xcel xcar) H locs → lv_has ls 4 [(0, .ref (ad 0)), (1, .int v1), (2, .int v2), (3, .int v3)] → k4 xs v1 v2 v3 = some r0 → W p l e ({ frames := 4, cells := 0, slots := 0, locals := 96 }) s m args below meth c H locs 0 0 (MQ below (QcI D (tyM cI cC) (wM cI cC ad xs xkept xaside xisK xfound xgone xover xtape xtaped xtok xbeg xend xval xwid xsiz xcel xcar) A r0) args s 0 0 A) (F0 m 4 ls [])) : ∀ {v1 : Int32} {v3 : Int32} {t0 : Int32} {t1 : Int32} {H : Heap} {locs : List Loc} {ls : Array Slot}, GX X D (tyM cI cC) A s (wM cI cC ad xs xkept xaside xisK xfound xgone xover xtape xtaped xtok xbeg xend xval xwid xsiz xcel xcar) H locs → lv_has ls 4 [(0, .ref (ad 0)), (1, .int v1), (3, .int v3)] → j5_setOf_45 k4 xs v1 v3 t0 t1 = some r0 → W p l e ({ frames := 4, cells := 0, slots := 0, locals := 96 }) s m args below meth c H locs 0 0 (MQ below (QcI D (tyM cI cC) (wM cI cC ad xs xkept xaside xisK xfound xgone xover xtape xtaped xtok xbeg xend xval xwid xsiz xcel xcar) A r0) args s 0 0 A) (F0 m 45 ls [.int t1, .int t0]) := by
  have hx := C0.1
  have hb := C0.2.1
  have hown := C0.2.2.2.2.1
  have hts := C0.2.2.2.2.2.1
  have hX := C0.2.2.2.2.2.2.2.2
  intro v1 v3 t0 t1 H locs ls G hl hf
  unfold j5_setOf_45 at hf
  refine lv_ior hx hb dX5_setOf_45 ?_
  refine lv_istore_n (lv' := [(2, .int (t0 ||| t1)), (0, .ref (ad 0)), (1, .int v1), (3, .int v3)]) hx hb dX5_setOf_46 rfl hl (by decide) rfl (fun ls hl => ?_)
  refine lv_iinc (v := (v3 + (1 : Int32))) (lv' := [(3, .int (v3 + (1 : Int32))), (2, .int (t0 ||| t1)), (0, .ref (ad 0)), (1, .int v1)]) hx hb dX5_setOf_47 hl (k := 3) rfl rfl (by decide) rfl (fun ls hl => ?_)
  refine lv_goto (tgt := 4) hx hb dX5_setOf_50 (by decide) ?_
  exact hk4 G (lv_sub hl [2, 3, 1, 0] rfl) hf
set_option maxHeartbeats 4000000 in
set_option maxRecDepth 100000 in
theorem b5_setOf_44 {X : XP} {p : Program} {l : Launch} {e : Env} {s : State} {m : MethodId} {args : Array Value} {below : List Frame} {meth : Method} {c : Code} {D : va_G} {cI cC : ClassId} {ad : Nat → Nat} {A : Nat → Prop} {xs : Nat → Int32} {xkept : Nat → Int32} {xaside : Nat → Int32} {xisK : Int32} {xfound : Nat → Int32} {xgone : Int32} {xover : Nat → Int32} {xtape : Nat → Int32} {xtaped : Int32} {xtok : Int32} {xbeg : Int32} {xend : Int32} {xval : Int64} {xwid : Nat → Int32} {xsiz : Nat → Int32} {xcel : Nat → Int32} {xcar : Nat → Int32} {r0 : Int32} (C0 : CX X p s m args meth c cX5_setOf 4 (some .int) RX5 A) {k4 : (Nat → Int32) → Int32 → Int32 → Int32 → Option (Int32)} (hk4 : ∀ {v1 : Int32} {v2 : Int32} {v3 : Int32} {H : Heap} {locs : List Loc} {ls : Array Slot}, GX X D (tyM cI cC) A s (wM cI cC ad xs xkept xaside xisK xfound xgone xover xtape xtaped xtok xbeg xend xval xwid xsiz xcel xcar) H locs → lv_has ls 4 [(0, .ref (ad 0)), (1, .int v1), (2, .int v2), (3, .int v3)] → k4 xs v1 v2 v3 = some r0 → W p l e ({ frames := 4, cells := 0, slots := 0, locals := 96 }) s m args below meth c H locs 0 0 (MQ below (QcI D (tyM cI cC) (wM cI cC ad xs xkept xaside xisK xfound xgone xover xtape xtaped xtok xbeg xend xval xwid xsiz xcel xcar) A r0) args s 0 0 A) (F0 m 4 ls [])) : ∀ {v1 : Int32} {v3 : Int32} {t0 : Int32} {H : Heap} {locs : List Loc} {ls : Array Slot}, GX X D (tyM cI cC) A s (wM cI cC ad xs xkept xaside xisK xfound xgone xover xtape xtaped xtok xbeg xend xval xwid xsiz xcel xcar) H locs → lv_has ls 4 [(0, .ref (ad 0)), (1, .int v1), (3, .int v3)] → j5_setOf_44 k4 xs v1 v3 t0 = some r0 → W p l e ({ frames := 4, cells := 0, slots := 0, locals := 96 }) s m args below meth c H locs 0 0 (MQ below (QcI D (tyM cI cC) (wM cI cC ad xs xkept xaside xisK xfound xgone xover xtape xtaped xtok xbeg xend xval xwid xsiz xcel xcar) A r0) args s 0 0 A) (F0 m 44 ls [.int t0]) := by
  have hx := C0.1
  have hb := C0.2.1
  have hown := C0.2.2.2.2.1
  have hts := C0.2.2.2.2.2.1
  have hX := C0.2.2.2.2.2.2.2.2
  intro v1 v3 t0 H locs ls G hl hf
  unfold j5_setOf_44 at hf
  refine lv_iconst (v := (0 : Int32)) hx hb dX5_setOf_44 (by decide) ?_
  exact b5_setOf_45 C0 hk4 G (lv_sub hl [0, 1, 2] rfl) hf
set_option maxHeartbeats 4000000 in
set_option maxRecDepth 100000 in
theorem b5_setOf_38 {X : XP} {p : Program} {l : Launch} {e : Env} {s : State} {m : MethodId} {args : Array Value} {below : List Frame} {meth : Method} {c : Code} {D : va_G} {cI cC : ClassId} {ad : Nat → Nat} {A : Nat → Prop} {xs : Nat → Int32} {xkept : Nat → Int32} {xaside : Nat → Int32} {xisK : Int32} {xfound : Nat → Int32} {xgone : Int32} {xover : Nat → Int32} {xtape : Nat → Int32} {xtaped : Int32} {xtok : Int32} {xbeg : Int32} {xend : Int32} {xval : Int64} {xwid : Nat → Int32} {xsiz : Nat → Int32} {xcel : Nat → Int32} {xcar : Nat → Int32} {r0 : Int32} (C0 : CX X p s m args meth c cX5_setOf 4 (some .int) RX5 A) {k4 : (Nat → Int32) → Int32 → Int32 → Int32 → Option (Int32)} (hk4 : ∀ {v1 : Int32} {v2 : Int32} {v3 : Int32} {H : Heap} {locs : List Loc} {ls : Array Slot}, GX X D (tyM cI cC) A s (wM cI cC ad xs xkept xaside xisK xfound xgone xover xtape xtaped xtok xbeg xend xval xwid xsiz xcel xcar) H locs → lv_has ls 4 [(0, .ref (ad 0)), (1, .int v1), (2, .int v2), (3, .int v3)] → k4 xs v1 v2 v3 = some r0 → W p l e ({ frames := 4, cells := 0, slots := 0, locals := 96 }) s m args below meth c H locs 0 0 (MQ below (QcI D (tyM cI cC) (wM cI cC ad xs xkept xaside xisK xfound xgone xover xtape xtaped xtok xbeg xend xval xwid xsiz xcel xcar) A r0) args s 0 0 A) (F0 m 4 ls [])) : ∀ {v1 : Int32} {v3 : Int32} {t0 : Int32} {H : Heap} {locs : List Loc} {ls : Array Slot}, GX X D (tyM cI cC) A s (wM cI cC ad xs xkept xaside xisK xfound xgone xover xtape xtaped xtok xbeg xend xval xwid xsiz xcel xcar) H locs → lv_has ls 4 [(0, .ref (ad 0)), (1, .int v1), (3, .int v3)] → j5_setOf_38 k4 xs v1 v3 t0 = some r0 → W p l e ({ frames := 4, cells := 0, slots := 0, locals := 96 }) s m args below meth c H locs 0 0 (MQ below (QcI D (tyM cI cC) (wM cI cC ad xs xkept xaside xisK xfound xgone xover xtape xtaped xtok xbeg xend xval xwid xsiz xcel xcar) A r0) args s 0 0 A) (F0 m 38 ls [.int t0]) := by
  have hx := C0.1
  have hb := C0.2.1
  have hown := C0.2.2.2.2.1
  have hts := C0.2.2.2.2.2.1
  have hX := C0.2.2.2.2.2.2.2.2
  intro v1 v3 t0 H locs ls G hl hf
  unfold j5_setOf_38 at hf
  refine lv_iconst (v := (1 : Int32)) hx hb dX5_setOf_38 (by decide) ?_
  refine lv_iload_n hx hb dX5_setOf_39 rfl (lv_at hl 2 rfl) ?_
  refine lv_ishl hx hb dX5_setOf_40 ?_
  refine lv_goto (tgt := 45) hx hb dX5_setOf_41 (by decide) ?_
  exact b5_setOf_45 C0 hk4 G (lv_sub hl [0, 1, 2] rfl) hf
set_option maxHeartbeats 4000000 in
set_option maxRecDepth 100000 in
theorem b5_setOf_4 {X : XP} {p : Program} {l : Launch} {e : Env} {s : State} {m : MethodId} {args : Array Value} {below : List Frame} {meth : Method} {c : Code} {D : va_G} {cI cC : ClassId} {ad : Nat → Nat} {A : Nat → Prop} {xs : Nat → Int32} {xkept : Nat → Int32} {xaside : Nat → Int32} {xisK : Int32} {xfound : Nat → Int32} {xgone : Int32} {xover : Nat → Int32} {xtape : Nat → Int32} {xtaped : Int32} {xtok : Int32} {xbeg : Int32} {xend : Int32} {xval : Int64} {xwid : Nat → Int32} {xsiz : Nat → Int32} {xcel : Nat → Int32} {xcar : Nat → Int32} {r0 : Int32} (C0 : CX X p s m args meth c cX5_setOf 4 (some .int) RX5 A) : ∀ (n : Nat) {v1 : Int32} {v2 : Int32} {v3 : Int32} {H : Heap} {locs : List Loc} {ls : Array Slot}, GX X D (tyM cI cC) A s (wM cI cC ad xs xkept xaside xisK xfound xgone xover xtape xtaped xtok xbeg xend xval xwid xsiz xcel xcar) H locs → lv_has ls 4 [(0, .ref (ad 0)), (1, .int v1), (2, .int v2), (3, .int v3)] → l5_setOf_4  n xs v1 v2 v3 = some r0 → W p l e ({ frames := 4, cells := 0, slots := 0, locals := 96 }) s m args below meth c H locs 0 0 (MQ below (QcI D (tyM cI cC) (wM cI cC ad xs xkept xaside xisK xfound xgone xover xtape xtaped xtok xbeg xend xval xwid xsiz xcel xcar) A r0) args s 0 0 A) (F0 m 4 ls []) := by
  have hx := C0.1
  have hb := C0.2.1
  have hown := C0.2.2.2.2.1
  have hts := C0.2.2.2.2.2.1
  have hX := C0.2.2.2.2.2.2.2.2
  intro n
  induction n with
  | zero =>
    intro _ _ _ _ _ _ G hl hf
    cases hf
  | succ n ih =>
    intro v1 v2 v3 H locs ls G hl hf
    rw [l5_setOf_4] at hf
    refine lv_iload_n hx hb dX5_setOf_4 rfl (lv_at hl 3 rfl) ?_
    refine lv_aload_n hx hb dX5_setOf_5 rfl (lv_at hl 0 rfl) ?_
    refine s_get (C := RX5) (T := TX5) C0 G i_X5 0 0 rfl rfl (by decide) q713 rfl dX5_setOf_6 ?_
    refine lv_iconst (v := (1 : Int32)) hx hb dX5_setOf_9 (by decide) ?_
    refine s_iald (k := 1) C0 G 1 0 rfl rfl (vin (by decide)) (by decide) dX5_setOf_10 ?_
    refine lv_icmp_ge (tgt := 53) hx hb dX5_setOf_11 (by decide) (fun hc1 => ?_) (fun hc1 => ?_)
    · have hf := itp hc1 hf
      refine lv_iload_n hx hb dX5_setOf_53 rfl (lv_at hl 2 rfl) ?_
      obtain rfl := inj1 hf
      exact ret_i C0 G dX5_setOf_54
    · have hf := itn hc1 hf
      refine lv_iload_n hx hb dX5_setOf_14 rfl (lv_at hl 2 rfl) ?_
      refine lv_iload_n hx hb dX5_setOf_15 rfl (lv_at hl 1 rfl) ?_
      refine lv_if_eq (tgt := 30) hx hb dX5_setOf_16 (by decide) (fun hc2 => ?_) (fun hc2 => ?_)
      · have hf := itp hc2 hf
        refine lv_aload_n hx hb dX5_setOf_30 rfl (lv_at hl 0 rfl) ?_
        refine lv_iload_n hx hb dX5_setOf_31 rfl (lv_at hl 3 rfl) ?_
        obtain ⟨r3, hc4, hf⟩ := ob1_s hf
        refine go_i C0 G (runV_of (n := 1) (q0 := 0) (As := [.int v3]) (rest := [.int v2]) C0 G (c5_isDue hX hc4) q879 q54 q876 q878 q22 o5_isDue ⟨rfl, rfl⟩ ⟨Nat.le_of_ble_eq_true rfl, Nat.le_of_ble_eq_true rfl⟩ rfl rfl rfl hl.1 rfl (Nat.le_of_ble_eq_true rfl) dX5_setOf_32) (fun H locs G => ?_)
        refine lv_if_eq (tgt := 44) hx hb dX5_setOf_35 (by decide) (fun hc5 => ?_) (fun hc5 => ?_)
        · have hf := itp hc5 hf
          exact b5_setOf_44 C0 ih G (lv_sub hl [0, 1, 3] rfl) hf
        · have hf := itn hc5 hf
          exact b5_setOf_38 C0 ih G (lv_sub hl [0, 1, 3] rfl) hf
      · have hf := itn hc2 hf
        refine lv_aload_n hx hb dX5_setOf_19 rfl (lv_at hl 0 rfl) ?_
        refine lv_iload_n hx hb dX5_setOf_20 rfl (lv_at hl 3 rfl) ?_
        obtain ⟨r6, hc7, hf⟩ := ob1_s hf
        refine go_i C0 G (runV_of (n := 1) (q0 := 0) (As := [.int v3]) (rest := [.int v2]) C0 G (c5_standsNow hX hc7) q840 q54 q837 q839 q17 o5_standsNow ⟨rfl, rfl⟩ ⟨Nat.le_of_ble_eq_true rfl, Nat.le_of_ble_eq_true rfl⟩ rfl rfl rfl hl.1 rfl (Nat.le_of_ble_eq_true rfl) dX5_setOf_21) (fun H locs G => ?_)
        refine lv_if_eq (tgt := 44) hx hb dX5_setOf_24 (by decide) (fun hc8 => ?_) (fun hc8 => ?_)
        · have hf := itp hc8 hf
          exact b5_setOf_44 C0 ih G (lv_sub hl [0, 1, 3] rfl) hf
        · have hf := itn hc8 hf
          refine lv_goto (tgt := 38) hx hb dX5_setOf_27 (by decide) ?_
          exact b5_setOf_38 C0 ih G (lv_sub hl [0, 1, 3] rfl) hf
set_option maxHeartbeats 4000000 in
set_option maxRecDepth 100000 in
theorem b5_setOf_0 {X : XP} {p : Program} {l : Launch} {e : Env} {s : State} {m : MethodId} {args : Array Value} {below : List Frame} {meth : Method} {c : Code} {D : va_G} {cI cC : ClassId} {ad : Nat → Nat} {A : Nat → Prop} {xs : Nat → Int32} {xkept : Nat → Int32} {xaside : Nat → Int32} {xisK : Int32} {xfound : Nat → Int32} {xgone : Int32} {xover : Nat → Int32} {xtape : Nat → Int32} {xtaped : Int32} {xtok : Int32} {xbeg : Int32} {xend : Int32} {xval : Int64} {xwid : Nat → Int32} {xsiz : Nat → Int32} {xcel : Nat → Int32} {xcar : Nat → Int32} {r0 : Int32} (C0 : CX X p s m args meth c cX5_setOf 4 (some .int) RX5 A) : ∀ {v1 : Int32} {H : Heap} {locs : List Loc} {ls : Array Slot}, GX X D (tyM cI cC) A s (wM cI cC ad xs xkept xaside xisK xfound xgone xover xtape xtaped xtok xbeg xend xval xwid xsiz xcel xcar) H locs → lv_has ls 4 [(0, .ref (ad 0)), (1, .int v1)] → f5_setOf xs v1 = some r0 → W p l e ({ frames := 4, cells := 0, slots := 0, locals := 96 }) s m args below meth c H locs 0 0 (MQ below (QcI D (tyM cI cC) (wM cI cC ad xs xkept xaside xisK xfound xgone xover xtape xtaped xtok xbeg xend xval xwid xsiz xcel xcar) A r0) args s 0 0 A) (F0 m 0 ls []) := by
  have hx := C0.1
  have hb := C0.2.1
  have hown := C0.2.2.2.2.1
  have hts := C0.2.2.2.2.2.1
  have hX := C0.2.2.2.2.2.2.2.2
  intro v1 H locs ls G hl hf
  unfold f5_setOf at hf
  refine lv_iconst (v := (0 : Int32)) hx hb dX5_setOf_0 (by decide) ?_
  refine lv_istore_n (lv' := [(2, .int (0 : Int32)), (0, .ref (ad 0)), (1, .int v1)]) hx hb dX5_setOf_1 rfl hl (by decide) rfl (fun ls hl => ?_)
  refine lv_iconst (v := (0 : Int32)) hx hb dX5_setOf_2 (by decide) ?_
  refine lv_istore_n (lv' := [(3, .int (0 : Int32)), (2, .int (0 : Int32)), (0, .ref (ad 0)), (1, .int v1)]) hx hb dX5_setOf_3 rfl hl (by decide) rfl (fun ls hl => ?_)
  exact b5_setOf_4 C0  1000 G (lv_sub hl [2, 3, 1, 0] rfl) hf
theorem o5_setOf : okName yX5_setOf 1 := ⟨by decide, by decide, by decide +kernel⟩
set_option maxHeartbeats 4000000 in
set_option maxRecDepth 100000 in
theorem c5_setOf {X : XP} (hX : XT X) {l : Launch} {D : va_G} {cI cC : ClassId} {ad : Nat → Nat} {sz : Nat} {xs : Nat → Int32} {xkept : Nat → Int32} {xaside : Nat → Int32} {xisK : Int32} {xfound : Nat → Int32} {xgone : Int32} {xover : Nat → Int32} {xtape : Nat → Int32} {xtaped : Int32} {xtok : Int32} {xbeg : Int32} {xend : Int32} {xval : Int64} {xwid : Nat → Int32} {xsiz : Nat → Int32} {xcel : Nat → Int32} {xcar : Nat → Int32} {v1 : Int32} {r0 : Int32} (hf : f5_setOf xs v1 = some r0) : Met l yX5_setOf (wU yX5_setOf cX5_setOf 4 (some .int)) ({ frames := 4, cells := 0, slots := 0, locals := 96 }) (va_Pc [.ref (ad 0), .int v1] (PreW X D (tyM cI cC) (wM cI cC ad xs xkept xaside xisK xfound xgone xover xtape xtaped xtok xbeg xend xval xwid xsiz xcel xcar) sz)) (QcI D (tyM cI cC) (wM cI cC ad xs xkept xaside xisK xfound xgone xover xtape xtaped xtok xbeg xend xval xwid xsiz xcel xcar) (va_A (wM cI cC ad xs xkept xaside xisK xfound xgone xover xtape xtaped xtok xbeg xend xval xwid xsiz xcel xcar) sz) r0) 0 0 (va_A (wM cI cC ad xs xkept xaside xisK xfound xgone xover xtape xtaped xtok xbeg xend xval xwid xsiz xcel xcar) sz) := by
  refine startW hX (own := RX5) (by decide) rfl (Nat.le_of_ble_eq_true rfl) (fun p e s m args below meth c ls C0 G hl => ?_)
  exact b5_setOf_0 C0 G hl hf
/-! 5_highest -/
theorem dX5_highest_0 : decode cX5_highest 0 = .ok (.iconst 0, 1) := by decide +kernel
theorem dX5_highest_1 : decode cX5_highest 1 = .ok (.istore_n 1, 1) := by decide +kernel
theorem dX5_highest_2 : decode cX5_highest 2 = .ok (.iconst 1, 1) := by decide +kernel
theorem dX5_highest_3 : decode cX5_highest 3 = .ok (.istore_n 2, 1) := by decide +kernel
theorem dX5_highest_4 : decode cX5_highest 4 = .ok (.iload_n 2, 1) := by decide +kernel
theorem dX5_highest_5 : decode cX5_highest 5 = .ok (.bipush 16, 2) := by decide +kernel
theorem dX5_highest_7 : decode cX5_highest 7 = .ok (.if_icmp .ge 36, 3) := by decide +kernel
theorem dX5_highest_10 : decode cX5_highest 10 = .ok (.aload_n 0, 1) := by decide +kernel
theorem dX5_highest_11 : decode cX5_highest 11 = .ok (.getfield 9, 3) := by decide +kernel
theorem dX5_highest_14 : decode cX5_highest 14 = .ok (.bipush 6, 2) := by decide +kernel
theorem dX5_highest_16 : decode cX5_highest 16 = .ok (.iload_n 2, 1) := by decide +kernel
theorem dX5_highest_17 : decode cX5_highest 17 = .ok (.iadd, 1) := by decide +kernel
theorem dX5_highest_18 : decode cX5_highest 18 = .ok (.iaload, 1) := by decide +kernel
theorem dX5_highest_19 : decode cX5_highest 19 = .ok (.aload_n 0, 1) := by decide +kernel
theorem dX5_highest_20 : decode cX5_highest 20 = .ok (.getfield 9, 3) := by decide +kernel
theorem dX5_highest_23 : decode cX5_highest 23 = .ok (.bipush 6, 2) := by decide +kernel
theorem dX5_highest_25 : decode cX5_highest 25 = .ok (.iload_n 1, 1) := by decide +kernel
theorem dX5_highest_26 : decode cX5_highest 26 = .ok (.iadd, 1) := by decide +kernel
theorem dX5_highest_27 : decode cX5_highest 27 = .ok (.iaload, 1) := by decide +kernel
theorem dX5_highest_28 : decode cX5_highest 28 = .ok (.if_icmp .le 7, 3) := by decide +kernel
theorem dX5_highest_31 : decode cX5_highest 31 = .ok (.iload_n 2, 1) := by decide +kernel
theorem dX5_highest_32 : decode cX5_highest 32 = .ok (.goto 4, 3) := by decide +kernel
theorem dX5_highest_35 : decode cX5_highest 35 = .ok (.iload_n 1, 1) := by decide +kernel
theorem dX5_highest_36 : decode cX5_highest 36 = .ok (.istore_n 1, 1) := by decide +kernel
theorem dX5_highest_37 : decode cX5_highest 37 = .ok (.iinc 2 1, 3) := by decide +kernel
theorem dX5_highest_40 : decode cX5_highest 40 = .ok (.goto (-36), 3) := by decide +kernel
theorem dX5_highest_43 : decode cX5_highest 43 = .ok (.iload_n 1, 1) := by decide +kernel
theorem dX5_highest_44 : decode cX5_highest 44 = .ok (.ireturn, 1) := by decide +kernel
def j5_highest_36 (k4 : (Nat → Int32) → Int32 → Int32 → Option (Int32)) (xs : Nat → Int32) (v2 : Int32) (t0 : Int32) : Option (Int32) :=
  k4 xs t0 (v2 + (1 : Int32))
def l5_highest_4  : Nat → (Nat → Int32) → Int32 → Int32 → Option (Int32)
  | 0, _, _, _ => none
  | n + 1, xs, v1, v2 =>
    if (16 : Int32) ≤ v2 then (
      some v1)
    else (
      gd (inb ((6 : Int32) + v2) 88) (
      gd (inb ((6 : Int32) + v1) 88) (
      if (xs (((6 : Int32) + v2).toNatClampNeg)) ≤ (xs (((6 : Int32) + v1).toNatClampNeg)) then (
        j5_highest_36 (l5_highest_4 n) xs v2 v1)
      else (
        j5_highest_36 (l5_highest_4 n) xs v2 v2))))
def f5_highest (xs : Nat → Int32)  : Option (Int32) :=
  l5_highest_4 1000 xs (0 : Int32) (1 : Int32)
set_option maxHeartbeats 4000000 in
set_option maxRecDepth 100000 in
theorem b5_highest_36 {X : XP} {p : Program} {l : Launch} {e : Env} {s : State} {m : MethodId} {args : Array Value} {below : List Frame} {meth : Method} {c : Code} {D : va_G} {cI cC : ClassId} {ad : Nat → Nat} {A : Nat → Prop} {xs : Nat → Int32} {xkept : Nat → Int32} {xaside : Nat → Int32} {xisK : Int32} {xfound : Nat → Int32} {xgone : Int32} {xover : Nat → Int32} {xtape : Nat → Int32} {xtaped : Int32} {xtok : Int32} {xbeg : Int32} {xend : Int32} {xval : Int64} {xwid : Nat → Int32} {xsiz : Nat → Int32} {xcel : Nat → Int32} {xcar : Nat → Int32} {r0 : Int32} (C0 : CX X p s m args meth c cX5_highest 3 (some .int) RX5 A) {k4 : (Nat → Int32) → Int32 → Int32 → Option (Int32)} (hk4 : ∀ {v1 : Int32} {v2 : Int32} {H : Heap} {locs : List Loc} {ls : Array Slot}, GX X D (tyM cI cC) A s (wM cI cC ad xs xkept xaside xisK xfound xgone xover xtape xtaped xtok xbeg xend xval xwid xsiz xcel xcar) H locs → lv_has ls 3 [(0, .ref (ad 0)), (1, .int v1), (2, .int v2)] → k4 xs v1 v2 = some r0 → W p l e ({ frames := 0, cells := 0, slots := 0, locals := 0 }) s m args below meth c H locs 0 0 (MQ below (QcI D (tyM cI cC) (wM cI cC ad xs xkept xaside xisK xfound xgone xover xtape xtaped xtok xbeg xend xval xwid xsiz xcel xcar) A r0) args s 0 0 A) (F0 m 4 ls [])) : ∀ {v2 : Int32} {t0 : Int32} {H : Heap} {locs : List Loc} {ls : Array Slot}, GX X D (tyM cI cC) A s (wM cI cC ad xs xkept xaside xisK xfound xgone xover xtape xtaped xtok xbeg xend xval xwid xsiz xcel xcar) H locs → lv_has ls 3 [(0, .ref (ad 0)), (2, .int v2)] → j5_highest_36 k4 xs v2 t0 = some r0 → W p l e ({ frames := 0, cells := 0, slots := 0, locals := 0 }) s m args below meth c H locs 0 0 (MQ below (QcI D (tyM cI cC) (wM cI cC ad xs xkept xaside xisK xfound xgone xover xtape xtaped xtok xbeg xend xval xwid xsiz xcel xcar) A r0) args s 0 0 A) (F0 m 36 ls [.int t0]) := by
  have hx := C0.1
  have hb := C0.2.1
  have hown := C0.2.2.2.2.1
  have hts := C0.2.2.2.2.2.1
  have hX := C0.2.2.2.2.2.2.2.2
  intro v2 t0 H locs ls G hl hf
  unfold j5_highest_36 at hf
  refine lv_istore_n (lv' := [(1, .int t0), (0, .ref (ad 0)), (2, .int v2)]) hx hb dX5_highest_36 rfl hl (by decide) rfl (fun ls hl => ?_)
  refine lv_iinc (v := (v2 + (1 : Int32))) (lv' := [(2, .int (v2 + (1 : Int32))), (1, .int t0), (0, .ref (ad 0))]) hx hb dX5_highest_37 hl (k := 2) rfl rfl (by decide) rfl (fun ls hl => ?_)
  refine lv_goto (tgt := 4) hx hb dX5_highest_40 (by decide) ?_
  exact hk4 G (lv_sub hl [2, 1, 0] rfl) hf
set_option maxHeartbeats 4000000 in
set_option maxRecDepth 100000 in
theorem b5_highest_4 {X : XP} {p : Program} {l : Launch} {e : Env} {s : State} {m : MethodId} {args : Array Value} {below : List Frame} {meth : Method} {c : Code} {D : va_G} {cI cC : ClassId} {ad : Nat → Nat} {A : Nat → Prop} {xs : Nat → Int32} {xkept : Nat → Int32} {xaside : Nat → Int32} {xisK : Int32} {xfound : Nat → Int32} {xgone : Int32} {xover : Nat → Int32} {xtape : Nat → Int32} {xtaped : Int32} {xtok : Int32} {xbeg : Int32} {xend : Int32} {xval : Int64} {xwid : Nat → Int32} {xsiz : Nat → Int32} {xcel : Nat → Int32} {xcar : Nat → Int32} {r0 : Int32} (C0 : CX X p s m args meth c cX5_highest 3 (some .int) RX5 A) : ∀ (n : Nat) {v1 : Int32} {v2 : Int32} {H : Heap} {locs : List Loc} {ls : Array Slot}, GX X D (tyM cI cC) A s (wM cI cC ad xs xkept xaside xisK xfound xgone xover xtape xtaped xtok xbeg xend xval xwid xsiz xcel xcar) H locs → lv_has ls 3 [(0, .ref (ad 0)), (1, .int v1), (2, .int v2)] → l5_highest_4  n xs v1 v2 = some r0 → W p l e ({ frames := 0, cells := 0, slots := 0, locals := 0 }) s m args below meth c H locs 0 0 (MQ below (QcI D (tyM cI cC) (wM cI cC ad xs xkept xaside xisK xfound xgone xover xtape xtaped xtok xbeg xend xval xwid xsiz xcel xcar) A r0) args s 0 0 A) (F0 m 4 ls []) := by
  have hx := C0.1
  have hb := C0.2.1
  have hown := C0.2.2.2.2.1
  have hts := C0.2.2.2.2.2.1
  have hX := C0.2.2.2.2.2.2.2.2
  intro n
  induction n with
  | zero =>
    intro _ _ _ _ _ G hl hf
    cases hf
  | succ n ih =>
    intro v1 v2 H locs ls G hl hf
    rw [l5_highest_4] at hf
    refine lv_iload_n hx hb dX5_highest_4 rfl (lv_at hl 2 rfl) ?_
    refine lv_bipush (v := (16 : Int32)) hx hb dX5_highest_5 (by decide) ?_
    refine lv_icmp_ge (tgt := 43) hx hb dX5_highest_7 (by decide) (fun hc1 => ?_) (fun hc1 => ?_)
    · have hf := itp hc1 hf
      refine lv_iload_n hx hb dX5_highest_43 rfl (lv_at hl 1 rfl) ?_
      obtain rfl := inj1 hf
      exact ret_i C0 G dX5_highest_44
    · have hf := itn hc1 hf
      refine lv_aload_n hx hb dX5_highest_10 rfl (lv_at hl 0 rfl) ?_
      refine s_get (C := RX5) (T := TX5) C0 G i_X5 0 0 rfl rfl (by decide) q713 rfl dX5_highest_11 ?_
      refine lv_bipush (v := (6 : Int32)) hx hb dX5_highest_14 (by decide) ?_
      refine lv_iload_n hx hb dX5_highest_16 rfl (lv_at hl 2 rfl) ?_
      refine lv_iadd hx hb dX5_highest_17 ?_
      obtain ⟨hi2, hf⟩ := gd_s hf
      refine s_iald (k := ((6 : Int32) + v2).toNatClampNeg) C0 G 1 0 rfl rfl (vin hi2) rfl dX5_highest_18 ?_
      refine lv_aload_n hx hb dX5_highest_19 rfl (lv_at hl 0 rfl) ?_
      refine s_get (C := RX5) (T := TX5) C0 G i_X5 0 0 rfl rfl (by decide) q713 rfl dX5_highest_20 ?_
      refine lv_bipush (v := (6 : Int32)) hx hb dX5_highest_23 (by decide) ?_
      refine lv_iload_n hx hb dX5_highest_25 rfl (lv_at hl 1 rfl) ?_
      refine lv_iadd hx hb dX5_highest_26 ?_
      obtain ⟨hi3, hf⟩ := gd_s hf
      refine s_iald (k := ((6 : Int32) + v1).toNatClampNeg) C0 G 1 0 rfl rfl (vin hi3) rfl dX5_highest_27 ?_
      refine lv_icmp_le (tgt := 35) hx hb dX5_highest_28 (by decide) (fun hc4 => ?_) (fun hc4 => ?_)
      · have hf := itp hc4 hf
        refine lv_iload_n hx hb dX5_highest_35 rfl (lv_at hl 1 rfl) ?_
        exact b5_highest_36 C0 ih G (lv_sub hl [0, 2] rfl) hf
      · have hf := itn hc4 hf
        refine lv_iload_n hx hb dX5_highest_31 rfl (lv_at hl 2 rfl) ?_
        refine lv_goto (tgt := 36) hx hb dX5_highest_32 (by decide) ?_
        exact b5_highest_36 C0 ih G (lv_sub hl [0, 2] rfl) hf
set_option maxHeartbeats 4000000 in
set_option maxRecDepth 100000 in
theorem b5_highest_0 {X : XP} {p : Program} {l : Launch} {e : Env} {s : State} {m : MethodId} {args : Array Value} {below : List Frame} {meth : Method} {c : Code} {D : va_G} {cI cC : ClassId} {ad : Nat → Nat} {A : Nat → Prop} {xs : Nat → Int32} {xkept : Nat → Int32} {xaside : Nat → Int32} {xisK : Int32} {xfound : Nat → Int32} {xgone : Int32} {xover : Nat → Int32} {xtape : Nat → Int32} {xtaped : Int32} {xtok : Int32} {xbeg : Int32} {xend : Int32} {xval : Int64} {xwid : Nat → Int32} {xsiz : Nat → Int32} {xcel : Nat → Int32} {xcar : Nat → Int32} {r0 : Int32} (C0 : CX X p s m args meth c cX5_highest 3 (some .int) RX5 A) : ∀ {H : Heap} {locs : List Loc} {ls : Array Slot}, GX X D (tyM cI cC) A s (wM cI cC ad xs xkept xaside xisK xfound xgone xover xtape xtaped xtok xbeg xend xval xwid xsiz xcel xcar) H locs → lv_has ls 3 [(0, .ref (ad 0))] → f5_highest xs = some r0 → W p l e ({ frames := 0, cells := 0, slots := 0, locals := 0 }) s m args below meth c H locs 0 0 (MQ below (QcI D (tyM cI cC) (wM cI cC ad xs xkept xaside xisK xfound xgone xover xtape xtaped xtok xbeg xend xval xwid xsiz xcel xcar) A r0) args s 0 0 A) (F0 m 0 ls []) := by
  have hx := C0.1
  have hb := C0.2.1
  have hown := C0.2.2.2.2.1
  have hts := C0.2.2.2.2.2.1
  have hX := C0.2.2.2.2.2.2.2.2
  intro H locs ls G hl hf
  unfold f5_highest at hf
  refine lv_iconst (v := (0 : Int32)) hx hb dX5_highest_0 (by decide) ?_
  refine lv_istore_n (lv' := [(1, .int (0 : Int32)), (0, .ref (ad 0))]) hx hb dX5_highest_1 rfl hl (by decide) rfl (fun ls hl => ?_)
  refine lv_iconst (v := (1 : Int32)) hx hb dX5_highest_2 (by decide) ?_
  refine lv_istore_n (lv' := [(2, .int (1 : Int32)), (1, .int (0 : Int32)), (0, .ref (ad 0))]) hx hb dX5_highest_3 rfl hl (by decide) rfl (fun ls hl => ?_)
  exact b5_highest_4 C0  1000 G (lv_sub hl [2, 1, 0] rfl) hf
theorem o5_highest : okName yX5_highest 0 := ⟨by decide, by decide, by decide +kernel⟩
set_option maxHeartbeats 4000000 in
set_option maxRecDepth 100000 in
theorem c5_highest {X : XP} (hX : XT X) {l : Launch} {D : va_G} {cI cC : ClassId} {ad : Nat → Nat} {sz : Nat} {xs : Nat → Int32} {xkept : Nat → Int32} {xaside : Nat → Int32} {xisK : Int32} {xfound : Nat → Int32} {xgone : Int32} {xover : Nat → Int32} {xtape : Nat → Int32} {xtaped : Int32} {xtok : Int32} {xbeg : Int32} {xend : Int32} {xval : Int64} {xwid : Nat → Int32} {xsiz : Nat → Int32} {xcel : Nat → Int32} {xcar : Nat → Int32}  {r0 : Int32} (hf : f5_highest xs = some r0) : Met l yX5_highest (wU yX5_highest cX5_highest 3 (some .int)) ({ frames := 0, cells := 0, slots := 0, locals := 0 }) (va_Pc [.ref (ad 0)] (PreW X D (tyM cI cC) (wM cI cC ad xs xkept xaside xisK xfound xgone xover xtape xtaped xtok xbeg xend xval xwid xsiz xcel xcar) sz)) (QcI D (tyM cI cC) (wM cI cC ad xs xkept xaside xisK xfound xgone xover xtape xtaped xtok xbeg xend xval xwid xsiz xcel xcar) (va_A (wM cI cC ad xs xkept xaside xisK xfound xgone xover xtape xtaped xtok xbeg xend xval xwid xsiz xcel xcar) sz) r0) 0 0 (va_A (wM cI cC ad xs xkept xaside xisK xfound xgone xover xtape xtaped xtok xbeg xend xval xwid xsiz xcel xcar) sz) := by
  refine startW hX (own := RX5) (by decide) rfl (Nat.le_of_ble_eq_true rfl) (fun p e s m args below meth c ls C0 G hl => ?_)
  exact b5_highest_0 C0 G hl hf
/-! 5_builds -/
theorem dX5_builds_0 : decode cX5_builds 0 = .ok (.iconst 0, 1) := by decide +kernel
theorem dX5_builds_1 : decode cX5_builds 1 = .ok (.istore_n 1, 1) := by decide +kernel
theorem dX5_builds_2 : decode cX5_builds 2 = .ok (.iconst 0, 1) := by decide +kernel
theorem dX5_builds_3 : decode cX5_builds 3 = .ok (.istore_n 2, 1) := by decide +kernel
theorem dX5_builds_4 : decode cX5_builds 4 = .ok (.iload_n 2, 1) := by decide +kernel
theorem dX5_builds_5 : decode cX5_builds 5 = .ok (.aload_n 0, 1) := by decide +kernel
theorem dX5_builds_6 : decode cX5_builds 6 = .ok (.getfield 9, 3) := by decide +kernel
theorem dX5_builds_9 : decode cX5_builds 9 = .ok (.iconst 1, 1) := by decide +kernel
theorem dX5_builds_10 : decode cX5_builds 10 = .ok (.iaload, 1) := by decide +kernel
theorem dX5_builds_11 : decode cX5_builds 11 = .ok (.if_icmp .ge 19, 3) := by decide +kernel
theorem dX5_builds_14 : decode cX5_builds 14 = .ok (.iload_n 1, 1) := by decide +kernel
theorem dX5_builds_15 : decode cX5_builds 15 = .ok (.aload_n 0, 1) := by decide +kernel
theorem dX5_builds_16 : decode cX5_builds 16 = .ok (.iload_n 2, 1) := by decide +kernel
theorem dX5_builds_17 : decode cX5_builds 17 = .ok (.bipush 6, 2) := by decide +kernel
theorem dX5_builds_19 : decode cX5_builds 19 = .ok (.invokevirtual 55, 3) := by decide +kernel
theorem dX5_builds_22 : decode cX5_builds 22 = .ok (.iadd, 1) := by decide +kernel
theorem dX5_builds_23 : decode cX5_builds 23 = .ok (.istore_n 1, 1) := by decide +kernel
theorem dX5_builds_24 : decode cX5_builds 24 = .ok (.iinc 2 1, 3) := by decide +kernel
theorem dX5_builds_27 : decode cX5_builds 27 = .ok (.goto (-23), 3) := by decide +kernel
theorem dX5_builds_30 : decode cX5_builds 30 = .ok (.iload_n 1, 1) := by decide +kernel
theorem dX5_builds_31 : decode cX5_builds 31 = .ok (.ireturn, 1) := by decide +kernel
def l5_builds_4  : Nat → (Nat → Int32) → Int32 → Int32 → Option (Int32)
  | 0, _, _, _ => none
  | n + 1, xs, v1, v2 =>
    if (xs 1) ≤ v2 then (
      some v1)
    else (
      ob1 (f5_get xs v2 (6 : Int32)) (fun r2 =>
      (l5_builds_4 n) xs (v1 + r2) (v2 + (1 : Int32))))
def f5_builds (xs : Nat → Int32)  : Option (Int32) :=
  l5_builds_4 1000 xs (0 : Int32) (0 : Int32)
set_option maxHeartbeats 4000000 in
set_option maxRecDepth 100000 in
theorem b5_builds_4 {X : XP} {p : Program} {l : Launch} {e : Env} {s : State} {m : MethodId} {args : Array Value} {below : List Frame} {meth : Method} {c : Code} {D : va_G} {cI cC : ClassId} {ad : Nat → Nat} {A : Nat → Prop} {xs : Nat → Int32} {xkept : Nat → Int32} {xaside : Nat → Int32} {xisK : Int32} {xfound : Nat → Int32} {xgone : Int32} {xover : Nat → Int32} {xtape : Nat → Int32} {xtaped : Int32} {xtok : Int32} {xbeg : Int32} {xend : Int32} {xval : Int64} {xwid : Nat → Int32} {xsiz : Nat → Int32} {xcel : Nat → Int32} {xcar : Nat → Int32} {r0 : Int32} (C0 : CX X p s m args meth c cX5_builds 3 (some .int) RX5 A) : ∀ (n : Nat) {v1 : Int32} {v2 : Int32} {H : Heap} {locs : List Loc} {ls : Array Slot}, GX X D (tyM cI cC) A s (wM cI cC ad xs xkept xaside xisK xfound xgone xover xtape xtaped xtok xbeg xend xval xwid xsiz xcel xcar) H locs → lv_has ls 3 [(0, .ref (ad 0)), (1, .int v1), (2, .int v2)] → l5_builds_4  n xs v1 v2 = some r0 → W p l e ({ frames := 1, cells := 0, slots := 0, locals := 22 }) s m args below meth c H locs 0 0 (MQ below (QcI D (tyM cI cC) (wM cI cC ad xs xkept xaside xisK xfound xgone xover xtape xtaped xtok xbeg xend xval xwid xsiz xcel xcar) A r0) args s 0 0 A) (F0 m 4 ls []) := by
  have hx := C0.1
  have hb := C0.2.1
  have hown := C0.2.2.2.2.1
  have hts := C0.2.2.2.2.2.1
  have hX := C0.2.2.2.2.2.2.2.2
  intro n
  induction n with
  | zero =>
    intro _ _ _ _ _ G hl hf
    cases hf
  | succ n ih =>
    intro v1 v2 H locs ls G hl hf
    rw [l5_builds_4] at hf
    refine lv_iload_n hx hb dX5_builds_4 rfl (lv_at hl 2 rfl) ?_
    refine lv_aload_n hx hb dX5_builds_5 rfl (lv_at hl 0 rfl) ?_
    refine s_get (C := RX5) (T := TX5) C0 G i_X5 0 0 rfl rfl (by decide) q713 rfl dX5_builds_6 ?_
    refine lv_iconst (v := (1 : Int32)) hx hb dX5_builds_9 (by decide) ?_
    refine s_iald (k := 1) C0 G 1 0 rfl rfl (vin (by decide)) (by decide) dX5_builds_10 ?_
    refine lv_icmp_ge (tgt := 30) hx hb dX5_builds_11 (by decide) (fun hc1 => ?_) (fun hc1 => ?_)
    · have hf := itp hc1 hf
      refine lv_iload_n hx hb dX5_builds_30 rfl (lv_at hl 1 rfl) ?_
      obtain rfl := inj1 hf
      exact ret_i C0 G dX5_builds_31
    · have hf := itn hc1 hf
      refine lv_iload_n hx hb dX5_builds_14 rfl (lv_at hl 1 rfl) ?_
      refine lv_aload_n hx hb dX5_builds_15 rfl (lv_at hl 0 rfl) ?_
      refine lv_iload_n hx hb dX5_builds_16 rfl (lv_at hl 2 rfl) ?_
      refine lv_bipush (v := (6 : Int32)) hx hb dX5_builds_17 (by decide) ?_
      obtain ⟨r2, hc3, hf⟩ := ob1_s hf
      refine go_i C0 G (runV_of (n := 2) (q0 := 0) (As := [.int v2, .int (6 : Int32)]) (rest := [.int v1]) C0 G (c5_get hX hc3) q801 q54 q798 q800 q11 o5_get ⟨rfl, rfl⟩ ⟨Nat.le_of_ble_eq_true rfl, Nat.le_of_ble_eq_true rfl⟩ rfl rfl rfl hl.1 rfl (Nat.le_of_ble_eq_true rfl) dX5_builds_19) (fun H locs G => ?_)
      refine lv_iadd hx hb dX5_builds_22 ?_
      refine lv_istore_n (lv' := [(1, .int (v1 + r2)), (0, .ref (ad 0)), (2, .int v2)]) hx hb dX5_builds_23 rfl hl (by decide) rfl (fun ls hl => ?_)
      refine lv_iinc (v := (v2 + (1 : Int32))) (lv' := [(2, .int (v2 + (1 : Int32))), (1, .int (v1 + r2)), (0, .ref (ad 0))]) hx hb dX5_builds_24 hl (k := 2) rfl rfl (by decide) rfl (fun ls hl => ?_)
      refine lv_goto (tgt := 4) hx hb dX5_builds_27 (by decide) ?_
      exact ih G (lv_sub hl [2, 1, 0] rfl) hf
set_option maxHeartbeats 4000000 in
set_option maxRecDepth 100000 in
theorem b5_builds_0 {X : XP} {p : Program} {l : Launch} {e : Env} {s : State} {m : MethodId} {args : Array Value} {below : List Frame} {meth : Method} {c : Code} {D : va_G} {cI cC : ClassId} {ad : Nat → Nat} {A : Nat → Prop} {xs : Nat → Int32} {xkept : Nat → Int32} {xaside : Nat → Int32} {xisK : Int32} {xfound : Nat → Int32} {xgone : Int32} {xover : Nat → Int32} {xtape : Nat → Int32} {xtaped : Int32} {xtok : Int32} {xbeg : Int32} {xend : Int32} {xval : Int64} {xwid : Nat → Int32} {xsiz : Nat → Int32} {xcel : Nat → Int32} {xcar : Nat → Int32} {r0 : Int32} (C0 : CX X p s m args meth c cX5_builds 3 (some .int) RX5 A) : ∀ {H : Heap} {locs : List Loc} {ls : Array Slot}, GX X D (tyM cI cC) A s (wM cI cC ad xs xkept xaside xisK xfound xgone xover xtape xtaped xtok xbeg xend xval xwid xsiz xcel xcar) H locs → lv_has ls 3 [(0, .ref (ad 0))] → f5_builds xs = some r0 → W p l e ({ frames := 1, cells := 0, slots := 0, locals := 22 }) s m args below meth c H locs 0 0 (MQ below (QcI D (tyM cI cC) (wM cI cC ad xs xkept xaside xisK xfound xgone xover xtape xtaped xtok xbeg xend xval xwid xsiz xcel xcar) A r0) args s 0 0 A) (F0 m 0 ls []) := by
  have hx := C0.1
  have hb := C0.2.1
  have hown := C0.2.2.2.2.1
  have hts := C0.2.2.2.2.2.1
  have hX := C0.2.2.2.2.2.2.2.2
  intro H locs ls G hl hf
  unfold f5_builds at hf
  refine lv_iconst (v := (0 : Int32)) hx hb dX5_builds_0 (by decide) ?_
  refine lv_istore_n (lv' := [(1, .int (0 : Int32)), (0, .ref (ad 0))]) hx hb dX5_builds_1 rfl hl (by decide) rfl (fun ls hl => ?_)
  refine lv_iconst (v := (0 : Int32)) hx hb dX5_builds_2 (by decide) ?_
  refine lv_istore_n (lv' := [(2, .int (0 : Int32)), (1, .int (0 : Int32)), (0, .ref (ad 0))]) hx hb dX5_builds_3 rfl hl (by decide) rfl (fun ls hl => ?_)
  exact b5_builds_4 C0  1000 G (lv_sub hl [2, 1, 0] rfl) hf
theorem o5_builds : okName yX5_builds 0 := ⟨by decide, by decide, by decide +kernel⟩
set_option maxHeartbeats 4000000 in
set_option maxRecDepth 100000 in
theorem c5_builds {X : XP} (hX : XT X) {l : Launch} {D : va_G} {cI cC : ClassId} {ad : Nat → Nat} {sz : Nat} {xs : Nat → Int32} {xkept : Nat → Int32} {xaside : Nat → Int32} {xisK : Int32} {xfound : Nat → Int32} {xgone : Int32} {xover : Nat → Int32} {xtape : Nat → Int32} {xtaped : Int32} {xtok : Int32} {xbeg : Int32} {xend : Int32} {xval : Int64} {xwid : Nat → Int32} {xsiz : Nat → Int32} {xcel : Nat → Int32} {xcar : Nat → Int32}  {r0 : Int32} (hf : f5_builds xs = some r0) : Met l yX5_builds (wU yX5_builds cX5_builds 3 (some .int)) ({ frames := 1, cells := 0, slots := 0, locals := 22 }) (va_Pc [.ref (ad 0)] (PreW X D (tyM cI cC) (wM cI cC ad xs xkept xaside xisK xfound xgone xover xtape xtaped xtok xbeg xend xval xwid xsiz xcel xcar) sz)) (QcI D (tyM cI cC) (wM cI cC ad xs xkept xaside xisK xfound xgone xover xtape xtaped xtok xbeg xend xval xwid xsiz xcel xcar) (va_A (wM cI cC ad xs xkept xaside xisK xfound xgone xover xtape xtaped xtok xbeg xend xval xwid xsiz xcel xcar) sz) r0) 0 0 (va_A (wM cI cC ad xs xkept xaside xisK xfound xgone xover xtape xtaped xtok xbeg xend xval xwid xsiz xcel xcar) sz) := by
  refine startW hX (own := RX5) (by decide) rfl (Nat.le_of_ble_eq_true rfl) (fun p e s m args below meth c ls C0 G hl => ?_)
  exact b5_builds_0 C0 G hl hf
/-! 5_now -/
theorem dX5_now_0 : decode cX5_now 0 = .ok (.iload_n 1, 1) := by decide +kernel
theorem dX5_now_1 : decode cX5_now 1 = .ok (.tableswitch 93 0 7 #[47, 54, 59, 64, 71, 77, 82, 87], 47) := by decide +kernel
theorem dX5_now_48 : decode cX5_now 48 = .ok (.aload_n 0, 1) := by decide +kernel
theorem dX5_now_49 : decode cX5_now 49 = .ok (.getfield 9, 3) := by decide +kernel
theorem dX5_now_52 : decode cX5_now 52 = .ok (.iconst 0, 1) := by decide +kernel
theorem dX5_now_53 : decode cX5_now 53 = .ok (.iaload, 1) := by decide +kernel
theorem dX5_now_54 : decode cX5_now 54 = .ok (.ireturn, 1) := by decide +kernel
theorem dX5_now_55 : decode cX5_now 55 = .ok (.aload_n 0, 1) := by decide +kernel
theorem dX5_now_56 : decode cX5_now 56 = .ok (.invokevirtual 123, 3) := by decide +kernel
theorem dX5_now_59 : decode cX5_now 59 = .ok (.ireturn, 1) := by decide +kernel
theorem dX5_now_60 : decode cX5_now 60 = .ok (.aload_n 0, 1) := by decide +kernel
theorem dX5_now_61 : decode cX5_now 61 = .ok (.invokevirtual 127, 3) := by decide +kernel
theorem dX5_now_64 : decode cX5_now 64 = .ok (.ireturn, 1) := by decide +kernel
theorem dX5_now_65 : decode cX5_now 65 = .ok (.aload_n 0, 1) := by decide +kernel
theorem dX5_now_66 : decode cX5_now 66 = .ok (.getfield 9, 3) := by decide +kernel
theorem dX5_now_69 : decode cX5_now 69 = .ok (.iconst 3, 1) := by decide +kernel
theorem dX5_now_70 : decode cX5_now 70 = .ok (.iaload, 1) := by decide +kernel
theorem dX5_now_71 : decode cX5_now 71 = .ok (.ireturn, 1) := by decide +kernel
theorem dX5_now_72 : decode cX5_now 72 = .ok (.aload_n 0, 1) := by decide +kernel
theorem dX5_now_73 : decode cX5_now 73 = .ok (.iconst 1, 1) := by decide +kernel
theorem dX5_now_74 : decode cX5_now 74 = .ok (.invokevirtual 130, 3) := by decide +kernel
theorem dX5_now_77 : decode cX5_now 77 = .ok (.ireturn, 1) := by decide +kernel
theorem dX5_now_78 : decode cX5_now 78 = .ok (.aload_n 0, 1) := by decide +kernel
theorem dX5_now_79 : decode cX5_now 79 = .ok (.invokevirtual 134, 3) := by decide +kernel
theorem dX5_now_82 : decode cX5_now 82 = .ok (.ireturn, 1) := by decide +kernel
theorem dX5_now_83 : decode cX5_now 83 = .ok (.aload_n 0, 1) := by decide +kernel
theorem dX5_now_84 : decode cX5_now 84 = .ok (.invokevirtual 137, 3) := by decide +kernel
theorem dX5_now_87 : decode cX5_now 87 = .ok (.ireturn, 1) := by decide +kernel
theorem dX5_now_88 : decode cX5_now 88 = .ok (.aload_n 0, 1) := by decide +kernel
theorem dX5_now_89 : decode cX5_now 89 = .ok (.iconst 0, 1) := by decide +kernel
theorem dX5_now_90 : decode cX5_now 90 = .ok (.invokevirtual 130, 3) := by decide +kernel
theorem dX5_now_93 : decode cX5_now 93 = .ok (.ireturn, 1) := by decide +kernel
theorem dX5_now_94 : decode cX5_now 94 = .ok (.aload_n 0, 1) := by decide +kernel
theorem dX5_now_95 : decode cX5_now 95 = .ok (.iconst 0, 1) := by decide +kernel
theorem dX5_now_96 : decode cX5_now 96 = .ok (.invokevirtual 105, 3) := by decide +kernel
theorem dX5_now_99 : decode cX5_now 99 = .ok (.ireturn, 1) := by decide +kernel
def f5_now (xs : Nat → Int32) (xfound : Nat → Int32) (v1 : Int32) : Option (Int32 × (Nat → Int32)) :=
  if v1 = (0 : Int32) then (
    some ((xs 0), xfound))
  else
  if v1 = (1 : Int32) then (
    ob1 (f5_roadNow xs) (fun r3 =>
    some (r3, xfound)))
  else
  if v1 = (2 : Int32) then (
    ob1 (f5_sands xs) (fun r6 =>
    some (r6, xfound)))
  else
  if v1 = (3 : Int32) then (
    some ((xs 3), xfound))
  else
  if v1 = (4 : Int32) then (
    ob1 (f5_setOf xs (1 : Int32)) (fun r10 =>
    some (r10, xfound)))
  else
  if v1 = (5 : Int32) then (
    ob1 (f5_highest xs) (fun r13 =>
    some (r13, xfound)))
  else
  if v1 = (6 : Int32) then (
    ob1 (f5_builds xs) (fun r16 =>
    some (r16, xfound)))
  else
  if v1 = (7 : Int32) then (
    ob1 (f5_setOf xs (0 : Int32)) (fun r19 =>
    some (r19, xfound)))
  else
  ob2 (f5_no xfound (0 : Int32)) (fun r21 xfound_22 =>
  some (r21, xfound_22))
set_option maxHeartbeats 4000000 in
set_option maxRecDepth 100000 in
theorem b5_now_0 {X : XP} {p : Program} {l : Launch} {e : Env} {s : State} {m : MethodId} {args : Array Value} {below : List Frame} {meth : Method} {c : Code} {D : va_G} {cI cC : ClassId} {ad : Nat → Nat} {A : Nat → Prop} {xs : Nat → Int32} {xkept : Nat → Int32} {xaside : Nat → Int32} {xisK : Int32} {xgone : Int32} {xover : Nat → Int32} {xtape : Nat → Int32} {xtaped : Int32} {xtok : Int32} {xbeg : Int32} {xend : Int32} {xval : Int64} {xwid : Nat → Int32} {xsiz : Nat → Int32} {xcel : Nat → Int32} {xcar : Nat → Int32} {r0 : Int32} {o_xfound : Nat → Int32} (C0 : CX X p s m args meth c cX5_now 2 (some .int) RX5 A) : ∀ {xfound : Nat → Int32} {v1 : Int32} {H : Heap} {locs : List Loc} {ls : Array Slot}, GX X D (tyM cI cC) A s (wM cI cC ad xs xkept xaside xisK xfound xgone xover xtape xtaped xtok xbeg xend xval xwid xsiz xcel xcar) H locs → lv_has ls 2 [(0, .ref (ad 0)), (1, .int v1)] → f5_now xs xfound v1 = some (r0, o_xfound) → W p l e ({ frames := 5, cells := 0, slots := 0, locals := 119 }) s m args below meth c H locs 0 0 (MQ below (QcI D (tyM cI cC) (wM cI cC ad xs xkept xaside xisK o_xfound xgone xover xtape xtaped xtok xbeg xend xval xwid xsiz xcel xcar) A r0) args s 0 0 A) (F0 m 0 ls []) := by
  have hx := C0.1
  have hb := C0.2.1
  have hown := C0.2.2.2.2.1
  have hts := C0.2.2.2.2.2.1
  have hX := C0.2.2.2.2.2.2.2.2
  intro xfound v1 H locs ls G hl hf
  unfold f5_now at hf
  refine lv_iload_n hx hb dX5_now_0 rfl (lv_at hl 1 rfl) ?_
  by_cases hs1 : v1 = (0 : Int32)
  · have hf := itp hs1 hf
    refine lv_tableIn (tgt := 48) hx hb dX5_now_1 (by rw [hs1]; decide) (by rw [hs1]; decide) (by rw [hs1]; rfl) (by decide) ?_
    refine lv_aload_n hx hb dX5_now_48 rfl (lv_at hl 0 rfl) ?_
    refine s_get (C := RX5) (T := TX5) C0 G i_X5 0 0 rfl rfl (by decide) q713 rfl dX5_now_49 ?_
    refine lv_iconst (v := (0 : Int32)) hx hb dX5_now_52 (by decide) ?_
    refine s_iald (k := 0) C0 G 1 0 rfl rfl (vin (by decide)) (by decide) dX5_now_53 ?_
    obtain ⟨rfl, rfl⟩ := inj2 hf
    exact ret_i C0 G dX5_now_54
  have hf := itn hs1 hf
  by_cases hs2 : v1 = (1 : Int32)
  · have hf := itp hs2 hf
    refine lv_tableIn (tgt := 55) hx hb dX5_now_1 (by rw [hs2]; decide) (by rw [hs2]; decide) (by rw [hs2]; rfl) (by decide) ?_
    refine lv_aload_n hx hb dX5_now_55 rfl (lv_at hl 0 rfl) ?_
    obtain ⟨r3, hc4, hf⟩ := ob1_s hf
    refine go_i C0 G (runV_of (n := 0) (q0 := 0) (As := []) (rest := []) C0 G (c5_roadNow hX hc4) q887 q54 q884 q886 q24 o5_roadNow ⟨rfl, rfl⟩ ⟨Nat.le_of_ble_eq_true rfl, Nat.le_of_ble_eq_true rfl⟩ rfl rfl rfl hl.1 rfl (Nat.le_of_ble_eq_true rfl) dX5_now_56) (fun H locs G => ?_)
    obtain ⟨rfl, rfl⟩ := inj2 hf
    exact ret_i C0 G dX5_now_59
  have hf := itn hs2 hf
  by_cases hs5 : v1 = (2 : Int32)
  · have hf := itp hs5 hf
    refine lv_tableIn (tgt := 60) hx hb dX5_now_1 (by rw [hs5]; decide) (by rw [hs5]; decide) (by rw [hs5]; rfl) (by decide) ?_
    refine lv_aload_n hx hb dX5_now_60 rfl (lv_at hl 0 rfl) ?_
    obtain ⟨r6, hc7, hf⟩ := ob1_s hf
    refine go_i C0 G (runV_of (n := 0) (q0 := 0) (As := []) (rest := []) C0 G (c5_sands hX hc7) q895 q54 q892 q894 q25 o5_sands ⟨rfl, rfl⟩ ⟨Nat.le_of_ble_eq_true rfl, Nat.le_of_ble_eq_true rfl⟩ rfl rfl rfl hl.1 rfl (Nat.le_of_ble_eq_true rfl) dX5_now_61) (fun H locs G => ?_)
    obtain ⟨rfl, rfl⟩ := inj2 hf
    exact ret_i C0 G dX5_now_64
  have hf := itn hs5 hf
  by_cases hs8 : v1 = (3 : Int32)
  · have hf := itp hs8 hf
    refine lv_tableIn (tgt := 65) hx hb dX5_now_1 (by rw [hs8]; decide) (by rw [hs8]; decide) (by rw [hs8]; rfl) (by decide) ?_
    refine lv_aload_n hx hb dX5_now_65 rfl (lv_at hl 0 rfl) ?_
    refine s_get (C := RX5) (T := TX5) C0 G i_X5 0 0 rfl rfl (by decide) q713 rfl dX5_now_66 ?_
    refine lv_iconst (v := (3 : Int32)) hx hb dX5_now_69 (by decide) ?_
    refine s_iald (k := 3) C0 G 1 0 rfl rfl (vin (by decide)) (by decide) dX5_now_70 ?_
    obtain ⟨rfl, rfl⟩ := inj2 hf
    exact ret_i C0 G dX5_now_71
  have hf := itn hs8 hf
  by_cases hs9 : v1 = (4 : Int32)
  · have hf := itp hs9 hf
    refine lv_tableIn (tgt := 72) hx hb dX5_now_1 (by rw [hs9]; decide) (by rw [hs9]; decide) (by rw [hs9]; rfl) (by decide) ?_
    refine lv_aload_n hx hb dX5_now_72 rfl (lv_at hl 0 rfl) ?_
    refine lv_iconst (v := (1 : Int32)) hx hb dX5_now_73 (by decide) ?_
    obtain ⟨r10, hc11, hf⟩ := ob1_s hf
    refine go_i C0 G (runV_of (n := 1) (q0 := 0) (As := [.int (1 : Int32)]) (rest := []) C0 G (c5_setOf hX hc11) q899 q54 q896 q898 q26 o5_setOf ⟨rfl, rfl⟩ ⟨Nat.le_of_ble_eq_true rfl, Nat.le_of_ble_eq_true rfl⟩ rfl rfl rfl hl.1 rfl (Nat.le_of_ble_eq_true rfl) dX5_now_74) (fun H locs G => ?_)
    obtain ⟨rfl, rfl⟩ := inj2 hf
    exact ret_i C0 G dX5_now_77
  have hf := itn hs9 hf
  by_cases hs12 : v1 = (5 : Int32)
  · have hf := itp hs12 hf
    refine lv_tableIn (tgt := 78) hx hb dX5_now_1 (by rw [hs12]; decide) (by rw [hs12]; decide) (by rw [hs12]; rfl) (by decide) ?_
    refine lv_aload_n hx hb dX5_now_78 rfl (lv_at hl 0 rfl) ?_
    obtain ⟨r13, hc14, hf⟩ := ob1_s hf
    refine go_i C0 G (runV_of (n := 0) (q0 := 0) (As := []) (rest := []) C0 G (c5_highest hX hc14) q903 q54 q900 q902 q27 o5_highest ⟨rfl, rfl⟩ ⟨Nat.le_of_ble_eq_true rfl, Nat.le_of_ble_eq_true rfl⟩ rfl rfl rfl hl.1 rfl (Nat.le_of_ble_eq_true rfl) dX5_now_79) (fun H locs G => ?_)
    obtain ⟨rfl, rfl⟩ := inj2 hf
    exact ret_i C0 G dX5_now_82
  have hf := itn hs12 hf
  by_cases hs15 : v1 = (6 : Int32)
  · have hf := itp hs15 hf
    refine lv_tableIn (tgt := 83) hx hb dX5_now_1 (by rw [hs15]; decide) (by rw [hs15]; decide) (by rw [hs15]; rfl) (by decide) ?_
    refine lv_aload_n hx hb dX5_now_83 rfl (lv_at hl 0 rfl) ?_
    obtain ⟨r16, hc17, hf⟩ := ob1_s hf
    refine go_i C0 G (runV_of (n := 0) (q0 := 0) (As := []) (rest := []) C0 G (c5_builds hX hc17) q907 q54 q904 q906 q28 o5_builds ⟨rfl, rfl⟩ ⟨Nat.le_of_ble_eq_true rfl, Nat.le_of_ble_eq_true rfl⟩ rfl rfl rfl hl.1 rfl (Nat.le_of_ble_eq_true rfl) dX5_now_84) (fun H locs G => ?_)
    obtain ⟨rfl, rfl⟩ := inj2 hf
    exact ret_i C0 G dX5_now_87
  have hf := itn hs15 hf
  by_cases hs18 : v1 = (7 : Int32)
  · have hf := itp hs18 hf
    refine lv_tableIn (tgt := 88) hx hb dX5_now_1 (by rw [hs18]; decide) (by rw [hs18]; decide) (by rw [hs18]; rfl) (by decide) ?_
    refine lv_aload_n hx hb dX5_now_88 rfl (lv_at hl 0 rfl) ?_
    refine lv_iconst (v := (0 : Int32)) hx hb dX5_now_89 (by decide) ?_
    obtain ⟨r19, hc20, hf⟩ := ob1_s hf
    refine go_i C0 G (runV_of (n := 1) (q0 := 0) (As := [.int (0 : Int32)]) (rest := []) C0 G (c5_setOf hX hc20) q899 q54 q896 q898 q26 o5_setOf ⟨rfl, rfl⟩ ⟨Nat.le_of_ble_eq_true rfl, Nat.le_of_ble_eq_true rfl⟩ rfl rfl rfl hl.1 rfl (Nat.le_of_ble_eq_true rfl) dX5_now_90) (fun H locs G => ?_)
    obtain ⟨rfl, rfl⟩ := inj2 hf
    exact ret_i C0 G dX5_now_93
  have hf := itn hs18 hf
  refine lv_tableOut (tgt := 94) hx hb dX5_now_1 (by have := lv_neT (a := 0) hs1 (by decide); have := lv_neT (a := 1) hs2 (by decide); have := lv_neT (a := 2) hs5 (by decide); have := lv_neT (a := 3) hs8 (by decide); have := lv_neT (a := 4) hs9 (by decide); have := lv_neT (a := 5) hs12 (by decide); have := lv_neT (a := 6) hs15 (by decide); have := lv_neT (a := 7) hs18 (by decide); omega) (by decide) ?_
  refine lv_aload_n hx hb dX5_now_94 rfl (lv_at hl 0 rfl) ?_
  refine lv_iconst (v := (0 : Int32)) hx hb dX5_now_95 (by decide) ?_
  obtain ⟨r21, xfound_22, hc23, hf⟩ := ob2_s hf
  refine go_i C0 G (runV_of (n := 1) (q0 := 0) (As := [.int (0 : Int32)]) (rest := []) C0 G (c5_no hX hc23) q788 q54 q785 q787 q9 o5_no ⟨rfl, rfl⟩ ⟨Nat.le_of_ble_eq_true rfl, Nat.le_of_ble_eq_true rfl⟩ rfl rfl rfl hl.1 rfl (Nat.le_of_ble_eq_true rfl) dX5_now_96) (fun H locs G => ?_)
  obtain ⟨rfl, rfl⟩ := inj2 hf
  exact ret_i C0 G dX5_now_99
theorem o5_now : okName yX5_now 1 := ⟨by decide, by decide, by decide +kernel⟩
set_option maxHeartbeats 4000000 in
set_option maxRecDepth 100000 in
theorem c5_now {X : XP} (hX : XT X) {l : Launch} {D : va_G} {cI cC : ClassId} {ad : Nat → Nat} {sz : Nat} {xs : Nat → Int32} {xkept : Nat → Int32} {xaside : Nat → Int32} {xisK : Int32} {xfound : Nat → Int32} {xgone : Int32} {xover : Nat → Int32} {xtape : Nat → Int32} {xtaped : Int32} {xtok : Int32} {xbeg : Int32} {xend : Int32} {xval : Int64} {xwid : Nat → Int32} {xsiz : Nat → Int32} {xcel : Nat → Int32} {xcar : Nat → Int32} {v1 : Int32} {r0 : Int32} {o_xfound : Nat → Int32} (hf : f5_now xs xfound v1 = some (r0, o_xfound)) : Met l yX5_now (wU yX5_now cX5_now 2 (some .int)) ({ frames := 5, cells := 0, slots := 0, locals := 119 }) (va_Pc [.ref (ad 0), .int v1] (PreW X D (tyM cI cC) (wM cI cC ad xs xkept xaside xisK xfound xgone xover xtape xtaped xtok xbeg xend xval xwid xsiz xcel xcar) sz)) (QcI D (tyM cI cC) (wM cI cC ad xs xkept xaside xisK o_xfound xgone xover xtape xtaped xtok xbeg xend xval xwid xsiz xcel xcar) (va_A (wM cI cC ad xs xkept xaside xisK xfound xgone xover xtape xtaped xtok xbeg xend xval xwid xsiz xcel xcar) sz) r0) 0 0 (va_A (wM cI cC ad xs xkept xaside xisK xfound xgone xover xtape xtaped xtok xbeg xend xval xwid xsiz xcel xcar) sz) := by
  refine startW hX (own := RX5) (by decide) rfl (Nat.le_of_ble_eq_true rfl) (fun p e s m args below meth c ls C0 G hl => ?_)
  exact b5_now_0 C0 G hl hf
/-! 5_setsAside -/
theorem dX5_setsAside_0 : decode cX5_setsAside 0 = .ok (.iconst 0, 1) := by decide +kernel
theorem dX5_setsAside_1 : decode cX5_setsAside 1 = .ok (.istore_n 1, 1) := by decide +kernel
theorem dX5_setsAside_2 : decode cX5_setsAside 2 = .ok (.iload_n 1, 1) := by decide +kernel
theorem dX5_setsAside_3 : decode cX5_setsAside 3 = .ok (.bipush 88, 2) := by decide +kernel
theorem dX5_setsAside_5 : decode cX5_setsAside 5 = .ok (.if_icmp .ge 21, 3) := by decide +kernel
theorem dX5_setsAside_8 : decode cX5_setsAside 8 = .ok (.aload_n 0, 1) := by decide +kernel
theorem dX5_setsAside_9 : decode cX5_setsAside 9 = .ok (.getfield 16, 3) := by decide +kernel
theorem dX5_setsAside_12 : decode cX5_setsAside 12 = .ok (.iload_n 1, 1) := by decide +kernel
theorem dX5_setsAside_13 : decode cX5_setsAside 13 = .ok (.aload_n 0, 1) := by decide +kernel
theorem dX5_setsAside_14 : decode cX5_setsAside 14 = .ok (.getfield 9, 3) := by decide +kernel
theorem dX5_setsAside_17 : decode cX5_setsAside 17 = .ok (.iload_n 1, 1) := by decide +kernel
theorem dX5_setsAside_18 : decode cX5_setsAside 18 = .ok (.iaload, 1) := by decide +kernel
theorem dX5_setsAside_19 : decode cX5_setsAside 19 = .ok (.iastore, 1) := by decide +kernel
theorem dX5_setsAside_20 : decode cX5_setsAside 20 = .ok (.iinc 1 1, 3) := by decide +kernel
theorem dX5_setsAside_23 : decode cX5_setsAside 23 = .ok (.goto (-21), 3) := by decide +kernel
theorem dX5_setsAside_26 : decode cX5_setsAside 26 = .ok (.return_, 1) := by decide +kernel
def l5_setsAside_2  : Nat → (Nat → Int32) → (Nat → Int32) → Int32 → Option ((Nat → Int32))
  | 0, _, _, _ => none
  | n + 1, xs, xaside, v1 =>
    if (88 : Int32) ≤ v1 then (
      some xaside)
    else (
      gd (inb v1 88) (
      gd (inb v1 88) (
      (l5_setsAside_2 n) xs (upd xaside v1.toNatClampNeg (xs v1.toNatClampNeg)) (v1 + (1 : Int32)))))
def f5_setsAside (xs : Nat → Int32) (xaside : Nat → Int32)  : Option ((Nat → Int32)) :=
  l5_setsAside_2 1000 xs xaside (0 : Int32)
set_option maxHeartbeats 4000000 in
set_option maxRecDepth 100000 in
theorem b5_setsAside_2 {X : XP} {p : Program} {l : Launch} {e : Env} {s : State} {m : MethodId} {args : Array Value} {below : List Frame} {meth : Method} {c : Code} {D : va_G} {cI cC : ClassId} {ad : Nat → Nat} {A : Nat → Prop} {xs : Nat → Int32} {xkept : Nat → Int32} {xisK : Int32} {xfound : Nat → Int32} {xgone : Int32} {xover : Nat → Int32} {xtape : Nat → Int32} {xtaped : Int32} {xtok : Int32} {xbeg : Int32} {xend : Int32} {xval : Int64} {xwid : Nat → Int32} {xsiz : Nat → Int32} {xcel : Nat → Int32} {xcar : Nat → Int32} {o_xaside : Nat → Int32} (C0 : CX X p s m args meth c cX5_setsAside 2 none RX5 A) : ∀ (n : Nat) {xaside : Nat → Int32} {v1 : Int32} {H : Heap} {locs : List Loc} {ls : Array Slot}, GX X D (tyM cI cC) A s (wM cI cC ad xs xkept xaside xisK xfound xgone xover xtape xtaped xtok xbeg xend xval xwid xsiz xcel xcar) H locs → lv_has ls 2 [(0, .ref (ad 0)), (1, .int v1)] → l5_setsAside_2  n xs xaside v1 = some o_xaside → W p l e ({ frames := 0, cells := 0, slots := 0, locals := 0 }) s m args below meth c H locs 0 0 (MQ below (QcV D (tyM cI cC) (wM cI cC ad xs xkept o_xaside xisK xfound xgone xover xtape xtaped xtok xbeg xend xval xwid xsiz xcel xcar) A) args s 0 0 A) (F0 m 2 ls []) := by
  have hx := C0.1
  have hb := C0.2.1
  have hown := C0.2.2.2.2.1
  have hts := C0.2.2.2.2.2.1
  have hX := C0.2.2.2.2.2.2.2.2
  intro n
  induction n with
  | zero =>
    intro _ _ _ _ _ G hl hf
    cases hf
  | succ n ih =>
    intro xaside v1 H locs ls G hl hf
    rw [l5_setsAside_2] at hf
    refine lv_iload_n hx hb dX5_setsAside_2 rfl (lv_at hl 1 rfl) ?_
    refine lv_bipush (v := (88 : Int32)) hx hb dX5_setsAside_3 (by decide) ?_
    refine lv_icmp_ge (tgt := 26) hx hb dX5_setsAside_5 (by decide) (fun hc1 => ?_) (fun hc1 => ?_)
    · have hf := itp hc1 hf
      obtain rfl := inj1 hf
      exact ret_v C0 G dX5_setsAside_26
    · have hf := itn hc1 hf
      refine lv_aload_n hx hb dX5_setsAside_8 rfl (lv_at hl 0 rfl) ?_
      refine s_get (C := RX5) (T := TX5) C0 G i_X5 0 2 rfl rfl (by decide) q715 rfl dX5_setsAside_9 ?_
      refine lv_iload_n hx hb dX5_setsAside_12 rfl (lv_at hl 1 rfl) ?_
      refine lv_aload_n hx hb dX5_setsAside_13 rfl (lv_at hl 0 rfl) ?_
      refine s_get (C := RX5) (T := TX5) C0 G i_X5 0 0 rfl rfl (by decide) q713 rfl dX5_setsAside_14 ?_
      refine lv_iload_n hx hb dX5_setsAside_17 rfl (lv_at hl 1 rfl) ?_
      obtain ⟨hi2, hf⟩ := gd_s hf
      refine s_iald (k := v1.toNatClampNeg) C0 G 1 0 rfl rfl (vin hi2) rfl dX5_setsAside_18 ?_
      obtain ⟨hi3, hf⟩ := gd_s hf
      refine s_iast (k := v1.toNatClampNeg) (w' := (wM cI cC ad xs xkept (upd xaside v1.toNatClampNeg (xs v1.toNatClampNeg)) xisK xfound xgone xover xtape xtaped xtok xbeg xend xval xwid xsiz xcel xcar)) C0 G 3 0 rfl rfl (vin hi3) rfl rfl dX5_setsAside_19 (fun H locs G => ?_)
      refine lv_iinc (v := (v1 + (1 : Int32))) (lv' := [(1, .int (v1 + (1 : Int32))), (0, .ref (ad 0))]) hx hb dX5_setsAside_20 hl (k := 1) rfl rfl (by decide) rfl (fun ls hl => ?_)
      refine lv_goto (tgt := 2) hx hb dX5_setsAside_23 (by decide) ?_
      exact ih G (lv_sub hl [1, 0] rfl) hf
set_option maxHeartbeats 4000000 in
set_option maxRecDepth 100000 in
theorem b5_setsAside_0 {X : XP} {p : Program} {l : Launch} {e : Env} {s : State} {m : MethodId} {args : Array Value} {below : List Frame} {meth : Method} {c : Code} {D : va_G} {cI cC : ClassId} {ad : Nat → Nat} {A : Nat → Prop} {xs : Nat → Int32} {xkept : Nat → Int32} {xisK : Int32} {xfound : Nat → Int32} {xgone : Int32} {xover : Nat → Int32} {xtape : Nat → Int32} {xtaped : Int32} {xtok : Int32} {xbeg : Int32} {xend : Int32} {xval : Int64} {xwid : Nat → Int32} {xsiz : Nat → Int32} {xcel : Nat → Int32} {xcar : Nat → Int32} {o_xaside : Nat → Int32} (C0 : CX X p s m args meth c cX5_setsAside 2 none RX5 A) : ∀ {xaside : Nat → Int32} {H : Heap} {locs : List Loc} {ls : Array Slot}, GX X D (tyM cI cC) A s (wM cI cC ad xs xkept xaside xisK xfound xgone xover xtape xtaped xtok xbeg xend xval xwid xsiz xcel xcar) H locs → lv_has ls 2 [(0, .ref (ad 0))] → f5_setsAside xs xaside = some o_xaside → W p l e ({ frames := 0, cells := 0, slots := 0, locals := 0 }) s m args below meth c H locs 0 0 (MQ below (QcV D (tyM cI cC) (wM cI cC ad xs xkept o_xaside xisK xfound xgone xover xtape xtaped xtok xbeg xend xval xwid xsiz xcel xcar) A) args s 0 0 A) (F0 m 0 ls []) := by
  have hx := C0.1
  have hb := C0.2.1
  have hown := C0.2.2.2.2.1
  have hts := C0.2.2.2.2.2.1
  have hX := C0.2.2.2.2.2.2.2.2
  intro xaside H locs ls G hl hf
  unfold f5_setsAside at hf
  refine lv_iconst (v := (0 : Int32)) hx hb dX5_setsAside_0 (by decide) ?_
  refine lv_istore_n (lv' := [(1, .int (0 : Int32)), (0, .ref (ad 0))]) hx hb dX5_setsAside_1 rfl hl (by decide) rfl (fun ls hl => ?_)
  exact b5_setsAside_2 C0  1000 G (lv_sub hl [1, 0] rfl) hf
theorem o5_setsAside : okName yX5_setsAside 0 := ⟨by decide, by decide, by decide +kernel⟩
set_option maxHeartbeats 4000000 in
set_option maxRecDepth 100000 in
theorem c5_setsAside {X : XP} (hX : XT X) {l : Launch} {D : va_G} {cI cC : ClassId} {ad : Nat → Nat} {sz : Nat} {xs : Nat → Int32} {xkept : Nat → Int32} {xaside : Nat → Int32} {xisK : Int32} {xfound : Nat → Int32} {xgone : Int32} {xover : Nat → Int32} {xtape : Nat → Int32} {xtaped : Int32} {xtok : Int32} {xbeg : Int32} {xend : Int32} {xval : Int64} {xwid : Nat → Int32} {xsiz : Nat → Int32} {xcel : Nat → Int32} {xcar : Nat → Int32}  {o_xaside : Nat → Int32} (hf : f5_setsAside xs xaside = some o_xaside) : Met l yX5_setsAside (wU yX5_setsAside cX5_setsAside 2 none) ({ frames := 0, cells := 0, slots := 0, locals := 0 }) (va_Pc [.ref (ad 0)] (PreW X D (tyM cI cC) (wM cI cC ad xs xkept xaside xisK xfound xgone xover xtape xtaped xtok xbeg xend xval xwid xsiz xcel xcar) sz)) (QcV D (tyM cI cC) (wM cI cC ad xs xkept o_xaside xisK xfound xgone xover xtape xtaped xtok xbeg xend xval xwid xsiz xcel xcar) (va_A (wM cI cC ad xs xkept xaside xisK xfound xgone xover xtape xtaped xtok xbeg xend xval xwid xsiz xcel xcar) sz)) 0 0 (va_A (wM cI cC ad xs xkept xaside xisK xfound xgone xover xtape xtaped xtok xbeg xend xval xwid xsiz xcel xcar) sz) := by
  refine startW hX (own := RX5) (by decide) rfl (Nat.le_of_ble_eq_true rfl) (fun p e s m args below meth c ls C0 G hl => ?_)
  exact b5_setsAside_0 C0 G hl hf
/-! 5_laysBack -/
theorem dX5_laysBack_0 : decode cX5_laysBack 0 = .ok (.iconst 0, 1) := by decide +kernel
theorem dX5_laysBack_1 : decode cX5_laysBack 1 = .ok (.istore_n 1, 1) := by decide +kernel
theorem dX5_laysBack_2 : decode cX5_laysBack 2 = .ok (.iload_n 1, 1) := by decide +kernel
theorem dX5_laysBack_3 : decode cX5_laysBack 3 = .ok (.bipush 88, 2) := by decide +kernel
theorem dX5_laysBack_5 : decode cX5_laysBack 5 = .ok (.if_icmp .ge 21, 3) := by decide +kernel
theorem dX5_laysBack_8 : decode cX5_laysBack 8 = .ok (.aload_n 0, 1) := by decide +kernel
theorem dX5_laysBack_9 : decode cX5_laysBack 9 = .ok (.getfield 9, 3) := by decide +kernel
theorem dX5_laysBack_12 : decode cX5_laysBack 12 = .ok (.iload_n 1, 1) := by decide +kernel
theorem dX5_laysBack_13 : decode cX5_laysBack 13 = .ok (.aload_n 0, 1) := by decide +kernel
theorem dX5_laysBack_14 : decode cX5_laysBack 14 = .ok (.getfield 16, 3) := by decide +kernel
theorem dX5_laysBack_17 : decode cX5_laysBack 17 = .ok (.iload_n 1, 1) := by decide +kernel
theorem dX5_laysBack_18 : decode cX5_laysBack 18 = .ok (.iaload, 1) := by decide +kernel
theorem dX5_laysBack_19 : decode cX5_laysBack 19 = .ok (.iastore, 1) := by decide +kernel
theorem dX5_laysBack_20 : decode cX5_laysBack 20 = .ok (.iinc 1 1, 3) := by decide +kernel
theorem dX5_laysBack_23 : decode cX5_laysBack 23 = .ok (.goto (-21), 3) := by decide +kernel
theorem dX5_laysBack_26 : decode cX5_laysBack 26 = .ok (.return_, 1) := by decide +kernel
def l5_laysBack_2  : Nat → (Nat → Int32) → (Nat → Int32) → Int32 → Option ((Nat → Int32))
  | 0, _, _, _ => none
  | n + 1, xs, xaside, v1 =>
    if (88 : Int32) ≤ v1 then (
      some xs)
    else (
      gd (inb v1 88) (
      gd (inb v1 88) (
      (l5_laysBack_2 n) (upd xs v1.toNatClampNeg (xaside v1.toNatClampNeg)) xaside (v1 + (1 : Int32)))))
def f5_laysBack (xs : Nat → Int32) (xaside : Nat → Int32)  : Option ((Nat → Int32)) :=
  l5_laysBack_2 1000 xs xaside (0 : Int32)
set_option maxHeartbeats 4000000 in
set_option maxRecDepth 100000 in
theorem b5_laysBack_2 {X : XP} {p : Program} {l : Launch} {e : Env} {s : State} {m : MethodId} {args : Array Value} {below : List Frame} {meth : Method} {c : Code} {D : va_G} {cI cC : ClassId} {ad : Nat → Nat} {A : Nat → Prop} {xkept : Nat → Int32} {xaside : Nat → Int32} {xisK : Int32} {xfound : Nat → Int32} {xgone : Int32} {xover : Nat → Int32} {xtape : Nat → Int32} {xtaped : Int32} {xtok : Int32} {xbeg : Int32} {xend : Int32} {xval : Int64} {xwid : Nat → Int32} {xsiz : Nat → Int32} {xcel : Nat → Int32} {xcar : Nat → Int32} {o_xs : Nat → Int32} (C0 : CX X p s m args meth c cX5_laysBack 2 none RX5 A) : ∀ (n : Nat) {xs : Nat → Int32} {v1 : Int32} {H : Heap} {locs : List Loc} {ls : Array Slot}, GX X D (tyM cI cC) A s (wM cI cC ad xs xkept xaside xisK xfound xgone xover xtape xtaped xtok xbeg xend xval xwid xsiz xcel xcar) H locs → lv_has ls 2 [(0, .ref (ad 0)), (1, .int v1)] → l5_laysBack_2  n xs xaside v1 = some o_xs → W p l e ({ frames := 0, cells := 0, slots := 0, locals := 0 }) s m args below meth c H locs 0 0 (MQ below (QcV D (tyM cI cC) (wM cI cC ad o_xs xkept xaside xisK xfound xgone xover xtape xtaped xtok xbeg xend xval xwid xsiz xcel xcar) A) args s 0 0 A) (F0 m 2 ls []) := by
  have hx := C0.1
  have hb := C0.2.1
  have hown := C0.2.2.2.2.1
  have hts := C0.2.2.2.2.2.1
  have hX := C0.2.2.2.2.2.2.2.2
  intro n
  induction n with
  | zero =>
    intro _ _ _ _ _ G hl hf
    cases hf
  | succ n ih =>
    intro xs v1 H locs ls G hl hf
    rw [l5_laysBack_2] at hf
    refine lv_iload_n hx hb dX5_laysBack_2 rfl (lv_at hl 1 rfl) ?_
    refine lv_bipush (v := (88 : Int32)) hx hb dX5_laysBack_3 (by decide) ?_
    refine lv_icmp_ge (tgt := 26) hx hb dX5_laysBack_5 (by decide) (fun hc1 => ?_) (fun hc1 => ?_)
    · have hf := itp hc1 hf
      obtain rfl := inj1 hf
      exact ret_v C0 G dX5_laysBack_26
    · have hf := itn hc1 hf
      refine lv_aload_n hx hb dX5_laysBack_8 rfl (lv_at hl 0 rfl) ?_
      refine s_get (C := RX5) (T := TX5) C0 G i_X5 0 0 rfl rfl (by decide) q713 rfl dX5_laysBack_9 ?_
      refine lv_iload_n hx hb dX5_laysBack_12 rfl (lv_at hl 1 rfl) ?_
      refine lv_aload_n hx hb dX5_laysBack_13 rfl (lv_at hl 0 rfl) ?_
      refine s_get (C := RX5) (T := TX5) C0 G i_X5 0 2 rfl rfl (by decide) q715 rfl dX5_laysBack_14 ?_
      refine lv_iload_n hx hb dX5_laysBack_17 rfl (lv_at hl 1 rfl) ?_
      obtain ⟨hi2, hf⟩ := gd_s hf
      refine s_iald (k := v1.toNatClampNeg) C0 G 3 0 rfl rfl (vin hi2) rfl dX5_laysBack_18 ?_
      obtain ⟨hi3, hf⟩ := gd_s hf
      refine s_iast (k := v1.toNatClampNeg) (w' := (wM cI cC ad (upd xs v1.toNatClampNeg (xaside v1.toNatClampNeg)) xkept xaside xisK xfound xgone xover xtape xtaped xtok xbeg xend xval xwid xsiz xcel xcar)) C0 G 1 0 rfl rfl (vin hi3) rfl rfl dX5_laysBack_19 (fun H locs G => ?_)
      refine lv_iinc (v := (v1 + (1 : Int32))) (lv' := [(1, .int (v1 + (1 : Int32))), (0, .ref (ad 0))]) hx hb dX5_laysBack_20 hl (k := 1) rfl rfl (by decide) rfl (fun ls hl => ?_)
      refine lv_goto (tgt := 2) hx hb dX5_laysBack_23 (by decide) ?_
      exact ih G (lv_sub hl [1, 0] rfl) hf
set_option maxHeartbeats 4000000 in
set_option maxRecDepth 100000 in
theorem b5_laysBack_0 {X : XP} {p : Program} {l : Launch} {e : Env} {s : State} {m : MethodId} {args : Array Value} {below : List Frame} {meth : Method} {c : Code} {D : va_G} {cI cC : ClassId} {ad : Nat → Nat} {A : Nat → Prop} {xkept : Nat → Int32} {xaside : Nat → Int32} {xisK : Int32} {xfound : Nat → Int32} {xgone : Int32} {xover : Nat → Int32} {xtape : Nat → Int32} {xtaped : Int32} {xtok : Int32} {xbeg : Int32} {xend : Int32} {xval : Int64} {xwid : Nat → Int32} {xsiz : Nat → Int32} {xcel : Nat → Int32} {xcar : Nat → Int32} {o_xs : Nat → Int32} (C0 : CX X p s m args meth c cX5_laysBack 2 none RX5 A) : ∀ {xs : Nat → Int32} {H : Heap} {locs : List Loc} {ls : Array Slot}, GX X D (tyM cI cC) A s (wM cI cC ad xs xkept xaside xisK xfound xgone xover xtape xtaped xtok xbeg xend xval xwid xsiz xcel xcar) H locs → lv_has ls 2 [(0, .ref (ad 0))] → f5_laysBack xs xaside = some o_xs → W p l e ({ frames := 0, cells := 0, slots := 0, locals := 0 }) s m args below meth c H locs 0 0 (MQ below (QcV D (tyM cI cC) (wM cI cC ad o_xs xkept xaside xisK xfound xgone xover xtape xtaped xtok xbeg xend xval xwid xsiz xcel xcar) A) args s 0 0 A) (F0 m 0 ls []) := by
  have hx := C0.1
  have hb := C0.2.1
  have hown := C0.2.2.2.2.1
  have hts := C0.2.2.2.2.2.1
  have hX := C0.2.2.2.2.2.2.2.2
  intro xs H locs ls G hl hf
  unfold f5_laysBack at hf
  refine lv_iconst (v := (0 : Int32)) hx hb dX5_laysBack_0 (by decide) ?_
  refine lv_istore_n (lv' := [(1, .int (0 : Int32)), (0, .ref (ad 0))]) hx hb dX5_laysBack_1 rfl hl (by decide) rfl (fun ls hl => ?_)
  exact b5_laysBack_2 C0  1000 G (lv_sub hl [1, 0] rfl) hf
theorem o5_laysBack : okName yX5_laysBack 0 := ⟨by decide, by decide, by decide +kernel⟩
set_option maxHeartbeats 4000000 in
set_option maxRecDepth 100000 in
theorem c5_laysBack {X : XP} (hX : XT X) {l : Launch} {D : va_G} {cI cC : ClassId} {ad : Nat → Nat} {sz : Nat} {xs : Nat → Int32} {xkept : Nat → Int32} {xaside : Nat → Int32} {xisK : Int32} {xfound : Nat → Int32} {xgone : Int32} {xover : Nat → Int32} {xtape : Nat → Int32} {xtaped : Int32} {xtok : Int32} {xbeg : Int32} {xend : Int32} {xval : Int64} {xwid : Nat → Int32} {xsiz : Nat → Int32} {xcel : Nat → Int32} {xcar : Nat → Int32}  {o_xs : Nat → Int32} (hf : f5_laysBack xs xaside = some o_xs) : Met l yX5_laysBack (wU yX5_laysBack cX5_laysBack 2 none) ({ frames := 0, cells := 0, slots := 0, locals := 0 }) (va_Pc [.ref (ad 0)] (PreW X D (tyM cI cC) (wM cI cC ad xs xkept xaside xisK xfound xgone xover xtape xtaped xtok xbeg xend xval xwid xsiz xcel xcar) sz)) (QcV D (tyM cI cC) (wM cI cC ad o_xs xkept xaside xisK xfound xgone xover xtape xtaped xtok xbeg xend xval xwid xsiz xcel xcar) (va_A (wM cI cC ad xs xkept xaside xisK xfound xgone xover xtape xtaped xtok xbeg xend xval xwid xsiz xcel xcar) sz)) 0 0 (va_A (wM cI cC ad xs xkept xaside xisK xfound xgone xover xtape xtaped xtok xbeg xend xval xwid xsiz xcel xcar) sz) := by
  refine startW hX (own := RX5) (by decide) rfl (Nat.le_of_ble_eq_true rfl) (fun p e s m args below meth c ls C0 G hl => ?_)
  exact b5_laysBack_0 C0 G hl hf
/-! 5_thenAt -/
theorem dX5_thenAt_0 : decode cX5_thenAt 0 = .ok (.aload_n 0, 1) := by decide +kernel
theorem dX5_thenAt_1 : decode cX5_thenAt 1 = .ok (.invokevirtual 140, 3) := by decide +kernel
theorem dX5_thenAt_4 : decode cX5_thenAt 4 = .ok (.aload_n 0, 1) := by decide +kernel
theorem dX5_thenAt_5 : decode cX5_thenAt 5 = .ok (.iload_n 2, 1) := by decide +kernel
theorem dX5_thenAt_6 : decode cX5_thenAt 6 = .ok (.invokevirtual 120, 3) := by decide +kernel
theorem dX5_thenAt_9 : decode cX5_thenAt 9 = .ok (.aload_n 0, 1) := by decide +kernel
theorem dX5_thenAt_10 : decode cX5_thenAt 10 = .ok (.getfield 9, 3) := by decide +kernel
theorem dX5_thenAt_13 : decode cX5_thenAt 13 = .ok (.iload_n 1, 1) := by decide +kernel
theorem dX5_thenAt_14 : decode cX5_thenAt 14 = .ok (.iaload, 1) := by decide +kernel
theorem dX5_thenAt_15 : decode cX5_thenAt 15 = .ok (.istore_n 3, 1) := by decide +kernel
theorem dX5_thenAt_16 : decode cX5_thenAt 16 = .ok (.aload_n 0, 1) := by decide +kernel
theorem dX5_thenAt_17 : decode cX5_thenAt 17 = .ok (.invokevirtual 143, 3) := by decide +kernel
theorem dX5_thenAt_20 : decode cX5_thenAt 20 = .ok (.iload_n 3, 1) := by decide +kernel
theorem dX5_thenAt_21 : decode cX5_thenAt 21 = .ok (.ireturn, 1) := by decide +kernel
def f5_thenAt (xs : Nat → Int32) (xaside : Nat → Int32) (xgone : Int32) (xover : Nat → Int32) (v1 : Int32) (v2 : Int32) : Option (Int32 × (Nat → Int32) × (Nat → Int32) × (Nat → Int32)) :=
  ob1 (f5_setsAside xs xaside) (fun xaside_1 =>
  ob2 (f5_goes xs xgone xover v2) (fun xs_3 xover_4 =>
  gd (inb v1 88) (
  ob1 (f5_laysBack xs_3 xaside_1) (fun xs_7 =>
  some ((xs_3 v1.toNatClampNeg), xs_7, xaside_1, xover_4)))))
set_option maxHeartbeats 4000000 in
set_option maxRecDepth 100000 in
theorem b5_thenAt_0 {X : XP} {p : Program} {l : Launch} {e : Env} {s : State} {m : MethodId} {args : Array Value} {below : List Frame} {meth : Method} {c : Code} {D : va_G} {cI cC : ClassId} {ad : Nat → Nat} {A : Nat → Prop} {xkept : Nat → Int32} {xisK : Int32} {xfound : Nat → Int32} {xgone : Int32} {xtape : Nat → Int32} {xtaped : Int32} {xtok : Int32} {xbeg : Int32} {xend : Int32} {xval : Int64} {xwid : Nat → Int32} {xsiz : Nat → Int32} {xcel : Nat → Int32} {xcar : Nat → Int32} {r0 : Int32} {o_xs : Nat → Int32} {o_xaside : Nat → Int32} {o_xover : Nat → Int32} (C0 : CX X p s m args meth c cX5_thenAt 4 (some .int) RX5 A) : ∀ {xs : Nat → Int32} {xaside : Nat → Int32} {xover : Nat → Int32} {v1 : Int32} {v2 : Int32} {H : Heap} {locs : List Loc} {ls : Array Slot}, GX X D (tyM cI cC) A s (wM cI cC ad xs xkept xaside xisK xfound xgone xover xtape xtaped xtok xbeg xend xval xwid xsiz xcel xcar) H locs → lv_has ls 4 [(0, .ref (ad 0)), (1, .int v1), (2, .int v2)] → f5_thenAt xs xaside xgone xover v1 v2 = some (r0, o_xs, o_xaside, o_xover) → W p l e ({ frames := 7, cells := 0, slots := 0, locals := 165 }) s m args below meth c H locs 0 0 (MQ below (QcI D (tyM cI cC) (wM cI cC ad o_xs xkept o_xaside xisK xfound xgone o_xover xtape xtaped xtok xbeg xend xval xwid xsiz xcel xcar) A r0) args s 0 0 A) (F0 m 0 ls []) := by
  have hx := C0.1
  have hb := C0.2.1
  have hown := C0.2.2.2.2.1
  have hts := C0.2.2.2.2.2.1
  have hX := C0.2.2.2.2.2.2.2.2
  intro xs xaside xover v1 v2 H locs ls G hl hf
  unfold f5_thenAt at hf
  refine lv_aload_n hx hb dX5_thenAt_0 rfl (lv_at hl 0 rfl) ?_
  obtain ⟨xaside_1, hc2, hf⟩ := ob1_s hf
  refine go_v C0 G (runV_of (n := 0) (q0 := 0) (As := []) (rest := []) C0 G (c5_setsAside hX hc2) q919 q54 q916 q918 q30 o5_setsAside ⟨rfl, rfl⟩ ⟨Nat.le_of_ble_eq_true rfl, Nat.le_of_ble_eq_true rfl⟩ rfl rfl rfl hl.1 rfl (Nat.le_of_ble_eq_true rfl) dX5_thenAt_1) (fun H locs G => ?_)
  refine lv_aload_n hx hb dX5_thenAt_4 rfl (lv_at hl 0 rfl) ?_
  refine lv_iload_n hx hb dX5_thenAt_5 rfl (lv_at hl 2 rfl) ?_
  obtain ⟨xs_3, xover_4, hc5, hf⟩ := ob2_s hf
  refine go_v C0 G (runV_of (n := 1) (q0 := 0) (As := [.int v2]) (rest := []) C0 G (c5_goes hX hc5) q871 q54 q868 q870 q20 o5_goes ⟨rfl, rfl⟩ ⟨Nat.le_of_ble_eq_true rfl, Nat.le_of_ble_eq_true rfl⟩ rfl rfl rfl hl.1 rfl (Nat.le_of_ble_eq_true rfl) dX5_thenAt_6) (fun H locs G => ?_)
  refine lv_aload_n hx hb dX5_thenAt_9 rfl (lv_at hl 0 rfl) ?_
  refine s_get (C := RX5) (T := TX5) C0 G i_X5 0 0 rfl rfl (by decide) q713 rfl dX5_thenAt_10 ?_
  refine lv_iload_n hx hb dX5_thenAt_13 rfl (lv_at hl 1 rfl) ?_
  obtain ⟨hi6, hf⟩ := gd_s hf
  refine s_iald (k := v1.toNatClampNeg) C0 G 1 0 rfl rfl (vin hi6) rfl dX5_thenAt_14 ?_
  refine lv_istore_n (lv' := [(3, .int (xs_3 v1.toNatClampNeg)), (0, .ref (ad 0)), (1, .int v1), (2, .int v2)]) hx hb dX5_thenAt_15 rfl hl (by decide) rfl (fun ls hl => ?_)
  refine lv_aload_n hx hb dX5_thenAt_16 rfl (lv_at hl 1 rfl) ?_
  obtain ⟨xs_7, hc8, hf⟩ := ob1_s hf
  refine go_v C0 G (runV_of (n := 0) (q0 := 0) (As := []) (rest := []) C0 G (c5_laysBack hX hc8) q923 q54 q920 q922 q31 o5_laysBack ⟨rfl, rfl⟩ ⟨Nat.le_of_ble_eq_true rfl, Nat.le_of_ble_eq_true rfl⟩ rfl rfl rfl hl.1 rfl (Nat.le_of_ble_eq_true rfl) dX5_thenAt_17) (fun H locs G => ?_)
  refine lv_iload_n hx hb dX5_thenAt_20 rfl (lv_at hl 0 rfl) ?_
  obtain ⟨rfl, rfl, rfl, rfl⟩ := inj4 hf
  exact ret_i C0 G dX5_thenAt_21
theorem o5_thenAt : okName yX5_thenAt 2 := ⟨by decide, by decide, by decide +kernel⟩
set_option maxHeartbeats 4000000 in
set_option maxRecDepth 100000 in
theorem c5_thenAt {X : XP} (hX : XT X) {l : Launch} {D : va_G} {cI cC : ClassId} {ad : Nat → Nat} {sz : Nat} {xs : Nat → Int32} {xkept : Nat → Int32} {xaside : Nat → Int32} {xisK : Int32} {xfound : Nat → Int32} {xgone : Int32} {xover : Nat → Int32} {xtape : Nat → Int32} {xtaped : Int32} {xtok : Int32} {xbeg : Int32} {xend : Int32} {xval : Int64} {xwid : Nat → Int32} {xsiz : Nat → Int32} {xcel : Nat → Int32} {xcar : Nat → Int32} {v1 : Int32} {v2 : Int32} {r0 : Int32} {o_xs : Nat → Int32} {o_xaside : Nat → Int32} {o_xover : Nat → Int32} (hf : f5_thenAt xs xaside xgone xover v1 v2 = some (r0, o_xs, o_xaside, o_xover)) : Met l yX5_thenAt (wU yX5_thenAt cX5_thenAt 4 (some .int)) ({ frames := 7, cells := 0, slots := 0, locals := 165 }) (va_Pc [.ref (ad 0), .int v1, .int v2] (PreW X D (tyM cI cC) (wM cI cC ad xs xkept xaside xisK xfound xgone xover xtape xtaped xtok xbeg xend xval xwid xsiz xcel xcar) sz)) (QcI D (tyM cI cC) (wM cI cC ad o_xs xkept o_xaside xisK xfound xgone o_xover xtape xtaped xtok xbeg xend xval xwid xsiz xcel xcar) (va_A (wM cI cC ad xs xkept xaside xisK xfound xgone xover xtape xtaped xtok xbeg xend xval xwid xsiz xcel xcar) sz) r0) 0 0 (va_A (wM cI cC ad xs xkept xaside xisK xfound xgone xover xtape xtaped xtok xbeg xend xval xwid xsiz xcel xcar) sz) := by
  refine startW hX (own := RX5) (by decide) rfl (Nat.le_of_ble_eq_true rfl) (fun p e s m args below meth c ls C0 G hl => ?_)
  exact b5_thenAt_0 C0 G hl hf
/-! 5_high -/
theorem dX5_high_0 : decode cX5_high 0 = .ok (.iload_n 1, 1) := by decide +kernel
theorem dX5_high_1 : decode cX5_high 1 = .ok (.invokestatic 59, 3) := by decide +kernel
theorem dX5_high_4 : decode cX5_high 4 = .ok (.ifCond .eq 25, 3) := by decide +kernel
theorem dX5_high_7 : decode cX5_high 7 = .ok (.iload_n 2, 1) := by decide +kernel
theorem dX5_high_8 : decode cX5_high 8 = .ok (.iconst 0, 1) := by decide +kernel
theorem dX5_high_9 : decode cX5_high 9 = .ok (.bipush 100, 2) := by decide +kernel
theorem dX5_high_11 : decode cX5_high 11 = .ok (.invokestatic 51, 3) := by decide +kernel
theorem dX5_high_14 : decode cX5_high 14 = .ok (.ifCond .eq 15, 3) := by decide +kernel
theorem dX5_high_17 : decode cX5_high 17 = .ok (.aload_n 0, 1) := by decide +kernel
theorem dX5_high_18 : decode cX5_high 18 = .ok (.bipush 6, 2) := by decide +kernel
theorem dX5_high_20 : decode cX5_high 20 = .ok (.iload_n 1, 1) := by decide +kernel
theorem dX5_high_21 : decode cX5_high 21 = .ok (.iadd, 1) := by decide +kernel
theorem dX5_high_22 : decode cX5_high 22 = .ok (.iload_n 2, 1) := by decide +kernel
theorem dX5_high_23 : decode cX5_high 23 = .ok (.invokevirtual 146, 3) := by decide +kernel
theorem dX5_high_26 : decode cX5_high 26 = .ok (.goto 8, 3) := by decide +kernel
theorem dX5_high_29 : decode cX5_high 29 = .ok (.aload_n 0, 1) := by decide +kernel
theorem dX5_high_30 : decode cX5_high 30 = .ok (.iconst 0, 1) := by decide +kernel
theorem dX5_high_31 : decode cX5_high 31 = .ok (.invokevirtual 105, 3) := by decide +kernel
theorem dX5_high_34 : decode cX5_high 34 = .ok (.ireturn, 1) := by decide +kernel
def j5_high_29  (xs : Nat → Int32) (xaside : Nat → Int32) (xfound : Nat → Int32) (xgone : Int32) (xover : Nat → Int32)  : Option (Int32 × (Nat → Int32) × (Nat → Int32) × (Nat → Int32) × (Nat → Int32)) :=
  ob2 (f5_no xfound (0 : Int32)) (fun r8 xfound_9 =>
  some (r8, xs, xaside, xfound_9, xover))
def f5_high (xs : Nat → Int32) (xaside : Nat → Int32) (xfound : Nat → Int32) (xgone : Int32) (xover : Nat → Int32) (v1 : Int32) (v2 : Int32) : Option (Int32 × (Nat → Int32) × (Nat → Int32) × (Nat → Int32) × (Nat → Int32)) :=
  if (f5_isCell v1) = (0 : Int32) then (
    j5_high_29 xs xaside xfound xgone xover)
  else (
    if (f5_in1 v2 (0 : Int32) (100 : Int32)) = (0 : Int32) then (
      j5_high_29 xs xaside xfound xgone xover)
    else (
      ob4 (f5_thenAt xs xaside xgone xover ((6 : Int32) + v1) v2) (fun r3 xs_4 xaside_5 xover_6 =>
      some (r3, xs_4, xaside_5, xfound, xover_6))))
set_option maxHeartbeats 4000000 in
set_option maxRecDepth 100000 in
theorem b5_high_29 {X : XP} {p : Program} {l : Launch} {e : Env} {s : State} {m : MethodId} {args : Array Value} {below : List Frame} {meth : Method} {c : Code} {D : va_G} {cI cC : ClassId} {ad : Nat → Nat} {A : Nat → Prop} {xkept : Nat → Int32} {xisK : Int32} {xgone : Int32} {xtape : Nat → Int32} {xtaped : Int32} {xtok : Int32} {xbeg : Int32} {xend : Int32} {xval : Int64} {xwid : Nat → Int32} {xsiz : Nat → Int32} {xcel : Nat → Int32} {xcar : Nat → Int32} {r0 : Int32} {o_xs : Nat → Int32} {o_xaside : Nat → Int32} {o_xfound : Nat → Int32} {o_xover : Nat → Int32} (C0 : CX X p s m args meth c cX5_high 3 (some .int) RX5 A) : ∀ {xs : Nat → Int32} {xaside : Nat → Int32} {xfound : Nat → Int32} {xover : Nat → Int32} {H : Heap} {locs : List Loc} {ls : Array Slot}, GX X D (tyM cI cC) A s (wM cI cC ad xs xkept xaside xisK xfound xgone xover xtape xtaped xtok xbeg xend xval xwid xsiz xcel xcar) H locs → lv_has ls 3 [(0, .ref (ad 0))] → j5_high_29  xs xaside xfound xgone xover = some (r0, o_xs, o_xaside, o_xfound, o_xover) → W p l e ({ frames := 8, cells := 0, slots := 0, locals := 188 }) s m args below meth c H locs 0 0 (MQ below (QcI D (tyM cI cC) (wM cI cC ad o_xs xkept o_xaside xisK o_xfound xgone o_xover xtape xtaped xtok xbeg xend xval xwid xsiz xcel xcar) A r0) args s 0 0 A) (F0 m 29 ls []) := by
  have hx := C0.1
  have hb := C0.2.1
  have hown := C0.2.2.2.2.1
  have hts := C0.2.2.2.2.2.1
  have hX := C0.2.2.2.2.2.2.2.2
  intro xs xaside xfound xover H locs ls G hl hf
  unfold j5_high_29 at hf
  refine lv_aload_n hx hb dX5_high_29 rfl (lv_at hl 0 rfl) ?_
  refine lv_iconst (v := (0 : Int32)) hx hb dX5_high_30 (by decide) ?_
  obtain ⟨r8, xfound_9, hc10, hf⟩ := ob2_s hf
  refine go_i C0 G (runV_of (n := 1) (q0 := 0) (As := [.int (0 : Int32)]) (rest := []) C0 G (c5_no hX hc10) q788 q54 q785 q787 q9 o5_no ⟨rfl, rfl⟩ ⟨Nat.le_of_ble_eq_true rfl, Nat.le_of_ble_eq_true rfl⟩ rfl rfl rfl hl.1 rfl (Nat.le_of_ble_eq_true rfl) dX5_high_31) (fun H locs G => ?_)
  obtain ⟨rfl, rfl, rfl, rfl, rfl⟩ := inj5 hf
  exact ret_i C0 G dX5_high_34
set_option maxHeartbeats 4000000 in
set_option maxRecDepth 100000 in
theorem b5_high_0 {X : XP} {p : Program} {l : Launch} {e : Env} {s : State} {m : MethodId} {args : Array Value} {below : List Frame} {meth : Method} {c : Code} {D : va_G} {cI cC : ClassId} {ad : Nat → Nat} {A : Nat → Prop} {xkept : Nat → Int32} {xisK : Int32} {xgone : Int32} {xtape : Nat → Int32} {xtaped : Int32} {xtok : Int32} {xbeg : Int32} {xend : Int32} {xval : Int64} {xwid : Nat → Int32} {xsiz : Nat → Int32} {xcel : Nat → Int32} {xcar : Nat → Int32} {r0 : Int32} {o_xs : Nat → Int32} {o_xaside : Nat → Int32} {o_xfound : Nat → Int32} {o_xover : Nat → Int32} (C0 : CX X p s m args meth c cX5_high 3 (some .int) RX5 A) : ∀ {xs : Nat → Int32} {xaside : Nat → Int32} {xfound : Nat → Int32} {xover : Nat → Int32} {v1 : Int32} {v2 : Int32} {H : Heap} {locs : List Loc} {ls : Array Slot}, GX X D (tyM cI cC) A s (wM cI cC ad xs xkept xaside xisK xfound xgone xover xtape xtaped xtok xbeg xend xval xwid xsiz xcel xcar) H locs → lv_has ls 3 [(0, .ref (ad 0)), (1, .int v1), (2, .int v2)] → f5_high xs xaside xfound xgone xover v1 v2 = some (r0, o_xs, o_xaside, o_xfound, o_xover) → W p l e ({ frames := 8, cells := 0, slots := 0, locals := 188 }) s m args below meth c H locs 0 0 (MQ below (QcI D (tyM cI cC) (wM cI cC ad o_xs xkept o_xaside xisK o_xfound xgone o_xover xtape xtaped xtok xbeg xend xval xwid xsiz xcel xcar) A r0) args s 0 0 A) (F0 m 0 ls []) := by
  have hx := C0.1
  have hb := C0.2.1
  have hown := C0.2.2.2.2.1
  have hts := C0.2.2.2.2.2.1
  have hX := C0.2.2.2.2.2.2.2.2
  intro xs xaside xfound xover v1 v2 H locs ls G hl hf
  unfold f5_high at hf
  refine lv_iload_n hx hb dX5_high_0 rfl (lv_at hl 1 rfl) ?_
  refine go_i C0 G (runS_of (n := 1) (As := [.int v1]) (rest := []) C0 G (c5_isCell hX rfl) q781 q54 q779 q780 o5_isCell ⟨rfl, rfl⟩ ⟨Nat.le_of_ble_eq_true rfl, Nat.le_of_ble_eq_true rfl⟩ rfl hl.1 rfl (Nat.le_of_ble_eq_true rfl) dX5_high_1) (fun H locs G => ?_)
  refine lv_if_eq (tgt := 29) hx hb dX5_high_4 (by decide) (fun hc1 => ?_) (fun hc1 => ?_)
  · have hf := itp hc1 hf
    exact b5_high_29 C0  G (lv_sub hl [0] rfl) hf
  · have hf := itn hc1 hf
    refine lv_iload_n hx hb dX5_high_7 rfl (lv_at hl 2 rfl) ?_
    refine lv_iconst (v := (0 : Int32)) hx hb dX5_high_8 (by decide) ?_
    refine lv_bipush (v := (100 : Int32)) hx hb dX5_high_9 (by decide) ?_
    refine go_i C0 G (runS_of (n := 3) (As := [.int v2, .int (0 : Int32), .int (100 : Int32)]) (rest := []) C0 G (c5_in1 hX rfl) q784 q54 q782 q783 o5_in1 ⟨rfl, rfl⟩ ⟨Nat.le_of_ble_eq_true rfl, Nat.le_of_ble_eq_true rfl⟩ rfl hl.1 rfl (Nat.le_of_ble_eq_true rfl) dX5_high_11) (fun H locs G => ?_)
    refine lv_if_eq (tgt := 29) hx hb dX5_high_14 (by decide) (fun hc2 => ?_) (fun hc2 => ?_)
    · have hf := itp hc2 hf
      exact b5_high_29 C0  G (lv_sub hl [0] rfl) hf
    · have hf := itn hc2 hf
      refine lv_aload_n hx hb dX5_high_17 rfl (lv_at hl 0 rfl) ?_
      refine lv_bipush (v := (6 : Int32)) hx hb dX5_high_18 (by decide) ?_
      refine lv_iload_n hx hb dX5_high_20 rfl (lv_at hl 1 rfl) ?_
      refine lv_iadd hx hb dX5_high_21 ?_
      refine lv_iload_n hx hb dX5_high_22 rfl (lv_at hl 2 rfl) ?_
      obtain ⟨r3, xs_4, xaside_5, xover_6, hc7, hf⟩ := ob4_s hf
      refine go_i C0 G (runV_of (n := 2) (q0 := 0) (As := [.int ((6 : Int32) + v1), .int v2]) (rest := []) C0 G (c5_thenAt hX hc7) q915 q54 q912 q914 q29 o5_thenAt ⟨rfl, rfl⟩ ⟨Nat.le_of_ble_eq_true rfl, Nat.le_of_ble_eq_true rfl⟩ rfl rfl rfl hl.1 rfl (Nat.le_of_ble_eq_true rfl) dX5_high_23) (fun H locs G => ?_)
      refine lv_goto (tgt := 34) hx hb dX5_high_26 (by decide) ?_
      obtain ⟨rfl, rfl, rfl, rfl, rfl⟩ := inj5 hf
      exact ret_i C0 G dX5_high_34
theorem o5_high : okName yX5_high 2 := ⟨by decide, by decide, by decide +kernel⟩
set_option maxHeartbeats 4000000 in
set_option maxRecDepth 100000 in
theorem c5_high {X : XP} (hX : XT X) {l : Launch} {D : va_G} {cI cC : ClassId} {ad : Nat → Nat} {sz : Nat} {xs : Nat → Int32} {xkept : Nat → Int32} {xaside : Nat → Int32} {xisK : Int32} {xfound : Nat → Int32} {xgone : Int32} {xover : Nat → Int32} {xtape : Nat → Int32} {xtaped : Int32} {xtok : Int32} {xbeg : Int32} {xend : Int32} {xval : Int64} {xwid : Nat → Int32} {xsiz : Nat → Int32} {xcel : Nat → Int32} {xcar : Nat → Int32} {v1 : Int32} {v2 : Int32} {r0 : Int32} {o_xs : Nat → Int32} {o_xaside : Nat → Int32} {o_xfound : Nat → Int32} {o_xover : Nat → Int32} (hf : f5_high xs xaside xfound xgone xover v1 v2 = some (r0, o_xs, o_xaside, o_xfound, o_xover)) : Met l yX5_high (wU yX5_high cX5_high 3 (some .int)) ({ frames := 8, cells := 0, slots := 0, locals := 188 }) (va_Pc [.ref (ad 0), .int v1, .int v2] (PreW X D (tyM cI cC) (wM cI cC ad xs xkept xaside xisK xfound xgone xover xtape xtaped xtok xbeg xend xval xwid xsiz xcel xcar) sz)) (QcI D (tyM cI cC) (wM cI cC ad o_xs xkept o_xaside xisK o_xfound xgone o_xover xtape xtaped xtok xbeg xend xval xwid xsiz xcel xcar) (va_A (wM cI cC ad xs xkept xaside xisK xfound xgone xover xtape xtaped xtok xbeg xend xval xwid xsiz xcel xcar) sz) r0) 0 0 (va_A (wM cI cC ad xs xkept xaside xisK xfound xgone xover xtape xtaped xtok xbeg xend xval xwid xsiz xcel xcar) sz) := by
  refine startW hX (own := RX5) (by decide) rfl (Nat.le_of_ble_eq_true rfl) (fun p e s m args below meth c ls C0 G hl => ?_)
  exact b5_high_0 C0 G hl hf
/-! 5_built -/
theorem dX5_built_0 : decode cX5_built 0 = .ok (.aload_n 0, 1) := by decide +kernel
theorem dX5_built_1 : decode cX5_built 1 = .ok (.iload_n 1, 1) := by decide +kernel
theorem dX5_built_2 : decode cX5_built 2 = .ok (.invokevirtual 111, 3) := by decide +kernel
theorem dX5_built_5 : decode cX5_built 5 = .ok (.ifCond .eq 31, 3) := by decide +kernel
theorem dX5_built_8 : decode cX5_built 8 = .ok (.iload_n 2, 1) := by decide +kernel
theorem dX5_built_9 : decode cX5_built 9 = .ok (.iconst 0, 1) := by decide +kernel
theorem dX5_built_10 : decode cX5_built 10 = .ok (.bipush 100, 2) := by decide +kernel
theorem dX5_built_12 : decode cX5_built 12 = .ok (.invokestatic 51, 3) := by decide +kernel
theorem dX5_built_15 : decode cX5_built 15 = .ok (.ifCond .eq 21, 3) := by decide +kernel
theorem dX5_built_18 : decode cX5_built 18 = .ok (.aload_n 0, 1) := by decide +kernel
theorem dX5_built_19 : decode cX5_built 19 = .ok (.bipush 22, 2) := by decide +kernel
theorem dX5_built_21 : decode cX5_built 21 = .ok (.bipush 7, 2) := by decide +kernel
theorem dX5_built_23 : decode cX5_built 23 = .ok (.iload_n 1, 1) := by decide +kernel
theorem dX5_built_24 : decode cX5_built 24 = .ok (.imul, 1) := by decide +kernel
theorem dX5_built_25 : decode cX5_built 25 = .ok (.iadd, 1) := by decide +kernel
theorem dX5_built_26 : decode cX5_built 26 = .ok (.bipush 6, 2) := by decide +kernel
theorem dX5_built_28 : decode cX5_built 28 = .ok (.iadd, 1) := by decide +kernel
theorem dX5_built_29 : decode cX5_built 29 = .ok (.iload_n 2, 1) := by decide +kernel
theorem dX5_built_30 : decode cX5_built 30 = .ok (.invokevirtual 146, 3) := by decide +kernel
theorem dX5_built_33 : decode cX5_built 33 = .ok (.goto 8, 3) := by decide +kernel
theorem dX5_built_36 : decode cX5_built 36 = .ok (.aload_n 0, 1) := by decide +kernel
theorem dX5_built_37 : decode cX5_built 37 = .ok (.iconst 0, 1) := by decide +kernel
theorem dX5_built_38 : decode cX5_built 38 = .ok (.invokevirtual 105, 3) := by decide +kernel
theorem dX5_built_41 : decode cX5_built 41 = .ok (.ireturn, 1) := by decide +kernel
def j5_built_36  (xs : Nat → Int32) (xaside : Nat → Int32) (xfound : Nat → Int32) (xgone : Int32) (xover : Nat → Int32)  : Option (Int32 × (Nat → Int32) × (Nat → Int32) × (Nat → Int32) × (Nat → Int32)) :=
  ob2 (f5_no xfound (0 : Int32)) (fun r8 xfound_9 =>
  some (r8, xs, xaside, xfound_9, xover))
def f5_built (xs : Nat → Int32) (xaside : Nat → Int32) (xfound : Nat → Int32) (xgone : Int32) (xover : Nat → Int32) (v1 : Int32) (v2 : Int32) : Option (Int32 × (Nat → Int32) × (Nat → Int32) × (Nat → Int32) × (Nat → Int32)) :=
  if (f5_isVisitor xs v1) = (0 : Int32) then (
    j5_built_36 xs xaside xfound xgone xover)
  else (
    if (f5_in1 v2 (0 : Int32) (100 : Int32)) = (0 : Int32) then (
      j5_built_36 xs xaside xfound xgone xover)
    else (
      ob4 (f5_thenAt xs xaside xgone xover (((22 : Int32) + ((7 : Int32) * v1)) + (6 : Int32)) v2) (fun r3 xs_4 xaside_5 xover_6 =>
      some (r3, xs_4, xaside_5, xfound, xover_6))))
set_option maxHeartbeats 4000000 in
set_option maxRecDepth 100000 in
theorem b5_built_36 {X : XP} {p : Program} {l : Launch} {e : Env} {s : State} {m : MethodId} {args : Array Value} {below : List Frame} {meth : Method} {c : Code} {D : va_G} {cI cC : ClassId} {ad : Nat → Nat} {A : Nat → Prop} {xkept : Nat → Int32} {xisK : Int32} {xgone : Int32} {xtape : Nat → Int32} {xtaped : Int32} {xtok : Int32} {xbeg : Int32} {xend : Int32} {xval : Int64} {xwid : Nat → Int32} {xsiz : Nat → Int32} {xcel : Nat → Int32} {xcar : Nat → Int32} {r0 : Int32} {o_xs : Nat → Int32} {o_xaside : Nat → Int32} {o_xfound : Nat → Int32} {o_xover : Nat → Int32} (C0 : CX X p s m args meth c cX5_built 3 (some .int) RX5 A) : ∀ {xs : Nat → Int32} {xaside : Nat → Int32} {xfound : Nat → Int32} {xover : Nat → Int32} {H : Heap} {locs : List Loc} {ls : Array Slot}, GX X D (tyM cI cC) A s (wM cI cC ad xs xkept xaside xisK xfound xgone xover xtape xtaped xtok xbeg xend xval xwid xsiz xcel xcar) H locs → lv_has ls 3 [(0, .ref (ad 0))] → j5_built_36  xs xaside xfound xgone xover = some (r0, o_xs, o_xaside, o_xfound, o_xover) → W p l e ({ frames := 8, cells := 0, slots := 0, locals := 188 }) s m args below meth c H locs 0 0 (MQ below (QcI D (tyM cI cC) (wM cI cC ad o_xs xkept o_xaside xisK o_xfound xgone o_xover xtape xtaped xtok xbeg xend xval xwid xsiz xcel xcar) A r0) args s 0 0 A) (F0 m 36 ls []) := by
  have hx := C0.1
  have hb := C0.2.1
  have hown := C0.2.2.2.2.1
  have hts := C0.2.2.2.2.2.1
  have hX := C0.2.2.2.2.2.2.2.2
  intro xs xaside xfound xover H locs ls G hl hf
  unfold j5_built_36 at hf
  refine lv_aload_n hx hb dX5_built_36 rfl (lv_at hl 0 rfl) ?_
  refine lv_iconst (v := (0 : Int32)) hx hb dX5_built_37 (by decide) ?_
  obtain ⟨r8, xfound_9, hc10, hf⟩ := ob2_s hf
  refine go_i C0 G (runV_of (n := 1) (q0 := 0) (As := [.int (0 : Int32)]) (rest := []) C0 G (c5_no hX hc10) q788 q54 q785 q787 q9 o5_no ⟨rfl, rfl⟩ ⟨Nat.le_of_ble_eq_true rfl, Nat.le_of_ble_eq_true rfl⟩ rfl rfl rfl hl.1 rfl (Nat.le_of_ble_eq_true rfl) dX5_built_38) (fun H locs G => ?_)
  obtain ⟨rfl, rfl, rfl, rfl, rfl⟩ := inj5 hf
  exact ret_i C0 G dX5_built_41
set_option maxHeartbeats 4000000 in
set_option maxRecDepth 100000 in
theorem b5_built_0 {X : XP} {p : Program} {l : Launch} {e : Env} {s : State} {m : MethodId} {args : Array Value} {below : List Frame} {meth : Method} {c : Code} {D : va_G} {cI cC : ClassId} {ad : Nat → Nat} {A : Nat → Prop} {xkept : Nat → Int32} {xisK : Int32} {xgone : Int32} {xtape : Nat → Int32} {xtaped : Int32} {xtok : Int32} {xbeg : Int32} {xend : Int32} {xval : Int64} {xwid : Nat → Int32} {xsiz : Nat → Int32} {xcel : Nat → Int32} {xcar : Nat → Int32} {r0 : Int32} {o_xs : Nat → Int32} {o_xaside : Nat → Int32} {o_xfound : Nat → Int32} {o_xover : Nat → Int32} (C0 : CX X p s m args meth c cX5_built 3 (some .int) RX5 A) : ∀ {xs : Nat → Int32} {xaside : Nat → Int32} {xfound : Nat → Int32} {xover : Nat → Int32} {v1 : Int32} {v2 : Int32} {H : Heap} {locs : List Loc} {ls : Array Slot}, GX X D (tyM cI cC) A s (wM cI cC ad xs xkept xaside xisK xfound xgone xover xtape xtaped xtok xbeg xend xval xwid xsiz xcel xcar) H locs → lv_has ls 3 [(0, .ref (ad 0)), (1, .int v1), (2, .int v2)] → f5_built xs xaside xfound xgone xover v1 v2 = some (r0, o_xs, o_xaside, o_xfound, o_xover) → W p l e ({ frames := 8, cells := 0, slots := 0, locals := 188 }) s m args below meth c H locs 0 0 (MQ below (QcI D (tyM cI cC) (wM cI cC ad o_xs xkept o_xaside xisK o_xfound xgone o_xover xtape xtaped xtok xbeg xend xval xwid xsiz xcel xcar) A r0) args s 0 0 A) (F0 m 0 ls []) := by
  have hx := C0.1
  have hb := C0.2.1
  have hown := C0.2.2.2.2.1
  have hts := C0.2.2.2.2.2.1
  have hX := C0.2.2.2.2.2.2.2.2
  intro xs xaside xfound xover v1 v2 H locs ls G hl hf
  unfold f5_built at hf
  refine lv_aload_n hx hb dX5_built_0 rfl (lv_at hl 0 rfl) ?_
  refine lv_iload_n hx hb dX5_built_1 rfl (lv_at hl 1 rfl) ?_
  refine go_i C0 G (runV_of (n := 1) (q0 := 0) (As := [.int v1]) (rest := []) C0 G (c5_isVisitor hX rfl) q825 q54 q822 q824 q14 o5_isVisitor ⟨rfl, rfl⟩ ⟨Nat.le_of_ble_eq_true rfl, Nat.le_of_ble_eq_true rfl⟩ rfl rfl rfl hl.1 rfl (Nat.le_of_ble_eq_true rfl) dX5_built_2) (fun H locs G => ?_)
  refine lv_if_eq (tgt := 36) hx hb dX5_built_5 (by decide) (fun hc1 => ?_) (fun hc1 => ?_)
  · have hf := itp hc1 hf
    exact b5_built_36 C0  G (lv_sub hl [0] rfl) hf
  · have hf := itn hc1 hf
    refine lv_iload_n hx hb dX5_built_8 rfl (lv_at hl 2 rfl) ?_
    refine lv_iconst (v := (0 : Int32)) hx hb dX5_built_9 (by decide) ?_
    refine lv_bipush (v := (100 : Int32)) hx hb dX5_built_10 (by decide) ?_
    refine go_i C0 G (runS_of (n := 3) (As := [.int v2, .int (0 : Int32), .int (100 : Int32)]) (rest := []) C0 G (c5_in1 hX rfl) q784 q54 q782 q783 o5_in1 ⟨rfl, rfl⟩ ⟨Nat.le_of_ble_eq_true rfl, Nat.le_of_ble_eq_true rfl⟩ rfl hl.1 rfl (Nat.le_of_ble_eq_true rfl) dX5_built_12) (fun H locs G => ?_)
    refine lv_if_eq (tgt := 36) hx hb dX5_built_15 (by decide) (fun hc2 => ?_) (fun hc2 => ?_)
    · have hf := itp hc2 hf
      exact b5_built_36 C0  G (lv_sub hl [0] rfl) hf
    · have hf := itn hc2 hf
      refine lv_aload_n hx hb dX5_built_18 rfl (lv_at hl 0 rfl) ?_
      refine lv_bipush (v := (22 : Int32)) hx hb dX5_built_19 (by decide) ?_
      refine lv_bipush (v := (7 : Int32)) hx hb dX5_built_21 (by decide) ?_
      refine lv_iload_n hx hb dX5_built_23 rfl (lv_at hl 1 rfl) ?_
      refine lv_imul hx hb dX5_built_24 ?_
      refine lv_iadd hx hb dX5_built_25 ?_
      refine lv_bipush (v := (6 : Int32)) hx hb dX5_built_26 (by decide) ?_
      refine lv_iadd hx hb dX5_built_28 ?_
      refine lv_iload_n hx hb dX5_built_29 rfl (lv_at hl 2 rfl) ?_
      obtain ⟨r3, xs_4, xaside_5, xover_6, hc7, hf⟩ := ob4_s hf
      refine go_i C0 G (runV_of (n := 2) (q0 := 0) (As := [.int (((22 : Int32) + ((7 : Int32) * v1)) + (6 : Int32)), .int v2]) (rest := []) C0 G (c5_thenAt hX hc7) q915 q54 q912 q914 q29 o5_thenAt ⟨rfl, rfl⟩ ⟨Nat.le_of_ble_eq_true rfl, Nat.le_of_ble_eq_true rfl⟩ rfl rfl rfl hl.1 rfl (Nat.le_of_ble_eq_true rfl) dX5_built_30) (fun H locs G => ?_)
      refine lv_goto (tgt := 41) hx hb dX5_built_33 (by decide) ?_
      obtain ⟨rfl, rfl, rfl, rfl, rfl⟩ := inj5 hf
      exact ret_i C0 G dX5_built_41
theorem o5_built : okName yX5_built 2 := ⟨by decide, by decide, by decide +kernel⟩
set_option maxHeartbeats 4000000 in
set_option maxRecDepth 100000 in
theorem c5_built {X : XP} (hX : XT X) {l : Launch} {D : va_G} {cI cC : ClassId} {ad : Nat → Nat} {sz : Nat} {xs : Nat → Int32} {xkept : Nat → Int32} {xaside : Nat → Int32} {xisK : Int32} {xfound : Nat → Int32} {xgone : Int32} {xover : Nat → Int32} {xtape : Nat → Int32} {xtaped : Int32} {xtok : Int32} {xbeg : Int32} {xend : Int32} {xval : Int64} {xwid : Nat → Int32} {xsiz : Nat → Int32} {xcel : Nat → Int32} {xcar : Nat → Int32} {v1 : Int32} {v2 : Int32} {r0 : Int32} {o_xs : Nat → Int32} {o_xaside : Nat → Int32} {o_xfound : Nat → Int32} {o_xover : Nat → Int32} (hf : f5_built xs xaside xfound xgone xover v1 v2 = some (r0, o_xs, o_xaside, o_xfound, o_xover)) : Met l yX5_built (wU yX5_built cX5_built 3 (some .int)) ({ frames := 8, cells := 0, slots := 0, locals := 188 }) (va_Pc [.ref (ad 0), .int v1, .int v2] (PreW X D (tyM cI cC) (wM cI cC ad xs xkept xaside xisK xfound xgone xover xtape xtaped xtok xbeg xend xval xwid xsiz xcel xcar) sz)) (QcI D (tyM cI cC) (wM cI cC ad o_xs xkept o_xaside xisK o_xfound xgone o_xover xtape xtaped xtok xbeg xend xval xwid xsiz xcel xcar) (va_A (wM cI cC ad xs xkept xaside xisK xfound xgone xover xtape xtaped xtok xbeg xend xval xwid xsiz xcel xcar) sz) r0) 0 0 (va_A (wM cI cC ad xs xkept xaside xisK xfound xgone xover xtape xtaped xtok xbeg xend xval xwid xsiz xcel xcar) sz) := by
  refine startW hX (own := RX5) (by decide) rfl (Nat.le_of_ble_eq_true rfl) (fun p e s m args below meth c ls C0 G hl => ?_)
  exact b5_built_0 C0 G hl hf
/-! 5_isSo -/
theorem dX5_isSo_0 : decode cX5_isSo 0 = .ok (.iload_n 1, 1) := by decide +kernel
theorem dX5_isSo_1 : decode cX5_isSo 1 = .ok (.ifCond .ne 27, 3) := by decide +kernel
theorem dX5_isSo_4 : decode cX5_isSo 4 = .ok (.aload_n 0, 1) := by decide +kernel
theorem dX5_isSo_5 : decode cX5_isSo 5 = .ok (.iload_n 2, 1) := by decide +kernel
theorem dX5_isSo_6 : decode cX5_isSo 6 = .ok (.invokevirtual 80, 3) := by decide +kernel
theorem dX5_isSo_9 : decode cX5_isSo 9 = .ok (.ifCond .eq 15, 3) := by decide +kernel
theorem dX5_isSo_12 : decode cX5_isSo 12 = .ok (.aload_n 0, 1) := by decide +kernel
theorem dX5_isSo_13 : decode cX5_isSo 13 = .ok (.iload_n 3, 1) := by decide +kernel
theorem dX5_isSo_14 : decode cX5_isSo 14 = .ok (.invokevirtual 80, 3) := by decide +kernel
theorem dX5_isSo_17 : decode cX5_isSo 17 = .ok (.ifCond .eq 7, 3) := by decide +kernel
theorem dX5_isSo_20 : decode cX5_isSo 20 = .ok (.iconst 1, 1) := by decide +kernel
theorem dX5_isSo_21 : decode cX5_isSo 21 = .ok (.goto 42, 3) := by decide +kernel
theorem dX5_isSo_24 : decode cX5_isSo 24 = .ok (.iconst 0, 1) := by decide +kernel
theorem dX5_isSo_25 : decode cX5_isSo 25 = .ok (.goto 38, 3) := by decide +kernel
theorem dX5_isSo_28 : decode cX5_isSo 28 = .ok (.iload_n 1, 1) := by decide +kernel
theorem dX5_isSo_29 : decode cX5_isSo 29 = .ok (.iconst 1, 1) := by decide +kernel
theorem dX5_isSo_30 : decode cX5_isSo 30 = .ok (.if_icmp .ne 19, 3) := by decide +kernel
theorem dX5_isSo_33 : decode cX5_isSo 33 = .ok (.aload_n 0, 1) := by decide +kernel
theorem dX5_isSo_34 : decode cX5_isSo 34 = .ok (.invokevirtual 123, 3) := by decide +kernel
theorem dX5_isSo_37 : decode cX5_isSo 37 = .ok (.iload_n 2, 1) := by decide +kernel
theorem dX5_isSo_38 : decode cX5_isSo 38 = .ok (.if_icmp .lt 7, 3) := by decide +kernel
theorem dX5_isSo_41 : decode cX5_isSo 41 = .ok (.iconst 1, 1) := by decide +kernel
theorem dX5_isSo_42 : decode cX5_isSo 42 = .ok (.goto 21, 3) := by decide +kernel
theorem dX5_isSo_45 : decode cX5_isSo 45 = .ok (.iconst 0, 1) := by decide +kernel
theorem dX5_isSo_46 : decode cX5_isSo 46 = .ok (.goto 17, 3) := by decide +kernel
theorem dX5_isSo_49 : decode cX5_isSo 49 = .ok (.aload_n 0, 1) := by decide +kernel
theorem dX5_isSo_50 : decode cX5_isSo 50 = .ok (.getfield 9, 3) := by decide +kernel
theorem dX5_isSo_53 : decode cX5_isSo 53 = .ok (.iconst 3, 1) := by decide +kernel
theorem dX5_isSo_54 : decode cX5_isSo 54 = .ok (.iaload, 1) := by decide +kernel
theorem dX5_isSo_55 : decode cX5_isSo 55 = .ok (.ifCond .ne 7, 3) := by decide +kernel
theorem dX5_isSo_58 : decode cX5_isSo 58 = .ok (.iconst 1, 1) := by decide +kernel
theorem dX5_isSo_59 : decode cX5_isSo 59 = .ok (.goto 4, 3) := by decide +kernel
theorem dX5_isSo_62 : decode cX5_isSo 62 = .ok (.iconst 0, 1) := by decide +kernel
theorem dX5_isSo_63 : decode cX5_isSo 63 = .ok (.ireturn, 1) := by decide +kernel
def j5_isSo_24  (xs : Nat → Int32)  : Option (Int32) :=
  some (0 : Int32)
def f5_isSo (xs : Nat → Int32) (v1 : Int32) (v2 : Int32) (v3 : Int32) : Option (Int32) :=
  if v1 = (0 : Int32) then (
    ob1 (f5_standsNow xs v2) (fun r7 =>
    if r7 = (0 : Int32) then (
      j5_isSo_24 xs)
    else (
      ob1 (f5_standsNow xs v3) (fun r10 =>
      if r10 = (0 : Int32) then (
        j5_isSo_24 xs)
      else (
        some (1 : Int32))))))
  else (
    if v1 = (1 : Int32) then (
      ob1 (f5_roadNow xs) (fun r4 =>
      if r4 < v2 then (
        some (0 : Int32))
      else (
        some (1 : Int32))))
    else (
      if (xs 3) = (0 : Int32) then (
        some (1 : Int32))
      else (
        some (0 : Int32))))
set_option maxHeartbeats 4000000 in
set_option maxRecDepth 100000 in
theorem b5_isSo_24 {X : XP} {p : Program} {l : Launch} {e : Env} {s : State} {m : MethodId} {args : Array Value} {below : List Frame} {meth : Method} {c : Code} {D : va_G} {cI cC : ClassId} {ad : Nat → Nat} {A : Nat → Prop} {xs : Nat → Int32} {xkept : Nat → Int32} {xaside : Nat → Int32} {xisK : Int32} {xfound : Nat → Int32} {xgone : Int32} {xover : Nat → Int32} {xtape : Nat → Int32} {xtaped : Int32} {xtok : Int32} {xbeg : Int32} {xend : Int32} {xval : Int64} {xwid : Nat → Int32} {xsiz : Nat → Int32} {xcel : Nat → Int32} {xcar : Nat → Int32} {r0 : Int32} (C0 : CX X p s m args meth c cX5_isSo 4 (some .boolean) RX5 A) : ∀ {H : Heap} {locs : List Loc} {ls : Array Slot}, GX X D (tyM cI cC) A s (wM cI cC ad xs xkept xaside xisK xfound xgone xover xtape xtaped xtok xbeg xend xval xwid xsiz xcel xcar) H locs → lv_has ls 4 [] → j5_isSo_24  xs = some r0 → W p l e ({ frames := 4, cells := 0, slots := 0, locals := 96 }) s m args below meth c H locs 0 0 (MQ below (QcI D (tyM cI cC) (wM cI cC ad xs xkept xaside xisK xfound xgone xover xtape xtaped xtok xbeg xend xval xwid xsiz xcel xcar) A r0) args s 0 0 A) (F0 m 24 ls []) := by
  have hx := C0.1
  have hb := C0.2.1
  have hown := C0.2.2.2.2.1
  have hts := C0.2.2.2.2.2.1
  have hX := C0.2.2.2.2.2.2.2.2
  intro H locs ls G hl hf
  unfold j5_isSo_24 at hf
  refine lv_iconst (v := (0 : Int32)) hx hb dX5_isSo_24 (by decide) ?_
  refine lv_goto (tgt := 63) hx hb dX5_isSo_25 (by decide) ?_
  obtain rfl := inj1 hf
  exact ret_z C0 G rfl dX5_isSo_63
set_option maxHeartbeats 4000000 in
set_option maxRecDepth 100000 in
theorem b5_isSo_0 {X : XP} {p : Program} {l : Launch} {e : Env} {s : State} {m : MethodId} {args : Array Value} {below : List Frame} {meth : Method} {c : Code} {D : va_G} {cI cC : ClassId} {ad : Nat → Nat} {A : Nat → Prop} {xs : Nat → Int32} {xkept : Nat → Int32} {xaside : Nat → Int32} {xisK : Int32} {xfound : Nat → Int32} {xgone : Int32} {xover : Nat → Int32} {xtape : Nat → Int32} {xtaped : Int32} {xtok : Int32} {xbeg : Int32} {xend : Int32} {xval : Int64} {xwid : Nat → Int32} {xsiz : Nat → Int32} {xcel : Nat → Int32} {xcar : Nat → Int32} {r0 : Int32} (C0 : CX X p s m args meth c cX5_isSo 4 (some .boolean) RX5 A) : ∀ {v1 : Int32} {v2 : Int32} {v3 : Int32} {H : Heap} {locs : List Loc} {ls : Array Slot}, GX X D (tyM cI cC) A s (wM cI cC ad xs xkept xaside xisK xfound xgone xover xtape xtaped xtok xbeg xend xval xwid xsiz xcel xcar) H locs → lv_has ls 4 [(0, .ref (ad 0)), (1, .int v1), (2, .int v2), (3, .int v3)] → f5_isSo xs v1 v2 v3 = some r0 → W p l e ({ frames := 4, cells := 0, slots := 0, locals := 96 }) s m args below meth c H locs 0 0 (MQ below (QcI D (tyM cI cC) (wM cI cC ad xs xkept xaside xisK xfound xgone xover xtape xtaped xtok xbeg xend xval xwid xsiz xcel xcar) A r0) args s 0 0 A) (F0 m 0 ls []) := by
  have hx := C0.1
  have hb := C0.2.1
  have hown := C0.2.2.2.2.1
  have hts := C0.2.2.2.2.2.1
  have hX := C0.2.2.2.2.2.2.2.2
  intro v1 v2 v3 H locs ls G hl hf
  unfold f5_isSo at hf
  refine lv_iload_n hx hb dX5_isSo_0 rfl (lv_at hl 1 rfl) ?_
  refine lv_if_ne (tgt := 28) hx hb dX5_isSo_1 (by decide) (fun hc1 => ?_) (fun hc1 => ?_)
  · have hf := itn hc1 hf
    refine lv_iload_n hx hb dX5_isSo_28 rfl (lv_at hl 1 rfl) ?_
    refine lv_iconst (v := (1 : Int32)) hx hb dX5_isSo_29 (by decide) ?_
    refine lv_icmp_ne (tgt := 49) hx hb dX5_isSo_30 (by decide) (fun hc2 => ?_) (fun hc2 => ?_)
    · have hf := itn hc2 hf
      refine lv_aload_n hx hb dX5_isSo_49 rfl (lv_at hl 0 rfl) ?_
      refine s_get (C := RX5) (T := TX5) C0 G i_X5 0 0 rfl rfl (by decide) q713 rfl dX5_isSo_50 ?_
      refine lv_iconst (v := (3 : Int32)) hx hb dX5_isSo_53 (by decide) ?_
      refine s_iald (k := 3) C0 G 1 0 rfl rfl (vin (by decide)) (by decide) dX5_isSo_54 ?_
      refine lv_if_ne (tgt := 62) hx hb dX5_isSo_55 (by decide) (fun hc3 => ?_) (fun hc3 => ?_)
      · have hf := itn hc3 hf
        refine lv_iconst (v := (0 : Int32)) hx hb dX5_isSo_62 (by decide) ?_
        obtain rfl := inj1 hf
        exact ret_z C0 G rfl dX5_isSo_63
      · have hf := itp hc3 hf
        refine lv_iconst (v := (1 : Int32)) hx hb dX5_isSo_58 (by decide) ?_
        refine lv_goto (tgt := 63) hx hb dX5_isSo_59 (by decide) ?_
        obtain rfl := inj1 hf
        exact ret_z C0 G rfl dX5_isSo_63
    · have hf := itp hc2 hf
      refine lv_aload_n hx hb dX5_isSo_33 rfl (lv_at hl 0 rfl) ?_
      obtain ⟨r4, hc5, hf⟩ := ob1_s hf
      refine go_i C0 G (runV_of (n := 0) (q0 := 0) (As := []) (rest := []) C0 G (c5_roadNow hX hc5) q887 q54 q884 q886 q24 o5_roadNow ⟨rfl, rfl⟩ ⟨Nat.le_of_ble_eq_true rfl, Nat.le_of_ble_eq_true rfl⟩ rfl rfl rfl hl.1 rfl (Nat.le_of_ble_eq_true rfl) dX5_isSo_34) (fun H locs G => ?_)
      refine lv_iload_n hx hb dX5_isSo_37 rfl (lv_at hl 2 rfl) ?_
      refine lv_icmp_lt (tgt := 45) hx hb dX5_isSo_38 (by decide) (fun hc6 => ?_) (fun hc6 => ?_)
      · have hf := itp hc6 hf
        refine lv_iconst (v := (0 : Int32)) hx hb dX5_isSo_45 (by decide) ?_
        refine lv_goto (tgt := 63) hx hb dX5_isSo_46 (by decide) ?_
        obtain rfl := inj1 hf
        exact ret_z C0 G rfl dX5_isSo_63
      · have hf := itn hc6 hf
        refine lv_iconst (v := (1 : Int32)) hx hb dX5_isSo_41 (by decide) ?_
        refine lv_goto (tgt := 63) hx hb dX5_isSo_42 (by decide) ?_
        obtain rfl := inj1 hf
        exact ret_z C0 G rfl dX5_isSo_63
  · have hf := itp hc1 hf
    refine lv_aload_n hx hb dX5_isSo_4 rfl (lv_at hl 0 rfl) ?_
    refine lv_iload_n hx hb dX5_isSo_5 rfl (lv_at hl 2 rfl) ?_
    obtain ⟨r7, hc8, hf⟩ := ob1_s hf
    refine go_i C0 G (runV_of (n := 1) (q0 := 0) (As := [.int v2]) (rest := []) C0 G (c5_standsNow hX hc8) q840 q54 q837 q839 q17 o5_standsNow ⟨rfl, rfl⟩ ⟨Nat.le_of_ble_eq_true rfl, Nat.le_of_ble_eq_true rfl⟩ rfl rfl rfl hl.1 rfl (Nat.le_of_ble_eq_true rfl) dX5_isSo_6) (fun H locs G => ?_)
    refine lv_if_eq (tgt := 24) hx hb dX5_isSo_9 (by decide) (fun hc9 => ?_) (fun hc9 => ?_)
    · have hf := itp hc9 hf
      exact b5_isSo_24 C0  G (lv_sub hl [] rfl) hf
    · have hf := itn hc9 hf
      refine lv_aload_n hx hb dX5_isSo_12 rfl (lv_at hl 0 rfl) ?_
      refine lv_iload_n hx hb dX5_isSo_13 rfl (lv_at hl 3 rfl) ?_
      obtain ⟨r10, hc11, hf⟩ := ob1_s hf
      refine go_i C0 G (runV_of (n := 1) (q0 := 0) (As := [.int v3]) (rest := []) C0 G (c5_standsNow hX hc11) q840 q54 q837 q839 q17 o5_standsNow ⟨rfl, rfl⟩ ⟨Nat.le_of_ble_eq_true rfl, Nat.le_of_ble_eq_true rfl⟩ rfl rfl rfl hl.1 rfl (Nat.le_of_ble_eq_true rfl) dX5_isSo_14) (fun H locs G => ?_)
      refine lv_if_eq (tgt := 24) hx hb dX5_isSo_17 (by decide) (fun hc12 => ?_) (fun hc12 => ?_)
      · have hf := itp hc12 hf
        exact b5_isSo_24 C0  G (lv_sub hl [] rfl) hf
      · have hf := itn hc12 hf
        refine lv_iconst (v := (1 : Int32)) hx hb dX5_isSo_20 (by decide) ?_
        refine lv_goto (tgt := 63) hx hb dX5_isSo_21 (by decide) ?_
        obtain rfl := inj1 hf
        exact ret_z C0 G rfl dX5_isSo_63
theorem o5_isSo : okName yX5_isSo 3 := ⟨by decide, by decide, by decide +kernel⟩
set_option maxHeartbeats 4000000 in
set_option maxRecDepth 100000 in
theorem c5_isSo {X : XP} (hX : XT X) {l : Launch} {D : va_G} {cI cC : ClassId} {ad : Nat → Nat} {sz : Nat} {xs : Nat → Int32} {xkept : Nat → Int32} {xaside : Nat → Int32} {xisK : Int32} {xfound : Nat → Int32} {xgone : Int32} {xover : Nat → Int32} {xtape : Nat → Int32} {xtaped : Int32} {xtok : Int32} {xbeg : Int32} {xend : Int32} {xval : Int64} {xwid : Nat → Int32} {xsiz : Nat → Int32} {xcel : Nat → Int32} {xcar : Nat → Int32} {v1 : Int32} {v2 : Int32} {v3 : Int32} {r0 : Int32} (hf : f5_isSo xs v1 v2 v3 = some r0) : Met l yX5_isSo (wU yX5_isSo cX5_isSo 4 (some .boolean)) ({ frames := 4, cells := 0, slots := 0, locals := 96 }) (va_Pc [.ref (ad 0), .int v1, .int v2, .int v3] (PreW X D (tyM cI cC) (wM cI cC ad xs xkept xaside xisK xfound xgone xover xtape xtaped xtok xbeg xend xval xwid xsiz xcel xcar) sz)) (QcI D (tyM cI cC) (wM cI cC ad xs xkept xaside xisK xfound xgone xover xtape xtaped xtok xbeg xend xval xwid xsiz xcel xcar) (va_A (wM cI cC ad xs xkept xaside xisK xfound xgone xover xtape xtaped xtok xbeg xend xval xwid xsiz xcel xcar) sz) r0) 0 0 (va_A (wM cI cC ad xs xkept xaside xisK xfound xgone xover xtape xtaped xtok xbeg xend xval xwid xsiz xcel xcar) sz) := by
  refine startW hX (own := RX5) (by decide) rfl (Nat.le_of_ble_eq_true rfl) (fun p e s m args below meth c ls C0 G hl => ?_)
  exact b5_isSo_0 C0 G hl hf
/-! 5_firstBy -/
theorem dX5_firstBy_0 : decode cX5_firstBy 0 = .ok (.aload_n 0, 1) := by decide +kernel
theorem dX5_firstBy_1 : decode cX5_firstBy 1 = .ok (.invokevirtual 140, 3) := by decide +kernel
theorem dX5_firstBy_4 : decode cX5_firstBy 4 = .ok (.iconst 0, 1) := by decide +kernel
theorem dX5_firstBy_5 : decode cX5_firstBy 5 = .ok (.istore 4, 2) := by decide +kernel
theorem dX5_firstBy_7 : decode cX5_firstBy 7 = .ok (.iload 4, 2) := by decide +kernel
theorem dX5_firstBy_9 : decode cX5_firstBy 9 = .ok (.bipush 100, 2) := by decide +kernel
theorem dX5_firstBy_11 : decode cX5_firstBy 11 = .ok (.if_icmp .gt 23, 3) := by decide +kernel
theorem dX5_firstBy_14 : decode cX5_firstBy 14 = .ok (.aload_n 0, 1) := by decide +kernel
theorem dX5_firstBy_15 : decode cX5_firstBy 15 = .ok (.iload_n 1, 1) := by decide +kernel
theorem dX5_firstBy_16 : decode cX5_firstBy 16 = .ok (.iload_n 2, 1) := by decide +kernel
theorem dX5_firstBy_17 : decode cX5_firstBy 17 = .ok (.iload_n 3, 1) := by decide +kernel
theorem dX5_firstBy_18 : decode cX5_firstBy 18 = .ok (.invokevirtual 149, 3) := by decide +kernel
theorem dX5_firstBy_21 : decode cX5_firstBy 21 = .ok (.ifCond .ne 13, 3) := by decide +kernel
theorem dX5_firstBy_24 : decode cX5_firstBy 24 = .ok (.aload_n 0, 1) := by decide +kernel
theorem dX5_firstBy_25 : decode cX5_firstBy 25 = .ok (.invokevirtual 102, 3) := by decide +kernel
theorem dX5_firstBy_28 : decode cX5_firstBy 28 = .ok (.iinc 4 1, 3) := by decide +kernel
theorem dX5_firstBy_31 : decode cX5_firstBy 31 = .ok (.goto (-24), 3) := by decide +kernel
theorem dX5_firstBy_34 : decode cX5_firstBy 34 = .ok (.aload_n 0, 1) := by decide +kernel
theorem dX5_firstBy_35 : decode cX5_firstBy 35 = .ok (.invokevirtual 143, 3) := by decide +kernel
theorem dX5_firstBy_38 : decode cX5_firstBy 38 = .ok (.iload 4, 2) := by decide +kernel
theorem dX5_firstBy_40 : decode cX5_firstBy 40 = .ok (.bipush 100, 2) := by decide +kernel
theorem dX5_firstBy_42 : decode cX5_firstBy 42 = .ok (.if_icmp .le 11, 3) := by decide +kernel
theorem dX5_firstBy_45 : decode cX5_firstBy 45 = .ok (.aload_n 0, 1) := by decide +kernel
theorem dX5_firstBy_46 : decode cX5_firstBy 46 = .ok (.iconst 3, 1) := by decide +kernel
theorem dX5_firstBy_47 : decode cX5_firstBy 47 = .ok (.invokevirtual 105, 3) := by decide +kernel
theorem dX5_firstBy_50 : decode cX5_firstBy 50 = .ok (.goto 5, 3) := by decide +kernel
theorem dX5_firstBy_53 : decode cX5_firstBy 53 = .ok (.iload 4, 2) := by decide +kernel
theorem dX5_firstBy_55 : decode cX5_firstBy 55 = .ok (.ireturn, 1) := by decide +kernel
def j5_firstBy_34  (xs : Nat → Int32) (xaside : Nat → Int32) (xfound : Nat → Int32) (xgone : Int32) (xover : Nat → Int32) (v4 : Int32) : Option (Int32 × (Nat → Int32) × (Nat → Int32) × (Nat → Int32) × (Nat → Int32)) :=
  ob1 (f5_laysBack xs xaside) (fun xs_10 =>
  if v4 ≤ (100 : Int32) then (
    some (v4, xs_10, xaside, xfound, xover))
  else (
    ob2 (f5_no xfound (3 : Int32)) (fun r13 xfound_14 =>
    some (r13, xs_10, xaside, xfound_14, xover))))
def l5_firstBy_7  : Nat → (Nat → Int32) → (Nat → Int32) → (Nat → Int32) → Int32 → (Nat → Int32) → Int32 → Int32 → Int32 → Int32 → Option (Int32 × (Nat → Int32) × (Nat → Int32) × (Nat → Int32) × (Nat → Int32))
  | 0, _, _, _, _, _, _, _, _, _ => none
  | n + 1, xs, xaside, xfound, xgone, xover, v1, v2, v3, v4 =>
    if (100 : Int32) < v4 then (
      j5_firstBy_34 xs xaside xfound xgone xover v4)
    else (
      ob1 (f5_isSo xs v1 v2 v3) (fun r4 =>
      if r4 = (0 : Int32) then (
        ob2 (f5_day xs xgone xover) (fun xs_7 xover_8 =>
        (l5_firstBy_7 n) xs_7 xaside xfound xgone xover_8 v1 v2 v3 (v4 + (1 : Int32))))
      else (
        j5_firstBy_34 xs xaside xfound xgone xover v4)))
def f5_firstBy (xs : Nat → Int32) (xaside : Nat → Int32) (xfound : Nat → Int32) (xgone : Int32) (xover : Nat → Int32) (v1 : Int32) (v2 : Int32) (v3 : Int32) : Option (Int32 × (Nat → Int32) × (Nat → Int32) × (Nat → Int32) × (Nat → Int32)) :=
  ob1 (f5_setsAside xs xaside) (fun xaside_1 =>
  l5_firstBy_7 1000 xs xaside_1 xfound xgone xover v1 v2 v3 (0 : Int32))
set_option maxHeartbeats 4000000 in
set_option maxRecDepth 100000 in
theorem b5_firstBy_34 {X : XP} {p : Program} {l : Launch} {e : Env} {s : State} {m : MethodId} {args : Array Value} {below : List Frame} {meth : Method} {c : Code} {D : va_G} {cI cC : ClassId} {ad : Nat → Nat} {A : Nat → Prop} {xkept : Nat → Int32} {xisK : Int32} {xgone : Int32} {xtape : Nat → Int32} {xtaped : Int32} {xtok : Int32} {xbeg : Int32} {xend : Int32} {xval : Int64} {xwid : Nat → Int32} {xsiz : Nat → Int32} {xcel : Nat → Int32} {xcar : Nat → Int32} {r0 : Int32} {o_xs : Nat → Int32} {o_xaside : Nat → Int32} {o_xfound : Nat → Int32} {o_xover : Nat → Int32} (C0 : CX X p s m args meth c cX5_firstBy 5 (some .int) RX5 A) : ∀ {xs : Nat → Int32} {xaside : Nat → Int32} {xfound : Nat → Int32} {xover : Nat → Int32} {v4 : Int32} {H : Heap} {locs : List Loc} {ls : Array Slot}, GX X D (tyM cI cC) A s (wM cI cC ad xs xkept xaside xisK xfound xgone xover xtape xtaped xtok xbeg xend xval xwid xsiz xcel xcar) H locs → lv_has ls 5 [(0, .ref (ad 0)), (4, .int v4)] → j5_firstBy_34  xs xaside xfound xgone xover v4 = some (r0, o_xs, o_xaside, o_xfound, o_xover) → W p l e ({ frames := 6, cells := 0, slots := 0, locals := 143 }) s m args below meth c H locs 0 0 (MQ below (QcI D (tyM cI cC) (wM cI cC ad o_xs xkept o_xaside xisK o_xfound xgone o_xover xtape xtaped xtok xbeg xend xval xwid xsiz xcel xcar) A r0) args s 0 0 A) (F0 m 34 ls []) := by
  have hx := C0.1
  have hb := C0.2.1
  have hown := C0.2.2.2.2.1
  have hts := C0.2.2.2.2.2.1
  have hX := C0.2.2.2.2.2.2.2.2
  intro xs xaside xfound xover v4 H locs ls G hl hf
  unfold j5_firstBy_34 at hf
  refine lv_aload_n hx hb dX5_firstBy_34 rfl (lv_at hl 0 rfl) ?_
  obtain ⟨xs_10, hc11, hf⟩ := ob1_s hf
  refine go_v C0 G (runV_of (n := 0) (q0 := 0) (As := []) (rest := []) C0 G (c5_laysBack hX hc11) q923 q54 q920 q922 q31 o5_laysBack ⟨rfl, rfl⟩ ⟨Nat.le_of_ble_eq_true rfl, Nat.le_of_ble_eq_true rfl⟩ rfl rfl rfl hl.1 rfl (Nat.le_of_ble_eq_true rfl) dX5_firstBy_35) (fun H locs G => ?_)
  refine lv_iload hx hb dX5_firstBy_38 (lv_at hl 1 rfl) ?_
  refine lv_bipush (v := (100 : Int32)) hx hb dX5_firstBy_40 (by decide) ?_
  refine lv_icmp_le (tgt := 53) hx hb dX5_firstBy_42 (by decide) (fun hc12 => ?_) (fun hc12 => ?_)
  · have hf := itp hc12 hf
    refine lv_iload hx hb dX5_firstBy_53 (lv_at hl 1 rfl) ?_
    obtain ⟨rfl, rfl, rfl, rfl, rfl⟩ := inj5 hf
    exact ret_i C0 G dX5_firstBy_55
  · have hf := itn hc12 hf
    refine lv_aload_n hx hb dX5_firstBy_45 rfl (lv_at hl 0 rfl) ?_
    refine lv_iconst (v := (3 : Int32)) hx hb dX5_firstBy_46 (by decide) ?_
    obtain ⟨r13, xfound_14, hc15, hf⟩ := ob2_s hf
    refine go_i C0 G (runV_of (n := 1) (q0 := 0) (As := [.int (3 : Int32)]) (rest := []) C0 G (c5_no hX hc15) q788 q54 q785 q787 q9 o5_no ⟨rfl, rfl⟩ ⟨Nat.le_of_ble_eq_true rfl, Nat.le_of_ble_eq_true rfl⟩ rfl rfl rfl hl.1 rfl (Nat.le_of_ble_eq_true rfl) dX5_firstBy_47) (fun H locs G => ?_)
    refine lv_goto (tgt := 55) hx hb dX5_firstBy_50 (by decide) ?_
    obtain ⟨rfl, rfl, rfl, rfl, rfl⟩ := inj5 hf
    exact ret_i C0 G dX5_firstBy_55
set_option maxHeartbeats 4000000 in
set_option maxRecDepth 100000 in
theorem b5_firstBy_7 {X : XP} {p : Program} {l : Launch} {e : Env} {s : State} {m : MethodId} {args : Array Value} {below : List Frame} {meth : Method} {c : Code} {D : va_G} {cI cC : ClassId} {ad : Nat → Nat} {A : Nat → Prop} {xkept : Nat → Int32} {xisK : Int32} {xgone : Int32} {xtape : Nat → Int32} {xtaped : Int32} {xtok : Int32} {xbeg : Int32} {xend : Int32} {xval : Int64} {xwid : Nat → Int32} {xsiz : Nat → Int32} {xcel : Nat → Int32} {xcar : Nat → Int32} {r0 : Int32} {o_xs : Nat → Int32} {o_xaside : Nat → Int32} {o_xfound : Nat → Int32} {o_xover : Nat → Int32} (C0 : CX X p s m args meth c cX5_firstBy 5 (some .int) RX5 A) : ∀ (n : Nat) {xs : Nat → Int32} {xaside : Nat → Int32} {xfound : Nat → Int32} {xover : Nat → Int32} {v1 : Int32} {v2 : Int32} {v3 : Int32} {v4 : Int32} {H : Heap} {locs : List Loc} {ls : Array Slot}, GX X D (tyM cI cC) A s (wM cI cC ad xs xkept xaside xisK xfound xgone xover xtape xtaped xtok xbeg xend xval xwid xsiz xcel xcar) H locs → lv_has ls 5 [(0, .ref (ad 0)), (1, .int v1), (2, .int v2), (3, .int v3), (4, .int v4)] → l5_firstBy_7  n xs xaside xfound xgone xover v1 v2 v3 v4 = some (r0, o_xs, o_xaside, o_xfound, o_xover) → W p l e ({ frames := 6, cells := 0, slots := 0, locals := 143 }) s m args below meth c H locs 0 0 (MQ below (QcI D (tyM cI cC) (wM cI cC ad o_xs xkept o_xaside xisK o_xfound xgone o_xover xtape xtaped xtok xbeg xend xval xwid xsiz xcel xcar) A r0) args s 0 0 A) (F0 m 7 ls []) := by
  have hx := C0.1
  have hb := C0.2.1
  have hown := C0.2.2.2.2.1
  have hts := C0.2.2.2.2.2.1
  have hX := C0.2.2.2.2.2.2.2.2
  intro n
  induction n with
  | zero =>
    intro _ _ _ _ _ _ _ _ _ _ _ G hl hf
    cases hf
  | succ n ih =>
    intro xs xaside xfound xover v1 v2 v3 v4 H locs ls G hl hf
    rw [l5_firstBy_7] at hf
    refine lv_iload hx hb dX5_firstBy_7 (lv_at hl 4 rfl) ?_
    refine lv_bipush (v := (100 : Int32)) hx hb dX5_firstBy_9 (by decide) ?_
    refine lv_icmp_gt (tgt := 34) hx hb dX5_firstBy_11 (by decide) (fun hc3 => ?_) (fun hc3 => ?_)
    · have hf := itp hc3 hf
      exact b5_firstBy_34 C0  G (lv_sub hl [0, 4] rfl) hf
    · have hf := itn hc3 hf
      refine lv_aload_n hx hb dX5_firstBy_14 rfl (lv_at hl 0 rfl) ?_
      refine lv_iload_n hx hb dX5_firstBy_15 rfl (lv_at hl 1 rfl) ?_
      refine lv_iload_n hx hb dX5_firstBy_16 rfl (lv_at hl 2 rfl) ?_
      refine lv_iload_n hx hb dX5_firstBy_17 rfl (lv_at hl 3 rfl) ?_
      obtain ⟨r4, hc5, hf⟩ := ob1_s hf
      refine go_i C0 G (runV_of (n := 3) (q0 := 0) (As := [.int v1, .int v2, .int v3]) (rest := []) C0 G (c5_isSo hX hc5) q939 q54 q936 q938 q33 o5_isSo ⟨rfl, rfl⟩ ⟨Nat.le_of_ble_eq_true rfl, Nat.le_of_ble_eq_true rfl⟩ rfl rfl rfl hl.1 rfl (Nat.le_of_ble_eq_true rfl) dX5_firstBy_18) (fun H locs G => ?_)
      refine lv_if_ne (tgt := 34) hx hb dX5_firstBy_21 (by decide) (fun hc6 => ?_) (fun hc6 => ?_)
      · have hf := itn hc6 hf
        exact b5_firstBy_34 C0  G (lv_sub hl [0, 4] rfl) hf
      · have hf := itp hc6 hf
        refine lv_aload_n hx hb dX5_firstBy_24 rfl (lv_at hl 0 rfl) ?_
        obtain ⟨xs_7, xover_8, hc9, hf⟩ := ob2_s hf
        refine go_v C0 G (runV_of (n := 0) (q0 := 0) (As := []) (rest := []) C0 G (c5_day hX hc9) q875 q54 q872 q874 q21 o5_day ⟨rfl, rfl⟩ ⟨Nat.le_of_ble_eq_true rfl, Nat.le_of_ble_eq_true rfl⟩ rfl rfl rfl hl.1 rfl (Nat.le_of_ble_eq_true rfl) dX5_firstBy_25) (fun H locs G => ?_)
        refine lv_iinc (v := (v4 + (1 : Int32))) (lv' := [(4, .int (v4 + (1 : Int32))), (0, .ref (ad 0)), (1, .int v1), (2, .int v2), (3, .int v3)]) hx hb dX5_firstBy_28 hl (k := 4) rfl rfl (by decide) rfl (fun ls hl => ?_)
        refine lv_goto (tgt := 7) hx hb dX5_firstBy_31 (by decide) ?_
        exact ih G (lv_sub hl [1, 2, 3, 4, 0] rfl) hf
set_option maxHeartbeats 4000000 in
set_option maxRecDepth 100000 in
theorem b5_firstBy_0 {X : XP} {p : Program} {l : Launch} {e : Env} {s : State} {m : MethodId} {args : Array Value} {below : List Frame} {meth : Method} {c : Code} {D : va_G} {cI cC : ClassId} {ad : Nat → Nat} {A : Nat → Prop} {xkept : Nat → Int32} {xisK : Int32} {xgone : Int32} {xtape : Nat → Int32} {xtaped : Int32} {xtok : Int32} {xbeg : Int32} {xend : Int32} {xval : Int64} {xwid : Nat → Int32} {xsiz : Nat → Int32} {xcel : Nat → Int32} {xcar : Nat → Int32} {r0 : Int32} {o_xs : Nat → Int32} {o_xaside : Nat → Int32} {o_xfound : Nat → Int32} {o_xover : Nat → Int32} (C0 : CX X p s m args meth c cX5_firstBy 5 (some .int) RX5 A) : ∀ {xs : Nat → Int32} {xaside : Nat → Int32} {xfound : Nat → Int32} {xover : Nat → Int32} {v1 : Int32} {v2 : Int32} {v3 : Int32} {H : Heap} {locs : List Loc} {ls : Array Slot}, GX X D (tyM cI cC) A s (wM cI cC ad xs xkept xaside xisK xfound xgone xover xtape xtaped xtok xbeg xend xval xwid xsiz xcel xcar) H locs → lv_has ls 5 [(0, .ref (ad 0)), (1, .int v1), (2, .int v2), (3, .int v3)] → f5_firstBy xs xaside xfound xgone xover v1 v2 v3 = some (r0, o_xs, o_xaside, o_xfound, o_xover) → W p l e ({ frames := 6, cells := 0, slots := 0, locals := 143 }) s m args below meth c H locs 0 0 (MQ below (QcI D (tyM cI cC) (wM cI cC ad o_xs xkept o_xaside xisK o_xfound xgone o_xover xtape xtaped xtok xbeg xend xval xwid xsiz xcel xcar) A r0) args s 0 0 A) (F0 m 0 ls []) := by
  have hx := C0.1
  have hb := C0.2.1
  have hown := C0.2.2.2.2.1
  have hts := C0.2.2.2.2.2.1
  have hX := C0.2.2.2.2.2.2.2.2
  intro xs xaside xfound xover v1 v2 v3 H locs ls G hl hf
  unfold f5_firstBy at hf
  refine lv_aload_n hx hb dX5_firstBy_0 rfl (lv_at hl 0 rfl) ?_
  obtain ⟨xaside_1, hc2, hf⟩ := ob1_s hf
  refine go_v C0 G (runV_of (n := 0) (q0 := 0) (As := []) (rest := []) C0 G (c5_setsAside hX hc2) q919 q54 q916 q918 q30 o5_setsAside ⟨rfl, rfl⟩ ⟨Nat.le_of_ble_eq_true rfl, Nat.le_of_ble_eq_true rfl⟩ rfl rfl rfl hl.1 rfl (Nat.le_of_ble_eq_true rfl) dX5_firstBy_1) (fun H locs G => ?_)
  refine lv_iconst (v := (0 : Int32)) hx hb dX5_firstBy_4 (by decide) ?_
  refine lv_istore (lv' := [(4, .int (0 : Int32)), (0, .ref (ad 0)), (1, .int v1), (2, .int v2), (3, .int v3)]) hx hb dX5_firstBy_5 hl (by decide) rfl (fun ls hl => ?_)
  exact b5_firstBy_7 C0  1000 G (lv_sub hl [1, 2, 3, 4, 0] rfl) hf
theorem o5_firstBy : okName yX5_firstBy 3 := ⟨by decide, by decide, by decide +kernel⟩
set_option maxHeartbeats 4000000 in
set_option maxRecDepth 100000 in
theorem c5_firstBy {X : XP} (hX : XT X) {l : Launch} {D : va_G} {cI cC : ClassId} {ad : Nat → Nat} {sz : Nat} {xs : Nat → Int32} {xkept : Nat → Int32} {xaside : Nat → Int32} {xisK : Int32} {xfound : Nat → Int32} {xgone : Int32} {xover : Nat → Int32} {xtape : Nat → Int32} {xtaped : Int32} {xtok : Int32} {xbeg : Int32} {xend : Int32} {xval : Int64} {xwid : Nat → Int32} {xsiz : Nat → Int32} {xcel : Nat → Int32} {xcar : Nat → Int32} {v1 : Int32} {v2 : Int32} {v3 : Int32} {r0 : Int32} {o_xs : Nat → Int32} {o_xaside : Nat → Int32} {o_xfound : Nat → Int32} {o_xover : Nat → Int32} (hf : f5_firstBy xs xaside xfound xgone xover v1 v2 v3 = some (r0, o_xs, o_xaside, o_xfound, o_xover)) : Met l yX5_firstBy (wU yX5_firstBy cX5_firstBy 5 (some .int)) ({ frames := 6, cells := 0, slots := 0, locals := 143 }) (va_Pc [.ref (ad 0), .int v1, .int v2, .int v3] (PreW X D (tyM cI cC) (wM cI cC ad xs xkept xaside xisK xfound xgone xover xtape xtaped xtok xbeg xend xval xwid xsiz xcel xcar) sz)) (QcI D (tyM cI cC) (wM cI cC ad o_xs xkept o_xaside xisK o_xfound xgone o_xover xtape xtaped xtok xbeg xend xval xwid xsiz xcel xcar) (va_A (wM cI cC ad xs xkept xaside xisK xfound xgone xover xtape xtaped xtok xbeg xend xval xwid xsiz xcel xcar) sz) r0) 0 0 (va_A (wM cI cC ad xs xkept xaside xisK xfound xgone xover xtape xtaped xtok xbeg xend xval xwid xsiz xcel xcar) sz) := by
  refine startW hX (own := RX5) (by decide) rfl (Nat.le_of_ble_eq_true rfl) (fun p e s m args below meth c ls C0 G hl => ?_)
  exact b5_firstBy_0 C0 G hl hf
/-! 5_stands -/
theorem dX5_stands_0 : decode cX5_stands 0 = .ok (.aload_n 0, 1) := by decide +kernel
theorem dX5_stands_1 : decode cX5_stands 1 = .ok (.iload_n 1, 1) := by decide +kernel
theorem dX5_stands_2 : decode cX5_stands 2 = .ok (.invokevirtual 111, 3) := by decide +kernel
theorem dX5_stands_5 : decode cX5_stands 5 = .ok (.ifCond .eq 13, 3) := by decide +kernel
theorem dX5_stands_8 : decode cX5_stands 8 = .ok (.aload_n 0, 1) := by decide +kernel
theorem dX5_stands_9 : decode cX5_stands 9 = .ok (.iconst 0, 1) := by decide +kernel
theorem dX5_stands_10 : decode cX5_stands 10 = .ok (.iload_n 1, 1) := by decide +kernel
theorem dX5_stands_11 : decode cX5_stands 11 = .ok (.iload_n 1, 1) := by decide +kernel
theorem dX5_stands_12 : decode cX5_stands 12 = .ok (.invokevirtual 152, 3) := by decide +kernel
theorem dX5_stands_15 : decode cX5_stands 15 = .ok (.goto 8, 3) := by decide +kernel
theorem dX5_stands_18 : decode cX5_stands 18 = .ok (.aload_n 0, 1) := by decide +kernel
theorem dX5_stands_19 : decode cX5_stands 19 = .ok (.iconst 0, 1) := by decide +kernel
theorem dX5_stands_20 : decode cX5_stands 20 = .ok (.invokevirtual 105, 3) := by decide +kernel
theorem dX5_stands_23 : decode cX5_stands 23 = .ok (.ireturn, 1) := by decide +kernel
def f5_stands (xs : Nat → Int32) (xaside : Nat → Int32) (xfound : Nat → Int32) (xgone : Int32) (xover : Nat → Int32) (v1 : Int32) : Option (Int32 × (Nat → Int32) × (Nat → Int32) × (Nat → Int32) × (Nat → Int32)) :=
  if (f5_isVisitor xs v1) = (0 : Int32) then (
    ob2 (f5_no xfound (0 : Int32)) (fun r2 xfound_3 =>
    some (r2, xs, xaside, xfound_3, xover)))
  else (
    ob5 (f5_firstBy xs xaside xfound xgone xover (0 : Int32) v1 v1) (fun r5 xs_6 xaside_7 xfound_8 xover_9 =>
    some (r5, xs_6, xaside_7, xfound_8, xover_9)))
set_option maxHeartbeats 4000000 in
set_option maxRecDepth 100000 in
theorem b5_stands_0 {X : XP} {p : Program} {l : Launch} {e : Env} {s : State} {m : MethodId} {args : Array Value} {below : List Frame} {meth : Method} {c : Code} {D : va_G} {cI cC : ClassId} {ad : Nat → Nat} {A : Nat → Prop} {xkept : Nat → Int32} {xisK : Int32} {xgone : Int32} {xtape : Nat → Int32} {xtaped : Int32} {xtok : Int32} {xbeg : Int32} {xend : Int32} {xval : Int64} {xwid : Nat → Int32} {xsiz : Nat → Int32} {xcel : Nat → Int32} {xcar : Nat → Int32} {r0 : Int32} {o_xs : Nat → Int32} {o_xaside : Nat → Int32} {o_xfound : Nat → Int32} {o_xover : Nat → Int32} (C0 : CX X p s m args meth c cX5_stands 2 (some .int) RX5 A) : ∀ {xs : Nat → Int32} {xaside : Nat → Int32} {xfound : Nat → Int32} {xover : Nat → Int32} {v1 : Int32} {H : Heap} {locs : List Loc} {ls : Array Slot}, GX X D (tyM cI cC) A s (wM cI cC ad xs xkept xaside xisK xfound xgone xover xtape xtaped xtok xbeg xend xval xwid xsiz xcel xcar) H locs → lv_has ls 2 [(0, .ref (ad 0)), (1, .int v1)] → f5_stands xs xaside xfound xgone xover v1 = some (r0, o_xs, o_xaside, o_xfound, o_xover) → W p l e ({ frames := 7, cells := 0, slots := 0, locals := 167 }) s m args below meth c H locs 0 0 (MQ below (QcI D (tyM cI cC) (wM cI cC ad o_xs xkept o_xaside xisK o_xfound xgone o_xover xtape xtaped xtok xbeg xend xval xwid xsiz xcel xcar) A r0) args s 0 0 A) (F0 m 0 ls []) := by
  have hx := C0.1
  have hb := C0.2.1
  have hown := C0.2.2.2.2.1
  have hts := C0.2.2.2.2.2.1
  have hX := C0.2.2.2.2.2.2.2.2
  intro xs xaside xfound xover v1 H locs ls G hl hf
  unfold f5_stands at hf
  refine lv_aload_n hx hb dX5_stands_0 rfl (lv_at hl 0 rfl) ?_
  refine lv_iload_n hx hb dX5_stands_1 rfl (lv_at hl 1 rfl) ?_
  refine go_i C0 G (runV_of (n := 1) (q0 := 0) (As := [.int v1]) (rest := []) C0 G (c5_isVisitor hX rfl) q825 q54 q822 q824 q14 o5_isVisitor ⟨rfl, rfl⟩ ⟨Nat.le_of_ble_eq_true rfl, Nat.le_of_ble_eq_true rfl⟩ rfl rfl rfl hl.1 rfl (Nat.le_of_ble_eq_true rfl) dX5_stands_2) (fun H locs G => ?_)
  refine lv_if_eq (tgt := 18) hx hb dX5_stands_5 (by decide) (fun hc1 => ?_) (fun hc1 => ?_)
  · have hf := itp hc1 hf
    refine lv_aload_n hx hb dX5_stands_18 rfl (lv_at hl 0 rfl) ?_
    refine lv_iconst (v := (0 : Int32)) hx hb dX5_stands_19 (by decide) ?_
    obtain ⟨r2, xfound_3, hc4, hf⟩ := ob2_s hf
    refine go_i C0 G (runV_of (n := 1) (q0 := 0) (As := [.int (0 : Int32)]) (rest := []) C0 G (c5_no hX hc4) q788 q54 q785 q787 q9 o5_no ⟨rfl, rfl⟩ ⟨Nat.le_of_ble_eq_true rfl, Nat.le_of_ble_eq_true rfl⟩ rfl rfl rfl hl.1 rfl (Nat.le_of_ble_eq_true rfl) dX5_stands_20) (fun H locs G => ?_)
    obtain ⟨rfl, rfl, rfl, rfl, rfl⟩ := inj5 hf
    exact ret_i C0 G dX5_stands_23
  · have hf := itn hc1 hf
    refine lv_aload_n hx hb dX5_stands_8 rfl (lv_at hl 0 rfl) ?_
    refine lv_iconst (v := (0 : Int32)) hx hb dX5_stands_9 (by decide) ?_
    refine lv_iload_n hx hb dX5_stands_10 rfl (lv_at hl 1 rfl) ?_
    refine lv_iload_n hx hb dX5_stands_11 rfl (lv_at hl 1 rfl) ?_
    obtain ⟨r5, xs_6, xaside_7, xfound_8, xover_9, hc10, hf⟩ := ob5_s hf
    refine go_i C0 G (runV_of (n := 3) (q0 := 0) (As := [.int (0 : Int32), .int v1, .int v1]) (rest := []) C0 G (c5_firstBy hX hc10) q935 q54 q932 q934 q32 o5_firstBy ⟨rfl, rfl⟩ ⟨Nat.le_of_ble_eq_true rfl, Nat.le_of_ble_eq_true rfl⟩ rfl rfl rfl hl.1 rfl (Nat.le_of_ble_eq_true rfl) dX5_stands_12) (fun H locs G => ?_)
    refine lv_goto (tgt := 23) hx hb dX5_stands_15 (by decide) ?_
    obtain ⟨rfl, rfl, rfl, rfl, rfl⟩ := inj5 hf
    exact ret_i C0 G dX5_stands_23
theorem o5_stands : okName yX5_stands 1 := ⟨by decide, by decide, by decide +kernel⟩
set_option maxHeartbeats 4000000 in
set_option maxRecDepth 100000 in
theorem c5_stands {X : XP} (hX : XT X) {l : Launch} {D : va_G} {cI cC : ClassId} {ad : Nat → Nat} {sz : Nat} {xs : Nat → Int32} {xkept : Nat → Int32} {xaside : Nat → Int32} {xisK : Int32} {xfound : Nat → Int32} {xgone : Int32} {xover : Nat → Int32} {xtape : Nat → Int32} {xtaped : Int32} {xtok : Int32} {xbeg : Int32} {xend : Int32} {xval : Int64} {xwid : Nat → Int32} {xsiz : Nat → Int32} {xcel : Nat → Int32} {xcar : Nat → Int32} {v1 : Int32} {r0 : Int32} {o_xs : Nat → Int32} {o_xaside : Nat → Int32} {o_xfound : Nat → Int32} {o_xover : Nat → Int32} (hf : f5_stands xs xaside xfound xgone xover v1 = some (r0, o_xs, o_xaside, o_xfound, o_xover)) : Met l yX5_stands (wU yX5_stands cX5_stands 2 (some .int)) ({ frames := 7, cells := 0, slots := 0, locals := 167 }) (va_Pc [.ref (ad 0), .int v1] (PreW X D (tyM cI cC) (wM cI cC ad xs xkept xaside xisK xfound xgone xover xtape xtaped xtok xbeg xend xval xwid xsiz xcel xcar) sz)) (QcI D (tyM cI cC) (wM cI cC ad o_xs xkept o_xaside xisK o_xfound xgone o_xover xtape xtaped xtok xbeg xend xval xwid xsiz xcel xcar) (va_A (wM cI cC ad xs xkept xaside xisK xfound xgone xover xtape xtaped xtok xbeg xend xval xwid xsiz xcel xcar) sz) r0) 0 0 (va_A (wM cI cC ad xs xkept xaside xisK xfound xgone xover xtape xtaped xtok xbeg xend xval xwid xsiz xcel xcar) sz) := by
  refine startW hX (own := RX5) (by decide) rfl (Nat.le_of_ble_eq_true rfl) (fun p e s m args below meth c ls C0 G hl => ?_)
  exact b5_stands_0 C0 G hl hf
/-! 5_road -/
theorem dX5_road_0 : decode cX5_road 0 = .ok (.iload_n 1, 1) := by decide +kernel
theorem dX5_road_1 : decode cX5_road 1 = .ok (.iconst 0, 1) := by decide +kernel
theorem dX5_road_2 : decode cX5_road 2 = .ok (.bipush 16, 2) := by decide +kernel
theorem dX5_road_4 : decode cX5_road 4 = .ok (.invokestatic 51, 3) := by decide +kernel
theorem dX5_road_7 : decode cX5_road 7 = .ok (.ifCond .eq 13, 3) := by decide +kernel
theorem dX5_road_10 : decode cX5_road 10 = .ok (.aload_n 0, 1) := by decide +kernel
theorem dX5_road_11 : decode cX5_road 11 = .ok (.iconst 1, 1) := by decide +kernel
theorem dX5_road_12 : decode cX5_road 12 = .ok (.iload_n 1, 1) := by decide +kernel
theorem dX5_road_13 : decode cX5_road 13 = .ok (.iconst 0, 1) := by decide +kernel
theorem dX5_road_14 : decode cX5_road 14 = .ok (.invokevirtual 152, 3) := by decide +kernel
theorem dX5_road_17 : decode cX5_road 17 = .ok (.goto 8, 3) := by decide +kernel
theorem dX5_road_20 : decode cX5_road 20 = .ok (.aload_n 0, 1) := by decide +kernel
theorem dX5_road_21 : decode cX5_road 21 = .ok (.iconst 0, 1) := by decide +kernel
theorem dX5_road_22 : decode cX5_road 22 = .ok (.invokevirtual 105, 3) := by decide +kernel
theorem dX5_road_25 : decode cX5_road 25 = .ok (.ireturn, 1) := by decide +kernel
def f5_road (xs : Nat → Int32) (xaside : Nat → Int32) (xfound : Nat → Int32) (xgone : Int32) (xover : Nat → Int32) (v1 : Int32) : Option (Int32 × (Nat → Int32) × (Nat → Int32) × (Nat → Int32) × (Nat → Int32)) :=
  if (f5_in1 v1 (0 : Int32) (16 : Int32)) = (0 : Int32) then (
    ob2 (f5_no xfound (0 : Int32)) (fun r2 xfound_3 =>
    some (r2, xs, xaside, xfound_3, xover)))
  else (
    ob5 (f5_firstBy xs xaside xfound xgone xover (1 : Int32) v1 (0 : Int32)) (fun r5 xs_6 xaside_7 xfound_8 xover_9 =>
    some (r5, xs_6, xaside_7, xfound_8, xover_9)))
set_option maxHeartbeats 4000000 in
set_option maxRecDepth 100000 in
theorem b5_road_0 {X : XP} {p : Program} {l : Launch} {e : Env} {s : State} {m : MethodId} {args : Array Value} {below : List Frame} {meth : Method} {c : Code} {D : va_G} {cI cC : ClassId} {ad : Nat → Nat} {A : Nat → Prop} {xkept : Nat → Int32} {xisK : Int32} {xgone : Int32} {xtape : Nat → Int32} {xtaped : Int32} {xtok : Int32} {xbeg : Int32} {xend : Int32} {xval : Int64} {xwid : Nat → Int32} {xsiz : Nat → Int32} {xcel : Nat → Int32} {xcar : Nat → Int32} {r0 : Int32} {o_xs : Nat → Int32} {o_xaside : Nat → Int32} {o_xfound : Nat → Int32} {o_xover : Nat → Int32} (C0 : CX X p s m args meth c cX5_road 2 (some .int) RX5 A) : ∀ {xs : Nat → Int32} {xaside : Nat → Int32} {xfound : Nat → Int32} {xover : Nat → Int32} {v1 : Int32} {H : Heap} {locs : List Loc} {ls : Array Slot}, GX X D (tyM cI cC) A s (wM cI cC ad xs xkept xaside xisK xfound xgone xover xtape xtaped xtok xbeg xend xval xwid xsiz xcel xcar) H locs → lv_has ls 2 [(0, .ref (ad 0)), (1, .int v1)] → f5_road xs xaside xfound xgone xover v1 = some (r0, o_xs, o_xaside, o_xfound, o_xover) → W p l e ({ frames := 7, cells := 0, slots := 0, locals := 167 }) s m args below meth c H locs 0 0 (MQ below (QcI D (tyM cI cC) (wM cI cC ad o_xs xkept o_xaside xisK o_xfound xgone o_xover xtape xtaped xtok xbeg xend xval xwid xsiz xcel xcar) A r0) args s 0 0 A) (F0 m 0 ls []) := by
  have hx := C0.1
  have hb := C0.2.1
  have hown := C0.2.2.2.2.1
  have hts := C0.2.2.2.2.2.1
  have hX := C0.2.2.2.2.2.2.2.2
  intro xs xaside xfound xover v1 H locs ls G hl hf
  unfold f5_road at hf
  refine lv_iload_n hx hb dX5_road_0 rfl (lv_at hl 1 rfl) ?_
  refine lv_iconst (v := (0 : Int32)) hx hb dX5_road_1 (by decide) ?_
  refine lv_bipush (v := (16 : Int32)) hx hb dX5_road_2 (by decide) ?_
  refine go_i C0 G (runS_of (n := 3) (As := [.int v1, .int (0 : Int32), .int (16 : Int32)]) (rest := []) C0 G (c5_in1 hX rfl) q784 q54 q782 q783 o5_in1 ⟨rfl, rfl⟩ ⟨Nat.le_of_ble_eq_true rfl, Nat.le_of_ble_eq_true rfl⟩ rfl hl.1 rfl (Nat.le_of_ble_eq_true rfl) dX5_road_4) (fun H locs G => ?_)
  refine lv_if_eq (tgt := 20) hx hb dX5_road_7 (by decide) (fun hc1 => ?_) (fun hc1 => ?_)
  · have hf := itp hc1 hf
    refine lv_aload_n hx hb dX5_road_20 rfl (lv_at hl 0 rfl) ?_
    refine lv_iconst (v := (0 : Int32)) hx hb dX5_road_21 (by decide) ?_
    obtain ⟨r2, xfound_3, hc4, hf⟩ := ob2_s hf
    refine go_i C0 G (runV_of (n := 1) (q0 := 0) (As := [.int (0 : Int32)]) (rest := []) C0 G (c5_no hX hc4) q788 q54 q785 q787 q9 o5_no ⟨rfl, rfl⟩ ⟨Nat.le_of_ble_eq_true rfl, Nat.le_of_ble_eq_true rfl⟩ rfl rfl rfl hl.1 rfl (Nat.le_of_ble_eq_true rfl) dX5_road_22) (fun H locs G => ?_)
    obtain ⟨rfl, rfl, rfl, rfl, rfl⟩ := inj5 hf
    exact ret_i C0 G dX5_road_25
  · have hf := itn hc1 hf
    refine lv_aload_n hx hb dX5_road_10 rfl (lv_at hl 0 rfl) ?_
    refine lv_iconst (v := (1 : Int32)) hx hb dX5_road_11 (by decide) ?_
    refine lv_iload_n hx hb dX5_road_12 rfl (lv_at hl 1 rfl) ?_
    refine lv_iconst (v := (0 : Int32)) hx hb dX5_road_13 (by decide) ?_
    obtain ⟨r5, xs_6, xaside_7, xfound_8, xover_9, hc10, hf⟩ := ob5_s hf
    refine go_i C0 G (runV_of (n := 3) (q0 := 0) (As := [.int (1 : Int32), .int v1, .int (0 : Int32)]) (rest := []) C0 G (c5_firstBy hX hc10) q935 q54 q932 q934 q32 o5_firstBy ⟨rfl, rfl⟩ ⟨Nat.le_of_ble_eq_true rfl, Nat.le_of_ble_eq_true rfl⟩ rfl rfl rfl hl.1 rfl (Nat.le_of_ble_eq_true rfl) dX5_road_14) (fun H locs G => ?_)
    refine lv_goto (tgt := 25) hx hb dX5_road_17 (by decide) ?_
    obtain ⟨rfl, rfl, rfl, rfl, rfl⟩ := inj5 hf
    exact ret_i C0 G dX5_road_25
theorem o5_road : okName yX5_road 1 := ⟨by decide, by decide, by decide +kernel⟩
set_option maxHeartbeats 4000000 in
set_option maxRecDepth 100000 in
theorem c5_road {X : XP} (hX : XT X) {l : Launch} {D : va_G} {cI cC : ClassId} {ad : Nat → Nat} {sz : Nat} {xs : Nat → Int32} {xkept : Nat → Int32} {xaside : Nat → Int32} {xisK : Int32} {xfound : Nat → Int32} {xgone : Int32} {xover : Nat → Int32} {xtape : Nat → Int32} {xtaped : Int32} {xtok : Int32} {xbeg : Int32} {xend : Int32} {xval : Int64} {xwid : Nat → Int32} {xsiz : Nat → Int32} {xcel : Nat → Int32} {xcar : Nat → Int32} {v1 : Int32} {r0 : Int32} {o_xs : Nat → Int32} {o_xaside : Nat → Int32} {o_xfound : Nat → Int32} {o_xover : Nat → Int32} (hf : f5_road xs xaside xfound xgone xover v1 = some (r0, o_xs, o_xaside, o_xfound, o_xover)) : Met l yX5_road (wU yX5_road cX5_road 2 (some .int)) ({ frames := 7, cells := 0, slots := 0, locals := 167 }) (va_Pc [.ref (ad 0), .int v1] (PreW X D (tyM cI cC) (wM cI cC ad xs xkept xaside xisK xfound xgone xover xtape xtaped xtok xbeg xend xval xwid xsiz xcel xcar) sz)) (QcI D (tyM cI cC) (wM cI cC ad o_xs xkept o_xaside xisK o_xfound xgone o_xover xtape xtaped xtok xbeg xend xval xwid xsiz xcel xcar) (va_A (wM cI cC ad xs xkept xaside xisK xfound xgone xover xtape xtaped xtok xbeg xend xval xwid xsiz xcel xcar) sz) r0) 0 0 (va_A (wM cI cC ad xs xkept xaside xisK xfound xgone xover xtape xtaped xtok xbeg xend xval xwid xsiz xcel xcar) sz) := by
  refine startW hX (own := RX5) (by decide) rfl (Nat.le_of_ble_eq_true rfl) (fun p e s m args below meth c ls C0 G hl => ?_)
  exact b5_road_0 C0 G hl hf
/-! 5_both -/
theorem dX5_both_0 : decode cX5_both 0 = .ok (.aload_n 0, 1) := by decide +kernel
theorem dX5_both_1 : decode cX5_both 1 = .ok (.iload_n 1, 1) := by decide +kernel
theorem dX5_both_2 : decode cX5_both 2 = .ok (.invokevirtual 111, 3) := by decide +kernel
theorem dX5_both_5 : decode cX5_both 5 = .ok (.ifCond .eq 26, 3) := by decide +kernel
theorem dX5_both_8 : decode cX5_both 8 = .ok (.aload_n 0, 1) := by decide +kernel
theorem dX5_both_9 : decode cX5_both 9 = .ok (.iload_n 2, 1) := by decide +kernel
theorem dX5_both_10 : decode cX5_both 10 = .ok (.invokevirtual 111, 3) := by decide +kernel
theorem dX5_both_13 : decode cX5_both 13 = .ok (.ifCond .eq 18, 3) := by decide +kernel
theorem dX5_both_16 : decode cX5_both 16 = .ok (.iload_n 1, 1) := by decide +kernel
theorem dX5_both_17 : decode cX5_both 17 = .ok (.iload_n 2, 1) := by decide +kernel
theorem dX5_both_18 : decode cX5_both 18 = .ok (.if_icmp .eq 13, 3) := by decide +kernel
theorem dX5_both_21 : decode cX5_both 21 = .ok (.aload_n 0, 1) := by decide +kernel
theorem dX5_both_22 : decode cX5_both 22 = .ok (.iconst 0, 1) := by decide +kernel
theorem dX5_both_23 : decode cX5_both 23 = .ok (.iload_n 1, 1) := by decide +kernel
theorem dX5_both_24 : decode cX5_both 24 = .ok (.iload_n 2, 1) := by decide +kernel
theorem dX5_both_25 : decode cX5_both 25 = .ok (.invokevirtual 152, 3) := by decide +kernel
theorem dX5_both_28 : decode cX5_both 28 = .ok (.goto 8, 3) := by decide +kernel
theorem dX5_both_31 : decode cX5_both 31 = .ok (.aload_n 0, 1) := by decide +kernel
theorem dX5_both_32 : decode cX5_both 32 = .ok (.iconst 0, 1) := by decide +kernel
theorem dX5_both_33 : decode cX5_both 33 = .ok (.invokevirtual 105, 3) := by decide +kernel
theorem dX5_both_36 : decode cX5_both 36 = .ok (.ireturn, 1) := by decide +kernel
def j5_both_31  (xs : Nat → Int32) (xaside : Nat → Int32) (xfound : Nat → Int32) (xgone : Int32) (xover : Nat → Int32)  : Option (Int32 × (Nat → Int32) × (Nat → Int32) × (Nat → Int32) × (Nat → Int32)) :=
  ob2 (f5_no xfound (0 : Int32)) (fun r10 xfound_11 =>
  some (r10, xs, xaside, xfound_11, xover))
def f5_both (xs : Nat → Int32) (xaside : Nat → Int32) (xfound : Nat → Int32) (xgone : Int32) (xover : Nat → Int32) (v1 : Int32) (v2 : Int32) : Option (Int32 × (Nat → Int32) × (Nat → Int32) × (Nat → Int32) × (Nat → Int32)) :=
  if (f5_isVisitor xs v1) = (0 : Int32) then (
    j5_both_31 xs xaside xfound xgone xover)
  else (
    if (f5_isVisitor xs v2) = (0 : Int32) then (
      j5_both_31 xs xaside xfound xgone xover)
    else (
      if v1 = v2 then (
        j5_both_31 xs xaside xfound xgone xover)
      else (
        ob5 (f5_firstBy xs xaside xfound xgone xover (0 : Int32) v1 v2) (fun r4 xs_5 xaside_6 xfound_7 xover_8 =>
        some (r4, xs_5, xaside_6, xfound_7, xover_8)))))
set_option maxHeartbeats 4000000 in
set_option maxRecDepth 100000 in
theorem b5_both_31 {X : XP} {p : Program} {l : Launch} {e : Env} {s : State} {m : MethodId} {args : Array Value} {below : List Frame} {meth : Method} {c : Code} {D : va_G} {cI cC : ClassId} {ad : Nat → Nat} {A : Nat → Prop} {xkept : Nat → Int32} {xisK : Int32} {xgone : Int32} {xtape : Nat → Int32} {xtaped : Int32} {xtok : Int32} {xbeg : Int32} {xend : Int32} {xval : Int64} {xwid : Nat → Int32} {xsiz : Nat → Int32} {xcel : Nat → Int32} {xcar : Nat → Int32} {r0 : Int32} {o_xs : Nat → Int32} {o_xaside : Nat → Int32} {o_xfound : Nat → Int32} {o_xover : Nat → Int32} (C0 : CX X p s m args meth c cX5_both 3 (some .int) RX5 A) : ∀ {xs : Nat → Int32} {xaside : Nat → Int32} {xfound : Nat → Int32} {xover : Nat → Int32} {H : Heap} {locs : List Loc} {ls : Array Slot}, GX X D (tyM cI cC) A s (wM cI cC ad xs xkept xaside xisK xfound xgone xover xtape xtaped xtok xbeg xend xval xwid xsiz xcel xcar) H locs → lv_has ls 3 [(0, .ref (ad 0))] → j5_both_31  xs xaside xfound xgone xover = some (r0, o_xs, o_xaside, o_xfound, o_xover) → W p l e ({ frames := 7, cells := 0, slots := 0, locals := 167 }) s m args below meth c H locs 0 0 (MQ below (QcI D (tyM cI cC) (wM cI cC ad o_xs xkept o_xaside xisK o_xfound xgone o_xover xtape xtaped xtok xbeg xend xval xwid xsiz xcel xcar) A r0) args s 0 0 A) (F0 m 31 ls []) := by
  have hx := C0.1
  have hb := C0.2.1
  have hown := C0.2.2.2.2.1
  have hts := C0.2.2.2.2.2.1
  have hX := C0.2.2.2.2.2.2.2.2
  intro xs xaside xfound xover H locs ls G hl hf
  unfold j5_both_31 at hf
  refine lv_aload_n hx hb dX5_both_31 rfl (lv_at hl 0 rfl) ?_
  refine lv_iconst (v := (0 : Int32)) hx hb dX5_both_32 (by decide) ?_
  obtain ⟨r10, xfound_11, hc12, hf⟩ := ob2_s hf
  refine go_i C0 G (runV_of (n := 1) (q0 := 0) (As := [.int (0 : Int32)]) (rest := []) C0 G (c5_no hX hc12) q788 q54 q785 q787 q9 o5_no ⟨rfl, rfl⟩ ⟨Nat.le_of_ble_eq_true rfl, Nat.le_of_ble_eq_true rfl⟩ rfl rfl rfl hl.1 rfl (Nat.le_of_ble_eq_true rfl) dX5_both_33) (fun H locs G => ?_)
  obtain ⟨rfl, rfl, rfl, rfl, rfl⟩ := inj5 hf
  exact ret_i C0 G dX5_both_36
set_option maxHeartbeats 4000000 in
set_option maxRecDepth 100000 in
theorem b5_both_0 {X : XP} {p : Program} {l : Launch} {e : Env} {s : State} {m : MethodId} {args : Array Value} {below : List Frame} {meth : Method} {c : Code} {D : va_G} {cI cC : ClassId} {ad : Nat → Nat} {A : Nat → Prop} {xkept : Nat → Int32} {xisK : Int32} {xgone : Int32} {xtape : Nat → Int32} {xtaped : Int32} {xtok : Int32} {xbeg : Int32} {xend : Int32} {xval : Int64} {xwid : Nat → Int32} {xsiz : Nat → Int32} {xcel : Nat → Int32} {xcar : Nat → Int32} {r0 : Int32} {o_xs : Nat → Int32} {o_xaside : Nat → Int32} {o_xfound : Nat → Int32} {o_xover : Nat → Int32} (C0 : CX X p s m args meth c cX5_both 3 (some .int) RX5 A) : ∀ {xs : Nat → Int32} {xaside : Nat → Int32} {xfound : Nat → Int32} {xover : Nat → Int32} {v1 : Int32} {v2 : Int32} {H : Heap} {locs : List Loc} {ls : Array Slot}, GX X D (tyM cI cC) A s (wM cI cC ad xs xkept xaside xisK xfound xgone xover xtape xtaped xtok xbeg xend xval xwid xsiz xcel xcar) H locs → lv_has ls 3 [(0, .ref (ad 0)), (1, .int v1), (2, .int v2)] → f5_both xs xaside xfound xgone xover v1 v2 = some (r0, o_xs, o_xaside, o_xfound, o_xover) → W p l e ({ frames := 7, cells := 0, slots := 0, locals := 167 }) s m args below meth c H locs 0 0 (MQ below (QcI D (tyM cI cC) (wM cI cC ad o_xs xkept o_xaside xisK o_xfound xgone o_xover xtape xtaped xtok xbeg xend xval xwid xsiz xcel xcar) A r0) args s 0 0 A) (F0 m 0 ls []) := by
  have hx := C0.1
  have hb := C0.2.1
  have hown := C0.2.2.2.2.1
  have hts := C0.2.2.2.2.2.1
  have hX := C0.2.2.2.2.2.2.2.2
  intro xs xaside xfound xover v1 v2 H locs ls G hl hf
  unfold f5_both at hf
  refine lv_aload_n hx hb dX5_both_0 rfl (lv_at hl 0 rfl) ?_
  refine lv_iload_n hx hb dX5_both_1 rfl (lv_at hl 1 rfl) ?_
  refine go_i C0 G (runV_of (n := 1) (q0 := 0) (As := [.int v1]) (rest := []) C0 G (c5_isVisitor hX rfl) q825 q54 q822 q824 q14 o5_isVisitor ⟨rfl, rfl⟩ ⟨Nat.le_of_ble_eq_true rfl, Nat.le_of_ble_eq_true rfl⟩ rfl rfl rfl hl.1 rfl (Nat.le_of_ble_eq_true rfl) dX5_both_2) (fun H locs G => ?_)
  refine lv_if_eq (tgt := 31) hx hb dX5_both_5 (by decide) (fun hc1 => ?_) (fun hc1 => ?_)
  · have hf := itp hc1 hf
    exact b5_both_31 C0  G (lv_sub hl [0] rfl) hf
  · have hf := itn hc1 hf
    refine lv_aload_n hx hb dX5_both_8 rfl (lv_at hl 0 rfl) ?_
    refine lv_iload_n hx hb dX5_both_9 rfl (lv_at hl 2 rfl) ?_
    refine go_i C0 G (runV_of (n := 1) (q0 := 0) (As := [.int v2]) (rest := []) C0 G (c5_isVisitor hX rfl) q825 q54 q822 q824 q14 o5_isVisitor ⟨rfl, rfl⟩ ⟨Nat.le_of_ble_eq_true rfl, Nat.le_of_ble_eq_true rfl⟩ rfl rfl rfl hl.1 rfl (Nat.le_of_ble_eq_true rfl) dX5_both_10) (fun H locs G => ?_)
    refine lv_if_eq (tgt := 31) hx hb dX5_both_13 (by decide) (fun hc2 => ?_) (fun hc2 => ?_)
    · have hf := itp hc2 hf
      exact b5_both_31 C0  G (lv_sub hl [0] rfl) hf
    · have hf := itn hc2 hf
      refine lv_iload_n hx hb dX5_both_16 rfl (lv_at hl 1 rfl) ?_
      refine lv_iload_n hx hb dX5_both_17 rfl (lv_at hl 2 rfl) ?_
      refine lv_icmp_eq (tgt := 31) hx hb dX5_both_18 (by decide) (fun hc3 => ?_) (fun hc3 => ?_)
      · have hf := itp hc3 hf
        exact b5_both_31 C0  G (lv_sub hl [0] rfl) hf
      · have hf := itn hc3 hf
        refine lv_aload_n hx hb dX5_both_21 rfl (lv_at hl 0 rfl) ?_
        refine lv_iconst (v := (0 : Int32)) hx hb dX5_both_22 (by decide) ?_
        refine lv_iload_n hx hb dX5_both_23 rfl (lv_at hl 1 rfl) ?_
        refine lv_iload_n hx hb dX5_both_24 rfl (lv_at hl 2 rfl) ?_
        obtain ⟨r4, xs_5, xaside_6, xfound_7, xover_8, hc9, hf⟩ := ob5_s hf
        refine go_i C0 G (runV_of (n := 3) (q0 := 0) (As := [.int (0 : Int32), .int v1, .int v2]) (rest := []) C0 G (c5_firstBy hX hc9) q935 q54 q932 q934 q32 o5_firstBy ⟨rfl, rfl⟩ ⟨Nat.le_of_ble_eq_true rfl, Nat.le_of_ble_eq_true rfl⟩ rfl rfl rfl hl.1 rfl (Nat.le_of_ble_eq_true rfl) dX5_both_25) (fun H locs G => ?_)
        refine lv_goto (tgt := 36) hx hb dX5_both_28 (by decide) ?_
        obtain ⟨rfl, rfl, rfl, rfl, rfl⟩ := inj5 hf
        exact ret_i C0 G dX5_both_36
theorem o5_both : okName yX5_both 2 := ⟨by decide, by decide, by decide +kernel⟩
set_option maxHeartbeats 4000000 in
set_option maxRecDepth 100000 in
theorem c5_both {X : XP} (hX : XT X) {l : Launch} {D : va_G} {cI cC : ClassId} {ad : Nat → Nat} {sz : Nat} {xs : Nat → Int32} {xkept : Nat → Int32} {xaside : Nat → Int32} {xisK : Int32} {xfound : Nat → Int32} {xgone : Int32} {xover : Nat → Int32} {xtape : Nat → Int32} {xtaped : Int32} {xtok : Int32} {xbeg : Int32} {xend : Int32} {xval : Int64} {xwid : Nat → Int32} {xsiz : Nat → Int32} {xcel : Nat → Int32} {xcar : Nat → Int32} {v1 : Int32} {v2 : Int32} {r0 : Int32} {o_xs : Nat → Int32} {o_xaside : Nat → Int32} {o_xfound : Nat → Int32} {o_xover : Nat → Int32} (hf : f5_both xs xaside xfound xgone xover v1 v2 = some (r0, o_xs, o_xaside, o_xfound, o_xover)) : Met l yX5_both (wU yX5_both cX5_both 3 (some .int)) ({ frames := 7, cells := 0, slots := 0, locals := 167 }) (va_Pc [.ref (ad 0), .int v1, .int v2] (PreW X D (tyM cI cC) (wM cI cC ad xs xkept xaside xisK xfound xgone xover xtape xtaped xtok xbeg xend xval xwid xsiz xcel xcar) sz)) (QcI D (tyM cI cC) (wM cI cC ad o_xs xkept o_xaside xisK o_xfound xgone o_xover xtape xtaped xtok xbeg xend xval xwid xsiz xcel xcar) (va_A (wM cI cC ad xs xkept xaside xisK xfound xgone xover xtape xtaped xtok xbeg xend xval xwid xsiz xcel xcar) sz) r0) 0 0 (va_A (wM cI cC ad xs xkept xaside xisK xfound xgone xover xtape xtaped xtok xbeg xend xval xwid xsiz xcel xcar) sz) := by
  refine startW hX (own := RX5) (by decide) rfl (Nat.le_of_ble_eq_true rfl) (fun p e s m args below meth c ls C0 G hl => ?_)
  exact b5_both_0 C0 G hl hf
/-! 5_empty -/
theorem dX5_empty_0 : decode cX5_empty 0 = .ok (.aload_n 0, 1) := by decide +kernel
theorem dX5_empty_1 : decode cX5_empty 1 = .ok (.iconst 2, 1) := by decide +kernel
theorem dX5_empty_2 : decode cX5_empty 2 = .ok (.iconst 0, 1) := by decide +kernel
theorem dX5_empty_3 : decode cX5_empty 3 = .ok (.iconst 0, 1) := by decide +kernel
theorem dX5_empty_4 : decode cX5_empty 4 = .ok (.invokevirtual 152, 3) := by decide +kernel
theorem dX5_empty_7 : decode cX5_empty 7 = .ok (.ireturn, 1) := by decide +kernel
def f5_empty (xs : Nat → Int32) (xaside : Nat → Int32) (xfound : Nat → Int32) (xgone : Int32) (xover : Nat → Int32)  : Option (Int32 × (Nat → Int32) × (Nat → Int32) × (Nat → Int32) × (Nat → Int32)) :=
  ob5 (f5_firstBy xs xaside xfound xgone xover (2 : Int32) (0 : Int32) (0 : Int32)) (fun r1 xs_2 xaside_3 xfound_4 xover_5 =>
  some (r1, xs_2, xaside_3, xfound_4, xover_5))
set_option maxHeartbeats 4000000 in
set_option maxRecDepth 100000 in
theorem b5_empty_0 {X : XP} {p : Program} {l : Launch} {e : Env} {s : State} {m : MethodId} {args : Array Value} {below : List Frame} {meth : Method} {c : Code} {D : va_G} {cI cC : ClassId} {ad : Nat → Nat} {A : Nat → Prop} {xkept : Nat → Int32} {xisK : Int32} {xgone : Int32} {xtape : Nat → Int32} {xtaped : Int32} {xtok : Int32} {xbeg : Int32} {xend : Int32} {xval : Int64} {xwid : Nat → Int32} {xsiz : Nat → Int32} {xcel : Nat → Int32} {xcar : Nat → Int32} {r0 : Int32} {o_xs : Nat → Int32} {o_xaside : Nat → Int32} {o_xfound : Nat → Int32} {o_xover : Nat → Int32} (C0 : CX X p s m args meth c cX5_empty 1 (some .int) RX5 A) : ∀ {xs : Nat → Int32} {xaside : Nat → Int32} {xfound : Nat → Int32} {xover : Nat → Int32} {H : Heap} {locs : List Loc} {ls : Array Slot}, GX X D (tyM cI cC) A s (wM cI cC ad xs xkept xaside xisK xfound xgone xover xtape xtaped xtok xbeg xend xval xwid xsiz xcel xcar) H locs → lv_has ls 1 [(0, .ref (ad 0))] → f5_empty xs xaside xfound xgone xover = some (r0, o_xs, o_xaside, o_xfound, o_xover) → W p l e ({ frames := 7, cells := 0, slots := 0, locals := 167 }) s m args below meth c H locs 0 0 (MQ below (QcI D (tyM cI cC) (wM cI cC ad o_xs xkept o_xaside xisK o_xfound xgone o_xover xtape xtaped xtok xbeg xend xval xwid xsiz xcel xcar) A r0) args s 0 0 A) (F0 m 0 ls []) := by
  have hx := C0.1
  have hb := C0.2.1
  have hown := C0.2.2.2.2.1
  have hts := C0.2.2.2.2.2.1
  have hX := C0.2.2.2.2.2.2.2.2
  intro xs xaside xfound xover H locs ls G hl hf
  unfold f5_empty at hf
  refine lv_aload_n hx hb dX5_empty_0 rfl (lv_at hl 0 rfl) ?_
  refine lv_iconst (v := (2 : Int32)) hx hb dX5_empty_1 (by decide) ?_
  refine lv_iconst (v := (0 : Int32)) hx hb dX5_empty_2 (by decide) ?_
  refine lv_iconst (v := (0 : Int32)) hx hb dX5_empty_3 (by decide) ?_
  obtain ⟨r1, xs_2, xaside_3, xfound_4, xover_5, hc6, hf⟩ := ob5_s hf
  refine go_i C0 G (runV_of (n := 3) (q0 := 0) (As := [.int (2 : Int32), .int (0 : Int32), .int (0 : Int32)]) (rest := []) C0 G (c5_firstBy hX hc6) q935 q54 q932 q934 q32 o5_firstBy ⟨rfl, rfl⟩ ⟨Nat.le_of_ble_eq_true rfl, Nat.le_of_ble_eq_true rfl⟩ rfl rfl rfl hl.1 rfl (Nat.le_of_ble_eq_true rfl) dX5_empty_4) (fun H locs G => ?_)
  obtain ⟨rfl, rfl, rfl, rfl, rfl⟩ := inj5 hf
  exact ret_i C0 G dX5_empty_7
theorem o5_empty : okName yX5_empty 0 := ⟨by decide, by decide, by decide +kernel⟩
set_option maxHeartbeats 4000000 in
set_option maxRecDepth 100000 in
theorem c5_empty {X : XP} (hX : XT X) {l : Launch} {D : va_G} {cI cC : ClassId} {ad : Nat → Nat} {sz : Nat} {xs : Nat → Int32} {xkept : Nat → Int32} {xaside : Nat → Int32} {xisK : Int32} {xfound : Nat → Int32} {xgone : Int32} {xover : Nat → Int32} {xtape : Nat → Int32} {xtaped : Int32} {xtok : Int32} {xbeg : Int32} {xend : Int32} {xval : Int64} {xwid : Nat → Int32} {xsiz : Nat → Int32} {xcel : Nat → Int32} {xcar : Nat → Int32}  {r0 : Int32} {o_xs : Nat → Int32} {o_xaside : Nat → Int32} {o_xfound : Nat → Int32} {o_xover : Nat → Int32} (hf : f5_empty xs xaside xfound xgone xover = some (r0, o_xs, o_xaside, o_xfound, o_xover)) : Met l yX5_empty (wU yX5_empty cX5_empty 1 (some .int)) ({ frames := 7, cells := 0, slots := 0, locals := 167 }) (va_Pc [.ref (ad 0)] (PreW X D (tyM cI cC) (wM cI cC ad xs xkept xaside xisK xfound xgone xover xtape xtaped xtok xbeg xend xval xwid xsiz xcel xcar) sz)) (QcI D (tyM cI cC) (wM cI cC ad o_xs xkept o_xaside xisK o_xfound xgone o_xover xtape xtaped xtok xbeg xend xval xwid xsiz xcel xcar) (va_A (wM cI cC ad xs xkept xaside xisK xfound xgone xover xtape xtaped xtok xbeg xend xval xwid xsiz xcel xcar) sz) r0) 0 0 (va_A (wM cI cC ad xs xkept xaside xisK xfound xgone xover xtape xtaped xtok xbeg xend xval xwid xsiz xcel xcar) sz) := by
  refine startW hX (own := RX5) (by decide) rfl (Nat.le_of_ble_eq_true rfl) (fun p e s m args below meth c ls C0 G hl => ?_)
  exact b5_empty_0 C0 G hl hf
/-! 5_isSoon -/
theorem dX5_isSoon_0 : decode cX5_isSoon 0 = .ok (.iload_n 0, 1) := by decide +kernel
theorem dX5_isSoon_1 : decode cX5_isSoon 1 = .ok (.iconst 0, 1) := by decide +kernel
theorem dX5_isSoon_2 : decode cX5_isSoon 2 = .ok (.bipush 40, 2) := by decide +kernel
theorem dX5_isSoon_4 : decode cX5_isSoon 4 = .ok (.invokestatic 51, 3) := by decide +kernel
theorem dX5_isSoon_7 : decode cX5_isSoon 7 = .ok (.ireturn, 1) := by decide +kernel
def f5_isSoon  (v0 : Int32) : Int32 :=
  (f5_in1 v0 (0 : Int32) (40 : Int32))
set_option maxHeartbeats 4000000 in
set_option maxRecDepth 100000 in
theorem b5_isSoon_0 {X : XP} {p : Program} {l : Launch} {e : Env} {s : State} {m : MethodId} {args : Array Value} {below : List Frame} {meth : Method} {c : Code} {D : va_G} {cI cC : ClassId} {ad : Nat → Nat} {A : Nat → Prop} {xs : Nat → Int32} {xkept : Nat → Int32} {xaside : Nat → Int32} {xisK : Int32} {xfound : Nat → Int32} {xgone : Int32} {xover : Nat → Int32} {xtape : Nat → Int32} {xtaped : Int32} {xtok : Int32} {xbeg : Int32} {xend : Int32} {xval : Int64} {xwid : Nat → Int32} {xsiz : Nat → Int32} {xcel : Nat → Int32} {xcar : Nat → Int32} {r0 : Int32} (C0 : CX X p s m args meth c cX5_isSoon 1 (some .boolean) RX5 A) : ∀ {v0 : Int32} {H : Heap} {locs : List Loc} {ls : Array Slot}, GX X D (tyM cI cC) A s (wM cI cC ad xs xkept xaside xisK xfound xgone xover xtape xtaped xtok xbeg xend xval xwid xsiz xcel xcar) H locs → lv_has ls 1 [(0, .int v0)] → f5_isSoon v0 = r0 → W p l e ({ frames := 1, cells := 0, slots := 0, locals := 22 }) s m args below meth c H locs 0 0 (MQ below (QcI D (tyM cI cC) (wM cI cC ad xs xkept xaside xisK xfound xgone xover xtape xtaped xtok xbeg xend xval xwid xsiz xcel xcar) A r0) args s 0 0 A) (F0 m 0 ls []) := by
  have hx := C0.1
  have hb := C0.2.1
  have hown := C0.2.2.2.2.1
  have hts := C0.2.2.2.2.2.1
  have hX := C0.2.2.2.2.2.2.2.2
  intro v0 H locs ls G hl hf
  unfold f5_isSoon at hf
  refine lv_iload_n hx hb dX5_isSoon_0 rfl (lv_at hl 0 rfl) ?_
  refine lv_iconst (v := (0 : Int32)) hx hb dX5_isSoon_1 (by decide) ?_
  refine lv_bipush (v := (40 : Int32)) hx hb dX5_isSoon_2 (by decide) ?_
  refine go_i C0 G (runS_of (n := 3) (As := [.int v0, .int (0 : Int32), .int (40 : Int32)]) (rest := []) C0 G (c5_in1 hX rfl) q784 q54 q782 q783 o5_in1 ⟨rfl, rfl⟩ ⟨Nat.le_of_ble_eq_true rfl, Nat.le_of_ble_eq_true rfl⟩ rfl hl.1 rfl (Nat.le_of_ble_eq_true rfl) dX5_isSoon_4) (fun H locs G => ?_)
  obtain rfl := tnj1 hf
  exact ret_z C0 G (b01_n (z5_in1 _ _ _)) dX5_isSoon_7
theorem z5_isSoon  (v0 : Int32) : b01 (f5_isSoon v0) = true := by
  unfold f5_isSoon
  (repeat' split) <;> first | rfl | exact z5_in1 _ _ _
theorem o5_isSoon : okName yX5_isSoon 1 := ⟨by decide, by decide, by decide +kernel⟩
set_option maxHeartbeats 4000000 in
set_option maxRecDepth 100000 in
theorem c5_isSoon {X : XP} (hX : XT X) {l : Launch} {D : va_G} {cI cC : ClassId} {ad : Nat → Nat} {sz : Nat} {xs : Nat → Int32} {xkept : Nat → Int32} {xaside : Nat → Int32} {xisK : Int32} {xfound : Nat → Int32} {xgone : Int32} {xover : Nat → Int32} {xtape : Nat → Int32} {xtaped : Int32} {xtok : Int32} {xbeg : Int32} {xend : Int32} {xval : Int64} {xwid : Nat → Int32} {xsiz : Nat → Int32} {xcel : Nat → Int32} {xcar : Nat → Int32} {v0 : Int32} {r0 : Int32} (hf : f5_isSoon v0 = r0) : Met l yX5_isSoon (wU yX5_isSoon cX5_isSoon 1 (some .boolean)) ({ frames := 1, cells := 0, slots := 0, locals := 22 }) (va_Pc [.int v0] (PreW X D (tyM cI cC) (wM cI cC ad xs xkept xaside xisK xfound xgone xover xtape xtaped xtok xbeg xend xval xwid xsiz xcel xcar) sz)) (QcI D (tyM cI cC) (wM cI cC ad xs xkept xaside xisK xfound xgone xover xtape xtaped xtok xbeg xend xval xwid xsiz xcel xcar) (va_A (wM cI cC ad xs xkept xaside xisK xfound xgone xover xtape xtaped xtok xbeg xend xval xwid xsiz xcel xcar) sz) r0) 0 0 (va_A (wM cI cC ad xs xkept xaside xisK xfound xgone xover xtape xtaped xtok xbeg xend xval xwid xsiz xcel xcar) sz) := by
  refine startW hX (own := RX5) (by decide) rfl (Nat.le_of_ble_eq_true rfl) (fun p e s m args below meth c ls C0 G hl => ?_)
  exact b5_isSoon_0 C0 G hl hf
/-! 5_thenOf -/
theorem dX5_thenOf_0 : decode cX5_thenOf 0 = .ok (.aload_n 0, 1) := by decide +kernel
theorem dX5_thenOf_1 : decode cX5_thenOf 1 = .ok (.iload_n 2, 1) := by decide +kernel
theorem dX5_thenOf_2 : decode cX5_thenOf 2 = .ok (.invokevirtual 120, 3) := by decide +kernel
theorem dX5_thenOf_5 : decode cX5_thenOf 5 = .ok (.iload_n 1, 1) := by decide +kernel
theorem dX5_thenOf_6 : decode cX5_thenOf 6 = .ok (.ifCond .ge 10, 3) := by decide +kernel
theorem dX5_thenOf_9 : decode cX5_thenOf 9 = .ok (.aload_n 0, 1) := by decide +kernel
theorem dX5_thenOf_10 : decode cX5_thenOf 10 = .ok (.invokevirtual 123, 3) := by decide +kernel
theorem dX5_thenOf_13 : decode cX5_thenOf 13 = .ok (.goto 16, 3) := by decide +kernel
theorem dX5_thenOf_16 : decode cX5_thenOf 16 = .ok (.aload_n 0, 1) := by decide +kernel
theorem dX5_thenOf_17 : decode cX5_thenOf 17 = .ok (.iload_n 1, 1) := by decide +kernel
theorem dX5_thenOf_18 : decode cX5_thenOf 18 = .ok (.invokevirtual 80, 3) := by decide +kernel
theorem dX5_thenOf_21 : decode cX5_thenOf 21 = .ok (.ifCond .eq 7, 3) := by decide +kernel
theorem dX5_thenOf_24 : decode cX5_thenOf 24 = .ok (.iconst 1, 1) := by decide +kernel
theorem dX5_thenOf_25 : decode cX5_thenOf 25 = .ok (.goto 4, 3) := by decide +kernel
theorem dX5_thenOf_28 : decode cX5_thenOf 28 = .ok (.iconst 0, 1) := by decide +kernel
theorem dX5_thenOf_29 : decode cX5_thenOf 29 = .ok (.istore_n 3, 1) := by decide +kernel
theorem dX5_thenOf_30 : decode cX5_thenOf 30 = .ok (.aload_n 0, 1) := by decide +kernel
theorem dX5_thenOf_31 : decode cX5_thenOf 31 = .ok (.invokevirtual 143, 3) := by decide +kernel
theorem dX5_thenOf_34 : decode cX5_thenOf 34 = .ok (.iload_n 3, 1) := by decide +kernel
theorem dX5_thenOf_35 : decode cX5_thenOf 35 = .ok (.ireturn, 1) := by decide +kernel
def j5_thenOf_29  (xs : Nat → Int32) (xaside : Nat → Int32) (xgone : Int32) (xover : Nat → Int32) (t0 : Int32) : Option (Int32 × (Nat → Int32) × (Nat → Int32)) :=
  ob1 (f5_laysBack xs xaside) (fun xs_10 =>
  some (t0, xs_10, xover))
def f5_thenOf (xs : Nat → Int32) (xaside : Nat → Int32) (xgone : Int32) (xover : Nat → Int32) (v1 : Int32) (v2 : Int32) : Option (Int32 × (Nat → Int32) × (Nat → Int32)) :=
  ob2 (f5_goes xs xgone xover v2) (fun xs_1 xover_2 =>
  if (0 : Int32) ≤ v1 then (
    ob1 (f5_standsNow xs_1 v1) (fun r5 =>
    if r5 = (0 : Int32) then (
      j5_thenOf_29 xs_1 xaside xgone xover_2 (0 : Int32))
    else (
      j5_thenOf_29 xs_1 xaside xgone xover_2 (1 : Int32))))
  else (
    ob1 (f5_roadNow xs_1) (fun r8 =>
    j5_thenOf_29 xs_1 xaside xgone xover_2 r8)))
set_option maxHeartbeats 4000000 in
set_option maxRecDepth 100000 in
theorem b5_thenOf_29 {X : XP} {p : Program} {l : Launch} {e : Env} {s : State} {m : MethodId} {args : Array Value} {below : List Frame} {meth : Method} {c : Code} {D : va_G} {cI cC : ClassId} {ad : Nat → Nat} {A : Nat → Prop} {xkept : Nat → Int32} {xaside : Nat → Int32} {xisK : Int32} {xfound : Nat → Int32} {xgone : Int32} {xtape : Nat → Int32} {xtaped : Int32} {xtok : Int32} {xbeg : Int32} {xend : Int32} {xval : Int64} {xwid : Nat → Int32} {xsiz : Nat → Int32} {xcel : Nat → Int32} {xcar : Nat → Int32} {r0 : Int32} {o_xs : Nat → Int32} {o_xover : Nat → Int32} (C0 : CX X p s m args meth c cX5_thenOf 4 (some .int) RX5 A) : ∀ {xs : Nat → Int32} {xover : Nat → Int32} {t0 : Int32} {H : Heap} {locs : List Loc} {ls : Array Slot}, GX X D (tyM cI cC) A s (wM cI cC ad xs xkept xaside xisK xfound xgone xover xtape xtaped xtok xbeg xend xval xwid xsiz xcel xcar) H locs → lv_has ls 4 [(0, .ref (ad 0))] → j5_thenOf_29  xs xaside xgone xover t0 = some (r0, o_xs, o_xover) → W p l e ({ frames := 7, cells := 0, slots := 0, locals := 165 }) s m args below meth c H locs 0 0 (MQ below (QcI D (tyM cI cC) (wM cI cC ad o_xs xkept xaside xisK xfound xgone o_xover xtape xtaped xtok xbeg xend xval xwid xsiz xcel xcar) A r0) args s 0 0 A) (F0 m 29 ls [.int t0]) := by
  have hx := C0.1
  have hb := C0.2.1
  have hown := C0.2.2.2.2.1
  have hts := C0.2.2.2.2.2.1
  have hX := C0.2.2.2.2.2.2.2.2
  intro xs xover t0 H locs ls G hl hf
  unfold j5_thenOf_29 at hf
  refine lv_istore_n (lv' := [(3, .int t0), (0, .ref (ad 0))]) hx hb dX5_thenOf_29 rfl hl (by decide) rfl (fun ls hl => ?_)
  refine lv_aload_n hx hb dX5_thenOf_30 rfl (lv_at hl 1 rfl) ?_
  obtain ⟨xs_10, hc11, hf⟩ := ob1_s hf
  refine go_v C0 G (runV_of (n := 0) (q0 := 0) (As := []) (rest := []) C0 G (c5_laysBack hX hc11) q923 q54 q920 q922 q31 o5_laysBack ⟨rfl, rfl⟩ ⟨Nat.le_of_ble_eq_true rfl, Nat.le_of_ble_eq_true rfl⟩ rfl rfl rfl hl.1 rfl (Nat.le_of_ble_eq_true rfl) dX5_thenOf_31) (fun H locs G => ?_)
  refine lv_iload_n hx hb dX5_thenOf_34 rfl (lv_at hl 0 rfl) ?_
  obtain ⟨rfl, rfl, rfl⟩ := inj3 hf
  exact ret_i C0 G dX5_thenOf_35
set_option maxHeartbeats 4000000 in
set_option maxRecDepth 100000 in
theorem b5_thenOf_0 {X : XP} {p : Program} {l : Launch} {e : Env} {s : State} {m : MethodId} {args : Array Value} {below : List Frame} {meth : Method} {c : Code} {D : va_G} {cI cC : ClassId} {ad : Nat → Nat} {A : Nat → Prop} {xkept : Nat → Int32} {xaside : Nat → Int32} {xisK : Int32} {xfound : Nat → Int32} {xgone : Int32} {xtape : Nat → Int32} {xtaped : Int32} {xtok : Int32} {xbeg : Int32} {xend : Int32} {xval : Int64} {xwid : Nat → Int32} {xsiz : Nat → Int32} {xcel : Nat → Int32} {xcar : Nat → Int32} {r0 : Int32} {o_xs : Nat → Int32} {o_xover : Nat → Int32} (C0 : CX X p s m args meth c cX5_thenOf 4 (some .int) RX5 A) : ∀ {xs : Nat → Int32} {xover : Nat → Int32} {v1 : Int32} {v2 : Int32} {H : Heap} {locs : List Loc} {ls : Array Slot}, GX X D (tyM cI cC) A s (wM cI cC ad xs xkept xaside xisK xfound xgone xover xtape xtaped xtok xbeg xend xval xwid xsiz xcel xcar) H locs → lv_has ls 4 [(0, .ref (ad 0)), (1, .int v1), (2, .int v2)] → f5_thenOf xs xaside xgone xover v1 v2 = some (r0, o_xs, o_xover) → W p l e ({ frames := 7, cells := 0, slots := 0, locals := 165 }) s m args below meth c H locs 0 0 (MQ below (QcI D (tyM cI cC) (wM cI cC ad o_xs xkept xaside xisK xfound xgone o_xover xtape xtaped xtok xbeg xend xval xwid xsiz xcel xcar) A r0) args s 0 0 A) (F0 m 0 ls []) := by
  have hx := C0.1
  have hb := C0.2.1
  have hown := C0.2.2.2.2.1
  have hts := C0.2.2.2.2.2.1
  have hX := C0.2.2.2.2.2.2.2.2
  intro xs xover v1 v2 H locs ls G hl hf
  unfold f5_thenOf at hf
  refine lv_aload_n hx hb dX5_thenOf_0 rfl (lv_at hl 0 rfl) ?_
  refine lv_iload_n hx hb dX5_thenOf_1 rfl (lv_at hl 2 rfl) ?_
  obtain ⟨xs_1, xover_2, hc3, hf⟩ := ob2_s hf
  refine go_v C0 G (runV_of (n := 1) (q0 := 0) (As := [.int v2]) (rest := []) C0 G (c5_goes hX hc3) q871 q54 q868 q870 q20 o5_goes ⟨rfl, rfl⟩ ⟨Nat.le_of_ble_eq_true rfl, Nat.le_of_ble_eq_true rfl⟩ rfl rfl rfl hl.1 rfl (Nat.le_of_ble_eq_true rfl) dX5_thenOf_2) (fun H locs G => ?_)
  refine lv_iload_n hx hb dX5_thenOf_5 rfl (lv_at hl 1 rfl) ?_
  refine lv_if_ge (tgt := 16) hx hb dX5_thenOf_6 (by decide) (fun hc4 => ?_) (fun hc4 => ?_)
  · have hf := itp hc4 hf
    refine lv_aload_n hx hb dX5_thenOf_16 rfl (lv_at hl 0 rfl) ?_
    refine lv_iload_n hx hb dX5_thenOf_17 rfl (lv_at hl 1 rfl) ?_
    obtain ⟨r5, hc6, hf⟩ := ob1_s hf
    refine go_i C0 G (runV_of (n := 1) (q0 := 0) (As := [.int v1]) (rest := []) C0 G (c5_standsNow hX hc6) q840 q54 q837 q839 q17 o5_standsNow ⟨rfl, rfl⟩ ⟨Nat.le_of_ble_eq_true rfl, Nat.le_of_ble_eq_true rfl⟩ rfl rfl rfl hl.1 rfl (Nat.le_of_ble_eq_true rfl) dX5_thenOf_18) (fun H locs G => ?_)
    refine lv_if_eq (tgt := 28) hx hb dX5_thenOf_21 (by decide) (fun hc7 => ?_) (fun hc7 => ?_)
    · have hf := itp hc7 hf
      refine lv_iconst (v := (0 : Int32)) hx hb dX5_thenOf_28 (by decide) ?_
      exact b5_thenOf_29 C0  G (lv_sub hl [0] rfl) hf
    · have hf := itn hc7 hf
      refine lv_iconst (v := (1 : Int32)) hx hb dX5_thenOf_24 (by decide) ?_
      refine lv_goto (tgt := 29) hx hb dX5_thenOf_25 (by decide) ?_
      exact b5_thenOf_29 C0  G (lv_sub hl [0] rfl) hf
  · have hf := itn hc4 hf
    refine lv_aload_n hx hb dX5_thenOf_9 rfl (lv_at hl 0 rfl) ?_
    obtain ⟨r8, hc9, hf⟩ := ob1_s hf
    refine go_i C0 G (runV_of (n := 0) (q0 := 0) (As := []) (rest := []) C0 G (c5_roadNow hX hc9) q887 q54 q884 q886 q24 o5_roadNow ⟨rfl, rfl⟩ ⟨Nat.le_of_ble_eq_true rfl, Nat.le_of_ble_eq_true rfl⟩ rfl rfl rfl hl.1 rfl (Nat.le_of_ble_eq_true rfl) dX5_thenOf_10) (fun H locs G => ?_)
    refine lv_goto (tgt := 29) hx hb dX5_thenOf_13 (by decide) ?_
    exact b5_thenOf_29 C0  G (lv_sub hl [0] rfl) hf
theorem o5_thenOf : okName yX5_thenOf 2 := ⟨by decide, by decide, by decide +kernel⟩
set_option maxHeartbeats 4000000 in
set_option maxRecDepth 100000 in
theorem c5_thenOf {X : XP} (hX : XT X) {l : Launch} {D : va_G} {cI cC : ClassId} {ad : Nat → Nat} {sz : Nat} {xs : Nat → Int32} {xkept : Nat → Int32} {xaside : Nat → Int32} {xisK : Int32} {xfound : Nat → Int32} {xgone : Int32} {xover : Nat → Int32} {xtape : Nat → Int32} {xtaped : Int32} {xtok : Int32} {xbeg : Int32} {xend : Int32} {xval : Int64} {xwid : Nat → Int32} {xsiz : Nat → Int32} {xcel : Nat → Int32} {xcar : Nat → Int32} {v1 : Int32} {v2 : Int32} {r0 : Int32} {o_xs : Nat → Int32} {o_xover : Nat → Int32} (hf : f5_thenOf xs xaside xgone xover v1 v2 = some (r0, o_xs, o_xover)) : Met l yX5_thenOf (wU yX5_thenOf cX5_thenOf 4 (some .int)) ({ frames := 7, cells := 0, slots := 0, locals := 165 }) (va_Pc [.ref (ad 0), .int v1, .int v2] (PreW X D (tyM cI cC) (wM cI cC ad xs xkept xaside xisK xfound xgone xover xtape xtaped xtok xbeg xend xval xwid xsiz xcel xcar) sz)) (QcI D (tyM cI cC) (wM cI cC ad o_xs xkept xaside xisK xfound xgone o_xover xtape xtaped xtok xbeg xend xval xwid xsiz xcel xcar) (va_A (wM cI cC ad xs xkept xaside xisK xfound xgone xover xtape xtaped xtok xbeg xend xval xwid xsiz xcel xcar) sz) r0) 0 0 (va_A (wM cI cC ad xs xkept xaside xisK xfound xgone xover xtape xtaped xtok xbeg xend xval xwid xsiz xcel xcar) sz) := by
  refine startW hX (own := RX5) (by decide) rfl (Nat.le_of_ble_eq_true rfl) (fun p e s m args below meth c ls C0 G hl => ?_)
  exact b5_thenOf_0 C0 G hl hf
/-! 5_longestBy -/
theorem dX5_longestBy_0 : decode cX5_longestBy 0 = .ok (.iconst 0, 1) := by decide +kernel
theorem dX5_longestBy_1 : decode cX5_longestBy 1 = .ok (.istore 4, 2) := by decide +kernel
theorem dX5_longestBy_3 : decode cX5_longestBy 3 = .ok (.iconst (-1), 1) := by decide +kernel
theorem dX5_longestBy_4 : decode cX5_longestBy 4 = .ok (.istore 5, 2) := by decide +kernel
theorem dX5_longestBy_6 : decode cX5_longestBy 6 = .ok (.iconst 0, 1) := by decide +kernel
theorem dX5_longestBy_7 : decode cX5_longestBy 7 = .ok (.istore 6, 2) := by decide +kernel
theorem dX5_longestBy_9 : decode cX5_longestBy 9 = .ok (.iload 6, 2) := by decide +kernel
theorem dX5_longestBy_11 : decode cX5_longestBy 11 = .ok (.iload_n 2, 1) := by decide +kernel
theorem dX5_longestBy_12 : decode cX5_longestBy 12 = .ok (.invokestatic 117, 3) := by decide +kernel
theorem dX5_longestBy_15 : decode cX5_longestBy 15 = .ok (.if_icmp .gt 61, 3) := by decide +kernel
theorem dX5_longestBy_18 : decode cX5_longestBy 18 = .ok (.aload_n 0, 1) := by decide +kernel
theorem dX5_longestBy_19 : decode cX5_longestBy 19 = .ok (.invokevirtual 140, 3) := by decide +kernel
theorem dX5_longestBy_22 : decode cX5_longestBy 22 = .ok (.aload_n 0, 1) := by decide +kernel
theorem dX5_longestBy_23 : decode cX5_longestBy 23 = .ok (.iload_n 1, 1) := by decide +kernel
theorem dX5_longestBy_24 : decode cX5_longestBy 24 = .ok (.iload_n 2, 1) := by decide +kernel
theorem dX5_longestBy_25 : decode cX5_longestBy 25 = .ok (.iload 6, 2) := by decide +kernel
theorem dX5_longestBy_27 : decode cX5_longestBy 27 = .ok (.invokevirtual 83, 3) := by decide +kernel
theorem dX5_longestBy_30 : decode cX5_longestBy 30 = .ok (.aload_n 0, 1) := by decide +kernel
theorem dX5_longestBy_31 : decode cX5_longestBy 31 = .ok (.iconst (-1), 1) := by decide +kernel
theorem dX5_longestBy_32 : decode cX5_longestBy 32 = .ok (.iload_n 3, 1) := by decide +kernel
theorem dX5_longestBy_33 : decode cX5_longestBy 33 = .ok (.invokevirtual 155, 3) := by decide +kernel
theorem dX5_longestBy_36 : decode cX5_longestBy 36 = .ok (.istore 7, 2) := by decide +kernel
theorem dX5_longestBy_38 : decode cX5_longestBy 38 = .ok (.iload 7, 2) := by decide +kernel
theorem dX5_longestBy_40 : decode cX5_longestBy 40 = .ok (.iload 5, 2) := by decide +kernel
theorem dX5_longestBy_42 : decode cX5_longestBy 42 = .ok (.if_icmp .le 8, 3) := by decide +kernel
theorem dX5_longestBy_45 : decode cX5_longestBy 45 = .ok (.iload 6, 2) := by decide +kernel
theorem dX5_longestBy_47 : decode cX5_longestBy 47 = .ok (.goto 5, 3) := by decide +kernel
theorem dX5_longestBy_50 : decode cX5_longestBy 50 = .ok (.iload 4, 2) := by decide +kernel
theorem dX5_longestBy_52 : decode cX5_longestBy 52 = .ok (.istore 4, 2) := by decide +kernel
theorem dX5_longestBy_54 : decode cX5_longestBy 54 = .ok (.iload 7, 2) := by decide +kernel
theorem dX5_longestBy_56 : decode cX5_longestBy 56 = .ok (.iload 5, 2) := by decide +kernel
theorem dX5_longestBy_58 : decode cX5_longestBy 58 = .ok (.if_icmp .le 8, 3) := by decide +kernel
theorem dX5_longestBy_61 : decode cX5_longestBy 61 = .ok (.iload 7, 2) := by decide +kernel
theorem dX5_longestBy_63 : decode cX5_longestBy 63 = .ok (.goto 5, 3) := by decide +kernel
theorem dX5_longestBy_66 : decode cX5_longestBy 66 = .ok (.iload 5, 2) := by decide +kernel
theorem dX5_longestBy_68 : decode cX5_longestBy 68 = .ok (.istore 5, 2) := by decide +kernel
theorem dX5_longestBy_70 : decode cX5_longestBy 70 = .ok (.iinc 6 1, 3) := by decide +kernel
theorem dX5_longestBy_73 : decode cX5_longestBy 73 = .ok (.goto (-64), 3) := by decide +kernel
theorem dX5_longestBy_76 : decode cX5_longestBy 76 = .ok (.iload 4, 2) := by decide +kernel
theorem dX5_longestBy_78 : decode cX5_longestBy 78 = .ok (.ireturn, 1) := by decide +kernel
def j5_longestBy_68 (k9 : (Nat → Int32) → (Nat → Int32) → Int32 → (Nat → Int32) → Int32 → Int32 → Int32 → Int32 → Int32 → Int32 → Option (Int32 × (Nat → Int32) × (Nat → Int32) × (Nat → Int32))) (xs : Nat → Int32) (xaside : Nat → Int32) (xgone : Int32) (xover : Nat → Int32) (v1 : Int32) (v2 : Int32) (v3 : Int32) (v4 : Int32) (v6 : Int32) (t0 : Int32) : Option (Int32 × (Nat → Int32) × (Nat → Int32) × (Nat → Int32)) :=
  k9 xs xaside xgone xover v1 v2 v3 v4 t0 (v6 + (1 : Int32))
def j5_longestBy_52 (k9 : (Nat → Int32) → (Nat → Int32) → Int32 → (Nat → Int32) → Int32 → Int32 → Int32 → Int32 → Int32 → Int32 → Option (Int32 × (Nat → Int32) × (Nat → Int32) × (Nat → Int32))) (xs : Nat → Int32) (xaside : Nat → Int32) (xgone : Int32) (xover : Nat → Int32) (v1 : Int32) (v2 : Int32) (v3 : Int32) (v5 : Int32) (v6 : Int32) (v7 : Int32) (t0 : Int32) : Option (Int32 × (Nat → Int32) × (Nat → Int32) × (Nat → Int32)) :=
  if v7 ≤ v5 then (
    j5_longestBy_68 k9 xs xaside xgone xover v1 v2 v3 t0 v6 v5)
  else (
    j5_longestBy_68 k9 xs xaside xgone xover v1 v2 v3 t0 v6 v7)
def l5_longestBy_9  : Nat → (Nat → Int32) → (Nat → Int32) → Int32 → (Nat → Int32) → Int32 → Int32 → Int32 → Int32 → Int32 → Int32 → Option (Int32 × (Nat → Int32) × (Nat → Int32) × (Nat → Int32))
  | 0, _, _, _, _, _, _, _, _, _, _ => none
  | n + 1, xs, xaside, xgone, xover, v1, v2, v3, v4, v5, v6 =>
    if (f5_mostOf v2) < v6 then (
      some (v4, xs, xaside, xover))
    else (
      ob1 (f5_setsAside xs xaside) (fun xaside_2 =>
      ob1 (f5_puts xs v1 v2 v6) (fun xs_4 =>
      ob3 (f5_thenOf xs_4 xaside_2 xgone xover (-1 : Int32) v3) (fun r6 xs_7 xover_8 =>
      if r6 ≤ v5 then (
        j5_longestBy_52 (l5_longestBy_9 n) xs_7 xaside_2 xgone xover_8 v1 v2 v3 v5 v6 r6 v4)
      else (
        j5_longestBy_52 (l5_longestBy_9 n) xs_7 xaside_2 xgone xover_8 v1 v2 v3 v5 v6 r6 v6)))))
def f5_longestBy (xs : Nat → Int32) (xaside : Nat → Int32) (xgone : Int32) (xover : Nat → Int32) (v1 : Int32) (v2 : Int32) (v3 : Int32) : Option (Int32 × (Nat → Int32) × (Nat → Int32) × (Nat → Int32)) :=
  l5_longestBy_9 1000 xs xaside xgone xover v1 v2 v3 (0 : Int32) (-1 : Int32) (0 : Int32)
set_option maxHeartbeats 4000000 in
set_option maxRecDepth 100000 in
theorem b5_longestBy_68 {X : XP} {p : Program} {l : Launch} {e : Env} {s : State} {m : MethodId} {args : Array Value} {below : List Frame} {meth : Method} {c : Code} {D : va_G} {cI cC : ClassId} {ad : Nat → Nat} {A : Nat → Prop} {xkept : Nat → Int32} {xisK : Int32} {xfound : Nat → Int32} {xgone : Int32} {xtape : Nat → Int32} {xtaped : Int32} {xtok : Int32} {xbeg : Int32} {xend : Int32} {xval : Int64} {xwid : Nat → Int32} {xsiz : Nat → Int32} {xcel : Nat → Int32} {xcar : Nat → Int32} {r0 : Int32} {o_xs : Nat → Int32} {o_xaside : Nat → Int32} {o_xover : Nat → Int32} (C0 : CX X p s m args meth c cX5_longestBy 8 (some .int) RX5 A) {k9 : (Nat → Int32) → (Nat → Int32) → Int32 → (Nat → Int32) → Int32 → Int32 → Int32 → Int32 → Int32 → Int32 → Option (Int32 × (Nat → Int32) × (Nat → Int32) × (Nat → Int32))} (hk9 : ∀ {xs : Nat → Int32} {xaside : Nat → Int32} {xover : Nat → Int32} {v1 : Int32} {v2 : Int32} {v3 : Int32} {v4 : Int32} {v5 : Int32} {v6 : Int32} {H : Heap} {locs : List Loc} {ls : Array Slot}, GX X D (tyM cI cC) A s (wM cI cC ad xs xkept xaside xisK xfound xgone xover xtape xtaped xtok xbeg xend xval xwid xsiz xcel xcar) H locs → lv_has ls 8 [(0, .ref (ad 0)), (1, .int v1), (2, .int v2), (3, .int v3), (4, .int v4), (5, .int v5), (6, .int v6)] → k9 xs xaside xgone xover v1 v2 v3 v4 v5 v6 = some (r0, o_xs, o_xaside, o_xover) → W p l e ({ frames := 8, cells := 0, slots := 0, locals := 188 }) s m args below meth c H locs 0 0 (MQ below (QcI D (tyM cI cC) (wM cI cC ad o_xs xkept o_xaside xisK xfound xgone o_xover xtape xtaped xtok xbeg xend xval xwid xsiz xcel xcar) A r0) args s 0 0 A) (F0 m 9 ls [])) : ∀ {xs : Nat → Int32} {xaside : Nat → Int32} {xover : Nat → Int32} {v1 : Int32} {v2 : Int32} {v3 : Int32} {v4 : Int32} {v6 : Int32} {t0 : Int32} {H : Heap} {locs : List Loc} {ls : Array Slot}, GX X D (tyM cI cC) A s (wM cI cC ad xs xkept xaside xisK xfound xgone xover xtape xtaped xtok xbeg xend xval xwid xsiz xcel xcar) H locs → lv_has ls 8 [(0, .ref (ad 0)), (1, .int v1), (2, .int v2), (3, .int v3), (4, .int v4), (6, .int v6)] → j5_longestBy_68 k9 xs xaside xgone xover v1 v2 v3 v4 v6 t0 = some (r0, o_xs, o_xaside, o_xover) → W p l e ({ frames := 8, cells := 0, slots := 0, locals := 188 }) s m args below meth c H locs 0 0 (MQ below (QcI D (tyM cI cC) (wM cI cC ad o_xs xkept o_xaside xisK xfound xgone o_xover xtape xtaped xtok xbeg xend xval xwid xsiz xcel xcar) A r0) args s 0 0 A) (F0 m 68 ls [.int t0]) := by
  have hx := C0.1
  have hb := C0.2.1
  have hown := C0.2.2.2.2.1
  have hts := C0.2.2.2.2.2.1
  have hX := C0.2.2.2.2.2.2.2.2
  intro xs xaside xover v1 v2 v3 v4 v6 t0 H locs ls G hl hf
  unfold j5_longestBy_68 at hf
  refine lv_istore (lv' := [(5, .int t0), (0, .ref (ad 0)), (1, .int v1), (2, .int v2), (3, .int v3), (4, .int v4), (6, .int v6)]) hx hb dX5_longestBy_68 hl (by decide) rfl (fun ls hl => ?_)
  refine lv_iinc (v := (v6 + (1 : Int32))) (lv' := [(6, .int (v6 + (1 : Int32))), (5, .int t0), (0, .ref (ad 0)), (1, .int v1), (2, .int v2), (3, .int v3), (4, .int v4)]) hx hb dX5_longestBy_70 hl (k := 6) rfl rfl (by decide) rfl (fun ls hl => ?_)
  refine lv_goto (tgt := 9) hx hb dX5_longestBy_73 (by decide) ?_
  exact hk9 G (lv_sub hl [2, 3, 4, 5, 6, 1, 0] rfl) hf
set_option maxHeartbeats 4000000 in
set_option maxRecDepth 100000 in
theorem b5_longestBy_52 {X : XP} {p : Program} {l : Launch} {e : Env} {s : State} {m : MethodId} {args : Array Value} {below : List Frame} {meth : Method} {c : Code} {D : va_G} {cI cC : ClassId} {ad : Nat → Nat} {A : Nat → Prop} {xkept : Nat → Int32} {xisK : Int32} {xfound : Nat → Int32} {xgone : Int32} {xtape : Nat → Int32} {xtaped : Int32} {xtok : Int32} {xbeg : Int32} {xend : Int32} {xval : Int64} {xwid : Nat → Int32} {xsiz : Nat → Int32} {xcel : Nat → Int32} {xcar : Nat → Int32} {r0 : Int32} {o_xs : Nat → Int32} {o_xaside : Nat → Int32} {o_xover : Nat → Int32} (C0 : CX X p s m args meth c cX5_longestBy 8 (some .int) RX5 A) {k9 : (Nat → Int32) → (Nat → Int32) → Int32 → (Nat → Int32) → Int32 → Int32 → Int32 → Int32 → Int32 → Int32 → Option (Int32 × (Nat → Int32) × (Nat → Int32) × (Nat → Int32))} (hk9 : ∀ {xs : Nat → Int32} {xaside : Nat → Int32} {xover : Nat → Int32} {v1 : Int32} {v2 : Int32} {v3 : Int32} {v4 : Int32} {v5 : Int32} {v6 : Int32} {H : Heap} {locs : List Loc} {ls : Array Slot}, GX X D (tyM cI cC) A s (wM cI cC ad xs xkept xaside xisK xfound xgone xover xtape xtaped xtok xbeg xend xval xwid xsiz xcel xcar) H locs → lv_has ls 8 [(0, .ref (ad 0)), (1, .int v1), (2, .int v2), (3, .int v3), (4, .int v4), (5, .int v5), (6, .int v6)] → k9 xs xaside xgone xover v1 v2 v3 v4 v5 v6 = some (r0, o_xs, o_xaside, o_xover) → W p l e ({ frames := 8, cells := 0, slots := 0, locals := 188 }) s m args below meth c H locs 0 0 (MQ below (QcI D (tyM cI cC) (wM cI cC ad o_xs xkept o_xaside xisK xfound xgone o_xover xtape xtaped xtok xbeg xend xval xwid xsiz xcel xcar) A r0) args s 0 0 A) (F0 m 9 ls [])) : ∀ {xs : Nat → Int32} {xaside : Nat → Int32} {xover : Nat → Int32} {v1 : Int32} {v2 : Int32} {v3 : Int32} {v5 : Int32} {v6 : Int32} {v7 : Int32} {t0 : Int32} {H : Heap} {locs : List Loc} {ls : Array Slot}, GX X D (tyM cI cC) A s (wM cI cC ad xs xkept xaside xisK xfound xgone xover xtape xtaped xtok xbeg xend xval xwid xsiz xcel xcar) H locs → lv_has ls 8 [(0, .ref (ad 0)), (1, .int v1), (2, .int v2), (3, .int v3), (5, .int v5), (6, .int v6), (7, .int v7)] → j5_longestBy_52 k9 xs xaside xgone xover v1 v2 v3 v5 v6 v7 t0 = some (r0, o_xs, o_xaside, o_xover) → W p l e ({ frames := 8, cells := 0, slots := 0, locals := 188 }) s m args below meth c H locs 0 0 (MQ below (QcI D (tyM cI cC) (wM cI cC ad o_xs xkept o_xaside xisK xfound xgone o_xover xtape xtaped xtok xbeg xend xval xwid xsiz xcel xcar) A r0) args s 0 0 A) (F0 m 52 ls [.int t0]) := by
  have hx := C0.1
  have hb := C0.2.1
  have hown := C0.2.2.2.2.1
  have hts := C0.2.2.2.2.2.1
  have hX := C0.2.2.2.2.2.2.2.2
  intro xs xaside xover v1 v2 v3 v5 v6 v7 t0 H locs ls G hl hf
  unfold j5_longestBy_52 at hf
  refine lv_istore (lv' := [(4, .int t0), (0, .ref (ad 0)), (1, .int v1), (2, .int v2), (3, .int v3), (5, .int v5), (6, .int v6), (7, .int v7)]) hx hb dX5_longestBy_52 hl (by decide) rfl (fun ls hl => ?_)
  refine lv_iload hx hb dX5_longestBy_54 (lv_at hl 7 rfl) ?_
  refine lv_iload hx hb dX5_longestBy_56 (lv_at hl 5 rfl) ?_
  refine lv_icmp_le (tgt := 66) hx hb dX5_longestBy_58 (by decide) (fun hc11 => ?_) (fun hc11 => ?_)
  · have hf := itp hc11 hf
    refine lv_iload hx hb dX5_longestBy_66 (lv_at hl 5 rfl) ?_
    exact b5_longestBy_68 C0 hk9 G (lv_sub hl [1, 2, 3, 4, 0, 6] rfl) hf
  · have hf := itn hc11 hf
    refine lv_iload hx hb dX5_longestBy_61 (lv_at hl 7 rfl) ?_
    refine lv_goto (tgt := 68) hx hb dX5_longestBy_63 (by decide) ?_
    exact b5_longestBy_68 C0 hk9 G (lv_sub hl [1, 2, 3, 4, 0, 6] rfl) hf
set_option maxHeartbeats 4000000 in
set_option maxRecDepth 100000 in
theorem b5_longestBy_9 {X : XP} {p : Program} {l : Launch} {e : Env} {s : State} {m : MethodId} {args : Array Value} {below : List Frame} {meth : Method} {c : Code} {D : va_G} {cI cC : ClassId} {ad : Nat → Nat} {A : Nat → Prop} {xkept : Nat → Int32} {xisK : Int32} {xfound : Nat → Int32} {xgone : Int32} {xtape : Nat → Int32} {xtaped : Int32} {xtok : Int32} {xbeg : Int32} {xend : Int32} {xval : Int64} {xwid : Nat → Int32} {xsiz : Nat → Int32} {xcel : Nat → Int32} {xcar : Nat → Int32} {r0 : Int32} {o_xs : Nat → Int32} {o_xaside : Nat → Int32} {o_xover : Nat → Int32} (C0 : CX X p s m args meth c cX5_longestBy 8 (some .int) RX5 A) : ∀ (n : Nat) {xs : Nat → Int32} {xaside : Nat → Int32} {xover : Nat → Int32} {v1 : Int32} {v2 : Int32} {v3 : Int32} {v4 : Int32} {v5 : Int32} {v6 : Int32} {H : Heap} {locs : List Loc} {ls : Array Slot}, GX X D (tyM cI cC) A s (wM cI cC ad xs xkept xaside xisK xfound xgone xover xtape xtaped xtok xbeg xend xval xwid xsiz xcel xcar) H locs → lv_has ls 8 [(0, .ref (ad 0)), (1, .int v1), (2, .int v2), (3, .int v3), (4, .int v4), (5, .int v5), (6, .int v6)] → l5_longestBy_9  n xs xaside xgone xover v1 v2 v3 v4 v5 v6 = some (r0, o_xs, o_xaside, o_xover) → W p l e ({ frames := 8, cells := 0, slots := 0, locals := 188 }) s m args below meth c H locs 0 0 (MQ below (QcI D (tyM cI cC) (wM cI cC ad o_xs xkept o_xaside xisK xfound xgone o_xover xtape xtaped xtok xbeg xend xval xwid xsiz xcel xcar) A r0) args s 0 0 A) (F0 m 9 ls []) := by
  have hx := C0.1
  have hb := C0.2.1
  have hown := C0.2.2.2.2.1
  have hts := C0.2.2.2.2.2.1
  have hX := C0.2.2.2.2.2.2.2.2
  intro n
  induction n with
  | zero =>
    intro _ _ _ _ _ _ _ _ _ _ _ _ G hl hf
    cases hf
  | succ n ih =>
    intro xs xaside xover v1 v2 v3 v4 v5 v6 H locs ls G hl hf
    rw [l5_longestBy_9] at hf
    refine lv_iload hx hb dX5_longestBy_9 (lv_at hl 6 rfl) ?_
    refine lv_iload_n hx hb dX5_longestBy_11 rfl (lv_at hl 2 rfl) ?_
    refine go_i C0 G (runS_of (n := 1) (As := [.int v2]) (rest := [.int v6]) C0 G (c5_mostOf hX rfl) q850 q54 q848 q849 o5_mostOf ⟨rfl, rfl⟩ ⟨Nat.le_of_ble_eq_true rfl, Nat.le_of_ble_eq_true rfl⟩ rfl hl.1 rfl (Nat.le_of_ble_eq_true rfl) dX5_longestBy_12) (fun H locs G => ?_)
    refine lv_icmp_gt (tgt := 76) hx hb dX5_longestBy_15 (by decide) (fun hc1 => ?_) (fun hc1 => ?_)
    · have hf := itp hc1 hf
      refine lv_iload hx hb dX5_longestBy_76 (lv_at hl 4 rfl) ?_
      obtain ⟨rfl, rfl, rfl, rfl⟩ := inj4 hf
      exact ret_i C0 G dX5_longestBy_78
    · have hf := itn hc1 hf
      refine lv_aload_n hx hb dX5_longestBy_18 rfl (lv_at hl 0 rfl) ?_
      obtain ⟨xaside_2, hc3, hf⟩ := ob1_s hf
      refine go_v C0 G (runV_of (n := 0) (q0 := 0) (As := []) (rest := []) C0 G (c5_setsAside hX hc3) q919 q54 q916 q918 q30 o5_setsAside ⟨rfl, rfl⟩ ⟨Nat.le_of_ble_eq_true rfl, Nat.le_of_ble_eq_true rfl⟩ rfl rfl rfl hl.1 rfl (Nat.le_of_ble_eq_true rfl) dX5_longestBy_19) (fun H locs G => ?_)
      refine lv_aload_n hx hb dX5_longestBy_22 rfl (lv_at hl 0 rfl) ?_
      refine lv_iload_n hx hb dX5_longestBy_23 rfl (lv_at hl 1 rfl) ?_
      refine lv_iload_n hx hb dX5_longestBy_24 rfl (lv_at hl 2 rfl) ?_
      refine lv_iload hx hb dX5_longestBy_25 (lv_at hl 6 rfl) ?_
      obtain ⟨xs_4, hc5, hf⟩ := ob1_s hf
      refine go_v C0 G (runV_of (n := 3) (q0 := 0) (As := [.int v1, .int v2, .int v6]) (rest := []) C0 G (c5_puts hX hc5) q817 q54 q814 q816 q13 o5_puts ⟨rfl, rfl⟩ ⟨Nat.le_of_ble_eq_true rfl, Nat.le_of_ble_eq_true rfl⟩ rfl rfl rfl hl.1 rfl (Nat.le_of_ble_eq_true rfl) dX5_longestBy_27) (fun H locs G => ?_)
      refine lv_aload_n hx hb dX5_longestBy_30 rfl (lv_at hl 0 rfl) ?_
      refine lv_iconst (v := (-1 : Int32)) hx hb dX5_longestBy_31 (by decide) ?_
      refine lv_iload_n hx hb dX5_longestBy_32 rfl (lv_at hl 3 rfl) ?_
      obtain ⟨r6, xs_7, xover_8, hc9, hf⟩ := ob3_s hf
      refine go_i C0 G (runV_of (n := 2) (q0 := 0) (As := [.int (-1 : Int32), .int v3]) (rest := []) C0 G (c5_thenOf hX hc9) q966 q54 q963 q965 q35 o5_thenOf ⟨rfl, rfl⟩ ⟨Nat.le_of_ble_eq_true rfl, Nat.le_of_ble_eq_true rfl⟩ rfl rfl rfl hl.1 rfl (Nat.le_of_ble_eq_true rfl) dX5_longestBy_33) (fun H locs G => ?_)
      refine lv_istore (lv' := [(7, .int r6), (0, .ref (ad 0)), (1, .int v1), (2, .int v2), (3, .int v3), (4, .int v4), (5, .int v5), (6, .int v6)]) hx hb dX5_longestBy_36 hl (by decide) rfl (fun ls hl => ?_)
      refine lv_iload hx hb dX5_longestBy_38 (lv_at hl 0 rfl) ?_
      refine lv_iload hx hb dX5_longestBy_40 (lv_at hl 6 rfl) ?_
      refine lv_icmp_le (tgt := 50) hx hb dX5_longestBy_42 (by decide) (fun hc10 => ?_) (fun hc10 => ?_)
      · have hf := itp hc10 hf
        refine lv_iload hx hb dX5_longestBy_50 (lv_at hl 5 rfl) ?_
        exact b5_longestBy_52 C0 ih G (lv_sub hl [1, 2, 3, 4, 6, 7, 0] rfl) hf
      · have hf := itn hc10 hf
        refine lv_iload hx hb dX5_longestBy_45 (lv_at hl 7 rfl) ?_
        refine lv_goto (tgt := 52) hx hb dX5_longestBy_47 (by decide) ?_
        exact b5_longestBy_52 C0 ih G (lv_sub hl [1, 2, 3, 4, 6, 7, 0] rfl) hf
set_option maxHeartbeats 4000000 in
set_option maxRecDepth 100000 in
theorem b5_longestBy_0 {X : XP} {p : Program} {l : Launch} {e : Env} {s : State} {m : MethodId} {args : Array Value} {below : List Frame} {meth : Method} {c : Code} {D : va_G} {cI cC : ClassId} {ad : Nat → Nat} {A : Nat → Prop} {xkept : Nat → Int32} {xisK : Int32} {xfound : Nat → Int32} {xgone : Int32} {xtape : Nat → Int32} {xtaped : Int32} {xtok : Int32} {xbeg : Int32} {xend : Int32} {xval : Int64} {xwid : Nat → Int32} {xsiz : Nat → Int32} {xcel : Nat → Int32} {xcar : Nat → Int32} {r0 : Int32} {o_xs : Nat → Int32} {o_xaside : Nat → Int32} {o_xover : Nat → Int32} (C0 : CX X p s m args meth c cX5_longestBy 8 (some .int) RX5 A) : ∀ {xs : Nat → Int32} {xaside : Nat → Int32} {xover : Nat → Int32} {v1 : Int32} {v2 : Int32} {v3 : Int32} {H : Heap} {locs : List Loc} {ls : Array Slot}, GX X D (tyM cI cC) A s (wM cI cC ad xs xkept xaside xisK xfound xgone xover xtape xtaped xtok xbeg xend xval xwid xsiz xcel xcar) H locs → lv_has ls 8 [(0, .ref (ad 0)), (1, .int v1), (2, .int v2), (3, .int v3)] → f5_longestBy xs xaside xgone xover v1 v2 v3 = some (r0, o_xs, o_xaside, o_xover) → W p l e ({ frames := 8, cells := 0, slots := 0, locals := 188 }) s m args below meth c H locs 0 0 (MQ below (QcI D (tyM cI cC) (wM cI cC ad o_xs xkept o_xaside xisK xfound xgone o_xover xtape xtaped xtok xbeg xend xval xwid xsiz xcel xcar) A r0) args s 0 0 A) (F0 m 0 ls []) := by
  have hx := C0.1
  have hb := C0.2.1
  have hown := C0.2.2.2.2.1
  have hts := C0.2.2.2.2.2.1
  have hX := C0.2.2.2.2.2.2.2.2
  intro xs xaside xover v1 v2 v3 H locs ls G hl hf
  unfold f5_longestBy at hf
  refine lv_iconst (v := (0 : Int32)) hx hb dX5_longestBy_0 (by decide) ?_
  refine lv_istore (lv' := [(4, .int (0 : Int32)), (0, .ref (ad 0)), (1, .int v1), (2, .int v2), (3, .int v3)]) hx hb dX5_longestBy_1 hl (by decide) rfl (fun ls hl => ?_)
  refine lv_iconst (v := (-1 : Int32)) hx hb dX5_longestBy_3 (by decide) ?_
  refine lv_istore (lv' := [(5, .int (-1 : Int32)), (4, .int (0 : Int32)), (0, .ref (ad 0)), (1, .int v1), (2, .int v2), (3, .int v3)]) hx hb dX5_longestBy_4 hl (by decide) rfl (fun ls hl => ?_)
  refine lv_iconst (v := (0 : Int32)) hx hb dX5_longestBy_6 (by decide) ?_
  refine lv_istore (lv' := [(6, .int (0 : Int32)), (5, .int (-1 : Int32)), (4, .int (0 : Int32)), (0, .ref (ad 0)), (1, .int v1), (2, .int v2), (3, .int v3)]) hx hb dX5_longestBy_7 hl (by decide) rfl (fun ls hl => ?_)
  exact b5_longestBy_9 C0  1000 G (lv_sub hl [3, 4, 5, 6, 2, 1, 0] rfl) hf
theorem o5_longestBy : okName yX5_longestBy 3 := ⟨by decide, by decide, by decide +kernel⟩
set_option maxHeartbeats 4000000 in
set_option maxRecDepth 100000 in
theorem c5_longestBy {X : XP} (hX : XT X) {l : Launch} {D : va_G} {cI cC : ClassId} {ad : Nat → Nat} {sz : Nat} {xs : Nat → Int32} {xkept : Nat → Int32} {xaside : Nat → Int32} {xisK : Int32} {xfound : Nat → Int32} {xgone : Int32} {xover : Nat → Int32} {xtape : Nat → Int32} {xtaped : Int32} {xtok : Int32} {xbeg : Int32} {xend : Int32} {xval : Int64} {xwid : Nat → Int32} {xsiz : Nat → Int32} {xcel : Nat → Int32} {xcar : Nat → Int32} {v1 : Int32} {v2 : Int32} {v3 : Int32} {r0 : Int32} {o_xs : Nat → Int32} {o_xaside : Nat → Int32} {o_xover : Nat → Int32} (hf : f5_longestBy xs xaside xgone xover v1 v2 v3 = some (r0, o_xs, o_xaside, o_xover)) : Met l yX5_longestBy (wU yX5_longestBy cX5_longestBy 8 (some .int)) ({ frames := 8, cells := 0, slots := 0, locals := 188 }) (va_Pc [.ref (ad 0), .int v1, .int v2, .int v3] (PreW X D (tyM cI cC) (wM cI cC ad xs xkept xaside xisK xfound xgone xover xtape xtaped xtok xbeg xend xval xwid xsiz xcel xcar) sz)) (QcI D (tyM cI cC) (wM cI cC ad o_xs xkept o_xaside xisK xfound xgone o_xover xtape xtaped xtok xbeg xend xval xwid xsiz xcel xcar) (va_A (wM cI cC ad xs xkept xaside xisK xfound xgone xover xtape xtaped xtok xbeg xend xval xwid xsiz xcel xcar) sz) r0) 0 0 (va_A (wM cI cC ad xs xkept xaside xisK xfound xgone xover xtape xtaped xtok xbeg xend xval xwid xsiz xcel xcar) sz) := by
  refine startW hX (own := RX5) (by decide) rfl (Nat.le_of_ble_eq_true rfl) (fun p e s m args below meth c ls C0 G hl => ?_)
  exact b5_longestBy_0 C0 G hl hf
/-! 5_fromFor -/
theorem dX5_fromFor_0 : decode cX5_fromFor 0 = .ok (.aload_n 0, 1) := by decide +kernel
theorem dX5_fromFor_1 : decode cX5_fromFor 1 = .ok (.iload_n 1, 1) := by decide +kernel
theorem dX5_fromFor_2 : decode cX5_fromFor 2 = .ok (.invokevirtual 111, 3) := by decide +kernel
theorem dX5_fromFor_5 : decode cX5_fromFor 5 = .ok (.ifCond .eq 20, 3) := by decide +kernel
theorem dX5_fromFor_8 : decode cX5_fromFor 8 = .ok (.iload_n 2, 1) := by decide +kernel
theorem dX5_fromFor_9 : decode cX5_fromFor 9 = .ok (.invokestatic 158, 3) := by decide +kernel
theorem dX5_fromFor_12 : decode cX5_fromFor 12 = .ok (.ifCond .eq 13, 3) := by decide +kernel
theorem dX5_fromFor_15 : decode cX5_fromFor 15 = .ok (.aload_n 0, 1) := by decide +kernel
theorem dX5_fromFor_16 : decode cX5_fromFor 16 = .ok (.iload_n 1, 1) := by decide +kernel
theorem dX5_fromFor_17 : decode cX5_fromFor 17 = .ok (.iconst 1, 1) := by decide +kernel
theorem dX5_fromFor_18 : decode cX5_fromFor 18 = .ok (.iload_n 2, 1) := by decide +kernel
theorem dX5_fromFor_19 : decode cX5_fromFor 19 = .ok (.invokevirtual 161, 3) := by decide +kernel
theorem dX5_fromFor_22 : decode cX5_fromFor 22 = .ok (.goto 8, 3) := by decide +kernel
theorem dX5_fromFor_25 : decode cX5_fromFor 25 = .ok (.aload_n 0, 1) := by decide +kernel
theorem dX5_fromFor_26 : decode cX5_fromFor 26 = .ok (.iconst 0, 1) := by decide +kernel
theorem dX5_fromFor_27 : decode cX5_fromFor 27 = .ok (.invokevirtual 105, 3) := by decide +kernel
theorem dX5_fromFor_30 : decode cX5_fromFor 30 = .ok (.ireturn, 1) := by decide +kernel
def j5_fromFor_25  (xs : Nat → Int32) (xaside : Nat → Int32) (xfound : Nat → Int32) (xgone : Int32) (xover : Nat → Int32)  : Option (Int32 × (Nat → Int32) × (Nat → Int32) × (Nat → Int32) × (Nat → Int32)) :=
  ob2 (f5_no xfound (0 : Int32)) (fun r8 xfound_9 =>
  some (r8, xs, xaside, xfound_9, xover))
def f5_fromFor (xs : Nat → Int32) (xaside : Nat → Int32) (xfound : Nat → Int32) (xgone : Int32) (xover : Nat → Int32) (v1 : Int32) (v2 : Int32) : Option (Int32 × (Nat → Int32) × (Nat → Int32) × (Nat → Int32) × (Nat → Int32)) :=
  if (f5_isVisitor xs v1) = (0 : Int32) then (
    j5_fromFor_25 xs xaside xfound xgone xover)
  else (
    if (f5_isSoon v2) = (0 : Int32) then (
      j5_fromFor_25 xs xaside xfound xgone xover)
    else (
      ob4 (f5_longestBy xs xaside xgone xover v1 (1 : Int32) v2) (fun r3 xs_4 xaside_5 xover_6 =>
      some (r3, xs_4, xaside_5, xfound, xover_6))))
set_option maxHeartbeats 4000000 in
set_option maxRecDepth 100000 in
theorem b5_fromFor_25 {X : XP} {p : Program} {l : Launch} {e : Env} {s : State} {m : MethodId} {args : Array Value} {below : List Frame} {meth : Method} {c : Code} {D : va_G} {cI cC : ClassId} {ad : Nat → Nat} {A : Nat → Prop} {xkept : Nat → Int32} {xisK : Int32} {xgone : Int32} {xtape : Nat → Int32} {xtaped : Int32} {xtok : Int32} {xbeg : Int32} {xend : Int32} {xval : Int64} {xwid : Nat → Int32} {xsiz : Nat → Int32} {xcel : Nat → Int32} {xcar : Nat → Int32} {r0 : Int32} {o_xs : Nat → Int32} {o_xaside : Nat → Int32} {o_xfound : Nat → Int32} {o_xover : Nat → Int32} (C0 : CX X p s m args meth c cX5_fromFor 3 (some .int) RX5 A) : ∀ {xs : Nat → Int32} {xaside : Nat → Int32} {xfound : Nat → Int32} {xover : Nat → Int32} {H : Heap} {locs : List Loc} {ls : Array Slot}, GX X D (tyM cI cC) A s (wM cI cC ad xs xkept xaside xisK xfound xgone xover xtape xtaped xtok xbeg xend xval xwid xsiz xcel xcar) H locs → lv_has ls 3 [(0, .ref (ad 0))] → j5_fromFor_25  xs xaside xfound xgone xover = some (r0, o_xs, o_xaside, o_xfound, o_xover) → W p l e ({ frames := 9, cells := 0, slots := 0, locals := 215 }) s m args below meth c H locs 0 0 (MQ below (QcI D (tyM cI cC) (wM cI cC ad o_xs xkept o_xaside xisK o_xfound xgone o_xover xtape xtaped xtok xbeg xend xval xwid xsiz xcel xcar) A r0) args s 0 0 A) (F0 m 25 ls []) := by
  have hx := C0.1
  have hb := C0.2.1
  have hown := C0.2.2.2.2.1
  have hts := C0.2.2.2.2.2.1
  have hX := C0.2.2.2.2.2.2.2.2
  intro xs xaside xfound xover H locs ls G hl hf
  unfold j5_fromFor_25 at hf
  refine lv_aload_n hx hb dX5_fromFor_25 rfl (lv_at hl 0 rfl) ?_
  refine lv_iconst (v := (0 : Int32)) hx hb dX5_fromFor_26 (by decide) ?_
  obtain ⟨r8, xfound_9, hc10, hf⟩ := ob2_s hf
  refine go_i C0 G (runV_of (n := 1) (q0 := 0) (As := [.int (0 : Int32)]) (rest := []) C0 G (c5_no hX hc10) q788 q54 q785 q787 q9 o5_no ⟨rfl, rfl⟩ ⟨Nat.le_of_ble_eq_true rfl, Nat.le_of_ble_eq_true rfl⟩ rfl rfl rfl hl.1 rfl (Nat.le_of_ble_eq_true rfl) dX5_fromFor_27) (fun H locs G => ?_)
  obtain ⟨rfl, rfl, rfl, rfl, rfl⟩ := inj5 hf
  exact ret_i C0 G dX5_fromFor_30
set_option maxHeartbeats 4000000 in
set_option maxRecDepth 100000 in
theorem b5_fromFor_0 {X : XP} {p : Program} {l : Launch} {e : Env} {s : State} {m : MethodId} {args : Array Value} {below : List Frame} {meth : Method} {c : Code} {D : va_G} {cI cC : ClassId} {ad : Nat → Nat} {A : Nat → Prop} {xkept : Nat → Int32} {xisK : Int32} {xgone : Int32} {xtape : Nat → Int32} {xtaped : Int32} {xtok : Int32} {xbeg : Int32} {xend : Int32} {xval : Int64} {xwid : Nat → Int32} {xsiz : Nat → Int32} {xcel : Nat → Int32} {xcar : Nat → Int32} {r0 : Int32} {o_xs : Nat → Int32} {o_xaside : Nat → Int32} {o_xfound : Nat → Int32} {o_xover : Nat → Int32} (C0 : CX X p s m args meth c cX5_fromFor 3 (some .int) RX5 A) : ∀ {xs : Nat → Int32} {xaside : Nat → Int32} {xfound : Nat → Int32} {xover : Nat → Int32} {v1 : Int32} {v2 : Int32} {H : Heap} {locs : List Loc} {ls : Array Slot}, GX X D (tyM cI cC) A s (wM cI cC ad xs xkept xaside xisK xfound xgone xover xtape xtaped xtok xbeg xend xval xwid xsiz xcel xcar) H locs → lv_has ls 3 [(0, .ref (ad 0)), (1, .int v1), (2, .int v2)] → f5_fromFor xs xaside xfound xgone xover v1 v2 = some (r0, o_xs, o_xaside, o_xfound, o_xover) → W p l e ({ frames := 9, cells := 0, slots := 0, locals := 215 }) s m args below meth c H locs 0 0 (MQ below (QcI D (tyM cI cC) (wM cI cC ad o_xs xkept o_xaside xisK o_xfound xgone o_xover xtape xtaped xtok xbeg xend xval xwid xsiz xcel xcar) A r0) args s 0 0 A) (F0 m 0 ls []) := by
  have hx := C0.1
  have hb := C0.2.1
  have hown := C0.2.2.2.2.1
  have hts := C0.2.2.2.2.2.1
  have hX := C0.2.2.2.2.2.2.2.2
  intro xs xaside xfound xover v1 v2 H locs ls G hl hf
  unfold f5_fromFor at hf
  refine lv_aload_n hx hb dX5_fromFor_0 rfl (lv_at hl 0 rfl) ?_
  refine lv_iload_n hx hb dX5_fromFor_1 rfl (lv_at hl 1 rfl) ?_
  refine go_i C0 G (runV_of (n := 1) (q0 := 0) (As := [.int v1]) (rest := []) C0 G (c5_isVisitor hX rfl) q825 q54 q822 q824 q14 o5_isVisitor ⟨rfl, rfl⟩ ⟨Nat.le_of_ble_eq_true rfl, Nat.le_of_ble_eq_true rfl⟩ rfl rfl rfl hl.1 rfl (Nat.le_of_ble_eq_true rfl) dX5_fromFor_2) (fun H locs G => ?_)
  refine lv_if_eq (tgt := 25) hx hb dX5_fromFor_5 (by decide) (fun hc1 => ?_) (fun hc1 => ?_)
  · have hf := itp hc1 hf
    exact b5_fromFor_25 C0  G (lv_sub hl [0] rfl) hf
  · have hf := itn hc1 hf
    refine lv_iload_n hx hb dX5_fromFor_8 rfl (lv_at hl 2 rfl) ?_
    refine go_i C0 G (runS_of (n := 1) (As := [.int v2]) (rest := []) C0 G (c5_isSoon hX rfl) q958 q54 q956 q957 o5_isSoon ⟨rfl, rfl⟩ ⟨Nat.le_of_ble_eq_true rfl, Nat.le_of_ble_eq_true rfl⟩ rfl hl.1 rfl (Nat.le_of_ble_eq_true rfl) dX5_fromFor_9) (fun H locs G => ?_)
    refine lv_if_eq (tgt := 25) hx hb dX5_fromFor_12 (by decide) (fun hc2 => ?_) (fun hc2 => ?_)
    · have hf := itp hc2 hf
      exact b5_fromFor_25 C0  G (lv_sub hl [0] rfl) hf
    · have hf := itn hc2 hf
      refine lv_aload_n hx hb dX5_fromFor_15 rfl (lv_at hl 0 rfl) ?_
      refine lv_iload_n hx hb dX5_fromFor_16 rfl (lv_at hl 1 rfl) ?_
      refine lv_iconst (v := (1 : Int32)) hx hb dX5_fromFor_17 (by decide) ?_
      refine lv_iload_n hx hb dX5_fromFor_18 rfl (lv_at hl 2 rfl) ?_
      obtain ⟨r3, xs_4, xaside_5, xover_6, hc7, hf⟩ := ob4_s hf
      refine go_i C0 G (runV_of (n := 3) (q0 := 0) (As := [.int v1, .int (1 : Int32), .int v2]) (rest := []) C0 G (c5_longestBy hX hc7) q962 q54 q959 q961 q34 o5_longestBy ⟨rfl, rfl⟩ ⟨Nat.le_of_ble_eq_true rfl, Nat.le_of_ble_eq_true rfl⟩ rfl rfl rfl hl.1 rfl (Nat.le_of_ble_eq_true rfl) dX5_fromFor_19) (fun H locs G => ?_)
      refine lv_goto (tgt := 30) hx hb dX5_fromFor_22 (by decide) ?_
      obtain ⟨rfl, rfl, rfl, rfl, rfl⟩ := inj5 hf
      exact ret_i C0 G dX5_fromFor_30
theorem o5_fromFor : okName yX5_fromFor 2 := ⟨by decide, by decide, by decide +kernel⟩
set_option maxHeartbeats 4000000 in
set_option maxRecDepth 100000 in
theorem c5_fromFor {X : XP} (hX : XT X) {l : Launch} {D : va_G} {cI cC : ClassId} {ad : Nat → Nat} {sz : Nat} {xs : Nat → Int32} {xkept : Nat → Int32} {xaside : Nat → Int32} {xisK : Int32} {xfound : Nat → Int32} {xgone : Int32} {xover : Nat → Int32} {xtape : Nat → Int32} {xtaped : Int32} {xtok : Int32} {xbeg : Int32} {xend : Int32} {xval : Int64} {xwid : Nat → Int32} {xsiz : Nat → Int32} {xcel : Nat → Int32} {xcar : Nat → Int32} {v1 : Int32} {v2 : Int32} {r0 : Int32} {o_xs : Nat → Int32} {o_xaside : Nat → Int32} {o_xfound : Nat → Int32} {o_xover : Nat → Int32} (hf : f5_fromFor xs xaside xfound xgone xover v1 v2 = some (r0, o_xs, o_xaside, o_xfound, o_xover)) : Met l yX5_fromFor (wU yX5_fromFor cX5_fromFor 3 (some .int)) ({ frames := 9, cells := 0, slots := 0, locals := 215 }) (va_Pc [.ref (ad 0), .int v1, .int v2] (PreW X D (tyM cI cC) (wM cI cC ad xs xkept xaside xisK xfound xgone xover xtape xtaped xtok xbeg xend xval xwid xsiz xcel xcar) sz)) (QcI D (tyM cI cC) (wM cI cC ad o_xs xkept o_xaside xisK o_xfound xgone o_xover xtape xtaped xtok xbeg xend xval xwid xsiz xcel xcar) (va_A (wM cI cC ad xs xkept xaside xisK xfound xgone xover xtape xtaped xtok xbeg xend xval xwid xsiz xcel xcar) sz) r0) 0 0 (va_A (wM cI cC ad xs xkept xaside xisK xfound xgone xover xtape xtaped xtok xbeg xend xval xwid xsiz xcel xcar) sz) := by
  refine startW hX (own := RX5) (by decide) rfl (Nat.le_of_ble_eq_true rfl) (fun p e s m args below meth c ls C0 G hl => ?_)
  exact b5_fromFor_0 C0 G hl hf
/-! 5_wideFor -/
theorem dX5_wideFor_0 : decode cX5_wideFor 0 = .ok (.aload_n 0, 1) := by decide +kernel
theorem dX5_wideFor_1 : decode cX5_wideFor 1 = .ok (.iload_n 1, 1) := by decide +kernel
theorem dX5_wideFor_2 : decode cX5_wideFor 2 = .ok (.invokevirtual 111, 3) := by decide +kernel
theorem dX5_wideFor_5 : decode cX5_wideFor 5 = .ok (.ifCond .eq 21, 3) := by decide +kernel
theorem dX5_wideFor_8 : decode cX5_wideFor 8 = .ok (.iload_n 2, 1) := by decide +kernel
theorem dX5_wideFor_9 : decode cX5_wideFor 9 = .ok (.iconst 0, 1) := by decide +kernel
theorem dX5_wideFor_10 : decode cX5_wideFor 10 = .ok (.sipush 9999, 3) := by decide +kernel
theorem dX5_wideFor_13 : decode cX5_wideFor 13 = .ok (.invokestatic 51, 3) := by decide +kernel
theorem dX5_wideFor_16 : decode cX5_wideFor 16 = .ok (.ifCond .eq 10, 3) := by decide +kernel
theorem dX5_wideFor_19 : decode cX5_wideFor 19 = .ok (.iload_n 3, 1) := by decide +kernel
theorem dX5_wideFor_20 : decode cX5_wideFor 20 = .ok (.invokestatic 158, 3) := by decide +kernel
theorem dX5_wideFor_23 : decode cX5_wideFor 23 = .ok (.ifCond .ne 9, 3) := by decide +kernel
theorem dX5_wideFor_26 : decode cX5_wideFor 26 = .ok (.aload_n 0, 1) := by decide +kernel
theorem dX5_wideFor_27 : decode cX5_wideFor 27 = .ok (.iconst 0, 1) := by decide +kernel
theorem dX5_wideFor_28 : decode cX5_wideFor 28 = .ok (.invokevirtual 105, 3) := by decide +kernel
theorem dX5_wideFor_31 : decode cX5_wideFor 31 = .ok (.ireturn, 1) := by decide +kernel
theorem dX5_wideFor_32 : decode cX5_wideFor 32 = .ok (.bipush 8, 2) := by decide +kernel
theorem dX5_wideFor_34 : decode cX5_wideFor 34 = .ok (.istore 4, 2) := by decide +kernel
theorem dX5_wideFor_36 : decode cX5_wideFor 36 = .ok (.iload 4, 2) := by decide +kernel
theorem dX5_wideFor_38 : decode cX5_wideFor 38 = .ok (.ifCond .le 56, 3) := by decide +kernel
theorem dX5_wideFor_41 : decode cX5_wideFor 41 = .ok (.aload_n 0, 1) := by decide +kernel
theorem dX5_wideFor_42 : decode cX5_wideFor 42 = .ok (.invokevirtual 140, 3) := by decide +kernel
theorem dX5_wideFor_45 : decode cX5_wideFor 45 = .ok (.aload_n 0, 1) := by decide +kernel
theorem dX5_wideFor_46 : decode cX5_wideFor 46 = .ok (.iload_n 1, 1) := by decide +kernel
theorem dX5_wideFor_47 : decode cX5_wideFor 47 = .ok (.iconst 2, 1) := by decide +kernel
theorem dX5_wideFor_48 : decode cX5_wideFor 48 = .ok (.iload 4, 2) := by decide +kernel
theorem dX5_wideFor_50 : decode cX5_wideFor 50 = .ok (.invokevirtual 83, 3) := by decide +kernel
theorem dX5_wideFor_53 : decode cX5_wideFor 53 = .ok (.aload_n 0, 1) := by decide +kernel
theorem dX5_wideFor_54 : decode cX5_wideFor 54 = .ok (.iload_n 3, 1) := by decide +kernel
theorem dX5_wideFor_55 : decode cX5_wideFor 55 = .ok (.invokevirtual 120, 3) := by decide +kernel
theorem dX5_wideFor_58 : decode cX5_wideFor 58 = .ok (.aload_n 0, 1) := by decide +kernel
theorem dX5_wideFor_59 : decode cX5_wideFor 59 = .ok (.iload_n 1, 1) := by decide +kernel
theorem dX5_wideFor_60 : decode cX5_wideFor 60 = .ok (.bipush 6, 2) := by decide +kernel
theorem dX5_wideFor_62 : decode cX5_wideFor 62 = .ok (.invokevirtual 55, 3) := by decide +kernel
theorem dX5_wideFor_65 : decode cX5_wideFor 65 = .ok (.iload_n 2, 1) := by decide +kernel
theorem dX5_wideFor_66 : decode cX5_wideFor 66 = .ok (.if_icmp .lt 7, 3) := by decide +kernel
theorem dX5_wideFor_69 : decode cX5_wideFor 69 = .ok (.iconst 1, 1) := by decide +kernel
theorem dX5_wideFor_70 : decode cX5_wideFor 70 = .ok (.goto 4, 3) := by decide +kernel
theorem dX5_wideFor_73 : decode cX5_wideFor 73 = .ok (.iconst 0, 1) := by decide +kernel
theorem dX5_wideFor_74 : decode cX5_wideFor 74 = .ok (.istore 5, 2) := by decide +kernel
theorem dX5_wideFor_76 : decode cX5_wideFor 76 = .ok (.aload_n 0, 1) := by decide +kernel
theorem dX5_wideFor_77 : decode cX5_wideFor 77 = .ok (.invokevirtual 143, 3) := by decide +kernel
theorem dX5_wideFor_80 : decode cX5_wideFor 80 = .ok (.iload 5, 2) := by decide +kernel
theorem dX5_wideFor_82 : decode cX5_wideFor 82 = .ok (.ifCond .eq 6, 3) := by decide +kernel
theorem dX5_wideFor_85 : decode cX5_wideFor 85 = .ok (.iload 4, 2) := by decide +kernel
theorem dX5_wideFor_87 : decode cX5_wideFor 87 = .ok (.ireturn, 1) := by decide +kernel
theorem dX5_wideFor_88 : decode cX5_wideFor 88 = .ok (.iinc 4 (-1), 3) := by decide +kernel
theorem dX5_wideFor_91 : decode cX5_wideFor 91 = .ok (.goto (-55), 3) := by decide +kernel
theorem dX5_wideFor_94 : decode cX5_wideFor 94 = .ok (.aload_n 0, 1) := by decide +kernel
theorem dX5_wideFor_95 : decode cX5_wideFor 95 = .ok (.iconst 3, 1) := by decide +kernel
theorem dX5_wideFor_96 : decode cX5_wideFor 96 = .ok (.invokevirtual 105, 3) := by decide +kernel
theorem dX5_wideFor_99 : decode cX5_wideFor 99 = .ok (.ireturn, 1) := by decide +kernel
def j5_wideFor_26  (xs : Nat → Int32) (xaside : Nat → Int32) (xfound : Nat → Int32) (xgone : Int32) (xover : Nat → Int32)  : Option (Int32 × (Nat → Int32) × (Nat → Int32) × (Nat → Int32) × (Nat → Int32)) :=
  ob2 (f5_no xfound (0 : Int32)) (fun r4 xfound_5 =>
  some (r4, xs, xaside, xfound_5, xover))
def j5_wideFor_74 (k36 : (Nat → Int32) → (Nat → Int32) → (Nat → Int32) → Int32 → (Nat → Int32) → Int32 → Int32 → Int32 → Int32 → Option (Int32 × (Nat → Int32) × (Nat → Int32) × (Nat → Int32) × (Nat → Int32))) (xs : Nat → Int32) (xaside : Nat → Int32) (xfound : Nat → Int32) (xgone : Int32) (xover : Nat → Int32) (v1 : Int32) (v2 : Int32) (v3 : Int32) (v4 : Int32) (t0 : Int32) : Option (Int32 × (Nat → Int32) × (Nat → Int32) × (Nat → Int32) × (Nat → Int32)) :=
  ob1 (f5_laysBack xs xaside) (fun xs_21 =>
  if t0 = (0 : Int32) then (
    k36 xs_21 xaside xfound xgone xover v1 v2 v3 (v4 + (-1 : Int32)))
  else (
    some (v4, xs_21, xaside, xfound, xover)))
def l5_wideFor_36  : Nat → (Nat → Int32) → (Nat → Int32) → (Nat → Int32) → Int32 → (Nat → Int32) → Int32 → Int32 → Int32 → Int32 → Option (Int32 × (Nat → Int32) × (Nat → Int32) × (Nat → Int32) × (Nat → Int32))
  | 0, _, _, _, _, _, _, _, _, _ => none
  | n + 1, xs, xaside, xfound, xgone, xover, v1, v2, v3, v4 =>
    if v4 ≤ (0 : Int32) then (
      ob2 (f5_no xfound (3 : Int32)) (fun r8 xfound_9 =>
      some (r8, xs, xaside, xfound_9, xover)))
    else (
      ob1 (f5_setsAside xs xaside) (fun xaside_11 =>
      ob1 (f5_puts xs v1 (2 : Int32) v4) (fun xs_13 =>
      ob2 (f5_goes xs_13 xgone xover v3) (fun xs_15 xover_16 =>
      ob1 (f5_get xs_15 v1 (6 : Int32)) (fun r18 =>
      if r18 < v2 then (
        j5_wideFor_74 (l5_wideFor_36 n) xs_15 xaside_11 xfound xgone xover_16 v1 v2 v3 v4 (0 : Int32))
      else (
        j5_wideFor_74 (l5_wideFor_36 n) xs_15 xaside_11 xfound xgone xover_16 v1 v2 v3 v4 (1 : Int32)))))))
def f5_wideFor (xs : Nat → Int32) (xaside : Nat → Int32) (xfound : Nat → Int32) (xgone : Int32) (xover : Nat → Int32) (v1 : Int32) (v2 : Int32) (v3 : Int32) : Option (Int32 × (Nat → Int32) × (Nat → Int32) × (Nat → Int32) × (Nat → Int32)) :=
  if (f5_isVisitor xs v1) = (0 : Int32) then (
    j5_wideFor_26 xs xaside xfound xgone xover)
  else (
    if (f5_in1 v2 (0 : Int32) (9999 : Int32)) = (0 : Int32) then (
      j5_wideFor_26 xs xaside xfound xgone xover)
    else (
      if (f5_isSoon v3) = (0 : Int32) then (
        j5_wideFor_26 xs xaside xfound xgone xover)
      else (
        l5_wideFor_36 1000 xs xaside xfound xgone xover v1 v2 v3 (8 : Int32))))
set_option maxHeartbeats 4000000 in
set_option maxRecDepth 100000 in
theorem b5_wideFor_26 {X : XP} {p : Program} {l : Launch} {e : Env} {s : State} {m : MethodId} {args : Array Value} {below : List Frame} {meth : Method} {c : Code} {D : va_G} {cI cC : ClassId} {ad : Nat → Nat} {A : Nat → Prop} {xkept : Nat → Int32} {xisK : Int32} {xgone : Int32} {xtape : Nat → Int32} {xtaped : Int32} {xtok : Int32} {xbeg : Int32} {xend : Int32} {xval : Int64} {xwid : Nat → Int32} {xsiz : Nat → Int32} {xcel : Nat → Int32} {xcar : Nat → Int32} {r0 : Int32} {o_xs : Nat → Int32} {o_xaside : Nat → Int32} {o_xfound : Nat → Int32} {o_xover : Nat → Int32} (C0 : CX X p s m args meth c cX5_wideFor 6 (some .int) RX5 A) : ∀ {xs : Nat → Int32} {xaside : Nat → Int32} {xfound : Nat → Int32} {xover : Nat → Int32} {H : Heap} {locs : List Loc} {ls : Array Slot}, GX X D (tyM cI cC) A s (wM cI cC ad xs xkept xaside xisK xfound xgone xover xtape xtaped xtok xbeg xend xval xwid xsiz xcel xcar) H locs → lv_has ls 6 [(0, .ref (ad 0))] → j5_wideFor_26  xs xaside xfound xgone xover = some (r0, o_xs, o_xaside, o_xfound, o_xover) → W p l e ({ frames := 7, cells := 0, slots := 0, locals := 165 }) s m args below meth c H locs 0 0 (MQ below (QcI D (tyM cI cC) (wM cI cC ad o_xs xkept o_xaside xisK o_xfound xgone o_xover xtape xtaped xtok xbeg xend xval xwid xsiz xcel xcar) A r0) args s 0 0 A) (F0 m 26 ls []) := by
  have hx := C0.1
  have hb := C0.2.1
  have hown := C0.2.2.2.2.1
  have hts := C0.2.2.2.2.2.1
  have hX := C0.2.2.2.2.2.2.2.2
  intro xs xaside xfound xover H locs ls G hl hf
  unfold j5_wideFor_26 at hf
  refine lv_aload_n hx hb dX5_wideFor_26 rfl (lv_at hl 0 rfl) ?_
  refine lv_iconst (v := (0 : Int32)) hx hb dX5_wideFor_27 (by decide) ?_
  obtain ⟨r4, xfound_5, hc6, hf⟩ := ob2_s hf
  refine go_i C0 G (runV_of (n := 1) (q0 := 0) (As := [.int (0 : Int32)]) (rest := []) C0 G (c5_no hX hc6) q788 q54 q785 q787 q9 o5_no ⟨rfl, rfl⟩ ⟨Nat.le_of_ble_eq_true rfl, Nat.le_of_ble_eq_true rfl⟩ rfl rfl rfl hl.1 rfl (Nat.le_of_ble_eq_true rfl) dX5_wideFor_28) (fun H locs G => ?_)
  obtain ⟨rfl, rfl, rfl, rfl, rfl⟩ := inj5 hf
  exact ret_i C0 G dX5_wideFor_31
set_option maxHeartbeats 4000000 in
set_option maxRecDepth 100000 in
theorem b5_wideFor_74 {X : XP} {p : Program} {l : Launch} {e : Env} {s : State} {m : MethodId} {args : Array Value} {below : List Frame} {meth : Method} {c : Code} {D : va_G} {cI cC : ClassId} {ad : Nat → Nat} {A : Nat → Prop} {xkept : Nat → Int32} {xisK : Int32} {xgone : Int32} {xtape : Nat → Int32} {xtaped : Int32} {xtok : Int32} {xbeg : Int32} {xend : Int32} {xval : Int64} {xwid : Nat → Int32} {xsiz : Nat → Int32} {xcel : Nat → Int32} {xcar : Nat → Int32} {r0 : Int32} {o_xs : Nat → Int32} {o_xaside : Nat → Int32} {o_xfound : Nat → Int32} {o_xover : Nat → Int32} (C0 : CX X p s m args meth c cX5_wideFor 6 (some .int) RX5 A) {k36 : (Nat → Int32) → (Nat → Int32) → (Nat → Int32) → Int32 → (Nat → Int32) → Int32 → Int32 → Int32 → Int32 → Option (Int32 × (Nat → Int32) × (Nat → Int32) × (Nat → Int32) × (Nat → Int32))} (hk36 : ∀ {xs : Nat → Int32} {xaside : Nat → Int32} {xfound : Nat → Int32} {xover : Nat → Int32} {v1 : Int32} {v2 : Int32} {v3 : Int32} {v4 : Int32} {H : Heap} {locs : List Loc} {ls : Array Slot}, GX X D (tyM cI cC) A s (wM cI cC ad xs xkept xaside xisK xfound xgone xover xtape xtaped xtok xbeg xend xval xwid xsiz xcel xcar) H locs → lv_has ls 6 [(0, .ref (ad 0)), (1, .int v1), (2, .int v2), (3, .int v3), (4, .int v4)] → k36 xs xaside xfound xgone xover v1 v2 v3 v4 = some (r0, o_xs, o_xaside, o_xfound, o_xover) → W p l e ({ frames := 7, cells := 0, slots := 0, locals := 165 }) s m args below meth c H locs 0 0 (MQ below (QcI D (tyM cI cC) (wM cI cC ad o_xs xkept o_xaside xisK o_xfound xgone o_xover xtape xtaped xtok xbeg xend xval xwid xsiz xcel xcar) A r0) args s 0 0 A) (F0 m 36 ls [])) : ∀ {xs : Nat → Int32} {xaside : Nat → Int32} {xfound : Nat → Int32} {xover : Nat → Int32} {v1 : Int32} {v2 : Int32} {v3 : Int32} {v4 : Int32} {t0 : Int32} {H : Heap} {locs : List Loc} {ls : Array Slot}, GX X D (tyM cI cC) A s (wM cI cC ad xs xkept xaside xisK xfound xgone xover xtape xtaped xtok xbeg xend xval xwid xsiz xcel xcar) H locs → lv_has ls 6 [(0, .ref (ad 0)), (1, .int v1), (2, .int v2), (3, .int v3), (4, .int v4)] → j5_wideFor_74 k36 xs xaside xfound xgone xover v1 v2 v3 v4 t0 = some (r0, o_xs, o_xaside, o_xfound, o_xover) → W p l e ({ frames := 7, cells := 0, slots := 0, locals := 165 }) s m args below meth c H locs 0 0 (MQ below (QcI D (tyM cI cC) (wM cI cC ad o_xs xkept o_xaside xisK o_xfound xgone o_xover xtape xtaped xtok xbeg xend xval xwid xsiz xcel xcar) A r0) args s 0 0 A) (F0 m 74 ls [.int t0]) := by
  have hx := C0.1
  have hb := C0.2.1
  have hown := C0.2.2.2.2.1
  have hts := C0.2.2.2.2.2.1
  have hX := C0.2.2.2.2.2.2.2.2
  intro xs xaside xfound xover v1 v2 v3 v4 t0 H locs ls G hl hf
  unfold j5_wideFor_74 at hf
  refine lv_istore (lv' := [(5, .int t0), (0, .ref (ad 0)), (1, .int v1), (2, .int v2), (3, .int v3), (4, .int v4)]) hx hb dX5_wideFor_74 hl (by decide) rfl (fun ls hl => ?_)
  refine lv_aload_n hx hb dX5_wideFor_76 rfl (lv_at hl 1 rfl) ?_
  obtain ⟨xs_21, hc22, hf⟩ := ob1_s hf
  refine go_v C0 G (runV_of (n := 0) (q0 := 0) (As := []) (rest := []) C0 G (c5_laysBack hX hc22) q923 q54 q920 q922 q31 o5_laysBack ⟨rfl, rfl⟩ ⟨Nat.le_of_ble_eq_true rfl, Nat.le_of_ble_eq_true rfl⟩ rfl rfl rfl hl.1 rfl (Nat.le_of_ble_eq_true rfl) dX5_wideFor_77) (fun H locs G => ?_)
  refine lv_iload hx hb dX5_wideFor_80 (lv_at hl 0 rfl) ?_
  refine lv_if_eq (tgt := 88) hx hb dX5_wideFor_82 (by decide) (fun hc23 => ?_) (fun hc23 => ?_)
  · have hf := itp hc23 hf
    refine lv_iinc (v := (v4 + (-1 : Int32))) (lv' := [(4, .int (v4 + (-1 : Int32))), (5, .int t0), (0, .ref (ad 0)), (1, .int v1), (2, .int v2), (3, .int v3)]) hx hb dX5_wideFor_88 hl (k := 5) rfl rfl (by decide) rfl (fun ls hl => ?_)
    refine lv_goto (tgt := 36) hx hb dX5_wideFor_91 (by decide) ?_
    exact hk36 G (lv_sub hl [2, 3, 4, 5, 0] rfl) hf
  · have hf := itn hc23 hf
    refine lv_iload hx hb dX5_wideFor_85 (lv_at hl 5 rfl) ?_
    obtain ⟨rfl, rfl, rfl, rfl, rfl⟩ := inj5 hf
    exact ret_i C0 G dX5_wideFor_87
set_option maxHeartbeats 4000000 in
set_option maxRecDepth 100000 in
theorem b5_wideFor_36 {X : XP} {p : Program} {l : Launch} {e : Env} {s : State} {m : MethodId} {args : Array Value} {below : List Frame} {meth : Method} {c : Code} {D : va_G} {cI cC : ClassId} {ad : Nat → Nat} {A : Nat → Prop} {xkept : Nat → Int32} {xisK : Int32} {xgone : Int32} {xtape : Nat → Int32} {xtaped : Int32} {xtok : Int32} {xbeg : Int32} {xend : Int32} {xval : Int64} {xwid : Nat → Int32} {xsiz : Nat → Int32} {xcel : Nat → Int32} {xcar : Nat → Int32} {r0 : Int32} {o_xs : Nat → Int32} {o_xaside : Nat → Int32} {o_xfound : Nat → Int32} {o_xover : Nat → Int32} (C0 : CX X p s m args meth c cX5_wideFor 6 (some .int) RX5 A) : ∀ (n : Nat) {xs : Nat → Int32} {xaside : Nat → Int32} {xfound : Nat → Int32} {xover : Nat → Int32} {v1 : Int32} {v2 : Int32} {v3 : Int32} {v4 : Int32} {H : Heap} {locs : List Loc} {ls : Array Slot}, GX X D (tyM cI cC) A s (wM cI cC ad xs xkept xaside xisK xfound xgone xover xtape xtaped xtok xbeg xend xval xwid xsiz xcel xcar) H locs → lv_has ls 6 [(0, .ref (ad 0)), (1, .int v1), (2, .int v2), (3, .int v3), (4, .int v4)] → l5_wideFor_36  n xs xaside xfound xgone xover v1 v2 v3 v4 = some (r0, o_xs, o_xaside, o_xfound, o_xover) → W p l e ({ frames := 7, cells := 0, slots := 0, locals := 165 }) s m args below meth c H locs 0 0 (MQ below (QcI D (tyM cI cC) (wM cI cC ad o_xs xkept o_xaside xisK o_xfound xgone o_xover xtape xtaped xtok xbeg xend xval xwid xsiz xcel xcar) A r0) args s 0 0 A) (F0 m 36 ls []) := by
  have hx := C0.1
  have hb := C0.2.1
  have hown := C0.2.2.2.2.1
  have hts := C0.2.2.2.2.2.1
  have hX := C0.2.2.2.2.2.2.2.2
  intro n
  induction n with
  | zero =>
    intro _ _ _ _ _ _ _ _ _ _ _ G hl hf
    cases hf
  | succ n ih =>
    intro xs xaside xfound xover v1 v2 v3 v4 H locs ls G hl hf
    rw [l5_wideFor_36] at hf
    refine lv_iload hx hb dX5_wideFor_36 (lv_at hl 4 rfl) ?_
    refine lv_if_le (tgt := 94) hx hb dX5_wideFor_38 (by decide) (fun hc7 => ?_) (fun hc7 => ?_)
    · have hf := itp hc7 hf
      refine lv_aload_n hx hb dX5_wideFor_94 rfl (lv_at hl 0 rfl) ?_
      refine lv_iconst (v := (3 : Int32)) hx hb dX5_wideFor_95 (by decide) ?_
      obtain ⟨r8, xfound_9, hc10, hf⟩ := ob2_s hf
      refine go_i C0 G (runV_of (n := 1) (q0 := 0) (As := [.int (3 : Int32)]) (rest := []) C0 G (c5_no hX hc10) q788 q54 q785 q787 q9 o5_no ⟨rfl, rfl⟩ ⟨Nat.le_of_ble_eq_true rfl, Nat.le_of_ble_eq_true rfl⟩ rfl rfl rfl hl.1 rfl (Nat.le_of_ble_eq_true rfl) dX5_wideFor_96) (fun H locs G => ?_)
      obtain ⟨rfl, rfl, rfl, rfl, rfl⟩ := inj5 hf
      exact ret_i C0 G dX5_wideFor_99
    · have hf := itn hc7 hf
      refine lv_aload_n hx hb dX5_wideFor_41 rfl (lv_at hl 0 rfl) ?_
      obtain ⟨xaside_11, hc12, hf⟩ := ob1_s hf
      refine go_v C0 G (runV_of (n := 0) (q0 := 0) (As := []) (rest := []) C0 G (c5_setsAside hX hc12) q919 q54 q916 q918 q30 o5_setsAside ⟨rfl, rfl⟩ ⟨Nat.le_of_ble_eq_true rfl, Nat.le_of_ble_eq_true rfl⟩ rfl rfl rfl hl.1 rfl (Nat.le_of_ble_eq_true rfl) dX5_wideFor_42) (fun H locs G => ?_)
      refine lv_aload_n hx hb dX5_wideFor_45 rfl (lv_at hl 0 rfl) ?_
      refine lv_iload_n hx hb dX5_wideFor_46 rfl (lv_at hl 1 rfl) ?_
      refine lv_iconst (v := (2 : Int32)) hx hb dX5_wideFor_47 (by decide) ?_
      refine lv_iload hx hb dX5_wideFor_48 (lv_at hl 4 rfl) ?_
      obtain ⟨xs_13, hc14, hf⟩ := ob1_s hf
      refine go_v C0 G (runV_of (n := 3) (q0 := 0) (As := [.int v1, .int (2 : Int32), .int v4]) (rest := []) C0 G (c5_puts hX hc14) q817 q54 q814 q816 q13 o5_puts ⟨rfl, rfl⟩ ⟨Nat.le_of_ble_eq_true rfl, Nat.le_of_ble_eq_true rfl⟩ rfl rfl rfl hl.1 rfl (Nat.le_of_ble_eq_true rfl) dX5_wideFor_50) (fun H locs G => ?_)
      refine lv_aload_n hx hb dX5_wideFor_53 rfl (lv_at hl 0 rfl) ?_
      refine lv_iload_n hx hb dX5_wideFor_54 rfl (lv_at hl 3 rfl) ?_
      obtain ⟨xs_15, xover_16, hc17, hf⟩ := ob2_s hf
      refine go_v C0 G (runV_of (n := 1) (q0 := 0) (As := [.int v3]) (rest := []) C0 G (c5_goes hX hc17) q871 q54 q868 q870 q20 o5_goes ⟨rfl, rfl⟩ ⟨Nat.le_of_ble_eq_true rfl, Nat.le_of_ble_eq_true rfl⟩ rfl rfl rfl hl.1 rfl (Nat.le_of_ble_eq_true rfl) dX5_wideFor_55) (fun H locs G => ?_)
      refine lv_aload_n hx hb dX5_wideFor_58 rfl (lv_at hl 0 rfl) ?_
      refine lv_iload_n hx hb dX5_wideFor_59 rfl (lv_at hl 1 rfl) ?_
      refine lv_bipush (v := (6 : Int32)) hx hb dX5_wideFor_60 (by decide) ?_
      obtain ⟨r18, hc19, hf⟩ := ob1_s hf
      refine go_i C0 G (runV_of (n := 2) (q0 := 0) (As := [.int v1, .int (6 : Int32)]) (rest := []) C0 G (c5_get hX hc19) q801 q54 q798 q800 q11 o5_get ⟨rfl, rfl⟩ ⟨Nat.le_of_ble_eq_true rfl, Nat.le_of_ble_eq_true rfl⟩ rfl rfl rfl hl.1 rfl (Nat.le_of_ble_eq_true rfl) dX5_wideFor_62) (fun H locs G => ?_)
      refine lv_iload_n hx hb dX5_wideFor_65 rfl (lv_at hl 2 rfl) ?_
      refine lv_icmp_lt (tgt := 73) hx hb dX5_wideFor_66 (by decide) (fun hc20 => ?_) (fun hc20 => ?_)
      · have hf := itp hc20 hf
        refine lv_iconst (v := (0 : Int32)) hx hb dX5_wideFor_73 (by decide) ?_
        exact b5_wideFor_74 C0 ih G (lv_sub hl [0, 1, 2, 3, 4] rfl) hf
      · have hf := itn hc20 hf
        refine lv_iconst (v := (1 : Int32)) hx hb dX5_wideFor_69 (by decide) ?_
        refine lv_goto (tgt := 74) hx hb dX5_wideFor_70 (by decide) ?_
        exact b5_wideFor_74 C0 ih G (lv_sub hl [0, 1, 2, 3, 4] rfl) hf
set_option maxHeartbeats 4000000 in
set_option maxRecDepth 100000 in
theorem b5_wideFor_0 {X : XP} {p : Program} {l : Launch} {e : Env} {s : State} {m : MethodId} {args : Array Value} {below : List Frame} {meth : Method} {c : Code} {D : va_G} {cI cC : ClassId} {ad : Nat → Nat} {A : Nat → Prop} {xkept : Nat → Int32} {xisK : Int32} {xgone : Int32} {xtape : Nat → Int32} {xtaped : Int32} {xtok : Int32} {xbeg : Int32} {xend : Int32} {xval : Int64} {xwid : Nat → Int32} {xsiz : Nat → Int32} {xcel : Nat → Int32} {xcar : Nat → Int32} {r0 : Int32} {o_xs : Nat → Int32} {o_xaside : Nat → Int32} {o_xfound : Nat → Int32} {o_xover : Nat → Int32} (C0 : CX X p s m args meth c cX5_wideFor 6 (some .int) RX5 A) : ∀ {xs : Nat → Int32} {xaside : Nat → Int32} {xfound : Nat → Int32} {xover : Nat → Int32} {v1 : Int32} {v2 : Int32} {v3 : Int32} {H : Heap} {locs : List Loc} {ls : Array Slot}, GX X D (tyM cI cC) A s (wM cI cC ad xs xkept xaside xisK xfound xgone xover xtape xtaped xtok xbeg xend xval xwid xsiz xcel xcar) H locs → lv_has ls 6 [(0, .ref (ad 0)), (1, .int v1), (2, .int v2), (3, .int v3)] → f5_wideFor xs xaside xfound xgone xover v1 v2 v3 = some (r0, o_xs, o_xaside, o_xfound, o_xover) → W p l e ({ frames := 7, cells := 0, slots := 0, locals := 165 }) s m args below meth c H locs 0 0 (MQ below (QcI D (tyM cI cC) (wM cI cC ad o_xs xkept o_xaside xisK o_xfound xgone o_xover xtape xtaped xtok xbeg xend xval xwid xsiz xcel xcar) A r0) args s 0 0 A) (F0 m 0 ls []) := by
  have hx := C0.1
  have hb := C0.2.1
  have hown := C0.2.2.2.2.1
  have hts := C0.2.2.2.2.2.1
  have hX := C0.2.2.2.2.2.2.2.2
  intro xs xaside xfound xover v1 v2 v3 H locs ls G hl hf
  unfold f5_wideFor at hf
  refine lv_aload_n hx hb dX5_wideFor_0 rfl (lv_at hl 0 rfl) ?_
  refine lv_iload_n hx hb dX5_wideFor_1 rfl (lv_at hl 1 rfl) ?_
  refine go_i C0 G (runV_of (n := 1) (q0 := 0) (As := [.int v1]) (rest := []) C0 G (c5_isVisitor hX rfl) q825 q54 q822 q824 q14 o5_isVisitor ⟨rfl, rfl⟩ ⟨Nat.le_of_ble_eq_true rfl, Nat.le_of_ble_eq_true rfl⟩ rfl rfl rfl hl.1 rfl (Nat.le_of_ble_eq_true rfl) dX5_wideFor_2) (fun H locs G => ?_)
  refine lv_if_eq (tgt := 26) hx hb dX5_wideFor_5 (by decide) (fun hc1 => ?_) (fun hc1 => ?_)
  · have hf := itp hc1 hf
    exact b5_wideFor_26 C0  G (lv_sub hl [0] rfl) hf
  · have hf := itn hc1 hf
    refine lv_iload_n hx hb dX5_wideFor_8 rfl (lv_at hl 2 rfl) ?_
    refine lv_iconst (v := (0 : Int32)) hx hb dX5_wideFor_9 (by decide) ?_
    refine lv_sipush (v := (9999 : Int32)) hx hb dX5_wideFor_10 (by decide) ?_
    refine go_i C0 G (runS_of (n := 3) (As := [.int v2, .int (0 : Int32), .int (9999 : Int32)]) (rest := []) C0 G (c5_in1 hX rfl) q784 q54 q782 q783 o5_in1 ⟨rfl, rfl⟩ ⟨Nat.le_of_ble_eq_true rfl, Nat.le_of_ble_eq_true rfl⟩ rfl hl.1 rfl (Nat.le_of_ble_eq_true rfl) dX5_wideFor_13) (fun H locs G => ?_)
    refine lv_if_eq (tgt := 26) hx hb dX5_wideFor_16 (by decide) (fun hc2 => ?_) (fun hc2 => ?_)
    · have hf := itp hc2 hf
      exact b5_wideFor_26 C0  G (lv_sub hl [0] rfl) hf
    · have hf := itn hc2 hf
      refine lv_iload_n hx hb dX5_wideFor_19 rfl (lv_at hl 3 rfl) ?_
      refine go_i C0 G (runS_of (n := 1) (As := [.int v3]) (rest := []) C0 G (c5_isSoon hX rfl) q958 q54 q956 q957 o5_isSoon ⟨rfl, rfl⟩ ⟨Nat.le_of_ble_eq_true rfl, Nat.le_of_ble_eq_true rfl⟩ rfl hl.1 rfl (Nat.le_of_ble_eq_true rfl) dX5_wideFor_20) (fun H locs G => ?_)
      refine lv_if_ne (tgt := 32) hx hb dX5_wideFor_23 (by decide) (fun hc3 => ?_) (fun hc3 => ?_)
      · have hf := itn hc3 hf
        refine lv_bipush (v := (8 : Int32)) hx hb dX5_wideFor_32 (by decide) ?_
        refine lv_istore (lv' := [(4, .int (8 : Int32)), (0, .ref (ad 0)), (1, .int v1), (2, .int v2), (3, .int v3)]) hx hb dX5_wideFor_34 hl (by decide) rfl (fun ls hl => ?_)
        exact b5_wideFor_36 C0  1000 G (lv_sub hl [1, 2, 3, 4, 0] rfl) hf
      · have hf := itp hc3 hf
        exact b5_wideFor_26 C0  G (lv_sub hl [0] rfl) hf
theorem o5_wideFor : okName yX5_wideFor 3 := ⟨by decide, by decide, by decide +kernel⟩
set_option maxHeartbeats 4000000 in
set_option maxRecDepth 100000 in
theorem c5_wideFor {X : XP} (hX : XT X) {l : Launch} {D : va_G} {cI cC : ClassId} {ad : Nat → Nat} {sz : Nat} {xs : Nat → Int32} {xkept : Nat → Int32} {xaside : Nat → Int32} {xisK : Int32} {xfound : Nat → Int32} {xgone : Int32} {xover : Nat → Int32} {xtape : Nat → Int32} {xtaped : Int32} {xtok : Int32} {xbeg : Int32} {xend : Int32} {xval : Int64} {xwid : Nat → Int32} {xsiz : Nat → Int32} {xcel : Nat → Int32} {xcar : Nat → Int32} {v1 : Int32} {v2 : Int32} {v3 : Int32} {r0 : Int32} {o_xs : Nat → Int32} {o_xaside : Nat → Int32} {o_xfound : Nat → Int32} {o_xover : Nat → Int32} (hf : f5_wideFor xs xaside xfound xgone xover v1 v2 v3 = some (r0, o_xs, o_xaside, o_xfound, o_xover)) : Met l yX5_wideFor (wU yX5_wideFor cX5_wideFor 6 (some .int)) ({ frames := 7, cells := 0, slots := 0, locals := 165 }) (va_Pc [.ref (ad 0), .int v1, .int v2, .int v3] (PreW X D (tyM cI cC) (wM cI cC ad xs xkept xaside xisK xfound xgone xover xtape xtaped xtok xbeg xend xval xwid xsiz xcel xcar) sz)) (QcI D (tyM cI cC) (wM cI cC ad o_xs xkept o_xaside xisK o_xfound xgone o_xover xtape xtaped xtok xbeg xend xval xwid xsiz xcel xcar) (va_A (wM cI cC ad xs xkept xaside xisK xfound xgone xover xtape xtaped xtok xbeg xend xval xwid xsiz xcel xcar) sz) r0) 0 0 (va_A (wM cI cC ad xs xkept xaside xisK xfound xgone xover xtape xtaped xtok xbeg xend xval xwid xsiz xcel xcar) sz) := by
  refine startW hX (own := RX5) (by decide) rfl (Nat.le_of_ble_eq_true rfl) (fun p e s m args below meth c ls C0 G hl => ?_)
  exact b5_wideFor_0 C0 G hl hf
