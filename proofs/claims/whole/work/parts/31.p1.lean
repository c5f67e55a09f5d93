/-! 0_receive -/
theorem dX0_receive_0 : decode cX0_receive 0 = .ok (.aload_n 0, 1) := by decide +kernel
theorem dX0_receive_1 : decode cX0_receive 1 = .ok (.iload_n 1, 1) := by decide +kernel
theorem dX0_receive_2 : decode cX0_receive 2 = .ok (.invokevirtual 71, 3) := by decide +kernel
theorem dX0_receive_5 : decode cX0_receive 5 = .ok (.ifCond .eq 11, 3) := by decide +kernel
theorem dX0_receive_8 : decode cX0_receive 8 = .ok (.aload_n 0, 1) := by decide +kernel
theorem dX0_receive_9 : decode cX0_receive 9 = .ok (.iload_n 1, 1) := by decide +kernel
theorem dX0_receive_10 : decode cX0_receive 10 = .ok (.invokevirtual 75, 3) := by decide +kernel
theorem dX0_receive_13 : decode cX0_receive 13 = .ok (.goto 8, 3) := by decide +kernel
theorem dX0_receive_16 : decode cX0_receive 16 = .ok (.aload_n 0, 1) := by decide +kernel
theorem dX0_receive_17 : decode cX0_receive 17 = .ok (.iload_n 1, 1) := by decide +kernel
theorem dX0_receive_18 : decode cX0_receive 18 = .ok (.invokevirtual 78, 3) := by decide +kernel
theorem dX0_receive_21 : decode cX0_receive 21 = .ok (.istore_n 2, 1) := by decide +kernel
theorem dX0_receive_22 : decode cX0_receive 22 = .ok (.aload_n 0, 1) := by decide +kernel
theorem dX0_receive_23 : decode cX0_receive 23 = .ok (.iload_n 1, 1) := by decide +kernel
theorem dX0_receive_24 : decode cX0_receive 24 = .ok (.invokevirtual 81, 3) := by decide +kernel
theorem dX0_receive_27 : decode cX0_receive 27 = .ok (.ifCond .eq 32, 3) := by decide +kernel
theorem dX0_receive_30 : decode cX0_receive 30 = .ok (.aload_n 0, 1) := by decide +kernel
theorem dX0_receive_31 : decode cX0_receive 31 = .ok (.getfield 20, 3) := by decide +kernel
theorem dX0_receive_34 : decode cX0_receive 34 = .ok (.bipush 6, 2) := by decide +kernel
theorem dX0_receive_36 : decode cX0_receive 36 = .ok (.aaload, 1) := by decide +kernel
theorem dX0_receive_37 : decode cX0_receive 37 = .ok (.iload_n 1, 1) := by decide +kernel
theorem dX0_receive_38 : decode cX0_receive 38 = .ok (.getstatic 84, 3) := by decide +kernel
theorem dX0_receive_41 : decode cX0_receive 41 = .ok (.bipush 6, 2) := by decide +kernel
theorem dX0_receive_43 : decode cX0_receive 43 = .ok (.iaload, 1) := by decide +kernel
theorem dX0_receive_44 : decode cX0_receive 44 = .ok (.aload_n 0, 1) := by decide +kernel
theorem dX0_receive_45 : decode cX0_receive 45 = .ok (.getfield 20, 3) := by decide +kernel
theorem dX0_receive_48 : decode cX0_receive 48 = .ok (.bipush 6, 2) := by decide +kernel
theorem dX0_receive_50 : decode cX0_receive 50 = .ok (.aaload, 1) := by decide +kernel
theorem dX0_receive_51 : decode cX0_receive 51 = .ok (.iload_n 1, 1) := by decide +kernel
theorem dX0_receive_52 : decode cX0_receive 52 = .ok (.iaload, 1) := by decide +kernel
theorem dX0_receive_53 : decode cX0_receive 53 = .ok (.iconst 1, 1) := by decide +kernel
theorem dX0_receive_54 : decode cX0_receive 54 = .ok (.iadd, 1) := by decide +kernel
theorem dX0_receive_55 : decode cX0_receive 55 = .ok (.invokestatic 58, 3) := by decide +kernel
theorem dX0_receive_58 : decode cX0_receive 58 = .ok (.iastore, 1) := by decide +kernel
theorem dX0_receive_59 : decode cX0_receive 59 = .ok (.iload_n 2, 1) := by decide +kernel
theorem dX0_receive_60 : decode cX0_receive 60 = .ok (.ireturn, 1) := by decide +kernel
def j0_receive_21  (hp : Nat → Int32) (st : Nat → Int32) (tr : Nat → Nat → Int32) (v1 : Int32) (t0 : Int32) : Option (Int32 × (Nat → Int32) × (Nat → Int32) × (Nat → Nat → Int32)) :=
  ob1 (f0_isUp hp st tr v1) (fun r12 =>
  if r12 = (0 : Int32) then (
    some (t0, hp, st, tr))
  else (
    gd (inb v1 8) (
    gd (inb v1 8) (
    some (t0, hp, st, (upd2 tr 6 v1.toNatClampNeg (jmin (kTM 6) (((tr 6) v1.toNatClampNeg) + (1 : Int32)))))))))
def f0_receive (hp : Nat → Int32) (st : Nat → Int32) (tr : Nat → Nat → Int32) (v1 : Int32) : Option (Int32 × (Nat → Int32) × (Nat → Int32) × (Nat → Nat → Int32)) :=
  ob1 (f0_isDigger tr v1) (fun r1 =>
  if r1 = (0 : Int32) then (
    ob3 (f0_heapUp hp st tr v1) (fun r4 hp_5 st_6 =>
    j0_receive_21 hp_5 st_6 tr v1 r4))
  else (
    ob3 (f0_dig hp st tr v1) (fun r8 hp_9 st_10 =>
    j0_receive_21 hp_9 st_10 tr v1 r8)))
set_option maxHeartbeats 4000000 in
set_option maxRecDepth 100000 in
theorem b0_receive_21 {ta adK adV : Nat → Nat} {p : Program} {l : Launch} {e : Env} {s : State} {m : MethodId} {args : Array Value} {below : List Frame} {meth : Method} {c : Code} {D : va_G} {cI cB cG cS : ClassId} {ad : Nat → Nat} {A : Nat → Prop} {sp : Nat → Int32} {vis : Int32} {day : Int32} {z : Int32} {r0 : Int32} {o_hp : Nat → Int32} {o_st : Nat → Int32} {o_tr : Nat → Nat → Int32} (C0 : CX (XS ta adK adV) p s m args meth c cX0_receive 3 (some .int) RX0 A) : ∀ {hp : Nat → Int32} {st : Nat → Int32} {tr : Nat → Nat → Int32} {v1 : Int32} {t0 : Int32} {H : Heap} {locs : List Loc} {ls : Array Slot}, GX (XS ta adK adV) D (tyC cI cB cG cS) A s (wP cI cG ad hp st tr sp vis day z) H locs → lv_has ls 3 [(0, .ref (ad 0)), (1, .int v1)] → j0_receive_21  hp st tr v1 t0 = some (r0, o_hp, o_st, o_tr) → W p l e ({ frames := 3, cells := 0, slots := 0, locals := 62 }) s m args below meth c H locs 0 0 (MQ below (QcI D (tyC cI cB cG cS) (wP cI cG ad o_hp o_st o_tr sp vis day z) A r0) args s 0 0 A) (F0 m 21 ls [.int t0]) := by
  have hx := C0.1
  have hb := C0.2.1
  have hown := C0.2.2.2.2.1
  have hts := C0.2.2.2.2.2.1
  have hX := C0.2.2.2.2.2.2.2.2
  intro hp st tr v1 t0 H locs ls G hl hf
  unfold j0_receive_21 at hf
  refine lv_istore_n (lv' := [(2, .int t0), (0, .ref (ad 0)), (1, .int v1)]) hx hb dX0_receive_21 rfl hl (by decide) rfl (fun ls hl => ?_)
  refine lv_aload_n hx hb dX0_receive_22 rfl (lv_at hl 1 rfl) ?_
  refine lv_iload_n hx hb dX0_receive_23 rfl (lv_at hl 2 rfl) ?_
  obtain ⟨r12, hc13, hf⟩ := ob1_s hf
  refine go_i C0 G (runV_of (n := 1) (q0 := 0) (As := [.int v1]) (rest := []) C0 G (c0_isUp hX hc13) q277 q50 q312 q275 q276 o0_isUp ⟨rfl, rfl⟩ ⟨Nat.le_of_ble_eq_true rfl, Nat.le_of_ble_eq_true rfl⟩ rfl rfl rfl hl.1 rfl (Nat.le_of_ble_eq_true rfl) dX0_receive_24) (fun H locs G => ?_)
  refine lv_if_eq (tgt := 59) hx hb dX0_receive_27 (by decide) (fun hc14 => ?_) (fun hc14 => ?_)
  · have hf := itp hc14 hf
    refine lv_iload_n hx hb dX0_receive_59 rfl (lv_at hl 0 rfl) ?_
    obtain ⟨rfl, rfl, rfl, rfl⟩ := inj4 hf
    exact ret_i C0 G dX0_receive_60
  · have hf := itn hc14 hf
    refine lv_aload_n hx hb dX0_receive_30 rfl (lv_at hl 1 rfl) ?_
    refine s_get (C := RX0) (T := TX0) C0 G i_X0 0 2 rfl rfl (by decide) q86 rfl dX0_receive_31 ?_
    refine lv_bipush (v := (6 : Int32)) hx hb dX0_receive_34 (by decide) ?_
    refine s_aldg (k := 6) (b := ad 10) C0 G 3 2 rfl rfl (vin (by decide)) (by decide) rfl dX0_receive_36 ?_
    refine lv_iload_n hx hb dX0_receive_37 rfl (lv_at hl 2 rfl) ?_
    refine s_getsN C0 G (xa_5 G.2.2.2.2) (xn_313 G.2.2.2.2.2.1) dX0_receive_38 ?_
    refine lv_bipush (v := (6 : Int32)) hx hb dX0_receive_41 (by decide) ?_
    refine s_ti (k := 6) C0 G (xa_5 G.2.2.2.2) (vin (by decide)) (by decide) dX0_receive_43 ?_
    refine lv_aload_n hx hb dX0_receive_44 rfl (lv_at hl 1 rfl) ?_
    refine s_get (C := RX0) (T := TX0) C0 G i_X0 0 2 rfl rfl (by decide) q86 rfl dX0_receive_45 ?_
    refine lv_bipush (v := (6 : Int32)) hx hb dX0_receive_48 (by decide) ?_
    refine s_aldg (k := 6) (b := ad 10) C0 G 3 2 rfl rfl (vin (by decide)) (by decide) rfl dX0_receive_50 ?_
    refine lv_iload_n hx hb dX0_receive_51 rfl (lv_at hl 2 rfl) ?_
    obtain ⟨hi15, hf⟩ := gd_s hf
    refine s_iald (k := v1.toNatClampNeg) C0 G 10 0 rfl rfl (vin hi15) rfl dX0_receive_52 ?_
    refine lv_iconst (v := (1 : Int32)) hx hb dX0_receive_53 (by decide) ?_
    refine lv_iadd hx hb dX0_receive_54 ?_
    refine s_min C0 hl.1 q229 ⟨Nat.le_of_ble_eq_true rfl, Nat.le_of_ble_eq_true rfl⟩ dX0_receive_55 ?_
    obtain ⟨hi16, hf⟩ := gd_s hf
    refine s_iast (k := v1.toNatClampNeg) (w' := (wP cI cG ad hp st (upd2 tr 6 v1.toNatClampNeg (jmin (kTM 6) (((tr 6) v1.toNatClampNeg) + (1 : Int32)))) sp vis day z)) C0 G 10 0 rfl rfl (vin hi16) rfl rfl dX0_receive_58 (fun H locs G => ?_)
    refine lv_iload_n hx hb dX0_receive_59 rfl (lv_at hl 0 rfl) ?_
    obtain ⟨rfl, rfl, rfl, rfl⟩ := inj4 hf
    exact ret_i C0 G dX0_receive_60
set_option maxHeartbeats 4000000 in
set_option maxRecDepth 100000 in
theorem b0_receive_0 {ta adK adV : Nat → Nat} {p : Program} {l : Launch} {e : Env} {s : State} {m : MethodId} {args : Array Value} {below : List Frame} {meth : Method} {c : Code} {D : va_G} {cI cB cG cS : ClassId} {ad : Nat → Nat} {A : Nat → Prop} {sp : Nat → Int32} {vis : Int32} {day : Int32} {z : Int32} {r0 : Int32} {o_hp : Nat → Int32} {o_st : Nat → Int32} {o_tr : Nat → Nat → Int32} (C0 : CX (XS ta adK adV) p s m args meth c cX0_receive 3 (some .int) RX0 A) : ∀ {hp : Nat → Int32} {st : Nat → Int32} {tr : Nat → Nat → Int32} {v1 : Int32} {H : Heap} {locs : List Loc} {ls : Array Slot}, GX (XS ta adK adV) D (tyC cI cB cG cS) A s (wP cI cG ad hp st tr sp vis day z) H locs → lv_has ls 3 [(0, .ref (ad 0)), (1, .int v1)] → f0_receive hp st tr v1 = some (r0, o_hp, o_st, o_tr) → W p l e ({ frames := 3, cells := 0, slots := 0, locals := 62 }) s m args below meth c H locs 0 0 (MQ below (QcI D (tyC cI cB cG cS) (wP cI cG ad o_hp o_st o_tr sp vis day z) A r0) args s 0 0 A) (F0 m 0 ls []) := by
  have hx := C0.1
  have hb := C0.2.1
  have hown := C0.2.2.2.2.1
  have hts := C0.2.2.2.2.2.1
  have hX := C0.2.2.2.2.2.2.2.2
  intro hp st tr v1 H locs ls G hl hf
  unfold f0_receive at hf
  refine lv_aload_n hx hb dX0_receive_0 rfl (lv_at hl 0 rfl) ?_
  refine lv_iload_n hx hb dX0_receive_1 rfl (lv_at hl 1 rfl) ?_
  obtain ⟨r1, hc2, hf⟩ := ob1_s hf
  refine go_i C0 G (runV_of (n := 1) (q0 := 0) (As := [.int v1]) (rest := []) C0 G (c0_isDigger hX hc2) q282 q50 q279 q280 q281 o0_isDigger ⟨rfl, rfl⟩ ⟨Nat.le_of_ble_eq_true rfl, Nat.le_of_ble_eq_true rfl⟩ rfl rfl rfl hl.1 rfl (Nat.le_of_ble_eq_true rfl) dX0_receive_2) (fun H locs G => ?_)
  refine lv_if_eq (tgt := 16) hx hb dX0_receive_5 (by decide) (fun hc3 => ?_) (fun hc3 => ?_)
  · have hf := itp hc3 hf
    refine lv_aload_n hx hb dX0_receive_16 rfl (lv_at hl 0 rfl) ?_
    refine lv_iload_n hx hb dX0_receive_17 rfl (lv_at hl 1 rfl) ?_
    obtain ⟨r4, hp_5, st_6, hc7, hf⟩ := ob3_s hf
    refine go_i C0 G (runV_of (n := 1) (q0 := 0) (As := [.int v1]) (rest := []) C0 G (c0_heapUp hX hc7) q311 q50 q308 q309 q310 o0_heapUp ⟨rfl, rfl⟩ ⟨Nat.le_of_ble_eq_true rfl, Nat.le_of_ble_eq_true rfl⟩ rfl rfl rfl hl.1 rfl (Nat.le_of_ble_eq_true rfl) dX0_receive_18) (fun H locs G => ?_)
    exact b0_receive_21 C0  G (lv_sub hl [0, 1] rfl) hf
  · have hf := itn hc3 hf
    refine lv_aload_n hx hb dX0_receive_8 rfl (lv_at hl 0 rfl) ?_
    refine lv_iload_n hx hb dX0_receive_9 rfl (lv_at hl 1 rfl) ?_
    obtain ⟨r8, hp_9, st_10, hc11, hf⟩ := ob3_s hf
    refine go_i C0 G (runV_of (n := 1) (q0 := 0) (As := [.int v1]) (rest := []) C0 G (c0_dig hX hc11) q305 q50 q302 q303 q304 o0_dig ⟨rfl, rfl⟩ ⟨Nat.le_of_ble_eq_true rfl, Nat.le_of_ble_eq_true rfl⟩ rfl rfl rfl hl.1 rfl (Nat.le_of_ble_eq_true rfl) dX0_receive_10) (fun H locs G => ?_)
    refine lv_goto (tgt := 21) hx hb dX0_receive_13 (by decide) ?_
    exact b0_receive_21 C0  G (lv_sub hl [0, 1] rfl) hf
theorem o0_receive : okName yX0_receive 1 := ⟨by decide, by decide, by decide +kernel⟩
set_option maxHeartbeats 4000000 in
set_option maxRecDepth 100000 in
theorem c0_receive {ta adK adV : Nat → Nat} (hX : XT (XS ta adK adV)) {l : Launch} {D : va_G} {cI cB cG cS : ClassId} {ad : Nat → Nat} {sz : Nat} {hp : Nat → Int32} {st : Nat → Int32} {tr : Nat → Nat → Int32} {sp : Nat → Int32} {vis : Int32} {day : Int32} {z : Int32} {v1 : Int32} {r0 : Int32} {o_hp : Nat → Int32} {o_st : Nat → Int32} {o_tr : Nat → Nat → Int32} (hf : f0_receive hp st tr v1 = some (r0, o_hp, o_st, o_tr)) : Met l yX0_receive (wU yX0_receive cX0_receive 3 (some .int)) ({ frames := 3, cells := 0, slots := 0, locals := 62 }) (va_Pc [.ref (ad 0), .int v1] (PreW (XS ta adK adV) D (tyC cI cB cG cS) (wP cI cG ad hp st tr sp vis day z) sz)) (QcI D (tyC cI cB cG cS) (wP cI cG ad o_hp o_st o_tr sp vis day z) (va_A (wP cI cG ad hp st tr sp vis day z) sz) r0) 0 0 (va_A (wP cI cG ad hp st tr sp vis day z) sz) := by
  refine startW hX (own := RX0) (by decide) rfl (Nat.le_of_ble_eq_true rfl) (fun p e s m args below meth c ls C0 G hl => ?_)
  exact b0_receive_0 C0 G hl hf
/-! 0_ageByADay -/
theorem dX0_ageByADay_0 : decode cX0_ageByADay 0 = .ok (.iconst 0, 1) := by decide +kernel
theorem dX0_ageByADay_1 : decode cX0_ageByADay 1 = .ok (.istore_n 1, 1) := by decide +kernel
theorem dX0_ageByADay_2 : decode cX0_ageByADay 2 = .ok (.iload_n 1, 1) := by decide +kernel
theorem dX0_ageByADay_3 : decode cX0_ageByADay 3 = .ok (.aload_n 0, 1) := by decide +kernel
theorem dX0_ageByADay_4 : decode cX0_ageByADay 4 = .ok (.getfield 39, 3) := by decide +kernel
theorem dX0_ageByADay_7 : decode cX0_ageByADay 7 = .ok (.if_icmp .ge 35, 3) := by decide +kernel
theorem dX0_ageByADay_10 : decode cX0_ageByADay 10 = .ok (.aload_n 0, 1) := by decide +kernel
theorem dX0_ageByADay_11 : decode cX0_ageByADay 11 = .ok (.getfield 20, 3) := by decide +kernel
theorem dX0_ageByADay_14 : decode cX0_ageByADay 14 = .ok (.iconst 5, 1) := by decide +kernel
theorem dX0_ageByADay_15 : decode cX0_ageByADay 15 = .ok (.aaload, 1) := by decide +kernel
theorem dX0_ageByADay_16 : decode cX0_ageByADay 16 = .ok (.iload_n 1, 1) := by decide +kernel
theorem dX0_ageByADay_17 : decode cX0_ageByADay 17 = .ok (.getstatic 84, 3) := by decide +kernel
theorem dX0_ageByADay_20 : decode cX0_ageByADay 20 = .ok (.iconst 5, 1) := by decide +kernel
theorem dX0_ageByADay_21 : decode cX0_ageByADay 21 = .ok (.iaload, 1) := by decide +kernel
theorem dX0_ageByADay_22 : decode cX0_ageByADay 22 = .ok (.aload_n 0, 1) := by decide +kernel
theorem dX0_ageByADay_23 : decode cX0_ageByADay 23 = .ok (.getfield 20, 3) := by decide +kernel
theorem dX0_ageByADay_26 : decode cX0_ageByADay 26 = .ok (.iconst 5, 1) := by decide +kernel
theorem dX0_ageByADay_27 : decode cX0_ageByADay 27 = .ok (.aaload, 1) := by decide +kernel
theorem dX0_ageByADay_28 : decode cX0_ageByADay 28 = .ok (.iload_n 1, 1) := by decide +kernel
theorem dX0_ageByADay_29 : decode cX0_ageByADay 29 = .ok (.iaload, 1) := by decide +kernel
theorem dX0_ageByADay_30 : decode cX0_ageByADay 30 = .ok (.iconst 1, 1) := by decide +kernel
theorem dX0_ageByADay_31 : decode cX0_ageByADay 31 = .ok (.iadd, 1) := by decide +kernel
theorem dX0_ageByADay_32 : decode cX0_ageByADay 32 = .ok (.invokestatic 58, 3) := by decide +kernel
theorem dX0_ageByADay_35 : decode cX0_ageByADay 35 = .ok (.iastore, 1) := by decide +kernel
theorem dX0_ageByADay_36 : decode cX0_ageByADay 36 = .ok (.iinc 1 1, 3) := by decide +kernel
theorem dX0_ageByADay_39 : decode cX0_ageByADay 39 = .ok (.goto (-37), 3) := by decide +kernel
theorem dX0_ageByADay_42 : decode cX0_ageByADay 42 = .ok (.return_, 1) := by decide +kernel
def l0_ageByADay_2  : Nat → (Nat → Nat → Int32) → Int32 → Int32 → Option ((Nat → Nat → Int32))
  | 0, _, _, _ => none
  | n + 1, tr, vis, v1 =>
    if vis ≤ v1 then (
      some tr)
    else (
      gd (inb v1 8) (
      gd (inb v1 8) (
      (l0_ageByADay_2 n) (upd2 tr 5 v1.toNatClampNeg (jmin (kTM 5) (((tr 5) v1.toNatClampNeg) + (1 : Int32)))) vis (v1 + (1 : Int32)))))
def f0_ageByADay (tr : Nat → Nat → Int32) (vis : Int32)  : Option ((Nat → Nat → Int32)) :=
  l0_ageByADay_2 1000 tr vis (0 : Int32)
set_option maxHeartbeats 4000000 in
set_option maxRecDepth 100000 in
theorem b0_ageByADay_2 {ta adK adV : Nat → Nat} {p : Program} {l : Launch} {e : Env} {s : State} {m : MethodId} {args : Array Value} {below : List Frame} {meth : Method} {c : Code} {D : va_G} {cI cB cG cS : ClassId} {ad : Nat → Nat} {A : Nat → Prop} {hp : Nat → Int32} {st : Nat → Int32} {sp : Nat → Int32} {vis : Int32} {day : Int32} {z : Int32} {o_tr : Nat → Nat → Int32} (C0 : CX (XS ta adK adV) p s m args meth c cX0_ageByADay 2 none RX0 A) : ∀ (n : Nat) {tr : Nat → Nat → Int32} {v1 : Int32} {H : Heap} {locs : List Loc} {ls : Array Slot}, GX (XS ta adK adV) D (tyC cI cB cG cS) A s (wP cI cG ad hp st tr sp vis day z) H locs → lv_has ls 2 [(0, .ref (ad 0)), (1, .int v1)] → l0_ageByADay_2  n tr vis v1 = some o_tr → W p l e ({ frames := 1, cells := 0, slots := 0, locals := 15 }) s m args below meth c H locs 0 0 (MQ below (QcV D (tyC cI cB cG cS) (wP cI cG ad hp st o_tr sp vis day z) A) args s 0 0 A) (F0 m 2 ls []) := by
  have hx := C0.1
  have hb := C0.2.1
  have hown := C0.2.2.2.2.1
  have hts := C0.2.2.2.2.2.1
  have hX := C0.2.2.2.2.2.2.2.2
  intro n
  induction n with
  | zero =>
    intro _ _ _ _ _ G hl hf
    cases hf
  | succ n ih =>
    intro tr v1 H locs ls G hl hf
    rw [l0_ageByADay_2] at hf
    refine lv_iload_n hx hb dX0_ageByADay_2 rfl (lv_at hl 1 rfl) ?_
    refine lv_aload_n hx hb dX0_ageByADay_3 rfl (lv_at hl 0 rfl) ?_
    refine s_get (C := RX0) (T := TX0) C0 G i_X0 0 4 rfl rfl (by decide) q91 rfl dX0_ageByADay_4 ?_
    refine lv_icmp_ge (tgt := 42) hx hb dX0_ageByADay_7 (by decide) (fun hc1 => ?_) (fun hc1 => ?_)
    · have hf := itp hc1 hf
      obtain rfl := inj1 hf
      exact ret_v C0 G dX0_ageByADay_42
    · have hf := itn hc1 hf
      refine lv_aload_n hx hb dX0_ageByADay_10 rfl (lv_at hl 0 rfl) ?_
      refine s_get (C := RX0) (T := TX0) C0 G i_X0 0 2 rfl rfl (by decide) q86 rfl dX0_ageByADay_11 ?_
      refine lv_iconst (v := (5 : Int32)) hx hb dX0_ageByADay_14 (by decide) ?_
      refine s_aldg (k := 5) (b := ad 9) C0 G 3 2 rfl rfl (vin (by decide)) (by decide) rfl dX0_ageByADay_15 ?_
      refine lv_iload_n hx hb dX0_ageByADay_16 rfl (lv_at hl 1 rfl) ?_
      refine s_getsN C0 G (xa_5 G.2.2.2.2) (xn_313 G.2.2.2.2.2.1) dX0_ageByADay_17 ?_
      refine lv_iconst (v := (5 : Int32)) hx hb dX0_ageByADay_20 (by decide) ?_
      refine s_ti (k := 5) C0 G (xa_5 G.2.2.2.2) (vin (by decide)) (by decide) dX0_ageByADay_21 ?_
      refine lv_aload_n hx hb dX0_ageByADay_22 rfl (lv_at hl 0 rfl) ?_
      refine s_get (C := RX0) (T := TX0) C0 G i_X0 0 2 rfl rfl (by decide) q86 rfl dX0_ageByADay_23 ?_
      refine lv_iconst (v := (5 : Int32)) hx hb dX0_ageByADay_26 (by decide) ?_
      refine s_aldg (k := 5) (b := ad 9) C0 G 3 2 rfl rfl (vin (by decide)) (by decide) rfl dX0_ageByADay_27 ?_
      refine lv_iload_n hx hb dX0_ageByADay_28 rfl (lv_at hl 1 rfl) ?_
      obtain ⟨hi2, hf⟩ := gd_s hf
      refine s_iald (k := v1.toNatClampNeg) C0 G 9 0 rfl rfl (vin hi2) rfl dX0_ageByADay_29 ?_
      refine lv_iconst (v := (1 : Int32)) hx hb dX0_ageByADay_30 (by decide) ?_
      refine lv_iadd hx hb dX0_ageByADay_31 ?_
      refine s_min C0 hl.1 q229 ⟨Nat.le_of_ble_eq_true rfl, Nat.le_of_ble_eq_true rfl⟩ dX0_ageByADay_32 ?_
      obtain ⟨hi3, hf⟩ := gd_s hf
      refine s_iast (k := v1.toNatClampNeg) (w' := (wP cI cG ad hp st (upd2 tr 5 v1.toNatClampNeg (jmin (kTM 5) (((tr 5) v1.toNatClampNeg) + (1 : Int32)))) sp vis day z)) C0 G 9 0 rfl rfl (vin hi3) rfl rfl dX0_ageByADay_35 (fun H locs G => ?_)
      refine lv_iinc (v := (v1 + (1 : Int32))) (lv' := [(1, .int (v1 + (1 : Int32))), (0, .ref (ad 0))]) hx hb dX0_ageByADay_36 hl (k := 1) rfl rfl (by decide) rfl (fun ls hl => ?_)
      refine lv_goto (tgt := 2) hx hb dX0_ageByADay_39 (by decide) ?_
      exact ih G (lv_sub hl [1, 0] rfl) hf
set_option maxHeartbeats 4000000 in
set_option maxRecDepth 100000 in
theorem b0_ageByADay_0 {ta adK adV : Nat → Nat} {p : Program} {l : Launch} {e : Env} {s : State} {m : MethodId} {args : Array Value} {below : List Frame} {meth : Method} {c : Code} {D : va_G} {cI cB cG cS : ClassId} {ad : Nat → Nat} {A : Nat → Prop} {hp : Nat → Int32} {st : Nat → Int32} {sp : Nat → Int32} {vis : Int32} {day : Int32} {z : Int32} {o_tr : Nat → Nat → Int32} (C0 : CX (XS ta adK adV) p s m args meth c cX0_ageByADay 2 none RX0 A) : ∀ {tr : Nat → Nat → Int32} {H : Heap} {locs : List Loc} {ls : Array Slot}, GX (XS ta adK adV) D (tyC cI cB cG cS) A s (wP cI cG ad hp st tr sp vis day z) H locs → lv_has ls 2 [(0, .ref (ad 0))] → f0_ageByADay tr vis = some o_tr → W p l e ({ frames := 1, cells := 0, slots := 0, locals := 15 }) s m args below meth c H locs 0 0 (MQ below (QcV D (tyC cI cB cG cS) (wP cI cG ad hp st o_tr sp vis day z) A) args s 0 0 A) (F0 m 0 ls []) := by
  have hx := C0.1
  have hb := C0.2.1
  have hown := C0.2.2.2.2.1
  have hts := C0.2.2.2.2.2.1
  have hX := C0.2.2.2.2.2.2.2.2
  intro tr H locs ls G hl hf
  unfold f0_ageByADay at hf
  refine lv_iconst (v := (0 : Int32)) hx hb dX0_ageByADay_0 (by decide) ?_
  refine lv_istore_n (lv' := [(1, .int (0 : Int32)), (0, .ref (ad 0))]) hx hb dX0_ageByADay_1 rfl hl (by decide) rfl (fun ls hl => ?_)
  exact b0_ageByADay_2 C0  1000 G (lv_sub hl [1, 0] rfl) hf
theorem o0_ageByADay : okName yX0_ageByADay 0 := ⟨by decide, by decide, by decide +kernel⟩
set_option maxHeartbeats 4000000 in
set_option maxRecDepth 100000 in
theorem c0_ageByADay {ta adK adV : Nat → Nat} (hX : XT (XS ta adK adV)) {l : Launch} {D : va_G} {cI cB cG cS : ClassId} {ad : Nat → Nat} {sz : Nat} {hp : Nat → Int32} {st : Nat → Int32} {tr : Nat → Nat → Int32} {sp : Nat → Int32} {vis : Int32} {day : Int32} {z : Int32}  {o_tr : Nat → Nat → Int32} (hf : f0_ageByADay tr vis = some o_tr) : Met l yX0_ageByADay (wU yX0_ageByADay cX0_ageByADay 2 none) ({ frames := 1, cells := 0, slots := 0, locals := 15 }) (va_Pc [.ref (ad 0)] (PreW (XS ta adK adV) D (tyC cI cB cG cS) (wP cI cG ad hp st tr sp vis day z) sz)) (QcV D (tyC cI cB cG cS) (wP cI cG ad hp st o_tr sp vis day z) (va_A (wP cI cG ad hp st tr sp vis day z) sz)) 0 0 (va_A (wP cI cG ad hp st tr sp vis day z) sz) := by
  refine startW hX (own := RX0) (by decide) rfl (Nat.le_of_ble_eq_true rfl) (fun p e s m args below meth c ls C0 G hl => ?_)
  exact b0_ageByADay_0 C0 G hl hf
/-! 0_slide -/
theorem dX0_slide_0 : decode cX0_slide 0 = .ok (.aload_n 0, 1) := by decide +kernel
theorem dX0_slide_1 : decode cX0_slide 1 = .ok (.getfield 15, 3) := by decide +kernel
theorem dX0_slide_4 : decode cX0_slide 4 = .ok (.iconst 2, 1) := by decide +kernel
theorem dX0_slide_5 : decode cX0_slide 5 = .ok (.iaload, 1) := by decide +kernel
theorem dX0_slide_6 : decode cX0_slide 6 = .ok (.iconst 2, 1) := by decide +kernel
theorem dX0_slide_7 : decode cX0_slide 7 = .ok (.iadd, 1) := by decide +kernel
theorem dX0_slide_8 : decode cX0_slide 8 = .ok (.istore_n 3, 1) := by decide +kernel
theorem dX0_slide_9 : decode cX0_slide 9 = .ok (.iconst 0, 1) := by decide +kernel
theorem dX0_slide_10 : decode cX0_slide 10 = .ok (.istore 4, 2) := by decide +kernel
theorem dX0_slide_12 : decode cX0_slide 12 = .ok (.iconst 0, 1) := by decide +kernel
theorem dX0_slide_13 : decode cX0_slide 13 = .ok (.istore 5, 2) := by decide +kernel
theorem dX0_slide_15 : decode cX0_slide 15 = .ok (.iconst 0, 1) := by decide +kernel
theorem dX0_slide_16 : decode cX0_slide 16 = .ok (.istore 6, 2) := by decide +kernel
theorem dX0_slide_18 : decode cX0_slide 18 = .ok (.iload 6, 2) := by decide +kernel
theorem dX0_slide_20 : decode cX0_slide 20 = .ok (.bipush 15, 2) := by decide +kernel
theorem dX0_slide_22 : decode cX0_slide 22 = .ok (.if_icmp .ge 71, 3) := by decide +kernel
theorem dX0_slide_25 : decode cX0_slide 25 = .ok (.iload_n 1, 1) := by decide +kernel
theorem dX0_slide_26 : decode cX0_slide 26 = .ok (.iload 6, 2) := by decide +kernel
theorem dX0_slide_28 : decode cX0_slide 28 = .ok (.iload_n 2, 1) := by decide +kernel
theorem dX0_slide_29 : decode cX0_slide 29 = .ok (.imul, 1) := by decide +kernel
theorem dX0_slide_30 : decode cX0_slide 30 = .ok (.iadd, 1) := by decide +kernel
theorem dX0_slide_31 : decode cX0_slide 31 = .ok (.istore 7, 2) := by decide +kernel
theorem dX0_slide_33 : decode cX0_slide 33 = .ok (.aload_n 0, 1) := by decide +kernel
theorem dX0_slide_34 : decode cX0_slide 34 = .ok (.getfield 9, 3) := by decide +kernel
theorem dX0_slide_37 : decode cX0_slide 37 = .ok (.iload 7, 2) := by decide +kernel
theorem dX0_slide_39 : decode cX0_slide 39 = .ok (.iaload, 1) := by decide +kernel
theorem dX0_slide_40 : decode cX0_slide 40 = .ok (.aload_n 0, 1) := by decide +kernel
theorem dX0_slide_41 : decode cX0_slide 41 = .ok (.getfield 9, 3) := by decide +kernel
theorem dX0_slide_44 : decode cX0_slide 44 = .ok (.iload 7, 2) := by decide +kernel
theorem dX0_slide_46 : decode cX0_slide 46 = .ok (.iload_n 2, 1) := by decide +kernel
theorem dX0_slide_47 : decode cX0_slide 47 = .ok (.iadd, 1) := by decide +kernel
theorem dX0_slide_48 : decode cX0_slide 48 = .ok (.iaload, 1) := by decide +kernel
theorem dX0_slide_49 : decode cX0_slide 49 = .ok (.iload_n 3, 1) := by decide +kernel
theorem dX0_slide_50 : decode cX0_slide 50 = .ok (.iadd, 1) := by decide +kernel
theorem dX0_slide_51 : decode cX0_slide 51 = .ok (.if_icmp .le 7, 3) := by decide +kernel
theorem dX0_slide_54 : decode cX0_slide 54 = .ok (.iconst 1, 1) := by decide +kernel
theorem dX0_slide_55 : decode cX0_slide 55 = .ok (.goto 4, 3) := by decide +kernel
theorem dX0_slide_58 : decode cX0_slide 58 = .ok (.iconst 0, 1) := by decide +kernel
theorem dX0_slide_59 : decode cX0_slide 59 = .ok (.istore 8, 2) := by decide +kernel
theorem dX0_slide_61 : decode cX0_slide 61 = .ok (.aload_n 0, 1) := by decide +kernel
theorem dX0_slide_62 : decode cX0_slide 62 = .ok (.getfield 9, 3) := by decide +kernel
theorem dX0_slide_65 : decode cX0_slide 65 = .ok (.iload 7, 2) := by decide +kernel
theorem dX0_slide_67 : decode cX0_slide 67 = .ok (.dup2, 1) := by decide +kernel
theorem dX0_slide_68 : decode cX0_slide 68 = .ok (.iaload, 1) := by decide +kernel
theorem dX0_slide_69 : decode cX0_slide 69 = .ok (.iload 5, 2) := by decide +kernel
theorem dX0_slide_71 : decode cX0_slide 71 = .ok (.iload 8, 2) := by decide +kernel
theorem dX0_slide_73 : decode cX0_slide 73 = .ok (.isub, 1) := by decide +kernel
theorem dX0_slide_74 : decode cX0_slide 74 = .ok (.iadd, 1) := by decide +kernel
theorem dX0_slide_75 : decode cX0_slide 75 = .ok (.iastore, 1) := by decide +kernel
theorem dX0_slide_76 : decode cX0_slide 76 = .ok (.iload 8, 2) := by decide +kernel
theorem dX0_slide_78 : decode cX0_slide 78 = .ok (.istore 5, 2) := by decide +kernel
theorem dX0_slide_80 : decode cX0_slide 80 = .ok (.iload 4, 2) := by decide +kernel
theorem dX0_slide_82 : decode cX0_slide 82 = .ok (.iload 8, 2) := by decide +kernel
theorem dX0_slide_84 : decode cX0_slide 84 = .ok (.iadd, 1) := by decide +kernel
theorem dX0_slide_85 : decode cX0_slide 85 = .ok (.istore 4, 2) := by decide +kernel
theorem dX0_slide_87 : decode cX0_slide 87 = .ok (.iinc 6 1, 3) := by decide +kernel
theorem dX0_slide_90 : decode cX0_slide 90 = .ok (.goto (-72), 3) := by decide +kernel
theorem dX0_slide_93 : decode cX0_slide 93 = .ok (.aload_n 0, 1) := by decide +kernel
theorem dX0_slide_94 : decode cX0_slide 94 = .ok (.getfield 9, 3) := by decide +kernel
theorem dX0_slide_97 : decode cX0_slide 97 = .ok (.iload_n 1, 1) := by decide +kernel
theorem dX0_slide_98 : decode cX0_slide 98 = .ok (.bipush 15, 2) := by decide +kernel
theorem dX0_slide_100 : decode cX0_slide 100 = .ok (.iload_n 2, 1) := by decide +kernel
theorem dX0_slide_101 : decode cX0_slide 101 = .ok (.imul, 1) := by decide +kernel
theorem dX0_slide_102 : decode cX0_slide 102 = .ok (.iadd, 1) := by decide +kernel
theorem dX0_slide_103 : decode cX0_slide 103 = .ok (.dup2, 1) := by decide +kernel
theorem dX0_slide_104 : decode cX0_slide 104 = .ok (.iaload, 1) := by decide +kernel
theorem dX0_slide_105 : decode cX0_slide 105 = .ok (.iload 5, 2) := by decide +kernel
theorem dX0_slide_107 : decode cX0_slide 107 = .ok (.iadd, 1) := by decide +kernel
theorem dX0_slide_108 : decode cX0_slide 108 = .ok (.iastore, 1) := by decide +kernel
theorem dX0_slide_109 : decode cX0_slide 109 = .ok (.iload 4, 2) := by decide +kernel
theorem dX0_slide_111 : decode cX0_slide 111 = .ok (.ireturn, 1) := by decide +kernel
def j0_slide_59 (k18 : (Nat → Int32) → (Nat → Int32) → Int32 → Int32 → Int32 → Int32 → Int32 → Int32 → Option (Int32 × (Nat → Int32))) (hp : Nat → Int32) (st : Nat → Int32) (v1 : Int32) (v2 : Int32) (v3 : Int32) (v4 : Int32) (v5 : Int32) (v6 : Int32) (v7 : Int32) (t0 : Int32) : Option (Int32 × (Nat → Int32)) :=
  gd (inb v7 16) (
  gd (inb v7 16) (
  k18 (upd hp v7.toNatClampNeg ((hp v7.toNatClampNeg) + (v5 - t0))) st v1 v2 v3 (v4 + t0) t0 (v6 + (1 : Int32))))
def l0_slide_18  : Nat → (Nat → Int32) → (Nat → Int32) → Int32 → Int32 → Int32 → Int32 → Int32 → Int32 → Option (Int32 × (Nat → Int32))
  | 0, _, _, _, _, _, _, _, _ => none
  | n + 1, hp, st, v1, v2, v3, v4, v5, v6 =>
    if (15 : Int32) ≤ v6 then (
      gd (inb (v1 + ((15 : Int32) * v2)) 16) (
      gd (inb (v1 + ((15 : Int32) * v2)) 16) (
      some (v4, (upd hp ((v1 + ((15 : Int32) * v2)).toNatClampNeg) ((hp ((v1 + ((15 : Int32) * v2)).toNatClampNeg)) + v5))))))
    else (
      gd (inb (v1 + (v6 * v2)) 16) (
      gd (inb ((v1 + (v6 * v2)) + v2) 16) (
      if (hp ((v1 + (v6 * v2)).toNatClampNeg)) ≤ ((hp (((v1 + (v6 * v2)) + v2).toNatClampNeg)) + v3) then (
        j0_slide_59 (l0_slide_18 n) hp st v1 v2 v3 v4 v5 v6 (v1 + (v6 * v2)) (0 : Int32))
      else (
        j0_slide_59 (l0_slide_18 n) hp st v1 v2 v3 v4 v5 v6 (v1 + (v6 * v2)) (1 : Int32)))))
def f0_slide (hp : Nat → Int32) (st : Nat → Int32) (v1 : Int32) (v2 : Int32) : Option (Int32 × (Nat → Int32)) :=
  l0_slide_18 1000 hp st v1 v2 ((st 2) + (2 : Int32)) (0 : Int32) (0 : Int32) (0 : Int32)
set_option maxHeartbeats 4000000 in
set_option maxRecDepth 100000 in
theorem b0_slide_59 {ta adK adV : Nat → Nat} {p : Program} {l : Launch} {e : Env} {s : State} {m : MethodId} {args : Array Value} {below : List Frame} {meth : Method} {c : Code} {D : va_G} {cI cB cG cS : ClassId} {ad : Nat → Nat} {A : Nat → Prop} {st : Nat → Int32} {tr : Nat → Nat → Int32} {sp : Nat → Int32} {vis : Int32} {day : Int32} {z : Int32} {r0 : Int32} {o_hp : Nat → Int32} (C0 : CX (XS ta adK adV) p s m args meth c cX0_slide 9 (some .int) RX0 A) {k18 : (Nat → Int32) → (Nat → Int32) → Int32 → Int32 → Int32 → Int32 → Int32 → Int32 → Option (Int32 × (Nat → Int32))} (hk18 : ∀ {hp : Nat → Int32} {v1 : Int32} {v2 : Int32} {v3 : Int32} {v4 : Int32} {v5 : Int32} {v6 : Int32} {H : Heap} {locs : List Loc} {ls : Array Slot}, GX (XS ta adK adV) D (tyC cI cB cG cS) A s (wP cI cG ad hp st tr sp vis day z) H locs → lv_has ls 9 [(0, .ref (ad 0)), (1, .int v1), (2, .int v2), (3, .int v3), (4, .int v4), (5, .int v5), (6, .int v6)] → k18 hp st v1 v2 v3 v4 v5 v6 = some (r0, o_hp) → W p l e ({ frames := 0, cells := 0, slots := 0, locals := 0 }) s m args below meth c H locs 0 0 (MQ below (QcI D (tyC cI cB cG cS) (wP cI cG ad o_hp st tr sp vis day z) A r0) args s 0 0 A) (F0 m 18 ls [])) : ∀ {hp : Nat → Int32} {v1 : Int32} {v2 : Int32} {v3 : Int32} {v4 : Int32} {v5 : Int32} {v6 : Int32} {v7 : Int32} {t0 : Int32} {H : Heap} {locs : List Loc} {ls : Array Slot}, GX (XS ta adK adV) D (tyC cI cB cG cS) A s (wP cI cG ad hp st tr sp vis day z) H locs → lv_has ls 9 [(0, .ref (ad 0)), (1, .int v1), (2, .int v2), (3, .int v3), (4, .int v4), (5, .int v5), (6, .int v6), (7, .int v7)] → j0_slide_59 k18 hp st v1 v2 v3 v4 v5 v6 v7 t0 = some (r0, o_hp) → W p l e ({ frames := 0, cells := 0, slots := 0, locals := 0 }) s m args below meth c H locs 0 0 (MQ below (QcI D (tyC cI cB cG cS) (wP cI cG ad o_hp st tr sp vis day z) A r0) args s 0 0 A) (F0 m 59 ls [.int t0]) := by
  have hx := C0.1
  have hb := C0.2.1
  have hown := C0.2.2.2.2.1
  have hts := C0.2.2.2.2.2.1
  have hX := C0.2.2.2.2.2.2.2.2
  intro hp v1 v2 v3 v4 v5 v6 v7 t0 H locs ls G hl hf
  unfold j0_slide_59 at hf
  refine lv_istore (lv' := [(8, .int t0), (0, .ref (ad 0)), (1, .int v1), (2, .int v2), (3, .int v3), (4, .int v4), (5, .int v5), (6, .int v6), (7, .int v7)]) hx hb dX0_slide_59 hl (by decide) rfl (fun ls hl => ?_)
  refine lv_aload_n hx hb dX0_slide_61 rfl (lv_at hl 1 rfl) ?_
  refine s_get (C := RX0) (T := TX0) C0 G i_X0 0 0 rfl rfl (by decide) q80 rfl dX0_slide_62 ?_
  refine lv_iload hx hb dX0_slide_65 (lv_at hl 8 rfl) ?_
  refine lv_dup2_11 hx hb dX0_slide_67 rfl rfl ?_
  obtain ⟨hi7, hf⟩ := gd_s hf
  refine s_iald (k := v7.toNatClampNeg) C0 G 1 0 rfl rfl (vin hi7) rfl dX0_slide_68 ?_
  refine lv_iload hx hb dX0_slide_69 (lv_at hl 6 rfl) ?_
  refine lv_iload hx hb dX0_slide_71 (lv_at hl 0 rfl) ?_
  refine lv_isub hx hb dX0_slide_73 ?_
  refine lv_iadd hx hb dX0_slide_74 ?_
  obtain ⟨hi8, hf⟩ := gd_s hf
  refine s_iast (k := v7.toNatClampNeg) (w' := (wP cI cG ad (upd hp v7.toNatClampNeg ((hp v7.toNatClampNeg) + (v5 - t0))) st tr sp vis day z)) C0 G 1 0 rfl rfl (vin hi8) rfl rfl dX0_slide_75 (fun H locs G => ?_)
  refine lv_iload hx hb dX0_slide_76 (lv_at hl 0 rfl) ?_
  refine lv_istore (lv' := [(5, .int t0), (8, .int t0), (0, .ref (ad 0)), (1, .int v1), (2, .int v2), (3, .int v3), (4, .int v4), (6, .int v6), (7, .int v7)]) hx hb dX0_slide_78 hl (by decide) rfl (fun ls hl => ?_)
  refine lv_iload hx hb dX0_slide_80 (lv_at hl 6 rfl) ?_
  refine lv_iload hx hb dX0_slide_82 (lv_at hl 1 rfl) ?_
  refine lv_iadd hx hb dX0_slide_84 ?_
  refine lv_istore (lv' := [(4, .int (v4 + t0)), (5, .int t0), (8, .int t0), (0, .ref (ad 0)), (1, .int v1), (2, .int v2), (3, .int v3), (6, .int v6), (7, .int v7)]) hx hb dX0_slide_85 hl (by decide) rfl (fun ls hl => ?_)
  refine lv_iinc (v := (v6 + (1 : Int32))) (lv' := [(6, .int (v6 + (1 : Int32))), (4, .int (v4 + t0)), (5, .int t0), (8, .int t0), (0, .ref (ad 0)), (1, .int v1), (2, .int v2), (3, .int v3), (7, .int v7)]) hx hb dX0_slide_87 hl (k := 7) rfl rfl (by decide) rfl (fun ls hl => ?_)
  refine lv_goto (tgt := 18) hx hb dX0_slide_90 (by decide) ?_
  exact hk18 G (lv_sub hl [4, 5, 6, 7, 1, 2, 0] rfl) hf
set_option maxHeartbeats 4000000 in
set_option maxRecDepth 100000 in
theorem b0_slide_18 {ta adK adV : Nat → Nat} {p : Program} {l : Launch} {e : Env} {s : State} {m : MethodId} {args : Array Value} {below : List Frame} {meth : Method} {c : Code} {D : va_G} {cI cB cG cS : ClassId} {ad : Nat → Nat} {A : Nat → Prop} {st : Nat → Int32} {tr : Nat → Nat → Int32} {sp : Nat → Int32} {vis : Int32} {day : Int32} {z : Int32} {r0 : Int32} {o_hp : Nat → Int32} (C0 : CX (XS ta adK adV) p s m args meth c cX0_slide 9 (some .int) RX0 A) : ∀ (n : Nat) {hp : Nat → Int32} {v1 : Int32} {v2 : Int32} {v3 : Int32} {v4 : Int32} {v5 : Int32} {v6 : Int32} {H : Heap} {locs : List Loc} {ls : Array Slot}, GX (XS ta adK adV) D (tyC cI cB cG cS) A s (wP cI cG ad hp st tr sp vis day z) H locs → lv_has ls 9 [(0, .ref (ad 0)), (1, .int v1), (2, .int v2), (3, .int v3), (4, .int v4), (5, .int v5), (6, .int v6)] → l0_slide_18  n hp st v1 v2 v3 v4 v5 v6 = some (r0, o_hp) → W p l e ({ frames := 0, cells := 0, slots := 0, locals := 0 }) s m args below meth c H locs 0 0 (MQ below (QcI D (tyC cI cB cG cS) (wP cI cG ad o_hp st tr sp vis day z) A r0) args s 0 0 A) (F0 m 18 ls []) := by
  have hx := C0.1
  have hb := C0.2.1
  have hown := C0.2.2.2.2.1
  have hts := C0.2.2.2.2.2.1
  have hX := C0.2.2.2.2.2.2.2.2
  intro n
  induction n with
  | zero =>
    intro _ _ _ _ _ _ _ _ _ _ G hl hf
    cases hf
  | succ n ih =>
    intro hp v1 v2 v3 v4 v5 v6 H locs ls G hl hf
    rw [l0_slide_18] at hf
    refine lv_iload hx hb dX0_slide_18 (lv_at hl 6 rfl) ?_
    refine lv_bipush (v := (15 : Int32)) hx hb dX0_slide_20 (by decide) ?_
    refine lv_icmp_ge (tgt := 93) hx hb dX0_slide_22 (by decide) (fun hc1 => ?_) (fun hc1 => ?_)
    · have hf := itp hc1 hf
      refine lv_aload_n hx hb dX0_slide_93 rfl (lv_at hl 0 rfl) ?_
      refine s_get (C := RX0) (T := TX0) C0 G i_X0 0 0 rfl rfl (by decide) q80 rfl dX0_slide_94 ?_
      refine lv_iload_n hx hb dX0_slide_97 rfl (lv_at hl 1 rfl) ?_
      refine lv_bipush (v := (15 : Int32)) hx hb dX0_slide_98 (by decide) ?_
      refine lv_iload_n hx hb dX0_slide_100 rfl (lv_at hl 2 rfl) ?_
      refine lv_imul hx hb dX0_slide_101 ?_
      refine lv_iadd hx hb dX0_slide_102 ?_
      refine lv_dup2_11 hx hb dX0_slide_103 rfl rfl ?_
      obtain ⟨hi2, hf⟩ := gd_s hf
      refine s_iald (k := (v1 + ((15 : Int32) * v2)).toNatClampNeg) C0 G 1 0 rfl rfl (vin hi2) rfl dX0_slide_104 ?_
      refine lv_iload hx hb dX0_slide_105 (lv_at hl 5 rfl) ?_
      refine lv_iadd hx hb dX0_slide_107 ?_
      obtain ⟨hi3, hf⟩ := gd_s hf
      refine s_iast (k := (v1 + ((15 : Int32) * v2)).toNatClampNeg) (w' := (wP cI cG ad (upd hp ((v1 + ((15 : Int32) * v2)).toNatClampNeg) ((hp ((v1 + ((15 : Int32) * v2)).toNatClampNeg)) + v5)) st tr sp vis day z)) C0 G 1 0 rfl rfl (vin hi3) rfl rfl dX0_slide_108 (fun H locs G => ?_)
      refine lv_iload hx hb dX0_slide_109 (lv_at hl 4 rfl) ?_
      obtain ⟨rfl, rfl⟩ := inj2 hf
      exact ret_i C0 G dX0_slide_111
    · have hf := itn hc1 hf
      refine lv_iload_n hx hb dX0_slide_25 rfl (lv_at hl 1 rfl) ?_
      refine lv_iload hx hb dX0_slide_26 (lv_at hl 6 rfl) ?_
      refine lv_iload_n hx hb dX0_slide_28 rfl (lv_at hl 2 rfl) ?_
      refine lv_imul hx hb dX0_slide_29 ?_
      refine lv_iadd hx hb dX0_slide_30 ?_
      refine lv_istore (lv' := [(7, .int (v1 + (v6 * v2))), (0, .ref (ad 0)), (1, .int v1), (2, .int v2), (3, .int v3), (4, .int v4), (5, .int v5), (6, .int v6)]) hx hb dX0_slide_31 hl (by decide) rfl (fun ls hl => ?_)
      refine lv_aload_n hx hb dX0_slide_33 rfl (lv_at hl 1 rfl) ?_
      refine s_get (C := RX0) (T := TX0) C0 G i_X0 0 0 rfl rfl (by decide) q80 rfl dX0_slide_34 ?_
      refine lv_iload hx hb dX0_slide_37 (lv_at hl 0 rfl) ?_
      obtain ⟨hi4, hf⟩ := gd_s hf
      refine s_iald (k := (v1 + (v6 * v2)).toNatClampNeg) C0 G 1 0 rfl rfl (vin hi4) rfl dX0_slide_39 ?_
      refine lv_aload_n hx hb dX0_slide_40 rfl (lv_at hl 1 rfl) ?_
      refine s_get (C := RX0) (T := TX0) C0 G i_X0 0 0 rfl rfl (by decide) q80 rfl dX0_slide_41 ?_
      refine lv_iload hx hb dX0_slide_44 (lv_at hl 0 rfl) ?_
      refine lv_iload_n hx hb dX0_slide_46 rfl (lv_at hl 3 rfl) ?_
      refine lv_iadd hx hb dX0_slide_47 ?_
      obtain ⟨hi5, hf⟩ := gd_s hf
      refine s_iald (k := ((v1 + (v6 * v2)) + v2).toNatClampNeg) C0 G 1 0 rfl rfl (vin hi5) rfl dX0_slide_48 ?_
      refine lv_iload_n hx hb dX0_slide_49 rfl (lv_at hl 4 rfl) ?_
      refine lv_iadd hx hb dX0_slide_50 ?_
      refine lv_icmp_le (tgt := 58) hx hb dX0_slide_51 (by decide) (fun hc6 => ?_) (fun hc6 => ?_)
      · have hf := itp hc6 hf
        refine lv_iconst (v := (0 : Int32)) hx hb dX0_slide_58 (by decide) ?_
        exact b0_slide_59 C0 ih G (lv_sub hl [1, 2, 3, 4, 5, 6, 7, 0] rfl) hf
      · have hf := itn hc6 hf
        refine lv_iconst (v := (1 : Int32)) hx hb dX0_slide_54 (by decide) ?_
        refine lv_goto (tgt := 59) hx hb dX0_slide_55 (by decide) ?_
        exact b0_slide_59 C0 ih G (lv_sub hl [1, 2, 3, 4, 5, 6, 7, 0] rfl) hf
set_option maxHeartbeats 4000000 in
set_option maxRecDepth 100000 in
theorem b0_slide_0 {ta adK adV : Nat → Nat} {p : Program} {l : Launch} {e : Env} {s : State} {m : MethodId} {args : Array Value} {below : List Frame} {meth : Method} {c : Code} {D : va_G} {cI cB cG cS : ClassId} {ad : Nat → Nat} {A : Nat → Prop} {st : Nat → Int32} {tr : Nat → Nat → Int32} {sp : Nat → Int32} {vis : Int32} {day : Int32} {z : Int32} {r0 : Int32} {o_hp : Nat → Int32} (C0 : CX (XS ta adK adV) p s m args meth c cX0_slide 9 (some .int) RX0 A) : ∀ {hp : Nat → Int32} {v1 : Int32} {v2 : Int32} {H : Heap} {locs : List Loc} {ls : Array Slot}, GX (XS ta adK adV) D (tyC cI cB cG cS) A s (wP cI cG ad hp st tr sp vis day z) H locs → lv_has ls 9 [(0, .ref (ad 0)), (1, .int v1), (2, .int v2)] → f0_slide hp st v1 v2 = some (r0, o_hp) → W p l e ({ frames := 0, cells := 0, slots := 0, locals := 0 }) s m args below meth c H locs 0 0 (MQ below (QcI D (tyC cI cB cG cS) (wP cI cG ad o_hp st tr sp vis day z) A r0) args s 0 0 A) (F0 m 0 ls []) := by
  have hx := C0.1
  have hb := C0.2.1
  have hown := C0.2.2.2.2.1
  have hts := C0.2.2.2.2.2.1
  have hX := C0.2.2.2.2.2.2.2.2
  intro hp v1 v2 H locs ls G hl hf
  unfold f0_slide at hf
  refine lv_aload_n hx hb dX0_slide_0 rfl (lv_at hl 0 rfl) ?_
  refine s_get (C := RX0) (T := TX0) C0 G i_X0 0 1 rfl rfl (by decide) q83 rfl dX0_slide_1 ?_
  refine lv_iconst (v := (2 : Int32)) hx hb dX0_slide_4 (by decide) ?_
  refine s_iald (k := 2) C0 G 2 0 rfl rfl (vin (by decide)) (by decide) dX0_slide_5 ?_
  refine lv_iconst (v := (2 : Int32)) hx hb dX0_slide_6 (by decide) ?_
  refine lv_iadd hx hb dX0_slide_7 ?_
  refine lv_istore_n (lv' := [(3, .int ((st 2) + (2 : Int32))), (0, .ref (ad 0)), (1, .int v1), (2, .int v2)]) hx hb dX0_slide_8 rfl hl (by decide) rfl (fun ls hl => ?_)
  refine lv_iconst (v := (0 : Int32)) hx hb dX0_slide_9 (by decide) ?_
  refine lv_istore (lv' := [(4, .int (0 : Int32)), (3, .int ((st 2) + (2 : Int32))), (0, .ref (ad 0)), (1, .int v1), (2, .int v2)]) hx hb dX0_slide_10 hl (by decide) rfl (fun ls hl => ?_)
  refine lv_iconst (v := (0 : Int32)) hx hb dX0_slide_12 (by decide) ?_
  refine lv_istore (lv' := [(5, .int (0 : Int32)), (4, .int (0 : Int32)), (3, .int ((st 2) + (2 : Int32))), (0, .ref (ad 0)), (1, .int v1), (2, .int v2)]) hx hb dX0_slide_13 hl (by decide) rfl (fun ls hl => ?_)
  refine lv_iconst (v := (0 : Int32)) hx hb dX0_slide_15 (by decide) ?_
  refine lv_istore (lv' := [(6, .int (0 : Int32)), (5, .int (0 : Int32)), (4, .int (0 : Int32)), (3, .int ((st 2) + (2 : Int32))), (0, .ref (ad 0)), (1, .int v1), (2, .int v2)]) hx hb dX0_slide_16 hl (by decide) rfl (fun ls hl => ?_)
  exact b0_slide_18 C0  1000 G (lv_sub hl [4, 5, 6, 3, 2, 1, 0] rfl) hf
theorem o0_slide : okName yX0_slide 2 := ⟨by decide, by decide, by decide +kernel⟩
set_option maxHeartbeats 4000000 in
set_option maxRecDepth 100000 in
theorem c0_slide {ta adK adV : Nat → Nat} (hX : XT (XS ta adK adV)) {l : Launch} {D : va_G} {cI cB cG cS : ClassId} {ad : Nat → Nat} {sz : Nat} {hp : Nat → Int32} {st : Nat → Int32} {tr : Nat → Nat → Int32} {sp : Nat → Int32} {vis : Int32} {day : Int32} {z : Int32} {v1 : Int32} {v2 : Int32} {r0 : Int32} {o_hp : Nat → Int32} (hf : f0_slide hp st v1 v2 = some (r0, o_hp)) : Met l yX0_slide (wU yX0_slide cX0_slide 9 (some .int)) ({ frames := 0, cells := 0, slots := 0, locals := 0 }) (va_Pc [.ref (ad 0), .int v1, .int v2] (PreW (XS ta adK adV) D (tyC cI cB cG cS) (wP cI cG ad hp st tr sp vis day z) sz)) (QcI D (tyC cI cB cG cS) (wP cI cG ad o_hp st tr sp vis day z) (va_A (wP cI cG ad hp st tr sp vis day z) sz) r0) 0 0 (va_A (wP cI cG ad hp st tr sp vis day z) sz) := by
  refine startW hX (own := RX0) (by decide) rfl (Nat.le_of_ble_eq_true rfl) (fun p e s m args below meth c ls C0 G hl => ?_)
  exact b0_slide_0 C0 G hl hf
/-! 0_blow -/
theorem dX0_blow_0 : decode cX0_blow 0 = .ok (.iconst 0, 1) := by decide +kernel
theorem dX0_blow_1 : decode cX0_blow 1 = .ok (.istore_n 1, 1) := by decide +kernel
theorem dX0_blow_2 : decode cX0_blow 2 = .ok (.iload_n 1, 1) := by decide +kernel
theorem dX0_blow_3 : decode cX0_blow 3 = .ok (.aload_n 0, 1) := by decide +kernel
theorem dX0_blow_4 : decode cX0_blow 4 = .ok (.getfield 15, 3) := by decide +kernel
theorem dX0_blow_7 : decode cX0_blow 7 = .ok (.iconst 1, 1) := by decide +kernel
theorem dX0_blow_8 : decode cX0_blow 8 = .ok (.iaload, 1) := by decide +kernel
theorem dX0_blow_9 : decode cX0_blow 9 = .ok (.if_icmp .ge 29, 3) := by decide +kernel
theorem dX0_blow_12 : decode cX0_blow 12 = .ok (.aload_n 0, 1) := by decide +kernel
theorem dX0_blow_13 : decode cX0_blow 13 = .ok (.iconst 0, 1) := by decide +kernel
theorem dX0_blow_14 : decode cX0_blow 14 = .ok (.iconst 1, 1) := by decide +kernel
theorem dX0_blow_15 : decode cX0_blow 15 = .ok (.invokevirtual 106, 3) := by decide +kernel
theorem dX0_blow_18 : decode cX0_blow 18 = .ok (.aload_n 0, 1) := by decide +kernel
theorem dX0_blow_19 : decode cX0_blow 19 = .ok (.bipush 15, 2) := by decide +kernel
theorem dX0_blow_21 : decode cX0_blow 21 = .ok (.iconst (-1), 1) := by decide +kernel
theorem dX0_blow_22 : decode cX0_blow 22 = .ok (.invokevirtual 106, 3) := by decide +kernel
theorem dX0_blow_25 : decode cX0_blow 25 = .ok (.iadd, 1) := by decide +kernel
theorem dX0_blow_26 : decode cX0_blow 26 = .ok (.istore_n 2, 1) := by decide +kernel
theorem dX0_blow_27 : decode cX0_blow 27 = .ok (.iload_n 2, 1) := by decide +kernel
theorem dX0_blow_28 : decode cX0_blow 28 = .ok (.ifCond .ne 4, 3) := by decide +kernel
theorem dX0_blow_31 : decode cX0_blow 31 = .ok (.return_, 1) := by decide +kernel
theorem dX0_blow_32 : decode cX0_blow 32 = .ok (.iinc 1 1, 3) := by decide +kernel
theorem dX0_blow_35 : decode cX0_blow 35 = .ok (.goto (-33), 3) := by decide +kernel
theorem dX0_blow_38 : decode cX0_blow 38 = .ok (.return_, 1) := by decide +kernel
def l0_blow_2  : Nat → (Nat → Int32) → (Nat → Int32) → Int32 → Option ((Nat → Int32))
  | 0, _, _, _ => none
  | n + 1, hp, st, v1 =>
    if (st 1) ≤ v1 then (
      some hp)
    else (
      ob2 (f0_slide hp st (0 : Int32) (1 : Int32)) (fun r2 hp_3 =>
      ob2 (f0_slide hp_3 st (15 : Int32) (-1 : Int32)) (fun r5 hp_6 =>
      if (r2 + r5) = (0 : Int32) then (
        some hp_6)
      else (
        (l0_blow_2 n) hp_6 st (v1 + (1 : Int32))))))
def f0_blow (hp : Nat → Int32) (st : Nat → Int32)  : Option ((Nat → Int32)) :=
  l0_blow_2 1000 hp st (0 : Int32)
set_option maxHeartbeats 4000000 in
set_option maxRecDepth 100000 in
theorem b0_blow_2 {ta adK adV : Nat → Nat} {p : Program} {l : Launch} {e : Env} {s : State} {m : MethodId} {args : Array Value} {below : List Frame} {meth : Method} {c : Code} {D : va_G} {cI cB cG cS : ClassId} {ad : Nat → Nat} {A : Nat → Prop} {st : Nat → Int32} {tr : Nat → Nat → Int32} {sp : Nat → Int32} {vis : Int32} {day : Int32} {z : Int32} {o_hp : Nat → Int32} (C0 : CX (XS ta adK adV) p s m args meth c cX0_blow 3 none RX0 A) : ∀ (n : Nat) {hp : Nat → Int32} {v1 : Int32} {H : Heap} {locs : List Loc} {ls : Array Slot}, GX (XS ta adK adV) D (tyC cI cB cG cS) A s (wP cI cG ad hp st tr sp vis day z) H locs → lv_has ls 3 [(0, .ref (ad 0)), (1, .int v1)] → l0_blow_2  n hp st v1 = some o_hp → W p l e ({ frames := 1, cells := 0, slots := 0, locals := 28 }) s m args below meth c H locs 0 0 (MQ below (QcV D (tyC cI cB cG cS) (wP cI cG ad o_hp st tr sp vis day z) A) args s 0 0 A) (F0 m 2 ls []) := by
  have hx := C0.1
  have hb := C0.2.1
  have hown := C0.2.2.2.2.1
  have hts := C0.2.2.2.2.2.1
  have hX := C0.2.2.2.2.2.2.2.2
  intro n
  induction n with
  | zero =>
    intro _ _ _ _ _ G hl hf
    cases hf
  | succ n ih =>
    intro hp v1 H locs ls G hl hf
    rw [l0_blow_2] at hf
    refine lv_iload_n hx hb dX0_blow_2 rfl (lv_at hl 1 rfl) ?_
    refine lv_aload_n hx hb dX0_blow_3 rfl (lv_at hl 0 rfl) ?_
    refine s_get (C := RX0) (T := TX0) C0 G i_X0 0 1 rfl rfl (by decide) q83 rfl dX0_blow_4 ?_
    refine lv_iconst (v := (1 : Int32)) hx hb dX0_blow_7 (by decide) ?_
    refine s_iald (k := 1) C0 G 2 0 rfl rfl (vin (by decide)) (by decide) dX0_blow_8 ?_
    refine lv_icmp_ge (tgt := 38) hx hb dX0_blow_9 (by decide) (fun hc1 => ?_) (fun hc1 => ?_)
    · have hf := itp hc1 hf
      obtain rfl := inj1 hf
      exact ret_v C0 G dX0_blow_38
    · have hf := itn hc1 hf
      refine lv_aload_n hx hb dX0_blow_12 rfl (lv_at hl 0 rfl) ?_
      refine lv_iconst (v := (0 : Int32)) hx hb dX0_blow_13 (by decide) ?_
      refine lv_iconst (v := (1 : Int32)) hx hb dX0_blow_14 (by decide) ?_
      obtain ⟨r2, hp_3, hc4, hf⟩ := ob2_s hf
      refine go_i C0 G (runV_of (n := 2) (q0 := 0) (As := [.int (0 : Int32), .int (1 : Int32)]) (rest := []) C0 G (c0_slide hX hc4) q339 q50 q336 q337 q338 o0_slide ⟨rfl, rfl⟩ ⟨Nat.le_of_ble_eq_true rfl, Nat.le_of_ble_eq_true rfl⟩ rfl rfl rfl hl.1 rfl (Nat.le_of_ble_eq_true rfl) dX0_blow_15) (fun H locs G => ?_)
      refine lv_aload_n hx hb dX0_blow_18 rfl (lv_at hl 0 rfl) ?_
      refine lv_bipush (v := (15 : Int32)) hx hb dX0_blow_19 (by decide) ?_
      refine lv_iconst (v := (-1 : Int32)) hx hb dX0_blow_21 (by decide) ?_
      obtain ⟨r5, hp_6, hc7, hf⟩ := ob2_s hf
      refine go_i C0 G (runV_of (n := 2) (q0 := 0) (As := [.int (15 : Int32), .int (-1 : Int32)]) (rest := [.int r2]) C0 G (c0_slide hX hc7) q339 q50 q336 q337 q338 o0_slide ⟨rfl, rfl⟩ ⟨Nat.le_of_ble_eq_true rfl, Nat.le_of_ble_eq_true rfl⟩ rfl rfl rfl hl.1 rfl (Nat.le_of_ble_eq_true rfl) dX0_blow_22) (fun H locs G => ?_)
      refine lv_iadd hx hb dX0_blow_25 ?_
      refine lv_istore_n (lv' := [(2, .int (r2 + r5)), (0, .ref (ad 0)), (1, .int v1)]) hx hb dX0_blow_26 rfl hl (by decide) rfl (fun ls hl => ?_)
      refine lv_iload_n hx hb dX0_blow_27 rfl (lv_at hl 0 rfl) ?_
      refine lv_if_ne (tgt := 32) hx hb dX0_blow_28 (by decide) (fun hc8 => ?_) (fun hc8 => ?_)
      · have hf := itn hc8 hf
        refine lv_iinc (v := (v1 + (1 : Int32))) (lv' := [(1, .int (v1 + (1 : Int32))), (2, .int (r2 + r5)), (0, .ref (ad 0))]) hx hb dX0_blow_32 hl (k := 2) rfl rfl (by decide) rfl (fun ls hl => ?_)
        refine lv_goto (tgt := 2) hx hb dX0_blow_35 (by decide) ?_
        exact ih G (lv_sub hl [2, 0] rfl) hf
      · have hf := itp hc8 hf
        obtain rfl := inj1 hf
        exact ret_v C0 G dX0_blow_31
set_option maxHeartbeats 4000000 in
set_option maxRecDepth 100000 in
theorem b0_blow_0 {ta adK adV : Nat → Nat} {p : Program} {l : Launch} {e : Env} {s : State} {m : MethodId} {args : Array Value} {below : List Frame} {meth : Method} {c : Code} {D : va_G} {cI cB cG cS : ClassId} {ad : Nat → Nat} {A : Nat → Prop} {st : Nat → Int32} {tr : Nat → Nat → Int32} {sp : Nat → Int32} {vis : Int32} {day : Int32} {z : Int32} {o_hp : Nat → Int32} (C0 : CX (XS ta adK adV) p s m args meth c cX0_blow 3 none RX0 A) : ∀ {hp : Nat → Int32} {H : Heap} {locs : List Loc} {ls : Array Slot}, GX (XS ta adK adV) D (tyC cI cB cG cS) A s (wP cI cG ad hp st tr sp vis day z) H locs → lv_has ls 3 [(0, .ref (ad 0))] → f0_blow hp st = some o_hp → W p l e ({ frames := 1, cells := 0, slots := 0, locals := 28 }) s m args below meth c H locs 0 0 (MQ below (QcV D (tyC cI cB cG cS) (wP cI cG ad o_hp st tr sp vis day z) A) args s 0 0 A) (F0 m 0 ls []) := by
  have hx := C0.1
  have hb := C0.2.1
  have hown := C0.2.2.2.2.1
  have hts := C0.2.2.2.2.2.1
  have hX := C0.2.2.2.2.2.2.2.2
  intro hp H locs ls G hl hf
  unfold f0_blow at hf
  refine lv_iconst (v := (0 : Int32)) hx hb dX0_blow_0 (by decide) ?_
  refine lv_istore_n (lv' := [(1, .int (0 : Int32)), (0, .ref (ad 0))]) hx hb dX0_blow_1 rfl hl (by decide) rfl (fun ls hl => ?_)
  exact b0_blow_2 C0  1000 G (lv_sub hl [1, 0] rfl) hf
theorem o0_blow : okName yX0_blow 0 := ⟨by decide, by decide, by decide +kernel⟩
set_option maxHeartbeats 4000000 in
set_option maxRecDepth 100000 in
theorem c0_blow {ta adK adV : Nat → Nat} (hX : XT (XS ta adK adV)) {l : Launch} {D : va_G} {cI cB cG cS : ClassId} {ad : Nat → Nat} {sz : Nat} {hp : Nat → Int32} {st : Nat → Int32} {tr : Nat → Nat → Int32} {sp : Nat → Int32} {vis : Int32} {day : Int32} {z : Int32}  {o_hp : Nat → Int32} (hf : f0_blow hp st = some o_hp) : Met l yX0_blow (wU yX0_blow cX0_blow 3 none) ({ frames := 1, cells := 0, slots := 0, locals := 28 }) (va_Pc [.ref (ad 0)] (PreW (XS ta adK adV) D (tyC cI cB cG cS) (wP cI cG ad hp st tr sp vis day z) sz)) (QcV D (tyC cI cB cG cS) (wP cI cG ad o_hp st tr sp vis day z) (va_A (wP cI cG ad hp st tr sp vis day z) sz)) 0 0 (va_A (wP cI cG ad hp st tr sp vis day z) sz) := by
  refine startW hX (own := RX0) (by decide) rfl (Nat.le_of_ble_eq_true rfl) (fun p e s m args below meth c ls C0 G hl => ?_)
  exact b0_blow_0 C0 G hl hf
/-! 0_comesToday -/
theorem dX0_comesToday_0 : decode cX0_comesToday 0 = .ok (.aload_n 0, 1) := by decide +kernel
theorem dX0_comesToday_1 : decode cX0_comesToday 1 = .ok (.getfield 20, 3) := by decide +kernel
theorem dX0_comesToday_4 : decode cX0_comesToday 4 = .ok (.iconst 4, 1) := by decide +kernel
theorem dX0_comesToday_5 : decode cX0_comesToday 5 = .ok (.aaload, 1) := by decide +kernel
theorem dX0_comesToday_6 : decode cX0_comesToday 6 = .ok (.iload_n 1, 1) := by decide +kernel
theorem dX0_comesToday_7 : decode cX0_comesToday 7 = .ok (.iaload, 1) := by decide +kernel
theorem dX0_comesToday_8 : decode cX0_comesToday 8 = .ok (.istore_n 2, 1) := by decide +kernel
theorem dX0_comesToday_9 : decode cX0_comesToday 9 = .ok (.iload_n 2, 1) := by decide +kernel
theorem dX0_comesToday_10 : decode cX0_comesToday 10 = .ok (.ifCond .le 16, 3) := by decide +kernel
theorem dX0_comesToday_13 : decode cX0_comesToday 13 = .ok (.aload_n 0, 1) := by decide +kernel
theorem dX0_comesToday_14 : decode cX0_comesToday 14 = .ok (.getfield 42, 3) := by decide +kernel
theorem dX0_comesToday_17 : decode cX0_comesToday 17 = .ok (.iload_n 2, 1) := by decide +kernel
theorem dX0_comesToday_18 : decode cX0_comesToday 18 = .ok (.irem, 1) := by decide +kernel
theorem dX0_comesToday_19 : decode cX0_comesToday 19 = .ok (.ifCond .ne 7, 3) := by decide +kernel
theorem dX0_comesToday_22 : decode cX0_comesToday 22 = .ok (.iconst 1, 1) := by decide +kernel
theorem dX0_comesToday_23 : decode cX0_comesToday 23 = .ok (.goto 4, 3) := by decide +kernel
theorem dX0_comesToday_26 : decode cX0_comesToday 26 = .ok (.iconst 0, 1) := by decide +kernel
theorem dX0_comesToday_27 : decode cX0_comesToday 27 = .ok (.ireturn, 1) := by decide +kernel
def f0_comesToday (tr : Nat → Nat → Int32) (day : Int32) (v1 : Int32) : Option (Int32) :=
  gd (inb v1 8) (
  if ((tr 4) v1.toNatClampNeg) ≤ (0 : Int32) then (
    some (0 : Int32))
  else (
    gd (nz ((tr 4) v1.toNatClampNeg)) (
    if (day - day / ((tr 4) v1.toNatClampNeg) * ((tr 4) v1.toNatClampNeg)) = (0 : Int32) then (
      some (1 : Int32))
    else (
      some (0 : Int32)))))
set_option maxHeartbeats 4000000 in
set_option maxRecDepth 100000 in
theorem b0_comesToday_0 {ta adK adV : Nat → Nat} {p : Program} {l : Launch} {e : Env} {s : State} {m : MethodId} {args : Array Value} {below : List Frame} {meth : Method} {c : Code} {D : va_G} {cI cB cG cS : ClassId} {ad : Nat → Nat} {A : Nat → Prop} {hp : Nat → Int32} {st : Nat → Int32} {tr : Nat → Nat → Int32} {sp : Nat → Int32} {vis : Int32} {day : Int32} {z : Int32} {r0 : Int32} (C0 : CX (XS ta adK adV) p s m args meth c cX0_comesToday 3 (some .boolean) RX0 A) : ∀ {v1 : Int32} {H : Heap} {locs : List Loc} {ls : Array Slot}, GX (XS ta adK adV) D (tyC cI cB cG cS) A s (wP cI cG ad hp st tr sp vis day z) H locs → lv_has ls 3 [(0, .ref (ad 0)), (1, .int v1)] → f0_comesToday tr day v1 = some r0 → W p l e ({ frames := 0, cells := 0, slots := 0, locals := 0 }) s m args below meth c H locs 0 0 (MQ below (QcI D (tyC cI cB cG cS) (wP cI cG ad hp st tr sp vis day z) A r0) args s 0 0 A) (F0 m 0 ls []) := by
  have hx := C0.1
  have hb := C0.2.1
  have hown := C0.2.2.2.2.1
  have hts := C0.2.2.2.2.2.1
  have hX := C0.2.2.2.2.2.2.2.2
  intro v1 H locs ls G hl hf
  unfold f0_comesToday at hf
  refine lv_aload_n hx hb dX0_comesToday_0 rfl (lv_at hl 0 rfl) ?_
  refine s_get (C := RX0) (T := TX0) C0 G i_X0 0 2 rfl rfl (by decide) q86 rfl dX0_comesToday_1 ?_
  refine lv_iconst (v := (4 : Int32)) hx hb dX0_comesToday_4 (by decide) ?_
  refine s_aldg (k := 4) (b := ad 8) C0 G 3 2 rfl rfl (vin (by decide)) (by decide) rfl dX0_comesToday_5 ?_
  refine lv_iload_n hx hb dX0_comesToday_6 rfl (lv_at hl 1 rfl) ?_
  obtain ⟨hi1, hf⟩ := gd_s hf
  refine s_iald (k := v1.toNatClampNeg) C0 G 8 0 rfl rfl (vin hi1) rfl dX0_comesToday_7 ?_
  refine lv_istore_n (lv' := [(2, .int ((tr 4) v1.toNatClampNeg)), (0, .ref (ad 0)), (1, .int v1)]) hx hb dX0_comesToday_8 rfl hl (by decide) rfl (fun ls hl => ?_)
  refine lv_iload_n hx hb dX0_comesToday_9 rfl (lv_at hl 0 rfl) ?_
  refine lv_if_le (tgt := 26) hx hb dX0_comesToday_10 (by decide) (fun hc2 => ?_) (fun hc2 => ?_)
  · have hf := itp hc2 hf
    refine lv_iconst (v := (0 : Int32)) hx hb dX0_comesToday_26 (by decide) ?_
    obtain rfl := inj1 hf
    exact ret_z C0 G rfl dX0_comesToday_27
  · have hf := itn hc2 hf
    refine lv_aload_n hx hb dX0_comesToday_13 rfl (lv_at hl 1 rfl) ?_
    refine s_get (C := RX0) (T := TX0) C0 G i_X0 0 5 rfl rfl (by decide) q93 rfl dX0_comesToday_14 ?_
    refine lv_iload_n hx hb dX0_comesToday_17 rfl (lv_at hl 0 rfl) ?_
    obtain ⟨hz3, hf⟩ := gd_s hf
    refine lv_irem hx hb dX0_comesToday_18 (nz_ne hz3) ?_
    refine lv_if_ne (tgt := 26) hx hb dX0_comesToday_19 (by decide) (fun hc4 => ?_) (fun hc4 => ?_)
    · have hf := itn hc4 hf
      refine lv_iconst (v := (0 : Int32)) hx hb dX0_comesToday_26 (by decide) ?_
      obtain rfl := inj1 hf
      exact ret_z C0 G rfl dX0_comesToday_27
    · have hf := itp hc4 hf
      refine lv_iconst (v := (1 : Int32)) hx hb dX0_comesToday_22 (by decide) ?_
      refine lv_goto (tgt := 27) hx hb dX0_comesToday_23 (by decide) ?_
      obtain rfl := inj1 hf
      exact ret_z C0 G rfl dX0_comesToday_27
theorem o0_comesToday : okName yX0_comesToday 1 := ⟨by decide, by decide, by decide +kernel⟩
set_option maxHeartbeats 4000000 in
set_option maxRecDepth 100000 in
theorem c0_comesToday {ta adK adV : Nat → Nat} (hX : XT (XS ta adK adV)) {l : Launch} {D : va_G} {cI cB cG cS : ClassId} {ad : Nat → Nat} {sz : Nat} {hp : Nat → Int32} {st : Nat → Int32} {tr : Nat → Nat → Int32} {sp : Nat → Int32} {vis : Int32} {day : Int32} {z : Int32} {v1 : Int32} {r0 : Int32} (hf : f0_comesToday tr day v1 = some r0) : Met l yX0_comesToday (wU yX0_comesToday cX0_comesToday 3 (some .boolean)) ({ frames := 0, cells := 0, slots := 0, locals := 0 }) (va_Pc [.ref (ad 0), .int v1] (PreW (XS ta adK adV) D (tyC cI cB cG cS) (wP cI cG ad hp st tr sp vis day z) sz)) (QcI D (tyC cI cB cG cS) (wP cI cG ad hp st tr sp vis day z) (va_A (wP cI cG ad hp st tr sp vis day z) sz) r0) 0 0 (va_A (wP cI cG ad hp st tr sp vis day z) sz) := by
  refine startW hX (own := RX0) (by decide) rfl (Nat.le_of_ble_eq_true rfl) (fun p e s m args below meth c ls C0 G hl => ?_)
  exact b0_comesToday_0 C0 G hl hf
/-! 0_passDays -/
theorem dX0_passDays_0 : decode cX0_passDays 0 = .ok (.iconst 0, 1) := by decide +kernel
theorem dX0_passDays_1 : decode cX0_passDays 1 = .ok (.istore_n 3, 1) := by decide +kernel
theorem dX0_passDays_2 : decode cX0_passDays 2 = .ok (.iload_n 3, 1) := by decide +kernel
theorem dX0_passDays_3 : decode cX0_passDays 3 = .ok (.iload_n 1, 1) := by decide +kernel
theorem dX0_passDays_4 : decode cX0_passDays 4 = .ok (.if_icmp .ge 75, 3) := by decide +kernel
theorem dX0_passDays_7 : decode cX0_passDays 7 = .ok (.iconst 0, 1) := by decide +kernel
theorem dX0_passDays_8 : decode cX0_passDays 8 = .ok (.istore 4, 2) := by decide +kernel
theorem dX0_passDays_10 : decode cX0_passDays 10 = .ok (.iload 4, 2) := by decide +kernel
theorem dX0_passDays_12 : decode cX0_passDays 12 = .ok (.aload_n 0, 1) := by decide +kernel
theorem dX0_passDays_13 : decode cX0_passDays 13 = .ok (.getfield 39, 3) := by decide +kernel
theorem dX0_passDays_16 : decode cX0_passDays 16 = .ok (.if_icmp .ge 34, 3) := by decide +kernel
theorem dX0_passDays_19 : decode cX0_passDays 19 = .ok (.iload_n 2, 1) := by decide +kernel
theorem dX0_passDays_20 : decode cX0_passDays 20 = .ok (.iload 4, 2) := by decide +kernel
theorem dX0_passDays_22 : decode cX0_passDays 22 = .ok (.ishr, 1) := by decide +kernel
theorem dX0_passDays_23 : decode cX0_passDays 23 = .ok (.iconst 1, 1) := by decide +kernel
theorem dX0_passDays_24 : decode cX0_passDays 24 = .ok (.iand, 1) := by decide +kernel
theorem dX0_passDays_25 : decode cX0_passDays 25 = .ok (.ifCond .ne 19, 3) := by decide +kernel
theorem dX0_passDays_28 : decode cX0_passDays 28 = .ok (.aload_n 0, 1) := by decide +kernel
theorem dX0_passDays_29 : decode cX0_passDays 29 = .ok (.iload 4, 2) := by decide +kernel
theorem dX0_passDays_31 : decode cX0_passDays 31 = .ok (.invokevirtual 93, 3) := by decide +kernel
theorem dX0_passDays_34 : decode cX0_passDays 34 = .ok (.ifCond .eq 10, 3) := by decide +kernel
theorem dX0_passDays_37 : decode cX0_passDays 37 = .ok (.aload_n 0, 1) := by decide +kernel
theorem dX0_passDays_38 : decode cX0_passDays 38 = .ok (.iload 4, 2) := by decide +kernel
theorem dX0_passDays_40 : decode cX0_passDays 40 = .ok (.invokevirtual 96, 3) := by decide +kernel
theorem dX0_passDays_43 : decode cX0_passDays 43 = .ok (.pop, 1) := by decide +kernel
theorem dX0_passDays_44 : decode cX0_passDays 44 = .ok (.iinc 4 1, 3) := by decide +kernel
theorem dX0_passDays_47 : decode cX0_passDays 47 = .ok (.goto (-37), 3) := by decide +kernel
theorem dX0_passDays_50 : decode cX0_passDays 50 = .ok (.aload_n 0, 1) := by decide +kernel
theorem dX0_passDays_51 : decode cX0_passDays 51 = .ok (.invokevirtual 99, 3) := by decide +kernel
theorem dX0_passDays_54 : decode cX0_passDays 54 = .ok (.aload_n 0, 1) := by decide +kernel
theorem dX0_passDays_55 : decode cX0_passDays 55 = .ok (.invokevirtual 102, 3) := by decide +kernel
theorem dX0_passDays_58 : decode cX0_passDays 58 = .ok (.aload_n 0, 1) := by decide +kernel
theorem dX0_passDays_59 : decode cX0_passDays 59 = .ok (.ldc 105, 2) := by decide +kernel
theorem dX0_passDays_61 : decode cX0_passDays 61 = .ok (.aload_n 0, 1) := by decide +kernel
theorem dX0_passDays_62 : decode cX0_passDays 62 = .ok (.getfield 42, 3) := by decide +kernel
theorem dX0_passDays_65 : decode cX0_passDays 65 = .ok (.iconst 1, 1) := by decide +kernel
theorem dX0_passDays_66 : decode cX0_passDays 66 = .ok (.iadd, 1) := by decide +kernel
theorem dX0_passDays_67 : decode cX0_passDays 67 = .ok (.invokestatic 58, 3) := by decide +kernel
theorem dX0_passDays_70 : decode cX0_passDays 70 = .ok (.putfield 42, 3) := by decide +kernel
theorem dX0_passDays_73 : decode cX0_passDays 73 = .ok (.iinc 3 1, 3) := by decide +kernel
theorem dX0_passDays_76 : decode cX0_passDays 76 = .ok (.goto (-74), 3) := by decide +kernel
theorem dX0_passDays_79 : decode cX0_passDays 79 = .ok (.return_, 1) := by decide +kernel
def j0_passDays_44 (k2 : (Nat → Int32) → (Nat → Int32) → (Nat → Nat → Int32) → Int32 → Int32 → Int32 → Int32 → Int32 → Option ((Nat → Int32) × (Nat → Int32) × (Nat → Nat → Int32) × Int32)) (k10 : (Nat → Int32) → (Nat → Int32) → (Nat → Nat → Int32) → Int32 → Int32 → Int32 → Int32 → Int32 → Int32 → Option ((Nat → Int32) × (Nat → Int32) × (Nat → Nat → Int32) × Int32)) (hp : Nat → Int32) (st : Nat → Int32) (tr : Nat → Nat → Int32) (vis : Int32) (day : Int32) (v1 : Int32) (v2 : Int32) (v3 : Int32) (v4 : Int32) : Option ((Nat → Int32) × (Nat → Int32) × (Nat → Nat → Int32) × Int32) :=
  k10 hp st tr vis day v1 v2 v3 (v4 + (1 : Int32))
def l0_passDays_10 (k2 : (Nat → Int32) → (Nat → Int32) → (Nat → Nat → Int32) → Int32 → Int32 → Int32 → Int32 → Int32 → Option ((Nat → Int32) × (Nat → Int32) × (Nat → Nat → Int32) × Int32)) : Nat → (Nat → Int32) → (Nat → Int32) → (Nat → Nat → Int32) → Int32 → Int32 → Int32 → Int32 → Int32 → Int32 → Option ((Nat → Int32) × (Nat → Int32) × (Nat → Nat → Int32) × Int32)
  | 0, _, _, _, _, _, _, _, _, _ => none
  | n + 1, hp, st, tr, vis, day, v1, v2, v3, v4 =>
    if vis ≤ v4 then (
      ob1 (f0_ageByADay tr vis) (fun tr_3 =>
      ob1 (f0_blow hp st) (fun hp_5 =>
      k2 hp_5 st tr_3 vis (jmin (99999 : Int32) (day + (1 : Int32))) v1 v2 (v3 + (1 : Int32)))))
    else (
      if ((v2 >>> (v4 &&& 31)) &&& (1 : Int32)) = (0 : Int32) then (
        ob1 (f0_comesToday tr day v4) (fun r8 =>
        if r8 = (0 : Int32) then (
          j0_passDays_44 k2 (l0_passDays_10 k2 n) hp st tr vis day v1 v2 v3 v4)
        else (
          ob4 (f0_receive hp st tr v4) (fun r11 hp_12 st_13 tr_14 =>
          j0_passDays_44 k2 (l0_passDays_10 k2 n) hp_12 st_13 tr_14 vis day v1 v2 v3 v4))))
      else (
        j0_passDays_44 k2 (l0_passDays_10 k2 n) hp st tr vis day v1 v2 v3 v4))
def l0_passDays_2  : Nat → (Nat → Int32) → (Nat → Int32) → (Nat → Nat → Int32) → Int32 → Int32 → Int32 → Int32 → Int32 → Option ((Nat → Int32) × (Nat → Int32) × (Nat → Nat → Int32) × Int32)
  | 0, _, _, _, _, _, _, _, _ => none
  | n + 1, hp, st, tr, vis, day, v1, v2, v3 =>
    if v1 ≤ v3 then (
      some (hp, st, tr, day))
    else (
      l0_passDays_10 (l0_passDays_2 n) 1000 hp st tr vis day v1 v2 v3 (0 : Int32))
def f0_passDays (hp : Nat → Int32) (st : Nat → Int32) (tr : Nat → Nat → Int32) (vis : Int32) (day : Int32) (v1 : Int32) (v2 : Int32) : Option ((Nat → Int32) × (Nat → Int32) × (Nat → Nat → Int32) × Int32) :=
  l0_passDays_2 1000 hp st tr vis day v1 v2 (0 : Int32)
set_option maxHeartbeats 4000000 in
set_option maxRecDepth 100000 in
theorem b0_passDays_44 {ta adK adV : Nat → Nat} {p : Program} {l : Launch} {e : Env} {s : State} {m : MethodId} {args : Array Value} {below : List Frame} {meth : Method} {c : Code} {D : va_G} {cI cB cG cS : ClassId} {ad : Nat → Nat} {A : Nat → Prop} {sp : Nat → Int32} {vis : Int32} {z : Int32} {o_hp : Nat → Int32} {o_st : Nat → Int32} {o_tr : Nat → Nat → Int32} {o_day : Int32} (C0 : CX (XS ta adK adV) p s m args meth c cX0_passDays 5 none RX0 A) {k2 : (Nat → Int32) → (Nat → Int32) → (Nat → Nat → Int32) → Int32 → Int32 → Int32 → Int32 → Int32 → Option ((Nat → Int32) × (Nat → Int32) × (Nat → Nat → Int32) × Int32)} (hk2 : ∀ {hp : Nat → Int32} {st : Nat → Int32} {tr : Nat → Nat → Int32} {day : Int32} {v1 : Int32} {v2 : Int32} {v3 : Int32} {H : Heap} {locs : List Loc} {ls : Array Slot}, GX (XS ta adK adV) D (tyC cI cB cG cS) A s (wP cI cG ad hp st tr sp vis day z) H locs → lv_has ls 5 [(0, .ref (ad 0)), (1, .int v1), (2, .int v2), (3, .int v3)] → k2 hp st tr vis day v1 v2 v3 = some (o_hp, o_st, o_tr, o_day) → W p l e ({ frames := 4, cells := 0, slots := 0, locals := 84 }) s m args below meth c H locs 0 0 (MQ below (QcV D (tyC cI cB cG cS) (wP cI cG ad o_hp o_st o_tr sp vis o_day z) A) args s 0 0 A) (F0 m 2 ls [])) {k10 : (Nat → Int32) → (Nat → Int32) → (Nat → Nat → Int32) → Int32 → Int32 → Int32 → Int32 → Int32 → Int32 → Option ((Nat → Int32) × (Nat → Int32) × (Nat → Nat → Int32) × Int32)} (hk10 : ∀ {hp : Nat → Int32} {st : Nat → Int32} {tr : Nat → Nat → Int32} {day : Int32} {v1 : Int32} {v2 : Int32} {v3 : Int32} {v4 : Int32} {H : Heap} {locs : List Loc} {ls : Array Slot}, GX (XS ta adK adV) D (tyC cI cB cG cS) A s (wP cI cG ad hp st tr sp vis day z) H locs → lv_has ls 5 [(0, .ref (ad 0)), (1, .int v1), (2, .int v2), (3, .int v3), (4, .int v4)] → k10 hp st tr vis day v1 v2 v3 v4 = some (o_hp, o_st, o_tr, o_day) → W p l e ({ frames := 4, cells := 0, slots := 0, locals := 84 }) s m args below meth c H locs 0 0 (MQ below (QcV D (tyC cI cB cG cS) (wP cI cG ad o_hp o_st o_tr sp vis o_day z) A) args s 0 0 A) (F0 m 10 ls [])) : ∀ {hp : Nat → Int32} {st : Nat → Int32} {tr : Nat → Nat → Int32} {day : Int32} {v1 : Int32} {v2 : Int32} {v3 : Int32} {v4 : Int32} {H : Heap} {locs : List Loc} {ls : Array Slot}, GX (XS ta adK adV) D (tyC cI cB cG cS) A s (wP cI cG ad hp st tr sp vis day z) H locs → lv_has ls 5 [(0, .ref (ad 0)), (1, .int v1), (2, .int v2), (3, .int v3), (4, .int v4)] → j0_passDays_44 k2 k10 hp st tr vis day v1 v2 v3 v4 = some (o_hp, o_st, o_tr, o_day) → W p l e ({ frames := 4, cells := 0, slots := 0, locals := 84 }) s m args below meth c H locs 0 0 (MQ below (QcV D (tyC cI cB cG cS) (wP cI cG ad o_hp o_st o_tr sp vis o_day z) A) args s 0 0 A) (F0 m 44 ls []) := by
  have hx := C0.1
  have hb := C0.2.1
  have hown := C0.2.2.2.2.1
  have hts := C0.2.2.2.2.2.1
  have hX := C0.2.2.2.2.2.2.2.2
  intro hp st tr day v1 v2 v3 v4 H locs ls G hl hf
  unfold j0_passDays_44 at hf
  refine lv_iinc (v := (v4 + (1 : Int32))) (lv' := [(4, .int (v4 + (1 : Int32))), (0, .ref (ad 0)), (1, .int v1), (2, .int v2), (3, .int v3)]) hx hb dX0_passDays_44 hl (k := 4) rfl rfl (by decide) rfl (fun ls hl => ?_)
  refine lv_goto (tgt := 10) hx hb dX0_passDays_47 (by decide) ?_
  exact hk10 G (lv_sub hl [1, 2, 3, 4, 0] rfl) hf
set_option maxHeartbeats 4000000 in
set_option maxRecDepth 100000 in
theorem b0_passDays_10 {ta adK adV : Nat → Nat} {p : Program} {l : Launch} {e : Env} {s : State} {m : MethodId} {args : Array Value} {below : List Frame} {meth : Method} {c : Code} {D : va_G} {cI cB cG cS : ClassId} {ad : Nat → Nat} {A : Nat → Prop} {sp : Nat → Int32} {vis : Int32} {z : Int32} {o_hp : Nat → Int32} {o_st : Nat → Int32} {o_tr : Nat → Nat → Int32} {o_day : Int32} (C0 : CX (XS ta adK adV) p s m args meth c cX0_passDays 5 none RX0 A) {k2 : (Nat → Int32) → (Nat → Int32) → (Nat → Nat → Int32) → Int32 → Int32 → Int32 → Int32 → Int32 → Option ((Nat → Int32) × (Nat → Int32) × (Nat → Nat → Int32) × Int32)} (hk2 : ∀ {hp : Nat → Int32} {st : Nat → Int32} {tr : Nat → Nat → Int32} {day : Int32} {v1 : Int32} {v2 : Int32} {v3 : Int32} {H : Heap} {locs : List Loc} {ls : Array Slot}, GX (XS ta adK adV) D (tyC cI cB cG cS) A s (wP cI cG ad hp st tr sp vis day z) H locs → lv_has ls 5 [(0, .ref (ad 0)), (1, .int v1), (2, .int v2), (3, .int v3)] → k2 hp st tr vis day v1 v2 v3 = some (o_hp, o_st, o_tr, o_day) → W p l e ({ frames := 4, cells := 0, slots := 0, locals := 84 }) s m args below meth c H locs 0 0 (MQ below (QcV D (tyC cI cB cG cS) (wP cI cG ad o_hp o_st o_tr sp vis o_day z) A) args s 0 0 A) (F0 m 2 ls [])) : ∀ (n : Nat) {hp : Nat → Int32} {st : Nat → Int32} {tr : Nat → Nat → Int32} {day : Int32} {v1 : Int32} {v2 : Int32} {v3 : Int32} {v4 : Int32} {H : Heap} {locs : List Loc} {ls : Array Slot}, GX (XS ta adK adV) D (tyC cI cB cG cS) A s (wP cI cG ad hp st tr sp vis day z) H locs → lv_has ls 5 [(0, .ref (ad 0)), (1, .int v1), (2, .int v2), (3, .int v3), (4, .int v4)] → l0_passDays_10 k2 n hp st tr vis day v1 v2 v3 v4 = some (o_hp, o_st, o_tr, o_day) → W p l e ({ frames := 4, cells := 0, slots := 0, locals := 84 }) s m args below meth c H locs 0 0 (MQ below (QcV D (tyC cI cB cG cS) (wP cI cG ad o_hp o_st o_tr sp vis o_day z) A) args s 0 0 A) (F0 m 10 ls []) := by
  have hx := C0.1
  have hb := C0.2.1
  have hown := C0.2.2.2.2.1
  have hts := C0.2.2.2.2.2.1
  have hX := C0.2.2.2.2.2.2.2.2
  intro n
  induction n with
  | zero =>
    intro _ _ _ _ _ _ _ _ _ _ _ G hl hf
    cases hf
  | succ n ih =>
    intro hp st tr day v1 v2 v3 v4 H locs ls G hl hf
    rw [l0_passDays_10] at hf
    refine lv_iload hx hb dX0_passDays_10 (lv_at hl 4 rfl) ?_
    refine lv_aload_n hx hb dX0_passDays_12 rfl (lv_at hl 0 rfl) ?_
    refine s_get (C := RX0) (T := TX0) C0 G i_X0 0 4 rfl rfl (by decide) q91 rfl dX0_passDays_13 ?_
    refine lv_icmp_ge (tgt := 50) hx hb dX0_passDays_16 (by decide) (fun hc2 => ?_) (fun hc2 => ?_)
    · have hf := itp hc2 hf
      refine lv_aload_n hx hb dX0_passDays_50 rfl (lv_at hl 0 rfl) ?_
      obtain ⟨tr_3, hc4, hf⟩ := ob1_s hf
      refine go_v C0 G (runV_of (n := 0) (q0 := 0) (As := []) (rest := []) C0 G (c0_ageByADay hX hc4) q331 q50 q328 q329 q330 o0_ageByADay ⟨rfl, rfl⟩ ⟨Nat.le_of_ble_eq_true rfl, Nat.le_of_ble_eq_true rfl⟩ rfl rfl rfl hl.1 rfl (Nat.le_of_ble_eq_true rfl) dX0_passDays_51) (fun H locs G => ?_)
      refine lv_aload_n hx hb dX0_passDays_54 rfl (lv_at hl 0 rfl) ?_
      obtain ⟨hp_5, hc6, hf⟩ := ob1_s hf
      refine go_v C0 G (runV_of (n := 0) (q0 := 0) (As := []) (rest := []) C0 G (c0_blow hX hc6) q335 q50 q332 q333 q334 o0_blow ⟨rfl, rfl⟩ ⟨Nat.le_of_ble_eq_true rfl, Nat.le_of_ble_eq_true rfl⟩ rfl rfl rfl hl.1 rfl (Nat.le_of_ble_eq_true rfl) dX0_passDays_55) (fun H locs G => ?_)
      refine lv_aload_n hx hb dX0_passDays_58 rfl (lv_at hl 0 rfl) ?_
      refine lv_ldc (v := (99999 : Int32)) hx hb hown (hts _ q340) dX0_passDays_59 ?_
      refine lv_aload_n hx hb dX0_passDays_61 rfl (lv_at hl 0 rfl) ?_
      refine s_get (C := RX0) (T := TX0) C0 G i_X0 0 5 rfl rfl (by decide) q93 rfl dX0_passDays_62 ?_
      refine lv_iconst (v := (1 : Int32)) hx hb dX0_passDays_65 (by decide) ?_
      refine lv_iadd hx hb dX0_passDays_66 ?_
      refine s_min C0 hl.1 q229 ⟨Nat.le_of_ble_eq_true rfl, Nat.le_of_ble_eq_true rfl⟩ dX0_passDays_67 ?_
      refine s_put (C := RX0) (T := TX0) (w' := (wP cI cG ad hp_5 st tr_3 sp vis (jmin (99999 : Int32) (day + (1 : Int32))) z)) C0 G i_X0 tyX0 tyX0_ok nmX0 0 5 rfl rfl (by decide) q93 rfl (ty := .int) (by decide +kernel) rfl rfl (Nat.le_of_ble_eq_true rfl) rfl dX0_passDays_70 (fun H locs G => ?_)
      refine lv_iinc (v := (v3 + (1 : Int32))) (lv' := [(3, .int (v3 + (1 : Int32))), (0, .ref (ad 0)), (1, .int v1), (2, .int v2), (4, .int v4)]) hx hb dX0_passDays_73 hl (k := 3) rfl rfl (by decide) rfl (fun ls hl => ?_)
      refine lv_goto (tgt := 2) hx hb dX0_passDays_76 (by decide) ?_
      exact hk2 G (lv_sub hl [1, 2, 3, 0] rfl) hf
    · have hf := itn hc2 hf
      refine lv_iload_n hx hb dX0_passDays_19 rfl (lv_at hl 2 rfl) ?_
      refine lv_iload hx hb dX0_passDays_20 (lv_at hl 4 rfl) ?_
      refine lv_ishr hx hb dX0_passDays_22 ?_
      refine lv_iconst (v := (1 : Int32)) hx hb dX0_passDays_23 (by decide) ?_
      refine lv_iand hx hb dX0_passDays_24 ?_
      refine lv_if_ne (tgt := 44) hx hb dX0_passDays_25 (by decide) (fun hc7 => ?_) (fun hc7 => ?_)
      · have hf := itn hc7 hf
        exact b0_passDays_44 C0 hk2 ih G (lv_sub hl [0, 1, 2, 3, 4] rfl) hf
      · have hf := itp hc7 hf
        refine lv_aload_n hx hb dX0_passDays_28 rfl (lv_at hl 0 rfl) ?_
        refine lv_iload hx hb dX0_passDays_29 (lv_at hl 4 rfl) ?_
        obtain ⟨r8, hc9, hf⟩ := ob1_s hf
        refine go_i C0 G (runV_of (n := 1) (q0 := 0) (As := [.int v4]) (rest := []) C0 G (c0_comesToday hX hc9) q326 q50 q323 q324 q325 o0_comesToday ⟨rfl, rfl⟩ ⟨Nat.le_of_ble_eq_true rfl, Nat.le_of_ble_eq_true rfl⟩ rfl rfl rfl hl.1 rfl (Nat.le_of_ble_eq_true rfl) dX0_passDays_31) (fun H locs G => ?_)
        refine lv_if_eq (tgt := 44) hx hb dX0_passDays_34 (by decide) (fun hc10 => ?_) (fun hc10 => ?_)
        · have hf := itp hc10 hf
          exact b0_passDays_44 C0 hk2 ih G (lv_sub hl [0, 1, 2, 3, 4] rfl) hf
        · have hf := itn hc10 hf
          refine lv_aload_n hx hb dX0_passDays_37 rfl (lv_at hl 0 rfl) ?_
          refine lv_iload hx hb dX0_passDays_38 (lv_at hl 4 rfl) ?_
          obtain ⟨r11, hp_12, st_13, tr_14, hc15, hf⟩ := ob4_s hf
          refine go_i C0 G (runV_of (n := 1) (q0 := 0) (As := [.int v4]) (rest := []) C0 G (c0_receive hX hc15) q301 q50 q327 q299 q300 o0_receive ⟨rfl, rfl⟩ ⟨Nat.le_of_ble_eq_true rfl, Nat.le_of_ble_eq_true rfl⟩ rfl rfl rfl hl.1 rfl (Nat.le_of_ble_eq_true rfl) dX0_passDays_40) (fun H locs G => ?_)
          refine lv_pop hx hb dX0_passDays_43 rfl ?_
          exact b0_passDays_44 C0 hk2 ih G (lv_sub hl [0, 1, 2, 3, 4] rfl) hf
set_option maxHeartbeats 4000000 in
set_option maxRecDepth 100000 in
theorem b0_passDays_2 {ta adK adV : Nat → Nat} {p : Program} {l : Launch} {e : Env} {s : State} {m : MethodId} {args : Array Value} {below : List Frame} {meth : Method} {c : Code} {D : va_G} {cI cB cG cS : ClassId} {ad : Nat → Nat} {A : Nat → Prop} {sp : Nat → Int32} {vis : Int32} {z : Int32} {o_hp : Nat → Int32} {o_st : Nat → Int32} {o_tr : Nat → Nat → Int32} {o_day : Int32} (C0 : CX (XS ta adK adV) p s m args meth c cX0_passDays 5 none RX0 A) : ∀ (n : Nat) {hp : Nat → Int32} {st : Nat → Int32} {tr : Nat → Nat → Int32} {day : Int32} {v1 : Int32} {v2 : Int32} {v3 : Int32} {H : Heap} {locs : List Loc} {ls : Array Slot}, GX (XS ta adK adV) D (tyC cI cB cG cS) A s (wP cI cG ad hp st tr sp vis day z) H locs → lv_has ls 5 [(0, .ref (ad 0)), (1, .int v1), (2, .int v2), (3, .int v3)] → l0_passDays_2  n hp st tr vis day v1 v2 v3 = some (o_hp, o_st, o_tr, o_day) → W p l e ({ frames := 4, cells := 0, slots := 0, locals := 84 }) s m args below meth c H locs 0 0 (MQ below (QcV D (tyC cI cB cG cS) (wP cI cG ad o_hp o_st o_tr sp vis o_day z) A) args s 0 0 A) (F0 m 2 ls []) := by
  have hx := C0.1
  have hb := C0.2.1
  have hown := C0.2.2.2.2.1
  have hts := C0.2.2.2.2.2.1
  have hX := C0.2.2.2.2.2.2.2.2
  intro n
  induction n with
  | zero =>
    intro _ _ _ _ _ _ _ _ _ _ G hl hf
    cases hf
  | succ n ih =>
    intro hp st tr day v1 v2 v3 H locs ls G hl hf
    rw [l0_passDays_2] at hf
    refine lv_iload_n hx hb dX0_passDays_2 rfl (lv_at hl 3 rfl) ?_
    refine lv_iload_n hx hb dX0_passDays_3 rfl (lv_at hl 1 rfl) ?_
    refine lv_icmp_ge (tgt := 79) hx hb dX0_passDays_4 (by decide) (fun hc1 => ?_) (fun hc1 => ?_)
    · have hf := itp hc1 hf
      obtain ⟨rfl, rfl, rfl, rfl⟩ := inj4 hf
      exact ret_v C0 G dX0_passDays_79
    · have hf := itn hc1 hf
      refine lv_iconst (v := (0 : Int32)) hx hb dX0_passDays_7 (by decide) ?_
      refine lv_istore (lv' := [(4, .int (0 : Int32)), (0, .ref (ad 0)), (1, .int v1), (2, .int v2), (3, .int v3)]) hx hb dX0_passDays_8 hl (by decide) rfl (fun ls hl => ?_)
      exact b0_passDays_10 C0 ih 1000 G (lv_sub hl [1, 2, 3, 4, 0] rfl) hf
set_option maxHeartbeats 4000000 in
set_option maxRecDepth 100000 in
theorem b0_passDays_0 {ta adK adV : Nat → Nat} {p : Program} {l : Launch} {e : Env} {s : State} {m : MethodId} {args : Array Value} {below : List Frame} {meth : Method} {c : Code} {D : va_G} {cI cB cG cS : ClassId} {ad : Nat → Nat} {A : Nat → Prop} {sp : Nat → Int32} {vis : Int32} {z : Int32} {o_hp : Nat → Int32} {o_st : Nat → Int32} {o_tr : Nat → Nat → Int32} {o_day : Int32} (C0 : CX (XS ta adK adV) p s m args meth c cX0_passDays 5 none RX0 A) : ∀ {hp : Nat → Int32} {st : Nat → Int32} {tr : Nat → Nat → Int32} {day : Int32} {v1 : Int32} {v2 : Int32} {H : Heap} {locs : List Loc} {ls : Array Slot}, GX (XS ta adK adV) D (tyC cI cB cG cS) A s (wP cI cG ad hp st tr sp vis day z) H locs → lv_has ls 5 [(0, .ref (ad 0)), (1, .int v1), (2, .int v2)] → f0_passDays hp st tr vis day v1 v2 = some (o_hp, o_st, o_tr, o_day) → W p l e ({ frames := 4, cells := 0, slots := 0, locals := 84 }) s m args below meth c H locs 0 0 (MQ below (QcV D (tyC cI cB cG cS) (wP cI cG ad o_hp o_st o_tr sp vis o_day z) A) args s 0 0 A) (F0 m 0 ls []) := by
  have hx := C0.1
  have hb := C0.2.1
  have hown := C0.2.2.2.2.1
  have hts := C0.2.2.2.2.2.1
  have hX := C0.2.2.2.2.2.2.2.2
  intro hp st tr day v1 v2 H locs ls G hl hf
  unfold f0_passDays at hf
  refine lv_iconst (v := (0 : Int32)) hx hb dX0_passDays_0 (by decide) ?_
  refine lv_istore_n (lv' := [(3, .int (0 : Int32)), (0, .ref (ad 0)), (1, .int v1), (2, .int v2)]) hx hb dX0_passDays_1 rfl hl (by decide) rfl (fun ls hl => ?_)
  exact b0_passDays_2 C0  1000 G (lv_sub hl [1, 2, 3, 0] rfl) hf
theorem o0_passDays : okName yX0_passDays 2 := ⟨by decide, by decide, by decide +kernel⟩
set_option maxHeartbeats 4000000 in
set_option maxRecDepth 100000 in
theorem c0_passDays {ta adK adV : Nat → Nat} (hX : XT (XS ta adK adV)) {l : Launch} {D : va_G} {cI cB cG cS : ClassId} {ad : Nat → Nat} {sz : Nat} {hp : Nat → Int32} {st : Nat → Int32} {tr : Nat → Nat → Int32} {sp : Nat → Int32} {vis : Int32} {day : Int32} {z : Int32} {v1 : Int32} {v2 : Int32} {o_hp : Nat → Int32} {o_st : Nat → Int32} {o_tr : Nat → Nat → Int32} {o_day : Int32} (hf : f0_passDays hp st tr vis day v1 v2 = some (o_hp, o_st, o_tr, o_day)) : Met l yX0_passDays (wU yX0_passDays cX0_passDays 5 none) ({ frames := 4, cells := 0, slots := 0, locals := 84 }) (va_Pc [.ref (ad 0), .int v1, .int v2] (PreW (XS ta adK adV) D (tyC cI cB cG cS) (wP cI cG ad hp st tr sp vis day z) sz)) (QcV D (tyC cI cB cG cS) (wP cI cG ad o_hp o_st o_tr sp vis o_day z) (va_A (wP cI cG ad hp st tr sp vis day z) sz)) 0 0 (va_A (wP cI cG ad hp st tr sp vis day z) sz) := by
  refine startW hX (own := RX0) (by decide) rfl (Nat.le_of_ble_eq_true rfl) (fun p e s m args below meth c ls C0 G hl => ?_)
  exact b0_passDays_0 C0 G hl hf
/-! 0_roadLength -/
theorem dX0_roadLength_0 : decode cX0_roadLength 0 = .ok (.iconst 0, 1) := by decide +kernel
theorem dX0_roadLength_1 : decode cX0_roadLength 1 = .ok (.istore_n 1, 1) := by decide +kernel
theorem dX0_roadLength_2 : decode cX0_roadLength 2 = .ok (.iconst 0, 1) := by decide +kernel
theorem dX0_roadLength_3 : decode cX0_roadLength 3 = .ok (.istore_n 2, 1) := by decide +kernel
theorem dX0_roadLength_4 : decode cX0_roadLength 4 = .ok (.iconst 0, 1) := by decide +kernel
theorem dX0_roadLength_5 : decode cX0_roadLength 5 = .ok (.istore_n 3, 1) := by decide +kernel
theorem dX0_roadLength_6 : decode cX0_roadLength 6 = .ok (.iload_n 3, 1) := by decide +kernel
theorem dX0_roadLength_7 : decode cX0_roadLength 7 = .ok (.bipush 16, 2) := by decide +kernel
theorem dX0_roadLength_9 : decode cX0_roadLength 9 = .ok (.if_icmp .ge 33, 3) := by decide +kernel
theorem dX0_roadLength_12 : decode cX0_roadLength 12 = .ok (.aload_n 0, 1) := by decide +kernel
theorem dX0_roadLength_13 : decode cX0_roadLength 13 = .ok (.getfield 9, 3) := by decide +kernel
theorem dX0_roadLength_16 : decode cX0_roadLength 16 = .ok (.iload_n 3, 1) := by decide +kernel
theorem dX0_roadLength_17 : decode cX0_roadLength 17 = .ok (.iaload, 1) := by decide +kernel
theorem dX0_roadLength_18 : decode cX0_roadLength 18 = .ok (.iconst 5, 1) := by decide +kernel
theorem dX0_roadLength_19 : decode cX0_roadLength 19 = .ok (.if_icmp .lt 9, 3) := by decide +kernel
theorem dX0_roadLength_22 : decode cX0_roadLength 22 = .ok (.iload_n 2, 1) := by decide +kernel
theorem dX0_roadLength_23 : decode cX0_roadLength 23 = .ok (.iconst 1, 1) := by decide +kernel
theorem dX0_roadLength_24 : decode cX0_roadLength 24 = .ok (.iadd, 1) := by decide +kernel
theorem dX0_roadLength_25 : decode cX0_roadLength 25 = .ok (.goto 4, 3) := by decide +kernel
theorem dX0_roadLength_28 : decode cX0_roadLength 28 = .ok (.iconst 0, 1) := by decide +kernel
theorem dX0_roadLength_29 : decode cX0_roadLength 29 = .ok (.istore_n 2, 1) := by decide +kernel
theorem dX0_roadLength_30 : decode cX0_roadLength 30 = .ok (.iload_n 1, 1) := by decide +kernel
theorem dX0_roadLength_31 : decode cX0_roadLength 31 = .ok (.iload_n 2, 1) := by decide +kernel
theorem dX0_roadLength_32 : decode cX0_roadLength 32 = .ok (.invokestatic 52, 3) := by decide +kernel
theorem dX0_roadLength_35 : decode cX0_roadLength 35 = .ok (.istore_n 1, 1) := by decide +kernel
theorem dX0_roadLength_36 : decode cX0_roadLength 36 = .ok (.iinc 3 1, 3) := by decide +kernel
theorem dX0_roadLength_39 : decode cX0_roadLength 39 = .ok (.goto (-33), 3) := by decide +kernel
theorem dX0_roadLength_42 : decode cX0_roadLength 42 = .ok (.iload_n 1, 1) := by decide +kernel
theorem dX0_roadLength_43 : decode cX0_roadLength 43 = .ok (.ireturn, 1) := by decide +kernel
def j0_roadLength_29 (k6 : (Nat → Int32) → Int32 → Int32 → Int32 → Option (Int32)) (hp : Nat → Int32) (v1 : Int32) (v3 : Int32) (t0 : Int32) : Option (Int32) :=
  k6 hp (jmax v1 t0) t0 (v3 + (1 : Int32))
def l0_roadLength_6  : Nat → (Nat → Int32) → Int32 → Int32 → Int32 → Option (Int32)
  | 0, _, _, _, _ => none
  | n + 1, hp, v1, v2, v3 =>
    if (16 : Int32) ≤ v3 then (
      some v1)
    else (
      gd (inb v3 16) (
      if (hp v3.toNatClampNeg) < (5 : Int32) then (
        j0_roadLength_29 (l0_roadLength_6 n) hp v1 v3 (0 : Int32))
      else (
        j0_roadLength_29 (l0_roadLength_6 n) hp v1 v3 (v2 + (1 : Int32)))))
def f0_roadLength (hp : Nat → Int32)  : Option (Int32) :=
  l0_roadLength_6 1000 hp (0 : Int32) (0 : Int32) (0 : Int32)
set_option maxHeartbeats 4000000 in
set_option maxRecDepth 100000 in
theorem b0_roadLength_29 {ta adK adV : Nat → Nat} {p : Program} {l : Launch} {e : Env} {s : State} {m : MethodId} {args : Array Value} {below : List Frame} {meth : Method} {c : Code} {D : va_G} {cI cB cG cS : ClassId} {ad : Nat → Nat} {A : Nat → Prop} {hp : Nat → Int32} {st : Nat → Int32} {tr : Nat → Nat → Int32} {sp : Nat → Int32} {vis : Int32} {day : Int32} {z : Int32} {r0 : Int32} (C0 : CX (XS ta adK adV) p s m args meth c cX0_roadLength 4 (some .int) RX0 A) {k6 : (Nat → Int32) → Int32 → Int32 → Int32 → Option (Int32)} (hk6 : ∀ {v1 : Int32} {v2 : Int32} {v3 : Int32} {H : Heap} {locs : List Loc} {ls : Array Slot}, GX (XS ta adK adV) D (tyC cI cB cG cS) A s (wP cI cG ad hp st tr sp vis day z) H locs → lv_has ls 4 [(0, .ref (ad 0)), (1, .int v1), (2, .int v2), (3, .int v3)] → k6 hp v1 v2 v3 = some r0 → W p l e ({ frames := 1, cells := 0, slots := 0, locals := 13 }) s m args below meth c H locs 0 0 (MQ below (QcI D (tyC cI cB cG cS) (wP cI cG ad hp st tr sp vis day z) A r0) args s 0 0 A) (F0 m 6 ls [])) : ∀ {v1 : Int32} {v3 : Int32} {t0 : Int32} {H : Heap} {locs : List Loc} {ls : Array Slot}, GX (XS ta adK adV) D (tyC cI cB cG cS) A s (wP cI cG ad hp st tr sp vis day z) H locs → lv_has ls 4 [(0, .ref (ad 0)), (1, .int v1), (3, .int v3)] → j0_roadLength_29 k6 hp v1 v3 t0 = some r0 → W p l e ({ frames := 1, cells := 0, slots := 0, locals := 13 }) s m args below meth c H locs 0 0 (MQ below (QcI D (tyC cI cB cG cS) (wP cI cG ad hp st tr sp vis day z) A r0) args s 0 0 A) (F0 m 29 ls [.int t0]) := by
  have hx := C0.1
  have hb := C0.2.1
  have hown := C0.2.2.2.2.1
  have hts := C0.2.2.2.2.2.1
  have hX := C0.2.2.2.2.2.2.2.2
  intro v1 v3 t0 H locs ls G hl hf
  unfold j0_roadLength_29 at hf
  refine lv_istore_n (lv' := [(2, .int t0), (0, .ref (ad 0)), (1, .int v1), (3, .int v3)]) hx hb dX0_roadLength_29 rfl hl (by decide) rfl (fun ls hl => ?_)
  refine lv_iload_n hx hb dX0_roadLength_30 rfl (lv_at hl 2 rfl) ?_
  refine lv_iload_n hx hb dX0_roadLength_31 rfl (lv_at hl 0 rfl) ?_
  refine s_max C0 hl.1 q222 ⟨Nat.le_of_ble_eq_true rfl, Nat.le_of_ble_eq_true rfl⟩ dX0_roadLength_32 ?_
  refine lv_istore_n (lv' := [(1, .int (jmax v1 t0)), (2, .int t0), (0, .ref (ad 0)), (3, .int v3)]) hx hb dX0_roadLength_35 rfl hl (by decide) rfl (fun ls hl => ?_)
  refine lv_iinc (v := (v3 + (1 : Int32))) (lv' := [(3, .int (v3 + (1 : Int32))), (1, .int (jmax v1 t0)), (2, .int t0), (0, .ref (ad 0))]) hx hb dX0_roadLength_36 hl (k := 3) rfl rfl (by decide) rfl (fun ls hl => ?_)
  refine lv_goto (tgt := 6) hx hb dX0_roadLength_39 (by decide) ?_
  exact hk6 G (lv_sub hl [3, 1, 2, 0] rfl) hf
set_option maxHeartbeats 4000000 in
set_option maxRecDepth 100000 in
theorem b0_roadLength_6 {ta adK adV : Nat → Nat} {p : Program} {l : Launch} {e : Env} {s : State} {m : MethodId} {args : Array Value} {below : List Frame} {meth : Method} {c : Code} {D : va_G} {cI cB cG cS : ClassId} {ad : Nat → Nat} {A : Nat → Prop} {hp : Nat → Int32} {st : Nat → Int32} {tr : Nat → Nat → Int32} {sp : Nat → Int32} {vis : Int32} {day : Int32} {z : Int32} {r0 : Int32} (C0 : CX (XS ta adK adV) p s m args meth c cX0_roadLength 4 (some .int) RX0 A) : ∀ (n : Nat) {v1 : Int32} {v2 : Int32} {v3 : Int32} {H : Heap} {locs : List Loc} {ls : Array Slot}, GX (XS ta adK adV) D (tyC cI cB cG cS) A s (wP cI cG ad hp st tr sp vis day z) H locs → lv_has ls 4 [(0, .ref (ad 0)), (1, .int v1), (2, .int v2), (3, .int v3)] → l0_roadLength_6  n hp v1 v2 v3 = some r0 → W p l e ({ frames := 1, cells := 0, slots := 0, locals := 13 }) s m args below meth c H locs 0 0 (MQ below (QcI D (tyC cI cB cG cS) (wP cI cG ad hp st tr sp vis day z) A r0) args s 0 0 A) (F0 m 6 ls []) := by
  have hx := C0.1
  have hb := C0.2.1
  have hown := C0.2.2.2.2.1
  have hts := C0.2.2.2.2.2.1
  have hX := C0.2.2.2.2.2.2.2.2
  intro n
  induction n with
  | zero =>
    intro _ _ _ _ _ _ G hl hf
    cases hf
  | succ n ih =>
    intro v1 v2 v3 H locs ls G hl hf
    rw [l0_roadLength_6] at hf
    refine lv_iload_n hx hb dX0_roadLength_6 rfl (lv_at hl 3 rfl) ?_
    refine lv_bipush (v := (16 : Int32)) hx hb dX0_roadLength_7 (by decide) ?_
    refine lv_icmp_ge (tgt := 42) hx hb dX0_roadLength_9 (by decide) (fun hc1 => ?_) (fun hc1 => ?_)
    · have hf := itp hc1 hf
      refine lv_iload_n hx hb dX0_roadLength_42 rfl (lv_at hl 1 rfl) ?_
      obtain rfl := inj1 hf
      exact ret_i C0 G dX0_roadLength_43
    · have hf := itn hc1 hf
      refine lv_aload_n hx hb dX0_roadLength_12 rfl (lv_at hl 0 rfl) ?_
      refine s_get (C := RX0) (T := TX0) C0 G i_X0 0 0 rfl rfl (by decide) q80 rfl dX0_roadLength_13 ?_
      refine lv_iload_n hx hb dX0_roadLength_16 rfl (lv_at hl 3 rfl) ?_
      obtain ⟨hi2, hf⟩ := gd_s hf
      refine s_iald (k := v3.toNatClampNeg) C0 G 1 0 rfl rfl (vin hi2) rfl dX0_roadLength_17 ?_
      refine lv_iconst (v := (5 : Int32)) hx hb dX0_roadLength_18 (by decide) ?_
      refine lv_icmp_lt (tgt := 28) hx hb dX0_roadLength_19 (by decide) (fun hc3 => ?_) (fun hc3 => ?_)
      · have hf := itp hc3 hf
        refine lv_iconst (v := (0 : Int32)) hx hb dX0_roadLength_28 (by decide) ?_
        exact b0_roadLength_29 C0 ih G (lv_sub hl [0, 1, 3] rfl) hf
      · have hf := itn hc3 hf
        refine lv_iload_n hx hb dX0_roadLength_22 rfl (lv_at hl 2 rfl) ?_
        refine lv_iconst (v := (1 : Int32)) hx hb dX0_roadLength_23 (by decide) ?_
        refine lv_iadd hx hb dX0_roadLength_24 ?_
        refine lv_goto (tgt := 29) hx hb dX0_roadLength_25 (by decide) ?_
        exact b0_roadLength_29 C0 ih G (lv_sub hl [0, 1, 3] rfl) hf
set_option maxHeartbeats 4000000 in
set_option maxRecDepth 100000 in
theorem b0_roadLength_0 {ta adK adV : Nat → Nat} {p : Program} {l : Launch} {e : Env} {s : State} {m : MethodId} {args : Array Value} {below : List Frame} {meth : Method} {c : Code} {D : va_G} {cI cB cG cS : ClassId} {ad : Nat → Nat} {A : Nat → Prop} {hp : Nat → Int32} {st : Nat → Int32} {tr : Nat → Nat → Int32} {sp : Nat → Int32} {vis : Int32} {day : Int32} {z : Int32} {r0 : Int32} (C0 : CX (XS ta adK adV) p s m args meth c cX0_roadLength 4 (some .int) RX0 A) : ∀ {H : Heap} {locs : List Loc} {ls : Array Slot}, GX (XS ta adK adV) D (tyC cI cB cG cS) A s (wP cI cG ad hp st tr sp vis day z) H locs → lv_has ls 4 [(0, .ref (ad 0))] → f0_roadLength hp = some r0 → W p l e ({ frames := 1, cells := 0, slots := 0, locals := 13 }) s m args below meth c H locs 0 0 (MQ below (QcI D (tyC cI cB cG cS) (wP cI cG ad hp st tr sp vis day z) A r0) args s 0 0 A) (F0 m 0 ls []) := by
  have hx := C0.1
  have hb := C0.2.1
  have hown := C0.2.2.2.2.1
  have hts := C0.2.2.2.2.2.1
  have hX := C0.2.2.2.2.2.2.2.2
  intro H locs ls G hl hf
  unfold f0_roadLength at hf
  refine lv_iconst (v := (0 : Int32)) hx hb dX0_roadLength_0 (by decide) ?_
  refine lv_istore_n (lv' := [(1, .int (0 : Int32)), (0, .ref (ad 0))]) hx hb dX0_roadLength_1 rfl hl (by decide) rfl (fun ls hl => ?_)
  refine lv_iconst (v := (0 : Int32)) hx hb dX0_roadLength_2 (by decide) ?_
  refine lv_istore_n (lv' := [(2, .int (0 : Int32)), (1, .int (0 : Int32)), (0, .ref (ad 0))]) hx hb dX0_roadLength_3 rfl hl (by decide) rfl (fun ls hl => ?_)
  refine lv_iconst (v := (0 : Int32)) hx hb dX0_roadLength_4 (by decide) ?_
  refine lv_istore_n (lv' := [(3, .int (0 : Int32)), (2, .int (0 : Int32)), (1, .int (0 : Int32)), (0, .ref (ad 0))]) hx hb dX0_roadLength_5 rfl hl (by decide) rfl (fun ls hl => ?_)
  exact b0_roadLength_6 C0  1000 G (lv_sub hl [3, 2, 1, 0] rfl) hf
theorem o0_roadLength : okName yX0_roadLength 0 := ⟨by decide, by decide, by decide +kernel⟩
set_option maxHeartbeats 4000000 in
set_option maxRecDepth 100000 in
theorem c0_roadLength {ta adK adV : Nat → Nat} (hX : XT (XS ta adK adV)) {l : Launch} {D : va_G} {cI cB cG cS : ClassId} {ad : Nat → Nat} {sz : Nat} {hp : Nat → Int32} {st : Nat → Int32} {tr : Nat → Nat → Int32} {sp : Nat → Int32} {vis : Int32} {day : Int32} {z : Int32}  {r0 : Int32} (hf : f0_roadLength hp = some r0) : Met l yX0_roadLength (wU yX0_roadLength cX0_roadLength 4 (some .int)) ({ frames := 1, cells := 0, slots := 0, locals := 13 }) (va_Pc [.ref (ad 0)] (PreW (XS ta adK adV) D (tyC cI cB cG cS) (wP cI cG ad hp st tr sp vis day z) sz)) (QcI D (tyC cI cB cG cS) (wP cI cG ad hp st tr sp vis day z) (va_A (wP cI cG ad hp st tr sp vis day z) sz) r0) 0 0 (va_A (wP cI cG ad hp st tr sp vis day z) sz) := by
  refine startW hX (own := RX0) (by decide) rfl (Nat.le_of_ble_eq_true rfl) (fun p e s m args below meth c ls C0 G hl => ?_)
  exact b0_roadLength_0 C0 G hl hf
/-! 0_sandInAll -/
theorem dX0_sandInAll_0 : decode cX0_sandInAll 0 = .ok (.iconst 0, 1) := by decide +kernel
theorem dX0_sandInAll_1 : decode cX0_sandInAll 1 = .ok (.istore_n 1, 1) := by decide +kernel
theorem dX0_sandInAll_2 : decode cX0_sandInAll 2 = .ok (.iconst 0, 1) := by decide +kernel
theorem dX0_sandInAll_3 : decode cX0_sandInAll 3 = .ok (.istore_n 2, 1) := by decide +kernel
theorem dX0_sandInAll_4 : decode cX0_sandInAll 4 = .ok (.iload_n 2, 1) := by decide +kernel
theorem dX0_sandInAll_5 : decode cX0_sandInAll 5 = .ok (.bipush 16, 2) := by decide +kernel
theorem dX0_sandInAll_7 : decode cX0_sandInAll 7 = .ok (.if_icmp .ge 18, 3) := by decide +kernel
theorem dX0_sandInAll_10 : decode cX0_sandInAll 10 = .ok (.iload_n 1, 1) := by decide +kernel
theorem dX0_sandInAll_11 : decode cX0_sandInAll 11 = .ok (.aload_n 0, 1) := by decide +kernel
theorem dX0_sandInAll_12 : decode cX0_sandInAll 12 = .ok (.getfield 9, 3) := by decide +kernel
theorem dX0_sandInAll_15 : decode cX0_sandInAll 15 = .ok (.iload_n 2, 1) := by decide +kernel
theorem dX0_sandInAll_16 : decode cX0_sandInAll 16 = .ok (.iaload, 1) := by decide +kernel
theorem dX0_sandInAll_17 : decode cX0_sandInAll 17 = .ok (.iadd, 1) := by decide +kernel
theorem dX0_sandInAll_18 : decode cX0_sandInAll 18 = .ok (.istore_n 1, 1) := by decide +kernel
theorem dX0_sandInAll_19 : decode cX0_sandInAll 19 = .ok (.iinc 2 1, 3) := by decide +kernel
theorem dX0_sandInAll_22 : decode cX0_sandInAll 22 = .ok (.goto (-18), 3) := by decide +kernel
theorem dX0_sandInAll_25 : decode cX0_sandInAll 25 = .ok (.iload_n 1, 1) := by decide +kernel
theorem dX0_sandInAll_26 : decode cX0_sandInAll 26 = .ok (.ireturn, 1) := by decide +kernel
def l0_sandInAll_4  : Nat → (Nat → Int32) → Int32 → Int32 → Option (Int32)
  | 0, _, _, _ => none
  | n + 1, hp, v1, v2 =>
    if (16 : Int32) ≤ v2 then (
      some v1)
    else (
      gd (inb v2 16) (
      (l0_sandInAll_4 n) hp (v1 + (hp v2.toNatClampNeg)) (v2 + (1 : Int32))))
def f0_sandInAll (hp : Nat → Int32)  : Option (Int32) :=
  l0_sandInAll_4 1000 hp (0 : Int32) (0 : Int32)
set_option maxHeartbeats 4000000 in
set_option maxRecDepth 100000 in
theorem b0_sandInAll_4 {ta adK adV : Nat → Nat} {p : Program} {l : Launch} {e : Env} {s : State} {m : MethodId} {args : Array Value} {below : List Frame} {meth : Method} {c : Code} {D : va_G} {cI cB cG cS : ClassId} {ad : Nat → Nat} {A : Nat → Prop} {hp : Nat → Int32} {st : Nat → Int32} {tr : Nat → Nat → Int32} {sp : Nat → Int32} {vis : Int32} {day : Int32} {z : Int32} {r0 : Int32} (C0 : CX (XS ta adK adV) p s m args meth c cX0_sandInAll 3 (some .int) RX0 A) : ∀ (n : Nat) {v1 : Int32} {v2 : Int32} {H : Heap} {locs : List Loc} {ls : Array Slot}, GX (XS ta adK adV) D (tyC cI cB cG cS) A s (wP cI cG ad hp st tr sp vis day z) H locs → lv_has ls 3 [(0, .ref (ad 0)), (1, .int v1), (2, .int v2)] → l0_sandInAll_4  n hp v1 v2 = some r0 → W p l e ({ frames := 0, cells := 0, slots := 0, locals := 0 }) s m args below meth c H locs 0 0 (MQ below (QcI D (tyC cI cB cG cS) (wP cI cG ad hp st tr sp vis day z) A r0) args s 0 0 A) (F0 m 4 ls []) := by
  have hx := C0.1
  have hb := C0.2.1
  have hown := C0.2.2.2.2.1
  have hts := C0.2.2.2.2.2.1
  have hX := C0.2.2.2.2.2.2.2.2
  intro n
  induction n with
  | zero =>
    intro _ _ _ _ _ G hl hf
    cases hf
  | succ n ih =>
    intro v1 v2 H locs ls G hl hf
    rw [l0_sandInAll_4] at hf
    refine lv_iload_n hx hb dX0_sandInAll_4 rfl (lv_at hl 2 rfl) ?_
    refine lv_bipush (v := (16 : Int32)) hx hb dX0_sandInAll_5 (by decide) ?_
    refine lv_icmp_ge (tgt := 25) hx hb dX0_sandInAll_7 (by decide) (fun hc1 => ?_) (fun hc1 => ?_)
    · have hf := itp hc1 hf
      refine lv_iload_n hx hb dX0_sandInAll_25 rfl (lv_at hl 1 rfl) ?_
      obtain rfl := inj1 hf
      exact ret_i C0 G dX0_sandInAll_26
    · have hf := itn hc1 hf
      refine lv_iload_n hx hb dX0_sandInAll_10 rfl (lv_at hl 1 rfl) ?_
      refine lv_aload_n hx hb dX0_sandInAll_11 rfl (lv_at hl 0 rfl) ?_
      refine s_get (C := RX0) (T := TX0) C0 G i_X0 0 0 rfl rfl (by decide) q80 rfl dX0_sandInAll_12 ?_
      refine lv_iload_n hx hb dX0_sandInAll_15 rfl (lv_at hl 2 rfl) ?_
      obtain ⟨hi2, hf⟩ := gd_s hf
      refine s_iald (k := v2.toNatClampNeg) C0 G 1 0 rfl rfl (vin hi2) rfl dX0_sandInAll_16 ?_
      refine lv_iadd hx hb dX0_sandInAll_17 ?_
      refine lv_istore_n (lv' := [(1, .int (v1 + (hp v2.toNatClampNeg))), (0, .ref (ad 0)), (2, .int v2)]) hx hb dX0_sandInAll_18 rfl hl (by decide) rfl (fun ls hl => ?_)
      refine lv_iinc (v := (v2 + (1 : Int32))) (lv' := [(2, .int (v2 + (1 : Int32))), (1, .int (v1 + (hp v2.toNatClampNeg))), (0, .ref (ad 0))]) hx hb dX0_sandInAll_19 hl (k := 2) rfl rfl (by decide) rfl (fun ls hl => ?_)
      refine lv_goto (tgt := 4) hx hb dX0_sandInAll_22 (by decide) ?_
      exact ih G (lv_sub hl [2, 1, 0] rfl) hf
set_option maxHeartbeats 4000000 in
set_option maxRecDepth 100000 in
theorem b0_sandInAll_0 {ta adK adV : Nat → Nat} {p : Program} {l : Launch} {e : Env} {s : State} {m : MethodId} {args : Array Value} {below : List Frame} {meth : Method} {c : Code} {D : va_G} {cI cB cG cS : ClassId} {ad : Nat → Nat} {A : Nat → Prop} {hp : Nat → Int32} {st : Nat → Int32} {tr : Nat → Nat → Int32} {sp : Nat → Int32} {vis : Int32} {day : Int32} {z : Int32} {r0 : Int32} (C0 : CX (XS ta adK adV) p s m args meth c cX0_sandInAll 3 (some .int) RX0 A) : ∀ {H : Heap} {locs : List Loc} {ls : Array Slot}, GX (XS ta adK adV) D (tyC cI cB cG cS) A s (wP cI cG ad hp st tr sp vis day z) H locs → lv_has ls 3 [(0, .ref (ad 0))] → f0_sandInAll hp = some r0 → W p l e ({ frames := 0, cells := 0, slots := 0, locals := 0 }) s m args below meth c H locs 0 0 (MQ below (QcI D (tyC cI cB cG cS) (wP cI cG ad hp st tr sp vis day z) A r0) args s 0 0 A) (F0 m 0 ls []) := by
  have hx := C0.1
  have hb := C0.2.1
  have hown := C0.2.2.2.2.1
  have hts := C0.2.2.2.2.2.1
  have hX := C0.2.2.2.2.2.2.2.2
  intro H locs ls G hl hf
  unfold f0_sandInAll at hf
  refine lv_iconst (v := (0 : Int32)) hx hb dX0_sandInAll_0 (by decide) ?_
  refine lv_istore_n (lv' := [(1, .int (0 : Int32)), (0, .ref (ad 0))]) hx hb dX0_sandInAll_1 rfl hl (by decide) rfl (fun ls hl => ?_)
  refine lv_iconst (v := (0 : Int32)) hx hb dX0_sandInAll_2 (by decide) ?_
  refine lv_istore_n (lv' := [(2, .int (0 : Int32)), (1, .int (0 : Int32)), (0, .ref (ad 0))]) hx hb dX0_sandInAll_3 rfl hl (by decide) rfl (fun ls hl => ?_)
  exact b0_sandInAll_4 C0  1000 G (lv_sub hl [2, 1, 0] rfl) hf
theorem o0_sandInAll : okName yX0_sandInAll 0 := ⟨by decide, by decide, by decide +kernel⟩
set_option maxHeartbeats 4000000 in
set_option maxRecDepth 100000 in
theorem c0_sandInAll {ta adK adV : Nat → Nat} (hX : XT (XS ta adK adV)) {l : Launch} {D : va_G} {cI cB cG cS : ClassId} {ad : Nat → Nat} {sz : Nat} {hp : Nat → Int32} {st : Nat → Int32} {tr : Nat → Nat → Int32} {sp : Nat → Int32} {vis : Int32} {day : Int32} {z : Int32}  {r0 : Int32} (hf : f0_sandInAll hp = some r0) : Met l yX0_sandInAll (wU yX0_sandInAll cX0_sandInAll 3 (some .int)) ({ frames := 0, cells := 0, slots := 0, locals := 0 }) (va_Pc [.ref (ad 0)] (PreW (XS ta adK adV) D (tyC cI cB cG cS) (wP cI cG ad hp st tr sp vis day z) sz)) (QcI D (tyC cI cB cG cS) (wP cI cG ad hp st tr sp vis day z) (va_A (wP cI cG ad hp st tr sp vis day z) sz) r0) 0 0 (va_A (wP cI cG ad hp st tr sp vis day z) sz) := by
  refine startW hX (own := RX0) (by decide) rfl (Nat.le_of_ble_eq_true rfl) (fun p e s m args below meth c ls C0 G hl => ?_)
  exact b0_sandInAll_0 C0 G hl hf
/-! 0_standing -/
theorem dX0_standing_0 : decode cX0_standing 0 = .ok (.iconst 0, 1) := by decide +kernel
theorem dX0_standing_1 : decode cX0_standing 1 = .ok (.istore_n 1, 1) := by decide +kernel
theorem dX0_standing_2 : decode cX0_standing 2 = .ok (.iconst 0, 1) := by decide +kernel
theorem dX0_standing_3 : decode cX0_standing 3 = .ok (.istore_n 2, 1) := by decide +kernel
theorem dX0_standing_4 : decode cX0_standing 4 = .ok (.iload_n 2, 1) := by decide +kernel
theorem dX0_standing_5 : decode cX0_standing 5 = .ok (.aload_n 0, 1) := by decide +kernel
theorem dX0_standing_6 : decode cX0_standing 6 = .ok (.getfield 39, 3) := by decide +kernel
theorem dX0_standing_9 : decode cX0_standing 9 = .ok (.if_icmp .ge 23, 3) := by decide +kernel
theorem dX0_standing_12 : decode cX0_standing 12 = .ok (.aload_n 0, 1) := by decide +kernel
theorem dX0_standing_13 : decode cX0_standing 13 = .ok (.iload_n 2, 1) := by decide +kernel
theorem dX0_standing_14 : decode cX0_standing 14 = .ok (.invokevirtual 81, 3) := by decide +kernel
theorem dX0_standing_17 : decode cX0_standing 17 = .ok (.ifCond .eq 9, 3) := by decide +kernel
theorem dX0_standing_20 : decode cX0_standing 20 = .ok (.iload_n 1, 1) := by decide +kernel
theorem dX0_standing_21 : decode cX0_standing 21 = .ok (.iconst 1, 1) := by decide +kernel
theorem dX0_standing_22 : decode cX0_standing 22 = .ok (.iload_n 2, 1) := by decide +kernel
theorem dX0_standing_23 : decode cX0_standing 23 = .ok (.ishl, 1) := by decide +kernel
theorem dX0_standing_24 : decode cX0_standing 24 = .ok (.ior, 1) := by decide +kernel
theorem dX0_standing_25 : decode cX0_standing 25 = .ok (.istore_n 1, 1) := by decide +kernel
theorem dX0_standing_26 : decode cX0_standing 26 = .ok (.iinc 2 1, 3) := by decide +kernel
theorem dX0_standing_29 : decode cX0_standing 29 = .ok (.goto (-25), 3) := by decide +kernel
theorem dX0_standing_32 : decode cX0_standing 32 = .ok (.iload_n 1, 1) := by decide +kernel
theorem dX0_standing_33 : decode cX0_standing 33 = .ok (.ireturn, 1) := by decide +kernel
def j0_standing_26 (k4 : (Nat → Int32) → (Nat → Int32) → (Nat → Nat → Int32) → Int32 → Int32 → Int32 → Option (Int32)) (hp : Nat → Int32) (st : Nat → Int32) (tr : Nat → Nat → Int32) (vis : Int32) (v1 : Int32) (v2 : Int32) : Option (Int32) :=
  k4 hp st tr vis v1 (v2 + (1 : Int32))
def l0_standing_4  : Nat → (Nat → Int32) → (Nat → Int32) → (Nat → Nat → Int32) → Int32 → Int32 → Int32 → Option (Int32)
  | 0, _, _, _, _, _, _ => none
  | n + 1, hp, st, tr, vis, v1, v2 =>
    if vis ≤ v2 then (
      some v1)
    else (
      ob1 (f0_isUp hp st tr v2) (fun r2 =>
      if r2 = (0 : Int32) then (
        j0_standing_26 (l0_standing_4 n) hp st tr vis v1 v2)
      else (
        j0_standing_26 (l0_standing_4 n) hp st tr vis (v1 ||| ((1 : Int32) <<< (v2 &&& 31))) v2)))
def f0_standing (hp : Nat → Int32) (st : Nat → Int32) (tr : Nat → Nat → Int32) (vis : Int32)  : Option (Int32) :=
  l0_standing_4 1000 hp st tr vis (0 : Int32) (0 : Int32)
set_option maxHeartbeats 4000000 in
set_option maxRecDepth 100000 in
theorem b0_standing_26 {ta adK adV : Nat → Nat} {p : Program} {l : Launch} {e : Env} {s : State} {m : MethodId} {args : Array Value} {below : List Frame} {meth : Method} {c : Code} {D : va_G} {cI cB cG cS : ClassId} {ad : Nat → Nat} {A : Nat → Prop} {hp : Nat → Int32} {st : Nat → Int32} {tr : Nat → Nat → Int32} {sp : Nat → Int32} {vis : Int32} {day : Int32} {z : Int32} {r0 : Int32} (C0 : CX (XS ta adK adV) p s m args meth c cX0_standing 3 (some .int) RX0 A) {k4 : (Nat → Int32) → (Nat → Int32) → (Nat → Nat → Int32) → Int32 → Int32 → Int32 → Option (Int32)} (hk4 : ∀ {v1 : Int32} {v2 : Int32} {H : Heap} {locs : List Loc} {ls : Array Slot}, GX (XS ta adK adV) D (tyC cI cB cG cS) A s (wP cI cG ad hp st tr sp vis day z) H locs → lv_has ls 3 [(0, .ref (ad 0)), (1, .int v1), (2, .int v2)] → k4 hp st tr vis v1 v2 = some r0 → W p l e ({ frames := 3, cells := 0, slots := 0, locals := 60 }) s m args below meth c H locs 0 0 (MQ below (QcI D (tyC cI cB cG cS) (wP cI cG ad hp st tr sp vis day z) A r0) args s 0 0 A) (F0 m 4 ls [])) : ∀ {v1 : Int32} {v2 : Int32} {H : Heap} {locs : List Loc} {ls : Array Slot}, GX (XS ta adK adV) D (tyC cI cB cG cS) A s (wP cI cG ad hp st tr sp vis day z) H locs → lv_has ls 3 [(0, .ref (ad 0)), (1, .int v1), (2, .int v2)] → j0_standing_26 k4 hp st tr vis v1 v2 = some r0 → W p l e ({ frames := 3, cells := 0, slots := 0, locals := 60 }) s m args below meth c H locs 0 0 (MQ below (QcI D (tyC cI cB cG cS) (wP cI cG ad hp st tr sp vis day z) A r0) args s 0 0 A) (F0 m 26 ls []) := by
  have hx := C0.1
  have hb := C0.2.1
  have hown := C0.2.2.2.2.1
  have hts := C0.2.2.2.2.2.1
  have hX := C0.2.2.2.2.2.2.2.2
  intro v1 v2 H locs ls G hl hf
  unfold j0_standing_26 at hf
  refine lv_iinc (v := (v2 + (1 : Int32))) (lv' := [(2, .int (v2 + (1 : Int32))), (0, .ref (ad 0)), (1, .int v1)]) hx hb dX0_standing_26 hl (k := 2) rfl rfl (by decide) rfl (fun ls hl => ?_)
  refine lv_goto (tgt := 4) hx hb dX0_standing_29 (by decide) ?_
  exact hk4 G (lv_sub hl [1, 2, 0] rfl) hf
set_option maxHeartbeats 4000000 in
set_option maxRecDepth 100000 in
theorem b0_standing_4 {ta adK adV : Nat → Nat} {p : Program} {l : Launch} {e : Env} {s : State} {m : MethodId} {args : Array Value} {below : List Frame} {meth : Method} {c : Code} {D : va_G} {cI cB cG cS : ClassId} {ad : Nat → Nat} {A : Nat → Prop} {hp : Nat → Int32} {st : Nat → Int32} {tr : Nat → Nat → Int32} {sp : Nat → Int32} {vis : Int32} {day : Int32} {z : Int32} {r0 : Int32} (C0 : CX (XS ta adK adV) p s m args meth c cX0_standing 3 (some .int) RX0 A) : ∀ (n : Nat) {v1 : Int32} {v2 : Int32} {H : Heap} {locs : List Loc} {ls : Array Slot}, GX (XS ta adK adV) D (tyC cI cB cG cS) A s (wP cI cG ad hp st tr sp vis day z) H locs → lv_has ls 3 [(0, .ref (ad 0)), (1, .int v1), (2, .int v2)] → l0_standing_4  n hp st tr vis v1 v2 = some r0 → W p l e ({ frames := 3, cells := 0, slots := 0, locals := 60 }) s m args below meth c H locs 0 0 (MQ below (QcI D (tyC cI cB cG cS) (wP cI cG ad hp st tr sp vis day z) A r0) args s 0 0 A) (F0 m 4 ls []) := by
  have hx := C0.1
  have hb := C0.2.1
  have hown := C0.2.2.2.2.1
  have hts := C0.2.2.2.2.2.1
  have hX := C0.2.2.2.2.2.2.2.2
  intro n
  induction n with
  | zero =>
    intro _ _ _ _ _ G hl hf
    cases hf
  | succ n ih =>
    intro v1 v2 H locs ls G hl hf
    rw [l0_standing_4] at hf
    refine lv_iload_n hx hb dX0_standing_4 rfl (lv_at hl 2 rfl) ?_
    refine lv_aload_n hx hb dX0_standing_5 rfl (lv_at hl 0 rfl) ?_
    refine s_get (C := RX0) (T := TX0) C0 G i_X0 0 4 rfl rfl (by decide) q91 rfl dX0_standing_6 ?_
    refine lv_icmp_ge (tgt := 32) hx hb dX0_standing_9 (by decide) (fun hc1 => ?_) (fun hc1 => ?_)
    · have hf := itp hc1 hf
      refine lv_iload_n hx hb dX0_standing_32 rfl (lv_at hl 1 rfl) ?_
      obtain rfl := inj1 hf
      exact ret_i C0 G dX0_standing_33
    · have hf := itn hc1 hf
      refine lv_aload_n hx hb dX0_standing_12 rfl (lv_at hl 0 rfl) ?_
      refine lv_iload_n hx hb dX0_standing_13 rfl (lv_at hl 2 rfl) ?_
      obtain ⟨r2, hc3, hf⟩ := ob1_s hf
      refine go_i C0 G (runV_of (n := 1) (q0 := 0) (As := [.int v2]) (rest := []) C0 G (c0_isUp hX hc3) q277 q50 q312 q275 q276 o0_isUp ⟨rfl, rfl⟩ ⟨Nat.le_of_ble_eq_true rfl, Nat.le_of_ble_eq_true rfl⟩ rfl rfl rfl hl.1 rfl (Nat.le_of_ble_eq_true rfl) dX0_standing_14) (fun H locs G => ?_)
      refine lv_if_eq (tgt := 26) hx hb dX0_standing_17 (by decide) (fun hc4 => ?_) (fun hc4 => ?_)
      · have hf := itp hc4 hf
        exact b0_standing_26 C0 ih G (lv_sub hl [0, 1, 2] rfl) hf
      · have hf := itn hc4 hf
        refine lv_iload_n hx hb dX0_standing_20 rfl (lv_at hl 1 rfl) ?_
        refine lv_iconst (v := (1 : Int32)) hx hb dX0_standing_21 (by decide) ?_
        refine lv_iload_n hx hb dX0_standing_22 rfl (lv_at hl 2 rfl) ?_
        refine lv_ishl hx hb dX0_standing_23 ?_
        refine lv_ior hx hb dX0_standing_24 ?_
        refine lv_istore_n (lv' := [(1, .int (v1 ||| ((1 : Int32) <<< (v2 &&& 31)))), (0, .ref (ad 0)), (2, .int v2)]) hx hb dX0_standing_25 rfl hl (by decide) rfl (fun ls hl => ?_)
        exact b0_standing_26 C0 ih G (lv_sub hl [1, 0, 2] rfl) hf
set_option maxHeartbeats 4000000 in
set_option maxRecDepth 100000 in
theorem b0_standing_0 {ta adK adV : Nat → Nat} {p : Program} {l : Launch} {e : Env} {s : State} {m : MethodId} {args : Array Value} {below : List Frame} {meth : Method} {c : Code} {D : va_G} {cI cB cG cS : ClassId} {ad : Nat → Nat} {A : Nat → Prop} {hp : Nat → Int32} {st : Nat → Int32} {tr : Nat → Nat → Int32} {sp : Nat → Int32} {vis : Int32} {day : Int32} {z : Int32} {r0 : Int32} (C0 : CX (XS ta adK adV) p s m args meth c cX0_standing 3 (some .int) RX0 A) : ∀ {H : Heap} {locs : List Loc} {ls : Array Slot}, GX (XS ta adK adV) D (tyC cI cB cG cS) A s (wP cI cG ad hp st tr sp vis day z) H locs → lv_has ls 3 [(0, .ref (ad 0))] → f0_standing hp st tr vis = some r0 → W p l e ({ frames := 3, cells := 0, slots := 0, locals := 60 }) s m args below meth c H locs 0 0 (MQ below (QcI D (tyC cI cB cG cS) (wP cI cG ad hp st tr sp vis day z) A r0) args s 0 0 A) (F0 m 0 ls []) := by
  have hx := C0.1
  have hb := C0.2.1
  have hown := C0.2.2.2.2.1
  have hts := C0.2.2.2.2.2.1
  have hX := C0.2.2.2.2.2.2.2.2
  intro H locs ls G hl hf
  unfold f0_standing at hf
  refine lv_iconst (v := (0 : Int32)) hx hb dX0_standing_0 (by decide) ?_
  refine lv_istore_n (lv' := [(1, .int (0 : Int32)), (0, .ref (ad 0))]) hx hb dX0_standing_1 rfl hl (by decide) rfl (fun ls hl => ?_)
  refine lv_iconst (v := (0 : Int32)) hx hb dX0_standing_2 (by decide) ?_
  refine lv_istore_n (lv' := [(2, .int (0 : Int32)), (1, .int (0 : Int32)), (0, .ref (ad 0))]) hx hb dX0_standing_3 rfl hl (by decide) rfl (fun ls hl => ?_)
  exact b0_standing_4 C0  1000 G (lv_sub hl [2, 1, 0] rfl) hf
theorem o0_standing : okName yX0_standing 0 := ⟨by decide, by decide, by decide +kernel⟩
set_option maxHeartbeats 4000000 in
set_option maxRecDepth 100000 in
theorem c0_standing {ta adK adV : Nat → Nat} (hX : XT (XS ta adK adV)) {l : Launch} {D : va_G} {cI cB cG cS : ClassId} {ad : Nat → Nat} {sz : Nat} {hp : Nat → Int32} {st : Nat → Int32} {tr : Nat → Nat → Int32} {sp : Nat → Int32} {vis : Int32} {day : Int32} {z : Int32}  {r0 : Int32} (hf : f0_standing hp st tr vis = some r0) : Met l yX0_standing (wU yX0_standing cX0_standing 3 (some .int)) ({ frames := 3, cells := 0, slots := 0, locals := 60 }) (va_Pc [.ref (ad 0)] (PreW (XS ta adK adV) D (tyC cI cB cG cS) (wP cI cG ad hp st tr sp vis day z) sz)) (QcI D (tyC cI cB cG cS) (wP cI cG ad hp st tr sp vis day z) (va_A (wP cI cG ad hp st tr sp vis day z) sz) r0) 0 0 (va_A (wP cI cG ad hp st tr sp vis day z) sz) := by
  refine startW hX (own := RX0) (by decide) rfl (Nat.le_of_ble_eq_true rfl) (fun p e s m args below meth c ls C0 G hl => ?_)
  exact b0_standing_0 C0 G hl hf
/-! 0_highestCell -/
theorem dX0_highestCell_0 : decode cX0_highestCell 0 = .ok (.iconst 0, 1) := by decide +kernel
theorem dX0_highestCell_1 : decode cX0_highestCell 1 = .ok (.istore_n 1, 1) := by decide +kernel
theorem dX0_highestCell_2 : decode cX0_highestCell 2 = .ok (.iconst 1, 1) := by decide +kernel
theorem dX0_highestCell_3 : decode cX0_highestCell 3 = .ok (.istore_n 2, 1) := by decide +kernel
theorem dX0_highestCell_4 : decode cX0_highestCell 4 = .ok (.iload_n 2, 1) := by decide +kernel
theorem dX0_highestCell_5 : decode cX0_highestCell 5 = .ok (.bipush 16, 2) := by decide +kernel
theorem dX0_highestCell_7 : decode cX0_highestCell 7 = .ok (.if_icmp .ge 26, 3) := by decide +kernel
theorem dX0_highestCell_10 : decode cX0_highestCell 10 = .ok (.aload_n 0, 1) := by decide +kernel
theorem dX0_highestCell_11 : decode cX0_highestCell 11 = .ok (.getfield 9, 3) := by decide +kernel
theorem dX0_highestCell_14 : decode cX0_highestCell 14 = .ok (.iload_n 2, 1) := by decide +kernel
theorem dX0_highestCell_15 : decode cX0_highestCell 15 = .ok (.iaload, 1) := by decide +kernel
theorem dX0_highestCell_16 : decode cX0_highestCell 16 = .ok (.aload_n 0, 1) := by decide +kernel
theorem dX0_highestCell_17 : decode cX0_highestCell 17 = .ok (.getfield 9, 3) := by decide +kernel
theorem dX0_highestCell_20 : decode cX0_highestCell 20 = .ok (.iload_n 1, 1) := by decide +kernel
theorem dX0_highestCell_21 : decode cX0_highestCell 21 = .ok (.iaload, 1) := by decide +kernel
theorem dX0_highestCell_22 : decode cX0_highestCell 22 = .ok (.if_icmp .le 5, 3) := by decide +kernel
theorem dX0_highestCell_25 : decode cX0_highestCell 25 = .ok (.iload_n 2, 1) := by decide +kernel
theorem dX0_highestCell_26 : decode cX0_highestCell 26 = .ok (.istore_n 1, 1) := by decide +kernel
theorem dX0_highestCell_27 : decode cX0_highestCell 27 = .ok (.iinc 2 1, 3) := by decide +kernel
theorem dX0_highestCell_30 : decode cX0_highestCell 30 = .ok (.goto (-26), 3) := by decide +kernel
theorem dX0_highestCell_33 : decode cX0_highestCell 33 = .ok (.iload_n 1, 1) := by decide +kernel
theorem dX0_highestCell_34 : decode cX0_highestCell 34 = .ok (.ireturn, 1) := by decide +kernel
def j0_highestCell_27 (k4 : (Nat → Int32) → Int32 → Int32 → Option (Int32)) (hp : Nat → Int32) (v1 : Int32) (v2 : Int32) : Option (Int32) :=
  k4 hp v1 (v2 + (1 : Int32))
def l0_highestCell_4  : Nat → (Nat → Int32) → Int32 → Int32 → Option (Int32)
  | 0, _, _, _ => none
  | n + 1, hp, v1, v2 =>
    if (16 : Int32) ≤ v2 then (
      some v1)
    else (
      gd (inb v2 16) (
      gd (inb v1 16) (
      if (hp v2.toNatClampNeg) ≤ (hp v1.toNatClampNeg) then (
        j0_highestCell_27 (l0_highestCell_4 n) hp v1 v2)
      else (
        j0_highestCell_27 (l0_highestCell_4 n) hp v2 v2))))
def f0_highestCell (hp : Nat → Int32)  : Option (Int32) :=
  l0_highestCell_4 1000 hp (0 : Int32) (1 : Int32)
set_option maxHeartbeats 4000000 in
set_option maxRecDepth 100000 in
theorem b0_highestCell_27 {ta adK adV : Nat → Nat} {p : Program} {l : Launch} {e : Env} {s : State} {m : MethodId} {args : Array Value} {below : List Frame} {meth : Method} {c : Code} {D : va_G} {cI cB cG cS : ClassId} {ad : Nat → Nat} {A : Nat → Prop} {hp : Nat → Int32} {st : Nat → Int32} {tr : Nat → Nat → Int32} {sp : Nat → Int32} {vis : Int32} {day : Int32} {z : Int32} {r0 : Int32} (C0 : CX (XS ta adK adV) p s m args meth c cX0_highestCell 3 (some .int) RX0 A) {k4 : (Nat → Int32) → Int32 → Int32 → Option (Int32)} (hk4 : ∀ {v1 : Int32} {v2 : Int32} {H : Heap} {locs : List Loc} {ls : Array Slot}, GX (XS ta adK adV) D (tyC cI cB cG cS) A s (wP cI cG ad hp st tr sp vis day z) H locs → lv_has ls 3 [(0, .ref (ad 0)), (1, .int v1), (2, .int v2)] → k4 hp v1 v2 = some r0 → W p l e ({ frames := 0, cells := 0, slots := 0, locals := 0 }) s m args below meth c H locs 0 0 (MQ below (QcI D (tyC cI cB cG cS) (wP cI cG ad hp st tr sp vis day z) A r0) args s 0 0 A) (F0 m 4 ls [])) : ∀ {v1 : Int32} {v2 : Int32} {H : Heap} {locs : List Loc} {ls : Array Slot}, GX (XS ta adK adV) D (tyC cI cB cG cS) A s (wP cI cG ad hp st tr sp vis day z) H locs → lv_has ls 3 [(0, .ref (ad 0)), (1, .int v1), (2, .int v2)] → j0_highestCell_27 k4 hp v1 v2 = some r0 → W p l e ({ frames := 0, cells := 0, slots := 0, locals := 0 }) s m args below meth c H locs 0 0 (MQ below (QcI D (tyC cI cB cG cS) (wP cI cG ad hp st tr sp vis day z) A r0) args s 0 0 A) (F0 m 27 ls []) := by
  have hx := C0.1
  have hb := C0.2.1
  have hown := C0.2.2.2.2.1
  have hts := C0.2.2.2.2.2.1
  have hX := C0.2.2.2.2.2.2.2.2
  intro v1 v2 H locs ls G hl hf
  unfold j0_highestCell_27 at hf
  refine lv_iinc (v := (v2 + (1 : Int32))) (lv' := [(2, .int (v2 + (1 : Int32))), (0, .ref (ad 0)), (1, .int v1)]) hx hb dX0_highestCell_27 hl (k := 2) rfl rfl (by decide) rfl (fun ls hl => ?_)
  refine lv_goto (tgt := 4) hx hb dX0_highestCell_30 (by decide) ?_
  exact hk4 G (lv_sub hl [1, 2, 0] rfl) hf
set_option maxHeartbeats 4000000 in
set_option maxRecDepth 100000 in
theorem b0_highestCell_4 {ta adK adV : Nat → Nat} {p : Program} {l : Launch} {e : Env} {s : State} {m : MethodId} {args : Array Value} {below : List Frame} {meth : Method} {c : Code} {D : va_G} {cI cB cG cS : ClassId} {ad : Nat → Nat} {A : Nat → Prop} {hp : Nat → Int32} {st : Nat → Int32} {tr : Nat → Nat → Int32} {sp : Nat → Int32} {vis : Int32} {day : Int32} {z : Int32} {r0 : Int32} (C0 : CX (XS ta adK adV) p s m args meth c cX0_highestCell 3 (some .int) RX0 A) : ∀ (n : Nat) {v1 : Int32} {v2 : Int32} {H : Heap} {locs : List Loc} {ls : Array Slot}, GX (XS ta adK adV) D (tyC cI cB cG cS) A s (wP cI cG ad hp st tr sp vis day z) H locs → lv_has ls 3 [(0, .ref (ad 0)), (1, .int v1), (2, .int v2)] → l0_highestCell_4  n hp v1 v2 = some r0 → W p l e ({ frames := 0, cells := 0, slots := 0, locals := 0 }) s m args below meth c H locs 0 0 (MQ below (QcI D (tyC cI cB cG cS) (wP cI cG ad hp st tr sp vis day z) A r0) args s 0 0 A) (F0 m 4 ls []) := by
  have hx := C0.1
  have hb := C0.2.1
  have hown := C0.2.2.2.2.1
  have hts := C0.2.2.2.2.2.1
  have hX := C0.2.2.2.2.2.2.2.2
  intro n
  induction n with
  | zero =>
    intro _ _ _ _ _ G hl hf
    cases hf
  | succ n ih =>
    intro v1 v2 H locs ls G hl hf
    rw [l0_highestCell_4] at hf
    refine lv_iload_n hx hb dX0_highestCell_4 rfl (lv_at hl 2 rfl) ?_
    refine lv_bipush (v := (16 : Int32)) hx hb dX0_highestCell_5 (by decide) ?_
    refine lv_icmp_ge (tgt := 33) hx hb dX0_highestCell_7 (by decide) (fun hc1 => ?_) (fun hc1 => ?_)
    · have hf := itp hc1 hf
      refine lv_iload_n hx hb dX0_highestCell_33 rfl (lv_at hl 1 rfl) ?_
      obtain rfl := inj1 hf
      exact ret_i C0 G dX0_highestCell_34
    · have hf := itn hc1 hf
      refine lv_aload_n hx hb dX0_highestCell_10 rfl (lv_at hl 0 rfl) ?_
      refine s_get (C := RX0) (T := TX0) C0 G i_X0 0 0 rfl rfl (by decide) q80 rfl dX0_highestCell_11 ?_
      refine lv_iload_n hx hb dX0_highestCell_14 rfl (lv_at hl 2 rfl) ?_
      obtain ⟨hi2, hf⟩ := gd_s hf
      refine s_iald (k := v2.toNatClampNeg) C0 G 1 0 rfl rfl (vin hi2) rfl dX0_highestCell_15 ?_
      refine lv_aload_n hx hb dX0_highestCell_16 rfl (lv_at hl 0 rfl) ?_
      refine s_get (C := RX0) (T := TX0) C0 G i_X0 0 0 rfl rfl (by decide) q80 rfl dX0_highestCell_17 ?_
      refine lv_iload_n hx hb dX0_highestCell_20 rfl (lv_at hl 1 rfl) ?_
      obtain ⟨hi3, hf⟩ := gd_s hf
      refine s_iald (k := v1.toNatClampNeg) C0 G 1 0 rfl rfl (vin hi3) rfl dX0_highestCell_21 ?_
      refine lv_icmp_le (tgt := 27) hx hb dX0_highestCell_22 (by decide) (fun hc4 => ?_) (fun hc4 => ?_)
      · have hf := itp hc4 hf
        exact b0_highestCell_27 C0 ih G (lv_sub hl [0, 1, 2] rfl) hf
      · have hf := itn hc4 hf
        refine lv_iload_n hx hb dX0_highestCell_25 rfl (lv_at hl 2 rfl) ?_
        refine lv_istore_n (lv' := [(1, .int v2), (0, .ref (ad 0)), (2, .int v2)]) hx hb dX0_highestCell_26 rfl hl (by decide) rfl (fun ls hl => ?_)
        exact b0_highestCell_27 C0 ih G (lv_sub hl [1, 0, 2] rfl) hf
set_option maxHeartbeats 4000000 in
set_option maxRecDepth 100000 in
theorem b0_highestCell_0 {ta adK adV : Nat → Nat} {p : Program} {l : Launch} {e : Env} {s : State} {m : MethodId} {args : Array Value} {below : List Frame} {meth : Method} {c : Code} {D : va_G} {cI cB cG cS : ClassId} {ad : Nat → Nat} {A : Nat → Prop} {hp : Nat → Int32} {st : Nat → Int32} {tr : Nat → Nat → Int32} {sp : Nat → Int32} {vis : Int32} {day : Int32} {z : Int32} {r0 : Int32} (C0 : CX (XS ta adK adV) p s m args meth c cX0_highestCell 3 (some .int) RX0 A) : ∀ {H : Heap} {locs : List Loc} {ls : Array Slot}, GX (XS ta adK adV) D (tyC cI cB cG cS) A s (wP cI cG ad hp st tr sp vis day z) H locs → lv_has ls 3 [(0, .ref (ad 0))] → f0_highestCell hp = some r0 → W p l e ({ frames := 0, cells := 0, slots := 0, locals := 0 }) s m args below meth c H locs 0 0 (MQ below (QcI D (tyC cI cB cG cS) (wP cI cG ad hp st tr sp vis day z) A r0) args s 0 0 A) (F0 m 0 ls []) := by
  have hx := C0.1
  have hb := C0.2.1
  have hown := C0.2.2.2.2.1
  have hts := C0.2.2.2.2.2.1
  have hX := C0.2.2.2.2.2.2.2.2
  intro H locs ls G hl hf
  unfold f0_highestCell at hf
  refine lv_iconst (v := (0 : Int32)) hx hb dX0_highestCell_0 (by decide) ?_
  refine lv_istore_n (lv' := [(1, .int (0 : Int32)), (0, .ref (ad 0))]) hx hb dX0_highestCell_1 rfl hl (by decide) rfl (fun ls hl => ?_)
  refine lv_iconst (v := (1 : Int32)) hx hb dX0_highestCell_2 (by decide) ?_
  refine lv_istore_n (lv' := [(2, .int (1 : Int32)), (1, .int (0 : Int32)), (0, .ref (ad 0))]) hx hb dX0_highestCell_3 rfl hl (by decide) rfl (fun ls hl => ?_)
  exact b0_highestCell_4 C0  1000 G (lv_sub hl [2, 1, 0] rfl) hf
theorem o0_highestCell : okName yX0_highestCell 0 := ⟨by decide, by decide, by decide +kernel⟩
set_option maxHeartbeats 4000000 in
set_option maxRecDepth 100000 in
theorem c0_highestCell {ta adK adV : Nat → Nat} (hX : XT (XS ta adK adV)) {l : Launch} {D : va_G} {cI cB cG cS : ClassId} {ad : Nat → Nat} {sz : Nat} {hp : Nat → Int32} {st : Nat → Int32} {tr : Nat → Nat → Int32} {sp : Nat → Int32} {vis : Int32} {day : Int32} {z : Int32}  {r0 : Int32} (hf : f0_highestCell hp = some r0) : Met l yX0_highestCell (wU yX0_highestCell cX0_highestCell 3 (some .int)) ({ frames := 0, cells := 0, slots := 0, locals := 0 }) (va_Pc [.ref (ad 0)] (PreW (XS ta adK adV) D (tyC cI cB cG cS) (wP cI cG ad hp st tr sp vis day z) sz)) (QcI D (tyC cI cB cG cS) (wP cI cG ad hp st tr sp vis day z) (va_A (wP cI cG ad hp st tr sp vis day z) sz) r0) 0 0 (va_A (wP cI cG ad hp st tr sp vis day z) sz) := by
  refine startW hX (own := RX0) (by decide) rfl (Nat.le_of_ble_eq_true rfl) (fun p e s m args below meth c ls C0 G hl => ?_)
  exact b0_highestCell_0 C0 G hl hf
/-! 0_builtInAll -/
theorem dX0_builtInAll_0 : decode cX0_builtInAll 0 = .ok (.iconst 0, 1) := by decide +kernel
theorem dX0_builtInAll_1 : decode cX0_builtInAll 1 = .ok (.istore_n 1, 1) := by decide +kernel
theorem dX0_builtInAll_2 : decode cX0_builtInAll 2 = .ok (.iconst 0, 1) := by decide +kernel
theorem dX0_builtInAll_3 : decode cX0_builtInAll 3 = .ok (.istore_n 2, 1) := by decide +kernel
theorem dX0_builtInAll_4 : decode cX0_builtInAll 4 = .ok (.iload_n 2, 1) := by decide +kernel
theorem dX0_builtInAll_5 : decode cX0_builtInAll 5 = .ok (.aload_n 0, 1) := by decide +kernel
theorem dX0_builtInAll_6 : decode cX0_builtInAll 6 = .ok (.getfield 39, 3) := by decide +kernel
theorem dX0_builtInAll_9 : decode cX0_builtInAll 9 = .ok (.if_icmp .ge 21, 3) := by decide +kernel
theorem dX0_builtInAll_12 : decode cX0_builtInAll 12 = .ok (.iload_n 1, 1) := by decide +kernel
theorem dX0_builtInAll_13 : decode cX0_builtInAll 13 = .ok (.aload_n 0, 1) := by decide +kernel
theorem dX0_builtInAll_14 : decode cX0_builtInAll 14 = .ok (.getfield 20, 3) := by decide +kernel
theorem dX0_builtInAll_17 : decode cX0_builtInAll 17 = .ok (.bipush 6, 2) := by decide +kernel
theorem dX0_builtInAll_19 : decode cX0_builtInAll 19 = .ok (.aaload, 1) := by decide +kernel
theorem dX0_builtInAll_20 : decode cX0_builtInAll 20 = .ok (.iload_n 2, 1) := by decide +kernel
theorem dX0_builtInAll_21 : decode cX0_builtInAll 21 = .ok (.iaload, 1) := by decide +kernel
theorem dX0_builtInAll_22 : decode cX0_builtInAll 22 = .ok (.iadd, 1) := by decide +kernel
theorem dX0_builtInAll_23 : decode cX0_builtInAll 23 = .ok (.istore_n 1, 1) := by decide +kernel
theorem dX0_builtInAll_24 : decode cX0_builtInAll 24 = .ok (.iinc 2 1, 3) := by decide +kernel
theorem dX0_builtInAll_27 : decode cX0_builtInAll 27 = .ok (.goto (-23), 3) := by decide +kernel
theorem dX0_builtInAll_30 : decode cX0_builtInAll 30 = .ok (.iload_n 1, 1) := by decide +kernel
theorem dX0_builtInAll_31 : decode cX0_builtInAll 31 = .ok (.ireturn, 1) := by decide +kernel
def l0_builtInAll_4  : Nat → (Nat → Nat → Int32) → Int32 → Int32 → Int32 → Option (Int32)
  | 0, _, _, _, _ => none
  | n + 1, tr, vis, v1, v2 =>
    if vis ≤ v2 then (
      some v1)
    else (
      gd (inb v2 8) (
      (l0_builtInAll_4 n) tr vis (v1 + ((tr 6) v2.toNatClampNeg)) (v2 + (1 : Int32))))
def f0_builtInAll (tr : Nat → Nat → Int32) (vis : Int32)  : Option (Int32) :=
  l0_builtInAll_4 1000 tr vis (0 : Int32) (0 : Int32)
set_option maxHeartbeats 4000000 in
set_option maxRecDepth 100000 in
theorem b0_builtInAll_4 {ta adK adV : Nat → Nat} {p : Program} {l : Launch} {e : Env} {s : State} {m : MethodId} {args : Array Value} {below : List Frame} {meth : Method} {c : Code} {D : va_G} {cI cB cG cS : ClassId} {ad : Nat → Nat} {A : Nat → Prop} {hp : Nat → Int32} {st : Nat → Int32} {tr : Nat → Nat → Int32} {sp : Nat → Int32} {vis : Int32} {day : Int32} {z : Int32} {r0 : Int32} (C0 : CX (XS ta adK adV) p s m args meth c cX0_builtInAll 3 (some .int) RX0 A) : ∀ (n : Nat) {v1 : Int32} {v2 : Int32} {H : Heap} {locs : List Loc} {ls : Array Slot}, GX (XS ta adK adV) D (tyC cI cB cG cS) A s (wP cI cG ad hp st tr sp vis day z) H locs → lv_has ls 3 [(0, .ref (ad 0)), (1, .int v1), (2, .int v2)] → l0_builtInAll_4  n tr vis v1 v2 = some r0 → W p l e ({ frames := 0, cells := 0, slots := 0, locals := 0 }) s m args below meth c H locs 0 0 (MQ below (QcI D (tyC cI cB cG cS) (wP cI cG ad hp st tr sp vis day z) A r0) args s 0 0 A) (F0 m 4 ls []) := by
  have hx := C0.1
  have hb := C0.2.1
  have hown := C0.2.2.2.2.1
  have hts := C0.2.2.2.2.2.1
  have hX := C0.2.2.2.2.2.2.2.2
  intro n
  induction n with
  | zero =>
    intro _ _ _ _ _ G hl hf
    cases hf
  | succ n ih =>
    intro v1 v2 H locs ls G hl hf
    rw [l0_builtInAll_4] at hf
    refine lv_iload_n hx hb dX0_builtInAll_4 rfl (lv_at hl 2 rfl) ?_
    refine lv_aload_n hx hb dX0_builtInAll_5 rfl (lv_at hl 0 rfl) ?_
    refine s_get (C := RX0) (T := TX0) C0 G i_X0 0 4 rfl rfl (by decide) q91 rfl dX0_builtInAll_6 ?_
    refine lv_icmp_ge (tgt := 30) hx hb dX0_builtInAll_9 (by decide) (fun hc1 => ?_) (fun hc1 => ?_)
    · have hf := itp hc1 hf
      refine lv_iload_n hx hb dX0_builtInAll_30 rfl (lv_at hl 1 rfl) ?_
      obtain rfl := inj1 hf
      exact ret_i C0 G dX0_builtInAll_31
    · have hf := itn hc1 hf
      refine lv_iload_n hx hb dX0_builtInAll_12 rfl (lv_at hl 1 rfl) ?_
      refine lv_aload_n hx hb dX0_builtInAll_13 rfl (lv_at hl 0 rfl) ?_
      refine s_get (C := RX0) (T := TX0) C0 G i_X0 0 2 rfl rfl (by decide) q86 rfl dX0_builtInAll_14 ?_
      refine lv_bipush (v := (6 : Int32)) hx hb dX0_builtInAll_17 (by decide) ?_
      refine s_aldg (k := 6) (b := ad 10) C0 G 3 2 rfl rfl (vin (by decide)) (by decide) rfl dX0_builtInAll_19 ?_
      refine lv_iload_n hx hb dX0_builtInAll_20 rfl (lv_at hl 2 rfl) ?_
      obtain ⟨hi2, hf⟩ := gd_s hf
      refine s_iald (k := v2.toNatClampNeg) C0 G 10 0 rfl rfl (vin hi2) rfl dX0_builtInAll_21 ?_
      refine lv_iadd hx hb dX0_builtInAll_22 ?_
      refine lv_istore_n (lv' := [(1, .int (v1 + ((tr 6) v2.toNatClampNeg))), (0, .ref (ad 0)), (2, .int v2)]) hx hb dX0_builtInAll_23 rfl hl (by decide) rfl (fun ls hl => ?_)
      refine lv_iinc (v := (v2 + (1 : Int32))) (lv' := [(2, .int (v2 + (1 : Int32))), (1, .int (v1 + ((tr 6) v2.toNatClampNeg))), (0, .ref (ad 0))]) hx hb dX0_builtInAll_24 hl (k := 2) rfl rfl (by decide) rfl (fun ls hl => ?_)
      refine lv_goto (tgt := 4) hx hb dX0_builtInAll_27 (by decide) ?_
      exact ih G (lv_sub hl [2, 1, 0] rfl) hf
set_option maxHeartbeats 4000000 in
set_option maxRecDepth 100000 in
theorem b0_builtInAll_0 {ta adK adV : Nat → Nat} {p : Program} {l : Launch} {e : Env} {s : State} {m : MethodId} {args : Array Value} {below : List Frame} {meth : Method} {c : Code} {D : va_G} {cI cB cG cS : ClassId} {ad : Nat → Nat} {A : Nat → Prop} {hp : Nat → Int32} {st : Nat → Int32} {tr : Nat → Nat → Int32} {sp : Nat → Int32} {vis : Int32} {day : Int32} {z : Int32} {r0 : Int32} (C0 : CX (XS ta adK adV) p s m args meth c cX0_builtInAll 3 (some .int) RX0 A) : ∀ {H : Heap} {locs : List Loc} {ls : Array Slot}, GX (XS ta adK adV) D (tyC cI cB cG cS) A s (wP cI cG ad hp st tr sp vis day z) H locs → lv_has ls 3 [(0, .ref (ad 0))] → f0_builtInAll tr vis = some r0 → W p l e ({ frames := 0, cells := 0, slots := 0, locals := 0 }) s m args below meth c H locs 0 0 (MQ below (QcI D (tyC cI cB cG cS) (wP cI cG ad hp st tr sp vis day z) A r0) args s 0 0 A) (F0 m 0 ls []) := by
  have hx := C0.1
  have hb := C0.2.1
  have hown := C0.2.2.2.2.1
  have hts := C0.2.2.2.2.2.1
  have hX := C0.2.2.2.2.2.2.2.2
  intro H locs ls G hl hf
  unfold f0_builtInAll at hf
  refine lv_iconst (v := (0 : Int32)) hx hb dX0_builtInAll_0 (by decide) ?_
  refine lv_istore_n (lv' := [(1, .int (0 : Int32)), (0, .ref (ad 0))]) hx hb dX0_builtInAll_1 rfl hl (by decide) rfl (fun ls hl => ?_)
  refine lv_iconst (v := (0 : Int32)) hx hb dX0_builtInAll_2 (by decide) ?_
  refine lv_istore_n (lv' := [(2, .int (0 : Int32)), (1, .int (0 : Int32)), (0, .ref (ad 0))]) hx hb dX0_builtInAll_3 rfl hl (by decide) rfl (fun ls hl => ?_)
  exact b0_builtInAll_4 C0  1000 G (lv_sub hl [2, 1, 0] rfl) hf
theorem o0_builtInAll : okName yX0_builtInAll 0 := ⟨by decide, by decide, by decide +kernel⟩
set_option maxHeartbeats 4000000 in
set_option maxRecDepth 100000 in
theorem c0_builtInAll {ta adK adV : Nat → Nat} (hX : XT (XS ta adK adV)) {l : Launch} {D : va_G} {cI cB cG cS : ClassId} {ad : Nat → Nat} {sz : Nat} {hp : Nat → Int32} {st : Nat → Int32} {tr : Nat → Nat → Int32} {sp : Nat → Int32} {vis : Int32} {day : Int32} {z : Int32}  {r0 : Int32} (hf : f0_builtInAll tr vis = some r0) : Met l yX0_builtInAll (wU yX0_builtInAll cX0_builtInAll 3 (some .int)) ({ frames := 0, cells := 0, slots := 0, locals := 0 }) (va_Pc [.ref (ad 0)] (PreW (XS ta adK adV) D (tyC cI cB cG cS) (wP cI cG ad hp st tr sp vis day z) sz)) (QcI D (tyC cI cB cG cS) (wP cI cG ad hp st tr sp vis day z) (va_A (wP cI cG ad hp st tr sp vis day z) sz) r0) 0 0 (va_A (wP cI cG ad hp st tr sp vis day z) sz) := by
  refine startW hX (own := RX0) (by decide) rfl (Nat.le_of_ble_eq_true rfl) (fun p e s m args below meth c ls C0 G hl => ?_)
  exact b0_builtInAll_0 C0 G hl hf
/-! 0_comingToday -/
theorem dX0_comingToday_0 : decode cX0_comingToday 0 = .ok (.iconst 0, 1) := by decide +kernel
theorem dX0_comingToday_1 : decode cX0_comingToday 1 = .ok (.istore_n 1, 1) := by decide +kernel
theorem dX0_comingToday_2 : decode cX0_comingToday 2 = .ok (.iconst 0, 1) := by decide +kernel
theorem dX0_comingToday_3 : decode cX0_comingToday 3 = .ok (.istore_n 2, 1) := by decide +kernel
theorem dX0_comingToday_4 : decode cX0_comingToday 4 = .ok (.iload_n 2, 1) := by decide +kernel
theorem dX0_comingToday_5 : decode cX0_comingToday 5 = .ok (.aload_n 0, 1) := by decide +kernel
theorem dX0_comingToday_6 : decode cX0_comingToday 6 = .ok (.getfield 39, 3) := by decide +kernel
theorem dX0_comingToday_9 : decode cX0_comingToday 9 = .ok (.if_icmp .ge 23, 3) := by decide +kernel
theorem dX0_comingToday_12 : decode cX0_comingToday 12 = .ok (.aload_n 0, 1) := by decide +kernel
theorem dX0_comingToday_13 : decode cX0_comingToday 13 = .ok (.iload_n 2, 1) := by decide +kernel
theorem dX0_comingToday_14 : decode cX0_comingToday 14 = .ok (.invokevirtual 93, 3) := by decide +kernel
theorem dX0_comingToday_17 : decode cX0_comingToday 17 = .ok (.ifCond .eq 9, 3) := by decide +kernel
theorem dX0_comingToday_20 : decode cX0_comingToday 20 = .ok (.iload_n 1, 1) := by decide +kernel
theorem dX0_comingToday_21 : decode cX0_comingToday 21 = .ok (.iconst 1, 1) := by decide +kernel
theorem dX0_comingToday_22 : decode cX0_comingToday 22 = .ok (.iload_n 2, 1) := by decide +kernel
theorem dX0_comingToday_23 : decode cX0_comingToday 23 = .ok (.ishl, 1) := by decide +kernel
theorem dX0_comingToday_24 : decode cX0_comingToday 24 = .ok (.ior, 1) := by decide +kernel
theorem dX0_comingToday_25 : decode cX0_comingToday 25 = .ok (.istore_n 1, 1) := by decide +kernel
theorem dX0_comingToday_26 : decode cX0_comingToday 26 = .ok (.iinc 2 1, 3) := by decide +kernel
theorem dX0_comingToday_29 : decode cX0_comingToday 29 = .ok (.goto (-25), 3) := by decide +kernel
theorem dX0_comingToday_32 : decode cX0_comingToday 32 = .ok (.iload_n 1, 1) := by decide +kernel
theorem dX0_comingToday_33 : decode cX0_comingToday 33 = .ok (.ireturn, 1) := by decide +kernel
def j0_comingToday_26 (k4 : (Nat → Nat → Int32) → Int32 → Int32 → Int32 → Int32 → Option (Int32)) (tr : Nat → Nat → Int32) (vis : Int32) (day : Int32) (v1 : Int32) (v2 : Int32) : Option (Int32) :=
  k4 tr vis day v1 (v2 + (1 : Int32))
def l0_comingToday_4  : Nat → (Nat → Nat → Int32) → Int32 → Int32 → Int32 → Int32 → Option (Int32)
  | 0, _, _, _, _, _ => none
  | n + 1, tr, vis, day, v1, v2 =>
    if vis ≤ v2 then (
      some v1)
    else (
      ob1 (f0_comesToday tr day v2) (fun r2 =>
      if r2 = (0 : Int32) then (
        j0_comingToday_26 (l0_comingToday_4 n) tr vis day v1 v2)
      else (
        j0_comingToday_26 (l0_comingToday_4 n) tr vis day (v1 ||| ((1 : Int32) <<< (v2 &&& 31))) v2)))
def f0_comingToday (tr : Nat → Nat → Int32) (vis : Int32) (day : Int32)  : Option (Int32) :=
  l0_comingToday_4 1000 tr vis day (0 : Int32) (0 : Int32)
set_option maxHeartbeats 4000000 in
set_option maxRecDepth 100000 in
theorem b0_comingToday_26 {ta adK adV : Nat → Nat} {p : Program} {l : Launch} {e : Env} {s : State} {m : MethodId} {args : Array Value} {below : List Frame} {meth : Method} {c : Code} {D : va_G} {cI cB cG cS : ClassId} {ad : Nat → Nat} {A : Nat → Prop} {hp : Nat → Int32} {st : Nat → Int32} {tr : Nat → Nat → Int32} {sp : Nat → Int32} {vis : Int32} {day : Int32} {z : Int32} {r0 : Int32} (C0 : CX (XS ta adK adV) p s m args meth c cX0_comingToday 3 (some .int) RX0 A) {k4 : (Nat → Nat → Int32) → Int32 → Int32 → Int32 → Int32 → Option (Int32)} (hk4 : ∀ {v1 : Int32} {v2 : Int32} {H : Heap} {locs : List Loc} {ls : Array Slot}, GX (XS ta adK adV) D (tyC cI cB cG cS) A s (wP cI cG ad hp st tr sp vis day z) H locs → lv_has ls 3 [(0, .ref (ad 0)), (1, .int v1), (2, .int v2)] → k4 tr vis day v1 v2 = some r0 → W p l e ({ frames := 1, cells := 0, slots := 0, locals := 22 }) s m args below meth c H locs 0 0 (MQ below (QcI D (tyC cI cB cG cS) (wP cI cG ad hp st tr sp vis day z) A r0) args s 0 0 A) (F0 m 4 ls [])) : ∀ {v1 : Int32} {v2 : Int32} {H : Heap} {locs : List Loc} {ls : Array Slot}, GX (XS ta adK adV) D (tyC cI cB cG cS) A s (wP cI cG ad hp st tr sp vis day z) H locs → lv_has ls 3 [(0, .ref (ad 0)), (1, .int v1), (2, .int v2)] → j0_comingToday_26 k4 tr vis day v1 v2 = some r0 → W p l e ({ frames := 1, cells := 0, slots := 0, locals := 22 }) s m args below meth c H locs 0 0 (MQ below (QcI D (tyC cI cB cG cS) (wP cI cG ad hp st tr sp vis day z) A r0) args s 0 0 A) (F0 m 26 ls []) := by
  have hx := C0.1
  have hb := C0.2.1
  have hown := C0.2.2.2.2.1
  have hts := C0.2.2.2.2.2.1
  have hX := C0.2.2.2.2.2.2.2.2
  intro v1 v2 H locs ls G hl hf
  unfold j0_comingToday_26 at hf
  refine lv_iinc (v := (v2 + (1 : Int32))) (lv' := [(2, .int (v2 + (1 : Int32))), (0, .ref (ad 0)), (1, .int v1)]) hx hb dX0_comingToday_26 hl (k := 2) rfl rfl (by decide) rfl (fun ls hl => ?_)
  refine lv_goto (tgt := 4) hx hb dX0_comingToday_29 (by decide) ?_
  exact hk4 G (lv_sub hl [1, 2, 0] rfl) hf
set_option maxHeartbeats 4000000 in
set_option maxRecDepth 100000 in
theorem b0_comingToday_4 {ta adK adV : Nat → Nat} {p : Program} {l : Launch} {e : Env} {s : State} {m : MethodId} {args : Array Value} {below : List Frame} {meth : Method} {c : Code} {D : va_G} {cI cB cG cS : ClassId} {ad : Nat → Nat} {A : Nat → Prop} {hp : Nat → Int32} {st : Nat → Int32} {tr : Nat → Nat → Int32} {sp : Nat → Int32} {vis : Int32} {day : Int32} {z : Int32} {r0 : Int32} (C0 : CX (XS ta adK adV) p s m args meth c cX0_comingToday 3 (some .int) RX0 A) : ∀ (n : Nat) {v1 : Int32} {v2 : Int32} {H : Heap} {locs : List Loc} {ls : Array Slot}, GX (XS ta adK adV) D (tyC cI cB cG cS) A s (wP cI cG ad hp st tr sp vis day z) H locs → lv_has ls 3 [(0, .ref (ad 0)), (1, .int v1), (2, .int v2)] → l0_comingToday_4  n tr vis day v1 v2 = some r0 → W p l e ({ frames := 1, cells := 0, slots := 0, locals := 22 }) s m args below meth c H locs 0 0 (MQ below (QcI D (tyC cI cB cG cS) (wP cI cG ad hp st tr sp vis day z) A r0) args s 0 0 A) (F0 m 4 ls []) := by
  have hx := C0.1
  have hb := C0.2.1
  have hown := C0.2.2.2.2.1
  have hts := C0.2.2.2.2.2.1
  have hX := C0.2.2.2.2.2.2.2.2
  intro n
  induction n with
  | zero =>
    intro _ _ _ _ _ G hl hf
    cases hf
  | succ n ih =>
    intro v1 v2 H locs ls G hl hf
    rw [l0_comingToday_4] at hf
    refine lv_iload_n hx hb dX0_comingToday_4 rfl (lv_at hl 2 rfl) ?_
    refine lv_aload_n hx hb dX0_comingToday_5 rfl (lv_at hl 0 rfl) ?_
    refine s_get (C := RX0) (T := TX0) C0 G i_X0 0 4 rfl rfl (by decide) q91 rfl dX0_comingToday_6 ?_
    refine lv_icmp_ge (tgt := 32) hx hb dX0_comingToday_9 (by decide) (fun hc1 => ?_) (fun hc1 => ?_)
    · have hf := itp hc1 hf
      refine lv_iload_n hx hb dX0_comingToday_32 rfl (lv_at hl 1 rfl) ?_
      obtain rfl := inj1 hf
      exact ret_i C0 G dX0_comingToday_33
    · have hf := itn hc1 hf
      refine lv_aload_n hx hb dX0_comingToday_12 rfl (lv_at hl 0 rfl) ?_
      refine lv_iload_n hx hb dX0_comingToday_13 rfl (lv_at hl 2 rfl) ?_
      obtain ⟨r2, hc3, hf⟩ := ob1_s hf
      refine go_i C0 G (runV_of (n := 1) (q0 := 0) (As := [.int v2]) (rest := []) C0 G (c0_comesToday hX hc3) q326 q50 q323 q324 q325 o0_comesToday ⟨rfl, rfl⟩ ⟨Nat.le_of_ble_eq_true rfl, Nat.le_of_ble_eq_true rfl⟩ rfl rfl rfl hl.1 rfl (Nat.le_of_ble_eq_true rfl) dX0_comingToday_14) (fun H locs G => ?_)
      refine lv_if_eq (tgt := 26) hx hb dX0_comingToday_17 (by decide) (fun hc4 => ?_) (fun hc4 => ?_)
      · have hf := itp hc4 hf
        exact b0_comingToday_26 C0 ih G (lv_sub hl [0, 1, 2] rfl) hf
      · have hf := itn hc4 hf
        refine lv_iload_n hx hb dX0_comingToday_20 rfl (lv_at hl 1 rfl) ?_
        refine lv_iconst (v := (1 : Int32)) hx hb dX0_comingToday_21 (by decide) ?_
        refine lv_iload_n hx hb dX0_comingToday_22 rfl (lv_at hl 2 rfl) ?_
        refine lv_ishl hx hb dX0_comingToday_23 ?_
        refine lv_ior hx hb dX0_comingToday_24 ?_
        refine lv_istore_n (lv' := [(1, .int (v1 ||| ((1 : Int32) <<< (v2 &&& 31)))), (0, .ref (ad 0)), (2, .int v2)]) hx hb dX0_comingToday_25 rfl hl (by decide) rfl (fun ls hl => ?_)
        exact b0_comingToday_26 C0 ih G (lv_sub hl [1, 0, 2] rfl) hf
set_option maxHeartbeats 4000000 in
set_option maxRecDepth 100000 in
theorem b0_comingToday_0 {ta adK adV : Nat → Nat} {p : Program} {l : Launch} {e : Env} {s : State} {m : MethodId} {args : Array Value} {below : List Frame} {meth : Method} {c : Code} {D : va_G} {cI cB cG cS : ClassId} {ad : Nat → Nat} {A : Nat → Prop} {hp : Nat → Int32} {st : Nat → Int32} {tr : Nat → Nat → Int32} {sp : Nat → Int32} {vis : Int32} {day : Int32} {z : Int32} {r0 : Int32} (C0 : CX (XS ta adK adV) p s m args meth c cX0_comingToday 3 (some .int) RX0 A) : ∀ {H : Heap} {locs : List Loc} {ls : Array Slot}, GX (XS ta adK adV) D (tyC cI cB cG cS) A s (wP cI cG ad hp st tr sp vis day z) H locs → lv_has ls 3 [(0, .ref (ad 0))] → f0_comingToday tr vis day = some r0 → W p l e ({ frames := 1, cells := 0, slots := 0, locals := 22 }) s m args below meth c H locs 0 0 (MQ below (QcI D (tyC cI cB cG cS) (wP cI cG ad hp st tr sp vis day z) A r0) args s 0 0 A) (F0 m 0 ls []) := by
  have hx := C0.1
  have hb := C0.2.1
  have hown := C0.2.2.2.2.1
  have hts := C0.2.2.2.2.2.1
  have hX := C0.2.2.2.2.2.2.2.2
  intro H locs ls G hl hf
  unfold f0_comingToday at hf
  refine lv_iconst (v := (0 : Int32)) hx hb dX0_comingToday_0 (by decide) ?_
  refine lv_istore_n (lv' := [(1, .int (0 : Int32)), (0, .ref (ad 0))]) hx hb dX0_comingToday_1 rfl hl (by decide) rfl (fun ls hl => ?_)
  refine lv_iconst (v := (0 : Int32)) hx hb dX0_comingToday_2 (by decide) ?_
  refine lv_istore_n (lv' := [(2, .int (0 : Int32)), (1, .int (0 : Int32)), (0, .ref (ad 0))]) hx hb dX0_comingToday_3 rfl hl (by decide) rfl (fun ls hl => ?_)
  exact b0_comingToday_4 C0  1000 G (lv_sub hl [2, 1, 0] rfl) hf
theorem o0_comingToday : okName yX0_comingToday 0 := ⟨by decide, by decide, by decide +kernel⟩
set_option maxHeartbeats 4000000 in
set_option maxRecDepth 100000 in
theorem c0_comingToday {ta adK adV : Nat → Nat} (hX : XT (XS ta adK adV)) {l : Launch} {D : va_G} {cI cB cG cS : ClassId} {ad : Nat → Nat} {sz : Nat} {hp : Nat → Int32} {st : Nat → Int32} {tr : Nat → Nat → Int32} {sp : Nat → Int32} {vis : Int32} {day : Int32} {z : Int32}  {r0 : Int32} (hf : f0_comingToday tr vis day = some r0) : Met l yX0_comingToday (wU yX0_comingToday cX0_comingToday 3 (some .int)) ({ frames := 1, cells := 0, slots := 0, locals := 22 }) (va_Pc [.ref (ad 0)] (PreW (XS ta adK adV) D (tyC cI cB cG cS) (wP cI cG ad hp st tr sp vis day z) sz)) (QcI D (tyC cI cB cG cS) (wP cI cG ad hp st tr sp vis day z) (va_A (wP cI cG ad hp st tr sp vis day z) sz) r0) 0 0 (va_A (wP cI cG ad hp st tr sp vis day z) sz) := by
  refine startW hX (own := RX0) (by decide) rfl (Nat.le_of_ble_eq_true rfl) (fun p e s m args below meth c ls C0 G hl => ?_)
  exact b0_comingToday_0 C0 G hl hf
/-! 0_draw -/
theorem dX0_draw_0 : decode cX0_draw 0 = .ok (.aload_n 0, 1) := by decide +kernel
theorem dX0_draw_1 : decode cX0_draw 1 = .ok (.aload_n 0, 1) := by decide +kernel
theorem dX0_draw_2 : decode cX0_draw 2 = .ok (.getfield 26, 3) := by decide +kernel
theorem dX0_draw_5 : decode cX0_draw 5 = .ok (.ldc 113, 2) := by decide +kernel
theorem dX0_draw_7 : decode cX0_draw 7 = .ok (.imul, 1) := by decide +kernel
theorem dX0_draw_8 : decode cX0_draw 8 = .ok (.sipush 12345, 3) := by decide +kernel
theorem dX0_draw_11 : decode cX0_draw 11 = .ok (.iadd, 1) := by decide +kernel
theorem dX0_draw_12 : decode cX0_draw 12 = .ok (.putfield 26, 3) := by decide +kernel
theorem dX0_draw_15 : decode cX0_draw 15 = .ok (.aload_n 0, 1) := by decide +kernel
theorem dX0_draw_16 : decode cX0_draw 16 = .ok (.getfield 26, 3) := by decide +kernel
theorem dX0_draw_19 : decode cX0_draw 19 = .ok (.bipush 8, 2) := by decide +kernel
theorem dX0_draw_21 : decode cX0_draw 21 = .ok (.iushr, 1) := by decide +kernel
theorem dX0_draw_22 : decode cX0_draw 22 = .ok (.ireturn, 1) := by decide +kernel
def f0_draw (z : Int32)  : Option (Int32 × Int32) :=
  some (((((z * (1103515245 : Int32)) + (12345 : Int32))).toUInt32 >>> (((8 : Int32)).toUInt32 &&& Int32.toUInt32 31)).toInt32, ((z * (1103515245 : Int32)) + (12345 : Int32)))
set_option maxHeartbeats 4000000 in
set_option maxRecDepth 100000 in
theorem b0_draw_0 {ta adK adV : Nat → Nat} {p : Program} {l : Launch} {e : Env} {s : State} {m : MethodId} {args : Array Value} {below : List Frame} {meth : Method} {c : Code} {D : va_G} {cI cB cG cS : ClassId} {ad : Nat → Nat} {A : Nat → Prop} {hp : Nat → Int32} {st : Nat → Int32} {tr : Nat → Nat → Int32} {sp : Nat → Int32} {vis : Int32} {day : Int32} {r0 : Int32} {o_z : Int32} (C0 : CX (XS ta adK adV) p s m args meth c cX0_draw 1 (some .int) RX0 A) : ∀ {z : Int32} {H : Heap} {locs : List Loc} {ls : Array Slot}, GX (XS ta adK adV) D (tyC cI cB cG cS) A s (wP cI cG ad hp st tr sp vis day z) H locs → lv_has ls 1 [(0, .ref (ad 0))] → f0_draw z = some (r0, o_z) → W p l e ({ frames := 0, cells := 0, slots := 0, locals := 0 }) s m args below meth c H locs 0 0 (MQ below (QcI D (tyC cI cB cG cS) (wP cI cG ad hp st tr sp vis day o_z) A r0) args s 0 0 A) (F0 m 0 ls []) := by
  have hx := C0.1
  have hb := C0.2.1
  have hown := C0.2.2.2.2.1
  have hts := C0.2.2.2.2.2.1
  have hX := C0.2.2.2.2.2.2.2.2
  intro z H locs ls G hl hf
  unfold f0_draw at hf
  refine lv_aload_n hx hb dX0_draw_0 rfl (lv_at hl 0 rfl) ?_
  refine lv_aload_n hx hb dX0_draw_1 rfl (lv_at hl 0 rfl) ?_
  refine s_get (C := RX0) (T := TX0) C0 G i_X0 0 6 rfl rfl (by decide) q95 rfl dX0_draw_2 ?_
  refine lv_ldc (v := (1103515245 : Int32)) hx hb hown (hts _ q482) dX0_draw_5 ?_
  refine lv_imul hx hb dX0_draw_7 ?_
  refine lv_sipush (v := (12345 : Int32)) hx hb dX0_draw_8 (by decide) ?_
  refine lv_iadd hx hb dX0_draw_11 ?_
  refine s_put (C := RX0) (T := TX0) (w' := (wP cI cG ad hp st tr sp vis day ((z * (1103515245 : Int32)) + (12345 : Int32)))) C0 G i_X0 tyX0 tyX0_ok nmX0 0 6 rfl rfl (by decide) q95 rfl (ty := .int) (by decide +kernel) rfl rfl (Nat.le_of_ble_eq_true rfl) rfl dX0_draw_12 (fun H locs G => ?_)
  refine lv_aload_n hx hb dX0_draw_15 rfl (lv_at hl 0 rfl) ?_
  refine s_get (C := RX0) (T := TX0) C0 G i_X0 0 6 rfl rfl (by decide) q95 rfl dX0_draw_16 ?_
  refine lv_bipush (v := (8 : Int32)) hx hb dX0_draw_19 (by decide) ?_
  refine lv_iushr hx hb dX0_draw_21 rfl ?_
  obtain ⟨rfl, rfl⟩ := inj2 hf
  exact ret_i C0 G dX0_draw_22
theorem o0_draw : okName yX0_draw 0 := ⟨by decide, by decide, by decide +kernel⟩
set_option maxHeartbeats 4000000 in
set_option maxRecDepth 100000 in
theorem c0_draw {ta adK adV : Nat → Nat} (hX : XT (XS ta adK adV)) {l : Launch} {D : va_G} {cI cB cG cS : ClassId} {ad : Nat → Nat} {sz : Nat} {hp : Nat → Int32} {st : Nat → Int32} {tr : Nat → Nat → Int32} {sp : Nat → Int32} {vis : Int32} {day : Int32} {z : Int32}  {r0 : Int32} {o_z : Int32} (hf : f0_draw z = some (r0, o_z)) : Met l yX0_draw (wU yX0_draw cX0_draw 1 (some .int)) ({ frames := 0, cells := 0, slots := 0, locals := 0 }) (va_Pc [.ref (ad 0)] (PreW (XS ta adK adV) D (tyC cI cB cG cS) (wP cI cG ad hp st tr sp vis day z) sz)) (QcI D (tyC cI cB cG cS) (wP cI cG ad hp st tr sp vis day o_z) (va_A (wP cI cG ad hp st tr sp vis day z) sz) r0) 0 0 (va_A (wP cI cG ad hp st tr sp vis day z) sz) := by
  refine startW hX (own := RX0) (by decide) rfl (Nat.le_of_ble_eq_true rfl) (fun p e s m args below meth c ls C0 G hl => ?_)
  exact b0_draw_0 C0 G hl hf
/-! 0_roadCells -/
theorem dX0_roadCells_0 : decode cX0_roadCells 0 = .ok (.iconst 0, 1) := by decide +kernel
theorem dX0_roadCells_1 : decode cX0_roadCells 1 = .ok (.istore_n 1, 1) := by decide +kernel
theorem dX0_roadCells_2 : decode cX0_roadCells 2 = .ok (.iconst 0, 1) := by decide +kernel
theorem dX0_roadCells_3 : decode cX0_roadCells 3 = .ok (.istore_n 2, 1) := by decide +kernel
theorem dX0_roadCells_4 : decode cX0_roadCells 4 = .ok (.iload_n 2, 1) := by decide +kernel
theorem dX0_roadCells_5 : decode cX0_roadCells 5 = .ok (.bipush 16, 2) := by decide +kernel
theorem dX0_roadCells_7 : decode cX0_roadCells 7 = .ok (.if_icmp .ge 22, 3) := by decide +kernel
theorem dX0_roadCells_10 : decode cX0_roadCells 10 = .ok (.aload_n 0, 1) := by decide +kernel
theorem dX0_roadCells_11 : decode cX0_roadCells 11 = .ok (.getfield 9, 3) := by decide +kernel
theorem dX0_roadCells_14 : decode cX0_roadCells 14 = .ok (.iload_n 2, 1) := by decide +kernel
theorem dX0_roadCells_15 : decode cX0_roadCells 15 = .ok (.iaload, 1) := by decide +kernel
theorem dX0_roadCells_16 : decode cX0_roadCells 16 = .ok (.iconst 5, 1) := by decide +kernel
theorem dX0_roadCells_17 : decode cX0_roadCells 17 = .ok (.if_icmp .lt 6, 3) := by decide +kernel
theorem dX0_roadCells_20 : decode cX0_roadCells 20 = .ok (.iinc 1 1, 3) := by decide +kernel
theorem dX0_roadCells_23 : decode cX0_roadCells 23 = .ok (.iinc 2 1, 3) := by decide +kernel
theorem dX0_roadCells_26 : decode cX0_roadCells 26 = .ok (.goto (-22), 3) := by decide +kernel
theorem dX0_roadCells_29 : decode cX0_roadCells 29 = .ok (.iload_n 1, 1) := by decide +kernel
theorem dX0_roadCells_30 : decode cX0_roadCells 30 = .ok (.ireturn, 1) := by decide +kernel
def j0_roadCells_23 (k4 : (Nat → Int32) → Int32 → Int32 → Option (Int32)) (hp : Nat → Int32) (v1 : Int32) (v2 : Int32) : Option (Int32) :=
  k4 hp v1 (v2 + (1 : Int32))
def l0_roadCells_4  : Nat → (Nat → Int32) → Int32 → Int32 → Option (Int32)
  | 0, _, _, _ => none
  | n + 1, hp, v1, v2 =>
    if (16 : Int32) ≤ v2 then (
      some v1)
    else (
      gd (inb v2 16) (
      if (hp v2.toNatClampNeg) < (5 : Int32) then (
        j0_roadCells_23 (l0_roadCells_4 n) hp v1 v2)
      else (
        j0_roadCells_23 (l0_roadCells_4 n) hp (v1 + (1 : Int32)) v2)))
def f0_roadCells (hp : Nat → Int32)  : Option (Int32) :=
  l0_roadCells_4 1000 hp (0 : Int32) (0 : Int32)
set_option maxHeartbeats 4000000 in
set_option maxRecDepth 100000 in
theorem b0_roadCells_23 {ta adK adV : Nat → Nat} {p : Program} {l : Launch} {e : Env} {s : State} {m : MethodId} {args : Array Value} {below : List Frame} {meth : Method} {c : Code} {D : va_G} {cI cB cG cS : ClassId} {ad : Nat → Nat} {A : Nat → Prop} {hp : Nat → Int32} {st : Nat → Int32} {tr : Nat → Nat → Int32} {sp : Nat → Int32} {vis : Int32} {day : Int32} {z : Int32} {r0 : Int32} (C0 : CX (XS ta adK adV) p s m args meth c cX0_roadCells 3 (some .int) RX0 A) {k4 : (Nat → Int32) → Int32 → Int32 → Option (Int32)} (hk4 : ∀ {v1 : Int32} {v2 : Int32} {H : Heap} {locs : List Loc} {ls : Array Slot}, GX (XS ta adK adV) D (tyC cI cB cG cS) A s (wP cI cG ad hp st tr sp vis day z) H locs → lv_has ls 3 [(0, .ref (ad 0)), (1, .int v1), (2, .int v2)] → k4 hp v1 v2 = some r0 → W p l e ({ frames := 0, cells := 0, slots := 0, locals := 0 }) s m args below meth c H locs 0 0 (MQ below (QcI D (tyC cI cB cG cS) (wP cI cG ad hp st tr sp vis day z) A r0) args s 0 0 A) (F0 m 4 ls [])) : ∀ {v1 : Int32} {v2 : Int32} {H : Heap} {locs : List Loc} {ls : Array Slot}, GX (XS ta adK adV) D (tyC cI cB cG cS) A s (wP cI cG ad hp st tr sp vis day z) H locs → lv_has ls 3 [(0, .ref (ad 0)), (1, .int v1), (2, .int v2)] → j0_roadCells_23 k4 hp v1 v2 = some r0 → W p l e ({ frames := 0, cells := 0, slots := 0, locals := 0 }) s m args below meth c H locs 0 0 (MQ below (QcI D (tyC cI cB cG cS) (wP cI cG ad hp st tr sp vis day z) A r0) args s 0 0 A) (F0 m 23 ls []) := by
  have hx := C0.1
  have hb := C0.2.1
  have hown := C0.2.2.2.2.1
  have hts := C0.2.2.2.2.2.1
  have hX := C0.2.2.2.2.2.2.2.2
  intro v1 v2 H locs ls G hl hf
  unfold j0_roadCells_23 at hf
  refine lv_iinc (v := (v2 + (1 : Int32))) (lv' := [(2, .int (v2 + (1 : Int32))), (0, .ref (ad 0)), (1, .int v1)]) hx hb dX0_roadCells_23 hl (k := 2) rfl rfl (by decide) rfl (fun ls hl => ?_)
  refine lv_goto (tgt := 4) hx hb dX0_roadCells_26 (by decide) ?_
  exact hk4 G (lv_sub hl [1, 2, 0] rfl) hf
set_option maxHeartbeats 4000000 in
set_option maxRecDepth 100000 in
theorem b0_roadCells_4 {ta adK adV : Nat → Nat} {p : Program} {l : Launch} {e : Env} {s : State} {m : MethodId} {args : Array Value} {below : List Frame} {meth : Method} {c : Code} {D : va_G} {cI cB cG cS : ClassId} {ad : Nat → Nat} {A : Nat → Prop} {hp : Nat → Int32} {st : Nat → Int32} {tr : Nat → Nat → Int32} {sp : Nat → Int32} {vis : Int32} {day : Int32} {z : Int32} {r0 : Int32} (C0 : CX (XS ta adK adV) p s m args meth c cX0_roadCells 3 (some .int) RX0 A) : ∀ (n : Nat) {v1 : Int32} {v2 : Int32} {H : Heap} {locs : List Loc} {ls : Array Slot}, GX (XS ta adK adV) D (tyC cI cB cG cS) A s (wP cI cG ad hp st tr sp vis day z) H locs → lv_has ls 3 [(0, .ref (ad 0)), (1, .int v1), (2, .int v2)] → l0_roadCells_4  n hp v1 v2 = some r0 → W p l e ({ frames := 0, cells := 0, slots := 0, locals := 0 }) s m args below meth c H locs 0 0 (MQ below (QcI D (tyC cI cB cG cS) (wP cI cG ad hp st tr sp vis day z) A r0) args s 0 0 A) (F0 m 4 ls []) := by
  have hx := C0.1
  have hb := C0.2.1
  have hown := C0.2.2.2.2.1
  have hts := C0.2.2.2.2.2.1
  have hX := C0.2.2.2.2.2.2.2.2
  intro n
  induction n with
  | zero =>
    intro _ _ _ _ _ G hl hf
    cases hf
  | succ n ih =>
    intro v1 v2 H locs ls G hl hf
    rw [l0_roadCells_4] at hf
    refine lv_iload_n hx hb dX0_roadCells_4 rfl (lv_at hl 2 rfl) ?_
    refine lv_bipush (v := (16 : Int32)) hx hb dX0_roadCells_5 (by decide) ?_
    refine lv_icmp_ge (tgt := 29) hx hb dX0_roadCells_7 (by decide) (fun hc1 => ?_) (fun hc1 => ?_)
    · have hf := itp hc1 hf
      refine lv_iload_n hx hb dX0_roadCells_29 rfl (lv_at hl 1 rfl) ?_
      obtain rfl := inj1 hf
      exact ret_i C0 G dX0_roadCells_30
    · have hf := itn hc1 hf
      refine lv_aload_n hx hb dX0_roadCells_10 rfl (lv_at hl 0 rfl) ?_
      refine s_get (C := RX0) (T := TX0) C0 G i_X0 0 0 rfl rfl (by decide) q80 rfl dX0_roadCells_11 ?_
      refine lv_iload_n hx hb dX0_roadCells_14 rfl (lv_at hl 2 rfl) ?_
      obtain ⟨hi2, hf⟩ := gd_s hf
      refine s_iald (k := v2.toNatClampNeg) C0 G 1 0 rfl rfl (vin hi2) rfl dX0_roadCells_15 ?_
      refine lv_iconst (v := (5 : Int32)) hx hb dX0_roadCells_16 (by decide) ?_
      refine lv_icmp_lt (tgt := 23) hx hb dX0_roadCells_17 (by decide) (fun hc3 => ?_) (fun hc3 => ?_)
      · have hf := itp hc3 hf
        exact b0_roadCells_23 C0 ih G (lv_sub hl [0, 1, 2] rfl) hf
      · have hf := itn hc3 hf
        refine lv_iinc (v := (v1 + (1 : Int32))) (lv' := [(1, .int (v1 + (1 : Int32))), (0, .ref (ad 0)), (2, .int v2)]) hx hb dX0_roadCells_20 hl (k := 1) rfl rfl (by decide) rfl (fun ls hl => ?_)
        exact b0_roadCells_23 C0 ih G (lv_sub hl [1, 0, 2] rfl) hf
set_option maxHeartbeats 4000000 in
set_option maxRecDepth 100000 in
theorem b0_roadCells_0 {ta adK adV : Nat → Nat} {p : Program} {l : Launch} {e : Env} {s : State} {m : MethodId} {args : Array Value} {below : List Frame} {meth : Method} {c : Code} {D : va_G} {cI cB cG cS : ClassId} {ad : Nat → Nat} {A : Nat → Prop} {hp : Nat → Int32} {st : Nat → Int32} {tr : Nat → Nat → Int32} {sp : Nat → Int32} {vis : Int32} {day : Int32} {z : Int32} {r0 : Int32} (C0 : CX (XS ta adK adV) p s m args meth c cX0_roadCells 3 (some .int) RX0 A) : ∀ {H : Heap} {locs : List Loc} {ls : Array Slot}, GX (XS ta adK adV) D (tyC cI cB cG cS) A s (wP cI cG ad hp st tr sp vis day z) H locs → lv_has ls 3 [(0, .ref (ad 0))] → f0_roadCells hp = some r0 → W p l e ({ frames := 0, cells := 0, slots := 0, locals := 0 }) s m args below meth c H locs 0 0 (MQ below (QcI D (tyC cI cB cG cS) (wP cI cG ad hp st tr sp vis day z) A r0) args s 0 0 A) (F0 m 0 ls []) := by
  have hx := C0.1
  have hb := C0.2.1
  have hown := C0.2.2.2.2.1
  have hts := C0.2.2.2.2.2.1
  have hX := C0.2.2.2.2.2.2.2.2
  intro H locs ls G hl hf
  unfold f0_roadCells at hf
  refine lv_iconst (v := (0 : Int32)) hx hb dX0_roadCells_0 (by decide) ?_
  refine lv_istore_n (lv' := [(1, .int (0 : Int32)), (0, .ref (ad 0))]) hx hb dX0_roadCells_1 rfl hl (by decide) rfl (fun ls hl => ?_)
  refine lv_iconst (v := (0 : Int32)) hx hb dX0_roadCells_2 (by decide) ?_
  refine lv_istore_n (lv' := [(2, .int (0 : Int32)), (1, .int (0 : Int32)), (0, .ref (ad 0))]) hx hb dX0_roadCells_3 rfl hl (by decide) rfl (fun ls hl => ?_)
  exact b0_roadCells_4 C0  1000 G (lv_sub hl [2, 1, 0] rfl) hf
theorem o0_roadCells : okName yX0_roadCells 0 := ⟨by decide, by decide, by decide +kernel⟩
set_option maxHeartbeats 4000000 in
set_option maxRecDepth 100000 in
theorem c0_roadCells {ta adK adV : Nat → Nat} (hX : XT (XS ta adK adV)) {l : Launch} {D : va_G} {cI cB cG cS : ClassId} {ad : Nat → Nat} {sz : Nat} {hp : Nat → Int32} {st : Nat → Int32} {tr : Nat → Nat → Int32} {sp : Nat → Int32} {vis : Int32} {day : Int32} {z : Int32}  {r0 : Int32} (hf : f0_roadCells hp = some r0) : Met l yX0_roadCells (wU yX0_roadCells cX0_roadCells 3 (some .int)) ({ frames := 0, cells := 0, slots := 0, locals := 0 }) (va_Pc [.ref (ad 0)] (PreW (XS ta adK adV) D (tyC cI cB cG cS) (wP cI cG ad hp st tr sp vis day z) sz)) (QcI D (tyC cI cB cG cS) (wP cI cG ad hp st tr sp vis day z) (va_A (wP cI cG ad hp st tr sp vis day z) sz) r0) 0 0 (va_A (wP cI cG ad hp st tr sp vis day z) sz) := by
  refine startW hX (own := RX0) (by decide) rfl (Nat.le_of_ble_eq_true rfl) (fun p e s m args below meth c ls C0 G hl => ?_)
  exact b0_roadCells_0 C0 G hl hf
/-! 0_spotsHolding -/
theorem dX0_spotsHolding_0 : decode cX0_spotsHolding 0 = .ok (.iconst 0, 1) := by decide +kernel
theorem dX0_spotsHolding_1 : decode cX0_spotsHolding 1 = .ok (.istore_n 1, 1) := by decide +kernel
theorem dX0_spotsHolding_2 : decode cX0_spotsHolding 2 = .ok (.iconst 0, 1) := by decide +kernel
theorem dX0_spotsHolding_3 : decode cX0_spotsHolding 3 = .ok (.istore_n 2, 1) := by decide +kernel
theorem dX0_spotsHolding_4 : decode cX0_spotsHolding 4 = .ok (.iload_n 2, 1) := by decide +kernel
theorem dX0_spotsHolding_5 : decode cX0_spotsHolding 5 = .ok (.bipush 10, 2) := by decide +kernel
theorem dX0_spotsHolding_7 : decode cX0_spotsHolding 7 = .ok (.if_icmp .ge 22, 3) := by decide +kernel
theorem dX0_spotsHolding_10 : decode cX0_spotsHolding 10 = .ok (.aload_n 0, 1) := by decide +kernel
theorem dX0_spotsHolding_11 : decode cX0_spotsHolding 11 = .ok (.getfield 23, 3) := by decide +kernel
theorem dX0_spotsHolding_14 : decode cX0_spotsHolding 14 = .ok (.iload_n 2, 1) := by decide +kernel
theorem dX0_spotsHolding_15 : decode cX0_spotsHolding 15 = .ok (.iaload, 1) := by decide +kernel
theorem dX0_spotsHolding_16 : decode cX0_spotsHolding 16 = .ok (.iconst (-1), 1) := by decide +kernel
theorem dX0_spotsHolding_17 : decode cX0_spotsHolding 17 = .ok (.if_icmp .eq 6, 3) := by decide +kernel
theorem dX0_spotsHolding_20 : decode cX0_spotsHolding 20 = .ok (.iinc 1 1, 3) := by decide +kernel
theorem dX0_spotsHolding_23 : decode cX0_spotsHolding 23 = .ok (.iinc 2 1, 3) := by decide +kernel
theorem dX0_spotsHolding_26 : decode cX0_spotsHolding 26 = .ok (.goto (-22), 3) := by decide +kernel
theorem dX0_spotsHolding_29 : decode cX0_spotsHolding 29 = .ok (.iload_n 1, 1) := by decide +kernel
theorem dX0_spotsHolding_30 : decode cX0_spotsHolding 30 = .ok (.ireturn, 1) := by decide +kernel
def j0_spotsHolding_23 (k4 : (Nat → Int32) → Int32 → Int32 → Option (Int32)) (sp : Nat → Int32) (v1 : Int32) (v2 : Int32) : Option (Int32) :=
  k4 sp v1 (v2 + (1 : Int32))
def l0_spotsHolding_4  : Nat → (Nat → Int32) → Int32 → Int32 → Option (Int32)
  | 0, _, _, _ => none
  | n + 1, sp, v1, v2 =>
    if (10 : Int32) ≤ v2 then (
      some v1)
    else (
      gd (inb v2 10) (
      if (sp v2.toNatClampNeg) = (-1 : Int32) then (
        j0_spotsHolding_23 (l0_spotsHolding_4 n) sp v1 v2)
      else (
        j0_spotsHolding_23 (l0_spotsHolding_4 n) sp (v1 + (1 : Int32)) v2)))
def f0_spotsHolding (sp : Nat → Int32)  : Option (Int32) :=
  l0_spotsHolding_4 1000 sp (0 : Int32) (0 : Int32)
set_option maxHeartbeats 4000000 in
set_option maxRecDepth 100000 in
theorem b0_spotsHolding_23 {ta adK adV : Nat → Nat} {p : Program} {l : Launch} {e : Env} {s : State} {m : MethodId} {args : Array Value} {below : List Frame} {meth : Method} {c : Code} {D : va_G} {cI cB cG cS : ClassId} {ad : Nat → Nat} {A : Nat → Prop} {hp : Nat → Int32} {st : Nat → Int32} {tr : Nat → Nat → Int32} {sp : Nat → Int32} {vis : Int32} {day : Int32} {z : Int32} {r0 : Int32} (C0 : CX (XS ta adK adV) p s m args meth c cX0_spotsHolding 3 (some .int) RX0 A) {k4 : (Nat → Int32) → Int32 → Int32 → Option (Int32)} (hk4 : ∀ {v1 : Int32} {v2 : Int32} {H : Heap} {locs : List Loc} {ls : Array Slot}, GX (XS ta adK adV) D (tyC cI cB cG cS) A s (wP cI cG ad hp st tr sp vis day z) H locs → lv_has ls 3 [(0, .ref (ad 0)), (1, .int v1), (2, .int v2)] → k4 sp v1 v2 = some r0 → W p l e ({ frames := 0, cells := 0, slots := 0, locals := 0 }) s m args below meth c H locs 0 0 (MQ below (QcI D (tyC cI cB cG cS) (wP cI cG ad hp st tr sp vis day z) A r0) args s 0 0 A) (F0 m 4 ls [])) : ∀ {v1 : Int32} {v2 : Int32} {H : Heap} {locs : List Loc} {ls : Array Slot}, GX (XS ta adK adV) D (tyC cI cB cG cS) A s (wP cI cG ad hp st tr sp vis day z) H locs → lv_has ls 3 [(0, .ref (ad 0)), (1, .int v1), (2, .int v2)] → j0_spotsHolding_23 k4 sp v1 v2 = some r0 → W p l e ({ frames := 0, cells := 0, slots := 0, locals := 0 }) s m args below meth c H locs 0 0 (MQ below (QcI D (tyC cI cB cG cS) (wP cI cG ad hp st tr sp vis day z) A r0) args s 0 0 A) (F0 m 23 ls []) := by
  have hx := C0.1
  have hb := C0.2.1
  have hown := C0.2.2.2.2.1
  have hts := C0.2.2.2.2.2.1
  have hX := C0.2.2.2.2.2.2.2.2
  intro v1 v2 H locs ls G hl hf
  unfold j0_spotsHolding_23 at hf
  refine lv_iinc (v := (v2 + (1 : Int32))) (lv' := [(2, .int (v2 + (1 : Int32))), (0, .ref (ad 0)), (1, .int v1)]) hx hb dX0_spotsHolding_23 hl (k := 2) rfl rfl (by decide) rfl (fun ls hl => ?_)
  refine lv_goto (tgt := 4) hx hb dX0_spotsHolding_26 (by decide) ?_
  exact hk4 G (lv_sub hl [1, 2, 0] rfl) hf
set_option maxHeartbeats 4000000 in
set_option maxRecDepth 100000 in
theorem b0_spotsHolding_4 {ta adK adV : Nat → Nat} {p : Program} {l : Launch} {e : Env} {s : State} {m : MethodId} {args : Array Value} {below : List Frame} {meth : Method} {c : Code} {D : va_G} {cI cB cG cS : ClassId} {ad : Nat → Nat} {A : Nat → Prop} {hp : Nat → Int32} {st : Nat → Int32} {tr : Nat → Nat → Int32} {sp : Nat → Int32} {vis : Int32} {day : Int32} {z : Int32} {r0 : Int32} (C0 : CX (XS ta adK adV) p s m args meth c cX0_spotsHolding 3 (some .int) RX0 A) : ∀ (n : Nat) {v1 : Int32} {v2 : Int32} {H : Heap} {locs : List Loc} {ls : Array Slot}, GX (XS ta adK adV) D (tyC cI cB cG cS) A s (wP cI cG ad hp st tr sp vis day z) H locs → lv_has ls 3 [(0, .ref (ad 0)), (1, .int v1), (2, .int v2)] → l0_spotsHolding_4  n sp v1 v2 = some r0 → W p l e ({ frames := 0, cells := 0, slots := 0, locals := 0 }) s m args below meth c H locs 0 0 (MQ below (QcI D (tyC cI cB cG cS) (wP cI cG ad hp st tr sp vis day z) A r0) args s 0 0 A) (F0 m 4 ls []) := by
  have hx := C0.1
  have hb := C0.2.1
  have hown := C0.2.2.2.2.1
  have hts := C0.2.2.2.2.2.1
  have hX := C0.2.2.2.2.2.2.2.2
  intro n
  induction n with
  | zero =>
    intro _ _ _ _ _ G hl hf
    cases hf
  | succ n ih =>
    intro v1 v2 H locs ls G hl hf
    rw [l0_spotsHolding_4] at hf
    refine lv_iload_n hx hb dX0_spotsHolding_4 rfl (lv_at hl 2 rfl) ?_
    refine lv_bipush (v := (10 : Int32)) hx hb dX0_spotsHolding_5 (by decide) ?_
    refine lv_icmp_ge (tgt := 29) hx hb dX0_spotsHolding_7 (by decide) (fun hc1 => ?_) (fun hc1 => ?_)
    · have hf := itp hc1 hf
      refine lv_iload_n hx hb dX0_spotsHolding_29 rfl (lv_at hl 1 rfl) ?_
      obtain rfl := inj1 hf
      exact ret_i C0 G dX0_spotsHolding_30
    · have hf := itn hc1 hf
      refine lv_aload_n hx hb dX0_spotsHolding_10 rfl (lv_at hl 0 rfl) ?_
      refine s_get (C := RX0) (T := TX0) C0 G i_X0 0 3 rfl rfl (by decide) q89 rfl dX0_spotsHolding_11 ?_
      refine lv_iload_n hx hb dX0_spotsHolding_14 rfl (lv_at hl 2 rfl) ?_
      obtain ⟨hi2, hf⟩ := gd_s hf
      refine s_iald (k := v2.toNatClampNeg) C0 G 11 0 rfl rfl (vin hi2) rfl dX0_spotsHolding_15 ?_
      refine lv_iconst (v := (-1 : Int32)) hx hb dX0_spotsHolding_16 (by decide) ?_
      refine lv_icmp_eq (tgt := 23) hx hb dX0_spotsHolding_17 (by decide) (fun hc3 => ?_) (fun hc3 => ?_)
      · have hf := itp hc3 hf
        exact b0_spotsHolding_23 C0 ih G (lv_sub hl [0, 1, 2] rfl) hf
      · have hf := itn hc3 hf
        refine lv_iinc (v := (v1 + (1 : Int32))) (lv' := [(1, .int (v1 + (1 : Int32))), (0, .ref (ad 0)), (2, .int v2)]) hx hb dX0_spotsHolding_20 hl (k := 1) rfl rfl (by decide) rfl (fun ls hl => ?_)
        exact b0_spotsHolding_23 C0 ih G (lv_sub hl [1, 0, 2] rfl) hf
set_option maxHeartbeats 4000000 in
set_option maxRecDepth 100000 in
theorem b0_spotsHolding_0 {ta adK adV : Nat → Nat} {p : Program} {l : Launch} {e : Env} {s : State} {m : MethodId} {args : Array Value} {below : List Frame} {meth : Method} {c : Code} {D : va_G} {cI cB cG cS : ClassId} {ad : Nat → Nat} {A : Nat → Prop} {hp : Nat → Int32} {st : Nat → Int32} {tr : Nat → Nat → Int32} {sp : Nat → Int32} {vis : Int32} {day : Int32} {z : Int32} {r0 : Int32} (C0 : CX (XS ta adK adV) p s m args meth c cX0_spotsHolding 3 (some .int) RX0 A) : ∀ {H : Heap} {locs : List Loc} {ls : Array Slot}, GX (XS ta adK adV) D (tyC cI cB cG cS) A s (wP cI cG ad hp st tr sp vis day z) H locs → lv_has ls 3 [(0, .ref (ad 0))] → f0_spotsHolding sp = some r0 → W p l e ({ frames := 0, cells := 0, slots := 0, locals := 0 }) s m args below meth c H locs 0 0 (MQ below (QcI D (tyC cI cB cG cS) (wP cI cG ad hp st tr sp vis day z) A r0) args s 0 0 A) (F0 m 0 ls []) := by
  have hx := C0.1
  have hb := C0.2.1
  have hown := C0.2.2.2.2.1
  have hts := C0.2.2.2.2.2.1
  have hX := C0.2.2.2.2.2.2.2.2
  intro H locs ls G hl hf
  unfold f0_spotsHolding at hf
  refine lv_iconst (v := (0 : Int32)) hx hb dX0_spotsHolding_0 (by decide) ?_
  refine lv_istore_n (lv' := [(1, .int (0 : Int32)), (0, .ref (ad 0))]) hx hb dX0_spotsHolding_1 rfl hl (by decide) rfl (fun ls hl => ?_)
  refine lv_iconst (v := (0 : Int32)) hx hb dX0_spotsHolding_2 (by decide) ?_
  refine lv_istore_n (lv' := [(2, .int (0 : Int32)), (1, .int (0 : Int32)), (0, .ref (ad 0))]) hx hb dX0_spotsHolding_3 rfl hl (by decide) rfl (fun ls hl => ?_)
  exact b0_spotsHolding_4 C0  1000 G (lv_sub hl [2, 1, 0] rfl) hf
theorem o0_spotsHolding : okName yX0_spotsHolding 0 := ⟨by decide, by decide, by decide +kernel⟩
set_option maxHeartbeats 4000000 in
set_option maxRecDepth 100000 in
theorem c0_spotsHolding {ta adK adV : Nat → Nat} (hX : XT (XS ta adK adV)) {l : Launch} {D : va_G} {cI cB cG cS : ClassId} {ad : Nat → Nat} {sz : Nat} {hp : Nat → Int32} {st : Nat → Int32} {tr : Nat → Nat → Int32} {sp : Nat → Int32} {vis : Int32} {day : Int32} {z : Int32}  {r0 : Int32} (hf : f0_spotsHolding sp = some r0) : Met l yX0_spotsHolding (wU yX0_spotsHolding cX0_spotsHolding 3 (some .int)) ({ frames := 0, cells := 0, slots := 0, locals := 0 }) (va_Pc [.ref (ad 0)] (PreW (XS ta adK adV) D (tyC cI cB cG cS) (wP cI cG ad hp st tr sp vis day z) sz)) (QcI D (tyC cI cB cG cS) (wP cI cG ad hp st tr sp vis day z) (va_A (wP cI cG ad hp st tr sp vis day z) sz) r0) 0 0 (va_A (wP cI cG ad hp st tr sp vis day z) sz) := by
  refine startW hX (own := RX0) (by decide) rfl (Nat.le_of_ble_eq_true rfl) (fun p e s m args below meth c ls C0 G hl => ?_)
  exact b0_spotsHolding_0 C0 G hl hf
