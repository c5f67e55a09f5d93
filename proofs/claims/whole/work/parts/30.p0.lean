/-! 0_leastCell -/
theorem dX0_leastCell_0 : decode cX0_leastCell 0 = .ok (.aload_n 0, 1) := by decide +kernel
theorem dX0_leastCell_1 : decode cX0_leastCell 1 = .ok (.getfield 20, 3) := by decide +kernel
theorem dX0_leastCell_4 : decode cX0_leastCell 4 = .ok (.iconst 1, 1) := by decide +kernel
theorem dX0_leastCell_5 : decode cX0_leastCell 5 = .ok (.aaload, 1) := by decide +kernel
theorem dX0_leastCell_6 : decode cX0_leastCell 6 = .ok (.iload_n 1, 1) := by decide +kernel
theorem dX0_leastCell_7 : decode cX0_leastCell 7 = .ok (.iaload, 1) := by decide +kernel
theorem dX0_leastCell_8 : decode cX0_leastCell 8 = .ok (.istore_n 2, 1) := by decide +kernel
theorem dX0_leastCell_9 : decode cX0_leastCell 9 = .ok (.aload_n 0, 1) := by decide +kernel
theorem dX0_leastCell_10 : decode cX0_leastCell 10 = .ok (.getfield 20, 3) := by decide +kernel
theorem dX0_leastCell_13 : decode cX0_leastCell 13 = .ok (.iconst 0, 1) := by decide +kernel
theorem dX0_leastCell_14 : decode cX0_leastCell 14 = .ok (.aaload, 1) := by decide +kernel
theorem dX0_leastCell_15 : decode cX0_leastCell 15 = .ok (.iload_n 1, 1) := by decide +kernel
theorem dX0_leastCell_16 : decode cX0_leastCell 16 = .ok (.iaload, 1) := by decide +kernel
theorem dX0_leastCell_17 : decode cX0_leastCell 17 = .ok (.lookupswitch 44 #[(2, 27), (6, 27)], 27) := by decide +kernel
theorem dX0_leastCell_44 : decode cX0_leastCell 44 = .ok (.iconst 0, 1) := by decide +kernel
theorem dX0_leastCell_45 : decode cX0_leastCell 45 = .ok (.iload_n 2, 1) := by decide +kernel
theorem dX0_leastCell_46 : decode cX0_leastCell 46 = .ok (.aload_n 0, 1) := by decide +kernel
theorem dX0_leastCell_47 : decode cX0_leastCell 47 = .ok (.getfield 20, 3) := by decide +kernel
theorem dX0_leastCell_50 : decode cX0_leastCell 50 = .ok (.iconst 2, 1) := by decide +kernel
theorem dX0_leastCell_51 : decode cX0_leastCell 51 = .ok (.aaload, 1) := by decide +kernel
theorem dX0_leastCell_52 : decode cX0_leastCell 52 = .ok (.iload_n 1, 1) := by decide +kernel
theorem dX0_leastCell_53 : decode cX0_leastCell 53 = .ok (.iaload, 1) := by decide +kernel
theorem dX0_leastCell_54 : decode cX0_leastCell 54 = .ok (.isub, 1) := by decide +kernel
theorem dX0_leastCell_55 : decode cX0_leastCell 55 = .ok (.iconst 1, 1) := by decide +kernel
theorem dX0_leastCell_56 : decode cX0_leastCell 56 = .ok (.iadd, 1) := by decide +kernel
theorem dX0_leastCell_57 : decode cX0_leastCell 57 = .ok (.invokestatic 52, 3) := by decide +kernel
theorem dX0_leastCell_60 : decode cX0_leastCell 60 = .ok (.ireturn, 1) := by decide +kernel
theorem dX0_leastCell_61 : decode cX0_leastCell 61 = .ok (.iload_n 2, 1) := by decide +kernel
theorem dX0_leastCell_62 : decode cX0_leastCell 62 = .ok (.ireturn, 1) := by decide +kernel
def j0_leastCell_44  (tr : Nat → Nat → Int32) (v1 : Int32) (v2 : Int32) : Option (Int32) :=
  gd (inb v1 8) (
  some (jmax (0 : Int32) ((v2 - ((tr 2) v1.toNatClampNeg)) + (1 : Int32))))
def f0_leastCell (tr : Nat → Nat → Int32) (v1 : Int32) : Option (Int32) :=
  gd (inb v1 8) (
  gd (inb v1 8) (
  if ((tr 0) v1.toNatClampNeg) = (2 : Int32) then (
    j0_leastCell_44 tr v1 ((tr 1) v1.toNatClampNeg))
  else
  if ((tr 0) v1.toNatClampNeg) = (6 : Int32) then (
    j0_leastCell_44 tr v1 ((tr 1) v1.toNatClampNeg))
  else
  some ((tr 1) v1.toNatClampNeg)))
set_option maxHeartbeats 4000000 in
set_option maxRecDepth 100000 in
theorem b0_leastCell_44 {ta adK adV : Nat → Nat} {p : Program} {l : Launch} {e : Env} {s : State} {m : MethodId} {args : Array Value} {below : List Frame} {meth : Method} {c : Code} {D : va_G} {cI cB cG cS : ClassId} {ad : Nat → Nat} {A : Nat → Prop} {hp : Nat → Int32} {st : Nat → Int32} {tr : Nat → Nat → Int32} {sp : Nat → Int32} {vis : Int32} {day : Int32} {z : Int32} {r0 : Int32} (C0 : CX (XS ta adK adV) p s m args meth c cX0_leastCell 3 (some .int) RX0 A) : ∀ {v1 : Int32} {v2 : Int32} {H : Heap} {locs : List Loc} {ls : Array Slot}, GX (XS ta adK adV) D (tyC cI cB cG cS) A s (wP cI cG ad hp st tr sp vis day z) H locs → lv_has ls 3 [(0, .ref (ad 0)), (1, .int v1), (2, .int v2)] → j0_leastCell_44  tr v1 v2 = some r0 → W p l e ({ frames := 1, cells := 0, slots := 0, locals := 13 }) s m args below meth c H locs 0 0 (MQ below (QcI D (tyC cI cB cG cS) (wP cI cG ad hp st tr sp vis day z) A r0) args s 0 0 A) (F0 m 44 ls []) := by
  have hx := C0.1
  have hb := C0.2.1
  have hown := C0.2.2.2.2.1
  have hts := C0.2.2.2.2.2.1
  have hX := C0.2.2.2.2.2.2.2.2
  intro v1 v2 H locs ls G hl hf
  unfold j0_leastCell_44 at hf
  refine lv_iconst (v := (0 : Int32)) hx hb dX0_leastCell_44 (by decide) ?_
  refine lv_iload_n hx hb dX0_leastCell_45 rfl (lv_at hl 2 rfl) ?_
  refine lv_aload_n hx hb dX0_leastCell_46 rfl (lv_at hl 0 rfl) ?_
  refine s_get (C := RX0) (T := TX0) C0 G i_X0 0 2 rfl rfl (by decide) q86 rfl dX0_leastCell_47 ?_
  refine lv_iconst (v := (2 : Int32)) hx hb dX0_leastCell_50 (by decide) ?_
  refine s_aldg (k := 2) (b := ad 6) C0 G 3 2 rfl rfl (vin (by decide)) (by decide) rfl dX0_leastCell_51 ?_
  refine lv_iload_n hx hb dX0_leastCell_52 rfl (lv_at hl 1 rfl) ?_
  obtain ⟨hi5, hf⟩ := gd_s hf
  refine s_iald (k := v1.toNatClampNeg) C0 G 6 0 rfl rfl (vin hi5) rfl dX0_leastCell_53 ?_
  refine lv_isub hx hb dX0_leastCell_54 ?_
  refine lv_iconst (v := (1 : Int32)) hx hb dX0_leastCell_55 (by decide) ?_
  refine lv_iadd hx hb dX0_leastCell_56 ?_
  refine s_max C0 hl.1 q222 ⟨Nat.le_of_ble_eq_true rfl, Nat.le_of_ble_eq_true rfl⟩ dX0_leastCell_57 ?_
  obtain rfl := inj1 hf
  exact ret_i C0 G dX0_leastCell_60
set_option maxHeartbeats 4000000 in
set_option maxRecDepth 100000 in
theorem b0_leastCell_0 {ta adK adV : Nat → Nat} {p : Program} {l : Launch} {e : Env} {s : State} {m : MethodId} {args : Array Value} {below : List Frame} {meth : Method} {c : Code} {D : va_G} {cI cB cG cS : ClassId} {ad : Nat → Nat} {A : Nat → Prop} {hp : Nat → Int32} {st : Nat → Int32} {tr : Nat → Nat → Int32} {sp : Nat → Int32} {vis : Int32} {day : Int32} {z : Int32} {r0 : Int32} (C0 : CX (XS ta adK adV) p s m args meth c cX0_leastCell 3 (some .int) RX0 A) : ∀ {v1 : Int32} {H : Heap} {locs : List Loc} {ls : Array Slot}, GX (XS ta adK adV) D (tyC cI cB cG cS) A s (wP cI cG ad hp st tr sp vis day z) H locs → lv_has ls 3 [(0, .ref (ad 0)), (1, .int v1)] → f0_leastCell tr v1 = some r0 → W p l e ({ frames := 1, cells := 0, slots := 0, locals := 13 }) s m args below meth c H locs 0 0 (MQ below (QcI D (tyC cI cB cG cS) (wP cI cG ad hp st tr sp vis day z) A r0) args s 0 0 A) (F0 m 0 ls []) := by
  have hx := C0.1
  have hb := C0.2.1
  have hown := C0.2.2.2.2.1
  have hts := C0.2.2.2.2.2.1
  have hX := C0.2.2.2.2.2.2.2.2
  intro v1 H locs ls G hl hf
  unfold f0_leastCell at hf
  refine lv_aload_n hx hb dX0_leastCell_0 rfl (lv_at hl 0 rfl) ?_
  refine s_get (C := RX0) (T := TX0) C0 G i_X0 0 2 rfl rfl (by decide) q86 rfl dX0_leastCell_1 ?_
  refine lv_iconst (v := (1 : Int32)) hx hb dX0_leastCell_4 (by decide) ?_
  refine s_aldg (k := 1) (b := ad 5) C0 G 3 2 rfl rfl (vin (by decide)) (by decide) rfl dX0_leastCell_5 ?_
  refine lv_iload_n hx hb dX0_leastCell_6 rfl (lv_at hl 1 rfl) ?_
  obtain ⟨hi1, hf⟩ := gd_s hf
  refine s_iald (k := v1.toNatClampNeg) C0 G 5 0 rfl rfl (vin hi1) rfl dX0_leastCell_7 ?_
  refine lv_istore_n (lv' := [(2, .int ((tr 1) v1.toNatClampNeg)), (0, .ref (ad 0)), (1, .int v1)]) hx hb dX0_leastCell_8 rfl hl (by decide) rfl (fun ls hl => ?_)
  refine lv_aload_n hx hb dX0_leastCell_9 rfl (lv_at hl 1 rfl) ?_
  refine s_get (C := RX0) (T := TX0) C0 G i_X0 0 2 rfl rfl (by decide) q86 rfl dX0_leastCell_10 ?_
  refine lv_iconst (v := (0 : Int32)) hx hb dX0_leastCell_13 (by decide) ?_
  refine s_aldg (k := 0) (b := ad 4) C0 G 3 2 rfl rfl (vin (by decide)) (by decide) rfl dX0_leastCell_14 ?_
  refine lv_iload_n hx hb dX0_leastCell_15 rfl (lv_at hl 2 rfl) ?_
  obtain ⟨hi2, hf⟩ := gd_s hf
  refine s_iald (k := v1.toNatClampNeg) C0 G 4 0 rfl rfl (vin hi2) rfl dX0_leastCell_16 ?_
  by_cases hs3 : ((tr 0) v1.toNatClampNeg) = (2 : Int32)
  · have hf := itp hs3 hf
    refine lv_lookup (tgt := 44) hx hb dX0_leastCell_17 (by decide) (by rw [hs3] <;> rfl) (by decide) ?_
    exact b0_leastCell_44 C0  G (lv_sub hl [1, 2, 0] rfl) hf
  have hf := itn hs3 hf
  by_cases hs4 : ((tr 0) v1.toNatClampNeg) = (6 : Int32)
  · have hf := itp hs4 hf
    refine lv_lookup (tgt := 44) hx hb dX0_leastCell_17 (by decide) (by rw [hs4] <;> rfl) (by decide) ?_
    exact b0_leastCell_44 C0  G (lv_sub hl [1, 2, 0] rfl) hf
  have hf := itn hs4 hf
  refine lv_lookup (off := 44) (tgt := 61) hx hb dX0_leastCell_17 (by decide) ((lv_osw (k := (2 : Int32)) (a := 2) hs3 (by decide)).trans ((lv_osw (k := (6 : Int32)) (a := 6) hs4 (by decide)).trans rfl)) (by decide) ?_
  refine lv_iload_n hx hb dX0_leastCell_61 rfl (lv_at hl 0 rfl) ?_
  obtain rfl := inj1 hf
  exact ret_i C0 G dX0_leastCell_62
theorem o0_leastCell : okName yX0_leastCell 1 := ⟨by decide, by decide, by decide +kernel⟩
set_option maxHeartbeats 4000000 in
set_option maxRecDepth 100000 in
theorem c0_leastCell {ta adK adV : Nat → Nat} (hX : XT (XS ta adK adV)) {l : Launch} {D : va_G} {cI cB cG cS : ClassId} {ad : Nat → Nat} {sz : Nat} {hp : Nat → Int32} {st : Nat → Int32} {tr : Nat → Nat → Int32} {sp : Nat → Int32} {vis : Int32} {day : Int32} {z : Int32} {v1 : Int32} {r0 : Int32} (hf : f0_leastCell tr v1 = some r0) : Met l yX0_leastCell (wU yX0_leastCell cX0_leastCell 3 (some .int)) ({ frames := 1, cells := 0, slots := 0, locals := 13 }) (va_Pc [.ref (ad 0), .int v1] (PreW (XS ta adK adV) D (tyC cI cB cG cS) (wP cI cG ad hp st tr sp vis day z) sz)) (QcI D (tyC cI cB cG cS) (wP cI cG ad hp st tr sp vis day z) (va_A (wP cI cG ad hp st tr sp vis day z) sz) r0) 0 0 (va_A (wP cI cG ad hp st tr sp vis day z) sz) := by
  refine startW hX (own := RX0) (by decide) rfl (Nat.le_of_ble_eq_true rfl) (fun p e s m args below meth c ls C0 G hl => ?_)
  exact b0_leastCell_0 C0 G hl hf
/-! 0_greatestCell -/
theorem dX0_greatestCell_0 : decode cX0_greatestCell 0 = .ok (.aload_n 0, 1) := by decide +kernel
theorem dX0_greatestCell_1 : decode cX0_greatestCell 1 = .ok (.getfield 20, 3) := by decide +kernel
theorem dX0_greatestCell_4 : decode cX0_greatestCell 4 = .ok (.iconst 1, 1) := by decide +kernel
theorem dX0_greatestCell_5 : decode cX0_greatestCell 5 = .ok (.aaload, 1) := by decide +kernel
theorem dX0_greatestCell_6 : decode cX0_greatestCell 6 = .ok (.iload_n 1, 1) := by decide +kernel
theorem dX0_greatestCell_7 : decode cX0_greatestCell 7 = .ok (.iaload, 1) := by decide +kernel
theorem dX0_greatestCell_8 : decode cX0_greatestCell 8 = .ok (.istore_n 2, 1) := by decide +kernel
theorem dX0_greatestCell_9 : decode cX0_greatestCell 9 = .ok (.aload_n 0, 1) := by decide +kernel
theorem dX0_greatestCell_10 : decode cX0_greatestCell 10 = .ok (.getfield 20, 3) := by decide +kernel
theorem dX0_greatestCell_13 : decode cX0_greatestCell 13 = .ok (.iconst 0, 1) := by decide +kernel
theorem dX0_greatestCell_14 : decode cX0_greatestCell 14 = .ok (.aaload, 1) := by decide +kernel
theorem dX0_greatestCell_15 : decode cX0_greatestCell 15 = .ok (.iload_n 1, 1) := by decide +kernel
theorem dX0_greatestCell_16 : decode cX0_greatestCell 16 = .ok (.iaload, 1) := by decide +kernel
theorem dX0_greatestCell_17 : decode cX0_greatestCell 17 = .ok (.tableswitch 46 2 6 #[35, 46, 46, 35, 37], 35) := by decide +kernel
theorem dX0_greatestCell_52 : decode cX0_greatestCell 52 = .ok (.iload_n 2, 1) := by decide +kernel
theorem dX0_greatestCell_53 : decode cX0_greatestCell 53 = .ok (.ireturn, 1) := by decide +kernel
theorem dX0_greatestCell_54 : decode cX0_greatestCell 54 = .ok (.bipush 15, 2) := by decide +kernel
theorem dX0_greatestCell_56 : decode cX0_greatestCell 56 = .ok (.iload_n 2, 1) := by decide +kernel
theorem dX0_greatestCell_57 : decode cX0_greatestCell 57 = .ok (.iconst 1, 1) := by decide +kernel
theorem dX0_greatestCell_58 : decode cX0_greatestCell 58 = .ok (.iadd, 1) := by decide +kernel
theorem dX0_greatestCell_59 : decode cX0_greatestCell 59 = .ok (.invokestatic 58, 3) := by decide +kernel
theorem dX0_greatestCell_62 : decode cX0_greatestCell 62 = .ok (.ireturn, 1) := by decide +kernel
theorem dX0_greatestCell_63 : decode cX0_greatestCell 63 = .ok (.bipush 15, 2) := by decide +kernel
theorem dX0_greatestCell_65 : decode cX0_greatestCell 65 = .ok (.iload_n 2, 1) := by decide +kernel
theorem dX0_greatestCell_66 : decode cX0_greatestCell 66 = .ok (.aload_n 0, 1) := by decide +kernel
theorem dX0_greatestCell_67 : decode cX0_greatestCell 67 = .ok (.getfield 20, 3) := by decide +kernel
theorem dX0_greatestCell_70 : decode cX0_greatestCell 70 = .ok (.iconst 2, 1) := by decide +kernel
theorem dX0_greatestCell_71 : decode cX0_greatestCell 71 = .ok (.aaload, 1) := by decide +kernel
theorem dX0_greatestCell_72 : decode cX0_greatestCell 72 = .ok (.iload_n 1, 1) := by decide +kernel
theorem dX0_greatestCell_73 : decode cX0_greatestCell 73 = .ok (.iaload, 1) := by decide +kernel
theorem dX0_greatestCell_74 : decode cX0_greatestCell 74 = .ok (.iadd, 1) := by decide +kernel
theorem dX0_greatestCell_75 : decode cX0_greatestCell 75 = .ok (.iconst 1, 1) := by decide +kernel
theorem dX0_greatestCell_76 : decode cX0_greatestCell 76 = .ok (.isub, 1) := by decide +kernel
theorem dX0_greatestCell_77 : decode cX0_greatestCell 77 = .ok (.invokestatic 58, 3) := by decide +kernel
theorem dX0_greatestCell_80 : decode cX0_greatestCell 80 = .ok (.ireturn, 1) := by decide +kernel
def j0_greatestCell_63  (tr : Nat → Nat → Int32) (v1 : Int32) (v2 : Int32) : Option (Int32) :=
  gd (inb v1 8) (
  some (jmin (15 : Int32) ((v2 + ((tr 2) v1.toNatClampNeg)) - (1 : Int32))))
def f0_greatestCell (tr : Nat → Nat → Int32) (v1 : Int32) : Option (Int32) :=
  gd (inb v1 8) (
  gd (inb v1 8) (
  if ((tr 0) v1.toNatClampNeg) = (2 : Int32) then (
    some ((tr 1) v1.toNatClampNeg))
  else
  if ((tr 0) v1.toNatClampNeg) = (5 : Int32) then (
    some ((tr 1) v1.toNatClampNeg))
  else
  if ((tr 0) v1.toNatClampNeg) = (6 : Int32) then (
    some (jmin (15 : Int32) (((tr 1) v1.toNatClampNeg) + (1 : Int32))))
  else
  j0_greatestCell_63 tr v1 ((tr 1) v1.toNatClampNeg)))
set_option maxHeartbeats 4000000 in
set_option maxRecDepth 100000 in
theorem b0_greatestCell_63 {ta adK adV : Nat → Nat} {p : Program} {l : Launch} {e : Env} {s : State} {m : MethodId} {args : Array Value} {below : List Frame} {meth : Method} {c : Code} {D : va_G} {cI cB cG cS : ClassId} {ad : Nat → Nat} {A : Nat → Prop} {hp : Nat → Int32} {st : Nat → Int32} {tr : Nat → Nat → Int32} {sp : Nat → Int32} {vis : Int32} {day : Int32} {z : Int32} {r0 : Int32} (C0 : CX (XS ta adK adV) p s m args meth c cX0_greatestCell 3 (some .int) RX0 A) : ∀ {v1 : Int32} {v2 : Int32} {H : Heap} {locs : List Loc} {ls : Array Slot}, GX (XS ta adK adV) D (tyC cI cB cG cS) A s (wP cI cG ad hp st tr sp vis day z) H locs → lv_has ls 3 [(0, .ref (ad 0)), (1, .int v1), (2, .int v2)] → j0_greatestCell_63  tr v1 v2 = some r0 → W p l e ({ frames := 1, cells := 0, slots := 0, locals := 13 }) s m args below meth c H locs 0 0 (MQ below (QcI D (tyC cI cB cG cS) (wP cI cG ad hp st tr sp vis day z) A r0) args s 0 0 A) (F0 m 63 ls []) := by
  have hx := C0.1
  have hb := C0.2.1
  have hown := C0.2.2.2.2.1
  have hts := C0.2.2.2.2.2.1
  have hX := C0.2.2.2.2.2.2.2.2
  intro v1 v2 H locs ls G hl hf
  unfold j0_greatestCell_63 at hf
  refine lv_bipush (v := (15 : Int32)) hx hb dX0_greatestCell_63 (by decide) ?_
  refine lv_iload_n hx hb dX0_greatestCell_65 rfl (lv_at hl 2 rfl) ?_
  refine lv_aload_n hx hb dX0_greatestCell_66 rfl (lv_at hl 0 rfl) ?_
  refine s_get (C := RX0) (T := TX0) C0 G i_X0 0 2 rfl rfl (by decide) q86 rfl dX0_greatestCell_67 ?_
  refine lv_iconst (v := (2 : Int32)) hx hb dX0_greatestCell_70 (by decide) ?_
  refine s_aldg (k := 2) (b := ad 6) C0 G 3 2 rfl rfl (vin (by decide)) (by decide) rfl dX0_greatestCell_71 ?_
  refine lv_iload_n hx hb dX0_greatestCell_72 rfl (lv_at hl 1 rfl) ?_
  obtain ⟨hi6, hf⟩ := gd_s hf
  refine s_iald (k := v1.toNatClampNeg) C0 G 6 0 rfl rfl (vin hi6) rfl dX0_greatestCell_73 ?_
  refine lv_iadd hx hb dX0_greatestCell_74 ?_
  refine lv_iconst (v := (1 : Int32)) hx hb dX0_greatestCell_75 (by decide) ?_
  refine lv_isub hx hb dX0_greatestCell_76 ?_
  refine s_min C0 hl.1 q229 ⟨Nat.le_of_ble_eq_true rfl, Nat.le_of_ble_eq_true rfl⟩ dX0_greatestCell_77 ?_
  obtain rfl := inj1 hf
  exact ret_i C0 G dX0_greatestCell_80
set_option maxHeartbeats 4000000 in
set_option maxRecDepth 100000 in
theorem b0_greatestCell_0 {ta adK adV : Nat → Nat} {p : Program} {l : Launch} {e : Env} {s : State} {m : MethodId} {args : Array Value} {below : List Frame} {meth : Method} {c : Code} {D : va_G} {cI cB cG cS : ClassId} {ad : Nat → Nat} {A : Nat → Prop} {hp : Nat → Int32} {st : Nat → Int32} {tr : Nat → Nat → Int32} {sp : Nat → Int32} {vis : Int32} {day : Int32} {z : Int32} {r0 : Int32} (C0 : CX (XS ta adK adV) p s m args meth c cX0_greatestCell 3 (some .int) RX0 A) : ∀ {v1 : Int32} {H : Heap} {locs : List Loc} {ls : Array Slot}, GX (XS ta adK adV) D (tyC cI cB cG cS) A s (wP cI cG ad hp st tr sp vis day z) H locs → lv_has ls 3 [(0, .ref (ad 0)), (1, .int v1)] → f0_greatestCell tr v1 = some r0 → W p l e ({ frames := 1, cells := 0, slots := 0, locals := 13 }) s m args below meth c H locs 0 0 (MQ below (QcI D (tyC cI cB cG cS) (wP cI cG ad hp st tr sp vis day z) A r0) args s 0 0 A) (F0 m 0 ls []) := by
  have hx := C0.1
  have hb := C0.2.1
  have hown := C0.2.2.2.2.1
  have hts := C0.2.2.2.2.2.1
  have hX := C0.2.2.2.2.2.2.2.2
  intro v1 H locs ls G hl hf
  unfold f0_greatestCell at hf
  refine lv_aload_n hx hb dX0_greatestCell_0 rfl (lv_at hl 0 rfl) ?_
  refine s_get (C := RX0) (T := TX0) C0 G i_X0 0 2 rfl rfl (by decide) q86 rfl dX0_greatestCell_1 ?_
  refine lv_iconst (v := (1 : Int32)) hx hb dX0_greatestCell_4 (by decide) ?_
  refine s_aldg (k := 1) (b := ad 5) C0 G 3 2 rfl rfl (vin (by decide)) (by decide) rfl dX0_greatestCell_5 ?_
  refine lv_iload_n hx hb dX0_greatestCell_6 rfl (lv_at hl 1 rfl) ?_
  obtain ⟨hi1, hf⟩ := gd_s hf
  refine s_iald (k := v1.toNatClampNeg) C0 G 5 0 rfl rfl (vin hi1) rfl dX0_greatestCell_7 ?_
  refine lv_istore_n (lv' := [(2, .int ((tr 1) v1.toNatClampNeg)), (0, .ref (ad 0)), (1, .int v1)]) hx hb dX0_greatestCell_8 rfl hl (by decide) rfl (fun ls hl => ?_)
  refine lv_aload_n hx hb dX0_greatestCell_9 rfl (lv_at hl 1 rfl) ?_
  refine s_get (C := RX0) (T := TX0) C0 G i_X0 0 2 rfl rfl (by decide) q86 rfl dX0_greatestCell_10 ?_
  refine lv_iconst (v := (0 : Int32)) hx hb dX0_greatestCell_13 (by decide) ?_
  refine s_aldg (k := 0) (b := ad 4) C0 G 3 2 rfl rfl (vin (by decide)) (by decide) rfl dX0_greatestCell_14 ?_
  refine lv_iload_n hx hb dX0_greatestCell_15 rfl (lv_at hl 2 rfl) ?_
  obtain ⟨hi2, hf⟩ := gd_s hf
  refine s_iald (k := v1.toNatClampNeg) C0 G 4 0 rfl rfl (vin hi2) rfl dX0_greatestCell_16 ?_
  by_cases hs3 : ((tr 0) v1.toNatClampNeg) = (2 : Int32)
  · have hf := itp hs3 hf
    refine lv_tableIn (tgt := 52) hx hb dX0_greatestCell_17 (by rw [hs3]; decide) (by rw [hs3]; decide) (by rw [hs3]; rfl) (by decide) ?_
    refine lv_iload_n hx hb dX0_greatestCell_52 rfl (lv_at hl 0 rfl) ?_
    obtain rfl := inj1 hf
    exact ret_i C0 G dX0_greatestCell_53
  have hf := itn hs3 hf
  by_cases hs4 : ((tr 0) v1.toNatClampNeg) = (5 : Int32)
  · have hf := itp hs4 hf
    refine lv_tableIn (tgt := 52) hx hb dX0_greatestCell_17 (by rw [hs4]; decide) (by rw [hs4]; decide) (by rw [hs4]; rfl) (by decide) ?_
    refine lv_iload_n hx hb dX0_greatestCell_52 rfl (lv_at hl 0 rfl) ?_
    obtain rfl := inj1 hf
    exact ret_i C0 G dX0_greatestCell_53
  have hf := itn hs4 hf
  by_cases hs5 : ((tr 0) v1.toNatClampNeg) = (6 : Int32)
  · have hf := itp hs5 hf
    refine lv_tableIn (tgt := 54) hx hb dX0_greatestCell_17 (by rw [hs5]; decide) (by rw [hs5]; decide) (by rw [hs5]; rfl) (by decide) ?_
    refine lv_bipush (v := (15 : Int32)) hx hb dX0_greatestCell_54 (by decide) ?_
    refine lv_iload_n hx hb dX0_greatestCell_56 rfl (lv_at hl 0 rfl) ?_
    refine lv_iconst (v := (1 : Int32)) hx hb dX0_greatestCell_57 (by decide) ?_
    refine lv_iadd hx hb dX0_greatestCell_58 ?_
    refine s_min C0 hl.1 q229 ⟨Nat.le_of_ble_eq_true rfl, Nat.le_of_ble_eq_true rfl⟩ dX0_greatestCell_59 ?_
    obtain rfl := inj1 hf
    exact ret_i C0 G dX0_greatestCell_62
  have hf := itn hs5 hf
  by_cases hs7 : ((tr 0) v1.toNatClampNeg) = (3 : Int32)
  · refine lv_tableIn (tgt := 63) hx hb dX0_greatestCell_17 (by rw [hs7]; decide) (by rw [hs7]; decide) (by rw [hs7]; rfl) (by decide) ?_
    exact b0_greatestCell_63 C0  G (lv_sub hl [1, 2, 0] rfl) hf
  by_cases hs8 : ((tr 0) v1.toNatClampNeg) = (4 : Int32)
  · refine lv_tableIn (tgt := 63) hx hb dX0_greatestCell_17 (by rw [hs8]; decide) (by rw [hs8]; decide) (by rw [hs8]; rfl) (by decide) ?_
    exact b0_greatestCell_63 C0  G (lv_sub hl [1, 2, 0] rfl) hf
  refine lv_tableOut (tgt := 63) hx hb dX0_greatestCell_17 (by have := lv_neT (a := 2) hs3 (by decide); have := lv_neT (a := 5) hs4 (by decide); have := lv_neT (a := 6) hs5 (by decide); have := lv_neT (a := 3) hs7 (by decide); have := lv_neT (a := 4) hs8 (by decide); omega) (by decide) ?_
  exact b0_greatestCell_63 C0  G (lv_sub hl [1, 2, 0] rfl) hf
theorem o0_greatestCell : okName yX0_greatestCell 1 := ⟨by decide, by decide, by decide +kernel⟩
set_option maxHeartbeats 4000000 in
set_option maxRecDepth 100000 in
theorem c0_greatestCell {ta adK adV : Nat → Nat} (hX : XT (XS ta adK adV)) {l : Launch} {D : va_G} {cI cB cG cS : ClassId} {ad : Nat → Nat} {sz : Nat} {hp : Nat → Int32} {st : Nat → Int32} {tr : Nat → Nat → Int32} {sp : Nat → Int32} {vis : Int32} {day : Int32} {z : Int32} {v1 : Int32} {r0 : Int32} (hf : f0_greatestCell tr v1 = some r0) : Met l yX0_greatestCell (wU yX0_greatestCell cX0_greatestCell 3 (some .int)) ({ frames := 1, cells := 0, slots := 0, locals := 13 }) (va_Pc [.ref (ad 0), .int v1] (PreW (XS ta adK adV) D (tyC cI cB cG cS) (wP cI cG ad hp st tr sp vis day z) sz)) (QcI D (tyC cI cB cG cS) (wP cI cG ad hp st tr sp vis day z) (va_A (wP cI cG ad hp st tr sp vis day z) sz) r0) 0 0 (va_A (wP cI cG ad hp st tr sp vis day z) sz) := by
  refine startW hX (own := RX0) (by decide) rfl (Nat.le_of_ble_eq_true rfl) (fun p e s m args below meth c ls C0 G hl => ?_)
  exact b0_greatestCell_0 C0 G hl hf
/-! 4_within -/
theorem dX4_within_0 : decode cX4_within 0 = .ok (.iload_n 0, 1) := by decide +kernel
theorem dX4_within_1 : decode cX4_within 1 = .ok (.iload_n 1, 1) := by decide +kernel
theorem dX4_within_2 : decode cX4_within 2 = .ok (.if_icmp .lt 12, 3) := by decide +kernel
theorem dX4_within_5 : decode cX4_within 5 = .ok (.iload_n 0, 1) := by decide +kernel
theorem dX4_within_6 : decode cX4_within 6 = .ok (.iload_n 2, 1) := by decide +kernel
theorem dX4_within_7 : decode cX4_within 7 = .ok (.if_icmp .gt 7, 3) := by decide +kernel
theorem dX4_within_10 : decode cX4_within 10 = .ok (.iconst 1, 1) := by decide +kernel
theorem dX4_within_11 : decode cX4_within 11 = .ok (.goto 4, 3) := by decide +kernel
theorem dX4_within_14 : decode cX4_within 14 = .ok (.iconst 0, 1) := by decide +kernel
theorem dX4_within_15 : decode cX4_within 15 = .ok (.ireturn, 1) := by decide +kernel
def f4_within  (v0 : Int32) (v1 : Int32) (v2 : Int32) : Int32 :=
  if v0 < v1 then (
    (0 : Int32))
  else (
    if v2 < v0 then (
      (0 : Int32))
    else (
      (1 : Int32)))
set_option maxHeartbeats 4000000 in
set_option maxRecDepth 100000 in
theorem b4_within_0 {ta adK adV : Nat → Nat} {p : Program} {l : Launch} {e : Env} {s : State} {m : MethodId} {args : Array Value} {below : List Frame} {meth : Method} {c : Code} {D : va_G} {tys : List (ClassId × FieldType)} {w0 : va_W} {A : Nat → Prop}  {r0 : Int32} (C0 : CX (XS ta adK adV) p s m args meth c cX4_within 3 (some .boolean) RX4 A) : ∀ {v0 : Int32} {v1 : Int32} {v2 : Int32} {H : Heap} {locs : List Loc} {ls : Array Slot}, GX (XS ta adK adV) D tys A s w0 H locs → lv_has ls 3 [(0, .int v0), (1, .int v1), (2, .int v2)] → f4_within v0 v1 v2 = r0 → W p l e ({ frames := 0, cells := 0, slots := 0, locals := 0 }) s m args below meth c H locs 0 0 (MQ below (QcI D tys w0 A r0) args s 0 0 A) (F0 m 0 ls []) := by
  have hx := C0.1
  have hb := C0.2.1
  have hown := C0.2.2.2.2.1
  have hts := C0.2.2.2.2.2.1
  have hX := C0.2.2.2.2.2.2.2.2
  intro v0 v1 v2 H locs ls G hl hf
  unfold f4_within at hf
  refine lv_iload_n hx hb dX4_within_0 rfl (lv_at hl 0 rfl) ?_
  refine lv_iload_n hx hb dX4_within_1 rfl (lv_at hl 1 rfl) ?_
  refine lv_icmp_lt (tgt := 14) hx hb dX4_within_2 (by decide) (fun hc1 => ?_) (fun hc1 => ?_)
  · have hf := itp hc1 hf
    refine lv_iconst (v := (0 : Int32)) hx hb dX4_within_14 (by decide) ?_
    obtain rfl := tnj1 hf
    exact ret_z C0 G rfl dX4_within_15
  · have hf := itn hc1 hf
    refine lv_iload_n hx hb dX4_within_5 rfl (lv_at hl 0 rfl) ?_
    refine lv_iload_n hx hb dX4_within_6 rfl (lv_at hl 2 rfl) ?_
    refine lv_icmp_gt (tgt := 14) hx hb dX4_within_7 (by decide) (fun hc2 => ?_) (fun hc2 => ?_)
    · have hf := itp hc2 hf
      refine lv_iconst (v := (0 : Int32)) hx hb dX4_within_14 (by decide) ?_
      obtain rfl := tnj1 hf
      exact ret_z C0 G rfl dX4_within_15
    · have hf := itn hc2 hf
      refine lv_iconst (v := (1 : Int32)) hx hb dX4_within_10 (by decide) ?_
      refine lv_goto (tgt := 15) hx hb dX4_within_11 (by decide) ?_
      obtain rfl := tnj1 hf
      exact ret_z C0 G rfl dX4_within_15
theorem z4_within  (v0 : Int32) (v1 : Int32) (v2 : Int32) : b01 (f4_within v0 v1 v2) = true := by
  unfold f4_within
  (repeat' split) <;> first | rfl
theorem o4_within : okName yX4_within 3 := ⟨by decide, by decide, by decide +kernel⟩
set_option maxHeartbeats 4000000 in
set_option maxRecDepth 100000 in
theorem c4_within {ta adK adV : Nat → Nat} (hX : XT (XS ta adK adV)) {l : Launch} {D : va_G} {tys : List (ClassId × FieldType)} {w0 : va_W} {sz : Nat}  {v0 : Int32} {v1 : Int32} {v2 : Int32} {r0 : Int32} (hf : f4_within v0 v1 v2 = r0) : Met l yX4_within (wU yX4_within cX4_within 3 (some .boolean)) ({ frames := 0, cells := 0, slots := 0, locals := 0 }) (va_Pc [.int v0, .int v1, .int v2] (PreW (XS ta adK adV) D tys w0 sz)) (QcI D tys w0 (va_A w0 sz) r0) 0 0 (va_A w0 sz) := by
  refine startW hX (own := RX4) (by decide) rfl (Nat.le_of_ble_eq_true rfl) (fun p e s m args below meth c ls C0 G hl => ?_)
  exact b4_within_0 C0 G hl hf
/-! 0_visitorsAt -/
theorem dX0_visitorsAt_0 : decode cX0_visitorsAt 0 = .ok (.iconst 0, 1) := by decide +kernel
theorem dX0_visitorsAt_1 : decode cX0_visitorsAt 1 = .ok (.istore_n 2, 1) := by decide +kernel
theorem dX0_visitorsAt_2 : decode cX0_visitorsAt 2 = .ok (.iconst 0, 1) := by decide +kernel
theorem dX0_visitorsAt_3 : decode cX0_visitorsAt 3 = .ok (.istore_n 3, 1) := by decide +kernel
theorem dX0_visitorsAt_4 : decode cX0_visitorsAt 4 = .ok (.iload_n 3, 1) := by decide +kernel
theorem dX0_visitorsAt_5 : decode cX0_visitorsAt 5 = .ok (.aload_n 0, 1) := by decide +kernel
theorem dX0_visitorsAt_6 : decode cX0_visitorsAt 6 = .ok (.getfield 39, 3) := by decide +kernel
theorem dX0_visitorsAt_9 : decode cX0_visitorsAt 9 = .ok (.if_icmp .ge 32, 3) := by decide +kernel
theorem dX0_visitorsAt_12 : decode cX0_visitorsAt 12 = .ok (.iload_n 1, 1) := by decide +kernel
theorem dX0_visitorsAt_13 : decode cX0_visitorsAt 13 = .ok (.aload_n 0, 1) := by decide +kernel
theorem dX0_visitorsAt_14 : decode cX0_visitorsAt 14 = .ok (.iload_n 3, 1) := by decide +kernel
theorem dX0_visitorsAt_15 : decode cX0_visitorsAt 15 = .ok (.invokevirtual 65, 3) := by decide +kernel
theorem dX0_visitorsAt_18 : decode cX0_visitorsAt 18 = .ok (.aload_n 0, 1) := by decide +kernel
theorem dX0_visitorsAt_19 : decode cX0_visitorsAt 19 = .ok (.iload_n 3, 1) := by decide +kernel
theorem dX0_visitorsAt_20 : decode cX0_visitorsAt 20 = .ok (.invokevirtual 61, 3) := by decide +kernel
theorem dX0_visitorsAt_23 : decode cX0_visitorsAt 23 = .ok (.invokestatic 109, 3) := by decide +kernel
theorem dX0_visitorsAt_26 : decode cX0_visitorsAt 26 = .ok (.ifCond .eq 9, 3) := by decide +kernel
theorem dX0_visitorsAt_29 : decode cX0_visitorsAt 29 = .ok (.iload_n 2, 1) := by decide +kernel
theorem dX0_visitorsAt_30 : decode cX0_visitorsAt 30 = .ok (.iconst 1, 1) := by decide +kernel
theorem dX0_visitorsAt_31 : decode cX0_visitorsAt 31 = .ok (.iload_n 3, 1) := by decide +kernel
theorem dX0_visitorsAt_32 : decode cX0_visitorsAt 32 = .ok (.ishl, 1) := by decide +kernel
theorem dX0_visitorsAt_33 : decode cX0_visitorsAt 33 = .ok (.ior, 1) := by decide +kernel
theorem dX0_visitorsAt_34 : decode cX0_visitorsAt 34 = .ok (.istore_n 2, 1) := by decide +kernel
theorem dX0_visitorsAt_35 : decode cX0_visitorsAt 35 = .ok (.iinc 3 1, 3) := by decide +kernel
theorem dX0_visitorsAt_38 : decode cX0_visitorsAt 38 = .ok (.goto (-34), 3) := by decide +kernel
theorem dX0_visitorsAt_41 : decode cX0_visitorsAt 41 = .ok (.iload_n 2, 1) := by decide +kernel
theorem dX0_visitorsAt_42 : decode cX0_visitorsAt 42 = .ok (.ireturn, 1) := by decide +kernel
def j0_visitorsAt_35 (k4 : (Nat → Nat → Int32) → Int32 → Int32 → Int32 → Int32 → Option (Int32)) (tr : Nat → Nat → Int32) (vis : Int32) (v1 : Int32) (v2 : Int32) (v3 : Int32) : Option (Int32) :=
  k4 tr vis v1 v2 (v3 + (1 : Int32))
def l0_visitorsAt_4  : Nat → (Nat → Nat → Int32) → Int32 → Int32 → Int32 → Int32 → Option (Int32)
  | 0, _, _, _, _, _ => none
  | n + 1, tr, vis, v1, v2, v3 =>
    if vis ≤ v3 then (
      some v2)
    else (
      ob1 (f0_leastCell tr v3) (fun r2 =>
      ob1 (f0_greatestCell tr v3) (fun r4 =>
      if (f4_within v1 r2 r4) = (0 : Int32) then (
        j0_visitorsAt_35 (l0_visitorsAt_4 n) tr vis v1 v2 v3)
      else (
        j0_visitorsAt_35 (l0_visitorsAt_4 n) tr vis v1 (v2 ||| ((1 : Int32) <<< (v3 &&& 31))) v3))))
def f0_visitorsAt (tr : Nat → Nat → Int32) (vis : Int32) (v1 : Int32) : Option (Int32) :=
  l0_visitorsAt_4 1000 tr vis v1 (0 : Int32) (0 : Int32)
set_option maxHeartbeats 4000000 in
set_option maxRecDepth 100000 in
theorem b0_visitorsAt_35 {ta adK adV : Nat → Nat} {p : Program} {l : Launch} {e : Env} {s : State} {m : MethodId} {args : Array Value} {below : List Frame} {meth : Method} {c : Code} {D : va_G} {cI cB cG cS : ClassId} {ad : Nat → Nat} {A : Nat → Prop} {hp : Nat → Int32} {st : Nat → Int32} {tr : Nat → Nat → Int32} {sp : Nat → Int32} {vis : Int32} {day : Int32} {z : Int32} {r0 : Int32} (C0 : CX (XS ta adK adV) p s m args meth c cX0_visitorsAt 4 (some .int) RX0 A) {k4 : (Nat → Nat → Int32) → Int32 → Int32 → Int32 → Int32 → Option (Int32)} (hk4 : ∀ {v1 : Int32} {v2 : Int32} {v3 : Int32} {H : Heap} {locs : List Loc} {ls : Array Slot}, GX (XS ta adK adV) D (tyC cI cB cG cS) A s (wP cI cG ad hp st tr sp vis day z) H locs → lv_has ls 4 [(0, .ref (ad 0)), (1, .int v1), (2, .int v2), (3, .int v3)] → k4 tr vis v1 v2 v3 = some r0 → W p l e ({ frames := 2, cells := 0, slots := 0, locals := 35 }) s m args below meth c H locs 0 0 (MQ below (QcI D (tyC cI cB cG cS) (wP cI cG ad hp st tr sp vis day z) A r0) args s 0 0 A) (F0 m 4 ls [])) : ∀ {v1 : Int32} {v2 : Int32} {v3 : Int32} {H : Heap} {locs : List Loc} {ls : Array Slot}, GX (XS ta adK adV) D (tyC cI cB cG cS) A s (wP cI cG ad hp st tr sp vis day z) H locs → lv_has ls 4 [(0, .ref (ad 0)), (1, .int v1), (2, .int v2), (3, .int v3)] → j0_visitorsAt_35 k4 tr vis v1 v2 v3 = some r0 → W p l e ({ frames := 2, cells := 0, slots := 0, locals := 35 }) s m args below meth c H locs 0 0 (MQ below (QcI D (tyC cI cB cG cS) (wP cI cG ad hp st tr sp vis day z) A r0) args s 0 0 A) (F0 m 35 ls []) := by
  have hx := C0.1
  have hb := C0.2.1
  have hown := C0.2.2.2.2.1
  have hts := C0.2.2.2.2.2.1
  have hX := C0.2.2.2.2.2.2.2.2
  intro v1 v2 v3 H locs ls G hl hf
  unfold j0_visitorsAt_35 at hf
  refine lv_iinc (v := (v3 + (1 : Int32))) (lv' := [(3, .int (v3 + (1 : Int32))), (0, .ref (ad 0)), (1, .int v1), (2, .int v2)]) hx hb dX0_visitorsAt_35 hl (k := 3) rfl rfl (by decide) rfl (fun ls hl => ?_)
  refine lv_goto (tgt := 4) hx hb dX0_visitorsAt_38 (by decide) ?_
  exact hk4 G (lv_sub hl [1, 2, 3, 0] rfl) hf
set_option maxHeartbeats 4000000 in
set_option maxRecDepth 100000 in
theorem b0_visitorsAt_4 {ta adK adV : Nat → Nat} {p : Program} {l : Launch} {e : Env} {s : State} {m : MethodId} {args : Array Value} {below : List Frame} {meth : Method} {c : Code} {D : va_G} {cI cB cG cS : ClassId} {ad : Nat → Nat} {A : Nat → Prop} {hp : Nat → Int32} {st : Nat → Int32} {tr : Nat → Nat → Int32} {sp : Nat → Int32} {vis : Int32} {day : Int32} {z : Int32} {r0 : Int32} (C0 : CX (XS ta adK adV) p s m args meth c cX0_visitorsAt 4 (some .int) RX0 A) : ∀ (n : Nat) {v1 : Int32} {v2 : Int32} {v3 : Int32} {H : Heap} {locs : List Loc} {ls : Array Slot}, GX (XS ta adK adV) D (tyC cI cB cG cS) A s (wP cI cG ad hp st tr sp vis day z) H locs → lv_has ls 4 [(0, .ref (ad 0)), (1, .int v1), (2, .int v2), (3, .int v3)] → l0_visitorsAt_4  n tr vis v1 v2 v3 = some r0 → W p l e ({ frames := 2, cells := 0, slots := 0, locals := 35 }) s m args below meth c H locs 0 0 (MQ below (QcI D (tyC cI cB cG cS) (wP cI cG ad hp st tr sp vis day z) A r0) args s 0 0 A) (F0 m 4 ls []) := by
  have hx := C0.1
  have hb := C0.2.1
  have hown := C0.2.2.2.2.1
  have hts := C0.2.2.2.2.2.1
  have hX := C0.2.2.2.2.2.2.2.2
  intro n
  induction n with
  | zero =>
    intro _ _ _ _ _ _ G hl hf
    cases hf
  | succ n ih =>
    intro v1 v2 v3 H locs ls G hl hf
    rw [l0_visitorsAt_4] at hf
    refine lv_iload_n hx hb dX0_visitorsAt_4 rfl (lv_at hl 3 rfl) ?_
    refine lv_aload_n hx hb dX0_visitorsAt_5 rfl (lv_at hl 0 rfl) ?_
    refine s_get (C := RX0) (T := TX0) C0 G i_X0 0 4 rfl rfl (by decide) q91 rfl dX0_visitorsAt_6 ?_
    refine lv_icmp_ge (tgt := 41) hx hb dX0_visitorsAt_9 (by decide) (fun hc1 => ?_) (fun hc1 => ?_)
    · have hf := itp hc1 hf
      refine lv_iload_n hx hb dX0_visitorsAt_41 rfl (lv_at hl 2 rfl) ?_
      obtain rfl := inj1 hf
      exact ret_i C0 G dX0_visitorsAt_42
    · have hf := itn hc1 hf
      refine lv_iload_n hx hb dX0_visitorsAt_12 rfl (lv_at hl 1 rfl) ?_
      refine lv_aload_n hx hb dX0_visitorsAt_13 rfl (lv_at hl 0 rfl) ?_
      refine lv_iload_n hx hb dX0_visitorsAt_14 rfl (lv_at hl 3 rfl) ?_
      obtain ⟨r2, hc3, hf⟩ := ob1_s hf
      refine go_i C0 G (runV_of (n := 1) (q0 := 0) (As := [.int v3]) (rest := [.int v1]) C0 G (c0_leastCell hX hc3) q221 q50 q218 q219 q220 o0_leastCell ⟨rfl, rfl⟩ ⟨Nat.le_of_ble_eq_true rfl, Nat.le_of_ble_eq_true rfl⟩ rfl rfl rfl hl.1 rfl (Nat.le_of_ble_eq_true rfl) dX0_visitorsAt_15) (fun H locs G => ?_)
      refine lv_aload_n hx hb dX0_visitorsAt_18 rfl (lv_at hl 0 rfl) ?_
      refine lv_iload_n hx hb dX0_visitorsAt_19 rfl (lv_at hl 3 rfl) ?_
      obtain ⟨r4, hc5, hf⟩ := ob1_s hf
      refine go_i C0 G (runV_of (n := 1) (q0 := 0) (As := [.int v3]) (rest := [.int r2, .int v1]) C0 G (c0_greatestCell hX hc5) q228 q50 q225 q226 q227 o0_greatestCell ⟨rfl, rfl⟩ ⟨Nat.le_of_ble_eq_true rfl, Nat.le_of_ble_eq_true rfl⟩ rfl rfl rfl hl.1 rfl (Nat.le_of_ble_eq_true rfl) dX0_visitorsAt_20) (fun H locs G => ?_)
      refine go_i C0 G (runSN_of (n := 3) (As := [.int v1, .int r2, .int r4]) (rest := []) C0 G (c4_within hX rfl) q204 q49 (xn_232 G.2.2.2.2.2.1) q203 o4_within ⟨rfl, rfl⟩ ⟨Nat.le_of_ble_eq_true rfl, Nat.le_of_ble_eq_true rfl⟩ rfl hl.1 rfl (Nat.le_of_ble_eq_true rfl) dX0_visitorsAt_23) (fun H locs G => ?_)
      refine lv_if_eq (tgt := 35) hx hb dX0_visitorsAt_26 (by decide) (fun hc6 => ?_) (fun hc6 => ?_)
      · have hf := itp hc6 hf
        exact b0_visitorsAt_35 C0 ih G (lv_sub hl [0, 1, 2, 3] rfl) hf
      · have hf := itn hc6 hf
        refine lv_iload_n hx hb dX0_visitorsAt_29 rfl (lv_at hl 2 rfl) ?_
        refine lv_iconst (v := (1 : Int32)) hx hb dX0_visitorsAt_30 (by decide) ?_
        refine lv_iload_n hx hb dX0_visitorsAt_31 rfl (lv_at hl 3 rfl) ?_
        refine lv_ishl hx hb dX0_visitorsAt_32 ?_
        refine lv_ior hx hb dX0_visitorsAt_33 ?_
        refine lv_istore_n (lv' := [(2, .int (v2 ||| ((1 : Int32) <<< (v3 &&& 31)))), (0, .ref (ad 0)), (1, .int v1), (3, .int v3)]) hx hb dX0_visitorsAt_34 rfl hl (by decide) rfl (fun ls hl => ?_)
        exact b0_visitorsAt_35 C0 ih G (lv_sub hl [1, 2, 0, 3] rfl) hf
set_option maxHeartbeats 4000000 in
set_option maxRecDepth 100000 in
theorem b0_visitorsAt_0 {ta adK adV : Nat → Nat} {p : Program} {l : Launch} {e : Env} {s : State} {m : MethodId} {args : Array Value} {below : List Frame} {meth : Method} {c : Code} {D : va_G} {cI cB cG cS : ClassId} {ad : Nat → Nat} {A : Nat → Prop} {hp : Nat → Int32} {st : Nat → Int32} {tr : Nat → Nat → Int32} {sp : Nat → Int32} {vis : Int32} {day : Int32} {z : Int32} {r0 : Int32} (C0 : CX (XS ta adK adV) p s m args meth c cX0_visitorsAt 4 (some .int) RX0 A) : ∀ {v1 : Int32} {H : Heap} {locs : List Loc} {ls : Array Slot}, GX (XS ta adK adV) D (tyC cI cB cG cS) A s (wP cI cG ad hp st tr sp vis day z) H locs → lv_has ls 4 [(0, .ref (ad 0)), (1, .int v1)] → f0_visitorsAt tr vis v1 = some r0 → W p l e ({ frames := 2, cells := 0, slots := 0, locals := 35 }) s m args below meth c H locs 0 0 (MQ below (QcI D (tyC cI cB cG cS) (wP cI cG ad hp st tr sp vis day z) A r0) args s 0 0 A) (F0 m 0 ls []) := by
  have hx := C0.1
  have hb := C0.2.1
  have hown := C0.2.2.2.2.1
  have hts := C0.2.2.2.2.2.1
  have hX := C0.2.2.2.2.2.2.2.2
  intro v1 H locs ls G hl hf
  unfold f0_visitorsAt at hf
  refine lv_iconst (v := (0 : Int32)) hx hb dX0_visitorsAt_0 (by decide) ?_
  refine lv_istore_n (lv' := [(2, .int (0 : Int32)), (0, .ref (ad 0)), (1, .int v1)]) hx hb dX0_visitorsAt_1 rfl hl (by decide) rfl (fun ls hl => ?_)
  refine lv_iconst (v := (0 : Int32)) hx hb dX0_visitorsAt_2 (by decide) ?_
  refine lv_istore_n (lv' := [(3, .int (0 : Int32)), (2, .int (0 : Int32)), (0, .ref (ad 0)), (1, .int v1)]) hx hb dX0_visitorsAt_3 rfl hl (by decide) rfl (fun ls hl => ?_)
  exact b0_visitorsAt_4 C0  1000 G (lv_sub hl [2, 3, 1, 0] rfl) hf
theorem o0_visitorsAt : okName yX0_visitorsAt 1 := ⟨by decide, by decide, by decide +kernel⟩
set_option maxHeartbeats 4000000 in
set_option maxRecDepth 100000 in
theorem c0_visitorsAt {ta adK adV : Nat → Nat} (hX : XT (XS ta adK adV)) {l : Launch} {D : va_G} {cI cB cG cS : ClassId} {ad : Nat → Nat} {sz : Nat} {hp : Nat → Int32} {st : Nat → Int32} {tr : Nat → Nat → Int32} {sp : Nat → Int32} {vis : Int32} {day : Int32} {z : Int32} {v1 : Int32} {r0 : Int32} (hf : f0_visitorsAt tr vis v1 = some r0) : Met l yX0_visitorsAt (wU yX0_visitorsAt cX0_visitorsAt 4 (some .int)) ({ frames := 2, cells := 0, slots := 0, locals := 35 }) (va_Pc [.ref (ad 0), .int v1] (PreW (XS ta adK adV) D (tyC cI cB cG cS) (wP cI cG ad hp st tr sp vis day z) sz)) (QcI D (tyC cI cB cG cS) (wP cI cG ad hp st tr sp vis day z) (va_A (wP cI cG ad hp st tr sp vis day z) sz) r0) 0 0 (va_A (wP cI cG ad hp st tr sp vis day z) sz) := by
  refine startW hX (own := RX0) (by decide) rfl (Nat.le_of_ble_eq_true rfl) (fun p e s m args below meth c ls C0 G hl => ?_)
  exact b0_visitorsAt_0 C0 G hl hf
/-! 0_isFull -/
theorem dX0_isFull_0 : decode cX0_isFull 0 = .ok (.aload_n 0, 1) := by decide +kernel
theorem dX0_isFull_1 : decode cX0_isFull 1 = .ok (.getfield 39, 3) := by decide +kernel
theorem dX0_isFull_4 : decode cX0_isFull 4 = .ok (.bipush 8, 2) := by decide +kernel
theorem dX0_isFull_6 : decode cX0_isFull 6 = .ok (.if_icmp .lt 7, 3) := by decide +kernel
theorem dX0_isFull_9 : decode cX0_isFull 9 = .ok (.iconst 1, 1) := by decide +kernel
theorem dX0_isFull_10 : decode cX0_isFull 10 = .ok (.goto 4, 3) := by decide +kernel
theorem dX0_isFull_13 : decode cX0_isFull 13 = .ok (.iconst 0, 1) := by decide +kernel
theorem dX0_isFull_14 : decode cX0_isFull 14 = .ok (.ireturn, 1) := by decide +kernel
def f0_isFull (vis : Int32)  : Int32 :=
  if vis < (8 : Int32) then (
    (0 : Int32))
  else (
    (1 : Int32))
set_option maxHeartbeats 4000000 in
set_option maxRecDepth 100000 in
theorem b0_isFull_0 {ta adK adV : Nat → Nat} {p : Program} {l : Launch} {e : Env} {s : State} {m : MethodId} {args : Array Value} {below : List Frame} {meth : Method} {c : Code} {D : va_G} {cI cB cG cS : ClassId} {ad : Nat → Nat} {A : Nat → Prop} {hp : Nat → Int32} {st : Nat → Int32} {tr : Nat → Nat → Int32} {sp : Nat → Int32} {vis : Int32} {day : Int32} {z : Int32} {r0 : Int32} (C0 : CX (XS ta adK adV) p s m args meth c cX0_isFull 1 (some .boolean) RX0 A) : ∀ {H : Heap} {locs : List Loc} {ls : Array Slot}, GX (XS ta adK adV) D (tyC cI cB cG cS) A s (wP cI cG ad hp st tr sp vis day z) H locs → lv_has ls 1 [(0, .ref (ad 0))] → f0_isFull vis = r0 → W p l e ({ frames := 0, cells := 0, slots := 0, locals := 0 }) s m args below meth c H locs 0 0 (MQ below (QcI D (tyC cI cB cG cS) (wP cI cG ad hp st tr sp vis day z) A r0) args s 0 0 A) (F0 m 0 ls []) := by
  have hx := C0.1
  have hb := C0.2.1
  have hown := C0.2.2.2.2.1
  have hts := C0.2.2.2.2.2.1
  have hX := C0.2.2.2.2.2.2.2.2
  intro H locs ls G hl hf
  unfold f0_isFull at hf
  refine lv_aload_n hx hb dX0_isFull_0 rfl (lv_at hl 0 rfl) ?_
  refine s_get (C := RX0) (T := TX0) C0 G i_X0 0 4 rfl rfl (by decide) q91 rfl dX0_isFull_1 ?_
  refine lv_bipush (v := (8 : Int32)) hx hb dX0_isFull_4 (by decide) ?_
  refine lv_icmp_lt (tgt := 13) hx hb dX0_isFull_6 (by decide) (fun hc1 => ?_) (fun hc1 => ?_)
  · have hf := itp hc1 hf
    refine lv_iconst (v := (0 : Int32)) hx hb dX0_isFull_13 (by decide) ?_
    obtain rfl := tnj1 hf
    exact ret_z C0 G rfl dX0_isFull_14
  · have hf := itn hc1 hf
    refine lv_iconst (v := (1 : Int32)) hx hb dX0_isFull_9 (by decide) ?_
    refine lv_goto (tgt := 14) hx hb dX0_isFull_10 (by decide) ?_
    obtain rfl := tnj1 hf
    exact ret_z C0 G rfl dX0_isFull_14
theorem z0_isFull (vis : Int32)  : b01 (f0_isFull vis) = true := by
  unfold f0_isFull
  (repeat' split) <;> first | rfl
theorem o0_isFull : okName yX0_isFull 0 := ⟨by decide, by decide, by decide +kernel⟩
set_option maxHeartbeats 4000000 in
set_option maxRecDepth 100000 in
theorem c0_isFull {ta adK adV : Nat → Nat} (hX : XT (XS ta adK adV)) {l : Launch} {D : va_G} {cI cB cG cS : ClassId} {ad : Nat → Nat} {sz : Nat} {hp : Nat → Int32} {st : Nat → Int32} {tr : Nat → Nat → Int32} {sp : Nat → Int32} {vis : Int32} {day : Int32} {z : Int32}  {r0 : Int32} (hf : f0_isFull vis = r0) : Met l yX0_isFull (wU yX0_isFull cX0_isFull 1 (some .boolean)) ({ frames := 0, cells := 0, slots := 0, locals := 0 }) (va_Pc [.ref (ad 0)] (PreW (XS ta adK adV) D (tyC cI cB cG cS) (wP cI cG ad hp st tr sp vis day z) sz)) (QcI D (tyC cI cB cG cS) (wP cI cG ad hp st tr sp vis day z) (va_A (wP cI cG ad hp st tr sp vis day z) sz) r0) 0 0 (va_A (wP cI cG ad hp st tr sp vis day z) sz) := by
  refine startW hX (own := RX0) (by decide) rfl (Nat.le_of_ble_eq_true rfl) (fun p e s m args below meth c ls C0 G hl => ?_)
  exact b0_isFull_0 C0 G hl hf
/-! 0_admit -/
theorem dX0_admit_0 : decode cX0_admit 0 = .ok (.aload_n 0, 1) := by decide +kernel
theorem dX0_admit_1 : decode cX0_admit 1 = .ok (.invokevirtual 45, 3) := by decide +kernel
theorem dX0_admit_4 : decode cX0_admit 4 = .ok (.ifCond .eq 5, 3) := by decide +kernel
theorem dX0_admit_7 : decode cX0_admit 7 = .ok (.iconst (-1), 1) := by decide +kernel
theorem dX0_admit_8 : decode cX0_admit 8 = .ok (.ireturn, 1) := by decide +kernel
theorem dX0_admit_9 : decode cX0_admit 9 = .ok (.iconst 0, 1) := by decide +kernel
theorem dX0_admit_10 : decode cX0_admit 10 = .ok (.istore_n 3, 1) := by decide +kernel
theorem dX0_admit_11 : decode cX0_admit 11 = .ok (.iload_n 3, 1) := by decide +kernel
theorem dX0_admit_12 : decode cX0_admit 12 = .ok (.bipush 7, 2) := by decide +kernel
theorem dX0_admit_14 : decode cX0_admit 14 = .ok (.if_icmp .ge 25, 3) := by decide +kernel
theorem dX0_admit_17 : decode cX0_admit 17 = .ok (.aload_n 0, 1) := by decide +kernel
theorem dX0_admit_18 : decode cX0_admit 18 = .ok (.getfield 20, 3) := by decide +kernel
theorem dX0_admit_21 : decode cX0_admit 21 = .ok (.iload_n 3, 1) := by decide +kernel
theorem dX0_admit_22 : decode cX0_admit 22 = .ok (.aaload, 1) := by decide +kernel
theorem dX0_admit_23 : decode cX0_admit 23 = .ok (.aload_n 0, 1) := by decide +kernel
theorem dX0_admit_24 : decode cX0_admit 24 = .ok (.getfield 39, 3) := by decide +kernel
theorem dX0_admit_27 : decode cX0_admit 27 = .ok (.getstatic 49, 3) := by decide +kernel
theorem dX0_admit_30 : decode cX0_admit 30 = .ok (.iload_n 3, 1) := by decide +kernel
theorem dX0_admit_31 : decode cX0_admit 31 = .ok (.iaload, 1) := by decide +kernel
theorem dX0_admit_32 : decode cX0_admit 32 = .ok (.iastore, 1) := by decide +kernel
theorem dX0_admit_33 : decode cX0_admit 33 = .ok (.iinc 3 1, 3) := by decide +kernel
theorem dX0_admit_36 : decode cX0_admit 36 = .ok (.goto (-25), 3) := by decide +kernel
theorem dX0_admit_39 : decode cX0_admit 39 = .ok (.aload_n 0, 1) := by decide +kernel
theorem dX0_admit_40 : decode cX0_admit 40 = .ok (.getfield 20, 3) := by decide +kernel
theorem dX0_admit_43 : decode cX0_admit 43 = .ok (.iconst 0, 1) := by decide +kernel
theorem dX0_admit_44 : decode cX0_admit 44 = .ok (.aaload, 1) := by decide +kernel
theorem dX0_admit_45 : decode cX0_admit 45 = .ok (.aload_n 0, 1) := by decide +kernel
theorem dX0_admit_46 : decode cX0_admit 46 = .ok (.getfield 39, 3) := by decide +kernel
theorem dX0_admit_49 : decode cX0_admit 49 = .ok (.iload_n 1, 1) := by decide +kernel
theorem dX0_admit_50 : decode cX0_admit 50 = .ok (.iastore, 1) := by decide +kernel
theorem dX0_admit_51 : decode cX0_admit 51 = .ok (.aload_n 0, 1) := by decide +kernel
theorem dX0_admit_52 : decode cX0_admit 52 = .ok (.getfield 20, 3) := by decide +kernel
theorem dX0_admit_55 : decode cX0_admit 55 = .ok (.iconst 1, 1) := by decide +kernel
theorem dX0_admit_56 : decode cX0_admit 56 = .ok (.aaload, 1) := by decide +kernel
theorem dX0_admit_57 : decode cX0_admit 57 = .ok (.aload_n 0, 1) := by decide +kernel
theorem dX0_admit_58 : decode cX0_admit 58 = .ok (.getfield 39, 3) := by decide +kernel
theorem dX0_admit_61 : decode cX0_admit 61 = .ok (.iload_n 2, 1) := by decide +kernel
theorem dX0_admit_62 : decode cX0_admit 62 = .ok (.iastore, 1) := by decide +kernel
theorem dX0_admit_63 : decode cX0_admit 63 = .ok (.aload_n 0, 1) := by decide +kernel
theorem dX0_admit_64 : decode cX0_admit 64 = .ok (.dup, 1) := by decide +kernel
theorem dX0_admit_65 : decode cX0_admit 65 = .ok (.getfield 39, 3) := by decide +kernel
theorem dX0_admit_68 : decode cX0_admit 68 = .ok (.iconst 1, 1) := by decide +kernel
theorem dX0_admit_69 : decode cX0_admit 69 = .ok (.iadd, 1) := by decide +kernel
theorem dX0_admit_70 : decode cX0_admit 70 = .ok (.putfield 39, 3) := by decide +kernel
theorem dX0_admit_73 : decode cX0_admit 73 = .ok (.aload_n 0, 1) := by decide +kernel
theorem dX0_admit_74 : decode cX0_admit 74 = .ok (.getfield 39, 3) := by decide +kernel
theorem dX0_admit_77 : decode cX0_admit 77 = .ok (.iconst 1, 1) := by decide +kernel
theorem dX0_admit_78 : decode cX0_admit 78 = .ok (.isub, 1) := by decide +kernel
theorem dX0_admit_79 : decode cX0_admit 79 = .ok (.ireturn, 1) := by decide +kernel
def l0_admit_11  : Nat → (Nat → Nat → Int32) → Int32 → Int32 → Int32 → Int32 → Option (Int32 × (Nat → Nat → Int32) × Int32)
  | 0, _, _, _, _, _ => none
  | n + 1, tr, vis, v1, v2, v3 =>
    if (7 : Int32) ≤ v3 then (
      gd (inb vis 8) (
      gd (inb vis 8) (
      some (((vis + (1 : Int32)) - (1 : Int32)), (upd2 (upd2 tr 0 vis.toNatClampNeg v1) 1 vis.toNatClampNeg v2), (vis + (1 : Int32))))))
    else (
      gd (inb v3 7) (
      gd (inb v3 7) (
      gd (inb vis 8) (
      (l0_admit_11 n) (upd2 tr v3.toNatClampNeg vis.toNatClampNeg (kTF v3.toNatClampNeg)) vis v1 v2 (v3 + (1 : Int32))))))
def f0_admit (tr : Nat → Nat → Int32) (vis : Int32) (v1 : Int32) (v2 : Int32) : Option (Int32 × (Nat → Nat → Int32) × Int32) :=
  if (f0_isFull vis) = (0 : Int32) then (
    l0_admit_11 1000 tr vis v1 v2 (0 : Int32))
  else (
    some ((-1 : Int32), tr, vis))
set_option maxHeartbeats 4000000 in
set_option maxRecDepth 100000 in
theorem b0_admit_11 {ta adK adV : Nat → Nat} {p : Program} {l : Launch} {e : Env} {s : State} {m : MethodId} {args : Array Value} {below : List Frame} {meth : Method} {c : Code} {D : va_G} {cI cB cG cS : ClassId} {ad : Nat → Nat} {A : Nat → Prop} {hp : Nat → Int32} {st : Nat → Int32} {sp : Nat → Int32} {day : Int32} {z : Int32} {r0 : Int32} {o_tr : Nat → Nat → Int32} {o_vis : Int32} (C0 : CX (XS ta adK adV) p s m args meth c cX0_admit 4 (some .int) RX0 A) : ∀ (n : Nat) {tr : Nat → Nat → Int32} {vis : Int32} {v1 : Int32} {v2 : Int32} {v3 : Int32} {H : Heap} {locs : List Loc} {ls : Array Slot}, GX (XS ta adK adV) D (tyC cI cB cG cS) A s (wP cI cG ad hp st tr sp vis day z) H locs → lv_has ls 4 [(0, .ref (ad 0)), (1, .int v1), (2, .int v2), (3, .int v3)] → l0_admit_11  n tr vis v1 v2 v3 = some (r0, o_tr, o_vis) → W p l e ({ frames := 1, cells := 0, slots := 0, locals := 20 }) s m args below meth c H locs 0 0 (MQ below (QcI D (tyC cI cB cG cS) (wP cI cG ad hp st o_tr sp o_vis day z) A r0) args s 0 0 A) (F0 m 11 ls []) := by
  have hx := C0.1
  have hb := C0.2.1
  have hown := C0.2.2.2.2.1
  have hts := C0.2.2.2.2.2.1
  have hX := C0.2.2.2.2.2.2.2.2
  intro n
  induction n with
  | zero =>
    intro _ _ _ _ _ _ _ _ G hl hf
    cases hf
  | succ n ih =>
    intro tr vis v1 v2 v3 H locs ls G hl hf
    rw [l0_admit_11] at hf
    refine lv_iload_n hx hb dX0_admit_11 rfl (lv_at hl 3 rfl) ?_
    refine lv_bipush (v := (7 : Int32)) hx hb dX0_admit_12 (by decide) ?_
    refine lv_icmp_ge (tgt := 39) hx hb dX0_admit_14 (by decide) (fun hc2 => ?_) (fun hc2 => ?_)
    · have hf := itp hc2 hf
      refine lv_aload_n hx hb dX0_admit_39 rfl (lv_at hl 0 rfl) ?_
      refine s_get (C := RX0) (T := TX0) C0 G i_X0 0 2 rfl rfl (by decide) q86 rfl dX0_admit_40 ?_
      refine lv_iconst (v := (0 : Int32)) hx hb dX0_admit_43 (by decide) ?_
      refine s_aldg (k := 0) (b := ad 4) C0 G 3 2 rfl rfl (vin (by decide)) (by decide) rfl dX0_admit_44 ?_
      refine lv_aload_n hx hb dX0_admit_45 rfl (lv_at hl 0 rfl) ?_
      refine s_get (C := RX0) (T := TX0) C0 G i_X0 0 4 rfl rfl (by decide) q91 rfl dX0_admit_46 ?_
      refine lv_iload_n hx hb dX0_admit_49 rfl (lv_at hl 1 rfl) ?_
      obtain ⟨hi3, hf⟩ := gd_s hf
      refine s_iast (k := vis.toNatClampNeg) (w' := (wP cI cG ad hp st (upd2 tr 0 vis.toNatClampNeg v1) sp vis day z)) C0 G 4 0 rfl rfl (vin hi3) rfl rfl dX0_admit_50 (fun H locs G => ?_)
      refine lv_aload_n hx hb dX0_admit_51 rfl (lv_at hl 0 rfl) ?_
      refine s_get (C := RX0) (T := TX0) C0 G i_X0 0 2 rfl rfl (by decide) q86 rfl dX0_admit_52 ?_
      refine lv_iconst (v := (1 : Int32)) hx hb dX0_admit_55 (by decide) ?_
      refine s_aldg (k := 1) (b := ad 5) C0 G 3 2 rfl rfl (vin (by decide)) (by decide) rfl dX0_admit_56 ?_
      refine lv_aload_n hx hb dX0_admit_57 rfl (lv_at hl 0 rfl) ?_
      refine s_get (C := RX0) (T := TX0) C0 G i_X0 0 4 rfl rfl (by decide) q91 rfl dX0_admit_58 ?_
      refine lv_iload_n hx hb dX0_admit_61 rfl (lv_at hl 2 rfl) ?_
      obtain ⟨hi4, hf⟩ := gd_s hf
      refine s_iast (k := vis.toNatClampNeg) (w' := (wP cI cG ad hp st (upd2 (upd2 tr 0 vis.toNatClampNeg v1) 1 vis.toNatClampNeg v2) sp vis day z)) C0 G 5 0 rfl rfl (vin hi4) rfl rfl dX0_admit_62 (fun H locs G => ?_)
      refine lv_aload_n hx hb dX0_admit_63 rfl (lv_at hl 0 rfl) ?_
      refine lv_dup hx hb dX0_admit_64 rfl ?_
      refine s_get (C := RX0) (T := TX0) C0 G i_X0 0 4 rfl rfl (by decide) q91 rfl dX0_admit_65 ?_
      refine lv_iconst (v := (1 : Int32)) hx hb dX0_admit_68 (by decide) ?_
      refine lv_iadd hx hb dX0_admit_69 ?_
      refine s_put (C := RX0) (T := TX0) (w' := (wP cI cG ad hp st (upd2 (upd2 tr 0 vis.toNatClampNeg v1) 1 vis.toNatClampNeg v2) sp (vis + (1 : Int32)) day z)) C0 G i_X0 tyX0 tyX0_ok nmX0 0 4 rfl rfl (by decide) q91 rfl (ty := .int) (by decide +kernel) rfl rfl (Nat.le_of_ble_eq_true rfl) rfl dX0_admit_70 (fun H locs G => ?_)
      refine lv_aload_n hx hb dX0_admit_73 rfl (lv_at hl 0 rfl) ?_
      refine s_get (C := RX0) (T := TX0) C0 G i_X0 0 4 rfl rfl (by decide) q91 rfl dX0_admit_74 ?_
      refine lv_iconst (v := (1 : Int32)) hx hb dX0_admit_77 (by decide) ?_
      refine lv_isub hx hb dX0_admit_78 ?_
      obtain ⟨rfl, rfl, rfl⟩ := inj3 hf
      exact ret_i C0 G dX0_admit_79
    · have hf := itn hc2 hf
      refine lv_aload_n hx hb dX0_admit_17 rfl (lv_at hl 0 rfl) ?_
      refine s_get (C := RX0) (T := TX0) C0 G i_X0 0 2 rfl rfl (by decide) q86 rfl dX0_admit_18 ?_
      refine lv_iload_n hx hb dX0_admit_21 rfl (lv_at hl 3 rfl) ?_
      obtain ⟨hi5, hf⟩ := gd_s hf
      refine s_aldg (k := v3.toNatClampNeg) (b := ad (4 + v3.toNatClampNeg)) C0 G 3 2 rfl rfl (vin hi5) rfl rfl dX0_admit_22 ?_
      refine lv_aload_n hx hb dX0_admit_23 rfl (lv_at hl 0 rfl) ?_
      refine s_get (C := RX0) (T := TX0) C0 G i_X0 0 4 rfl rfl (by decide) q91 rfl dX0_admit_24 ?_
      refine s_getsN C0 G (xa_3 G.2.2.2.2) (xn_252 G.2.2.2.2.2.1) dX0_admit_27 ?_
      refine lv_iload_n hx hb dX0_admit_30 rfl (lv_at hl 3 rfl) ?_
      obtain ⟨hi6, hf⟩ := gd_s hf
      refine s_ti (k := v3.toNatClampNeg) C0 G (xa_3 G.2.2.2.2) (vin hi6) rfl dX0_admit_31 ?_
      obtain ⟨hi7, hf⟩ := gd_s hf
      refine s_iast (k := vis.toNatClampNeg) (w' := (wP cI cG ad hp st (upd2 tr v3.toNatClampNeg vis.toNatClampNeg (kTF v3.toNatClampNeg)) sp vis day z)) C0 G (4 + v3.toNatClampNeg) 0 (wP_row (inb_lt hi5)) rfl (vin hi7) rfl (wP_set (inb_lt hi5)) dX0_admit_32 (fun H locs G => ?_)
      refine lv_iinc (v := (v3 + (1 : Int32))) (lv' := [(3, .int (v3 + (1 : Int32))), (0, .ref (ad 0)), (1, .int v1), (2, .int v2)]) hx hb dX0_admit_33 hl (k := 3) rfl rfl (by decide) rfl (fun ls hl => ?_)
      refine lv_goto (tgt := 11) hx hb dX0_admit_36 (by decide) ?_
      exact ih G (lv_sub hl [1, 2, 3, 0] rfl) hf
set_option maxHeartbeats 4000000 in
set_option maxRecDepth 100000 in
theorem b0_admit_0 {ta adK adV : Nat → Nat} {p : Program} {l : Launch} {e : Env} {s : State} {m : MethodId} {args : Array Value} {below : List Frame} {meth : Method} {c : Code} {D : va_G} {cI cB cG cS : ClassId} {ad : Nat → Nat} {A : Nat → Prop} {hp : Nat → Int32} {st : Nat → Int32} {sp : Nat → Int32} {day : Int32} {z : Int32} {r0 : Int32} {o_tr : Nat → Nat → Int32} {o_vis : Int32} (C0 : CX (XS ta adK adV) p s m args meth c cX0_admit 4 (some .int) RX0 A) : ∀ {tr : Nat → Nat → Int32} {vis : Int32} {v1 : Int32} {v2 : Int32} {H : Heap} {locs : List Loc} {ls : Array Slot}, GX (XS ta adK adV) D (tyC cI cB cG cS) A s (wP cI cG ad hp st tr sp vis day z) H locs → lv_has ls 4 [(0, .ref (ad 0)), (1, .int v1), (2, .int v2)] → f0_admit tr vis v1 v2 = some (r0, o_tr, o_vis) → W p l e ({ frames := 1, cells := 0, slots := 0, locals := 20 }) s m args below meth c H locs 0 0 (MQ below (QcI D (tyC cI cB cG cS) (wP cI cG ad hp st o_tr sp o_vis day z) A r0) args s 0 0 A) (F0 m 0 ls []) := by
  have hx := C0.1
  have hb := C0.2.1
  have hown := C0.2.2.2.2.1
  have hts := C0.2.2.2.2.2.1
  have hX := C0.2.2.2.2.2.2.2.2
  intro tr vis v1 v2 H locs ls G hl hf
  unfold f0_admit at hf
  refine lv_aload_n hx hb dX0_admit_0 rfl (lv_at hl 0 rfl) ?_
  refine go_i C0 G (runV_of (n := 0) (q0 := 0) (As := []) (rest := []) C0 G (c0_isFull hX rfl) q246 q50 q251 q244 q245 o0_isFull ⟨rfl, rfl⟩ ⟨Nat.le_of_ble_eq_true rfl, Nat.le_of_ble_eq_true rfl⟩ rfl rfl rfl hl.1 rfl (Nat.le_of_ble_eq_true rfl) dX0_admit_1) (fun H locs G => ?_)
  refine lv_if_eq (tgt := 9) hx hb dX0_admit_4 (by decide) (fun hc1 => ?_) (fun hc1 => ?_)
  · have hf := itp hc1 hf
    refine lv_iconst (v := (0 : Int32)) hx hb dX0_admit_9 (by decide) ?_
    refine lv_istore_n (lv' := [(3, .int (0 : Int32)), (0, .ref (ad 0)), (1, .int v1), (2, .int v2)]) hx hb dX0_admit_10 rfl hl (by decide) rfl (fun ls hl => ?_)
    exact b0_admit_11 C0  1000 G (lv_sub hl [1, 2, 3, 0] rfl) hf
  · have hf := itn hc1 hf
    refine lv_iconst (v := (-1 : Int32)) hx hb dX0_admit_7 (by decide) ?_
    obtain ⟨rfl, rfl, rfl⟩ := inj3 hf
    exact ret_i C0 G dX0_admit_8
theorem o0_admit : okName yX0_admit 2 := ⟨by decide, by decide, by decide +kernel⟩
set_option maxHeartbeats 4000000 in
set_option maxRecDepth 100000 in
theorem c0_admit {ta adK adV : Nat → Nat} (hX : XT (XS ta adK adV)) {l : Launch} {D : va_G} {cI cB cG cS : ClassId} {ad : Nat → Nat} {sz : Nat} {hp : Nat → Int32} {st : Nat → Int32} {tr : Nat → Nat → Int32} {sp : Nat → Int32} {vis : Int32} {day : Int32} {z : Int32} {v1 : Int32} {v2 : Int32} {r0 : Int32} {o_tr : Nat → Nat → Int32} {o_vis : Int32} (hf : f0_admit tr vis v1 v2 = some (r0, o_tr, o_vis)) : Met l yX0_admit (wU yX0_admit cX0_admit 4 (some .int)) ({ frames := 1, cells := 0, slots := 0, locals := 20 }) (va_Pc [.ref (ad 0), .int v1, .int v2] (PreW (XS ta adK adV) D (tyC cI cB cG cS) (wP cI cG ad hp st tr sp vis day z) sz)) (QcI D (tyC cI cB cG cS) (wP cI cG ad hp st o_tr sp o_vis day z) (va_A (wP cI cG ad hp st tr sp vis day z) sz) r0) 0 0 (va_A (wP cI cG ad hp st tr sp vis day z) sz) := by
  refine startW hX (own := RX0) (by decide) rfl (Nat.le_of_ble_eq_true rfl) (fun p e s m args below meth c ls C0 G hl => ?_)
  exact b0_admit_0 C0 G hl hf
/-! 0_spanOf -/
theorem dX0_spanOf_0 : decode cX0_spanOf 0 = .ok (.iconst 0, 1) := by decide +kernel
theorem dX0_spanOf_1 : decode cX0_spanOf 1 = .ok (.istore_n 2, 1) := by decide +kernel
theorem dX0_spanOf_2 : decode cX0_spanOf 2 = .ok (.aload_n 0, 1) := by decide +kernel
theorem dX0_spanOf_3 : decode cX0_spanOf 3 = .ok (.iload_n 1, 1) := by decide +kernel
theorem dX0_spanOf_4 : decode cX0_spanOf 4 = .ok (.invokevirtual 61, 3) := by decide +kernel
theorem dX0_spanOf_7 : decode cX0_spanOf 7 = .ok (.istore_n 3, 1) := by decide +kernel
theorem dX0_spanOf_8 : decode cX0_spanOf 8 = .ok (.aload_n 0, 1) := by decide +kernel
theorem dX0_spanOf_9 : decode cX0_spanOf 9 = .ok (.iload_n 1, 1) := by decide +kernel
theorem dX0_spanOf_10 : decode cX0_spanOf 10 = .ok (.invokevirtual 65, 3) := by decide +kernel
theorem dX0_spanOf_13 : decode cX0_spanOf 13 = .ok (.istore 4, 2) := by decide +kernel
theorem dX0_spanOf_15 : decode cX0_spanOf 15 = .ok (.iload 4, 2) := by decide +kernel
theorem dX0_spanOf_17 : decode cX0_spanOf 17 = .ok (.iload_n 3, 1) := by decide +kernel
theorem dX0_spanOf_18 : decode cX0_spanOf 18 = .ok (.if_icmp .gt 16, 3) := by decide +kernel
theorem dX0_spanOf_21 : decode cX0_spanOf 21 = .ok (.iload_n 2, 1) := by decide +kernel
theorem dX0_spanOf_22 : decode cX0_spanOf 22 = .ok (.iconst 1, 1) := by decide +kernel
theorem dX0_spanOf_23 : decode cX0_spanOf 23 = .ok (.iload 4, 2) := by decide +kernel
theorem dX0_spanOf_25 : decode cX0_spanOf 25 = .ok (.ishl, 1) := by decide +kernel
theorem dX0_spanOf_26 : decode cX0_spanOf 26 = .ok (.ior, 1) := by decide +kernel
theorem dX0_spanOf_27 : decode cX0_spanOf 27 = .ok (.istore_n 2, 1) := by decide +kernel
theorem dX0_spanOf_28 : decode cX0_spanOf 28 = .ok (.iinc 4 1, 3) := by decide +kernel
theorem dX0_spanOf_31 : decode cX0_spanOf 31 = .ok (.goto (-16), 3) := by decide +kernel
theorem dX0_spanOf_34 : decode cX0_spanOf 34 = .ok (.iload_n 2, 1) := by decide +kernel
theorem dX0_spanOf_35 : decode cX0_spanOf 35 = .ok (.ireturn, 1) := by decide +kernel
def l0_spanOf_15  : Nat → (Nat → Nat → Int32) → Int32 → Int32 → Int32 → Option (Int32)
  | 0, _, _, _, _ => none
  | n + 1, tr, v2, v3, v4 =>
    if v3 < v4 then (
      some v2)
    else (
      (l0_spanOf_15 n) tr (v2 ||| ((1 : Int32) <<< (v4 &&& 31))) v3 (v4 + (1 : Int32)))
def f0_spanOf (tr : Nat → Nat → Int32) (v1 : Int32) : Option (Int32) :=
  ob1 (f0_greatestCell tr v1) (fun r1 =>
  ob1 (f0_leastCell tr v1) (fun r3 =>
  l0_spanOf_15 1000 tr (0 : Int32) r1 r3))
set_option maxHeartbeats 4000000 in
set_option maxRecDepth 100000 in
theorem b0_spanOf_15 {ta adK adV : Nat → Nat} {p : Program} {l : Launch} {e : Env} {s : State} {m : MethodId} {args : Array Value} {below : List Frame} {meth : Method} {c : Code} {D : va_G} {cI cB cG cS : ClassId} {ad : Nat → Nat} {A : Nat → Prop} {hp : Nat → Int32} {st : Nat → Int32} {tr : Nat → Nat → Int32} {sp : Nat → Int32} {vis : Int32} {day : Int32} {z : Int32} {r0 : Int32} (C0 : CX (XS ta adK adV) p s m args meth c cX0_spanOf 5 (some .int) RX0 A) : ∀ (n : Nat) {v2 : Int32} {v3 : Int32} {v4 : Int32} {H : Heap} {locs : List Loc} {ls : Array Slot}, GX (XS ta adK adV) D (tyC cI cB cG cS) A s (wP cI cG ad hp st tr sp vis day z) H locs → lv_has ls 5 [(2, .int v2), (3, .int v3), (4, .int v4)] → l0_spanOf_15  n tr v2 v3 v4 = some r0 → W p l e ({ frames := 2, cells := 0, slots := 0, locals := 35 }) s m args below meth c H locs 0 0 (MQ below (QcI D (tyC cI cB cG cS) (wP cI cG ad hp st tr sp vis day z) A r0) args s 0 0 A) (F0 m 15 ls []) := by
  have hx := C0.1
  have hb := C0.2.1
  have hown := C0.2.2.2.2.1
  have hts := C0.2.2.2.2.2.1
  have hX := C0.2.2.2.2.2.2.2.2
  intro n
  induction n with
  | zero =>
    intro _ _ _ _ _ _ G hl hf
    cases hf
  | succ n ih =>
    intro v2 v3 v4 H locs ls G hl hf
    rw [l0_spanOf_15] at hf
    refine lv_iload hx hb dX0_spanOf_15 (lv_at hl 2 rfl) ?_
    refine lv_iload_n hx hb dX0_spanOf_17 rfl (lv_at hl 1 rfl) ?_
    refine lv_icmp_gt (tgt := 34) hx hb dX0_spanOf_18 (by decide) (fun hc5 => ?_) (fun hc5 => ?_)
    · have hf := itp hc5 hf
      refine lv_iload_n hx hb dX0_spanOf_34 rfl (lv_at hl 0 rfl) ?_
      obtain rfl := inj1 hf
      exact ret_i C0 G dX0_spanOf_35
    · have hf := itn hc5 hf
      refine lv_iload_n hx hb dX0_spanOf_21 rfl (lv_at hl 0 rfl) ?_
      refine lv_iconst (v := (1 : Int32)) hx hb dX0_spanOf_22 (by decide) ?_
      refine lv_iload hx hb dX0_spanOf_23 (lv_at hl 2 rfl) ?_
      refine lv_ishl hx hb dX0_spanOf_25 ?_
      refine lv_ior hx hb dX0_spanOf_26 ?_
      refine lv_istore_n (lv' := [(2, .int (v2 ||| ((1 : Int32) <<< (v4 &&& 31)))), (3, .int v3), (4, .int v4)]) hx hb dX0_spanOf_27 rfl hl (by decide) rfl (fun ls hl => ?_)
      refine lv_iinc (v := (v4 + (1 : Int32))) (lv' := [(4, .int (v4 + (1 : Int32))), (2, .int (v2 ||| ((1 : Int32) <<< (v4 &&& 31)))), (3, .int v3)]) hx hb dX0_spanOf_28 hl (k := 2) rfl rfl (by decide) rfl (fun ls hl => ?_)
      refine lv_goto (tgt := 15) hx hb dX0_spanOf_31 (by decide) ?_
      exact ih G (lv_sub hl [1, 2, 0] rfl) hf
set_option maxHeartbeats 4000000 in
set_option maxRecDepth 100000 in
theorem b0_spanOf_0 {ta adK adV : Nat → Nat} {p : Program} {l : Launch} {e : Env} {s : State} {m : MethodId} {args : Array Value} {below : List Frame} {meth : Method} {c : Code} {D : va_G} {cI cB cG cS : ClassId} {ad : Nat → Nat} {A : Nat → Prop} {hp : Nat → Int32} {st : Nat → Int32} {tr : Nat → Nat → Int32} {sp : Nat → Int32} {vis : Int32} {day : Int32} {z : Int32} {r0 : Int32} (C0 : CX (XS ta adK adV) p s m args meth c cX0_spanOf 5 (some .int) RX0 A) : ∀ {v1 : Int32} {H : Heap} {locs : List Loc} {ls : Array Slot}, GX (XS ta adK adV) D (tyC cI cB cG cS) A s (wP cI cG ad hp st tr sp vis day z) H locs → lv_has ls 5 [(0, .ref (ad 0)), (1, .int v1)] → f0_spanOf tr v1 = some r0 → W p l e ({ frames := 2, cells := 0, slots := 0, locals := 35 }) s m args below meth c H locs 0 0 (MQ below (QcI D (tyC cI cB cG cS) (wP cI cG ad hp st tr sp vis day z) A r0) args s 0 0 A) (F0 m 0 ls []) := by
  have hx := C0.1
  have hb := C0.2.1
  have hown := C0.2.2.2.2.1
  have hts := C0.2.2.2.2.2.1
  have hX := C0.2.2.2.2.2.2.2.2
  intro v1 H locs ls G hl hf
  unfold f0_spanOf at hf
  refine lv_iconst (v := (0 : Int32)) hx hb dX0_spanOf_0 (by decide) ?_
  refine lv_istore_n (lv' := [(2, .int (0 : Int32)), (0, .ref (ad 0)), (1, .int v1)]) hx hb dX0_spanOf_1 rfl hl (by decide) rfl (fun ls hl => ?_)
  refine lv_aload_n hx hb dX0_spanOf_2 rfl (lv_at hl 1 rfl) ?_
  refine lv_iload_n hx hb dX0_spanOf_3 rfl (lv_at hl 2 rfl) ?_
  obtain ⟨r1, hc2, hf⟩ := ob1_s hf
  refine go_i C0 G (runV_of (n := 1) (q0 := 0) (As := [.int v1]) (rest := []) C0 G (c0_greatestCell hX hc2) q228 q50 q225 q226 q227 o0_greatestCell ⟨rfl, rfl⟩ ⟨Nat.le_of_ble_eq_true rfl, Nat.le_of_ble_eq_true rfl⟩ rfl rfl rfl hl.1 rfl (Nat.le_of_ble_eq_true rfl) dX0_spanOf_4) (fun H locs G => ?_)
  refine lv_istore_n (lv' := [(3, .int r1), (2, .int (0 : Int32)), (0, .ref (ad 0)), (1, .int v1)]) hx hb dX0_spanOf_7 rfl hl (by decide) rfl (fun ls hl => ?_)
  refine lv_aload_n hx hb dX0_spanOf_8 rfl (lv_at hl 2 rfl) ?_
  refine lv_iload_n hx hb dX0_spanOf_9 rfl (lv_at hl 3 rfl) ?_
  obtain ⟨r3, hc4, hf⟩ := ob1_s hf
  refine go_i C0 G (runV_of (n := 1) (q0 := 0) (As := [.int v1]) (rest := []) C0 G (c0_leastCell hX hc4) q221 q50 q218 q219 q220 o0_leastCell ⟨rfl, rfl⟩ ⟨Nat.le_of_ble_eq_true rfl, Nat.le_of_ble_eq_true rfl⟩ rfl rfl rfl hl.1 rfl (Nat.le_of_ble_eq_true rfl) dX0_spanOf_10) (fun H locs G => ?_)
  refine lv_istore (lv' := [(4, .int r3), (3, .int r1), (2, .int (0 : Int32)), (0, .ref (ad 0)), (1, .int v1)]) hx hb dX0_spanOf_13 hl (by decide) rfl (fun ls hl => ?_)
  exact b0_spanOf_15 C0  1000 G (lv_sub hl [2, 1, 0] rfl) hf
theorem o0_spanOf : okName yX0_spanOf 1 := ⟨by decide, by decide, by decide +kernel⟩
set_option maxHeartbeats 4000000 in
set_option maxRecDepth 100000 in
theorem c0_spanOf {ta adK adV : Nat → Nat} (hX : XT (XS ta adK adV)) {l : Launch} {D : va_G} {cI cB cG cS : ClassId} {ad : Nat → Nat} {sz : Nat} {hp : Nat → Int32} {st : Nat → Int32} {tr : Nat → Nat → Int32} {sp : Nat → Int32} {vis : Int32} {day : Int32} {z : Int32} {v1 : Int32} {r0 : Int32} (hf : f0_spanOf tr v1 = some r0) : Met l yX0_spanOf (wU yX0_spanOf cX0_spanOf 5 (some .int)) ({ frames := 2, cells := 0, slots := 0, locals := 35 }) (va_Pc [.ref (ad 0), .int v1] (PreW (XS ta adK adV) D (tyC cI cB cG cS) (wP cI cG ad hp st tr sp vis day z) sz)) (QcI D (tyC cI cB cG cS) (wP cI cG ad hp st tr sp vis day z) (va_A (wP cI cG ad hp st tr sp vis day z) sz) r0) 0 0 (va_A (wP cI cG ad hp st tr sp vis day z) sz) := by
  refine startW hX (own := RX0) (by decide) rfl (Nat.le_of_ble_eq_true rfl) (fun p e s m args below meth c ls C0 G hl => ?_)
  exact b0_spanOf_0 C0 G hl hf
/-! 0_raisesOf -/
theorem dX0_raisesOf_0 : decode cX0_raisesOf 0 = .ok (.aload_n 0, 1) := by decide +kernel
theorem dX0_raisesOf_1 : decode cX0_raisesOf 1 = .ok (.getfield 20, 3) := by decide +kernel
theorem dX0_raisesOf_4 : decode cX0_raisesOf 4 = .ok (.iconst 3, 1) := by decide +kernel
theorem dX0_raisesOf_5 : decode cX0_raisesOf 5 = .ok (.aaload, 1) := by decide +kernel
theorem dX0_raisesOf_6 : decode cX0_raisesOf 6 = .ok (.iload_n 1, 1) := by decide +kernel
theorem dX0_raisesOf_7 : decode cX0_raisesOf 7 = .ok (.iaload, 1) := by decide +kernel
theorem dX0_raisesOf_8 : decode cX0_raisesOf 8 = .ok (.istore_n 2, 1) := by decide +kernel
theorem dX0_raisesOf_9 : decode cX0_raisesOf 9 = .ok (.aload_n 0, 1) := by decide +kernel
theorem dX0_raisesOf_10 : decode cX0_raisesOf 10 = .ok (.getfield 20, 3) := by decide +kernel
theorem dX0_raisesOf_13 : decode cX0_raisesOf 13 = .ok (.iconst 0, 1) := by decide +kernel
theorem dX0_raisesOf_14 : decode cX0_raisesOf 14 = .ok (.aaload, 1) := by decide +kernel
theorem dX0_raisesOf_15 : decode cX0_raisesOf 15 = .ok (.iload_n 1, 1) := by decide +kernel
theorem dX0_raisesOf_16 : decode cX0_raisesOf 16 = .ok (.iaload, 1) := by decide +kernel
theorem dX0_raisesOf_17 : decode cX0_raisesOf 17 = .ok (.tableswitch 90 1 6 #[39, 80, 50, 78, 90, 84], 39) := by decide +kernel
theorem dX0_raisesOf_56 : decode cX0_raisesOf 56 = .ok (.iload_n 2, 1) := by decide +kernel
theorem dX0_raisesOf_57 : decode cX0_raisesOf 57 = .ok (.aload_n 0, 1) := by decide +kernel
theorem dX0_raisesOf_58 : decode cX0_raisesOf 58 = .ok (.getfield 15, 3) := by decide +kernel
theorem dX0_raisesOf_61 : decode cX0_raisesOf 61 = .ok (.iconst 2, 1) := by decide +kernel
theorem dX0_raisesOf_62 : decode cX0_raisesOf 62 = .ok (.iaload, 1) := by decide +kernel
theorem dX0_raisesOf_63 : decode cX0_raisesOf 63 = .ok (.iconst 3, 1) := by decide +kernel
theorem dX0_raisesOf_64 : decode cX0_raisesOf 64 = .ok (.idiv, 1) := by decide +kernel
theorem dX0_raisesOf_65 : decode cX0_raisesOf 65 = .ok (.iadd, 1) := by decide +kernel
theorem dX0_raisesOf_66 : decode cX0_raisesOf 66 = .ok (.ireturn, 1) := by decide +kernel
theorem dX0_raisesOf_67 : decode cX0_raisesOf 67 = .ok (.bipush 30, 2) := by decide +kernel
theorem dX0_raisesOf_69 : decode cX0_raisesOf 69 = .ok (.iload_n 2, 1) := by decide +kernel
theorem dX0_raisesOf_70 : decode cX0_raisesOf 70 = .ok (.aload_n 0, 1) := by decide +kernel
theorem dX0_raisesOf_71 : decode cX0_raisesOf 71 = .ok (.getfield 15, 3) := by decide +kernel
theorem dX0_raisesOf_74 : decode cX0_raisesOf 74 = .ok (.iconst 2, 1) := by decide +kernel
theorem dX0_raisesOf_75 : decode cX0_raisesOf 75 = .ok (.iaload, 1) := by decide +kernel
theorem dX0_raisesOf_76 : decode cX0_raisesOf 76 = .ok (.iconst 3, 1) := by decide +kernel
theorem dX0_raisesOf_77 : decode cX0_raisesOf 77 = .ok (.idiv, 1) := by decide +kernel
theorem dX0_raisesOf_78 : decode cX0_raisesOf 78 = .ok (.iadd, 1) := by decide +kernel
theorem dX0_raisesOf_79 : decode cX0_raisesOf 79 = .ok (.aload_n 0, 1) := by decide +kernel
theorem dX0_raisesOf_80 : decode cX0_raisesOf 80 = .ok (.getfield 20, 3) := by decide +kernel
theorem dX0_raisesOf_83 : decode cX0_raisesOf 83 = .ok (.iconst 5, 1) := by decide +kernel
theorem dX0_raisesOf_84 : decode cX0_raisesOf 84 = .ok (.aaload, 1) := by decide +kernel
theorem dX0_raisesOf_85 : decode cX0_raisesOf 85 = .ok (.iload_n 1, 1) := by decide +kernel
theorem dX0_raisesOf_86 : decode cX0_raisesOf 86 = .ok (.iaload, 1) := by decide +kernel
theorem dX0_raisesOf_87 : decode cX0_raisesOf 87 = .ok (.bipush 10, 2) := by decide +kernel
theorem dX0_raisesOf_89 : decode cX0_raisesOf 89 = .ok (.idiv, 1) := by decide +kernel
theorem dX0_raisesOf_90 : decode cX0_raisesOf 90 = .ok (.iadd, 1) := by decide +kernel
theorem dX0_raisesOf_91 : decode cX0_raisesOf 91 = .ok (.invokestatic 58, 3) := by decide +kernel
theorem dX0_raisesOf_94 : decode cX0_raisesOf 94 = .ok (.ireturn, 1) := by decide +kernel
theorem dX0_raisesOf_95 : decode cX0_raisesOf 95 = .ok (.iconst 0, 1) := by decide +kernel
theorem dX0_raisesOf_96 : decode cX0_raisesOf 96 = .ok (.ireturn, 1) := by decide +kernel
theorem dX0_raisesOf_97 : decode cX0_raisesOf 97 = .ok (.iload_n 2, 1) := by decide +kernel
theorem dX0_raisesOf_98 : decode cX0_raisesOf 98 = .ok (.iconst 2, 1) := by decide +kernel
theorem dX0_raisesOf_99 : decode cX0_raisesOf 99 = .ok (.idiv, 1) := by decide +kernel
theorem dX0_raisesOf_100 : decode cX0_raisesOf 100 = .ok (.ireturn, 1) := by decide +kernel
theorem dX0_raisesOf_101 : decode cX0_raisesOf 101 = .ok (.iload_n 2, 1) := by decide +kernel
theorem dX0_raisesOf_102 : decode cX0_raisesOf 102 = .ok (.iconst 2, 1) := by decide +kernel
theorem dX0_raisesOf_103 : decode cX0_raisesOf 103 = .ok (.idiv, 1) := by decide +kernel
theorem dX0_raisesOf_104 : decode cX0_raisesOf 104 = .ok (.iconst 2, 1) := by decide +kernel
theorem dX0_raisesOf_105 : decode cX0_raisesOf 105 = .ok (.iadd, 1) := by decide +kernel
theorem dX0_raisesOf_106 : decode cX0_raisesOf 106 = .ok (.ireturn, 1) := by decide +kernel
theorem dX0_raisesOf_107 : decode cX0_raisesOf 107 = .ok (.iload_n 2, 1) := by decide +kernel
theorem dX0_raisesOf_108 : decode cX0_raisesOf 108 = .ok (.ireturn, 1) := by decide +kernel
def f0_raisesOf (st : Nat → Int32) (tr : Nat → Nat → Int32) (v1 : Int32) : Option (Int32) :=
  gd (inb v1 8) (
  gd (inb v1 8) (
  if ((tr 0) v1.toNatClampNeg) = (1 : Int32) then (
    some (((tr 3) v1.toNatClampNeg) + ((st 2) / (3 : Int32))))
  else
  if ((tr 0) v1.toNatClampNeg) = (2 : Int32) then (
    some (((tr 3) v1.toNatClampNeg) / (2 : Int32)))
  else
  if ((tr 0) v1.toNatClampNeg) = (3 : Int32) then (
    gd (inb v1 8) (
    some (jmin (30 : Int32) ((((tr 3) v1.toNatClampNeg) + ((st 2) / (3 : Int32))) + (((tr 5) v1.toNatClampNeg) / (10 : Int32))))))
  else
  if ((tr 0) v1.toNatClampNeg) = (4 : Int32) then (
    some (0 : Int32))
  else
  if ((tr 0) v1.toNatClampNeg) = (6 : Int32) then (
    some ((((tr 3) v1.toNatClampNeg) / (2 : Int32)) + (2 : Int32)))
  else
  some ((tr 3) v1.toNatClampNeg)))
set_option maxHeartbeats 4000000 in
set_option maxRecDepth 100000 in
theorem b0_raisesOf_0 {ta adK adV : Nat → Nat} {p : Program} {l : Launch} {e : Env} {s : State} {m : MethodId} {args : Array Value} {below : List Frame} {meth : Method} {c : Code} {D : va_G} {cI cB cG cS : ClassId} {ad : Nat → Nat} {A : Nat → Prop} {hp : Nat → Int32} {st : Nat → Int32} {tr : Nat → Nat → Int32} {sp : Nat → Int32} {vis : Int32} {day : Int32} {z : Int32} {r0 : Int32} (C0 : CX (XS ta adK adV) p s m args meth c cX0_raisesOf 3 (some .int) RX0 A) : ∀ {v1 : Int32} {H : Heap} {locs : List Loc} {ls : Array Slot}, GX (XS ta adK adV) D (tyC cI cB cG cS) A s (wP cI cG ad hp st tr sp vis day z) H locs → lv_has ls 3 [(0, .ref (ad 0)), (1, .int v1)] → f0_raisesOf st tr v1 = some r0 → W p l e ({ frames := 1, cells := 0, slots := 0, locals := 13 }) s m args below meth c H locs 0 0 (MQ below (QcI D (tyC cI cB cG cS) (wP cI cG ad hp st tr sp vis day z) A r0) args s 0 0 A) (F0 m 0 ls []) := by
  have hx := C0.1
  have hb := C0.2.1
  have hown := C0.2.2.2.2.1
  have hts := C0.2.2.2.2.2.1
  have hX := C0.2.2.2.2.2.2.2.2
  intro v1 H locs ls G hl hf
  unfold f0_raisesOf at hf
  refine lv_aload_n hx hb dX0_raisesOf_0 rfl (lv_at hl 0 rfl) ?_
  refine s_get (C := RX0) (T := TX0) C0 G i_X0 0 2 rfl rfl (by decide) q86 rfl dX0_raisesOf_1 ?_
  refine lv_iconst (v := (3 : Int32)) hx hb dX0_raisesOf_4 (by decide) ?_
  refine s_aldg (k := 3) (b := ad 7) C0 G 3 2 rfl rfl (vin (by decide)) (by decide) rfl dX0_raisesOf_5 ?_
  refine lv_iload_n hx hb dX0_raisesOf_6 rfl (lv_at hl 1 rfl) ?_
  obtain ⟨hi1, hf⟩ := gd_s hf
  refine s_iald (k := v1.toNatClampNeg) C0 G 7 0 rfl rfl (vin hi1) rfl dX0_raisesOf_7 ?_
  refine lv_istore_n (lv' := [(2, .int ((tr 3) v1.toNatClampNeg)), (0, .ref (ad 0)), (1, .int v1)]) hx hb dX0_raisesOf_8 rfl hl (by decide) rfl (fun ls hl => ?_)
  refine lv_aload_n hx hb dX0_raisesOf_9 rfl (lv_at hl 1 rfl) ?_
  refine s_get (C := RX0) (T := TX0) C0 G i_X0 0 2 rfl rfl (by decide) q86 rfl dX0_raisesOf_10 ?_
  refine lv_iconst (v := (0 : Int32)) hx hb dX0_raisesOf_13 (by decide) ?_
  refine s_aldg (k := 0) (b := ad 4) C0 G 3 2 rfl rfl (vin (by decide)) (by decide) rfl dX0_raisesOf_14 ?_
  refine lv_iload_n hx hb dX0_raisesOf_15 rfl (lv_at hl 2 rfl) ?_
  obtain ⟨hi2, hf⟩ := gd_s hf
  refine s_iald (k := v1.toNatClampNeg) C0 G 4 0 rfl rfl (vin hi2) rfl dX0_raisesOf_16 ?_
  by_cases hs3 : ((tr 0) v1.toNatClampNeg) = (1 : Int32)
  · have hf := itp hs3 hf
    refine lv_tableIn (tgt := 56) hx hb dX0_raisesOf_17 (by rw [hs3]; decide) (by rw [hs3]; decide) (by rw [hs3]; rfl) (by decide) ?_
    refine lv_iload_n hx hb dX0_raisesOf_56 rfl (lv_at hl 0 rfl) ?_
    refine lv_aload_n hx hb dX0_raisesOf_57 rfl (lv_at hl 1 rfl) ?_
    refine s_get (C := RX0) (T := TX0) C0 G i_X0 0 1 rfl rfl (by decide) q83 rfl dX0_raisesOf_58 ?_
    refine lv_iconst (v := (2 : Int32)) hx hb dX0_raisesOf_61 (by decide) ?_
    refine s_iald (k := 2) C0 G 2 0 rfl rfl (vin (by decide)) (by decide) dX0_raisesOf_62 ?_
    refine lv_iconst (v := (3 : Int32)) hx hb dX0_raisesOf_63 (by decide) ?_
    refine lv_idiv hx hb dX0_raisesOf_64 (by decide) ?_
    refine lv_iadd hx hb dX0_raisesOf_65 ?_
    obtain rfl := inj1 hf
    exact ret_i C0 G dX0_raisesOf_66
  have hf := itn hs3 hf
  by_cases hs4 : ((tr 0) v1.toNatClampNeg) = (2 : Int32)
  · have hf := itp hs4 hf
    refine lv_tableIn (tgt := 97) hx hb dX0_raisesOf_17 (by rw [hs4]; decide) (by rw [hs4]; decide) (by rw [hs4]; rfl) (by decide) ?_
    refine lv_iload_n hx hb dX0_raisesOf_97 rfl (lv_at hl 0 rfl) ?_
    refine lv_iconst (v := (2 : Int32)) hx hb dX0_raisesOf_98 (by decide) ?_
    refine lv_idiv hx hb dX0_raisesOf_99 (by decide) ?_
    obtain rfl := inj1 hf
    exact ret_i C0 G dX0_raisesOf_100
  have hf := itn hs4 hf
  by_cases hs5 : ((tr 0) v1.toNatClampNeg) = (3 : Int32)
  · have hf := itp hs5 hf
    refine lv_tableIn (tgt := 67) hx hb dX0_raisesOf_17 (by rw [hs5]; decide) (by rw [hs5]; decide) (by rw [hs5]; rfl) (by decide) ?_
    refine lv_bipush (v := (30 : Int32)) hx hb dX0_raisesOf_67 (by decide) ?_
    refine lv_iload_n hx hb dX0_raisesOf_69 rfl (lv_at hl 0 rfl) ?_
    refine lv_aload_n hx hb dX0_raisesOf_70 rfl (lv_at hl 1 rfl) ?_
    refine s_get (C := RX0) (T := TX0) C0 G i_X0 0 1 rfl rfl (by decide) q83 rfl dX0_raisesOf_71 ?_
    refine lv_iconst (v := (2 : Int32)) hx hb dX0_raisesOf_74 (by decide) ?_
    refine s_iald (k := 2) C0 G 2 0 rfl rfl (vin (by decide)) (by decide) dX0_raisesOf_75 ?_
    refine lv_iconst (v := (3 : Int32)) hx hb dX0_raisesOf_76 (by decide) ?_
    refine lv_idiv hx hb dX0_raisesOf_77 (by decide) ?_
    refine lv_iadd hx hb dX0_raisesOf_78 ?_
    refine lv_aload_n hx hb dX0_raisesOf_79 rfl (lv_at hl 1 rfl) ?_
    refine s_get (C := RX0) (T := TX0) C0 G i_X0 0 2 rfl rfl (by decide) q86 rfl dX0_raisesOf_80 ?_
    refine lv_iconst (v := (5 : Int32)) hx hb dX0_raisesOf_83 (by decide) ?_
    refine s_aldg (k := 5) (b := ad 9) C0 G 3 2 rfl rfl (vin (by decide)) (by decide) rfl dX0_raisesOf_84 ?_
    refine lv_iload_n hx hb dX0_raisesOf_85 rfl (lv_at hl 2 rfl) ?_
    obtain ⟨hi6, hf⟩ := gd_s hf
    refine s_iald (k := v1.toNatClampNeg) C0 G 9 0 rfl rfl (vin hi6) rfl dX0_raisesOf_86 ?_
    refine lv_bipush (v := (10 : Int32)) hx hb dX0_raisesOf_87 (by decide) ?_
    refine lv_idiv hx hb dX0_raisesOf_89 (by decide) ?_
    refine lv_iadd hx hb dX0_raisesOf_90 ?_
    refine s_min C0 hl.1 q229 ⟨Nat.le_of_ble_eq_true rfl, Nat.le_of_ble_eq_true rfl⟩ dX0_raisesOf_91 ?_
    obtain rfl := inj1 hf
    exact ret_i C0 G dX0_raisesOf_94
  have hf := itn hs5 hf
  by_cases hs7 : ((tr 0) v1.toNatClampNeg) = (4 : Int32)
  · have hf := itp hs7 hf
    refine lv_tableIn (tgt := 95) hx hb dX0_raisesOf_17 (by rw [hs7]; decide) (by rw [hs7]; decide) (by rw [hs7]; rfl) (by decide) ?_
    refine lv_iconst (v := (0 : Int32)) hx hb dX0_raisesOf_95 (by decide) ?_
    obtain rfl := inj1 hf
    exact ret_i C0 G dX0_raisesOf_96
  have hf := itn hs7 hf
  by_cases hs8 : ((tr 0) v1.toNatClampNeg) = (6 : Int32)
  · have hf := itp hs8 hf
    refine lv_tableIn (tgt := 101) hx hb dX0_raisesOf_17 (by rw [hs8]; decide) (by rw [hs8]; decide) (by rw [hs8]; rfl) (by decide) ?_
    refine lv_iload_n hx hb dX0_raisesOf_101 rfl (lv_at hl 0 rfl) ?_
    refine lv_iconst (v := (2 : Int32)) hx hb dX0_raisesOf_102 (by decide) ?_
    refine lv_idiv hx hb dX0_raisesOf_103 (by decide) ?_
    refine lv_iconst (v := (2 : Int32)) hx hb dX0_raisesOf_104 (by decide) ?_
    refine lv_iadd hx hb dX0_raisesOf_105 ?_
    obtain rfl := inj1 hf
    exact ret_i C0 G dX0_raisesOf_106
  have hf := itn hs8 hf
  by_cases hs9 : ((tr 0) v1.toNatClampNeg) = (5 : Int32)
  · refine lv_tableIn (tgt := 107) hx hb dX0_raisesOf_17 (by rw [hs9]; decide) (by rw [hs9]; decide) (by rw [hs9]; rfl) (by decide) ?_
    refine lv_iload_n hx hb dX0_raisesOf_107 rfl (lv_at hl 0 rfl) ?_
    obtain rfl := inj1 hf
    exact ret_i C0 G dX0_raisesOf_108
  refine lv_tableOut (tgt := 107) hx hb dX0_raisesOf_17 (by have := lv_neT (a := 1) hs3 (by decide); have := lv_neT (a := 2) hs4 (by decide); have := lv_neT (a := 3) hs5 (by decide); have := lv_neT (a := 4) hs7 (by decide); have := lv_neT (a := 6) hs8 (by decide); have := lv_neT (a := 5) hs9 (by decide); omega) (by decide) ?_
  refine lv_iload_n hx hb dX0_raisesOf_107 rfl (lv_at hl 0 rfl) ?_
  obtain rfl := inj1 hf
  exact ret_i C0 G dX0_raisesOf_108
theorem o0_raisesOf : okName yX0_raisesOf 1 := ⟨by decide, by decide, by decide +kernel⟩
set_option maxHeartbeats 4000000 in
set_option maxRecDepth 100000 in
theorem c0_raisesOf {ta adK adV : Nat → Nat} (hX : XT (XS ta adK adV)) {l : Launch} {D : va_G} {cI cB cG cS : ClassId} {ad : Nat → Nat} {sz : Nat} {hp : Nat → Int32} {st : Nat → Int32} {tr : Nat → Nat → Int32} {sp : Nat → Int32} {vis : Int32} {day : Int32} {z : Int32} {v1 : Int32} {r0 : Int32} (hf : f0_raisesOf st tr v1 = some r0) : Met l yX0_raisesOf (wU yX0_raisesOf cX0_raisesOf 3 (some .int)) ({ frames := 1, cells := 0, slots := 0, locals := 13 }) (va_Pc [.ref (ad 0), .int v1] (PreW (XS ta adK adV) D (tyC cI cB cG cS) (wP cI cG ad hp st tr sp vis day z) sz)) (QcI D (tyC cI cB cG cS) (wP cI cG ad hp st tr sp vis day z) (va_A (wP cI cG ad hp st tr sp vis day z) sz) r0) 0 0 (va_A (wP cI cG ad hp st tr sp vis day z) sz) := by
  refine startW hX (own := RX0) (by decide) rfl (Nat.le_of_ble_eq_true rfl) (fun p e s m args below meth c ls C0 G hl => ?_)
  exact b0_raisesOf_0 C0 G hl hf
/-! 0_movesOf -/
theorem dX0_movesOf_0 : decode cX0_movesOf 0 = .ok (.aload_n 0, 1) := by decide +kernel
theorem dX0_movesOf_1 : decode cX0_movesOf 1 = .ok (.getfield 20, 3) := by decide +kernel
theorem dX0_movesOf_4 : decode cX0_movesOf 4 = .ok (.iconst 0, 1) := by decide +kernel
theorem dX0_movesOf_5 : decode cX0_movesOf 5 = .ok (.aaload, 1) := by decide +kernel
theorem dX0_movesOf_6 : decode cX0_movesOf 6 = .ok (.iload_n 1, 1) := by decide +kernel
theorem dX0_movesOf_7 : decode cX0_movesOf 7 = .ok (.iaload, 1) := by decide +kernel
theorem dX0_movesOf_8 : decode cX0_movesOf 8 = .ok (.tableswitch 58 1 6 #[40, 58, 43, 43, 56, 46], 40) := by decide +kernel
theorem dX0_movesOf_48 : decode cX0_movesOf 48 = .ok (.bipush 20, 2) := by decide +kernel
theorem dX0_movesOf_50 : decode cX0_movesOf 50 = .ok (.ireturn, 1) := by decide +kernel
theorem dX0_movesOf_51 : decode cX0_movesOf 51 = .ok (.bipush 40, 2) := by decide +kernel
theorem dX0_movesOf_53 : decode cX0_movesOf 53 = .ok (.ireturn, 1) := by decide +kernel
theorem dX0_movesOf_54 : decode cX0_movesOf 54 = .ok (.bipush 12, 2) := by decide +kernel
theorem dX0_movesOf_56 : decode cX0_movesOf 56 = .ok (.aload_n 0, 1) := by decide +kernel
theorem dX0_movesOf_57 : decode cX0_movesOf 57 = .ok (.getfield 15, 3) := by decide +kernel
theorem dX0_movesOf_60 : decode cX0_movesOf 60 = .ok (.iconst 1, 1) := by decide +kernel
theorem dX0_movesOf_61 : decode cX0_movesOf 61 = .ok (.iaload, 1) := by decide +kernel
theorem dX0_movesOf_62 : decode cX0_movesOf 62 = .ok (.isub, 1) := by decide +kernel
theorem dX0_movesOf_63 : decode cX0_movesOf 63 = .ok (.ireturn, 1) := by decide +kernel
theorem dX0_movesOf_64 : decode cX0_movesOf 64 = .ok (.iconst 1, 1) := by decide +kernel
theorem dX0_movesOf_65 : decode cX0_movesOf 65 = .ok (.ireturn, 1) := by decide +kernel
theorem dX0_movesOf_66 : decode cX0_movesOf 66 = .ok (.bipush 12, 2) := by decide +kernel
theorem dX0_movesOf_68 : decode cX0_movesOf 68 = .ok (.ireturn, 1) := by decide +kernel
def f0_movesOf (st : Nat → Int32) (tr : Nat → Nat → Int32) (v1 : Int32) : Option (Int32) :=
  gd (inb v1 8) (
  if ((tr 0) v1.toNatClampNeg) = (1 : Int32) then (
    some (20 : Int32))
  else
  if ((tr 0) v1.toNatClampNeg) = (3 : Int32) then (
    some (40 : Int32))
  else
  if ((tr 0) v1.toNatClampNeg) = (4 : Int32) then (
    some (40 : Int32))
  else
  if ((tr 0) v1.toNatClampNeg) = (5 : Int32) then (
    some (1 : Int32))
  else
  if ((tr 0) v1.toNatClampNeg) = (6 : Int32) then (
    some ((12 : Int32) - (st 1)))
  else
  some (12 : Int32))
set_option maxHeartbeats 4000000 in
set_option maxRecDepth 100000 in
theorem b0_movesOf_0 {ta adK adV : Nat → Nat} {p : Program} {l : Launch} {e : Env} {s : State} {m : MethodId} {args : Array Value} {below : List Frame} {meth : Method} {c : Code} {D : va_G} {cI cB cG cS : ClassId} {ad : Nat → Nat} {A : Nat → Prop} {hp : Nat → Int32} {st : Nat → Int32} {tr : Nat → Nat → Int32} {sp : Nat → Int32} {vis : Int32} {day : Int32} {z : Int32} {r0 : Int32} (C0 : CX (XS ta adK adV) p s m args meth c cX0_movesOf 2 (some .int) RX0 A) : ∀ {v1 : Int32} {H : Heap} {locs : List Loc} {ls : Array Slot}, GX (XS ta adK adV) D (tyC cI cB cG cS) A s (wP cI cG ad hp st tr sp vis day z) H locs → lv_has ls 2 [(0, .ref (ad 0)), (1, .int v1)] → f0_movesOf st tr v1 = some r0 → W p l e ({ frames := 0, cells := 0, slots := 0, locals := 0 }) s m args below meth c H locs 0 0 (MQ below (QcI D (tyC cI cB cG cS) (wP cI cG ad hp st tr sp vis day z) A r0) args s 0 0 A) (F0 m 0 ls []) := by
  have hx := C0.1
  have hb := C0.2.1
  have hown := C0.2.2.2.2.1
  have hts := C0.2.2.2.2.2.1
  have hX := C0.2.2.2.2.2.2.2.2
  intro v1 H locs ls G hl hf
  unfold f0_movesOf at hf
  refine lv_aload_n hx hb dX0_movesOf_0 rfl (lv_at hl 0 rfl) ?_
  refine s_get (C := RX0) (T := TX0) C0 G i_X0 0 2 rfl rfl (by decide) q86 rfl dX0_movesOf_1 ?_
  refine lv_iconst (v := (0 : Int32)) hx hb dX0_movesOf_4 (by decide) ?_
  refine s_aldg (k := 0) (b := ad 4) C0 G 3 2 rfl rfl (vin (by decide)) (by decide) rfl dX0_movesOf_5 ?_
  refine lv_iload_n hx hb dX0_movesOf_6 rfl (lv_at hl 1 rfl) ?_
  obtain ⟨hi1, hf⟩ := gd_s hf
  refine s_iald (k := v1.toNatClampNeg) C0 G 4 0 rfl rfl (vin hi1) rfl dX0_movesOf_7 ?_
  by_cases hs2 : ((tr 0) v1.toNatClampNeg) = (1 : Int32)
  · have hf := itp hs2 hf
    refine lv_tableIn (tgt := 48) hx hb dX0_movesOf_8 (by rw [hs2]; decide) (by rw [hs2]; decide) (by rw [hs2]; rfl) (by decide) ?_
    refine lv_bipush (v := (20 : Int32)) hx hb dX0_movesOf_48 (by decide) ?_
    obtain rfl := inj1 hf
    exact ret_i C0 G dX0_movesOf_50
  have hf := itn hs2 hf
  by_cases hs3 : ((tr 0) v1.toNatClampNeg) = (3 : Int32)
  · have hf := itp hs3 hf
    refine lv_tableIn (tgt := 51) hx hb dX0_movesOf_8 (by rw [hs3]; decide) (by rw [hs3]; decide) (by rw [hs3]; rfl) (by decide) ?_
    refine lv_bipush (v := (40 : Int32)) hx hb dX0_movesOf_51 (by decide) ?_
    obtain rfl := inj1 hf
    exact ret_i C0 G dX0_movesOf_53
  have hf := itn hs3 hf
  by_cases hs4 : ((tr 0) v1.toNatClampNeg) = (4 : Int32)
  · have hf := itp hs4 hf
    refine lv_tableIn (tgt := 51) hx hb dX0_movesOf_8 (by rw [hs4]; decide) (by rw [hs4]; decide) (by rw [hs4]; rfl) (by decide) ?_
    refine lv_bipush (v := (40 : Int32)) hx hb dX0_movesOf_51 (by decide) ?_
    obtain rfl := inj1 hf
    exact ret_i C0 G dX0_movesOf_53
  have hf := itn hs4 hf
  by_cases hs5 : ((tr 0) v1.toNatClampNeg) = (5 : Int32)
  · have hf := itp hs5 hf
    refine lv_tableIn (tgt := 64) hx hb dX0_movesOf_8 (by rw [hs5]; decide) (by rw [hs5]; decide) (by rw [hs5]; rfl) (by decide) ?_
    refine lv_iconst (v := (1 : Int32)) hx hb dX0_movesOf_64 (by decide) ?_
    obtain rfl := inj1 hf
    exact ret_i C0 G dX0_movesOf_65
  have hf := itn hs5 hf
  by_cases hs6 : ((tr 0) v1.toNatClampNeg) = (6 : Int32)
  · have hf := itp hs6 hf
    refine lv_tableIn (tgt := 54) hx hb dX0_movesOf_8 (by rw [hs6]; decide) (by rw [hs6]; decide) (by rw [hs6]; rfl) (by decide) ?_
    refine lv_bipush (v := (12 : Int32)) hx hb dX0_movesOf_54 (by decide) ?_
    refine lv_aload_n hx hb dX0_movesOf_56 rfl (lv_at hl 0 rfl) ?_
    refine s_get (C := RX0) (T := TX0) C0 G i_X0 0 1 rfl rfl (by decide) q83 rfl dX0_movesOf_57 ?_
    refine lv_iconst (v := (1 : Int32)) hx hb dX0_movesOf_60 (by decide) ?_
    refine s_iald (k := 1) C0 G 2 0 rfl rfl (vin (by decide)) (by decide) dX0_movesOf_61 ?_
    refine lv_isub hx hb dX0_movesOf_62 ?_
    obtain rfl := inj1 hf
    exact ret_i C0 G dX0_movesOf_63
  have hf := itn hs6 hf
  by_cases hs7 : ((tr 0) v1.toNatClampNeg) = (2 : Int32)
  · refine lv_tableIn (tgt := 66) hx hb dX0_movesOf_8 (by rw [hs7]; decide) (by rw [hs7]; decide) (by rw [hs7]; rfl) (by decide) ?_
    refine lv_bipush (v := (12 : Int32)) hx hb dX0_movesOf_66 (by decide) ?_
    obtain rfl := inj1 hf
    exact ret_i C0 G dX0_movesOf_68
  refine lv_tableOut (tgt := 66) hx hb dX0_movesOf_8 (by have := lv_neT (a := 1) hs2 (by decide); have := lv_neT (a := 3) hs3 (by decide); have := lv_neT (a := 4) hs4 (by decide); have := lv_neT (a := 5) hs5 (by decide); have := lv_neT (a := 6) hs6 (by decide); have := lv_neT (a := 2) hs7 (by decide); omega) (by decide) ?_
  refine lv_bipush (v := (12 : Int32)) hx hb dX0_movesOf_66 (by decide) ?_
  obtain rfl := inj1 hf
  exact ret_i C0 G dX0_movesOf_68
theorem o0_movesOf : okName yX0_movesOf 1 := ⟨by decide, by decide, by decide +kernel⟩
set_option maxHeartbeats 4000000 in
set_option maxRecDepth 100000 in
theorem c0_movesOf {ta adK adV : Nat → Nat} (hX : XT (XS ta adK adV)) {l : Launch} {D : va_G} {cI cB cG cS : ClassId} {ad : Nat → Nat} {sz : Nat} {hp : Nat → Int32} {st : Nat → Int32} {tr : Nat → Nat → Int32} {sp : Nat → Int32} {vis : Int32} {day : Int32} {z : Int32} {v1 : Int32} {r0 : Int32} (hf : f0_movesOf st tr v1 = some r0) : Met l yX0_movesOf (wU yX0_movesOf cX0_movesOf 2 (some .int)) ({ frames := 0, cells := 0, slots := 0, locals := 0 }) (va_Pc [.ref (ad 0), .int v1] (PreW (XS ta adK adV) D (tyC cI cB cG cS) (wP cI cG ad hp st tr sp vis day z) sz)) (QcI D (tyC cI cB cG cS) (wP cI cG ad hp st tr sp vis day z) (va_A (wP cI cG ad hp st tr sp vis day z) sz) r0) 0 0 (va_A (wP cI cG ad hp st tr sp vis day z) sz) := by
  refine startW hX (own := RX0) (by decide) rfl (Nat.le_of_ble_eq_true rfl) (fun p e s m args below meth c ls C0 G hl => ?_)
  exact b0_movesOf_0 C0 G hl hf
/-! 0_isDigger -/
theorem dX0_isDigger_0 : decode cX0_isDigger 0 = .ok (.aload_n 0, 1) := by decide +kernel
theorem dX0_isDigger_1 : decode cX0_isDigger 1 = .ok (.getfield 20, 3) := by decide +kernel
theorem dX0_isDigger_4 : decode cX0_isDigger 4 = .ok (.iconst 0, 1) := by decide +kernel
theorem dX0_isDigger_5 : decode cX0_isDigger 5 = .ok (.aaload, 1) := by decide +kernel
theorem dX0_isDigger_6 : decode cX0_isDigger 6 = .ok (.iload_n 1, 1) := by decide +kernel
theorem dX0_isDigger_7 : decode cX0_isDigger 7 = .ok (.iaload, 1) := by decide +kernel
theorem dX0_isDigger_8 : decode cX0_isDigger 8 = .ok (.iconst 4, 1) := by decide +kernel
theorem dX0_isDigger_9 : decode cX0_isDigger 9 = .ok (.if_icmp .ne 7, 3) := by decide +kernel
theorem dX0_isDigger_12 : decode cX0_isDigger 12 = .ok (.iconst 1, 1) := by decide +kernel
theorem dX0_isDigger_13 : decode cX0_isDigger 13 = .ok (.goto 4, 3) := by decide +kernel
theorem dX0_isDigger_16 : decode cX0_isDigger 16 = .ok (.iconst 0, 1) := by decide +kernel
theorem dX0_isDigger_17 : decode cX0_isDigger 17 = .ok (.ireturn, 1) := by decide +kernel
def f0_isDigger (tr : Nat → Nat → Int32) (v1 : Int32) : Option (Int32) :=
  gd (inb v1 8) (
  if ((tr 0) v1.toNatClampNeg) = (4 : Int32) then (
    some (1 : Int32))
  else (
    some (0 : Int32)))
set_option maxHeartbeats 4000000 in
set_option maxRecDepth 100000 in
theorem b0_isDigger_0 {ta adK adV : Nat → Nat} {p : Program} {l : Launch} {e : Env} {s : State} {m : MethodId} {args : Array Value} {below : List Frame} {meth : Method} {c : Code} {D : va_G} {cI cB cG cS : ClassId} {ad : Nat → Nat} {A : Nat → Prop} {hp : Nat → Int32} {st : Nat → Int32} {tr : Nat → Nat → Int32} {sp : Nat → Int32} {vis : Int32} {day : Int32} {z : Int32} {r0 : Int32} (C0 : CX (XS ta adK adV) p s m args meth c cX0_isDigger 2 (some .boolean) RX0 A) : ∀ {v1 : Int32} {H : Heap} {locs : List Loc} {ls : Array Slot}, GX (XS ta adK adV) D (tyC cI cB cG cS) A s (wP cI cG ad hp st tr sp vis day z) H locs → lv_has ls 2 [(0, .ref (ad 0)), (1, .int v1)] → f0_isDigger tr v1 = some r0 → W p l e ({ frames := 0, cells := 0, slots := 0, locals := 0 }) s m args below meth c H locs 0 0 (MQ below (QcI D (tyC cI cB cG cS) (wP cI cG ad hp st tr sp vis day z) A r0) args s 0 0 A) (F0 m 0 ls []) := by
  have hx := C0.1
  have hb := C0.2.1
  have hown := C0.2.2.2.2.1
  have hts := C0.2.2.2.2.2.1
  have hX := C0.2.2.2.2.2.2.2.2
  intro v1 H locs ls G hl hf
  unfold f0_isDigger at hf
  refine lv_aload_n hx hb dX0_isDigger_0 rfl (lv_at hl 0 rfl) ?_
  refine s_get (C := RX0) (T := TX0) C0 G i_X0 0 2 rfl rfl (by decide) q86 rfl dX0_isDigger_1 ?_
  refine lv_iconst (v := (0 : Int32)) hx hb dX0_isDigger_4 (by decide) ?_
  refine s_aldg (k := 0) (b := ad 4) C0 G 3 2 rfl rfl (vin (by decide)) (by decide) rfl dX0_isDigger_5 ?_
  refine lv_iload_n hx hb dX0_isDigger_6 rfl (lv_at hl 1 rfl) ?_
  obtain ⟨hi1, hf⟩ := gd_s hf
  refine s_iald (k := v1.toNatClampNeg) C0 G 4 0 rfl rfl (vin hi1) rfl dX0_isDigger_7 ?_
  refine lv_iconst (v := (4 : Int32)) hx hb dX0_isDigger_8 (by decide) ?_
  refine lv_icmp_ne (tgt := 16) hx hb dX0_isDigger_9 (by decide) (fun hc2 => ?_) (fun hc2 => ?_)
  · have hf := itn hc2 hf
    refine lv_iconst (v := (0 : Int32)) hx hb dX0_isDigger_16 (by decide) ?_
    obtain rfl := inj1 hf
    exact ret_z C0 G rfl dX0_isDigger_17
  · have hf := itp hc2 hf
    refine lv_iconst (v := (1 : Int32)) hx hb dX0_isDigger_12 (by decide) ?_
    refine lv_goto (tgt := 17) hx hb dX0_isDigger_13 (by decide) ?_
    obtain rfl := inj1 hf
    exact ret_z C0 G rfl dX0_isDigger_17
theorem o0_isDigger : okName yX0_isDigger 1 := ⟨by decide, by decide, by decide +kernel⟩
set_option maxHeartbeats 4000000 in
set_option maxRecDepth 100000 in
theorem c0_isDigger {ta adK adV : Nat → Nat} (hX : XT (XS ta adK adV)) {l : Launch} {D : va_G} {cI cB cG cS : ClassId} {ad : Nat → Nat} {sz : Nat} {hp : Nat → Int32} {st : Nat → Int32} {tr : Nat → Nat → Int32} {sp : Nat → Int32} {vis : Int32} {day : Int32} {z : Int32} {v1 : Int32} {r0 : Int32} (hf : f0_isDigger tr v1 = some r0) : Met l yX0_isDigger (wU yX0_isDigger cX0_isDigger 2 (some .boolean)) ({ frames := 0, cells := 0, slots := 0, locals := 0 }) (va_Pc [.ref (ad 0), .int v1] (PreW (XS ta adK adV) D (tyC cI cB cG cS) (wP cI cG ad hp st tr sp vis day z) sz)) (QcI D (tyC cI cB cG cS) (wP cI cG ad hp st tr sp vis day z) (va_A (wP cI cG ad hp st tr sp vis day z) sz) r0) 0 0 (va_A (wP cI cG ad hp st tr sp vis day z) sz) := by
  refine startW hX (own := RX0) (by decide) rfl (Nat.le_of_ble_eq_true rfl) (fun p e s m args below meth c ls C0 G hl => ?_)
  exact b0_isDigger_0 C0 G hl hf
/-! 0_isUp -/
theorem dX0_isUp_0 : decode cX0_isUp 0 = .ok (.aload_n 0, 1) := by decide +kernel
theorem dX0_isUp_1 : decode cX0_isUp 1 = .ok (.iload_n 1, 1) := by decide +kernel
theorem dX0_isUp_2 : decode cX0_isUp 2 = .ok (.invokevirtual 68, 3) := by decide +kernel
theorem dX0_isUp_5 : decode cX0_isUp 5 = .ok (.istore_n 2, 1) := by decide +kernel
theorem dX0_isUp_6 : decode cX0_isUp 6 = .ok (.aload_n 0, 1) := by decide +kernel
theorem dX0_isUp_7 : decode cX0_isUp 7 = .ok (.iload_n 1, 1) := by decide +kernel
theorem dX0_isUp_8 : decode cX0_isUp 8 = .ok (.invokevirtual 61, 3) := by decide +kernel
theorem dX0_isUp_11 : decode cX0_isUp 11 = .ok (.istore_n 3, 1) := by decide +kernel
theorem dX0_isUp_12 : decode cX0_isUp 12 = .ok (.aload_n 0, 1) := by decide +kernel
theorem dX0_isUp_13 : decode cX0_isUp 13 = .ok (.iload_n 1, 1) := by decide +kernel
theorem dX0_isUp_14 : decode cX0_isUp 14 = .ok (.invokevirtual 71, 3) := by decide +kernel
theorem dX0_isUp_17 : decode cX0_isUp 17 = .ok (.istore 4, 2) := by decide +kernel
theorem dX0_isUp_19 : decode cX0_isUp 19 = .ok (.aload_n 0, 1) := by decide +kernel
theorem dX0_isUp_20 : decode cX0_isUp 20 = .ok (.iload_n 1, 1) := by decide +kernel
theorem dX0_isUp_21 : decode cX0_isUp 21 = .ok (.invokevirtual 65, 3) := by decide +kernel
theorem dX0_isUp_24 : decode cX0_isUp 24 = .ok (.istore 5, 2) := by decide +kernel
theorem dX0_isUp_26 : decode cX0_isUp 26 = .ok (.iload 5, 2) := by decide +kernel
theorem dX0_isUp_28 : decode cX0_isUp 28 = .ok (.iload_n 3, 1) := by decide +kernel
theorem dX0_isUp_29 : decode cX0_isUp 29 = .ok (.if_icmp .gt 41, 3) := by decide +kernel
theorem dX0_isUp_32 : decode cX0_isUp 32 = .ok (.iload 4, 2) := by decide +kernel
theorem dX0_isUp_34 : decode cX0_isUp 34 = .ok (.ifCond .eq 17, 3) := by decide +kernel
theorem dX0_isUp_37 : decode cX0_isUp 37 = .ok (.aload_n 0, 1) := by decide +kernel
theorem dX0_isUp_38 : decode cX0_isUp 38 = .ok (.getfield 9, 3) := by decide +kernel
theorem dX0_isUp_41 : decode cX0_isUp 41 = .ok (.iload 5, 2) := by decide +kernel
theorem dX0_isUp_43 : decode cX0_isUp 43 = .ok (.iaload, 1) := by decide +kernel
theorem dX0_isUp_44 : decode cX0_isUp 44 = .ok (.iload_n 2, 1) := by decide +kernel
theorem dX0_isUp_45 : decode cX0_isUp 45 = .ok (.if_icmp .le 19, 3) := by decide +kernel
theorem dX0_isUp_48 : decode cX0_isUp 48 = .ok (.goto 14, 3) := by decide +kernel
theorem dX0_isUp_51 : decode cX0_isUp 51 = .ok (.aload_n 0, 1) := by decide +kernel
theorem dX0_isUp_52 : decode cX0_isUp 52 = .ok (.getfield 9, 3) := by decide +kernel
theorem dX0_isUp_55 : decode cX0_isUp 55 = .ok (.iload 5, 2) := by decide +kernel
theorem dX0_isUp_57 : decode cX0_isUp 57 = .ok (.iaload, 1) := by decide +kernel
theorem dX0_isUp_58 : decode cX0_isUp 58 = .ok (.iload_n 2, 1) := by decide +kernel
theorem dX0_isUp_59 : decode cX0_isUp 59 = .ok (.if_icmp .ge 5, 3) := by decide +kernel
theorem dX0_isUp_62 : decode cX0_isUp 62 = .ok (.iconst 0, 1) := by decide +kernel
theorem dX0_isUp_63 : decode cX0_isUp 63 = .ok (.ireturn, 1) := by decide +kernel
theorem dX0_isUp_64 : decode cX0_isUp 64 = .ok (.iinc 5 1, 3) := by decide +kernel
theorem dX0_isUp_67 : decode cX0_isUp 67 = .ok (.goto (-41), 3) := by decide +kernel
theorem dX0_isUp_70 : decode cX0_isUp 70 = .ok (.iconst 1, 1) := by decide +kernel
theorem dX0_isUp_71 : decode cX0_isUp 71 = .ok (.ireturn, 1) := by decide +kernel
def j0_isUp_64 (k26 : (Nat → Int32) → (Nat → Int32) → (Nat → Nat → Int32) → Int32 → Int32 → Int32 → Int32 → Option (Int32)) (hp : Nat → Int32) (st : Nat → Int32) (tr : Nat → Nat → Int32) (v2 : Int32) (v3 : Int32) (v4 : Int32) (v5 : Int32) : Option (Int32) :=
  k26 hp st tr v2 v3 v4 (v5 + (1 : Int32))
def l0_isUp_26  : Nat → (Nat → Int32) → (Nat → Int32) → (Nat → Nat → Int32) → Int32 → Int32 → Int32 → Int32 → Option (Int32)
  | 0, _, _, _, _, _, _, _ => none
  | n + 1, hp, st, tr, v2, v3, v4, v5 =>
    if v3 < v5 then (
      some (1 : Int32))
    else (
      if v4 = (0 : Int32) then (
        gd (inb v5 16) (
        if v2 ≤ (hp v5.toNatClampNeg) then (
          j0_isUp_64 (l0_isUp_26 n) hp st tr v2 v3 v4 v5)
        else (
          some (0 : Int32))))
      else (
        gd (inb v5 16) (
        if (hp v5.toNatClampNeg) ≤ v2 then (
          j0_isUp_64 (l0_isUp_26 n) hp st tr v2 v3 v4 v5)
        else (
          some (0 : Int32)))))
def f0_isUp (hp : Nat → Int32) (st : Nat → Int32) (tr : Nat → Nat → Int32) (v1 : Int32) : Option (Int32) :=
  ob1 (f0_raisesOf st tr v1) (fun r1 =>
  ob1 (f0_greatestCell tr v1) (fun r3 =>
  ob1 (f0_isDigger tr v1) (fun r5 =>
  ob1 (f0_leastCell tr v1) (fun r7 =>
  l0_isUp_26 1000 hp st tr r1 r3 r5 r7))))
set_option maxHeartbeats 4000000 in
set_option maxRecDepth 100000 in
theorem b0_isUp_64 {ta adK adV : Nat → Nat} {p : Program} {l : Launch} {e : Env} {s : State} {m : MethodId} {args : Array Value} {below : List Frame} {meth : Method} {c : Code} {D : va_G} {cI cB cG cS : ClassId} {ad : Nat → Nat} {A : Nat → Prop} {hp : Nat → Int32} {st : Nat → Int32} {tr : Nat → Nat → Int32} {sp : Nat → Int32} {vis : Int32} {day : Int32} {z : Int32} {r0 : Int32} (C0 : CX (XS ta adK adV) p s m args meth c cX0_isUp 6 (some .boolean) RX0 A) {k26 : (Nat → Int32) → (Nat → Int32) → (Nat → Nat → Int32) → Int32 → Int32 → Int32 → Int32 → Option (Int32)} (hk26 : ∀ {v2 : Int32} {v3 : Int32} {v4 : Int32} {v5 : Int32} {H : Heap} {locs : List Loc} {ls : Array Slot}, GX (XS ta adK adV) D (tyC cI cB cG cS) A s (wP cI cG ad hp st tr sp vis day z) H locs → lv_has ls 6 [(0, .ref (ad 0)), (2, .int v2), (3, .int v3), (4, .int v4), (5, .int v5)] → k26 hp st tr v2 v3 v4 v5 = some r0 → W p l e ({ frames := 2, cells := 0, slots := 0, locals := 35 }) s m args below meth c H locs 0 0 (MQ below (QcI D (tyC cI cB cG cS) (wP cI cG ad hp st tr sp vis day z) A r0) args s 0 0 A) (F0 m 26 ls [])) : ∀ {v2 : Int32} {v3 : Int32} {v4 : Int32} {v5 : Int32} {H : Heap} {locs : List Loc} {ls : Array Slot}, GX (XS ta adK adV) D (tyC cI cB cG cS) A s (wP cI cG ad hp st tr sp vis day z) H locs → lv_has ls 6 [(0, .ref (ad 0)), (2, .int v2), (3, .int v3), (4, .int v4), (5, .int v5)] → j0_isUp_64 k26 hp st tr v2 v3 v4 v5 = some r0 → W p l e ({ frames := 2, cells := 0, slots := 0, locals := 35 }) s m args below meth c H locs 0 0 (MQ below (QcI D (tyC cI cB cG cS) (wP cI cG ad hp st tr sp vis day z) A r0) args s 0 0 A) (F0 m 64 ls []) := by
  have hx := C0.1
  have hb := C0.2.1
  have hown := C0.2.2.2.2.1
  have hts := C0.2.2.2.2.2.1
  have hX := C0.2.2.2.2.2.2.2.2
  intro v2 v3 v4 v5 H locs ls G hl hf
  unfold j0_isUp_64 at hf
  refine lv_iinc (v := (v5 + (1 : Int32))) (lv' := [(5, .int (v5 + (1 : Int32))), (0, .ref (ad 0)), (2, .int v2), (3, .int v3), (4, .int v4)]) hx hb dX0_isUp_64 hl (k := 4) rfl rfl (by decide) rfl (fun ls hl => ?_)
  refine lv_goto (tgt := 26) hx hb dX0_isUp_67 (by decide) ?_
  exact hk26 G (lv_sub hl [1, 2, 3, 4, 0] rfl) hf
set_option maxHeartbeats 4000000 in
set_option maxRecDepth 100000 in
theorem b0_isUp_26 {ta adK adV : Nat → Nat} {p : Program} {l : Launch} {e : Env} {s : State} {m : MethodId} {args : Array Value} {below : List Frame} {meth : Method} {c : Code} {D : va_G} {cI cB cG cS : ClassId} {ad : Nat → Nat} {A : Nat → Prop} {hp : Nat → Int32} {st : Nat → Int32} {tr : Nat → Nat → Int32} {sp : Nat → Int32} {vis : Int32} {day : Int32} {z : Int32} {r0 : Int32} (C0 : CX (XS ta adK adV) p s m args meth c cX0_isUp 6 (some .boolean) RX0 A) : ∀ (n : Nat) {v2 : Int32} {v3 : Int32} {v4 : Int32} {v5 : Int32} {H : Heap} {locs : List Loc} {ls : Array Slot}, GX (XS ta adK adV) D (tyC cI cB cG cS) A s (wP cI cG ad hp st tr sp vis day z) H locs → lv_has ls 6 [(0, .ref (ad 0)), (2, .int v2), (3, .int v3), (4, .int v4), (5, .int v5)] → l0_isUp_26  n hp st tr v2 v3 v4 v5 = some r0 → W p l e ({ frames := 2, cells := 0, slots := 0, locals := 35 }) s m args below meth c H locs 0 0 (MQ below (QcI D (tyC cI cB cG cS) (wP cI cG ad hp st tr sp vis day z) A r0) args s 0 0 A) (F0 m 26 ls []) := by
  have hx := C0.1
  have hb := C0.2.1
  have hown := C0.2.2.2.2.1
  have hts := C0.2.2.2.2.2.1
  have hX := C0.2.2.2.2.2.2.2.2
  intro n
  induction n with
  | zero =>
    intro _ _ _ _ _ _ _ G hl hf
    cases hf
  | succ n ih =>
    intro v2 v3 v4 v5 H locs ls G hl hf
    rw [l0_isUp_26] at hf
    refine lv_iload hx hb dX0_isUp_26 (lv_at hl 4 rfl) ?_
    refine lv_iload_n hx hb dX0_isUp_28 rfl (lv_at hl 2 rfl) ?_
    refine lv_icmp_gt (tgt := 70) hx hb dX0_isUp_29 (by decide) (fun hc9 => ?_) (fun hc9 => ?_)
    · have hf := itp hc9 hf
      refine lv_iconst (v := (1 : Int32)) hx hb dX0_isUp_70 (by decide) ?_
      obtain rfl := inj1 hf
      exact ret_z C0 G rfl dX0_isUp_71
    · have hf := itn hc9 hf
      refine lv_iload hx hb dX0_isUp_32 (lv_at hl 3 rfl) ?_
      refine lv_if_eq (tgt := 51) hx hb dX0_isUp_34 (by decide) (fun hc10 => ?_) (fun hc10 => ?_)
      · have hf := itp hc10 hf
        refine lv_aload_n hx hb dX0_isUp_51 rfl (lv_at hl 0 rfl) ?_
        refine s_get (C := RX0) (T := TX0) C0 G i_X0 0 0 rfl rfl (by decide) q80 rfl dX0_isUp_52 ?_
        refine lv_iload hx hb dX0_isUp_55 (lv_at hl 4 rfl) ?_
        obtain ⟨hi11, hf⟩ := gd_s hf
        refine s_iald (k := v5.toNatClampNeg) C0 G 1 0 rfl rfl (vin hi11) rfl dX0_isUp_57 ?_
        refine lv_iload_n hx hb dX0_isUp_58 rfl (lv_at hl 1 rfl) ?_
        refine lv_icmp_ge (tgt := 64) hx hb dX0_isUp_59 (by decide) (fun hc12 => ?_) (fun hc12 => ?_)
        · have hf := itp hc12 hf
          exact b0_isUp_64 C0 ih G (lv_sub hl [0, 1, 2, 3, 4] rfl) hf
        · have hf := itn hc12 hf
          refine lv_iconst (v := (0 : Int32)) hx hb dX0_isUp_62 (by decide) ?_
          obtain rfl := inj1 hf
          exact ret_z C0 G rfl dX0_isUp_63
      · have hf := itn hc10 hf
        refine lv_aload_n hx hb dX0_isUp_37 rfl (lv_at hl 0 rfl) ?_
        refine s_get (C := RX0) (T := TX0) C0 G i_X0 0 0 rfl rfl (by decide) q80 rfl dX0_isUp_38 ?_
        refine lv_iload hx hb dX0_isUp_41 (lv_at hl 4 rfl) ?_
        obtain ⟨hi13, hf⟩ := gd_s hf
        refine s_iald (k := v5.toNatClampNeg) C0 G 1 0 rfl rfl (vin hi13) rfl dX0_isUp_43 ?_
        refine lv_iload_n hx hb dX0_isUp_44 rfl (lv_at hl 1 rfl) ?_
        refine lv_icmp_le (tgt := 64) hx hb dX0_isUp_45 (by decide) (fun hc14 => ?_) (fun hc14 => ?_)
        · have hf := itp hc14 hf
          exact b0_isUp_64 C0 ih G (lv_sub hl [0, 1, 2, 3, 4] rfl) hf
        · have hf := itn hc14 hf
          refine lv_goto (tgt := 62) hx hb dX0_isUp_48 (by decide) ?_
          refine lv_iconst (v := (0 : Int32)) hx hb dX0_isUp_62 (by decide) ?_
          obtain rfl := inj1 hf
          exact ret_z C0 G rfl dX0_isUp_63
set_option maxHeartbeats 4000000 in
set_option maxRecDepth 100000 in
theorem b0_isUp_0 {ta adK adV : Nat → Nat} {p : Program} {l : Launch} {e : Env} {s : State} {m : MethodId} {args : Array Value} {below : List Frame} {meth : Method} {c : Code} {D : va_G} {cI cB cG cS : ClassId} {ad : Nat → Nat} {A : Nat → Prop} {hp : Nat → Int32} {st : Nat → Int32} {tr : Nat → Nat → Int32} {sp : Nat → Int32} {vis : Int32} {day : Int32} {z : Int32} {r0 : Int32} (C0 : CX (XS ta adK adV) p s m args meth c cX0_isUp 6 (some .boolean) RX0 A) : ∀ {v1 : Int32} {H : Heap} {locs : List Loc} {ls : Array Slot}, GX (XS ta adK adV) D (tyC cI cB cG cS) A s (wP cI cG ad hp st tr sp vis day z) H locs → lv_has ls 6 [(0, .ref (ad 0)), (1, .int v1)] → f0_isUp hp st tr v1 = some r0 → W p l e ({ frames := 2, cells := 0, slots := 0, locals := 35 }) s m args below meth c H locs 0 0 (MQ below (QcI D (tyC cI cB cG cS) (wP cI cG ad hp st tr sp vis day z) A r0) args s 0 0 A) (F0 m 0 ls []) := by
  have hx := C0.1
  have hb := C0.2.1
  have hown := C0.2.2.2.2.1
  have hts := C0.2.2.2.2.2.1
  have hX := C0.2.2.2.2.2.2.2.2
  intro v1 H locs ls G hl hf
  unfold f0_isUp at hf
  refine lv_aload_n hx hb dX0_isUp_0 rfl (lv_at hl 0 rfl) ?_
  refine lv_iload_n hx hb dX0_isUp_1 rfl (lv_at hl 1 rfl) ?_
  obtain ⟨r1, hc2, hf⟩ := ob1_s hf
  refine go_i C0 G (runV_of (n := 1) (q0 := 0) (As := [.int v1]) (rest := []) C0 G (c0_raisesOf hX hc2) q269 q50 q278 q267 q268 o0_raisesOf ⟨rfl, rfl⟩ ⟨Nat.le_of_ble_eq_true rfl, Nat.le_of_ble_eq_true rfl⟩ rfl rfl rfl hl.1 rfl (Nat.le_of_ble_eq_true rfl) dX0_isUp_2) (fun H locs G => ?_)
  refine lv_istore_n (lv' := [(2, .int r1), (0, .ref (ad 0)), (1, .int v1)]) hx hb dX0_isUp_5 rfl hl (by decide) rfl (fun ls hl => ?_)
  refine lv_aload_n hx hb dX0_isUp_6 rfl (lv_at hl 1 rfl) ?_
  refine lv_iload_n hx hb dX0_isUp_7 rfl (lv_at hl 2 rfl) ?_
  obtain ⟨r3, hc4, hf⟩ := ob1_s hf
  refine go_i C0 G (runV_of (n := 1) (q0 := 0) (As := [.int v1]) (rest := []) C0 G (c0_greatestCell hX hc4) q228 q50 q225 q226 q227 o0_greatestCell ⟨rfl, rfl⟩ ⟨Nat.le_of_ble_eq_true rfl, Nat.le_of_ble_eq_true rfl⟩ rfl rfl rfl hl.1 rfl (Nat.le_of_ble_eq_true rfl) dX0_isUp_8) (fun H locs G => ?_)
  refine lv_istore_n (lv' := [(3, .int r3), (2, .int r1), (0, .ref (ad 0)), (1, .int v1)]) hx hb dX0_isUp_11 rfl hl (by decide) rfl (fun ls hl => ?_)
  refine lv_aload_n hx hb dX0_isUp_12 rfl (lv_at hl 2 rfl) ?_
  refine lv_iload_n hx hb dX0_isUp_13 rfl (lv_at hl 3 rfl) ?_
  obtain ⟨r5, hc6, hf⟩ := ob1_s hf
  refine go_i C0 G (runV_of (n := 1) (q0 := 0) (As := [.int v1]) (rest := []) C0 G (c0_isDigger hX hc6) q282 q50 q279 q280 q281 o0_isDigger ⟨rfl, rfl⟩ ⟨Nat.le_of_ble_eq_true rfl, Nat.le_of_ble_eq_true rfl⟩ rfl rfl rfl hl.1 rfl (Nat.le_of_ble_eq_true rfl) dX0_isUp_14) (fun H locs G => ?_)
  refine lv_istore (lv' := [(4, .int r5), (3, .int r3), (2, .int r1), (0, .ref (ad 0)), (1, .int v1)]) hx hb dX0_isUp_17 hl (by decide) rfl (fun ls hl => ?_)
  refine lv_aload_n hx hb dX0_isUp_19 rfl (lv_at hl 3 rfl) ?_
  refine lv_iload_n hx hb dX0_isUp_20 rfl (lv_at hl 4 rfl) ?_
  obtain ⟨r7, hc8, hf⟩ := ob1_s hf
  refine go_i C0 G (runV_of (n := 1) (q0 := 0) (As := [.int v1]) (rest := []) C0 G (c0_leastCell hX hc8) q221 q50 q218 q219 q220 o0_leastCell ⟨rfl, rfl⟩ ⟨Nat.le_of_ble_eq_true rfl, Nat.le_of_ble_eq_true rfl⟩ rfl rfl rfl hl.1 rfl (Nat.le_of_ble_eq_true rfl) dX0_isUp_21) (fun H locs G => ?_)
  refine lv_istore (lv' := [(5, .int r7), (4, .int r5), (3, .int r3), (2, .int r1), (0, .ref (ad 0)), (1, .int v1)]) hx hb dX0_isUp_24 hl (by decide) rfl (fun ls hl => ?_)
  exact b0_isUp_26 C0  1000 G (lv_sub hl [4, 3, 2, 1, 0] rfl) hf
theorem o0_isUp : okName yX0_isUp 1 := ⟨by decide, by decide, by decide +kernel⟩
set_option maxHeartbeats 4000000 in
set_option maxRecDepth 100000 in
theorem c0_isUp {ta adK adV : Nat → Nat} (hX : XT (XS ta adK adV)) {l : Launch} {D : va_G} {cI cB cG cS : ClassId} {ad : Nat → Nat} {sz : Nat} {hp : Nat → Int32} {st : Nat → Int32} {tr : Nat → Nat → Int32} {sp : Nat → Int32} {vis : Int32} {day : Int32} {z : Int32} {v1 : Int32} {r0 : Int32} (hf : f0_isUp hp st tr v1 = some r0) : Met l yX0_isUp (wU yX0_isUp cX0_isUp 6 (some .boolean)) ({ frames := 2, cells := 0, slots := 0, locals := 35 }) (va_Pc [.ref (ad 0), .int v1] (PreW (XS ta adK adV) D (tyC cI cB cG cS) (wP cI cG ad hp st tr sp vis day z) sz)) (QcI D (tyC cI cB cG cS) (wP cI cG ad hp st tr sp vis day z) (va_A (wP cI cG ad hp st tr sp vis day z) sz) r0) 0 0 (va_A (wP cI cG ad hp st tr sp vis day z) sz) := by
  refine startW hX (own := RX0) (by decide) rfl (Nat.le_of_ble_eq_true rfl) (fun p e s m args below meth c ls C0 G hl => ?_)
  exact b0_isUp_0 C0 G hl hf
/-! 0_heapUp -/
theorem dX0_heapUp_0 : decode cX0_heapUp 0 = .ok (.aload_n 0, 1) := by decide +kernel
theorem dX0_heapUp_1 : decode cX0_heapUp 1 = .ok (.iload_n 1, 1) := by decide +kernel
theorem dX0_heapUp_2 : decode cX0_heapUp 2 = .ok (.invokevirtual 68, 3) := by decide +kernel
theorem dX0_heapUp_5 : decode cX0_heapUp 5 = .ok (.istore_n 2, 1) := by decide +kernel
theorem dX0_heapUp_6 : decode cX0_heapUp 6 = .ok (.aload_n 0, 1) := by decide +kernel
theorem dX0_heapUp_7 : decode cX0_heapUp 7 = .ok (.iload_n 1, 1) := by decide +kernel
theorem dX0_heapUp_8 : decode cX0_heapUp 8 = .ok (.invokevirtual 61, 3) := by decide +kernel
theorem dX0_heapUp_11 : decode cX0_heapUp 11 = .ok (.istore_n 3, 1) := by decide +kernel
theorem dX0_heapUp_12 : decode cX0_heapUp 12 = .ok (.aload_n 0, 1) := by decide +kernel
theorem dX0_heapUp_13 : decode cX0_heapUp 13 = .ok (.iload_n 1, 1) := by decide +kernel
theorem dX0_heapUp_14 : decode cX0_heapUp 14 = .ok (.invokevirtual 87, 3) := by decide +kernel
theorem dX0_heapUp_17 : decode cX0_heapUp 17 = .ok (.aload_n 0, 1) := by decide +kernel
theorem dX0_heapUp_18 : decode cX0_heapUp 18 = .ok (.getfield 15, 3) := by decide +kernel
theorem dX0_heapUp_21 : decode cX0_heapUp 21 = .ok (.iconst 0, 1) := by decide +kernel
theorem dX0_heapUp_22 : decode cX0_heapUp 22 = .ok (.iaload, 1) := by decide +kernel
theorem dX0_heapUp_23 : decode cX0_heapUp 23 = .ok (.invokestatic 58, 3) := by decide +kernel
theorem dX0_heapUp_26 : decode cX0_heapUp 26 = .ok (.istore 4, 2) := by decide +kernel
theorem dX0_heapUp_28 : decode cX0_heapUp 28 = .ok (.iload 4, 2) := by decide +kernel
theorem dX0_heapUp_30 : decode cX0_heapUp 30 = .ok (.istore 5, 2) := by decide +kernel
theorem dX0_heapUp_32 : decode cX0_heapUp 32 = .ok (.aload_n 0, 1) := by decide +kernel
theorem dX0_heapUp_33 : decode cX0_heapUp 33 = .ok (.iload_n 1, 1) := by decide +kernel
theorem dX0_heapUp_34 : decode cX0_heapUp 34 = .ok (.invokevirtual 65, 3) := by decide +kernel
theorem dX0_heapUp_37 : decode cX0_heapUp 37 = .ok (.istore 6, 2) := by decide +kernel
theorem dX0_heapUp_39 : decode cX0_heapUp 39 = .ok (.iload 6, 2) := by decide +kernel
theorem dX0_heapUp_41 : decode cX0_heapUp 41 = .ok (.iload_n 3, 1) := by decide +kernel
theorem dX0_heapUp_42 : decode cX0_heapUp 42 = .ok (.if_icmp .gt 48, 3) := by decide +kernel
theorem dX0_heapUp_45 : decode cX0_heapUp 45 = .ok (.iconst 0, 1) := by decide +kernel
theorem dX0_heapUp_46 : decode cX0_heapUp 46 = .ok (.iload 5, 2) := by decide +kernel
theorem dX0_heapUp_48 : decode cX0_heapUp 48 = .ok (.iload_n 2, 1) := by decide +kernel
theorem dX0_heapUp_49 : decode cX0_heapUp 49 = .ok (.aload_n 0, 1) := by decide +kernel
theorem dX0_heapUp_50 : decode cX0_heapUp 50 = .ok (.getfield 9, 3) := by decide +kernel
theorem dX0_heapUp_53 : decode cX0_heapUp 53 = .ok (.iload 6, 2) := by decide +kernel
theorem dX0_heapUp_55 : decode cX0_heapUp 55 = .ok (.iaload, 1) := by decide +kernel
theorem dX0_heapUp_56 : decode cX0_heapUp 56 = .ok (.isub, 1) := by decide +kernel
theorem dX0_heapUp_57 : decode cX0_heapUp 57 = .ok (.invokestatic 58, 3) := by decide +kernel
theorem dX0_heapUp_60 : decode cX0_heapUp 60 = .ok (.invokestatic 52, 3) := by decide +kernel
theorem dX0_heapUp_63 : decode cX0_heapUp 63 = .ok (.istore 7, 2) := by decide +kernel
theorem dX0_heapUp_65 : decode cX0_heapUp 65 = .ok (.aload_n 0, 1) := by decide +kernel
theorem dX0_heapUp_66 : decode cX0_heapUp 66 = .ok (.getfield 9, 3) := by decide +kernel
theorem dX0_heapUp_69 : decode cX0_heapUp 69 = .ok (.iload 6, 2) := by decide +kernel
theorem dX0_heapUp_71 : decode cX0_heapUp 71 = .ok (.dup2, 1) := by decide +kernel
theorem dX0_heapUp_72 : decode cX0_heapUp 72 = .ok (.iaload, 1) := by decide +kernel
theorem dX0_heapUp_73 : decode cX0_heapUp 73 = .ok (.iload 7, 2) := by decide +kernel
theorem dX0_heapUp_75 : decode cX0_heapUp 75 = .ok (.iadd, 1) := by decide +kernel
theorem dX0_heapUp_76 : decode cX0_heapUp 76 = .ok (.iastore, 1) := by decide +kernel
theorem dX0_heapUp_77 : decode cX0_heapUp 77 = .ok (.iload 5, 2) := by decide +kernel
theorem dX0_heapUp_79 : decode cX0_heapUp 79 = .ok (.iload 7, 2) := by decide +kernel
theorem dX0_heapUp_81 : decode cX0_heapUp 81 = .ok (.isub, 1) := by decide +kernel
theorem dX0_heapUp_82 : decode cX0_heapUp 82 = .ok (.istore 5, 2) := by decide +kernel
theorem dX0_heapUp_84 : decode cX0_heapUp 84 = .ok (.iinc 6 1, 3) := by decide +kernel
theorem dX0_heapUp_87 : decode cX0_heapUp 87 = .ok (.goto (-48), 3) := by decide +kernel
theorem dX0_heapUp_90 : decode cX0_heapUp 90 = .ok (.aload_n 0, 1) := by decide +kernel
theorem dX0_heapUp_91 : decode cX0_heapUp 91 = .ok (.getfield 15, 3) := by decide +kernel
theorem dX0_heapUp_94 : decode cX0_heapUp 94 = .ok (.iconst 0, 1) := by decide +kernel
theorem dX0_heapUp_95 : decode cX0_heapUp 95 = .ok (.dup2, 1) := by decide +kernel
theorem dX0_heapUp_96 : decode cX0_heapUp 96 = .ok (.iaload, 1) := by decide +kernel
theorem dX0_heapUp_97 : decode cX0_heapUp 97 = .ok (.iload 4, 2) := by decide +kernel
theorem dX0_heapUp_99 : decode cX0_heapUp 99 = .ok (.iload 5, 2) := by decide +kernel
theorem dX0_heapUp_101 : decode cX0_heapUp 101 = .ok (.isub, 1) := by decide +kernel
theorem dX0_heapUp_102 : decode cX0_heapUp 102 = .ok (.isub, 1) := by decide +kernel
theorem dX0_heapUp_103 : decode cX0_heapUp 103 = .ok (.iastore, 1) := by decide +kernel
theorem dX0_heapUp_104 : decode cX0_heapUp 104 = .ok (.iload 4, 2) := by decide +kernel
theorem dX0_heapUp_106 : decode cX0_heapUp 106 = .ok (.iload 5, 2) := by decide +kernel
theorem dX0_heapUp_108 : decode cX0_heapUp 108 = .ok (.isub, 1) := by decide +kernel
theorem dX0_heapUp_109 : decode cX0_heapUp 109 = .ok (.ireturn, 1) := by decide +kernel
def l0_heapUp_39  : Nat → (Nat → Int32) → (Nat → Int32) → (Nat → Nat → Int32) → Int32 → Int32 → Int32 → Int32 → Int32 → Option (Int32 × (Nat → Int32) × (Nat → Int32))
  | 0, _, _, _, _, _, _, _, _ => none
  | n + 1, hp, st, tr, v2, v3, v4, v5, v6 =>
    if v3 < v6 then (
      some ((v4 - v5), hp, (upd st 0 ((st 0) - (v4 - v5)))))
    else (
      gd (inb v6 16) (
      gd (inb v6 16) (
      gd (inb v6 16) (
      (l0_heapUp_39 n) (upd hp v6.toNatClampNeg ((hp v6.toNatClampNeg) + (jmax (0 : Int32) (jmin v5 (v2 - (hp v6.toNatClampNeg)))))) st tr v2 v3 v4 (v5 - (jmax (0 : Int32) (jmin v5 (v2 - (hp v6.toNatClampNeg))))) (v6 + (1 : Int32))))))
def f0_heapUp (hp : Nat → Int32) (st : Nat → Int32) (tr : Nat → Nat → Int32) (v1 : Int32) : Option (Int32 × (Nat → Int32) × (Nat → Int32)) :=
  ob1 (f0_raisesOf st tr v1) (fun r1 =>
  ob1 (f0_greatestCell tr v1) (fun r3 =>
  ob1 (f0_movesOf st tr v1) (fun r5 =>
  ob1 (f0_leastCell tr v1) (fun r7 =>
  l0_heapUp_39 1000 hp st tr r1 r3 (jmin r5 (st 0)) (jmin r5 (st 0)) r7))))
set_option maxHeartbeats 4000000 in
set_option maxRecDepth 100000 in
theorem b0_heapUp_39 {ta adK adV : Nat → Nat} {p : Program} {l : Launch} {e : Env} {s : State} {m : MethodId} {args : Array Value} {below : List Frame} {meth : Method} {c : Code} {D : va_G} {cI cB cG cS : ClassId} {ad : Nat → Nat} {A : Nat → Prop} {tr : Nat → Nat → Int32} {sp : Nat → Int32} {vis : Int32} {day : Int32} {z : Int32} {r0 : Int32} {o_hp : Nat → Int32} {o_st : Nat → Int32} (C0 : CX (XS ta adK adV) p s m args meth c cX0_heapUp 8 (some .int) RX0 A) : ∀ (n : Nat) {hp : Nat → Int32} {st : Nat → Int32} {v2 : Int32} {v3 : Int32} {v4 : Int32} {v5 : Int32} {v6 : Int32} {H : Heap} {locs : List Loc} {ls : Array Slot}, GX (XS ta adK adV) D (tyC cI cB cG cS) A s (wP cI cG ad hp st tr sp vis day z) H locs → lv_has ls 8 [(0, .ref (ad 0)), (2, .int v2), (3, .int v3), (4, .int v4), (5, .int v5), (6, .int v6)] → l0_heapUp_39  n hp st tr v2 v3 v4 v5 v6 = some (r0, o_hp, o_st) → W p l e ({ frames := 2, cells := 0, slots := 0, locals := 35 }) s m args below meth c H locs 0 0 (MQ below (QcI D (tyC cI cB cG cS) (wP cI cG ad o_hp o_st tr sp vis day z) A r0) args s 0 0 A) (F0 m 39 ls []) := by
  have hx := C0.1
  have hb := C0.2.1
  have hown := C0.2.2.2.2.1
  have hts := C0.2.2.2.2.2.1
  have hX := C0.2.2.2.2.2.2.2.2
  intro n
  induction n with
  | zero =>
    intro _ _ _ _ _ _ _ _ _ _ G hl hf
    cases hf
  | succ n ih =>
    intro hp st v2 v3 v4 v5 v6 H locs ls G hl hf
    rw [l0_heapUp_39] at hf
    refine lv_iload hx hb dX0_heapUp_39 (lv_at hl 5 rfl) ?_
    refine lv_iload_n hx hb dX0_heapUp_41 rfl (lv_at hl 2 rfl) ?_
    refine lv_icmp_gt (tgt := 90) hx hb dX0_heapUp_42 (by decide) (fun hc9 => ?_) (fun hc9 => ?_)
    · have hf := itp hc9 hf
      refine lv_aload_n hx hb dX0_heapUp_90 rfl (lv_at hl 0 rfl) ?_
      refine s_get (C := RX0) (T := TX0) C0 G i_X0 0 1 rfl rfl (by decide) q83 rfl dX0_heapUp_91 ?_
      refine lv_iconst (v := (0 : Int32)) hx hb dX0_heapUp_94 (by decide) ?_
      refine lv_dup2_11 hx hb dX0_heapUp_95 rfl rfl ?_
      refine s_iald (k := 0) C0 G 2 0 rfl rfl (vin (by decide)) (by decide) dX0_heapUp_96 ?_
      refine lv_iload hx hb dX0_heapUp_97 (lv_at hl 3 rfl) ?_
      refine lv_iload hx hb dX0_heapUp_99 (lv_at hl 4 rfl) ?_
      refine lv_isub hx hb dX0_heapUp_101 ?_
      refine lv_isub hx hb dX0_heapUp_102 ?_
      refine s_iast (k := 0) (w' := (wP cI cG ad hp (upd st 0 ((st 0) - (v4 - v5))) tr sp vis day z)) C0 G 2 0 rfl rfl (vin (by decide)) (by decide) rfl dX0_heapUp_103 (fun H locs G => ?_)
      refine lv_iload hx hb dX0_heapUp_104 (lv_at hl 3 rfl) ?_
      refine lv_iload hx hb dX0_heapUp_106 (lv_at hl 4 rfl) ?_
      refine lv_isub hx hb dX0_heapUp_108 ?_
      obtain ⟨rfl, rfl, rfl⟩ := inj3 hf
      exact ret_i C0 G dX0_heapUp_109
    · have hf := itn hc9 hf
      refine lv_iconst (v := (0 : Int32)) hx hb dX0_heapUp_45 (by decide) ?_
      refine lv_iload hx hb dX0_heapUp_46 (lv_at hl 4 rfl) ?_
      refine lv_iload_n hx hb dX0_heapUp_48 rfl (lv_at hl 1 rfl) ?_
      refine lv_aload_n hx hb dX0_heapUp_49 rfl (lv_at hl 0 rfl) ?_
      refine s_get (C := RX0) (T := TX0) C0 G i_X0 0 0 rfl rfl (by decide) q80 rfl dX0_heapUp_50 ?_
      refine lv_iload hx hb dX0_heapUp_53 (lv_at hl 5 rfl) ?_
      obtain ⟨hi10, hf⟩ := gd_s hf
      refine s_iald (k := v6.toNatClampNeg) C0 G 1 0 rfl rfl (vin hi10) rfl dX0_heapUp_55 ?_
      refine lv_isub hx hb dX0_heapUp_56 ?_
      refine s_min C0 hl.1 q229 ⟨Nat.le_of_ble_eq_true rfl, Nat.le_of_ble_eq_true rfl⟩ dX0_heapUp_57 ?_
      refine s_max C0 hl.1 q222 ⟨Nat.le_of_ble_eq_true rfl, Nat.le_of_ble_eq_true rfl⟩ dX0_heapUp_60 ?_
      refine lv_istore (lv' := [(7, .int (jmax (0 : Int32) (jmin v5 (v2 - (hp v6.toNatClampNeg))))), (0, .ref (ad 0)), (2, .int v2), (3, .int v3), (4, .int v4), (5, .int v5), (6, .int v6)]) hx hb dX0_heapUp_63 hl (by decide) rfl (fun ls hl => ?_)
      refine lv_aload_n hx hb dX0_heapUp_65 rfl (lv_at hl 1 rfl) ?_
      refine s_get (C := RX0) (T := TX0) C0 G i_X0 0 0 rfl rfl (by decide) q80 rfl dX0_heapUp_66 ?_
      refine lv_iload hx hb dX0_heapUp_69 (lv_at hl 6 rfl) ?_
      refine lv_dup2_11 hx hb dX0_heapUp_71 rfl rfl ?_
      obtain ⟨hi11, hf⟩ := gd_s hf
      refine s_iald (k := v6.toNatClampNeg) C0 G 1 0 rfl rfl (vin hi11) rfl dX0_heapUp_72 ?_
      refine lv_iload hx hb dX0_heapUp_73 (lv_at hl 0 rfl) ?_
      refine lv_iadd hx hb dX0_heapUp_75 ?_
      obtain ⟨hi12, hf⟩ := gd_s hf
      refine s_iast (k := v6.toNatClampNeg) (w' := (wP cI cG ad (upd hp v6.toNatClampNeg ((hp v6.toNatClampNeg) + (jmax (0 : Int32) (jmin v5 (v2 - (hp v6.toNatClampNeg)))))) st tr sp vis day z)) C0 G 1 0 rfl rfl (vin hi12) rfl rfl dX0_heapUp_76 (fun H locs G => ?_)
      refine lv_iload hx hb dX0_heapUp_77 (lv_at hl 5 rfl) ?_
      refine lv_iload hx hb dX0_heapUp_79 (lv_at hl 0 rfl) ?_
      refine lv_isub hx hb dX0_heapUp_81 ?_
      refine lv_istore (lv' := [(5, .int (v5 - (jmax (0 : Int32) (jmin v5 (v2 - (hp v6.toNatClampNeg)))))), (7, .int (jmax (0 : Int32) (jmin v5 (v2 - (hp v6.toNatClampNeg))))), (0, .ref (ad 0)), (2, .int v2), (3, .int v3), (4, .int v4), (6, .int v6)]) hx hb dX0_heapUp_82 hl (by decide) rfl (fun ls hl => ?_)
      refine lv_iinc (v := (v6 + (1 : Int32))) (lv' := [(6, .int (v6 + (1 : Int32))), (5, .int (v5 - (jmax (0 : Int32) (jmin v5 (v2 - (hp v6.toNatClampNeg)))))), (7, .int (jmax (0 : Int32) (jmin v5 (v2 - (hp v6.toNatClampNeg))))), (0, .ref (ad 0)), (2, .int v2), (3, .int v3), (4, .int v4)]) hx hb dX0_heapUp_84 hl (k := 6) rfl rfl (by decide) rfl (fun ls hl => ?_)
      refine lv_goto (tgt := 39) hx hb dX0_heapUp_87 (by decide) ?_
      exact ih G (lv_sub hl [3, 4, 5, 6, 1, 0] rfl) hf
set_option maxHeartbeats 4000000 in
set_option maxRecDepth 100000 in
theorem b0_heapUp_0 {ta adK adV : Nat → Nat} {p : Program} {l : Launch} {e : Env} {s : State} {m : MethodId} {args : Array Value} {below : List Frame} {meth : Method} {c : Code} {D : va_G} {cI cB cG cS : ClassId} {ad : Nat → Nat} {A : Nat → Prop} {tr : Nat → Nat → Int32} {sp : Nat → Int32} {vis : Int32} {day : Int32} {z : Int32} {r0 : Int32} {o_hp : Nat → Int32} {o_st : Nat → Int32} (C0 : CX (XS ta adK adV) p s m args meth c cX0_heapUp 8 (some .int) RX0 A) : ∀ {hp : Nat → Int32} {st : Nat → Int32} {v1 : Int32} {H : Heap} {locs : List Loc} {ls : Array Slot}, GX (XS ta adK adV) D (tyC cI cB cG cS) A s (wP cI cG ad hp st tr sp vis day z) H locs → lv_has ls 8 [(0, .ref (ad 0)), (1, .int v1)] → f0_heapUp hp st tr v1 = some (r0, o_hp, o_st) → W p l e ({ frames := 2, cells := 0, slots := 0, locals := 35 }) s m args below meth c H locs 0 0 (MQ below (QcI D (tyC cI cB cG cS) (wP cI cG ad o_hp o_st tr sp vis day z) A r0) args s 0 0 A) (F0 m 0 ls []) := by
  have hx := C0.1
  have hb := C0.2.1
  have hown := C0.2.2.2.2.1
  have hts := C0.2.2.2.2.2.1
  have hX := C0.2.2.2.2.2.2.2.2
  intro hp st v1 H locs ls G hl hf
  unfold f0_heapUp at hf
  refine lv_aload_n hx hb dX0_heapUp_0 rfl (lv_at hl 0 rfl) ?_
  refine lv_iload_n hx hb dX0_heapUp_1 rfl (lv_at hl 1 rfl) ?_
  obtain ⟨r1, hc2, hf⟩ := ob1_s hf
  refine go_i C0 G (runV_of (n := 1) (q0 := 0) (As := [.int v1]) (rest := []) C0 G (c0_raisesOf hX hc2) q269 q50 q278 q267 q268 o0_raisesOf ⟨rfl, rfl⟩ ⟨Nat.le_of_ble_eq_true rfl, Nat.le_of_ble_eq_true rfl⟩ rfl rfl rfl hl.1 rfl (Nat.le_of_ble_eq_true rfl) dX0_heapUp_2) (fun H locs G => ?_)
  refine lv_istore_n (lv' := [(2, .int r1), (0, .ref (ad 0)), (1, .int v1)]) hx hb dX0_heapUp_5 rfl hl (by decide) rfl (fun ls hl => ?_)
  refine lv_aload_n hx hb dX0_heapUp_6 rfl (lv_at hl 1 rfl) ?_
  refine lv_iload_n hx hb dX0_heapUp_7 rfl (lv_at hl 2 rfl) ?_
  obtain ⟨r3, hc4, hf⟩ := ob1_s hf
  refine go_i C0 G (runV_of (n := 1) (q0 := 0) (As := [.int v1]) (rest := []) C0 G (c0_greatestCell hX hc4) q228 q50 q225 q226 q227 o0_greatestCell ⟨rfl, rfl⟩ ⟨Nat.le_of_ble_eq_true rfl, Nat.le_of_ble_eq_true rfl⟩ rfl rfl rfl hl.1 rfl (Nat.le_of_ble_eq_true rfl) dX0_heapUp_8) (fun H locs G => ?_)
  refine lv_istore_n (lv' := [(3, .int r3), (2, .int r1), (0, .ref (ad 0)), (1, .int v1)]) hx hb dX0_heapUp_11 rfl hl (by decide) rfl (fun ls hl => ?_)
  refine lv_aload_n hx hb dX0_heapUp_12 rfl (lv_at hl 2 rfl) ?_
  refine lv_iload_n hx hb dX0_heapUp_13 rfl (lv_at hl 3 rfl) ?_
  obtain ⟨r5, hc6, hf⟩ := ob1_s hf
  refine go_i C0 G (runV_of (n := 1) (q0 := 0) (As := [.int v1]) (rest := []) C0 G (c0_movesOf hX hc6) q273 q50 q306 q271 q272 o0_movesOf ⟨rfl, rfl⟩ ⟨Nat.le_of_ble_eq_true rfl, Nat.le_of_ble_eq_true rfl⟩ rfl rfl rfl hl.1 rfl (Nat.le_of_ble_eq_true rfl) dX0_heapUp_14) (fun H locs G => ?_)
  refine lv_aload_n hx hb dX0_heapUp_17 rfl (lv_at hl 2 rfl) ?_
  refine s_get (C := RX0) (T := TX0) C0 G i_X0 0 1 rfl rfl (by decide) q83 rfl dX0_heapUp_18 ?_
  refine lv_iconst (v := (0 : Int32)) hx hb dX0_heapUp_21 (by decide) ?_
  refine s_iald (k := 0) C0 G 2 0 rfl rfl (vin (by decide)) (by decide) dX0_heapUp_22 ?_
  refine s_min C0 hl.1 q229 ⟨Nat.le_of_ble_eq_true rfl, Nat.le_of_ble_eq_true rfl⟩ dX0_heapUp_23 ?_
  refine lv_istore (lv' := [(4, .int (jmin r5 (st 0))), (3, .int r3), (2, .int r1), (0, .ref (ad 0)), (1, .int v1)]) hx hb dX0_heapUp_26 hl (by decide) rfl (fun ls hl => ?_)
  refine lv_iload hx hb dX0_heapUp_28 (lv_at hl 0 rfl) ?_
  refine lv_istore (lv' := [(5, .int (jmin r5 (st 0))), (4, .int (jmin r5 (st 0))), (3, .int r3), (2, .int r1), (0, .ref (ad 0)), (1, .int v1)]) hx hb dX0_heapUp_30 hl (by decide) rfl (fun ls hl => ?_)
  refine lv_aload_n hx hb dX0_heapUp_32 rfl (lv_at hl 4 rfl) ?_
  refine lv_iload_n hx hb dX0_heapUp_33 rfl (lv_at hl 5 rfl) ?_
  obtain ⟨r7, hc8, hf⟩ := ob1_s hf
  refine go_i C0 G (runV_of (n := 1) (q0 := 0) (As := [.int v1]) (rest := []) C0 G (c0_leastCell hX hc8) q221 q50 q218 q219 q220 o0_leastCell ⟨rfl, rfl⟩ ⟨Nat.le_of_ble_eq_true rfl, Nat.le_of_ble_eq_true rfl⟩ rfl rfl rfl hl.1 rfl (Nat.le_of_ble_eq_true rfl) dX0_heapUp_34) (fun H locs G => ?_)
  refine lv_istore (lv' := [(6, .int r7), (5, .int (jmin r5 (st 0))), (4, .int (jmin r5 (st 0))), (3, .int r3), (2, .int r1), (0, .ref (ad 0)), (1, .int v1)]) hx hb dX0_heapUp_37 hl (by decide) rfl (fun ls hl => ?_)
  exact b0_heapUp_39 C0  1000 G (lv_sub hl [5, 4, 3, 2, 1, 0] rfl) hf
theorem o0_heapUp : okName yX0_heapUp 1 := ⟨by decide, by decide, by decide +kernel⟩
set_option maxHeartbeats 4000000 in
set_option maxRecDepth 100000 in
theorem c0_heapUp {ta adK adV : Nat → Nat} (hX : XT (XS ta adK adV)) {l : Launch} {D : va_G} {cI cB cG cS : ClassId} {ad : Nat → Nat} {sz : Nat} {hp : Nat → Int32} {st : Nat → Int32} {tr : Nat → Nat → Int32} {sp : Nat → Int32} {vis : Int32} {day : Int32} {z : Int32} {v1 : Int32} {r0 : Int32} {o_hp : Nat → Int32} {o_st : Nat → Int32} (hf : f0_heapUp hp st tr v1 = some (r0, o_hp, o_st)) : Met l yX0_heapUp (wU yX0_heapUp cX0_heapUp 8 (some .int)) ({ frames := 2, cells := 0, slots := 0, locals := 35 }) (va_Pc [.ref (ad 0), .int v1] (PreW (XS ta adK adV) D (tyC cI cB cG cS) (wP cI cG ad hp st tr sp vis day z) sz)) (QcI D (tyC cI cB cG cS) (wP cI cG ad o_hp o_st tr sp vis day z) (va_A (wP cI cG ad hp st tr sp vis day z) sz) r0) 0 0 (va_A (wP cI cG ad hp st tr sp vis day z) sz) := by
  refine startW hX (own := RX0) (by decide) rfl (Nat.le_of_ble_eq_true rfl) (fun p e s m args below meth c ls C0 G hl => ?_)
  exact b0_heapUp_0 C0 G hl hf
/-! 0_dig -/
theorem dX0_dig_0 : decode cX0_dig 0 = .ok (.aload_n 0, 1) := by decide +kernel
theorem dX0_dig_1 : decode cX0_dig 1 = .ok (.iload_n 1, 1) := by decide +kernel
theorem dX0_dig_2 : decode cX0_dig 2 = .ok (.invokevirtual 68, 3) := by decide +kernel
theorem dX0_dig_5 : decode cX0_dig 5 = .ok (.istore_n 2, 1) := by decide +kernel
theorem dX0_dig_6 : decode cX0_dig 6 = .ok (.aload_n 0, 1) := by decide +kernel
theorem dX0_dig_7 : decode cX0_dig 7 = .ok (.iload_n 1, 1) := by decide +kernel
theorem dX0_dig_8 : decode cX0_dig 8 = .ok (.invokevirtual 61, 3) := by decide +kernel
theorem dX0_dig_11 : decode cX0_dig 11 = .ok (.istore_n 3, 1) := by decide +kernel
theorem dX0_dig_12 : decode cX0_dig 12 = .ok (.aload_n 0, 1) := by decide +kernel
theorem dX0_dig_13 : decode cX0_dig 13 = .ok (.iload_n 1, 1) := by decide +kernel
theorem dX0_dig_14 : decode cX0_dig 14 = .ok (.invokevirtual 87, 3) := by decide +kernel
theorem dX0_dig_17 : decode cX0_dig 17 = .ok (.istore 4, 2) := by decide +kernel
theorem dX0_dig_19 : decode cX0_dig 19 = .ok (.iload 4, 2) := by decide +kernel
theorem dX0_dig_21 : decode cX0_dig 21 = .ok (.istore 5, 2) := by decide +kernel
theorem dX0_dig_23 : decode cX0_dig 23 = .ok (.aload_n 0, 1) := by decide +kernel
theorem dX0_dig_24 : decode cX0_dig 24 = .ok (.iload_n 1, 1) := by decide +kernel
theorem dX0_dig_25 : decode cX0_dig 25 = .ok (.invokevirtual 65, 3) := by decide +kernel
theorem dX0_dig_28 : decode cX0_dig 28 = .ok (.istore 6, 2) := by decide +kernel
theorem dX0_dig_30 : decode cX0_dig 30 = .ok (.iload 6, 2) := by decide +kernel
theorem dX0_dig_32 : decode cX0_dig 32 = .ok (.iload_n 3, 1) := by decide +kernel
theorem dX0_dig_33 : decode cX0_dig 33 = .ok (.if_icmp .gt 48, 3) := by decide +kernel
theorem dX0_dig_36 : decode cX0_dig 36 = .ok (.iconst 0, 1) := by decide +kernel
theorem dX0_dig_37 : decode cX0_dig 37 = .ok (.iload 5, 2) := by decide +kernel
theorem dX0_dig_39 : decode cX0_dig 39 = .ok (.aload_n 0, 1) := by decide +kernel
theorem dX0_dig_40 : decode cX0_dig 40 = .ok (.getfield 9, 3) := by decide +kernel
theorem dX0_dig_43 : decode cX0_dig 43 = .ok (.iload 6, 2) := by decide +kernel
theorem dX0_dig_45 : decode cX0_dig 45 = .ok (.iaload, 1) := by decide +kernel
theorem dX0_dig_46 : decode cX0_dig 46 = .ok (.iload_n 2, 1) := by decide +kernel
theorem dX0_dig_47 : decode cX0_dig 47 = .ok (.isub, 1) := by decide +kernel
theorem dX0_dig_48 : decode cX0_dig 48 = .ok (.invokestatic 58, 3) := by decide +kernel
theorem dX0_dig_51 : decode cX0_dig 51 = .ok (.invokestatic 52, 3) := by decide +kernel
theorem dX0_dig_54 : decode cX0_dig 54 = .ok (.istore 7, 2) := by decide +kernel
theorem dX0_dig_56 : decode cX0_dig 56 = .ok (.aload_n 0, 1) := by decide +kernel
theorem dX0_dig_57 : decode cX0_dig 57 = .ok (.getfield 9, 3) := by decide +kernel
theorem dX0_dig_60 : decode cX0_dig 60 = .ok (.iload 6, 2) := by decide +kernel
theorem dX0_dig_62 : decode cX0_dig 62 = .ok (.dup2, 1) := by decide +kernel
theorem dX0_dig_63 : decode cX0_dig 63 = .ok (.iaload, 1) := by decide +kernel
theorem dX0_dig_64 : decode cX0_dig 64 = .ok (.iload 7, 2) := by decide +kernel
theorem dX0_dig_66 : decode cX0_dig 66 = .ok (.isub, 1) := by decide +kernel
theorem dX0_dig_67 : decode cX0_dig 67 = .ok (.iastore, 1) := by decide +kernel
theorem dX0_dig_68 : decode cX0_dig 68 = .ok (.iload 5, 2) := by decide +kernel
theorem dX0_dig_70 : decode cX0_dig 70 = .ok (.iload 7, 2) := by decide +kernel
theorem dX0_dig_72 : decode cX0_dig 72 = .ok (.isub, 1) := by decide +kernel
theorem dX0_dig_73 : decode cX0_dig 73 = .ok (.istore 5, 2) := by decide +kernel
theorem dX0_dig_75 : decode cX0_dig 75 = .ok (.iinc 6 1, 3) := by decide +kernel
theorem dX0_dig_78 : decode cX0_dig 78 = .ok (.goto (-48), 3) := by decide +kernel
theorem dX0_dig_81 : decode cX0_dig 81 = .ok (.aload_n 0, 1) := by decide +kernel
theorem dX0_dig_82 : decode cX0_dig 82 = .ok (.getfield 15, 3) := by decide +kernel
theorem dX0_dig_85 : decode cX0_dig 85 = .ok (.iconst 0, 1) := by decide +kernel
theorem dX0_dig_86 : decode cX0_dig 86 = .ok (.getstatic 90, 3) := by decide +kernel
theorem dX0_dig_89 : decode cX0_dig 89 = .ok (.iconst 0, 1) := by decide +kernel
theorem dX0_dig_90 : decode cX0_dig 90 = .ok (.iaload, 1) := by decide +kernel
theorem dX0_dig_91 : decode cX0_dig 91 = .ok (.aload_n 0, 1) := by decide +kernel
theorem dX0_dig_92 : decode cX0_dig 92 = .ok (.getfield 15, 3) := by decide +kernel
theorem dX0_dig_95 : decode cX0_dig 95 = .ok (.iconst 0, 1) := by decide +kernel
theorem dX0_dig_96 : decode cX0_dig 96 = .ok (.iaload, 1) := by decide +kernel
theorem dX0_dig_97 : decode cX0_dig 97 = .ok (.iload 4, 2) := by decide +kernel
theorem dX0_dig_99 : decode cX0_dig 99 = .ok (.iadd, 1) := by decide +kernel
theorem dX0_dig_100 : decode cX0_dig 100 = .ok (.iload 5, 2) := by decide +kernel
theorem dX0_dig_102 : decode cX0_dig 102 = .ok (.isub, 1) := by decide +kernel
theorem dX0_dig_103 : decode cX0_dig 103 = .ok (.invokestatic 58, 3) := by decide +kernel
theorem dX0_dig_106 : decode cX0_dig 106 = .ok (.iastore, 1) := by decide +kernel
theorem dX0_dig_107 : decode cX0_dig 107 = .ok (.iload 4, 2) := by decide +kernel
theorem dX0_dig_109 : decode cX0_dig 109 = .ok (.iload 5, 2) := by decide +kernel
theorem dX0_dig_111 : decode cX0_dig 111 = .ok (.isub, 1) := by decide +kernel
theorem dX0_dig_112 : decode cX0_dig 112 = .ok (.ireturn, 1) := by decide +kernel
def l0_dig_30  : Nat → (Nat → Int32) → (Nat → Int32) → (Nat → Nat → Int32) → Int32 → Int32 → Int32 → Int32 → Int32 → Option (Int32 × (Nat → Int32) × (Nat → Int32))
  | 0, _, _, _, _, _, _, _, _ => none
  | n + 1, hp, st, tr, v2, v3, v4, v5, v6 =>
    if v3 < v6 then (
      some ((v4 - v5), hp, (upd st 0 (jmin (kSM 0) (((st 0) + v4) - v5)))))
    else (
      gd (inb v6 16) (
      gd (inb v6 16) (
      gd (inb v6 16) (
      (l0_dig_30 n) (upd hp v6.toNatClampNeg ((hp v6.toNatClampNeg) - (jmax (0 : Int32) (jmin v5 ((hp v6.toNatClampNeg) - v2))))) st tr v2 v3 v4 (v5 - (jmax (0 : Int32) (jmin v5 ((hp v6.toNatClampNeg) - v2)))) (v6 + (1 : Int32))))))
def f0_dig (hp : Nat → Int32) (st : Nat → Int32) (tr : Nat → Nat → Int32) (v1 : Int32) : Option (Int32 × (Nat → Int32) × (Nat → Int32)) :=
  ob1 (f0_raisesOf st tr v1) (fun r1 =>
  ob1 (f0_greatestCell tr v1) (fun r3 =>
  ob1 (f0_movesOf st tr v1) (fun r5 =>
  ob1 (f0_leastCell tr v1) (fun r7 =>
  l0_dig_30 1000 hp st tr r1 r3 r5 r5 r7))))
set_option maxHeartbeats 4000000 in
set_option maxRecDepth 100000 in
theorem b0_dig_30 {ta adK adV : Nat → Nat} {p : Program} {l : Launch} {e : Env} {s : State} {m : MethodId} {args : Array Value} {below : List Frame} {meth : Method} {c : Code} {D : va_G} {cI cB cG cS : ClassId} {ad : Nat → Nat} {A : Nat → Prop} {tr : Nat → Nat → Int32} {sp : Nat → Int32} {vis : Int32} {day : Int32} {z : Int32} {r0 : Int32} {o_hp : Nat → Int32} {o_st : Nat → Int32} (C0 : CX (XS ta adK adV) p s m args meth c cX0_dig 8 (some .int) RX0 A) : ∀ (n : Nat) {hp : Nat → Int32} {st : Nat → Int32} {v2 : Int32} {v3 : Int32} {v4 : Int32} {v5 : Int32} {v6 : Int32} {H : Heap} {locs : List Loc} {ls : Array Slot}, GX (XS ta adK adV) D (tyC cI cB cG cS) A s (wP cI cG ad hp st tr sp vis day z) H locs → lv_has ls 8 [(0, .ref (ad 0)), (2, .int v2), (3, .int v3), (4, .int v4), (5, .int v5), (6, .int v6)] → l0_dig_30  n hp st tr v2 v3 v4 v5 v6 = some (r0, o_hp, o_st) → W p l e ({ frames := 2, cells := 0, slots := 0, locals := 35 }) s m args below meth c H locs 0 0 (MQ below (QcI D (tyC cI cB cG cS) (wP cI cG ad o_hp o_st tr sp vis day z) A r0) args s 0 0 A) (F0 m 30 ls []) := by
  have hx := C0.1
  have hb := C0.2.1
  have hown := C0.2.2.2.2.1
  have hts := C0.2.2.2.2.2.1
  have hX := C0.2.2.2.2.2.2.2.2
  intro n
  induction n with
  | zero =>
    intro _ _ _ _ _ _ _ _ _ _ G hl hf
    cases hf
  | succ n ih =>
    intro hp st v2 v3 v4 v5 v6 H locs ls G hl hf
    rw [l0_dig_30] at hf
    refine lv_iload hx hb dX0_dig_30 (lv_at hl 5 rfl) ?_
    refine lv_iload_n hx hb dX0_dig_32 rfl (lv_at hl 2 rfl) ?_
    refine lv_icmp_gt (tgt := 81) hx hb dX0_dig_33 (by decide) (fun hc9 => ?_) (fun hc9 => ?_)
    · have hf := itp hc9 hf
      refine lv_aload_n hx hb dX0_dig_81 rfl (lv_at hl 0 rfl) ?_
      refine s_get (C := RX0) (T := TX0) C0 G i_X0 0 1 rfl rfl (by decide) q83 rfl dX0_dig_82 ?_
      refine lv_iconst (v := (0 : Int32)) hx hb dX0_dig_85 (by decide) ?_
      refine s_getsN C0 G (xa_1 G.2.2.2.2) (xn_307 G.2.2.2.2.2.1) dX0_dig_86 ?_
      refine lv_iconst (v := (0 : Int32)) hx hb dX0_dig_89 (by decide) ?_
      refine s_ti (k := 0) C0 G (xa_1 G.2.2.2.2) (vin (by decide)) (by decide) dX0_dig_90 ?_
      refine lv_aload_n hx hb dX0_dig_91 rfl (lv_at hl 0 rfl) ?_
      refine s_get (C := RX0) (T := TX0) C0 G i_X0 0 1 rfl rfl (by decide) q83 rfl dX0_dig_92 ?_
      refine lv_iconst (v := (0 : Int32)) hx hb dX0_dig_95 (by decide) ?_
      refine s_iald (k := 0) C0 G 2 0 rfl rfl (vin (by decide)) (by decide) dX0_dig_96 ?_
      refine lv_iload hx hb dX0_dig_97 (lv_at hl 3 rfl) ?_
      refine lv_iadd hx hb dX0_dig_99 ?_
      refine lv_iload hx hb dX0_dig_100 (lv_at hl 4 rfl) ?_
      refine lv_isub hx hb dX0_dig_102 ?_
      refine s_min C0 hl.1 q229 ⟨Nat.le_of_ble_eq_true rfl, Nat.le_of_ble_eq_true rfl⟩ dX0_dig_103 ?_
      refine s_iast (k := 0) (w' := (wP cI cG ad hp (upd st 0 (jmin (kSM 0) (((st 0) + v4) - v5))) tr sp vis day z)) C0 G 2 0 rfl rfl (vin (by decide)) (by decide) rfl dX0_dig_106 (fun H locs G => ?_)
      refine lv_iload hx hb dX0_dig_107 (lv_at hl 3 rfl) ?_
      refine lv_iload hx hb dX0_dig_109 (lv_at hl 4 rfl) ?_
      refine lv_isub hx hb dX0_dig_111 ?_
      obtain ⟨rfl, rfl, rfl⟩ := inj3 hf
      exact ret_i C0 G dX0_dig_112
    · have hf := itn hc9 hf
      refine lv_iconst (v := (0 : Int32)) hx hb dX0_dig_36 (by decide) ?_
      refine lv_iload hx hb dX0_dig_37 (lv_at hl 4 rfl) ?_
      refine lv_aload_n hx hb dX0_dig_39 rfl (lv_at hl 0 rfl) ?_
      refine s_get (C := RX0) (T := TX0) C0 G i_X0 0 0 rfl rfl (by decide) q80 rfl dX0_dig_40 ?_
      refine lv_iload hx hb dX0_dig_43 (lv_at hl 5 rfl) ?_
      obtain ⟨hi10, hf⟩ := gd_s hf
      refine s_iald (k := v6.toNatClampNeg) C0 G 1 0 rfl rfl (vin hi10) rfl dX0_dig_45 ?_
      refine lv_iload_n hx hb dX0_dig_46 rfl (lv_at hl 1 rfl) ?_
      refine lv_isub hx hb dX0_dig_47 ?_
      refine s_min C0 hl.1 q229 ⟨Nat.le_of_ble_eq_true rfl, Nat.le_of_ble_eq_true rfl⟩ dX0_dig_48 ?_
      refine s_max C0 hl.1 q222 ⟨Nat.le_of_ble_eq_true rfl, Nat.le_of_ble_eq_true rfl⟩ dX0_dig_51 ?_
      refine lv_istore (lv' := [(7, .int (jmax (0 : Int32) (jmin v5 ((hp v6.toNatClampNeg) - v2)))), (0, .ref (ad 0)), (2, .int v2), (3, .int v3), (4, .int v4), (5, .int v5), (6, .int v6)]) hx hb dX0_dig_54 hl (by decide) rfl (fun ls hl => ?_)
      refine lv_aload_n hx hb dX0_dig_56 rfl (lv_at hl 1 rfl) ?_
      refine s_get (C := RX0) (T := TX0) C0 G i_X0 0 0 rfl rfl (by decide) q80 rfl dX0_dig_57 ?_
      refine lv_iload hx hb dX0_dig_60 (lv_at hl 6 rfl) ?_
      refine lv_dup2_11 hx hb dX0_dig_62 rfl rfl ?_
      obtain ⟨hi11, hf⟩ := gd_s hf
      refine s_iald (k := v6.toNatClampNeg) C0 G 1 0 rfl rfl (vin hi11) rfl dX0_dig_63 ?_
      refine lv_iload hx hb dX0_dig_64 (lv_at hl 0 rfl) ?_
      refine lv_isub hx hb dX0_dig_66 ?_
      obtain ⟨hi12, hf⟩ := gd_s hf
      refine s_iast (k := v6.toNatClampNeg) (w' := (wP cI cG ad (upd hp v6.toNatClampNeg ((hp v6.toNatClampNeg) - (jmax (0 : Int32) (jmin v5 ((hp v6.toNatClampNeg) - v2))))) st tr sp vis day z)) C0 G 1 0 rfl rfl (vin hi12) rfl rfl dX0_dig_67 (fun H locs G => ?_)
      refine lv_iload hx hb dX0_dig_68 (lv_at hl 5 rfl) ?_
      refine lv_iload hx hb dX0_dig_70 (lv_at hl 0 rfl) ?_
      refine lv_isub hx hb dX0_dig_72 ?_
      refine lv_istore (lv' := [(5, .int (v5 - (jmax (0 : Int32) (jmin v5 ((hp v6.toNatClampNeg) - v2))))), (7, .int (jmax (0 : Int32) (jmin v5 ((hp v6.toNatClampNeg) - v2)))), (0, .ref (ad 0)), (2, .int v2), (3, .int v3), (4, .int v4), (6, .int v6)]) hx hb dX0_dig_73 hl (by decide) rfl (fun ls hl => ?_)
      refine lv_iinc (v := (v6 + (1 : Int32))) (lv' := [(6, .int (v6 + (1 : Int32))), (5, .int (v5 - (jmax (0 : Int32) (jmin v5 ((hp v6.toNatClampNeg) - v2))))), (7, .int (jmax (0 : Int32) (jmin v5 ((hp v6.toNatClampNeg) - v2)))), (0, .ref (ad 0)), (2, .int v2), (3, .int v3), (4, .int v4)]) hx hb dX0_dig_75 hl (k := 6) rfl rfl (by decide) rfl (fun ls hl => ?_)
      refine lv_goto (tgt := 30) hx hb dX0_dig_78 (by decide) ?_
      exact ih G (lv_sub hl [3, 4, 5, 6, 1, 0] rfl) hf
set_option maxHeartbeats 4000000 in
set_option maxRecDepth 100000 in
theorem b0_dig_0 {ta adK adV : Nat → Nat} {p : Program} {l : Launch} {e : Env} {s : State} {m : MethodId} {args : Array Value} {below : List Frame} {meth : Method} {c : Code} {D : va_G} {cI cB cG cS : ClassId} {ad : Nat → Nat} {A : Nat → Prop} {tr : Nat → Nat → Int32} {sp : Nat → Int32} {vis : Int32} {day : Int32} {z : Int32} {r0 : Int32} {o_hp : Nat → Int32} {o_st : Nat → Int32} (C0 : CX (XS ta adK adV) p s m args meth c cX0_dig 8 (some .int) RX0 A) : ∀ {hp : Nat → Int32} {st : Nat → Int32} {v1 : Int32} {H : Heap} {locs : List Loc} {ls : Array Slot}, GX (XS ta adK adV) D (tyC cI cB cG cS) A s (wP cI cG ad hp st tr sp vis day z) H locs → lv_has ls 8 [(0, .ref (ad 0)), (1, .int v1)] → f0_dig hp st tr v1 = some (r0, o_hp, o_st) → W p l e ({ frames := 2, cells := 0, slots := 0, locals := 35 }) s m args below meth c H locs 0 0 (MQ below (QcI D (tyC cI cB cG cS) (wP cI cG ad o_hp o_st tr sp vis day z) A r0) args s 0 0 A) (F0 m 0 ls []) := by
  have hx := C0.1
  have hb := C0.2.1
  have hown := C0.2.2.2.2.1
  have hts := C0.2.2.2.2.2.1
  have hX := C0.2.2.2.2.2.2.2.2
  intro hp st v1 H locs ls G hl hf
  unfold f0_dig at hf
  refine lv_aload_n hx hb dX0_dig_0 rfl (lv_at hl 0 rfl) ?_
  refine lv_iload_n hx hb dX0_dig_1 rfl (lv_at hl 1 rfl) ?_
  obtain ⟨r1, hc2, hf⟩ := ob1_s hf
  refine go_i C0 G (runV_of (n := 1) (q0 := 0) (As := [.int v1]) (rest := []) C0 G (c0_raisesOf hX hc2) q269 q50 q278 q267 q268 o0_raisesOf ⟨rfl, rfl⟩ ⟨Nat.le_of_ble_eq_true rfl, Nat.le_of_ble_eq_true rfl⟩ rfl rfl rfl hl.1 rfl (Nat.le_of_ble_eq_true rfl) dX0_dig_2) (fun H locs G => ?_)
  refine lv_istore_n (lv' := [(2, .int r1), (0, .ref (ad 0)), (1, .int v1)]) hx hb dX0_dig_5 rfl hl (by decide) rfl (fun ls hl => ?_)
  refine lv_aload_n hx hb dX0_dig_6 rfl (lv_at hl 1 rfl) ?_
  refine lv_iload_n hx hb dX0_dig_7 rfl (lv_at hl 2 rfl) ?_
  obtain ⟨r3, hc4, hf⟩ := ob1_s hf
  refine go_i C0 G (runV_of (n := 1) (q0 := 0) (As := [.int v1]) (rest := []) C0 G (c0_greatestCell hX hc4) q228 q50 q225 q226 q227 o0_greatestCell ⟨rfl, rfl⟩ ⟨Nat.le_of_ble_eq_true rfl, Nat.le_of_ble_eq_true rfl⟩ rfl rfl rfl hl.1 rfl (Nat.le_of_ble_eq_true rfl) dX0_dig_8) (fun H locs G => ?_)
  refine lv_istore_n (lv' := [(3, .int r3), (2, .int r1), (0, .ref (ad 0)), (1, .int v1)]) hx hb dX0_dig_11 rfl hl (by decide) rfl (fun ls hl => ?_)
  refine lv_aload_n hx hb dX0_dig_12 rfl (lv_at hl 2 rfl) ?_
  refine lv_iload_n hx hb dX0_dig_13 rfl (lv_at hl 3 rfl) ?_
  obtain ⟨r5, hc6, hf⟩ := ob1_s hf
  refine go_i C0 G (runV_of (n := 1) (q0 := 0) (As := [.int v1]) (rest := []) C0 G (c0_movesOf hX hc6) q273 q50 q306 q271 q272 o0_movesOf ⟨rfl, rfl⟩ ⟨Nat.le_of_ble_eq_true rfl, Nat.le_of_ble_eq_true rfl⟩ rfl rfl rfl hl.1 rfl (Nat.le_of_ble_eq_true rfl) dX0_dig_14) (fun H locs G => ?_)
  refine lv_istore (lv' := [(4, .int r5), (3, .int r3), (2, .int r1), (0, .ref (ad 0)), (1, .int v1)]) hx hb dX0_dig_17 hl (by decide) rfl (fun ls hl => ?_)
  refine lv_iload hx hb dX0_dig_19 (lv_at hl 0 rfl) ?_
  refine lv_istore (lv' := [(5, .int r5), (4, .int r5), (3, .int r3), (2, .int r1), (0, .ref (ad 0)), (1, .int v1)]) hx hb dX0_dig_21 hl (by decide) rfl (fun ls hl => ?_)
  refine lv_aload_n hx hb dX0_dig_23 rfl (lv_at hl 4 rfl) ?_
  refine lv_iload_n hx hb dX0_dig_24 rfl (lv_at hl 5 rfl) ?_
  obtain ⟨r7, hc8, hf⟩ := ob1_s hf
  refine go_i C0 G (runV_of (n := 1) (q0 := 0) (As := [.int v1]) (rest := []) C0 G (c0_leastCell hX hc8) q221 q50 q218 q219 q220 o0_leastCell ⟨rfl, rfl⟩ ⟨Nat.le_of_ble_eq_true rfl, Nat.le_of_ble_eq_true rfl⟩ rfl rfl rfl hl.1 rfl (Nat.le_of_ble_eq_true rfl) dX0_dig_25) (fun H locs G => ?_)
  refine lv_istore (lv' := [(6, .int r7), (5, .int r5), (4, .int r5), (3, .int r3), (2, .int r1), (0, .ref (ad 0)), (1, .int v1)]) hx hb dX0_dig_28 hl (by decide) rfl (fun ls hl => ?_)
  exact b0_dig_30 C0  1000 G (lv_sub hl [5, 4, 3, 2, 1, 0] rfl) hf
theorem o0_dig : okName yX0_dig 1 := ⟨by decide, by decide, by decide +kernel⟩
set_option maxHeartbeats 4000000 in
set_option maxRecDepth 100000 in
theorem c0_dig {ta adK adV : Nat → Nat} (hX : XT (XS ta adK adV)) {l : Launch} {D : va_G} {cI cB cG cS : ClassId} {ad : Nat → Nat} {sz : Nat} {hp : Nat → Int32} {st : Nat → Int32} {tr : Nat → Nat → Int32} {sp : Nat → Int32} {vis : Int32} {day : Int32} {z : Int32} {v1 : Int32} {r0 : Int32} {o_hp : Nat → Int32} {o_st : Nat → Int32} (hf : f0_dig hp st tr v1 = some (r0, o_hp, o_st)) : Met l yX0_dig (wU yX0_dig cX0_dig 8 (some .int)) ({ frames := 2, cells := 0, slots := 0, locals := 35 }) (va_Pc [.ref (ad 0), .int v1] (PreW (XS ta adK adV) D (tyC cI cB cG cS) (wP cI cG ad hp st tr sp vis day z) sz)) (QcI D (tyC cI cB cG cS) (wP cI cG ad o_hp o_st tr sp vis day z) (va_A (wP cI cG ad hp st tr sp vis day z) sz) r0) 0 0 (va_A (wP cI cG ad hp st tr sp vis day z) sz) := by
  refine startW hX (own := RX0) (by decide) rfl (Nat.le_of_ble_eq_true rfl) (fun p e s m args below meth c ls C0 G hl => ?_)
  exact b0_dig_0 C0 G hl hf
