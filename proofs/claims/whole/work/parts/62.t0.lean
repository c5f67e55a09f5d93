/-! 3_tokenAt -/
theorem dX3_tokenAt_0 : decode cX3_tokenAt 0 = .ok (.iload_n 1, 1) := by decide +kernel
theorem dX3_tokenAt_1 : decode cX3_tokenAt 1 = .ok (.aload_n 0, 1) := by decide +kernel
theorem dX3_tokenAt_2 : decode cX3_tokenAt 2 = .ok (.getfield 12, 3) := by decide +kernel
theorem dX3_tokenAt_5 : decode cX3_tokenAt 5 = .ok (.getfield 145, 3) := by decide +kernel
theorem dX3_tokenAt_8 : decode cX3_tokenAt 8 = .ok (.if_icmp .lt 5, 3) := by decide +kernel
theorem dX3_tokenAt_11 : decode cX3_tokenAt 11 = .ok (.iconst 0, 1) := by decide +kernel
theorem dX3_tokenAt_12 : decode cX3_tokenAt 12 = .ok (.ireturn, 1) := by decide +kernel
theorem dX3_tokenAt_13 : decode cX3_tokenAt 13 = .ok (.aload_n 0, 1) := by decide +kernel
theorem dX3_tokenAt_14 : decode cX3_tokenAt 14 = .ok (.getfield 12, 3) := by decide +kernel
theorem dX3_tokenAt_17 : decode cX3_tokenAt 17 = .ok (.getfield 141, 3) := by decide +kernel
theorem dX3_tokenAt_20 : decode cX3_tokenAt 20 = .ok (.iload_n 1, 1) := by decide +kernel
theorem dX3_tokenAt_21 : decode cX3_tokenAt 21 = .ok (.baload, 1) := by decide +kernel
theorem dX3_tokenAt_22 : decode cX3_tokenAt 22 = .ok (.istore_n 2, 1) := by decide +kernel
theorem dX3_tokenAt_23 : decode cX3_tokenAt 23 = .ok (.iload_n 2, 1) := by decide +kernel
theorem dX3_tokenAt_24 : decode cX3_tokenAt 24 = .ok (.bipush 97, 2) := by decide +kernel
theorem dX3_tokenAt_26 : decode cX3_tokenAt 26 = .ok (.if_icmp .lt 11, 3) := by decide +kernel
theorem dX3_tokenAt_29 : decode cX3_tokenAt 29 = .ok (.iload_n 2, 1) := by decide +kernel
theorem dX3_tokenAt_30 : decode cX3_tokenAt 30 = .ok (.bipush 122, 2) := by decide +kernel
theorem dX3_tokenAt_32 : decode cX3_tokenAt 32 = .ok (.if_icmp .gt 5, 3) := by decide +kernel
theorem dX3_tokenAt_35 : decode cX3_tokenAt 35 = .ok (.iconst 1, 1) := by decide +kernel
theorem dX3_tokenAt_36 : decode cX3_tokenAt 36 = .ok (.ireturn, 1) := by decide +kernel
theorem dX3_tokenAt_37 : decode cX3_tokenAt 37 = .ok (.iload_n 2, 1) := by decide +kernel
theorem dX3_tokenAt_38 : decode cX3_tokenAt 38 = .ok (.bipush 48, 2) := by decide +kernel
theorem dX3_tokenAt_40 : decode cX3_tokenAt 40 = .ok (.if_icmp .lt 11, 3) := by decide +kernel
theorem dX3_tokenAt_43 : decode cX3_tokenAt 43 = .ok (.iload_n 2, 1) := by decide +kernel
theorem dX3_tokenAt_44 : decode cX3_tokenAt 44 = .ok (.bipush 57, 2) := by decide +kernel
theorem dX3_tokenAt_46 : decode cX3_tokenAt 46 = .ok (.if_icmp .gt 5, 3) := by decide +kernel
theorem dX3_tokenAt_49 : decode cX3_tokenAt 49 = .ok (.iconst 2, 1) := by decide +kernel
theorem dX3_tokenAt_50 : decode cX3_tokenAt 50 = .ok (.ireturn, 1) := by decide +kernel
theorem dX3_tokenAt_51 : decode cX3_tokenAt 51 = .ok (.iload_n 2, 1) := by decide +kernel
theorem dX3_tokenAt_52 : decode cX3_tokenAt 52 = .ok (.bipush 59, 2) := by decide +kernel
theorem dX3_tokenAt_54 : decode cX3_tokenAt 54 = .ok (.if_icmp .ne 7, 3) := by decide +kernel
theorem dX3_tokenAt_57 : decode cX3_tokenAt 57 = .ok (.iconst 3, 1) := by decide +kernel
theorem dX3_tokenAt_58 : decode cX3_tokenAt 58 = .ok (.goto 4, 3) := by decide +kernel
theorem dX3_tokenAt_61 : decode cX3_tokenAt 61 = .ok (.iconst 4, 1) := by decide +kernel
theorem dX3_tokenAt_62 : decode cX3_tokenAt 62 = .ok (.ireturn, 1) := by decide +kernel
def j3_tokenAt_51  (tb : Nat → Int32) (tl : Int32) (v2 : Int32) : Option (Int32) :=
  if v2 = (59 : Int32) then (
    some (3 : Int32))
  else (
    some (4 : Int32))
def j3_tokenAt_37  (tb : Nat → Int32) (tl : Int32) (v2 : Int32) : Option (Int32) :=
  if v2 < (48 : Int32) then (
    j3_tokenAt_51 tb tl v2)
  else (
    if (57 : Int32) < v2 then (
      j3_tokenAt_51 tb tl v2)
    else (
      some (2 : Int32)))
def f3_tokenAt (tb : Nat → Int32) (tl : Int32) (v1 : Int32) : Option (Int32) :=
  if v1 < tl then (
    gd (inb v1 120) (
    if (tb v1.toNatClampNeg) < (97 : Int32) then (
      j3_tokenAt_37 tb tl (tb v1.toNatClampNeg))
    else (
      if (122 : Int32) < (tb v1.toNatClampNeg) then (
        j3_tokenAt_37 tb tl (tb v1.toNatClampNeg))
      else (
        some (1 : Int32)))))
  else (
    some (0 : Int32))
set_option maxHeartbeats 4000000 in
set_option maxRecDepth 100000 in
theorem b3_tokenAt_51 {ta adK adV : Nat → Nat} {p : Program} {l : Launch} {e : Env} {s : State} {m : MethodId} {args : Array Value} {below : List Frame} {meth : Method} {c : Code} {D : va_G} {cI cB cG cS : ClassId} {at_ ad : Nat → Nat} {A : Nat → Prop} {tb : Nat → Int32} {tl : Int32} {rtok : Int32} {rbg : Int32} {ren : Int32} {rvl : Int32} {hp : Nat → Int32} {st : Nat → Int32} {tr : Nat → Nat → Int32} {sp : Nat → Int32} {vis : Int32} {day : Int32} {z : Int32} {r0 : Int32} (C0 : CX (XS ta adK adV) p s m args meth c cX3_tokenAt 3 (some .int) RX3 A) : ∀ {v2 : Int32} {H : Heap} {locs : List Loc} {ls : Array Slot}, GX (XS ta adK adV) D (tyC cI cB cG cS) A s (wT cI cB cG at_ ad tb tl rtok rbg ren rvl hp st tr sp vis day z) H locs → lv_has ls 3 [(2, .int v2)] → j3_tokenAt_51  tb tl v2 = some r0 → W p l e ({ frames := 0, cells := 0, slots := 0, locals := 0 }) s m args below meth c H locs 0 0 (MQ below (QcI D (tyC cI cB cG cS) (wT cI cB cG at_ ad tb tl rtok rbg ren rvl hp st tr sp vis day z) A r0) args s 0 0 A) (F0 m 51 ls []) := by
  have hx := C0.1
  have hb := C0.2.1
  have hown := C0.2.2.2.2.1
  have hts := C0.2.2.2.2.2.1
  have hX := C0.2.2.2.2.2.2.2.2
  intro v2 H locs ls G hl hf
  unfold j3_tokenAt_51 at hf
  refine lv_iload_n hx hb dX3_tokenAt_51 rfl (lv_at hl 0 rfl) ?_
  refine lv_bipush (v := (59 : Int32)) hx hb dX3_tokenAt_52 (by decide) ?_
  refine lv_icmp_ne (tgt := 61) hx hb dX3_tokenAt_54 (by decide) (fun hc7 => ?_) (fun hc7 => ?_)
  · have hf := itn hc7 hf
    refine lv_iconst (v := (4 : Int32)) hx hb dX3_tokenAt_61 (by decide) ?_
    obtain rfl := inj1 hf
    exact ret_i C0 G dX3_tokenAt_62
  · have hf := itp hc7 hf
    refine lv_iconst (v := (3 : Int32)) hx hb dX3_tokenAt_57 (by decide) ?_
    refine lv_goto (tgt := 62) hx hb dX3_tokenAt_58 (by decide) ?_
    obtain rfl := inj1 hf
    exact ret_i C0 G dX3_tokenAt_62
set_option maxHeartbeats 4000000 in
set_option maxRecDepth 100000 in
theorem b3_tokenAt_37 {ta adK adV : Nat → Nat} {p : Program} {l : Launch} {e : Env} {s : State} {m : MethodId} {args : Array Value} {below : List Frame} {meth : Method} {c : Code} {D : va_G} {cI cB cG cS : ClassId} {at_ ad : Nat → Nat} {A : Nat → Prop} {tb : Nat → Int32} {tl : Int32} {rtok : Int32} {rbg : Int32} {ren : Int32} {rvl : Int32} {hp : Nat → Int32} {st : Nat → Int32} {tr : Nat → Nat → Int32} {sp : Nat → Int32} {vis : Int32} {day : Int32} {z : Int32} {r0 : Int32} (C0 : CX (XS ta adK adV) p s m args meth c cX3_tokenAt 3 (some .int) RX3 A) : ∀ {v2 : Int32} {H : Heap} {locs : List Loc} {ls : Array Slot}, GX (XS ta adK adV) D (tyC cI cB cG cS) A s (wT cI cB cG at_ ad tb tl rtok rbg ren rvl hp st tr sp vis day z) H locs → lv_has ls 3 [(2, .int v2)] → j3_tokenAt_37  tb tl v2 = some r0 → W p l e ({ frames := 0, cells := 0, slots := 0, locals := 0 }) s m args below meth c H locs 0 0 (MQ below (QcI D (tyC cI cB cG cS) (wT cI cB cG at_ ad tb tl rtok rbg ren rvl hp st tr sp vis day z) A r0) args s 0 0 A) (F0 m 37 ls []) := by
  have hx := C0.1
  have hb := C0.2.1
  have hown := C0.2.2.2.2.1
  have hts := C0.2.2.2.2.2.1
  have hX := C0.2.2.2.2.2.2.2.2
  intro v2 H locs ls G hl hf
  unfold j3_tokenAt_37 at hf
  refine lv_iload_n hx hb dX3_tokenAt_37 rfl (lv_at hl 0 rfl) ?_
  refine lv_bipush (v := (48 : Int32)) hx hb dX3_tokenAt_38 (by decide) ?_
  refine lv_icmp_lt (tgt := 51) hx hb dX3_tokenAt_40 (by decide) (fun hc5 => ?_) (fun hc5 => ?_)
  · have hf := itp hc5 hf
    exact b3_tokenAt_51 C0  G (lv_sub hl [0] rfl) hf
  · have hf := itn hc5 hf
    refine lv_iload_n hx hb dX3_tokenAt_43 rfl (lv_at hl 0 rfl) ?_
    refine lv_bipush (v := (57 : Int32)) hx hb dX3_tokenAt_44 (by decide) ?_
    refine lv_icmp_gt (tgt := 51) hx hb dX3_tokenAt_46 (by decide) (fun hc6 => ?_) (fun hc6 => ?_)
    · have hf := itp hc6 hf
      exact b3_tokenAt_51 C0  G (lv_sub hl [0] rfl) hf
    · have hf := itn hc6 hf
      refine lv_iconst (v := (2 : Int32)) hx hb dX3_tokenAt_49 (by decide) ?_
      obtain rfl := inj1 hf
      exact ret_i C0 G dX3_tokenAt_50
set_option maxHeartbeats 4000000 in
set_option maxRecDepth 100000 in
theorem b3_tokenAt_0 {ta adK adV : Nat → Nat} {p : Program} {l : Launch} {e : Env} {s : State} {m : MethodId} {args : Array Value} {below : List Frame} {meth : Method} {c : Code} {D : va_G} {cI cB cG cS : ClassId} {at_ ad : Nat → Nat} {A : Nat → Prop} {tb : Nat → Int32} {tl : Int32} {rtok : Int32} {rbg : Int32} {ren : Int32} {rvl : Int32} {hp : Nat → Int32} {st : Nat → Int32} {tr : Nat → Nat → Int32} {sp : Nat → Int32} {vis : Int32} {day : Int32} {z : Int32} {r0 : Int32} (C0 : CX (XS ta adK adV) p s m args meth c cX3_tokenAt 3 (some .int) RX3 A) : ∀ {v1 : Int32} {H : Heap} {locs : List Loc} {ls : Array Slot}, GX (XS ta adK adV) D (tyC cI cB cG cS) A s (wT cI cB cG at_ ad tb tl rtok rbg ren rvl hp st tr sp vis day z) H locs → lv_has ls 3 [(0, .ref (at_ 0)), (1, .int v1)] → f3_tokenAt tb tl v1 = some r0 → W p l e ({ frames := 0, cells := 0, slots := 0, locals := 0 }) s m args below meth c H locs 0 0 (MQ below (QcI D (tyC cI cB cG cS) (wT cI cB cG at_ ad tb tl rtok rbg ren rvl hp st tr sp vis day z) A r0) args s 0 0 A) (F0 m 0 ls []) := by
  have hx := C0.1
  have hb := C0.2.1
  have hown := C0.2.2.2.2.1
  have hts := C0.2.2.2.2.2.1
  have hX := C0.2.2.2.2.2.2.2.2
  intro v1 H locs ls G hl hf
  unfold f3_tokenAt at hf
  refine lv_iload_n hx hb dX3_tokenAt_0 rfl (lv_at hl 1 rfl) ?_
  refine lv_aload_n hx hb dX3_tokenAt_1 rfl (lv_at hl 0 rfl) ?_
  refine s_get (C := RX3) (T := TX3) C0 G i_X3 0 0 rfl rfl (by decide) q136 rfl dX3_tokenAt_2 ?_
  refine s_get (C := RX2) (T := TX2) C0 G i_X2 1 1 rfl rfl (by decide) q128 rfl dX3_tokenAt_5 ?_
  refine lv_icmp_lt (tgt := 13) hx hb dX3_tokenAt_8 (by decide) (fun hc1 => ?_) (fun hc1 => ?_)
  · have hf := itp hc1 hf
    refine lv_aload_n hx hb dX3_tokenAt_13 rfl (lv_at hl 0 rfl) ?_
    refine s_get (C := RX3) (T := TX3) C0 G i_X3 0 0 rfl rfl (by decide) q136 rfl dX3_tokenAt_14 ?_
    refine s_get (C := RX2) (T := TX2) C0 G i_X2 1 0 rfl rfl (by decide) q126 rfl dX3_tokenAt_17 ?_
    refine lv_iload_n hx hb dX3_tokenAt_20 rfl (lv_at hl 1 rfl) ?_
    obtain ⟨hi2, hf⟩ := gd_s hf
    refine s_bald (k := v1.toNatClampNeg) C0 G 2 1 rfl rfl (vin hi2) rfl dX3_tokenAt_21 ?_
    refine lv_istore_n (lv' := [(2, .int (tb v1.toNatClampNeg)), (0, .ref (at_ 0)), (1, .int v1)]) hx hb dX3_tokenAt_22 rfl hl (by decide) rfl (fun ls hl => ?_)
    refine lv_iload_n hx hb dX3_tokenAt_23 rfl (lv_at hl 0 rfl) ?_
    refine lv_bipush (v := (97 : Int32)) hx hb dX3_tokenAt_24 (by decide) ?_
    refine lv_icmp_lt (tgt := 37) hx hb dX3_tokenAt_26 (by decide) (fun hc3 => ?_) (fun hc3 => ?_)
    · have hf := itp hc3 hf
      exact b3_tokenAt_37 C0  G (lv_sub hl [0] rfl) hf
    · have hf := itn hc3 hf
      refine lv_iload_n hx hb dX3_tokenAt_29 rfl (lv_at hl 0 rfl) ?_
      refine lv_bipush (v := (122 : Int32)) hx hb dX3_tokenAt_30 (by decide) ?_
      refine lv_icmp_gt (tgt := 37) hx hb dX3_tokenAt_32 (by decide) (fun hc4 => ?_) (fun hc4 => ?_)
      · have hf := itp hc4 hf
        exact b3_tokenAt_37 C0  G (lv_sub hl [0] rfl) hf
      · have hf := itn hc4 hf
        refine lv_iconst (v := (1 : Int32)) hx hb dX3_tokenAt_35 (by decide) ?_
        obtain rfl := inj1 hf
        exact ret_i C0 G dX3_tokenAt_36
  · have hf := itn hc1 hf
    refine lv_iconst (v := (0 : Int32)) hx hb dX3_tokenAt_11 (by decide) ?_
    obtain rfl := inj1 hf
    exact ret_i C0 G dX3_tokenAt_12
theorem o3_tokenAt : okName yX3_tokenAt 1 := ⟨by decide, by decide, by decide +kernel⟩
set_option maxHeartbeats 4000000 in
set_option maxRecDepth 100000 in
theorem c3_tokenAt {ta adK adV : Nat → Nat} (hX : XT (XS ta adK adV)) {l : Launch} {D : va_G} {cI cB cG cS : ClassId} {at_ ad : Nat → Nat} {sz : Nat} {tb : Nat → Int32} {tl : Int32} {rtok : Int32} {rbg : Int32} {ren : Int32} {rvl : Int32} {hp : Nat → Int32} {st : Nat → Int32} {tr : Nat → Nat → Int32} {sp : Nat → Int32} {vis : Int32} {day : Int32} {z : Int32} {v1 : Int32} {r0 : Int32} (hf : f3_tokenAt tb tl v1 = some r0) : Met l yX3_tokenAt (wU yX3_tokenAt cX3_tokenAt 3 (some .int)) ({ frames := 0, cells := 0, slots := 0, locals := 0 }) (va_Pc [.ref (at_ 0), .int v1] (PreW (XS ta adK adV) D (tyC cI cB cG cS) (wT cI cB cG at_ ad tb tl rtok rbg ren rvl hp st tr sp vis day z) sz)) (QcI D (tyC cI cB cG cS) (wT cI cB cG at_ ad tb tl rtok rbg ren rvl hp st tr sp vis day z) (va_A (wT cI cB cG at_ ad tb tl rtok rbg ren rvl hp st tr sp vis day z) sz) r0) 0 0 (va_A (wT cI cB cG at_ ad tb tl rtok rbg ren rvl hp st tr sp vis day z) sz) := by
  refine startW hX (own := RX3) (by decide) rfl (Nat.le_of_ble_eq_true rfl) (fun p e s m args below meth c ls C0 G hl => ?_)
  exact b3_tokenAt_0 C0 G hl hf
/-! 3_readValue -/
theorem dX3_readValue_0 : decode cX3_readValue 0 = .ok (.aload_n 0, 1) := by decide +kernel
theorem dX3_readValue_1 : decode cX3_readValue 1 = .ok (.iconst 0, 1) := by decide +kernel
theorem dX3_readValue_2 : decode cX3_readValue 2 = .ok (.putfield 115, 3) := by decide +kernel
theorem dX3_readValue_5 : decode cX3_readValue 5 = .ok (.aload_n 0, 1) := by decide +kernel
theorem dX3_readValue_6 : decode cX3_readValue 6 = .ok (.getfield 29, 3) := by decide +kernel
theorem dX3_readValue_9 : decode cX3_readValue 9 = .ok (.istore_n 1, 1) := by decide +kernel
theorem dX3_readValue_10 : decode cX3_readValue 10 = .ok (.iload_n 1, 1) := by decide +kernel
theorem dX3_readValue_11 : decode cX3_readValue 11 = .ok (.aload_n 0, 1) := by decide +kernel
theorem dX3_readValue_12 : decode cX3_readValue 12 = .ok (.getfield 18, 3) := by decide +kernel
theorem dX3_readValue_15 : decode cX3_readValue 15 = .ok (.if_icmp .ge 39, 3) := by decide +kernel
theorem dX3_readValue_18 : decode cX3_readValue 18 = .ok (.aload_n 0, 1) := by decide +kernel
theorem dX3_readValue_19 : decode cX3_readValue 19 = .ok (.sipush 10000, 3) := by decide +kernel
theorem dX3_readValue_22 : decode cX3_readValue 22 = .ok (.aload_n 0, 1) := by decide +kernel
theorem dX3_readValue_23 : decode cX3_readValue 23 = .ok (.getfield 115, 3) := by decide +kernel
theorem dX3_readValue_26 : decode cX3_readValue 26 = .ok (.bipush 10, 2) := by decide +kernel
theorem dX3_readValue_28 : decode cX3_readValue 28 = .ok (.imul, 1) := by decide +kernel
theorem dX3_readValue_29 : decode cX3_readValue 29 = .ok (.aload_n 0, 1) := by decide +kernel
theorem dX3_readValue_30 : decode cX3_readValue 30 = .ok (.getfield 12, 3) := by decide +kernel
theorem dX3_readValue_33 : decode cX3_readValue 33 = .ok (.getfield 141, 3) := by decide +kernel
theorem dX3_readValue_36 : decode cX3_readValue 36 = .ok (.iload_n 1, 1) := by decide +kernel
theorem dX3_readValue_37 : decode cX3_readValue 37 = .ok (.baload, 1) := by decide +kernel
theorem dX3_readValue_38 : decode cX3_readValue 38 = .ok (.iadd, 1) := by decide +kernel
theorem dX3_readValue_39 : decode cX3_readValue 39 = .ok (.bipush 48, 2) := by decide +kernel
theorem dX3_readValue_41 : decode cX3_readValue 41 = .ok (.isub, 1) := by decide +kernel
theorem dX3_readValue_42 : decode cX3_readValue 42 = .ok (.invokestatic 151, 3) := by decide +kernel
theorem dX3_readValue_45 : decode cX3_readValue 45 = .ok (.putfield 115, 3) := by decide +kernel
theorem dX3_readValue_48 : decode cX3_readValue 48 = .ok (.iinc 1 1, 3) := by decide +kernel
theorem dX3_readValue_51 : decode cX3_readValue 51 = .ok (.goto (-41), 3) := by decide +kernel
theorem dX3_readValue_54 : decode cX3_readValue 54 = .ok (.return_, 1) := by decide +kernel
def l3_readValue_10  : Nat → (Nat → Int32) → Int32 → Int32 → Int32 → Int32 → Option (Int32)
  | 0, _, _, _, _, _ => none
  | n + 1, tb, rbg, ren, rvl, v1 =>
    if ren ≤ v1 then (
      some rvl)
    else (
      gd (inb v1 120) (
      (l3_readValue_10 n) tb rbg ren (jmin (10000 : Int32) (((rvl * (10 : Int32)) + (tb v1.toNatClampNeg)) - (48 : Int32))) (v1 + (1 : Int32))))
def f3_readValue (tb : Nat → Int32) (rbg : Int32) (ren : Int32) (rvl : Int32)  : Option (Int32) :=
  l3_readValue_10 1000 tb rbg ren (0 : Int32) rbg
set_option maxHeartbeats 4000000 in
set_option maxRecDepth 100000 in
theorem b3_readValue_10 {ta adK adV : Nat → Nat} {p : Program} {l : Launch} {e : Env} {s : State} {m : MethodId} {args : Array Value} {below : List Frame} {meth : Method} {c : Code} {D : va_G} {cI cB cG cS : ClassId} {at_ ad : Nat → Nat} {A : Nat → Prop} {tb : Nat → Int32} {tl : Int32} {rtok : Int32} {rbg : Int32} {ren : Int32} {hp : Nat → Int32} {st : Nat → Int32} {tr : Nat → Nat → Int32} {sp : Nat → Int32} {vis : Int32} {day : Int32} {z : Int32} {o_rvl : Int32} (C0 : CX (XS ta adK adV) p s m args meth c cX3_readValue 2 none RX3 A) : ∀ (n : Nat) {rvl : Int32} {v1 : Int32} {H : Heap} {locs : List Loc} {ls : Array Slot}, GX (XS ta adK adV) D (tyC cI cB cG cS) A s (wT cI cB cG at_ ad tb tl rtok rbg ren rvl hp st tr sp vis day z) H locs → lv_has ls 2 [(0, .ref (at_ 0)), (1, .int v1)] → l3_readValue_10  n tb rbg ren rvl v1 = some o_rvl → W p l e ({ frames := 1, cells := 0, slots := 0, locals := 14 }) s m args below meth c H locs 0 0 (MQ below (QcV D (tyC cI cB cG cS) (wT cI cB cG at_ ad tb tl rtok rbg ren o_rvl hp st tr sp vis day z) A) args s 0 0 A) (F0 m 10 ls []) := by
  have hx := C0.1
  have hb := C0.2.1
  have hown := C0.2.2.2.2.1
  have hts := C0.2.2.2.2.2.1
  have hX := C0.2.2.2.2.2.2.2.2
  intro n
  induction n with
  | zero =>
    intro _ _ _ _ _ G hl hf
    cases hf
  | succ n ih =>
    intro rvl v1 H locs ls G hl hf
    rw [l3_readValue_10] at hf
    refine lv_iload_n hx hb dX3_readValue_10 rfl (lv_at hl 1 rfl) ?_
    refine lv_aload_n hx hb dX3_readValue_11 rfl (lv_at hl 0 rfl) ?_
    refine s_get (C := RX3) (T := TX3) C0 G i_X3 0 3 rfl rfl (by decide) q140 rfl dX3_readValue_12 ?_
    refine lv_icmp_ge (tgt := 54) hx hb dX3_readValue_15 (by decide) (fun hc1 => ?_) (fun hc1 => ?_)
    · have hf := itp hc1 hf
      obtain rfl := inj1 hf
      exact ret_v C0 G dX3_readValue_54
    · have hf := itn hc1 hf
      refine lv_aload_n hx hb dX3_readValue_18 rfl (lv_at hl 0 rfl) ?_
      refine lv_sipush (v := (10000 : Int32)) hx hb dX3_readValue_19 (by decide) ?_
      refine lv_aload_n hx hb dX3_readValue_22 rfl (lv_at hl 0 rfl) ?_
      refine s_get (C := RX3) (T := TX3) C0 G i_X3 0 4 rfl rfl (by decide) q141 rfl dX3_readValue_23 ?_
      refine lv_bipush (v := (10 : Int32)) hx hb dX3_readValue_26 (by decide) ?_
      refine lv_imul hx hb dX3_readValue_28 ?_
      refine lv_aload_n hx hb dX3_readValue_29 rfl (lv_at hl 0 rfl) ?_
      refine s_get (C := RX3) (T := TX3) C0 G i_X3 0 0 rfl rfl (by decide) q136 rfl dX3_readValue_30 ?_
      refine s_get (C := RX2) (T := TX2) C0 G i_X2 1 0 rfl rfl (by decide) q126 rfl dX3_readValue_33 ?_
      refine lv_iload_n hx hb dX3_readValue_36 rfl (lv_at hl 1 rfl) ?_
      obtain ⟨hi2, hf⟩ := gd_s hf
      refine s_bald (k := v1.toNatClampNeg) C0 G 2 1 rfl rfl (vin hi2) rfl dX3_readValue_37 ?_
      refine lv_iadd hx hb dX3_readValue_38 ?_
      refine lv_bipush (v := (48 : Int32)) hx hb dX3_readValue_39 (by decide) ?_
      refine lv_isub hx hb dX3_readValue_41 ?_
      refine s_min C0 hl.1 q526 ⟨Nat.le_of_ble_eq_true rfl, Nat.le_of_ble_eq_true rfl⟩ dX3_readValue_42 ?_
      refine s_put (C := RX3) (T := TX3) (w' := (wT cI cB cG at_ ad tb tl rtok rbg ren (jmin (10000 : Int32) (((rvl * (10 : Int32)) + (tb v1.toNatClampNeg)) - (48 : Int32))) hp st tr sp vis day z)) C0 G i_X3 tyX3 tyX3_ok nmX3 0 4 rfl rfl (by decide) q141 rfl (ty := .int) (by decide +kernel) rfl rfl (Nat.le_of_ble_eq_true rfl) rfl dX3_readValue_45 (fun H locs G => ?_)
      refine lv_iinc (v := (v1 + (1 : Int32))) (lv' := [(1, .int (v1 + (1 : Int32))), (0, .ref (at_ 0))]) hx hb dX3_readValue_48 hl (k := 1) rfl rfl (by decide) rfl (fun ls hl => ?_)
      refine lv_goto (tgt := 10) hx hb dX3_readValue_51 (by decide) ?_
      exact ih G (lv_sub hl [1, 0] rfl) hf
set_option maxHeartbeats 4000000 in
set_option maxRecDepth 100000 in
theorem b3_readValue_0 {ta adK adV : Nat → Nat} {p : Program} {l : Launch} {e : Env} {s : State} {m : MethodId} {args : Array Value} {below : List Frame} {meth : Method} {c : Code} {D : va_G} {cI cB cG cS : ClassId} {at_ ad : Nat → Nat} {A : Nat → Prop} {tb : Nat → Int32} {tl : Int32} {rtok : Int32} {rbg : Int32} {ren : Int32} {hp : Nat → Int32} {st : Nat → Int32} {tr : Nat → Nat → Int32} {sp : Nat → Int32} {vis : Int32} {day : Int32} {z : Int32} {o_rvl : Int32} (C0 : CX (XS ta adK adV) p s m args meth c cX3_readValue 2 none RX3 A) : ∀ {rvl : Int32} {H : Heap} {locs : List Loc} {ls : Array Slot}, GX (XS ta adK adV) D (tyC cI cB cG cS) A s (wT cI cB cG at_ ad tb tl rtok rbg ren rvl hp st tr sp vis day z) H locs → lv_has ls 2 [(0, .ref (at_ 0))] → f3_readValue tb rbg ren rvl = some o_rvl → W p l e ({ frames := 1, cells := 0, slots := 0, locals := 14 }) s m args below meth c H locs 0 0 (MQ below (QcV D (tyC cI cB cG cS) (wT cI cB cG at_ ad tb tl rtok rbg ren o_rvl hp st tr sp vis day z) A) args s 0 0 A) (F0 m 0 ls []) := by
  have hx := C0.1
  have hb := C0.2.1
  have hown := C0.2.2.2.2.1
  have hts := C0.2.2.2.2.2.1
  have hX := C0.2.2.2.2.2.2.2.2
  intro rvl H locs ls G hl hf
  unfold f3_readValue at hf
  refine lv_aload_n hx hb dX3_readValue_0 rfl (lv_at hl 0 rfl) ?_
  refine lv_iconst (v := (0 : Int32)) hx hb dX3_readValue_1 (by decide) ?_
  refine s_put (C := RX3) (T := TX3) (w' := (wT cI cB cG at_ ad tb tl rtok rbg ren (0 : Int32) hp st tr sp vis day z)) C0 G i_X3 tyX3 tyX3_ok nmX3 0 4 rfl rfl (by decide) q141 rfl (ty := .int) (by decide +kernel) rfl rfl (Nat.le_of_ble_eq_true rfl) rfl dX3_readValue_2 (fun H locs G => ?_)
  refine lv_aload_n hx hb dX3_readValue_5 rfl (lv_at hl 0 rfl) ?_
  refine s_get (C := RX3) (T := TX3) C0 G i_X3 0 2 rfl rfl (by decide) q139 rfl dX3_readValue_6 ?_
  refine lv_istore_n (lv' := [(1, .int rbg), (0, .ref (at_ 0))]) hx hb dX3_readValue_9 rfl hl (by decide) rfl (fun ls hl => ?_)
  exact b3_readValue_10 C0  1000 G (lv_sub hl [1, 0] rfl) hf
theorem o3_readValue : okName yX3_readValue 0 := ⟨by decide, by decide, by decide +kernel⟩
set_option maxHeartbeats 4000000 in
set_option maxRecDepth 100000 in
theorem c3_readValue {ta adK adV : Nat → Nat} (hX : XT (XS ta adK adV)) {l : Launch} {D : va_G} {cI cB cG cS : ClassId} {at_ ad : Nat → Nat} {sz : Nat} {tb : Nat → Int32} {tl : Int32} {rtok : Int32} {rbg : Int32} {ren : Int32} {rvl : Int32} {hp : Nat → Int32} {st : Nat → Int32} {tr : Nat → Nat → Int32} {sp : Nat → Int32} {vis : Int32} {day : Int32} {z : Int32}  {o_rvl : Int32} (hf : f3_readValue tb rbg ren rvl = some o_rvl) : Met l yX3_readValue (wU yX3_readValue cX3_readValue 2 none) ({ frames := 1, cells := 0, slots := 0, locals := 14 }) (va_Pc [.ref (at_ 0)] (PreW (XS ta adK adV) D (tyC cI cB cG cS) (wT cI cB cG at_ ad tb tl rtok rbg ren rvl hp st tr sp vis day z) sz)) (QcV D (tyC cI cB cG cS) (wT cI cB cG at_ ad tb tl rtok rbg ren o_rvl hp st tr sp vis day z) (va_A (wT cI cB cG at_ ad tb tl rtok rbg ren rvl hp st tr sp vis day z) sz)) 0 0 (va_A (wT cI cB cG at_ ad tb tl rtok rbg ren rvl hp st tr sp vis day z) sz) := by
  refine startW hX (own := RX3) (by decide) rfl (Nat.le_of_ble_eq_true rfl) (fun p e s m args below meth c ls C0 G hl => ?_)
  exact b3_readValue_0 C0 G hl hf
/-! 3_readToken -/
theorem dX3_readToken_0 : decode cX3_readToken 0 = .ok (.aload_n 0, 1) := by decide +kernel
theorem dX3_readToken_1 : decode cX3_readToken 1 = .ok (.aload_n 0, 1) := by decide +kernel
theorem dX3_readToken_2 : decode cX3_readToken 2 = .ok (.getfield 18, 3) := by decide +kernel
theorem dX3_readToken_5 : decode cX3_readToken 5 = .ok (.putfield 29, 3) := by decide +kernel
theorem dX3_readToken_8 : decode cX3_readToken 8 = .ok (.aload_n 0, 1) := by decide +kernel
theorem dX3_readToken_9 : decode cX3_readToken 9 = .ok (.getfield 29, 3) := by decide +kernel
theorem dX3_readToken_12 : decode cX3_readToken 12 = .ok (.aload_n 0, 1) := by decide +kernel
theorem dX3_readToken_13 : decode cX3_readToken 13 = .ok (.getfield 12, 3) := by decide +kernel
theorem dX3_readToken_16 : decode cX3_readToken 16 = .ok (.getfield 145, 3) := by decide +kernel
theorem dX3_readToken_19 : decode cX3_readToken 19 = .ok (.if_icmp .ge 33, 3) := by decide +kernel
theorem dX3_readToken_22 : decode cX3_readToken 22 = .ok (.aload_n 0, 1) := by decide +kernel
theorem dX3_readToken_23 : decode cX3_readToken 23 = .ok (.getfield 12, 3) := by decide +kernel
theorem dX3_readToken_26 : decode cX3_readToken 26 = .ok (.getfield 141, 3) := by decide +kernel
theorem dX3_readToken_29 : decode cX3_readToken 29 = .ok (.aload_n 0, 1) := by decide +kernel
theorem dX3_readToken_30 : decode cX3_readToken 30 = .ok (.getfield 29, 3) := by decide +kernel
theorem dX3_readToken_33 : decode cX3_readToken 33 = .ok (.baload, 1) := by decide +kernel
theorem dX3_readToken_34 : decode cX3_readToken 34 = .ok (.bipush 32, 2) := by decide +kernel
theorem dX3_readToken_36 : decode cX3_readToken 36 = .ok (.if_icmp .ne 16, 3) := by decide +kernel
theorem dX3_readToken_39 : decode cX3_readToken 39 = .ok (.aload_n 0, 1) := by decide +kernel
theorem dX3_readToken_40 : decode cX3_readToken 40 = .ok (.dup, 1) := by decide +kernel
theorem dX3_readToken_41 : decode cX3_readToken 41 = .ok (.getfield 29, 3) := by decide +kernel
theorem dX3_readToken_44 : decode cX3_readToken 44 = .ok (.iconst 1, 1) := by decide +kernel
theorem dX3_readToken_45 : decode cX3_readToken 45 = .ok (.iadd, 1) := by decide +kernel
theorem dX3_readToken_46 : decode cX3_readToken 46 = .ok (.putfield 29, 3) := by decide +kernel
theorem dX3_readToken_49 : decode cX3_readToken 49 = .ok (.goto (-41), 3) := by decide +kernel
theorem dX3_readToken_52 : decode cX3_readToken 52 = .ok (.aload_n 0, 1) := by decide +kernel
theorem dX3_readToken_53 : decode cX3_readToken 53 = .ok (.aload_n 0, 1) := by decide +kernel
theorem dX3_readToken_54 : decode cX3_readToken 54 = .ok (.aload_n 0, 1) := by decide +kernel
theorem dX3_readToken_55 : decode cX3_readToken 55 = .ok (.getfield 29, 3) := by decide +kernel
theorem dX3_readToken_58 : decode cX3_readToken 58 = .ok (.invokevirtual 147, 3) := by decide +kernel
theorem dX3_readToken_61 : decode cX3_readToken 61 = .ok (.putfield 32, 3) := by decide +kernel
theorem dX3_readToken_64 : decode cX3_readToken 64 = .ok (.aload_n 0, 1) := by decide +kernel
theorem dX3_readToken_65 : decode cX3_readToken 65 = .ok (.aload_n 0, 1) := by decide +kernel
theorem dX3_readToken_66 : decode cX3_readToken 66 = .ok (.getfield 29, 3) := by decide +kernel
theorem dX3_readToken_69 : decode cX3_readToken 69 = .ok (.iconst 1, 1) := by decide +kernel
theorem dX3_readToken_70 : decode cX3_readToken 70 = .ok (.iadd, 1) := by decide +kernel
theorem dX3_readToken_71 : decode cX3_readToken 71 = .ok (.aload_n 0, 1) := by decide +kernel
theorem dX3_readToken_72 : decode cX3_readToken 72 = .ok (.getfield 12, 3) := by decide +kernel
theorem dX3_readToken_75 : decode cX3_readToken 75 = .ok (.getfield 145, 3) := by decide +kernel
theorem dX3_readToken_78 : decode cX3_readToken 78 = .ok (.invokestatic 151, 3) := by decide +kernel
theorem dX3_readToken_81 : decode cX3_readToken 81 = .ok (.putfield 18, 3) := by decide +kernel
theorem dX3_readToken_84 : decode cX3_readToken 84 = .ok (.aload_n 0, 1) := by decide +kernel
theorem dX3_readToken_85 : decode cX3_readToken 85 = .ok (.getfield 32, 3) := by decide +kernel
theorem dX3_readToken_88 : decode cX3_readToken 88 = .ok (.iconst 1, 1) := by decide +kernel
theorem dX3_readToken_89 : decode cX3_readToken 89 = .ok (.if_icmp .eq 11, 3) := by decide +kernel
theorem dX3_readToken_92 : decode cX3_readToken 92 = .ok (.aload_n 0, 1) := by decide +kernel
theorem dX3_readToken_93 : decode cX3_readToken 93 = .ok (.getfield 32, 3) := by decide +kernel
theorem dX3_readToken_96 : decode cX3_readToken 96 = .ok (.iconst 2, 1) := by decide +kernel
theorem dX3_readToken_97 : decode cX3_readToken 97 = .ok (.if_icmp .ne 45, 3) := by decide +kernel
theorem dX3_readToken_100 : decode cX3_readToken 100 = .ok (.aload_n 0, 1) := by decide +kernel
theorem dX3_readToken_101 : decode cX3_readToken 101 = .ok (.getfield 18, 3) := by decide +kernel
theorem dX3_readToken_104 : decode cX3_readToken 104 = .ok (.aload_n 0, 1) := by decide +kernel
theorem dX3_readToken_105 : decode cX3_readToken 105 = .ok (.getfield 12, 3) := by decide +kernel
theorem dX3_readToken_108 : decode cX3_readToken 108 = .ok (.getfield 145, 3) := by decide +kernel
theorem dX3_readToken_111 : decode cX3_readToken 111 = .ok (.if_icmp .ge 31, 3) := by decide +kernel
theorem dX3_readToken_114 : decode cX3_readToken 114 = .ok (.aload_n 0, 1) := by decide +kernel
theorem dX3_readToken_115 : decode cX3_readToken 115 = .ok (.aload_n 0, 1) := by decide +kernel
theorem dX3_readToken_116 : decode cX3_readToken 116 = .ok (.getfield 18, 3) := by decide +kernel
theorem dX3_readToken_119 : decode cX3_readToken 119 = .ok (.invokevirtual 147, 3) := by decide +kernel
theorem dX3_readToken_122 : decode cX3_readToken 122 = .ok (.aload_n 0, 1) := by decide +kernel
theorem dX3_readToken_123 : decode cX3_readToken 123 = .ok (.getfield 32, 3) := by decide +kernel
theorem dX3_readToken_126 : decode cX3_readToken 126 = .ok (.if_icmp .ne 16, 3) := by decide +kernel
theorem dX3_readToken_129 : decode cX3_readToken 129 = .ok (.aload_n 0, 1) := by decide +kernel
theorem dX3_readToken_130 : decode cX3_readToken 130 = .ok (.dup, 1) := by decide +kernel
theorem dX3_readToken_131 : decode cX3_readToken 131 = .ok (.getfield 18, 3) := by decide +kernel
theorem dX3_readToken_134 : decode cX3_readToken 134 = .ok (.iconst 1, 1) := by decide +kernel
theorem dX3_readToken_135 : decode cX3_readToken 135 = .ok (.iadd, 1) := by decide +kernel
theorem dX3_readToken_136 : decode cX3_readToken 136 = .ok (.putfield 18, 3) := by decide +kernel
theorem dX3_readToken_139 : decode cX3_readToken 139 = .ok (.goto (-55), 3) := by decide +kernel
theorem dX3_readToken_142 : decode cX3_readToken 142 = .ok (.aload_n 0, 1) := by decide +kernel
theorem dX3_readToken_143 : decode cX3_readToken 143 = .ok (.getfield 32, 3) := by decide +kernel
theorem dX3_readToken_146 : decode cX3_readToken 146 = .ok (.iconst 2, 1) := by decide +kernel
theorem dX3_readToken_147 : decode cX3_readToken 147 = .ok (.if_icmp .ne 7, 3) := by decide +kernel
theorem dX3_readToken_150 : decode cX3_readToken 150 = .ok (.aload_n 0, 1) := by decide +kernel
theorem dX3_readToken_151 : decode cX3_readToken 151 = .ok (.invokevirtual 156, 3) := by decide +kernel
theorem dX3_readToken_154 : decode cX3_readToken 154 = .ok (.return_, 1) := by decide +kernel
def j3_readToken_142  (tb : Nat → Int32) (tl : Int32) (rtok : Int32) (rbg : Int32) (ren : Int32) (rvl : Int32)  : Option (Int32 × Int32 × Int32 × Int32) :=
  if rtok = (2 : Int32) then (
    ob1 (f3_readValue tb rbg ren rvl) (fun rvl_13 =>
    some (rtok, rbg, ren, rvl_13)))
  else (
    some (rtok, rbg, ren, rvl))
def j3_readToken_100 (k84 : (Nat → Int32) → Int32 → Int32 → Int32 → Int32 → Int32 → Option (Int32 × Int32 × Int32 × Int32)) (tb : Nat → Int32) (tl : Int32) (rtok : Int32) (rbg : Int32) (ren : Int32) (rvl : Int32)  : Option (Int32 × Int32 × Int32 × Int32) :=
  if tl ≤ ren then (
    j3_readToken_142 tb tl rtok rbg ren rvl)
  else (
    ob1 (f3_tokenAt tb tl ren) (fun r9 =>
    if r9 = rtok then (
      k84 tb tl rtok rbg (ren + (1 : Int32)) rvl)
    else (
      j3_readToken_142 tb tl rtok rbg ren rvl)))
def l3_readToken_84  : Nat → (Nat → Int32) → Int32 → Int32 → Int32 → Int32 → Int32 → Option (Int32 × Int32 × Int32 × Int32)
  | 0, _, _, _, _, _, _ => none
  | n + 1, tb, tl, rtok, rbg, ren, rvl =>
    if rtok = (1 : Int32) then (
      j3_readToken_100 (l3_readToken_84 n) tb tl rtok rbg ren rvl)
    else (
      if rtok = (2 : Int32) then (
        j3_readToken_100 (l3_readToken_84 n) tb tl rtok rbg ren rvl)
      else (
        j3_readToken_142 tb tl rtok rbg ren rvl))
def j3_readToken_52  (tb : Nat → Int32) (tl : Int32) (rtok : Int32) (rbg : Int32) (ren : Int32) (rvl : Int32)  : Option (Int32 × Int32 × Int32 × Int32) :=
  ob1 (f3_tokenAt tb tl rbg) (fun r4 =>
  l3_readToken_84 1000 tb tl r4 rbg (jmin (rbg + (1 : Int32)) tl) rvl)
def l3_readToken_8  : Nat → (Nat → Int32) → Int32 → Int32 → Int32 → Int32 → Int32 → Option (Int32 × Int32 × Int32 × Int32)
  | 0, _, _, _, _, _, _ => none
  | n + 1, tb, tl, rtok, rbg, ren, rvl =>
    if tl ≤ rbg then (
      j3_readToken_52 tb tl rtok rbg ren rvl)
    else (
      gd (inb rbg 120) (
      if (tb rbg.toNatClampNeg) = (32 : Int32) then (
        (l3_readToken_8 n) tb tl rtok (rbg + (1 : Int32)) ren rvl)
      else (
        j3_readToken_52 tb tl rtok rbg ren rvl)))
def f3_readToken (tb : Nat → Int32) (tl : Int32) (rtok : Int32) (rbg : Int32) (ren : Int32) (rvl : Int32)  : Option (Int32 × Int32 × Int32 × Int32) :=
  l3_readToken_8 1000 tb tl rtok ren ren rvl
set_option maxHeartbeats 4000000 in
set_option maxRecDepth 100000 in
theorem b3_readToken_142 {ta adK adV : Nat → Nat} {p : Program} {l : Launch} {e : Env} {s : State} {m : MethodId} {args : Array Value} {below : List Frame} {meth : Method} {c : Code} {D : va_G} {cI cB cG cS : ClassId} {at_ ad : Nat → Nat} {A : Nat → Prop} {tb : Nat → Int32} {tl : Int32} {hp : Nat → Int32} {st : Nat → Int32} {tr : Nat → Nat → Int32} {sp : Nat → Int32} {vis : Int32} {day : Int32} {z : Int32} {o_rtok : Int32} {o_rbg : Int32} {o_ren : Int32} {o_rvl : Int32} (C0 : CX (XS ta adK adV) p s m args meth c cX3_readToken 1 none RX3 A) : ∀ {rtok : Int32} {rbg : Int32} {ren : Int32} {rvl : Int32} {H : Heap} {locs : List Loc} {ls : Array Slot}, GX (XS ta adK adV) D (tyC cI cB cG cS) A s (wT cI cB cG at_ ad tb tl rtok rbg ren rvl hp st tr sp vis day z) H locs → lv_has ls 1 [(0, .ref (at_ 0))] → j3_readToken_142  tb tl rtok rbg ren rvl = some (o_rtok, o_rbg, o_ren, o_rvl) → W p l e ({ frames := 2, cells := 0, slots := 0, locals := 35 }) s m args below meth c H locs 0 0 (MQ below (QcV D (tyC cI cB cG cS) (wT cI cB cG at_ ad tb tl o_rtok o_rbg o_ren o_rvl hp st tr sp vis day z) A) args s 0 0 A) (F0 m 142 ls []) := by
  have hx := C0.1
  have hb := C0.2.1
  have hown := C0.2.2.2.2.1
  have hts := C0.2.2.2.2.2.1
  have hX := C0.2.2.2.2.2.2.2.2
  intro rtok rbg ren rvl H locs ls G hl hf
  unfold j3_readToken_142 at hf
  refine lv_aload_n hx hb dX3_readToken_142 rfl (lv_at hl 0 rfl) ?_
  refine s_get (C := RX3) (T := TX3) C0 G i_X3 0 1 rfl rfl (by decide) q138 rfl dX3_readToken_143 ?_
  refine lv_iconst (v := (2 : Int32)) hx hb dX3_readToken_146 (by decide) ?_
  refine lv_icmp_ne (tgt := 154) hx hb dX3_readToken_147 (by decide) (fun hc12 => ?_) (fun hc12 => ?_)
  · have hf := itn hc12 hf
    obtain ⟨rfl, rfl, rfl, rfl⟩ := inj4 hf
    exact ret_v C0 G dX3_readToken_154
  · have hf := itp hc12 hf
    refine lv_aload_n hx hb dX3_readToken_150 rfl (lv_at hl 0 rfl) ?_
    obtain ⟨rvl_13, hc14, hf⟩ := ob1_s hf
    refine go_v C0 G (runV_of (n := 0) (q0 := 0) (As := []) (rest := []) C0 G (c3_readValue hX hc14) q530 q51 q527 q528 q529 o3_readValue ⟨rfl, rfl⟩ ⟨Nat.le_of_ble_eq_true rfl, Nat.le_of_ble_eq_true rfl⟩ rfl rfl rfl hl.1 rfl (Nat.le_of_ble_eq_true rfl) dX3_readToken_151) (fun H locs G => ?_)
    obtain ⟨rfl, rfl, rfl, rfl⟩ := inj4 hf
    exact ret_v C0 G dX3_readToken_154
set_option maxHeartbeats 4000000 in
set_option maxRecDepth 100000 in
theorem b3_readToken_100 {ta adK adV : Nat → Nat} {p : Program} {l : Launch} {e : Env} {s : State} {m : MethodId} {args : Array Value} {below : List Frame} {meth : Method} {c : Code} {D : va_G} {cI cB cG cS : ClassId} {at_ ad : Nat → Nat} {A : Nat → Prop} {tb : Nat → Int32} {tl : Int32} {hp : Nat → Int32} {st : Nat → Int32} {tr : Nat → Nat → Int32} {sp : Nat → Int32} {vis : Int32} {day : Int32} {z : Int32} {o_rtok : Int32} {o_rbg : Int32} {o_ren : Int32} {o_rvl : Int32} (C0 : CX (XS ta adK adV) p s m args meth c cX3_readToken 1 none RX3 A) {k84 : (Nat → Int32) → Int32 → Int32 → Int32 → Int32 → Int32 → Option (Int32 × Int32 × Int32 × Int32)} (hk84 : ∀ {rtok : Int32} {rbg : Int32} {ren : Int32} {rvl : Int32} {H : Heap} {locs : List Loc} {ls : Array Slot}, GX (XS ta adK adV) D (tyC cI cB cG cS) A s (wT cI cB cG at_ ad tb tl rtok rbg ren rvl hp st tr sp vis day z) H locs → lv_has ls 1 [(0, .ref (at_ 0))] → k84 tb tl rtok rbg ren rvl = some (o_rtok, o_rbg, o_ren, o_rvl) → W p l e ({ frames := 2, cells := 0, slots := 0, locals := 35 }) s m args below meth c H locs 0 0 (MQ below (QcV D (tyC cI cB cG cS) (wT cI cB cG at_ ad tb tl o_rtok o_rbg o_ren o_rvl hp st tr sp vis day z) A) args s 0 0 A) (F0 m 84 ls [])) : ∀ {rtok : Int32} {rbg : Int32} {ren : Int32} {rvl : Int32} {H : Heap} {locs : List Loc} {ls : Array Slot}, GX (XS ta adK adV) D (tyC cI cB cG cS) A s (wT cI cB cG at_ ad tb tl rtok rbg ren rvl hp st tr sp vis day z) H locs → lv_has ls 1 [(0, .ref (at_ 0))] → j3_readToken_100 k84 tb tl rtok rbg ren rvl = some (o_rtok, o_rbg, o_ren, o_rvl) → W p l e ({ frames := 2, cells := 0, slots := 0, locals := 35 }) s m args below meth c H locs 0 0 (MQ below (QcV D (tyC cI cB cG cS) (wT cI cB cG at_ ad tb tl o_rtok o_rbg o_ren o_rvl hp st tr sp vis day z) A) args s 0 0 A) (F0 m 100 ls []) := by
  have hx := C0.1
  have hb := C0.2.1
  have hown := C0.2.2.2.2.1
  have hts := C0.2.2.2.2.2.1
  have hX := C0.2.2.2.2.2.2.2.2
  intro rtok rbg ren rvl H locs ls G hl hf
  unfold j3_readToken_100 at hf
  refine lv_aload_n hx hb dX3_readToken_100 rfl (lv_at hl 0 rfl) ?_
  refine s_get (C := RX3) (T := TX3) C0 G i_X3 0 3 rfl rfl (by decide) q140 rfl dX3_readToken_101 ?_
  refine lv_aload_n hx hb dX3_readToken_104 rfl (lv_at hl 0 rfl) ?_
  refine s_get (C := RX3) (T := TX3) C0 G i_X3 0 0 rfl rfl (by decide) q136 rfl dX3_readToken_105 ?_
  refine s_get (C := RX2) (T := TX2) C0 G i_X2 1 1 rfl rfl (by decide) q128 rfl dX3_readToken_108 ?_
  refine lv_icmp_ge (tgt := 142) hx hb dX3_readToken_111 (by decide) (fun hc8 => ?_) (fun hc8 => ?_)
  · have hf := itp hc8 hf
    exact b3_readToken_142 C0  G (lv_sub hl [0] rfl) hf
  · have hf := itn hc8 hf
    refine lv_aload_n hx hb dX3_readToken_114 rfl (lv_at hl 0 rfl) ?_
    refine lv_aload_n hx hb dX3_readToken_115 rfl (lv_at hl 0 rfl) ?_
    refine s_get (C := RX3) (T := TX3) C0 G i_X3 0 3 rfl rfl (by decide) q140 rfl dX3_readToken_116 ?_
    obtain ⟨r9, hc10, hf⟩ := ob1_s hf
    refine go_i C0 G (runV_of (n := 1) (q0 := 0) (As := [.int ren]) (rest := []) C0 G (c3_tokenAt hX hc10) q525 q51 q522 q523 q524 o3_tokenAt ⟨rfl, rfl⟩ ⟨Nat.le_of_ble_eq_true rfl, Nat.le_of_ble_eq_true rfl⟩ rfl rfl rfl hl.1 rfl (Nat.le_of_ble_eq_true rfl) dX3_readToken_119) (fun H locs G => ?_)
    refine lv_aload_n hx hb dX3_readToken_122 rfl (lv_at hl 0 rfl) ?_
    refine s_get (C := RX3) (T := TX3) C0 G i_X3 0 1 rfl rfl (by decide) q138 rfl dX3_readToken_123 ?_
    refine lv_icmp_ne (tgt := 142) hx hb dX3_readToken_126 (by decide) (fun hc11 => ?_) (fun hc11 => ?_)
    · have hf := itn hc11 hf
      exact b3_readToken_142 C0  G (lv_sub hl [0] rfl) hf
    · have hf := itp hc11 hf
      refine lv_aload_n hx hb dX3_readToken_129 rfl (lv_at hl 0 rfl) ?_
      refine lv_dup hx hb dX3_readToken_130 rfl ?_
      refine s_get (C := RX3) (T := TX3) C0 G i_X3 0 3 rfl rfl (by decide) q140 rfl dX3_readToken_131 ?_
      refine lv_iconst (v := (1 : Int32)) hx hb dX3_readToken_134 (by decide) ?_
      refine lv_iadd hx hb dX3_readToken_135 ?_
      refine s_put (C := RX3) (T := TX3) (w' := (wT cI cB cG at_ ad tb tl rtok rbg (ren + (1 : Int32)) rvl hp st tr sp vis day z)) C0 G i_X3 tyX3 tyX3_ok nmX3 0 3 rfl rfl (by decide) q140 rfl (ty := .int) (by decide +kernel) rfl rfl (Nat.le_of_ble_eq_true rfl) rfl dX3_readToken_136 (fun H locs G => ?_)
      refine lv_goto (tgt := 84) hx hb dX3_readToken_139 (by decide) ?_
      exact hk84 G (lv_sub hl [0] rfl) hf
set_option maxHeartbeats 4000000 in
set_option maxRecDepth 100000 in
theorem b3_readToken_84 {ta adK adV : Nat → Nat} {p : Program} {l : Launch} {e : Env} {s : State} {m : MethodId} {args : Array Value} {below : List Frame} {meth : Method} {c : Code} {D : va_G} {cI cB cG cS : ClassId} {at_ ad : Nat → Nat} {A : Nat → Prop} {tb : Nat → Int32} {tl : Int32} {hp : Nat → Int32} {st : Nat → Int32} {tr : Nat → Nat → Int32} {sp : Nat → Int32} {vis : Int32} {day : Int32} {z : Int32} {o_rtok : Int32} {o_rbg : Int32} {o_ren : Int32} {o_rvl : Int32} (C0 : CX (XS ta adK adV) p s m args meth c cX3_readToken 1 none RX3 A) : ∀ (n : Nat) {rtok : Int32} {rbg : Int32} {ren : Int32} {rvl : Int32} {H : Heap} {locs : List Loc} {ls : Array Slot}, GX (XS ta adK adV) D (tyC cI cB cG cS) A s (wT cI cB cG at_ ad tb tl rtok rbg ren rvl hp st tr sp vis day z) H locs → lv_has ls 1 [(0, .ref (at_ 0))] → l3_readToken_84  n tb tl rtok rbg ren rvl = some (o_rtok, o_rbg, o_ren, o_rvl) → W p l e ({ frames := 2, cells := 0, slots := 0, locals := 35 }) s m args below meth c H locs 0 0 (MQ below (QcV D (tyC cI cB cG cS) (wT cI cB cG at_ ad tb tl o_rtok o_rbg o_ren o_rvl hp st tr sp vis day z) A) args s 0 0 A) (F0 m 84 ls []) := by
  have hx := C0.1
  have hb := C0.2.1
  have hown := C0.2.2.2.2.1
  have hts := C0.2.2.2.2.2.1
  have hX := C0.2.2.2.2.2.2.2.2
  intro n
  induction n with
  | zero =>
    intro _ _ _ _ _ _ _ G hl hf
    cases hf
  | succ n ih =>
    intro rtok rbg ren rvl H locs ls G hl hf
    rw [l3_readToken_84] at hf
    refine lv_aload_n hx hb dX3_readToken_84 rfl (lv_at hl 0 rfl) ?_
    refine s_get (C := RX3) (T := TX3) C0 G i_X3 0 1 rfl rfl (by decide) q138 rfl dX3_readToken_85 ?_
    refine lv_iconst (v := (1 : Int32)) hx hb dX3_readToken_88 (by decide) ?_
    refine lv_icmp_eq (tgt := 100) hx hb dX3_readToken_89 (by decide) (fun hc6 => ?_) (fun hc6 => ?_)
    · have hf := itp hc6 hf
      exact b3_readToken_100 C0 ih G (lv_sub hl [0] rfl) hf
    · have hf := itn hc6 hf
      refine lv_aload_n hx hb dX3_readToken_92 rfl (lv_at hl 0 rfl) ?_
      refine s_get (C := RX3) (T := TX3) C0 G i_X3 0 1 rfl rfl (by decide) q138 rfl dX3_readToken_93 ?_
      refine lv_iconst (v := (2 : Int32)) hx hb dX3_readToken_96 (by decide) ?_
      refine lv_icmp_ne (tgt := 142) hx hb dX3_readToken_97 (by decide) (fun hc7 => ?_) (fun hc7 => ?_)
      · have hf := itn hc7 hf
        exact b3_readToken_142 C0  G (lv_sub hl [0] rfl) hf
      · have hf := itp hc7 hf
        exact b3_readToken_100 C0 ih G (lv_sub hl [0] rfl) hf
set_option maxHeartbeats 4000000 in
set_option maxRecDepth 100000 in
theorem b3_readToken_52 {ta adK adV : Nat → Nat} {p : Program} {l : Launch} {e : Env} {s : State} {m : MethodId} {args : Array Value} {below : List Frame} {meth : Method} {c : Code} {D : va_G} {cI cB cG cS : ClassId} {at_ ad : Nat → Nat} {A : Nat → Prop} {tb : Nat → Int32} {tl : Int32} {hp : Nat → Int32} {st : Nat → Int32} {tr : Nat → Nat → Int32} {sp : Nat → Int32} {vis : Int32} {day : Int32} {z : Int32} {o_rtok : Int32} {o_rbg : Int32} {o_ren : Int32} {o_rvl : Int32} (C0 : CX (XS ta adK adV) p s m args meth c cX3_readToken 1 none RX3 A) : ∀ {rtok : Int32} {rbg : Int32} {ren : Int32} {rvl : Int32} {H : Heap} {locs : List Loc} {ls : Array Slot}, GX (XS ta adK adV) D (tyC cI cB cG cS) A s (wT cI cB cG at_ ad tb tl rtok rbg ren rvl hp st tr sp vis day z) H locs → lv_has ls 1 [(0, .ref (at_ 0))] → j3_readToken_52  tb tl rtok rbg ren rvl = some (o_rtok, o_rbg, o_ren, o_rvl) → W p l e ({ frames := 2, cells := 0, slots := 0, locals := 35 }) s m args below meth c H locs 0 0 (MQ below (QcV D (tyC cI cB cG cS) (wT cI cB cG at_ ad tb tl o_rtok o_rbg o_ren o_rvl hp st tr sp vis day z) A) args s 0 0 A) (F0 m 52 ls []) := by
  have hx := C0.1
  have hb := C0.2.1
  have hown := C0.2.2.2.2.1
  have hts := C0.2.2.2.2.2.1
  have hX := C0.2.2.2.2.2.2.2.2
  intro rtok rbg ren rvl H locs ls G hl hf
  unfold j3_readToken_52 at hf
  refine lv_aload_n hx hb dX3_readToken_52 rfl (lv_at hl 0 rfl) ?_
  refine lv_aload_n hx hb dX3_readToken_53 rfl (lv_at hl 0 rfl) ?_
  refine lv_aload_n hx hb dX3_readToken_54 rfl (lv_at hl 0 rfl) ?_
  refine s_get (C := RX3) (T := TX3) C0 G i_X3 0 2 rfl rfl (by decide) q139 rfl dX3_readToken_55 ?_
  obtain ⟨r4, hc5, hf⟩ := ob1_s hf
  refine go_i C0 G (runV_of (n := 1) (q0 := 0) (As := [.int rbg]) (rest := [.ref (at_ 0)]) C0 G (c3_tokenAt hX hc5) q525 q51 q522 q523 q524 o3_tokenAt ⟨rfl, rfl⟩ ⟨Nat.le_of_ble_eq_true rfl, Nat.le_of_ble_eq_true rfl⟩ rfl rfl rfl hl.1 rfl (Nat.le_of_ble_eq_true rfl) dX3_readToken_58) (fun H locs G => ?_)
  refine s_put (C := RX3) (T := TX3) (w' := (wT cI cB cG at_ ad tb tl r4 rbg ren rvl hp st tr sp vis day z)) C0 G i_X3 tyX3 tyX3_ok nmX3 0 1 rfl rfl (by decide) q138 rfl (ty := .int) (by decide +kernel) rfl rfl (Nat.le_of_ble_eq_true rfl) rfl dX3_readToken_61 (fun H locs G => ?_)
  refine lv_aload_n hx hb dX3_readToken_64 rfl (lv_at hl 0 rfl) ?_
  refine lv_aload_n hx hb dX3_readToken_65 rfl (lv_at hl 0 rfl) ?_
  refine s_get (C := RX3) (T := TX3) C0 G i_X3 0 2 rfl rfl (by decide) q139 rfl dX3_readToken_66 ?_
  refine lv_iconst (v := (1 : Int32)) hx hb dX3_readToken_69 (by decide) ?_
  refine lv_iadd hx hb dX3_readToken_70 ?_
  refine lv_aload_n hx hb dX3_readToken_71 rfl (lv_at hl 0 rfl) ?_
  refine s_get (C := RX3) (T := TX3) C0 G i_X3 0 0 rfl rfl (by decide) q136 rfl dX3_readToken_72 ?_
  refine s_get (C := RX2) (T := TX2) C0 G i_X2 1 1 rfl rfl (by decide) q128 rfl dX3_readToken_75 ?_
  refine s_min C0 hl.1 q526 ⟨Nat.le_of_ble_eq_true rfl, Nat.le_of_ble_eq_true rfl⟩ dX3_readToken_78 ?_
  refine s_put (C := RX3) (T := TX3) (w' := (wT cI cB cG at_ ad tb tl r4 rbg (jmin (rbg + (1 : Int32)) tl) rvl hp st tr sp vis day z)) C0 G i_X3 tyX3 tyX3_ok nmX3 0 3 rfl rfl (by decide) q140 rfl (ty := .int) (by decide +kernel) rfl rfl (Nat.le_of_ble_eq_true rfl) rfl dX3_readToken_81 (fun H locs G => ?_)
  exact b3_readToken_84 C0  1000 G (lv_sub hl [0] rfl) hf
set_option maxHeartbeats 4000000 in
set_option maxRecDepth 100000 in
theorem b3_readToken_8 {ta adK adV : Nat → Nat} {p : Program} {l : Launch} {e : Env} {s : State} {m : MethodId} {args : Array Value} {below : List Frame} {meth : Method} {c : Code} {D : va_G} {cI cB cG cS : ClassId} {at_ ad : Nat → Nat} {A : Nat → Prop} {tb : Nat → Int32} {tl : Int32} {hp : Nat → Int32} {st : Nat → Int32} {tr : Nat → Nat → Int32} {sp : Nat → Int32} {vis : Int32} {day : Int32} {z : Int32} {o_rtok : Int32} {o_rbg : Int32} {o_ren : Int32} {o_rvl : Int32} (C0 : CX (XS ta adK adV) p s m args meth c cX3_readToken 1 none RX3 A) : ∀ (n : Nat) {rtok : Int32} {rbg : Int32} {ren : Int32} {rvl : Int32} {H : Heap} {locs : List Loc} {ls : Array Slot}, GX (XS ta adK adV) D (tyC cI cB cG cS) A s (wT cI cB cG at_ ad tb tl rtok rbg ren rvl hp st tr sp vis day z) H locs → lv_has ls 1 [(0, .ref (at_ 0))] → l3_readToken_8  n tb tl rtok rbg ren rvl = some (o_rtok, o_rbg, o_ren, o_rvl) → W p l e ({ frames := 2, cells := 0, slots := 0, locals := 35 }) s m args below meth c H locs 0 0 (MQ below (QcV D (tyC cI cB cG cS) (wT cI cB cG at_ ad tb tl o_rtok o_rbg o_ren o_rvl hp st tr sp vis day z) A) args s 0 0 A) (F0 m 8 ls []) := by
  have hx := C0.1
  have hb := C0.2.1
  have hown := C0.2.2.2.2.1
  have hts := C0.2.2.2.2.2.1
  have hX := C0.2.2.2.2.2.2.2.2
  intro n
  induction n with
  | zero =>
    intro _ _ _ _ _ _ _ G hl hf
    cases hf
  | succ n ih =>
    intro rtok rbg ren rvl H locs ls G hl hf
    rw [l3_readToken_8] at hf
    refine lv_aload_n hx hb dX3_readToken_8 rfl (lv_at hl 0 rfl) ?_
    refine s_get (C := RX3) (T := TX3) C0 G i_X3 0 2 rfl rfl (by decide) q139 rfl dX3_readToken_9 ?_
    refine lv_aload_n hx hb dX3_readToken_12 rfl (lv_at hl 0 rfl) ?_
    refine s_get (C := RX3) (T := TX3) C0 G i_X3 0 0 rfl rfl (by decide) q136 rfl dX3_readToken_13 ?_
    refine s_get (C := RX2) (T := TX2) C0 G i_X2 1 1 rfl rfl (by decide) q128 rfl dX3_readToken_16 ?_
    refine lv_icmp_ge (tgt := 52) hx hb dX3_readToken_19 (by decide) (fun hc1 => ?_) (fun hc1 => ?_)
    · have hf := itp hc1 hf
      exact b3_readToken_52 C0  G (lv_sub hl [0] rfl) hf
    · have hf := itn hc1 hf
      refine lv_aload_n hx hb dX3_readToken_22 rfl (lv_at hl 0 rfl) ?_
      refine s_get (C := RX3) (T := TX3) C0 G i_X3 0 0 rfl rfl (by decide) q136 rfl dX3_readToken_23 ?_
      refine s_get (C := RX2) (T := TX2) C0 G i_X2 1 0 rfl rfl (by decide) q126 rfl dX3_readToken_26 ?_
      refine lv_aload_n hx hb dX3_readToken_29 rfl (lv_at hl 0 rfl) ?_
      refine s_get (C := RX3) (T := TX3) C0 G i_X3 0 2 rfl rfl (by decide) q139 rfl dX3_readToken_30 ?_
      obtain ⟨hi2, hf⟩ := gd_s hf
      refine s_bald (k := rbg.toNatClampNeg) C0 G 2 1 rfl rfl (vin hi2) rfl dX3_readToken_33 ?_
      refine lv_bipush (v := (32 : Int32)) hx hb dX3_readToken_34 (by decide) ?_
      refine lv_icmp_ne (tgt := 52) hx hb dX3_readToken_36 (by decide) (fun hc3 => ?_) (fun hc3 => ?_)
      · have hf := itn hc3 hf
        exact b3_readToken_52 C0  G (lv_sub hl [0] rfl) hf
      · have hf := itp hc3 hf
        refine lv_aload_n hx hb dX3_readToken_39 rfl (lv_at hl 0 rfl) ?_
        refine lv_dup hx hb dX3_readToken_40 rfl ?_
        refine s_get (C := RX3) (T := TX3) C0 G i_X3 0 2 rfl rfl (by decide) q139 rfl dX3_readToken_41 ?_
        refine lv_iconst (v := (1 : Int32)) hx hb dX3_readToken_44 (by decide) ?_
        refine lv_iadd hx hb dX3_readToken_45 ?_
        refine s_put (C := RX3) (T := TX3) (w' := (wT cI cB cG at_ ad tb tl rtok (rbg + (1 : Int32)) ren rvl hp st tr sp vis day z)) C0 G i_X3 tyX3 tyX3_ok nmX3 0 2 rfl rfl (by decide) q139 rfl (ty := .int) (by decide +kernel) rfl rfl (Nat.le_of_ble_eq_true rfl) rfl dX3_readToken_46 (fun H locs G => ?_)
        refine lv_goto (tgt := 8) hx hb dX3_readToken_49 (by decide) ?_
        exact ih G (lv_sub hl [0] rfl) hf
set_option maxHeartbeats 4000000 in
set_option maxRecDepth 100000 in
theorem b3_readToken_0 {ta adK adV : Nat → Nat} {p : Program} {l : Launch} {e : Env} {s : State} {m : MethodId} {args : Array Value} {below : List Frame} {meth : Method} {c : Code} {D : va_G} {cI cB cG cS : ClassId} {at_ ad : Nat → Nat} {A : Nat → Prop} {tb : Nat → Int32} {tl : Int32} {hp : Nat → Int32} {st : Nat → Int32} {tr : Nat → Nat → Int32} {sp : Nat → Int32} {vis : Int32} {day : Int32} {z : Int32} {o_rtok : Int32} {o_rbg : Int32} {o_ren : Int32} {o_rvl : Int32} (C0 : CX (XS ta adK adV) p s m args meth c cX3_readToken 1 none RX3 A) : ∀ {rtok : Int32} {rbg : Int32} {ren : Int32} {rvl : Int32} {H : Heap} {locs : List Loc} {ls : Array Slot}, GX (XS ta adK adV) D (tyC cI cB cG cS) A s (wT cI cB cG at_ ad tb tl rtok rbg ren rvl hp st tr sp vis day z) H locs → lv_has ls 1 [(0, .ref (at_ 0))] → f3_readToken tb tl rtok rbg ren rvl = some (o_rtok, o_rbg, o_ren, o_rvl) → W p l e ({ frames := 2, cells := 0, slots := 0, locals := 35 }) s m args below meth c H locs 0 0 (MQ below (QcV D (tyC cI cB cG cS) (wT cI cB cG at_ ad tb tl o_rtok o_rbg o_ren o_rvl hp st tr sp vis day z) A) args s 0 0 A) (F0 m 0 ls []) := by
  have hx := C0.1
  have hb := C0.2.1
  have hown := C0.2.2.2.2.1
  have hts := C0.2.2.2.2.2.1
  have hX := C0.2.2.2.2.2.2.2.2
  intro rtok rbg ren rvl H locs ls G hl hf
  unfold f3_readToken at hf
  refine lv_aload_n hx hb dX3_readToken_0 rfl (lv_at hl 0 rfl) ?_
  refine lv_aload_n hx hb dX3_readToken_1 rfl (lv_at hl 0 rfl) ?_
  refine s_get (C := RX3) (T := TX3) C0 G i_X3 0 3 rfl rfl (by decide) q140 rfl dX3_readToken_2 ?_
  refine s_put (C := RX3) (T := TX3) (w' := (wT cI cB cG at_ ad tb tl rtok ren ren rvl hp st tr sp vis day z)) C0 G i_X3 tyX3 tyX3_ok nmX3 0 2 rfl rfl (by decide) q139 rfl (ty := .int) (by decide +kernel) rfl rfl (Nat.le_of_ble_eq_true rfl) rfl dX3_readToken_5 (fun H locs G => ?_)
  exact b3_readToken_8 C0  1000 G (lv_sub hl [0] rfl) hf
theorem o3_readToken : okName yX3_readToken 0 := ⟨by decide, by decide, by decide +kernel⟩
set_option maxHeartbeats 4000000 in
set_option maxRecDepth 100000 in
theorem c3_readToken {ta adK adV : Nat → Nat} (hX : XT (XS ta adK adV)) {l : Launch} {D : va_G} {cI cB cG cS : ClassId} {at_ ad : Nat → Nat} {sz : Nat} {tb : Nat → Int32} {tl : Int32} {rtok : Int32} {rbg : Int32} {ren : Int32} {rvl : Int32} {hp : Nat → Int32} {st : Nat → Int32} {tr : Nat → Nat → Int32} {sp : Nat → Int32} {vis : Int32} {day : Int32} {z : Int32}  {o_rtok : Int32} {o_rbg : Int32} {o_ren : Int32} {o_rvl : Int32} (hf : f3_readToken tb tl rtok rbg ren rvl = some (o_rtok, o_rbg, o_ren, o_rvl)) : Met l yX3_readToken (wU yX3_readToken cX3_readToken 1 none) ({ frames := 2, cells := 0, slots := 0, locals := 35 }) (va_Pc [.ref (at_ 0)] (PreW (XS ta adK adV) D (tyC cI cB cG cS) (wT cI cB cG at_ ad tb tl rtok rbg ren rvl hp st tr sp vis day z) sz)) (QcV D (tyC cI cB cG cS) (wT cI cB cG at_ ad tb tl o_rtok o_rbg o_ren o_rvl hp st tr sp vis day z) (va_A (wT cI cB cG at_ ad tb tl rtok rbg ren rvl hp st tr sp vis day z) sz)) 0 0 (va_A (wT cI cB cG at_ ad tb tl rtok rbg ren rvl hp st tr sp vis day z) sz) := by
  refine startW hX (own := RX3) (by decide) rfl (Nat.le_of_ble_eq_true rfl) (fun p e s m args below meth c ls C0 G hl => ?_)
  exact b3_readToken_0 C0 G hl hf
/-! 3_isWord -/
theorem dX3_isWord_0 : decode cX3_isWord 0 = .ok (.aload_n 0, 1) := by decide +kernel
theorem dX3_isWord_1 : decode cX3_isWord 1 = .ok (.getfield 32, 3) := by decide +kernel
theorem dX3_isWord_4 : decode cX3_isWord 4 = .ok (.iconst 1, 1) := by decide +kernel
theorem dX3_isWord_5 : decode cX3_isWord 5 = .ok (.if_icmp .ne 19, 3) := by decide +kernel
theorem dX3_isWord_8 : decode cX3_isWord 8 = .ok (.aload_n 1, 1) := by decide +kernel
theorem dX3_isWord_9 : decode cX3_isWord 9 = .ok (.invokevirtual 131, 3) := by decide +kernel
theorem dX3_isWord_12 : decode cX3_isWord 12 = .ok (.aload_n 0, 1) := by decide +kernel
theorem dX3_isWord_13 : decode cX3_isWord 13 = .ok (.getfield 18, 3) := by decide +kernel
theorem dX3_isWord_16 : decode cX3_isWord 16 = .ok (.aload_n 0, 1) := by decide +kernel
theorem dX3_isWord_17 : decode cX3_isWord 17 = .ok (.getfield 29, 3) := by decide +kernel
theorem dX3_isWord_20 : decode cX3_isWord 20 = .ok (.isub, 1) := by decide +kernel
theorem dX3_isWord_21 : decode cX3_isWord 21 = .ok (.if_icmp .eq 5, 3) := by decide +kernel
theorem dX3_isWord_24 : decode cX3_isWord 24 = .ok (.iconst 0, 1) := by decide +kernel
theorem dX3_isWord_25 : decode cX3_isWord 25 = .ok (.ireturn, 1) := by decide +kernel
theorem dX3_isWord_26 : decode cX3_isWord 26 = .ok (.iconst 0, 1) := by decide +kernel
theorem dX3_isWord_27 : decode cX3_isWord 27 = .ok (.istore_n 2, 1) := by decide +kernel
theorem dX3_isWord_28 : decode cX3_isWord 28 = .ok (.iload_n 2, 1) := by decide +kernel
theorem dX3_isWord_29 : decode cX3_isWord 29 = .ok (.aload_n 1, 1) := by decide +kernel
theorem dX3_isWord_30 : decode cX3_isWord 30 = .ok (.invokevirtual 131, 3) := by decide +kernel
theorem dX3_isWord_33 : decode cX3_isWord 33 = .ok (.if_icmp .ge 33, 3) := by decide +kernel
theorem dX3_isWord_36 : decode cX3_isWord 36 = .ok (.aload_n 1, 1) := by decide +kernel
theorem dX3_isWord_37 : decode cX3_isWord 37 = .ok (.iload_n 2, 1) := by decide +kernel
theorem dX3_isWord_38 : decode cX3_isWord 38 = .ok (.invokevirtual 137, 3) := by decide +kernel
theorem dX3_isWord_41 : decode cX3_isWord 41 = .ok (.aload_n 0, 1) := by decide +kernel
theorem dX3_isWord_42 : decode cX3_isWord 42 = .ok (.getfield 12, 3) := by decide +kernel
theorem dX3_isWord_45 : decode cX3_isWord 45 = .ok (.getfield 141, 3) := by decide +kernel
theorem dX3_isWord_48 : decode cX3_isWord 48 = .ok (.aload_n 0, 1) := by decide +kernel
theorem dX3_isWord_49 : decode cX3_isWord 49 = .ok (.getfield 29, 3) := by decide +kernel
theorem dX3_isWord_52 : decode cX3_isWord 52 = .ok (.iload_n 2, 1) := by decide +kernel
theorem dX3_isWord_53 : decode cX3_isWord 53 = .ok (.iadd, 1) := by decide +kernel
theorem dX3_isWord_54 : decode cX3_isWord 54 = .ok (.baload, 1) := by decide +kernel
theorem dX3_isWord_55 : decode cX3_isWord 55 = .ok (.if_icmp .eq 5, 3) := by decide +kernel
theorem dX3_isWord_58 : decode cX3_isWord 58 = .ok (.iconst 0, 1) := by decide +kernel
theorem dX3_isWord_59 : decode cX3_isWord 59 = .ok (.ireturn, 1) := by decide +kernel
theorem dX3_isWord_60 : decode cX3_isWord 60 = .ok (.iinc 2 1, 3) := by decide +kernel
theorem dX3_isWord_63 : decode cX3_isWord 63 = .ok (.goto (-35), 3) := by decide +kernel
theorem dX3_isWord_66 : decode cX3_isWord 66 = .ok (.iconst 1, 1) := by decide +kernel
theorem dX3_isWord_67 : decode cX3_isWord 67 = .ok (.ireturn, 1) := by decide +kernel
def l3_isWord_28  : Nat → Nat → (Nat → Int32) → Int32 → Int32 → Int32 → Int32 → Option (Int32)
  | 0, _, _, _, _, _, _ => none
  | n + 1, i, tb, rtok, rbg, ren, v2 =>
    if (lenI i) ≤ v2 then (
      some (1 : Int32))
    else (
      gd (inb v2 (lenS.getD i 0)) (
      gd (inb (rbg + v2) 120) (
      if (chS i v2.toNatClampNeg) = (tb ((rbg + v2).toNatClampNeg)) then (
        (l3_isWord_28 n) i tb rtok rbg ren (v2 + (1 : Int32)))
      else (
        some (0 : Int32)))))
def f3_isWord (i : Nat) (tb : Nat → Int32) (rtok : Int32) (rbg : Int32) (ren : Int32)  : Option (Int32) :=
  if rtok = (1 : Int32) then (
    if (lenI i) = (ren - rbg) then (
      l3_isWord_28 1000 i tb rtok rbg ren (0 : Int32))
    else (
      some (0 : Int32)))
  else (
    some (0 : Int32))
set_option maxHeartbeats 4000000 in
set_option maxRecDepth 100000 in
theorem b3_isWord_28 {ta adK adV : Nat → Nat} {p : Program} {l : Launch} {e : Env} {s : State} {m : MethodId} {args : Array Value} {below : List Frame} {meth : Method} {c : Code} {D : va_G} {cI cB cG cS : ClassId} {at_ ad : Nat → Nat} {A : Nat → Prop} {i : Nat} {tb : Nat → Int32} {tl : Int32} {rtok : Int32} {rbg : Int32} {ren : Int32} {rvl : Int32} {hp : Nat → Int32} {st : Nat → Int32} {tr : Nat → Nat → Int32} {sp : Nat → Int32} {vis : Int32} {day : Int32} {z : Int32} {r0 : Int32} (C0 : CX (XS ta adK adV) p s m args meth c cX3_isWord 3 (some .boolean) RX3 A) (hi : i < 15) : ∀ (n : Nat) {v2 : Int32} {H : Heap} {locs : List Loc} {ls : Array Slot}, GX (XS ta adK adV) D (tyC cI cB cG cS) A s (wT cI cB cG at_ ad tb tl rtok rbg ren rvl hp st tr sp vis day z) H locs → lv_has ls 3 [(0, .ref (at_ 0)), (1, .ref (adK i)), (2, .int v2)] → l3_isWord_28  n i tb rtok rbg ren v2 = some r0 → W p l e ({ frames := 4, cells := 0, slots := 0, locals := 85 }) s m args below meth c H locs 0 0 (MQ below (QcI D (tyC cI cB cG cS) (wT cI cB cG at_ ad tb tl rtok rbg ren rvl hp st tr sp vis day z) A r0) args s 0 0 A) (F0 m 28 ls []) := by
  have hx := C0.1
  have hb := C0.2.1
  have hown := C0.2.2.2.2.1
  have hts := C0.2.2.2.2.2.1
  have hX := C0.2.2.2.2.2.2.2.2
  intro n
  induction n with
  | zero =>
    intro _ _ _ _ G hl hf
    cases hf
  | succ n ih =>
    intro v2 H locs ls G hl hf
    rw [l3_isWord_28] at hf
    refine lv_iload_n hx hb dX3_isWord_28 rfl (lv_at hl 2 rfl) ?_
    refine lv_aload_n hx hb dX3_isWord_29 rfl (lv_at hl 1 rfl) ?_
    refine go_i C0 G (runV_x (n := 0) (As := []) (rest := [.int v2]) C0 G (cS_len hi) (vk_recv (xs_S G.2.2.2.2) hi G.2.2.2.1) q552 q58 q549 q550 q551 oS_len ⟨rfl, rfl⟩ ⟨Nat.le_of_ble_eq_true rfl, Nat.le_of_ble_eq_true rfl⟩ rfl hl.1 rfl (Nat.le_of_ble_eq_true rfl) dX3_isWord_30) (fun H locs G => ?_)
    refine lv_icmp_ge (tgt := 66) hx hb dX3_isWord_33 (by decide) (fun hc3 => ?_) (fun hc3 => ?_)
    · have hf := itp hc3 hf
      refine lv_iconst (v := (1 : Int32)) hx hb dX3_isWord_66 (by decide) ?_
      obtain rfl := inj1 hf
      exact ret_z C0 G rfl dX3_isWord_67
    · have hf := itn hc3 hf
      refine lv_aload_n hx hb dX3_isWord_36 rfl (lv_at hl 1 rfl) ?_
      refine lv_iload_n hx hb dX3_isWord_37 rfl (lv_at hl 2 rfl) ?_
      obtain ⟨hi4, hf⟩ := gd_s hf
      refine go_i C0 G (runV_x (n := 1) (As := [.int v2]) (rest := []) C0 G (cS_chr hi hi4) (vk_recv (xs_S G.2.2.2.2) hi G.2.2.2.1) q562 q58 q559 q560 q561 oS_chr ⟨rfl, rfl⟩ ⟨Nat.le_of_ble_eq_true rfl, Nat.le_of_ble_eq_true rfl⟩ rfl hl.1 rfl (Nat.le_of_ble_eq_true rfl) dX3_isWord_38) (fun H locs G => ?_)
      refine lv_aload_n hx hb dX3_isWord_41 rfl (lv_at hl 0 rfl) ?_
      refine s_get (C := RX3) (T := TX3) C0 G i_X3 0 0 rfl rfl (by decide) q136 rfl dX3_isWord_42 ?_
      refine s_get (C := RX2) (T := TX2) C0 G i_X2 1 0 rfl rfl (by decide) q126 rfl dX3_isWord_45 ?_
      refine lv_aload_n hx hb dX3_isWord_48 rfl (lv_at hl 0 rfl) ?_
      refine s_get (C := RX3) (T := TX3) C0 G i_X3 0 2 rfl rfl (by decide) q139 rfl dX3_isWord_49 ?_
      refine lv_iload_n hx hb dX3_isWord_52 rfl (lv_at hl 2 rfl) ?_
      refine lv_iadd hx hb dX3_isWord_53 ?_
      obtain ⟨hi5, hf⟩ := gd_s hf
      refine s_bald (k := (rbg + v2).toNatClampNeg) C0 G 2 1 rfl rfl (vin hi5) rfl dX3_isWord_54 ?_
      refine lv_icmp_eq (tgt := 60) hx hb dX3_isWord_55 (by decide) (fun hc6 => ?_) (fun hc6 => ?_)
      · have hf := itp hc6 hf
        refine lv_iinc (v := (v2 + (1 : Int32))) (lv' := [(2, .int (v2 + (1 : Int32))), (0, .ref (at_ 0)), (1, .ref (adK i))]) hx hb dX3_isWord_60 hl (k := 2) rfl rfl (by decide) rfl (fun ls hl => ?_)
        refine lv_goto (tgt := 28) hx hb dX3_isWord_63 (by decide) ?_
        exact ih G (lv_sub hl [1, 2, 0] rfl) hf
      · have hf := itn hc6 hf
        refine lv_iconst (v := (0 : Int32)) hx hb dX3_isWord_58 (by decide) ?_
        obtain rfl := inj1 hf
        exact ret_z C0 G rfl dX3_isWord_59
set_option maxHeartbeats 4000000 in
set_option maxRecDepth 100000 in
theorem b3_isWord_0 {ta adK adV : Nat → Nat} {p : Program} {l : Launch} {e : Env} {s : State} {m : MethodId} {args : Array Value} {below : List Frame} {meth : Method} {c : Code} {D : va_G} {cI cB cG cS : ClassId} {at_ ad : Nat → Nat} {A : Nat → Prop} {i : Nat} {tb : Nat → Int32} {tl : Int32} {rtok : Int32} {rbg : Int32} {ren : Int32} {rvl : Int32} {hp : Nat → Int32} {st : Nat → Int32} {tr : Nat → Nat → Int32} {sp : Nat → Int32} {vis : Int32} {day : Int32} {z : Int32} {r0 : Int32} (C0 : CX (XS ta adK adV) p s m args meth c cX3_isWord 3 (some .boolean) RX3 A) (hi : i < 15) : ∀ {H : Heap} {locs : List Loc} {ls : Array Slot}, GX (XS ta adK adV) D (tyC cI cB cG cS) A s (wT cI cB cG at_ ad tb tl rtok rbg ren rvl hp st tr sp vis day z) H locs → lv_has ls 3 [(0, .ref (at_ 0)), (1, .ref (adK i))] → f3_isWord i tb rtok rbg ren = some r0 → W p l e ({ frames := 4, cells := 0, slots := 0, locals := 85 }) s m args below meth c H locs 0 0 (MQ below (QcI D (tyC cI cB cG cS) (wT cI cB cG at_ ad tb tl rtok rbg ren rvl hp st tr sp vis day z) A r0) args s 0 0 A) (F0 m 0 ls []) := by
  have hx := C0.1
  have hb := C0.2.1
  have hown := C0.2.2.2.2.1
  have hts := C0.2.2.2.2.2.1
  have hX := C0.2.2.2.2.2.2.2.2
  intro H locs ls G hl hf
  unfold f3_isWord at hf
  refine lv_aload_n hx hb dX3_isWord_0 rfl (lv_at hl 0 rfl) ?_
  refine s_get (C := RX3) (T := TX3) C0 G i_X3 0 1 rfl rfl (by decide) q138 rfl dX3_isWord_1 ?_
  refine lv_iconst (v := (1 : Int32)) hx hb dX3_isWord_4 (by decide) ?_
  refine lv_icmp_ne (tgt := 24) hx hb dX3_isWord_5 (by decide) (fun hc1 => ?_) (fun hc1 => ?_)
  · have hf := itn hc1 hf
    refine lv_iconst (v := (0 : Int32)) hx hb dX3_isWord_24 (by decide) ?_
    obtain rfl := inj1 hf
    exact ret_z C0 G rfl dX3_isWord_25
  · have hf := itp hc1 hf
    refine lv_aload_n hx hb dX3_isWord_8 rfl (lv_at hl 1 rfl) ?_
    refine go_i C0 G (runV_x (n := 0) (As := []) (rest := []) C0 G (cS_len hi) (vk_recv (xs_S G.2.2.2.2) hi G.2.2.2.1) q552 q58 q549 q550 q551 oS_len ⟨rfl, rfl⟩ ⟨Nat.le_of_ble_eq_true rfl, Nat.le_of_ble_eq_true rfl⟩ rfl hl.1 rfl (Nat.le_of_ble_eq_true rfl) dX3_isWord_9) (fun H locs G => ?_)
    refine lv_aload_n hx hb dX3_isWord_12 rfl (lv_at hl 0 rfl) ?_
    refine s_get (C := RX3) (T := TX3) C0 G i_X3 0 3 rfl rfl (by decide) q140 rfl dX3_isWord_13 ?_
    refine lv_aload_n hx hb dX3_isWord_16 rfl (lv_at hl 0 rfl) ?_
    refine s_get (C := RX3) (T := TX3) C0 G i_X3 0 2 rfl rfl (by decide) q139 rfl dX3_isWord_17 ?_
    refine lv_isub hx hb dX3_isWord_20 ?_
    refine lv_icmp_eq (tgt := 26) hx hb dX3_isWord_21 (by decide) (fun hc2 => ?_) (fun hc2 => ?_)
    · have hf := itp hc2 hf
      refine lv_iconst (v := (0 : Int32)) hx hb dX3_isWord_26 (by decide) ?_
      refine lv_istore_n (lv' := [(2, .int (0 : Int32)), (0, .ref (at_ 0)), (1, .ref (adK i))]) hx hb dX3_isWord_27 rfl hl (by decide) rfl (fun ls hl => ?_)
      exact b3_isWord_28 C0 hi  1000 G (lv_sub hl [1, 2, 0] rfl) hf
    · have hf := itn hc2 hf
      refine lv_iconst (v := (0 : Int32)) hx hb dX3_isWord_24 (by decide) ?_
      obtain rfl := inj1 hf
      exact ret_z C0 G rfl dX3_isWord_25
theorem o3_isWord : okName yX3_isWord 1 := ⟨by decide, by decide, by decide +kernel⟩
set_option maxHeartbeats 4000000 in
set_option maxRecDepth 100000 in
theorem c3_isWord {ta adK adV : Nat → Nat} (hX : XT (XS ta adK adV)) {l : Launch} {D : va_G} {cI cB cG cS : ClassId} {at_ ad : Nat → Nat} {sz : Nat} {i : Nat} {tb : Nat → Int32} {tl : Int32} {rtok : Int32} {rbg : Int32} {ren : Int32} {rvl : Int32} {hp : Nat → Int32} {st : Nat → Int32} {tr : Nat → Nat → Int32} {sp : Nat → Int32} {vis : Int32} {day : Int32} {z : Int32}  {r0 : Int32} (hi : i < 15) (hf : f3_isWord i tb rtok rbg ren = some r0) : Met l yX3_isWord (wU yX3_isWord cX3_isWord 3 (some .boolean)) ({ frames := 4, cells := 0, slots := 0, locals := 85 }) (va_Pc [.ref (at_ 0), .ref (adK i)] (PreW (XS ta adK adV) D (tyC cI cB cG cS) (wT cI cB cG at_ ad tb tl rtok rbg ren rvl hp st tr sp vis day z) sz)) (QcI D (tyC cI cB cG cS) (wT cI cB cG at_ ad tb tl rtok rbg ren rvl hp st tr sp vis day z) (va_A (wT cI cB cG at_ ad tb tl rtok rbg ren rvl hp st tr sp vis day z) sz) r0) 0 0 (va_A (wT cI cB cG at_ ad tb tl rtok rbg ren rvl hp st tr sp vis day z) sz) := by
  refine startW hX (own := RX3) (by decide) rfl (Nat.le_of_ble_eq_true rfl) (fun p e s m args below meth c ls C0 G hl => ?_)
  exact b3_isWord_0 C0 hi G hl hf
/-! 3_isNumber -/
theorem dX3_isNumber_0 : decode cX3_isNumber 0 = .ok (.aload_n 0, 1) := by decide +kernel
theorem dX3_isNumber_1 : decode cX3_isNumber 1 = .ok (.getfield 32, 3) := by decide +kernel
theorem dX3_isNumber_4 : decode cX3_isNumber 4 = .ok (.iconst 2, 1) := by decide +kernel
theorem dX3_isNumber_5 : decode cX3_isNumber 5 = .ok (.if_icmp .ne 19, 3) := by decide +kernel
theorem dX3_isNumber_8 : decode cX3_isNumber 8 = .ok (.aload_n 0, 1) := by decide +kernel
theorem dX3_isNumber_9 : decode cX3_isNumber 9 = .ok (.getfield 115, 3) := by decide +kernel
theorem dX3_isNumber_12 : decode cX3_isNumber 12 = .ok (.iload_n 1, 1) := by decide +kernel
theorem dX3_isNumber_13 : decode cX3_isNumber 13 = .ok (.iload_n 2, 1) := by decide +kernel
theorem dX3_isNumber_14 : decode cX3_isNumber 14 = .ok (.invokestatic 127, 3) := by decide +kernel
theorem dX3_isNumber_17 : decode cX3_isNumber 17 = .ok (.ifCond .eq 7, 3) := by decide +kernel
theorem dX3_isNumber_20 : decode cX3_isNumber 20 = .ok (.iconst 1, 1) := by decide +kernel
theorem dX3_isNumber_21 : decode cX3_isNumber 21 = .ok (.goto 4, 3) := by decide +kernel
theorem dX3_isNumber_24 : decode cX3_isNumber 24 = .ok (.iconst 0, 1) := by decide +kernel
theorem dX3_isNumber_25 : decode cX3_isNumber 25 = .ok (.ireturn, 1) := by decide +kernel
def f3_isNumber (rtok : Int32) (rvl : Int32) (v1 : Int32) (v2 : Int32) : Int32 :=
  if rtok = (2 : Int32) then (
    if (f4_within rvl v1 v2) = (0 : Int32) then (
      (0 : Int32))
    else (
      (1 : Int32)))
  else (
    (0 : Int32))
set_option maxHeartbeats 4000000 in
set_option maxRecDepth 100000 in
theorem b3_isNumber_0 {ta adK adV : Nat → Nat} {p : Program} {l : Launch} {e : Env} {s : State} {m : MethodId} {args : Array Value} {below : List Frame} {meth : Method} {c : Code} {D : va_G} {cI cB cG cS : ClassId} {at_ ad : Nat → Nat} {A : Nat → Prop} {tb : Nat → Int32} {tl : Int32} {rtok : Int32} {rbg : Int32} {ren : Int32} {rvl : Int32} {hp : Nat → Int32} {st : Nat → Int32} {tr : Nat → Nat → Int32} {sp : Nat → Int32} {vis : Int32} {day : Int32} {z : Int32} {r0 : Int32} (C0 : CX (XS ta adK adV) p s m args meth c cX3_isNumber 3 (some .boolean) RX3 A) : ∀ {v1 : Int32} {v2 : Int32} {H : Heap} {locs : List Loc} {ls : Array Slot}, GX (XS ta adK adV) D (tyC cI cB cG cS) A s (wT cI cB cG at_ ad tb tl rtok rbg ren rvl hp st tr sp vis day z) H locs → lv_has ls 3 [(0, .ref (at_ 0)), (1, .int v1), (2, .int v2)] → f3_isNumber rtok rvl v1 v2 = r0 → W p l e ({ frames := 1, cells := 0, slots := 0, locals := 22 }) s m args below meth c H locs 0 0 (MQ below (QcI D (tyC cI cB cG cS) (wT cI cB cG at_ ad tb tl rtok rbg ren rvl hp st tr sp vis day z) A r0) args s 0 0 A) (F0 m 0 ls []) := by
  have hx := C0.1
  have hb := C0.2.1
  have hown := C0.2.2.2.2.1
  have hts := C0.2.2.2.2.2.1
  have hX := C0.2.2.2.2.2.2.2.2
  intro v1 v2 H locs ls G hl hf
  unfold f3_isNumber at hf
  refine lv_aload_n hx hb dX3_isNumber_0 rfl (lv_at hl 0 rfl) ?_
  refine s_get (C := RX3) (T := TX3) C0 G i_X3 0 1 rfl rfl (by decide) q138 rfl dX3_isNumber_1 ?_
  refine lv_iconst (v := (2 : Int32)) hx hb dX3_isNumber_4 (by decide) ?_
  refine lv_icmp_ne (tgt := 24) hx hb dX3_isNumber_5 (by decide) (fun hc1 => ?_) (fun hc1 => ?_)
  · have hf := itn hc1 hf
    refine lv_iconst (v := (0 : Int32)) hx hb dX3_isNumber_24 (by decide) ?_
    obtain rfl := tnj1 hf
    exact ret_z C0 G rfl dX3_isNumber_25
  · have hf := itp hc1 hf
    refine lv_aload_n hx hb dX3_isNumber_8 rfl (lv_at hl 0 rfl) ?_
    refine s_get (C := RX3) (T := TX3) C0 G i_X3 0 4 rfl rfl (by decide) q141 rfl dX3_isNumber_9 ?_
    refine lv_iload_n hx hb dX3_isNumber_12 rfl (lv_at hl 1 rfl) ?_
    refine lv_iload_n hx hb dX3_isNumber_13 rfl (lv_at hl 2 rfl) ?_
    refine go_i C0 G (runSN_of (n := 3) (As := [.int rvl, .int v1, .int v2]) (rest := []) C0 G (c4_within hX rfl) q204 q49 (xn_615 G.2.2.2.2.2.1) q203 o4_within ⟨rfl, rfl⟩ ⟨Nat.le_of_ble_eq_true rfl, Nat.le_of_ble_eq_true rfl⟩ rfl hl.1 rfl (Nat.le_of_ble_eq_true rfl) dX3_isNumber_14) (fun H locs G => ?_)
    refine lv_if_eq (tgt := 24) hx hb dX3_isNumber_17 (by decide) (fun hc2 => ?_) (fun hc2 => ?_)
    · have hf := itp hc2 hf
      refine lv_iconst (v := (0 : Int32)) hx hb dX3_isNumber_24 (by decide) ?_
      obtain rfl := tnj1 hf
      exact ret_z C0 G rfl dX3_isNumber_25
    · have hf := itn hc2 hf
      refine lv_iconst (v := (1 : Int32)) hx hb dX3_isNumber_20 (by decide) ?_
      refine lv_goto (tgt := 25) hx hb dX3_isNumber_21 (by decide) ?_
      obtain rfl := tnj1 hf
      exact ret_z C0 G rfl dX3_isNumber_25
theorem z3_isNumber (rtok : Int32) (rvl : Int32) (v1 : Int32) (v2 : Int32) : b01 (f3_isNumber rtok rvl v1 v2) = true := by
  unfold f3_isNumber
  (repeat' split) <;> first | rfl | exact z4_within _ _ _
theorem o3_isNumber : okName yX3_isNumber 2 := ⟨by decide, by decide, by decide +kernel⟩
set_option maxHeartbeats 4000000 in
set_option maxRecDepth 100000 in
theorem c3_isNumber {ta adK adV : Nat → Nat} (hX : XT (XS ta adK adV)) {l : Launch} {D : va_G} {cI cB cG cS : ClassId} {at_ ad : Nat → Nat} {sz : Nat} {tb : Nat → Int32} {tl : Int32} {rtok : Int32} {rbg : Int32} {ren : Int32} {rvl : Int32} {hp : Nat → Int32} {st : Nat → Int32} {tr : Nat → Nat → Int32} {sp : Nat → Int32} {vis : Int32} {day : Int32} {z : Int32} {v1 : Int32} {v2 : Int32} {r0 : Int32} (hf : f3_isNumber rtok rvl v1 v2 = r0) : Met l yX3_isNumber (wU yX3_isNumber cX3_isNumber 3 (some .boolean)) ({ frames := 1, cells := 0, slots := 0, locals := 22 }) (va_Pc [.ref (at_ 0), .int v1, .int v2] (PreW (XS ta adK adV) D (tyC cI cB cG cS) (wT cI cB cG at_ ad tb tl rtok rbg ren rvl hp st tr sp vis day z) sz)) (QcI D (tyC cI cB cG cS) (wT cI cB cG at_ ad tb tl rtok rbg ren rvl hp st tr sp vis day z) (va_A (wT cI cB cG at_ ad tb tl rtok rbg ren rvl hp st tr sp vis day z) sz) r0) 0 0 (va_A (wT cI cB cG at_ ad tb tl rtok rbg ren rvl hp st tr sp vis day z) sz) := by
  refine startW hX (own := RX3) (by decide) rfl (Nat.le_of_ble_eq_true rfl) (fun p e s m args below meth c ls C0 G hl => ?_)
  exact b3_isNumber_0 C0 G hl hf
/-! 3_readSetting -/
theorem dX3_readSetting_0 : decode cX3_readSetting 0 = .ok (.aload_n 0, 1) := by decide +kernel
theorem dX3_readSetting_1 : decode cX3_readSetting 1 = .ok (.invokevirtual 22, 3) := by decide +kernel
theorem dX3_readSetting_4 : decode cX3_readSetting 4 = .ok (.aload_n 0, 1) := by decide +kernel
theorem dX3_readSetting_5 : decode cX3_readSetting 5 = .ok (.iconst 0, 1) := by decide +kernel
theorem dX3_readSetting_6 : decode cX3_readSetting 6 = .ok (.getstatic 121, 3) := by decide +kernel
theorem dX3_readSetting_9 : decode cX3_readSetting 9 = .ok (.iload_n 2, 1) := by decide +kernel
theorem dX3_readSetting_10 : decode cX3_readSetting 10 = .ok (.iaload, 1) := by decide +kernel
theorem dX3_readSetting_11 : decode cX3_readSetting 11 = .ok (.invokevirtual 107, 3) := by decide +kernel
theorem dX3_readSetting_14 : decode cX3_readSetting 14 = .ok (.ifCond .ne 5, 3) := by decide +kernel
theorem dX3_readSetting_17 : decode cX3_readSetting 17 = .ok (.iconst 0, 1) := by decide +kernel
theorem dX3_readSetting_18 : decode cX3_readSetting 18 = .ok (.ireturn, 1) := by decide +kernel
theorem dX3_readSetting_19 : decode cX3_readSetting 19 = .ok (.aload_n 1, 1) := by decide +kernel
theorem dX3_readSetting_20 : decode cX3_readSetting 20 = .ok (.getfield 124, 3) := by decide +kernel
theorem dX3_readSetting_23 : decode cX3_readSetting 23 = .ok (.iload_n 2, 1) := by decide +kernel
theorem dX3_readSetting_24 : decode cX3_readSetting 24 = .ok (.aload_n 0, 1) := by decide +kernel
theorem dX3_readSetting_25 : decode cX3_readSetting 25 = .ok (.getfield 115, 3) := by decide +kernel
theorem dX3_readSetting_28 : decode cX3_readSetting 28 = .ok (.iastore, 1) := by decide +kernel
theorem dX3_readSetting_29 : decode cX3_readSetting 29 = .ok (.aload_n 0, 1) := by decide +kernel
theorem dX3_readSetting_30 : decode cX3_readSetting 30 = .ok (.invokevirtual 22, 3) := by decide +kernel
theorem dX3_readSetting_33 : decode cX3_readSetting 33 = .ok (.iconst 1, 1) := by decide +kernel
theorem dX3_readSetting_34 : decode cX3_readSetting 34 = .ok (.ireturn, 1) := by decide +kernel
def f3_readSetting (tb : Nat → Int32) (tl : Int32) (rtok : Int32) (rbg : Int32) (ren : Int32) (rvl : Int32) (st : Nat → Int32) (v2 : Int32) : Option (Int32 × Int32 × Int32 × Int32 × Int32 × (Nat → Int32)) :=
  ob4 (f3_readToken tb tl rtok rbg ren rvl) (fun rtok_1 rbg_2 ren_3 rvl_4 =>
  gd (inb v2 3) (
  if (f3_isNumber rtok_1 rvl_4 (0 : Int32) (kSM v2.toNatClampNeg)) = (0 : Int32) then (
    some ((0 : Int32), rtok_1, rbg_2, ren_3, rvl_4, st))
  else (
    gd (inb v2 3) (
    ob4 (f3_readToken tb tl rtok_1 rbg_2 ren_3 rvl_4) (fun rtok_9 rbg_10 ren_11 rvl_12 =>
    some ((1 : Int32), rtok_9, rbg_10, ren_11, rvl_12, (upd st v2.toNatClampNeg rvl_4)))))))
set_option maxHeartbeats 4000000 in
set_option maxRecDepth 100000 in
theorem b3_readSetting_0 {ta adK adV : Nat → Nat} {p : Program} {l : Launch} {e : Env} {s : State} {m : MethodId} {args : Array Value} {below : List Frame} {meth : Method} {c : Code} {D : va_G} {cI cB cG cS : ClassId} {at_ ad : Nat → Nat} {A : Nat → Prop} {tb : Nat → Int32} {tl : Int32} {hp : Nat → Int32} {tr : Nat → Nat → Int32} {sp : Nat → Int32} {vis : Int32} {day : Int32} {z : Int32} {r0 : Int32} {o_rtok : Int32} {o_rbg : Int32} {o_ren : Int32} {o_rvl : Int32} {o_st : Nat → Int32} (C0 : CX (XS ta adK adV) p s m args meth c cX3_readSetting 3 (some .boolean) RX3 A) : ∀ {rtok : Int32} {rbg : Int32} {ren : Int32} {rvl : Int32} {st : Nat → Int32} {v2 : Int32} {H : Heap} {locs : List Loc} {ls : Array Slot}, GX (XS ta adK adV) D (tyC cI cB cG cS) A s (wT cI cB cG at_ ad tb tl rtok rbg ren rvl hp st tr sp vis day z) H locs → lv_has ls 3 [(0, .ref (at_ 0)), (1, .ref (ad 0)), (2, .int v2)] → f3_readSetting tb tl rtok rbg ren rvl st v2 = some (r0, o_rtok, o_rbg, o_ren, o_rvl, o_st) → W p l e ({ frames := 3, cells := 0, slots := 0, locals := 55 }) s m args below meth c H locs 0 0 (MQ below (QcI D (tyC cI cB cG cS) (wT cI cB cG at_ ad tb tl o_rtok o_rbg o_ren o_rvl hp o_st tr sp vis day z) A r0) args s 0 0 A) (F0 m 0 ls []) := by
  have hx := C0.1
  have hb := C0.2.1
  have hown := C0.2.2.2.2.1
  have hts := C0.2.2.2.2.2.1
  have hX := C0.2.2.2.2.2.2.2.2
  intro rtok rbg ren rvl st v2 H locs ls G hl hf
  unfold f3_readSetting at hf
  refine lv_aload_n hx hb dX3_readSetting_0 rfl (lv_at hl 0 rfl) ?_
  obtain ⟨rtok_1, rbg_2, ren_3, rvl_4, hc5, hf⟩ := ob4_s hf
  refine go_v C0 G (runV_of (n := 0) (q0 := 0) (As := []) (rest := []) C0 G (c3_readToken hX hc5) q521 q51 q518 q519 q520 o3_readToken ⟨rfl, rfl⟩ ⟨Nat.le_of_ble_eq_true rfl, Nat.le_of_ble_eq_true rfl⟩ rfl rfl rfl hl.1 rfl (Nat.le_of_ble_eq_true rfl) dX3_readSetting_1) (fun H locs G => ?_)
  refine lv_aload_n hx hb dX3_readSetting_4 rfl (lv_at hl 0 rfl) ?_
  refine lv_iconst (v := (0 : Int32)) hx hb dX3_readSetting_5 (by decide) ?_
  refine s_getsN C0 G (xa_1 G.2.2.2.2) (xn_629 G.2.2.2.2.2.1) dX3_readSetting_6 ?_
  refine lv_iload_n hx hb dX3_readSetting_9 rfl (lv_at hl 2 rfl) ?_
  obtain ⟨hi6, hf⟩ := gd_s hf
  refine s_ti (k := v2.toNatClampNeg) C0 G (xa_1 G.2.2.2.2) (vin hi6) rfl dX3_readSetting_10 ?_
  refine go_i C0 G (runV_of (n := 2) (q0 := 0) (As := [.int (0 : Int32), .int (kSM v2.toNatClampNeg)]) (rest := []) C0 G (c3_isNumber hX rfl) q614 q51 q611 q612 q613 o3_isNumber ⟨rfl, rfl⟩ ⟨Nat.le_of_ble_eq_true rfl, Nat.le_of_ble_eq_true rfl⟩ rfl rfl rfl hl.1 rfl (Nat.le_of_ble_eq_true rfl) dX3_readSetting_11) (fun H locs G => ?_)
  refine lv_if_ne (tgt := 19) hx hb dX3_readSetting_14 (by decide) (fun hc7 => ?_) (fun hc7 => ?_)
  · have hf := itn hc7 hf
    refine lv_aload_n hx hb dX3_readSetting_19 rfl (lv_at hl 1 rfl) ?_
    refine s_get (C := RX0) (T := TX0) C0 G i_X0 3 1 rfl rfl (by decide) q85 rfl dX3_readSetting_20 ?_
    refine lv_iload_n hx hb dX3_readSetting_23 rfl (lv_at hl 2 rfl) ?_
    refine lv_aload_n hx hb dX3_readSetting_24 rfl (lv_at hl 0 rfl) ?_
    refine s_get (C := RX3) (T := TX3) C0 G i_X3 0 4 rfl rfl (by decide) q141 rfl dX3_readSetting_25 ?_
    obtain ⟨hi8, hf⟩ := gd_s hf
    refine s_iast (k := v2.toNatClampNeg) (w' := (wT cI cB cG at_ ad tb tl rtok_1 rbg_2 ren_3 rvl_4 hp (upd st v2.toNatClampNeg rvl_4) tr sp vis day z)) C0 G 5 0 rfl rfl (vin hi8) rfl rfl dX3_readSetting_28 (fun H locs G => ?_)
    refine lv_aload_n hx hb dX3_readSetting_29 rfl (lv_at hl 0 rfl) ?_
    obtain ⟨rtok_9, rbg_10, ren_11, rvl_12, hc13, hf⟩ := ob4_s hf
    refine go_v C0 G (runV_of (n := 0) (q0 := 0) (As := []) (rest := []) C0 G (c3_readToken hX hc13) q521 q51 q518 q519 q520 o3_readToken ⟨rfl, rfl⟩ ⟨Nat.le_of_ble_eq_true rfl, Nat.le_of_ble_eq_true rfl⟩ rfl rfl rfl hl.1 rfl (Nat.le_of_ble_eq_true rfl) dX3_readSetting_30) (fun H locs G => ?_)
    refine lv_iconst (v := (1 : Int32)) hx hb dX3_readSetting_33 (by decide) ?_
    obtain ⟨rfl, rfl, rfl, rfl, rfl, rfl⟩ := inj6 hf
    exact ret_z C0 G rfl dX3_readSetting_34
  · have hf := itp hc7 hf
    refine lv_iconst (v := (0 : Int32)) hx hb dX3_readSetting_17 (by decide) ?_
    obtain ⟨rfl, rfl, rfl, rfl, rfl, rfl⟩ := inj6 hf
    exact ret_z C0 G rfl dX3_readSetting_18
theorem o3_readSetting : okName yX3_readSetting 2 := ⟨by decide, by decide, by decide +kernel⟩
set_option maxHeartbeats 4000000 in
set_option maxRecDepth 100000 in
theorem c3_readSetting {ta adK adV : Nat → Nat} (hX : XT (XS ta adK adV)) {l : Launch} {D : va_G} {cI cB cG cS : ClassId} {at_ ad : Nat → Nat} {sz : Nat} {tb : Nat → Int32} {tl : Int32} {rtok : Int32} {rbg : Int32} {ren : Int32} {rvl : Int32} {hp : Nat → Int32} {st : Nat → Int32} {tr : Nat → Nat → Int32} {sp : Nat → Int32} {vis : Int32} {day : Int32} {z : Int32} {v2 : Int32} {r0 : Int32} {o_rtok : Int32} {o_rbg : Int32} {o_ren : Int32} {o_rvl : Int32} {o_st : Nat → Int32} (hf : f3_readSetting tb tl rtok rbg ren rvl st v2 = some (r0, o_rtok, o_rbg, o_ren, o_rvl, o_st)) : Met l yX3_readSetting (wU yX3_readSetting cX3_readSetting 3 (some .boolean)) ({ frames := 3, cells := 0, slots := 0, locals := 55 }) (va_Pc [.ref (at_ 0), .ref (ad 0), .int v2] (PreW (XS ta adK adV) D (tyC cI cB cG cS) (wT cI cB cG at_ ad tb tl rtok rbg ren rvl hp st tr sp vis day z) sz)) (QcI D (tyC cI cB cG cS) (wT cI cB cG at_ ad tb tl o_rtok o_rbg o_ren o_rvl hp o_st tr sp vis day z) (va_A (wT cI cB cG at_ ad tb tl rtok rbg ren rvl hp st tr sp vis day z) sz) r0) 0 0 (va_A (wT cI cB cG at_ ad tb tl rtok rbg ren rvl hp st tr sp vis day z) sz) := by
  refine startW hX (own := RX3) (by decide) rfl (Nat.le_of_ble_eq_true rfl) (fun p e s m args below meth c ls C0 G hl => ?_)
  exact b3_readSetting_0 C0 G hl hf
/-! 3_readSand -/
theorem dX3_readSand_0 : decode cX3_readSand 0 = .ok (.aload_n 0, 1) := by decide +kernel
theorem dX3_readSand_1 : decode cX3_readSand 1 = .ok (.invokevirtual 22, 3) := by decide +kernel
theorem dX3_readSand_4 : decode cX3_readSand 4 = .ok (.aload_n 0, 1) := by decide +kernel
theorem dX3_readSand_5 : decode cX3_readSand 5 = .ok (.iconst 0, 1) := by decide +kernel
theorem dX3_readSand_6 : decode cX3_readSand 6 = .ok (.bipush 15, 2) := by decide +kernel
theorem dX3_readSand_8 : decode cX3_readSand 8 = .ok (.invokevirtual 107, 3) := by decide +kernel
theorem dX3_readSand_11 : decode cX3_readSand 11 = .ok (.ifCond .ne 5, 3) := by decide +kernel
theorem dX3_readSand_14 : decode cX3_readSand 14 = .ok (.iconst 0, 1) := by decide +kernel
theorem dX3_readSand_15 : decode cX3_readSand 15 = .ok (.ireturn, 1) := by decide +kernel
theorem dX3_readSand_16 : decode cX3_readSand 16 = .ok (.aload_n 0, 1) := by decide +kernel
theorem dX3_readSand_17 : decode cX3_readSand 17 = .ok (.getfield 115, 3) := by decide +kernel
theorem dX3_readSand_20 : decode cX3_readSand 20 = .ok (.istore_n 2, 1) := by decide +kernel
theorem dX3_readSand_21 : decode cX3_readSand 21 = .ok (.aload_n 0, 1) := by decide +kernel
theorem dX3_readSand_22 : decode cX3_readSand 22 = .ok (.invokevirtual 22, 3) := by decide +kernel
theorem dX3_readSand_25 : decode cX3_readSand 25 = .ok (.aload_n 0, 1) := by decide +kernel
theorem dX3_readSand_26 : decode cX3_readSand 26 = .ok (.iconst 0, 1) := by decide +kernel
theorem dX3_readSand_27 : decode cX3_readSand 27 = .ok (.bipush 30, 2) := by decide +kernel
theorem dX3_readSand_29 : decode cX3_readSand 29 = .ok (.invokevirtual 107, 3) := by decide +kernel
theorem dX3_readSand_32 : decode cX3_readSand 32 = .ok (.ifCond .ne 5, 3) := by decide +kernel
theorem dX3_readSand_35 : decode cX3_readSand 35 = .ok (.iconst 0, 1) := by decide +kernel
theorem dX3_readSand_36 : decode cX3_readSand 36 = .ok (.ireturn, 1) := by decide +kernel
theorem dX3_readSand_37 : decode cX3_readSand 37 = .ok (.aload_n 1, 1) := by decide +kernel
theorem dX3_readSand_38 : decode cX3_readSand 38 = .ok (.getfield 118, 3) := by decide +kernel
theorem dX3_readSand_41 : decode cX3_readSand 41 = .ok (.iload_n 2, 1) := by decide +kernel
theorem dX3_readSand_42 : decode cX3_readSand 42 = .ok (.aload_n 0, 1) := by decide +kernel
theorem dX3_readSand_43 : decode cX3_readSand 43 = .ok (.getfield 115, 3) := by decide +kernel
theorem dX3_readSand_46 : decode cX3_readSand 46 = .ok (.iastore, 1) := by decide +kernel
theorem dX3_readSand_47 : decode cX3_readSand 47 = .ok (.aload_n 0, 1) := by decide +kernel
theorem dX3_readSand_48 : decode cX3_readSand 48 = .ok (.invokevirtual 22, 3) := by decide +kernel
theorem dX3_readSand_51 : decode cX3_readSand 51 = .ok (.iconst 1, 1) := by decide +kernel
theorem dX3_readSand_52 : decode cX3_readSand 52 = .ok (.ireturn, 1) := by decide +kernel
def f3_readSand (tb : Nat → Int32) (tl : Int32) (rtok : Int32) (rbg : Int32) (ren : Int32) (rvl : Int32) (hp : Nat → Int32)  : Option (Int32 × Int32 × Int32 × Int32 × Int32 × (Nat → Int32)) :=
  ob4 (f3_readToken tb tl rtok rbg ren rvl) (fun rtok_1 rbg_2 ren_3 rvl_4 =>
  if (f3_isNumber rtok_1 rvl_4 (0 : Int32) (15 : Int32)) = (0 : Int32) then (
    some ((0 : Int32), rtok_1, rbg_2, ren_3, rvl_4, hp))
  else (
    ob4 (f3_readToken tb tl rtok_1 rbg_2 ren_3 rvl_4) (fun rtok_7 rbg_8 ren_9 rvl_10 =>
    if (f3_isNumber rtok_7 rvl_10 (0 : Int32) (30 : Int32)) = (0 : Int32) then (
      some ((0 : Int32), rtok_7, rbg_8, ren_9, rvl_10, hp))
    else (
      gd (inb rvl_4 16) (
      ob4 (f3_readToken tb tl rtok_7 rbg_8 ren_9 rvl_10) (fun rtok_14 rbg_15 ren_16 rvl_17 =>
      some ((1 : Int32), rtok_14, rbg_15, ren_16, rvl_17, (upd hp rvl_4.toNatClampNeg rvl_10))))))))
set_option maxHeartbeats 4000000 in
set_option maxRecDepth 100000 in
theorem b3_readSand_0 {ta adK adV : Nat → Nat} {p : Program} {l : Launch} {e : Env} {s : State} {m : MethodId} {args : Array Value} {below : List Frame} {meth : Method} {c : Code} {D : va_G} {cI cB cG cS : ClassId} {at_ ad : Nat → Nat} {A : Nat → Prop} {tb : Nat → Int32} {tl : Int32} {st : Nat → Int32} {tr : Nat → Nat → Int32} {sp : Nat → Int32} {vis : Int32} {day : Int32} {z : Int32} {r0 : Int32} {o_rtok : Int32} {o_rbg : Int32} {o_ren : Int32} {o_rvl : Int32} {o_hp : Nat → Int32} (C0 : CX (XS ta adK adV) p s m args meth c cX3_readSand 3 (some .boolean) RX3 A) : ∀ {rtok : Int32} {rbg : Int32} {ren : Int32} {rvl : Int32} {hp : Nat → Int32} {H : Heap} {locs : List Loc} {ls : Array Slot}, GX (XS ta adK adV) D (tyC cI cB cG cS) A s (wT cI cB cG at_ ad tb tl rtok rbg ren rvl hp st tr sp vis day z) H locs → lv_has ls 3 [(0, .ref (at_ 0)), (1, .ref (ad 0))] → f3_readSand tb tl rtok rbg ren rvl hp = some (r0, o_rtok, o_rbg, o_ren, o_rvl, o_hp) → W p l e ({ frames := 3, cells := 0, slots := 0, locals := 55 }) s m args below meth c H locs 0 0 (MQ below (QcI D (tyC cI cB cG cS) (wT cI cB cG at_ ad tb tl o_rtok o_rbg o_ren o_rvl o_hp st tr sp vis day z) A r0) args s 0 0 A) (F0 m 0 ls []) := by
  have hx := C0.1
  have hb := C0.2.1
  have hown := C0.2.2.2.2.1
  have hts := C0.2.2.2.2.2.1
  have hX := C0.2.2.2.2.2.2.2.2
  intro rtok rbg ren rvl hp H locs ls G hl hf
  unfold f3_readSand at hf
  refine lv_aload_n hx hb dX3_readSand_0 rfl (lv_at hl 0 rfl) ?_
  obtain ⟨rtok_1, rbg_2, ren_3, rvl_4, hc5, hf⟩ := ob4_s hf
  refine go_v C0 G (runV_of (n := 0) (q0 := 0) (As := []) (rest := []) C0 G (c3_readToken hX hc5) q521 q51 q518 q519 q520 o3_readToken ⟨rfl, rfl⟩ ⟨Nat.le_of_ble_eq_true rfl, Nat.le_of_ble_eq_true rfl⟩ rfl rfl rfl hl.1 rfl (Nat.le_of_ble_eq_true rfl) dX3_readSand_1) (fun H locs G => ?_)
  refine lv_aload_n hx hb dX3_readSand_4 rfl (lv_at hl 0 rfl) ?_
  refine lv_iconst (v := (0 : Int32)) hx hb dX3_readSand_5 (by decide) ?_
  refine lv_bipush (v := (15 : Int32)) hx hb dX3_readSand_6 (by decide) ?_
  refine go_i C0 G (runV_of (n := 2) (q0 := 0) (As := [.int (0 : Int32), .int (15 : Int32)]) (rest := []) C0 G (c3_isNumber hX rfl) q614 q51 q611 q612 q613 o3_isNumber ⟨rfl, rfl⟩ ⟨Nat.le_of_ble_eq_true rfl, Nat.le_of_ble_eq_true rfl⟩ rfl rfl rfl hl.1 rfl (Nat.le_of_ble_eq_true rfl) dX3_readSand_8) (fun H locs G => ?_)
  refine lv_if_ne (tgt := 16) hx hb dX3_readSand_11 (by decide) (fun hc6 => ?_) (fun hc6 => ?_)
  · have hf := itn hc6 hf
    refine lv_aload_n hx hb dX3_readSand_16 rfl (lv_at hl 0 rfl) ?_
    refine s_get (C := RX3) (T := TX3) C0 G i_X3 0 4 rfl rfl (by decide) q141 rfl dX3_readSand_17 ?_
    refine lv_istore_n (lv' := [(2, .int rvl_4), (0, .ref (at_ 0)), (1, .ref (ad 0))]) hx hb dX3_readSand_20 rfl hl (by decide) rfl (fun ls hl => ?_)
    refine lv_aload_n hx hb dX3_readSand_21 rfl (lv_at hl 1 rfl) ?_
    obtain ⟨rtok_7, rbg_8, ren_9, rvl_10, hc11, hf⟩ := ob4_s hf
    refine go_v C0 G (runV_of (n := 0) (q0 := 0) (As := []) (rest := []) C0 G (c3_readToken hX hc11) q521 q51 q518 q519 q520 o3_readToken ⟨rfl, rfl⟩ ⟨Nat.le_of_ble_eq_true rfl, Nat.le_of_ble_eq_true rfl⟩ rfl rfl rfl hl.1 rfl (Nat.le_of_ble_eq_true rfl) dX3_readSand_22) (fun H locs G => ?_)
    refine lv_aload_n hx hb dX3_readSand_25 rfl (lv_at hl 1 rfl) ?_
    refine lv_iconst (v := (0 : Int32)) hx hb dX3_readSand_26 (by decide) ?_
    refine lv_bipush (v := (30 : Int32)) hx hb dX3_readSand_27 (by decide) ?_
    refine go_i C0 G (runV_of (n := 2) (q0 := 0) (As := [.int (0 : Int32), .int (30 : Int32)]) (rest := []) C0 G (c3_isNumber hX rfl) q614 q51 q611 q612 q613 o3_isNumber ⟨rfl, rfl⟩ ⟨Nat.le_of_ble_eq_true rfl, Nat.le_of_ble_eq_true rfl⟩ rfl rfl rfl hl.1 rfl (Nat.le_of_ble_eq_true rfl) dX3_readSand_29) (fun H locs G => ?_)
    refine lv_if_ne (tgt := 37) hx hb dX3_readSand_32 (by decide) (fun hc12 => ?_) (fun hc12 => ?_)
    · have hf := itn hc12 hf
      refine lv_aload_n hx hb dX3_readSand_37 rfl (lv_at hl 2 rfl) ?_
      refine s_get (C := RX0) (T := TX0) C0 G i_X0 3 0 rfl rfl (by decide) q82 rfl dX3_readSand_38 ?_
      refine lv_iload_n hx hb dX3_readSand_41 rfl (lv_at hl 0 rfl) ?_
      refine lv_aload_n hx hb dX3_readSand_42 rfl (lv_at hl 1 rfl) ?_
      refine s_get (C := RX3) (T := TX3) C0 G i_X3 0 4 rfl rfl (by decide) q141 rfl dX3_readSand_43 ?_
      obtain ⟨hi13, hf⟩ := gd_s hf
      refine s_iast (k := rvl_4.toNatClampNeg) (w' := (wT cI cB cG at_ ad tb tl rtok_7 rbg_8 ren_9 rvl_10 (upd hp rvl_4.toNatClampNeg rvl_10) st tr sp vis day z)) C0 G 4 0 rfl rfl (vin hi13) rfl rfl dX3_readSand_46 (fun H locs G => ?_)
      refine lv_aload_n hx hb dX3_readSand_47 rfl (lv_at hl 1 rfl) ?_
      obtain ⟨rtok_14, rbg_15, ren_16, rvl_17, hc18, hf⟩ := ob4_s hf
      refine go_v C0 G (runV_of (n := 0) (q0 := 0) (As := []) (rest := []) C0 G (c3_readToken hX hc18) q521 q51 q518 q519 q520 o3_readToken ⟨rfl, rfl⟩ ⟨Nat.le_of_ble_eq_true rfl, Nat.le_of_ble_eq_true rfl⟩ rfl rfl rfl hl.1 rfl (Nat.le_of_ble_eq_true rfl) dX3_readSand_48) (fun H locs G => ?_)
      refine lv_iconst (v := (1 : Int32)) hx hb dX3_readSand_51 (by decide) ?_
      obtain ⟨rfl, rfl, rfl, rfl, rfl, rfl⟩ := inj6 hf
      exact ret_z C0 G rfl dX3_readSand_52
    · have hf := itp hc12 hf
      refine lv_iconst (v := (0 : Int32)) hx hb dX3_readSand_35 (by decide) ?_
      obtain ⟨rfl, rfl, rfl, rfl, rfl, rfl⟩ := inj6 hf
      exact ret_z C0 G rfl dX3_readSand_36
  · have hf := itp hc6 hf
    refine lv_iconst (v := (0 : Int32)) hx hb dX3_readSand_14 (by decide) ?_
    obtain ⟨rfl, rfl, rfl, rfl, rfl, rfl⟩ := inj6 hf
    exact ret_z C0 G rfl dX3_readSand_15
theorem o3_readSand : okName yX3_readSand 1 := ⟨by decide, by decide, by decide +kernel⟩
set_option maxHeartbeats 4000000 in
set_option maxRecDepth 100000 in
theorem c3_readSand {ta adK adV : Nat → Nat} (hX : XT (XS ta adK adV)) {l : Launch} {D : va_G} {cI cB cG cS : ClassId} {at_ ad : Nat → Nat} {sz : Nat} {tb : Nat → Int32} {tl : Int32} {rtok : Int32} {rbg : Int32} {ren : Int32} {rvl : Int32} {hp : Nat → Int32} {st : Nat → Int32} {tr : Nat → Nat → Int32} {sp : Nat → Int32} {vis : Int32} {day : Int32} {z : Int32}  {r0 : Int32} {o_rtok : Int32} {o_rbg : Int32} {o_ren : Int32} {o_rvl : Int32} {o_hp : Nat → Int32} (hf : f3_readSand tb tl rtok rbg ren rvl hp = some (r0, o_rtok, o_rbg, o_ren, o_rvl, o_hp)) : Met l yX3_readSand (wU yX3_readSand cX3_readSand 3 (some .boolean)) ({ frames := 3, cells := 0, slots := 0, locals := 55 }) (va_Pc [.ref (at_ 0), .ref (ad 0)] (PreW (XS ta adK adV) D (tyC cI cB cG cS) (wT cI cB cG at_ ad tb tl rtok rbg ren rvl hp st tr sp vis day z) sz)) (QcI D (tyC cI cB cG cS) (wT cI cB cG at_ ad tb tl o_rtok o_rbg o_ren o_rvl o_hp st tr sp vis day z) (va_A (wT cI cB cG at_ ad tb tl rtok rbg ren rvl hp st tr sp vis day z) sz) r0) 0 0 (va_A (wT cI cB cG at_ ad tb tl rtok rbg ren rvl hp st tr sp vis day z) sz) := by
  refine startW hX (own := RX3) (by decide) rfl (Nat.le_of_ble_eq_true rfl) (fun p e s m args below meth c ls C0 G hl => ?_)
  exact b3_readSand_0 C0 G hl hf
/-! 3_wordOf -/
theorem dX3_wordOf_0 : decode cX3_wordOf 0 = .ok (.iload_n 0, 1) := by decide +kernel
theorem dX3_wordOf_1 : decode cX3_wordOf 1 = .ok (.tableswitch 57 1 6 #[39, 42, 45, 48, 51, 54], 39) := by decide +kernel
theorem dX3_wordOf_40 : decode cX3_wordOf 40 = .ok (.ldc 61, 2) := by decide +kernel
theorem dX3_wordOf_42 : decode cX3_wordOf 42 = .ok (.areturn, 1) := by decide +kernel
theorem dX3_wordOf_43 : decode cX3_wordOf 43 = .ok (.ldc 63, 2) := by decide +kernel
theorem dX3_wordOf_45 : decode cX3_wordOf 45 = .ok (.areturn, 1) := by decide +kernel
theorem dX3_wordOf_46 : decode cX3_wordOf 46 = .ok (.ldc 65, 2) := by decide +kernel
theorem dX3_wordOf_48 : decode cX3_wordOf 48 = .ok (.areturn, 1) := by decide +kernel
theorem dX3_wordOf_49 : decode cX3_wordOf 49 = .ok (.ldc 67, 2) := by decide +kernel
theorem dX3_wordOf_51 : decode cX3_wordOf 51 = .ok (.areturn, 1) := by decide +kernel
theorem dX3_wordOf_52 : decode cX3_wordOf 52 = .ok (.ldc 69, 2) := by decide +kernel
theorem dX3_wordOf_54 : decode cX3_wordOf 54 = .ok (.areturn, 1) := by decide +kernel
theorem dX3_wordOf_55 : decode cX3_wordOf 55 = .ok (.ldc 71, 2) := by decide +kernel
theorem dX3_wordOf_57 : decode cX3_wordOf 57 = .ok (.areturn, 1) := by decide +kernel
theorem dX3_wordOf_58 : decode cX3_wordOf 58 = .ok (.ldc 73, 2) := by decide +kernel
theorem dX3_wordOf_60 : decode cX3_wordOf 60 = .ok (.areturn, 1) := by decide +kernel
def f3_wordOf  (v0 : Int32) : Nat :=
  if v0 = (1 : Int32) then (
    0)
  else
  if v0 = (2 : Int32) then (
    1)
  else
  if v0 = (3 : Int32) then (
    2)
  else
  if v0 = (4 : Int32) then (
    3)
  else
  if v0 = (5 : Int32) then (
    4)
  else
  if v0 = (6 : Int32) then (
    5)
  else
  6
set_option maxHeartbeats 4000000 in
set_option maxRecDepth 100000 in
theorem b3_wordOf_0 {ta adK adV : Nat → Nat} {p : Program} {l : Launch} {e : Env} {s : State} {m : MethodId} {args : Array Value} {below : List Frame} {meth : Method} {c : Code} {D : va_G} {tys : List (ClassId × FieldType)} {w0 : va_W} {A : Nat → Prop}  {r0 : Nat} (C0 : CX (XS ta adK adV) p s m args meth c cX3_wordOf 1 (some (.object "java/lang/String")) RX3 A) : ∀ {v0 : Int32} {H : Heap} {locs : List Loc} {ls : Array Slot}, GX (XS ta adK adV) D tys A s w0 H locs → lv_has ls 1 [(0, .int v0)] → f3_wordOf v0 = r0 → W p l e ({ frames := 0, cells := 0, slots := 0, locals := 0 }) s m args below meth c H locs 0 0 (MQ below (QcR D tys w0 A (adK r0)) args s 0 0 A) (F0 m 0 ls []) := by
  have hx := C0.1
  have hb := C0.2.1
  have hown := C0.2.2.2.2.1
  have hts := C0.2.2.2.2.2.1
  have hX := C0.2.2.2.2.2.2.2.2
  intro v0 H locs ls G hl hf
  unfold f3_wordOf at hf
  refine lv_iload_n hx hb dX3_wordOf_0 rfl (lv_at hl 0 rfl) ?_
  by_cases hs1 : v0 = (1 : Int32)
  · have hf := itp hs1 hf
    refine lv_tableIn (tgt := 40) hx hb dX3_wordOf_1 (by rw [hs1]; decide) (by rw [hs1]; decide) (by rw [hs1]; rfl) (by decide) ?_
    refine va_ldcS hx hb hown (xr_0 G.2.2.2.2.2.2.1) dX3_wordOf_40 ?_
    obtain rfl := tnj1 hf
    exact ret_r C0 G dX3_wordOf_42
  have hf := itn hs1 hf
  by_cases hs2 : v0 = (2 : Int32)
  · have hf := itp hs2 hf
    refine lv_tableIn (tgt := 43) hx hb dX3_wordOf_1 (by rw [hs2]; decide) (by rw [hs2]; decide) (by rw [hs2]; rfl) (by decide) ?_
    refine va_ldcS hx hb hown (xr_1 G.2.2.2.2.2.2.1) dX3_wordOf_43 ?_
    obtain rfl := tnj1 hf
    exact ret_r C0 G dX3_wordOf_45
  have hf := itn hs2 hf
  by_cases hs3 : v0 = (3 : Int32)
  · have hf := itp hs3 hf
    refine lv_tableIn (tgt := 46) hx hb dX3_wordOf_1 (by rw [hs3]; decide) (by rw [hs3]; decide) (by rw [hs3]; rfl) (by decide) ?_
    refine va_ldcS hx hb hown (xr_2 G.2.2.2.2.2.2.1) dX3_wordOf_46 ?_
    obtain rfl := tnj1 hf
    exact ret_r C0 G dX3_wordOf_48
  have hf := itn hs3 hf
  by_cases hs4 : v0 = (4 : Int32)
  · have hf := itp hs4 hf
    refine lv_tableIn (tgt := 49) hx hb dX3_wordOf_1 (by rw [hs4]; decide) (by rw [hs4]; decide) (by rw [hs4]; rfl) (by decide) ?_
    refine va_ldcS hx hb hown (xr_3 G.2.2.2.2.2.2.1) dX3_wordOf_49 ?_
    obtain rfl := tnj1 hf
    exact ret_r C0 G dX3_wordOf_51
  have hf := itn hs4 hf
  by_cases hs5 : v0 = (5 : Int32)
  · have hf := itp hs5 hf
    refine lv_tableIn (tgt := 52) hx hb dX3_wordOf_1 (by rw [hs5]; decide) (by rw [hs5]; decide) (by rw [hs5]; rfl) (by decide) ?_
    refine va_ldcS hx hb hown (xr_4 G.2.2.2.2.2.2.1) dX3_wordOf_52 ?_
    obtain rfl := tnj1 hf
    exact ret_r C0 G dX3_wordOf_54
  have hf := itn hs5 hf
  by_cases hs6 : v0 = (6 : Int32)
  · have hf := itp hs6 hf
    refine lv_tableIn (tgt := 55) hx hb dX3_wordOf_1 (by rw [hs6]; decide) (by rw [hs6]; decide) (by rw [hs6]; rfl) (by decide) ?_
    refine va_ldcS hx hb hown (xr_5 G.2.2.2.2.2.2.1) dX3_wordOf_55 ?_
    obtain rfl := tnj1 hf
    exact ret_r C0 G dX3_wordOf_57
  have hf := itn hs6 hf
  refine lv_tableOut (tgt := 58) hx hb dX3_wordOf_1 (by have := lv_neT (a := 1) hs1 (by decide); have := lv_neT (a := 2) hs2 (by decide); have := lv_neT (a := 3) hs3 (by decide); have := lv_neT (a := 4) hs4 (by decide); have := lv_neT (a := 5) hs5 (by decide); have := lv_neT (a := 6) hs6 (by decide); omega) (by decide) ?_
  refine va_ldcS hx hb hown (xr_6 G.2.2.2.2.2.2.1) dX3_wordOf_58 ?_
  obtain rfl := tnj1 hf
  exact ret_r C0 G dX3_wordOf_60
theorem lt3_wordOf (v0 : Int32) : f3_wordOf v0 < 15 := by
  unfold f3_wordOf
  (repeat' split) <;> decide
theorem o3_wordOf : okName yX3_wordOf 1 := ⟨by decide, by decide, by decide +kernel⟩
set_option maxHeartbeats 4000000 in
set_option maxRecDepth 100000 in
theorem c3_wordOf {ta adK adV : Nat → Nat} (hX : XT (XS ta adK adV)) {l : Launch} {D : va_G} {tys : List (ClassId × FieldType)} {w0 : va_W} {sz : Nat}  {v0 : Int32} {r0 : Nat} (hf : f3_wordOf v0 = r0) : Met l yX3_wordOf (wU yX3_wordOf cX3_wordOf 1 (some (.object "java/lang/String"))) ({ frames := 0, cells := 0, slots := 0, locals := 0 }) (va_Pc [.int v0] (PreW (XS ta adK adV) D tys w0 sz)) (QcR D tys w0 (va_A w0 sz) (adK r0)) 0 0 (va_A w0 sz) := by
  refine startW hX (own := RX3) (by decide) rfl (Nat.le_of_ble_eq_true rfl) (fun p e s m args below meth c ls C0 G hl => ?_)
  exact b3_wordOf_0 C0 G hl hf
/-! 3_readTrait -/
theorem dX3_readTrait_0 : decode cX3_readTrait 0 = .ok (.aload_n 0, 1) := by decide +kernel
theorem dX3_readTrait_1 : decode cX3_readTrait 1 = .ok (.aload_n 3, 1) := by decide +kernel
theorem dX3_readTrait_2 : decode cX3_readTrait 2 = .ok (.invokevirtual 39, 3) := by decide +kernel
theorem dX3_readTrait_5 : decode cX3_readTrait 5 = .ok (.ifCond .ne 5, 3) := by decide +kernel
theorem dX3_readTrait_8 : decode cX3_readTrait 8 = .ok (.iconst 1, 1) := by decide +kernel
theorem dX3_readTrait_9 : decode cX3_readTrait 9 = .ok (.ireturn, 1) := by decide +kernel
theorem dX3_readTrait_10 : decode cX3_readTrait 10 = .ok (.aload_n 0, 1) := by decide +kernel
theorem dX3_readTrait_11 : decode cX3_readTrait 11 = .ok (.invokevirtual 22, 3) := by decide +kernel
theorem dX3_readTrait_14 : decode cX3_readTrait 14 = .ok (.aload_n 0, 1) := by decide +kernel
theorem dX3_readTrait_15 : decode cX3_readTrait 15 = .ok (.getstatic 101, 3) := by decide +kernel
theorem dX3_readTrait_18 : decode cX3_readTrait 18 = .ok (.iload 4, 2) := by decide +kernel
theorem dX3_readTrait_20 : decode cX3_readTrait 20 = .ok (.iaload, 1) := by decide +kernel
theorem dX3_readTrait_21 : decode cX3_readTrait 21 = .ok (.getstatic 104, 3) := by decide +kernel
theorem dX3_readTrait_24 : decode cX3_readTrait 24 = .ok (.iload 4, 2) := by decide +kernel
theorem dX3_readTrait_26 : decode cX3_readTrait 26 = .ok (.iaload, 1) := by decide +kernel
theorem dX3_readTrait_27 : decode cX3_readTrait 27 = .ok (.invokevirtual 107, 3) := by decide +kernel
theorem dX3_readTrait_30 : decode cX3_readTrait 30 = .ok (.ifCond .ne 5, 3) := by decide +kernel
theorem dX3_readTrait_33 : decode cX3_readTrait 33 = .ok (.iconst 0, 1) := by decide +kernel
theorem dX3_readTrait_34 : decode cX3_readTrait 34 = .ok (.ireturn, 1) := by decide +kernel
theorem dX3_readTrait_35 : decode cX3_readTrait 35 = .ok (.aload_n 1, 1) := by decide +kernel
theorem dX3_readTrait_36 : decode cX3_readTrait 36 = .ok (.getfield 111, 3) := by decide +kernel
theorem dX3_readTrait_39 : decode cX3_readTrait 39 = .ok (.iload 4, 2) := by decide +kernel
theorem dX3_readTrait_41 : decode cX3_readTrait 41 = .ok (.aaload, 1) := by decide +kernel
theorem dX3_readTrait_42 : decode cX3_readTrait 42 = .ok (.iload_n 2, 1) := by decide +kernel
theorem dX3_readTrait_43 : decode cX3_readTrait 43 = .ok (.aload_n 0, 1) := by decide +kernel
theorem dX3_readTrait_44 : decode cX3_readTrait 44 = .ok (.getfield 115, 3) := by decide +kernel
theorem dX3_readTrait_47 : decode cX3_readTrait 47 = .ok (.iastore, 1) := by decide +kernel
theorem dX3_readTrait_48 : decode cX3_readTrait 48 = .ok (.aload_n 0, 1) := by decide +kernel
theorem dX3_readTrait_49 : decode cX3_readTrait 49 = .ok (.invokevirtual 22, 3) := by decide +kernel
theorem dX3_readTrait_52 : decode cX3_readTrait 52 = .ok (.iconst 1, 1) := by decide +kernel
theorem dX3_readTrait_53 : decode cX3_readTrait 53 = .ok (.ireturn, 1) := by decide +kernel
def f3_readTrait (i : Nat) (tb : Nat → Int32) (tl : Int32) (rtok : Int32) (rbg : Int32) (ren : Int32) (rvl : Int32) (tr : Nat → Nat → Int32) (v2 : Int32) (v4 : Int32) : Option (Int32 × Int32 × Int32 × Int32 × Int32 × (Nat → Nat → Int32)) :=
  ob1 (f3_isWord i tb rtok rbg ren) (fun r1 =>
  if r1 = (0 : Int32) then (
    some ((1 : Int32), rtok, rbg, ren, rvl, tr))
  else (
    ob4 (f3_readToken tb tl rtok rbg ren rvl) (fun rtok_4 rbg_5 ren_6 rvl_7 =>
    gd (inb v4 7) (
    gd (inb v4 7) (
    if (f3_isNumber rtok_4 rvl_7 (kTL v4.toNatClampNeg) (kTM v4.toNatClampNeg)) = (0 : Int32) then (
      some ((0 : Int32), rtok_4, rbg_5, ren_6, rvl_7, tr))
    else (
      gd (inb v4 7) (
      gd (inb v2 8) (
      ob4 (f3_readToken tb tl rtok_4 rbg_5 ren_6 rvl_7) (fun rtok_14 rbg_15 ren_16 rvl_17 =>
      some ((1 : Int32), rtok_14, rbg_15, ren_16, rvl_17, (upd2 tr v4.toNatClampNeg v2.toNatClampNeg rvl_7)))))))))))
set_option maxHeartbeats 4000000 in
set_option maxRecDepth 100000 in
theorem b3_readTrait_0 {ta adK adV : Nat → Nat} {p : Program} {l : Launch} {e : Env} {s : State} {m : MethodId} {args : Array Value} {below : List Frame} {meth : Method} {c : Code} {D : va_G} {cI cB cG cS : ClassId} {at_ ad : Nat → Nat} {A : Nat → Prop} {i : Nat} {tb : Nat → Int32} {tl : Int32} {hp : Nat → Int32} {st : Nat → Int32} {sp : Nat → Int32} {vis : Int32} {day : Int32} {z : Int32} {r0 : Int32} {o_rtok : Int32} {o_rbg : Int32} {o_ren : Int32} {o_rvl : Int32} {o_tr : Nat → Nat → Int32} (C0 : CX (XS ta adK adV) p s m args meth c cX3_readTrait 5 (some .boolean) RX3 A) (hi : i < 15) : ∀ {rtok : Int32} {rbg : Int32} {ren : Int32} {rvl : Int32} {tr : Nat → Nat → Int32} {v2 : Int32} {v4 : Int32} {H : Heap} {locs : List Loc} {ls : Array Slot}, GX (XS ta adK adV) D (tyC cI cB cG cS) A s (wT cI cB cG at_ ad tb tl rtok rbg ren rvl hp st tr sp vis day z) H locs → lv_has ls 5 [(0, .ref (at_ 0)), (1, .ref (ad 0)), (2, .int v2), (3, .ref (adK i)), (4, .int v4)] → f3_readTrait i tb tl rtok rbg ren rvl tr v2 v4 = some (r0, o_rtok, o_rbg, o_ren, o_rvl, o_tr) → W p l e ({ frames := 5, cells := 0, slots := 0, locals := 107 }) s m args below meth c H locs 0 0 (MQ below (QcI D (tyC cI cB cG cS) (wT cI cB cG at_ ad tb tl o_rtok o_rbg o_ren o_rvl hp st o_tr sp vis day z) A r0) args s 0 0 A) (F0 m 0 ls []) := by
  have hx := C0.1
  have hb := C0.2.1
  have hown := C0.2.2.2.2.1
  have hts := C0.2.2.2.2.2.1
  have hX := C0.2.2.2.2.2.2.2.2
  intro rtok rbg ren rvl tr v2 v4 H locs ls G hl hf
  unfold f3_readTrait at hf
  refine lv_aload_n hx hb dX3_readTrait_0 rfl (lv_at hl 0 rfl) ?_
  refine lv_aload_n hx hb dX3_readTrait_1 rfl (lv_at hl 3 rfl) ?_
  obtain ⟨r1, hc2, hf⟩ := ob1_s hf
  refine go_i C0 G (runV_of (n := 1) (q0 := 0) (As := [.ref (adK i)]) (rest := []) C0 G (c3_isWord hX hi hc2) q548 q51 q545 q546 q547 o3_isWord ⟨rfl, rfl⟩ ⟨Nat.le_of_ble_eq_true rfl, Nat.le_of_ble_eq_true rfl⟩ rfl rfl rfl hl.1 rfl (Nat.le_of_ble_eq_true rfl) dX3_readTrait_2) (fun H locs G => ?_)
  refine lv_if_ne (tgt := 10) hx hb dX3_readTrait_5 (by decide) (fun hc3 => ?_) (fun hc3 => ?_)
  · have hf := itn hc3 hf
    refine lv_aload_n hx hb dX3_readTrait_10 rfl (lv_at hl 0 rfl) ?_
    obtain ⟨rtok_4, rbg_5, ren_6, rvl_7, hc8, hf⟩ := ob4_s hf
    refine go_v C0 G (runV_of (n := 0) (q0 := 0) (As := []) (rest := []) C0 G (c3_readToken hX hc8) q521 q51 q518 q519 q520 o3_readToken ⟨rfl, rfl⟩ ⟨Nat.le_of_ble_eq_true rfl, Nat.le_of_ble_eq_true rfl⟩ rfl rfl rfl hl.1 rfl (Nat.le_of_ble_eq_true rfl) dX3_readTrait_11) (fun H locs G => ?_)
    refine lv_aload_n hx hb dX3_readTrait_14 rfl (lv_at hl 0 rfl) ?_
    refine s_getsN C0 G (xa_4 G.2.2.2.2) (xn_609 G.2.2.2.2.2.1) dX3_readTrait_15 ?_
    refine lv_iload hx hb dX3_readTrait_18 (lv_at hl 4 rfl) ?_
    obtain ⟨hi9, hf⟩ := gd_s hf
    refine s_ti (k := v4.toNatClampNeg) C0 G (xa_4 G.2.2.2.2) (vin hi9) rfl dX3_readTrait_20 ?_
    refine s_getsN C0 G (xa_5 G.2.2.2.2) (xn_610 G.2.2.2.2.2.1) dX3_readTrait_21 ?_
    refine lv_iload hx hb dX3_readTrait_24 (lv_at hl 4 rfl) ?_
    obtain ⟨hi10, hf⟩ := gd_s hf
    refine s_ti (k := v4.toNatClampNeg) C0 G (xa_5 G.2.2.2.2) (vin hi10) rfl dX3_readTrait_26 ?_
    refine go_i C0 G (runV_of (n := 2) (q0 := 0) (As := [.int (kTL v4.toNatClampNeg), .int (kTM v4.toNatClampNeg)]) (rest := []) C0 G (c3_isNumber hX rfl) q614 q51 q611 q612 q613 o3_isNumber ⟨rfl, rfl⟩ ⟨Nat.le_of_ble_eq_true rfl, Nat.le_of_ble_eq_true rfl⟩ rfl rfl rfl hl.1 rfl (Nat.le_of_ble_eq_true rfl) dX3_readTrait_27) (fun H locs G => ?_)
    refine lv_if_ne (tgt := 35) hx hb dX3_readTrait_30 (by decide) (fun hc11 => ?_) (fun hc11 => ?_)
    · have hf := itn hc11 hf
      refine lv_aload_n hx hb dX3_readTrait_35 rfl (lv_at hl 1 rfl) ?_
      refine s_get (C := RX0) (T := TX0) C0 G i_X0 3 2 rfl rfl (by decide) q87 rfl dX3_readTrait_36 ?_
      refine lv_iload hx hb dX3_readTrait_39 (lv_at hl 4 rfl) ?_
      obtain ⟨hi12, hf⟩ := gd_s hf
      refine s_aldg (k := v4.toNatClampNeg) (b := ad (4 + v4.toNatClampNeg)) C0 G 6 2 rfl rfl (vin hi12) rfl rfl dX3_readTrait_41 ?_
      refine lv_iload_n hx hb dX3_readTrait_42 rfl (lv_at hl 2 rfl) ?_
      refine lv_aload_n hx hb dX3_readTrait_43 rfl (lv_at hl 0 rfl) ?_
      refine s_get (C := RX3) (T := TX3) C0 G i_X3 0 4 rfl rfl (by decide) q141 rfl dX3_readTrait_44 ?_
      obtain ⟨hi13, hf⟩ := gd_s hf
      refine s_iast (k := v2.toNatClampNeg) (w' := (wT cI cB cG at_ ad tb tl rtok_4 rbg_5 ren_6 rvl_7 hp st (upd2 tr v4.toNatClampNeg v2.toNatClampNeg rvl_7) sp vis day z)) C0 G (7 + v4.toNatClampNeg) 0 (wT_row (inb_lt hi12)) rfl (vin hi13) rfl (wT_set (inb_lt hi12)) dX3_readTrait_47 (fun H locs G => ?_)
      refine lv_aload_n hx hb dX3_readTrait_48 rfl (lv_at hl 0 rfl) ?_
      obtain ⟨rtok_14, rbg_15, ren_16, rvl_17, hc18, hf⟩ := ob4_s hf
      refine go_v C0 G (runV_of (n := 0) (q0 := 0) (As := []) (rest := []) C0 G (c3_readToken hX hc18) q521 q51 q518 q519 q520 o3_readToken ⟨rfl, rfl⟩ ⟨Nat.le_of_ble_eq_true rfl, Nat.le_of_ble_eq_true rfl⟩ rfl rfl rfl hl.1 rfl (Nat.le_of_ble_eq_true rfl) dX3_readTrait_49) (fun H locs G => ?_)
      refine lv_iconst (v := (1 : Int32)) hx hb dX3_readTrait_52 (by decide) ?_
      obtain ⟨rfl, rfl, rfl, rfl, rfl, rfl⟩ := inj6 hf
      exact ret_z C0 G rfl dX3_readTrait_53
    · have hf := itp hc11 hf
      refine lv_iconst (v := (0 : Int32)) hx hb dX3_readTrait_33 (by decide) ?_
      obtain ⟨rfl, rfl, rfl, rfl, rfl, rfl⟩ := inj6 hf
      exact ret_z C0 G rfl dX3_readTrait_34
  · have hf := itp hc3 hf
    refine lv_iconst (v := (1 : Int32)) hx hb dX3_readTrait_8 (by decide) ?_
    obtain ⟨rfl, rfl, rfl, rfl, rfl, rfl⟩ := inj6 hf
    exact ret_z C0 G rfl dX3_readTrait_9
theorem o3_readTrait : okName yX3_readTrait 4 := ⟨by decide, by decide, by decide +kernel⟩
set_option maxHeartbeats 4000000 in
set_option maxRecDepth 100000 in
theorem c3_readTrait {ta adK adV : Nat → Nat} (hX : XT (XS ta adK adV)) {l : Launch} {D : va_G} {cI cB cG cS : ClassId} {at_ ad : Nat → Nat} {sz : Nat} {i : Nat} {tb : Nat → Int32} {tl : Int32} {rtok : Int32} {rbg : Int32} {ren : Int32} {rvl : Int32} {hp : Nat → Int32} {st : Nat → Int32} {tr : Nat → Nat → Int32} {sp : Nat → Int32} {vis : Int32} {day : Int32} {z : Int32} {v2 : Int32} {v4 : Int32} {r0 : Int32} {o_rtok : Int32} {o_rbg : Int32} {o_ren : Int32} {o_rvl : Int32} {o_tr : Nat → Nat → Int32} (hi : i < 15) (hf : f3_readTrait i tb tl rtok rbg ren rvl tr v2 v4 = some (r0, o_rtok, o_rbg, o_ren, o_rvl, o_tr)) : Met l yX3_readTrait (wU yX3_readTrait cX3_readTrait 5 (some .boolean)) ({ frames := 5, cells := 0, slots := 0, locals := 107 }) (va_Pc [.ref (at_ 0), .ref (ad 0), .int v2, .ref (adK i), .int v4] (PreW (XS ta adK adV) D (tyC cI cB cG cS) (wT cI cB cG at_ ad tb tl rtok rbg ren rvl hp st tr sp vis day z) sz)) (QcI D (tyC cI cB cG cS) (wT cI cB cG at_ ad tb tl o_rtok o_rbg o_ren o_rvl hp st o_tr sp vis day z) (va_A (wT cI cB cG at_ ad tb tl rtok rbg ren rvl hp st tr sp vis day z) sz) r0) 0 0 (va_A (wT cI cB cG at_ ad tb tl rtok rbg ren rvl hp st tr sp vis day z) sz) := by
  refine startW hX (own := RX3) (by decide) rfl (Nat.le_of_ble_eq_true rfl) (fun p e s m args below meth c ls C0 G hl => ?_)
  exact b3_readTrait_0 C0 hi G hl hf
/-! 3_readVisitor -/
theorem dX3_readVisitor_0 : decode cX3_readVisitor 0 = .ok (.aload_n 1, 1) := by decide +kernel
theorem dX3_readVisitor_1 : decode cX3_readVisitor 1 = .ok (.invokevirtual 75, 3) := by decide +kernel
theorem dX3_readVisitor_4 : decode cX3_readVisitor 4 = .ok (.ifCond .eq 5, 3) := by decide +kernel
theorem dX3_readVisitor_7 : decode cX3_readVisitor 7 = .ok (.iconst 0, 1) := by decide +kernel
theorem dX3_readVisitor_8 : decode cX3_readVisitor 8 = .ok (.ireturn, 1) := by decide +kernel
theorem dX3_readVisitor_9 : decode cX3_readVisitor 9 = .ok (.aload_n 1, 1) := by decide +kernel
theorem dX3_readVisitor_10 : decode cX3_readVisitor 10 = .ok (.iload_n 2, 1) := by decide +kernel
theorem dX3_readVisitor_11 : decode cX3_readVisitor 11 = .ok (.getstatic 81, 3) := by decide +kernel
theorem dX3_readVisitor_14 : decode cX3_readVisitor 14 = .ok (.iconst 1, 1) := by decide +kernel
theorem dX3_readVisitor_15 : decode cX3_readVisitor 15 = .ok (.iaload, 1) := by decide +kernel
theorem dX3_readVisitor_16 : decode cX3_readVisitor 16 = .ok (.invokevirtual 85, 3) := by decide +kernel
theorem dX3_readVisitor_19 : decode cX3_readVisitor 19 = .ok (.istore_n 3, 1) := by decide +kernel
theorem dX3_readVisitor_20 : decode cX3_readVisitor 20 = .ok (.aload_n 0, 1) := by decide +kernel
theorem dX3_readVisitor_21 : decode cX3_readVisitor 21 = .ok (.invokevirtual 22, 3) := by decide +kernel
theorem dX3_readVisitor_24 : decode cX3_readVisitor 24 = .ok (.aload_n 0, 1) := by decide +kernel
theorem dX3_readVisitor_25 : decode cX3_readVisitor 25 = .ok (.aload_n 1, 1) := by decide +kernel
theorem dX3_readVisitor_26 : decode cX3_readVisitor 26 = .ok (.iload_n 3, 1) := by decide +kernel
theorem dX3_readVisitor_27 : decode cX3_readVisitor 27 = .ok (.ldc 89, 2) := by decide +kernel
theorem dX3_readVisitor_29 : decode cX3_readVisitor 29 = .ok (.iconst 1, 1) := by decide +kernel
theorem dX3_readVisitor_30 : decode cX3_readVisitor 30 = .ok (.invokevirtual 91, 3) := by decide +kernel
theorem dX3_readVisitor_33 : decode cX3_readVisitor 33 = .ok (.ifCond .eq 43, 3) := by decide +kernel
theorem dX3_readVisitor_36 : decode cX3_readVisitor 36 = .ok (.aload_n 0, 1) := by decide +kernel
theorem dX3_readVisitor_37 : decode cX3_readVisitor 37 = .ok (.aload_n 1, 1) := by decide +kernel
theorem dX3_readVisitor_38 : decode cX3_readVisitor 38 = .ok (.iload_n 3, 1) := by decide +kernel
theorem dX3_readVisitor_39 : decode cX3_readVisitor 39 = .ok (.ldc 95, 2) := by decide +kernel
theorem dX3_readVisitor_41 : decode cX3_readVisitor 41 = .ok (.iconst 2, 1) := by decide +kernel
theorem dX3_readVisitor_42 : decode cX3_readVisitor 42 = .ok (.invokevirtual 91, 3) := by decide +kernel
theorem dX3_readVisitor_45 : decode cX3_readVisitor 45 = .ok (.ifCond .eq 31, 3) := by decide +kernel
theorem dX3_readVisitor_48 : decode cX3_readVisitor 48 = .ok (.aload_n 0, 1) := by decide +kernel
theorem dX3_readVisitor_49 : decode cX3_readVisitor 49 = .ok (.aload_n 1, 1) := by decide +kernel
theorem dX3_readVisitor_50 : decode cX3_readVisitor 50 = .ok (.iload_n 3, 1) := by decide +kernel
theorem dX3_readVisitor_51 : decode cX3_readVisitor 51 = .ok (.ldc 97, 2) := by decide +kernel
theorem dX3_readVisitor_53 : decode cX3_readVisitor 53 = .ok (.iconst 3, 1) := by decide +kernel
theorem dX3_readVisitor_54 : decode cX3_readVisitor 54 = .ok (.invokevirtual 91, 3) := by decide +kernel
theorem dX3_readVisitor_57 : decode cX3_readVisitor 57 = .ok (.ifCond .eq 19, 3) := by decide +kernel
theorem dX3_readVisitor_60 : decode cX3_readVisitor 60 = .ok (.aload_n 0, 1) := by decide +kernel
theorem dX3_readVisitor_61 : decode cX3_readVisitor 61 = .ok (.aload_n 1, 1) := by decide +kernel
theorem dX3_readVisitor_62 : decode cX3_readVisitor 62 = .ok (.iload_n 3, 1) := by decide +kernel
theorem dX3_readVisitor_63 : decode cX3_readVisitor 63 = .ok (.ldc 99, 2) := by decide +kernel
theorem dX3_readVisitor_65 : decode cX3_readVisitor 65 = .ok (.iconst 4, 1) := by decide +kernel
theorem dX3_readVisitor_66 : decode cX3_readVisitor 66 = .ok (.invokevirtual 91, 3) := by decide +kernel
theorem dX3_readVisitor_69 : decode cX3_readVisitor 69 = .ok (.ifCond .eq 7, 3) := by decide +kernel
theorem dX3_readVisitor_72 : decode cX3_readVisitor 72 = .ok (.iconst 1, 1) := by decide +kernel
theorem dX3_readVisitor_73 : decode cX3_readVisitor 73 = .ok (.goto 4, 3) := by decide +kernel
theorem dX3_readVisitor_76 : decode cX3_readVisitor 76 = .ok (.iconst 0, 1) := by decide +kernel
theorem dX3_readVisitor_77 : decode cX3_readVisitor 77 = .ok (.ireturn, 1) := by decide +kernel
def f3_readVisitor (tb : Nat → Int32) (tl : Int32) (rtok : Int32) (rbg : Int32) (ren : Int32) (rvl : Int32) (tr : Nat → Nat → Int32) (vis : Int32) (v2 : Int32) : Option (Int32 × Int32 × Int32 × Int32 × Int32 × (Nat → Nat → Int32) × Int32) :=
  if (f0_isFull vis) = (0 : Int32) then (
    ob3 (f0_admit tr vis v2 (kTF 1)) (fun r2 tr_3 vis_4 =>
    ob4 (f3_readToken tb tl rtok rbg ren rvl) (fun rtok_6 rbg_7 ren_8 rvl_9 =>
    ob6 (f3_readTrait 7 tb tl rtok_6 rbg_7 ren_8 rvl_9 tr_3 r2 (1 : Int32)) (fun r11 rtok_12 rbg_13 ren_14 rvl_15 tr_16 =>
    if r11 = (0 : Int32) then (
      some ((0 : Int32), rtok_12, rbg_13, ren_14, rvl_15, tr_16, vis_4))
    else (
      ob6 (f3_readTrait 8 tb tl rtok_12 rbg_13 ren_14 rvl_15 tr_16 r2 (2 : Int32)) (fun r19 rtok_20 rbg_21 ren_22 rvl_23 tr_24 =>
      if r19 = (0 : Int32) then (
        some ((0 : Int32), rtok_20, rbg_21, ren_22, rvl_23, tr_24, vis_4))
      else (
        ob6 (f3_readTrait 9 tb tl rtok_20 rbg_21 ren_22 rvl_23 tr_24 r2 (3 : Int32)) (fun r27 rtok_28 rbg_29 ren_30 rvl_31 tr_32 =>
        if r27 = (0 : Int32) then (
          some ((0 : Int32), rtok_28, rbg_29, ren_30, rvl_31, tr_32, vis_4))
        else (
          ob6 (f3_readTrait 10 tb tl rtok_28 rbg_29 ren_30 rvl_31 tr_32 r2 (4 : Int32)) (fun r35 rtok_36 rbg_37 ren_38 rvl_39 tr_40 =>
          if r35 = (0 : Int32) then (
            some ((0 : Int32), rtok_36, rbg_37, ren_38, rvl_39, tr_40, vis_4))
          else (
            some ((1 : Int32), rtok_36, rbg_37, ren_38, rvl_39, tr_40, vis_4))))))))))))
  else (
    some ((0 : Int32), rtok, rbg, ren, rvl, tr, vis))
set_option maxHeartbeats 4000000 in
set_option maxRecDepth 100000 in
theorem b3_readVisitor_0 {ta adK adV : Nat → Nat} {p : Program} {l : Launch} {e : Env} {s : State} {m : MethodId} {args : Array Value} {below : List Frame} {meth : Method} {c : Code} {D : va_G} {cI cB cG cS : ClassId} {at_ ad : Nat → Nat} {A : Nat → Prop} {tb : Nat → Int32} {tl : Int32} {hp : Nat → Int32} {st : Nat → Int32} {sp : Nat → Int32} {day : Int32} {z : Int32} {r0 : Int32} {o_rtok : Int32} {o_rbg : Int32} {o_ren : Int32} {o_rvl : Int32} {o_tr : Nat → Nat → Int32} {o_vis : Int32} (C0 : CX (XS ta adK adV) p s m args meth c cX3_readVisitor 4 (some .boolean) RX3 A) : ∀ {rtok : Int32} {rbg : Int32} {ren : Int32} {rvl : Int32} {tr : Nat → Nat → Int32} {vis : Int32} {v2 : Int32} {H : Heap} {locs : List Loc} {ls : Array Slot}, GX (XS ta adK adV) D (tyC cI cB cG cS) A s (wT cI cB cG at_ ad tb tl rtok rbg ren rvl hp st tr sp vis day z) H locs → lv_has ls 4 [(0, .ref (at_ 0)), (1, .ref (ad 0)), (2, .int v2)] → f3_readVisitor tb tl rtok rbg ren rvl tr vis v2 = some (r0, o_rtok, o_rbg, o_ren, o_rvl, o_tr, o_vis) → W p l e ({ frames := 6, cells := 0, slots := 0, locals := 131 }) s m args below meth c H locs 0 0 (MQ below (QcI D (tyC cI cB cG cS) (wT cI cB cG at_ ad tb tl o_rtok o_rbg o_ren o_rvl hp st o_tr sp o_vis day z) A r0) args s 0 0 A) (F0 m 0 ls []) := by
  have hx := C0.1
  have hb := C0.2.1
  have hown := C0.2.2.2.2.1
  have hts := C0.2.2.2.2.2.1
  have hX := C0.2.2.2.2.2.2.2.2
  intro rtok rbg ren rvl tr vis v2 H locs ls G hl hf
  unfold f3_readVisitor at hf
  refine lv_aload_n hx hb dX3_readVisitor_0 rfl (lv_at hl 1 rfl) ?_
  refine go_i_sub C0 G s_tpit o_tpit (runV_sub (n := 0) (q0 := 3) (As := []) (rest := []) C0 G s_tpit (c0_isFull hX rfl) q246 q50 q601 q244 q245 o0_isFull ⟨rfl, rfl⟩ ⟨Nat.le_of_ble_eq_true rfl, Nat.le_of_ble_eq_true rfl⟩ rfl rfl rfl hl.1 rfl (Nat.le_of_ble_eq_true rfl) dX3_readVisitor_1) (fun H locs G => ?_)
  refine lv_if_eq (tgt := 9) hx hb dX3_readVisitor_4 (by decide) (fun hc1 => ?_) (fun hc1 => ?_)
  · have hf := itp hc1 hf
    refine lv_aload_n hx hb dX3_readVisitor_9 rfl (lv_at hl 1 rfl) ?_
    refine lv_iload_n hx hb dX3_readVisitor_10 rfl (lv_at hl 2 rfl) ?_
    refine s_getsN C0 G (xa_3 G.2.2.2.2) (xn_602 G.2.2.2.2.2.1) dX3_readVisitor_11 ?_
    refine lv_iconst (v := (1 : Int32)) hx hb dX3_readVisitor_14 (by decide) ?_
    refine s_ti (k := 1) C0 G (xa_3 G.2.2.2.2) (vin (by decide)) (by decide) dX3_readVisitor_15 ?_
    obtain ⟨r2, tr_3, vis_4, hc5, hf⟩ := ob3_s hf
    refine go_i_sub C0 G s_tpit o_tpit (runV_sub (n := 2) (q0 := 3) (As := [.int v2, .int (kTF 1)]) (rest := []) C0 G s_tpit (c0_admit hX hc5) q250 q50 q603 q248 q249 o0_admit ⟨rfl, rfl⟩ ⟨Nat.le_of_ble_eq_true rfl, Nat.le_of_ble_eq_true rfl⟩ rfl rfl rfl hl.1 rfl (Nat.le_of_ble_eq_true rfl) dX3_readVisitor_16) (fun H locs G => ?_)
    refine lv_istore_n (lv' := [(3, .int r2), (0, .ref (at_ 0)), (1, .ref (ad 0)), (2, .int v2)]) hx hb dX3_readVisitor_19 rfl hl (by decide) rfl (fun ls hl => ?_)
    refine lv_aload_n hx hb dX3_readVisitor_20 rfl (lv_at hl 1 rfl) ?_
    obtain ⟨rtok_6, rbg_7, ren_8, rvl_9, hc10, hf⟩ := ob4_s hf
    refine go_v C0 G (runV_of (n := 0) (q0 := 0) (As := []) (rest := []) C0 G (c3_readToken hX hc10) q521 q51 q518 q519 q520 o3_readToken ⟨rfl, rfl⟩ ⟨Nat.le_of_ble_eq_true rfl, Nat.le_of_ble_eq_true rfl⟩ rfl rfl rfl hl.1 rfl (Nat.le_of_ble_eq_true rfl) dX3_readVisitor_21) (fun H locs G => ?_)
    refine lv_aload_n hx hb dX3_readVisitor_24 rfl (lv_at hl 1 rfl) ?_
    refine lv_aload_n hx hb dX3_readVisitor_25 rfl (lv_at hl 2 rfl) ?_
    refine lv_iload_n hx hb dX3_readVisitor_26 rfl (lv_at hl 0 rfl) ?_
    refine va_ldcS hx hb hown (xr_7 G.2.2.2.2.2.2.1) dX3_readVisitor_27 ?_
    refine lv_iconst (v := (1 : Int32)) hx hb dX3_readVisitor_29 (by decide) ?_
    obtain ⟨r11, rtok_12, rbg_13, ren_14, rvl_15, tr_16, hc17, hf⟩ := ob6_s hf
    refine go_i C0 G (runV_of (n := 4) (q0 := 0) (As := [.ref (ad 0), .int r2, .ref (adK 7), .int (1 : Int32)]) (rest := []) C0 G (c3_readTrait hX (by decide) hc17) q608 q51 q605 q606 q607 o3_readTrait ⟨rfl, rfl⟩ ⟨Nat.le_of_ble_eq_true rfl, Nat.le_of_ble_eq_true rfl⟩ rfl rfl rfl hl.1 rfl (Nat.le_of_ble_eq_true rfl) dX3_readVisitor_30) (fun H locs G => ?_)
    refine lv_if_eq (tgt := 76) hx hb dX3_readVisitor_33 (by decide) (fun hc18 => ?_) (fun hc18 => ?_)
    · have hf := itp hc18 hf
      refine lv_iconst (v := (0 : Int32)) hx hb dX3_readVisitor_76 (by decide) ?_
      obtain ⟨rfl, rfl, rfl, rfl, rfl, rfl, rfl⟩ := inj7 hf
      exact ret_z C0 G rfl dX3_readVisitor_77
    · have hf := itn hc18 hf
      refine lv_aload_n hx hb dX3_readVisitor_36 rfl (lv_at hl 1 rfl) ?_
      refine lv_aload_n hx hb dX3_readVisitor_37 rfl (lv_at hl 2 rfl) ?_
      refine lv_iload_n hx hb dX3_readVisitor_38 rfl (lv_at hl 0 rfl) ?_
      refine va_ldcS hx hb hown (xr_8 G.2.2.2.2.2.2.1) dX3_readVisitor_39 ?_
      refine lv_iconst (v := (2 : Int32)) hx hb dX3_readVisitor_41 (by decide) ?_
      obtain ⟨r19, rtok_20, rbg_21, ren_22, rvl_23, tr_24, hc25, hf⟩ := ob6_s hf
      refine go_i C0 G (runV_of (n := 4) (q0 := 0) (As := [.ref (ad 0), .int r2, .ref (adK 8), .int (2 : Int32)]) (rest := []) C0 G (c3_readTrait hX (by decide) hc25) q608 q51 q605 q606 q607 o3_readTrait ⟨rfl, rfl⟩ ⟨Nat.le_of_ble_eq_true rfl, Nat.le_of_ble_eq_true rfl⟩ rfl rfl rfl hl.1 rfl (Nat.le_of_ble_eq_true rfl) dX3_readVisitor_42) (fun H locs G => ?_)
      refine lv_if_eq (tgt := 76) hx hb dX3_readVisitor_45 (by decide) (fun hc26 => ?_) (fun hc26 => ?_)
      · have hf := itp hc26 hf
        refine lv_iconst (v := (0 : Int32)) hx hb dX3_readVisitor_76 (by decide) ?_
        obtain ⟨rfl, rfl, rfl, rfl, rfl, rfl, rfl⟩ := inj7 hf
        exact ret_z C0 G rfl dX3_readVisitor_77
      · have hf := itn hc26 hf
        refine lv_aload_n hx hb dX3_readVisitor_48 rfl (lv_at hl 1 rfl) ?_
        refine lv_aload_n hx hb dX3_readVisitor_49 rfl (lv_at hl 2 rfl) ?_
        refine lv_iload_n hx hb dX3_readVisitor_50 rfl (lv_at hl 0 rfl) ?_
        refine va_ldcS hx hb hown (xr_9 G.2.2.2.2.2.2.1) dX3_readVisitor_51 ?_
        refine lv_iconst (v := (3 : Int32)) hx hb dX3_readVisitor_53 (by decide) ?_
        obtain ⟨r27, rtok_28, rbg_29, ren_30, rvl_31, tr_32, hc33, hf⟩ := ob6_s hf
        refine go_i C0 G (runV_of (n := 4) (q0 := 0) (As := [.ref (ad 0), .int r2, .ref (adK 9), .int (3 : Int32)]) (rest := []) C0 G (c3_readTrait hX (by decide) hc33) q608 q51 q605 q606 q607 o3_readTrait ⟨rfl, rfl⟩ ⟨Nat.le_of_ble_eq_true rfl, Nat.le_of_ble_eq_true rfl⟩ rfl rfl rfl hl.1 rfl (Nat.le_of_ble_eq_true rfl) dX3_readVisitor_54) (fun H locs G => ?_)
        refine lv_if_eq (tgt := 76) hx hb dX3_readVisitor_57 (by decide) (fun hc34 => ?_) (fun hc34 => ?_)
        · have hf := itp hc34 hf
          refine lv_iconst (v := (0 : Int32)) hx hb dX3_readVisitor_76 (by decide) ?_
          obtain ⟨rfl, rfl, rfl, rfl, rfl, rfl, rfl⟩ := inj7 hf
          exact ret_z C0 G rfl dX3_readVisitor_77
        · have hf := itn hc34 hf
          refine lv_aload_n hx hb dX3_readVisitor_60 rfl (lv_at hl 1 rfl) ?_
          refine lv_aload_n hx hb dX3_readVisitor_61 rfl (lv_at hl 2 rfl) ?_
          refine lv_iload_n hx hb dX3_readVisitor_62 rfl (lv_at hl 0 rfl) ?_
          refine va_ldcS hx hb hown (xr_10 G.2.2.2.2.2.2.1) dX3_readVisitor_63 ?_
          refine lv_iconst (v := (4 : Int32)) hx hb dX3_readVisitor_65 (by decide) ?_
          obtain ⟨r35, rtok_36, rbg_37, ren_38, rvl_39, tr_40, hc41, hf⟩ := ob6_s hf
          refine go_i C0 G (runV_of (n := 4) (q0 := 0) (As := [.ref (ad 0), .int r2, .ref (adK 10), .int (4 : Int32)]) (rest := []) C0 G (c3_readTrait hX (by decide) hc41) q608 q51 q605 q606 q607 o3_readTrait ⟨rfl, rfl⟩ ⟨Nat.le_of_ble_eq_true rfl, Nat.le_of_ble_eq_true rfl⟩ rfl rfl rfl hl.1 rfl (Nat.le_of_ble_eq_true rfl) dX3_readVisitor_66) (fun H locs G => ?_)
          refine lv_if_eq (tgt := 76) hx hb dX3_readVisitor_69 (by decide) (fun hc42 => ?_) (fun hc42 => ?_)
          · have hf := itp hc42 hf
            refine lv_iconst (v := (0 : Int32)) hx hb dX3_readVisitor_76 (by decide) ?_
            obtain ⟨rfl, rfl, rfl, rfl, rfl, rfl, rfl⟩ := inj7 hf
            exact ret_z C0 G rfl dX3_readVisitor_77
          · have hf := itn hc42 hf
            refine lv_iconst (v := (1 : Int32)) hx hb dX3_readVisitor_72 (by decide) ?_
            refine lv_goto (tgt := 77) hx hb dX3_readVisitor_73 (by decide) ?_
            obtain ⟨rfl, rfl, rfl, rfl, rfl, rfl, rfl⟩ := inj7 hf
            exact ret_z C0 G rfl dX3_readVisitor_77
  · have hf := itn hc1 hf
    refine lv_iconst (v := (0 : Int32)) hx hb dX3_readVisitor_7 (by decide) ?_
    obtain ⟨rfl, rfl, rfl, rfl, rfl, rfl, rfl⟩ := inj7 hf
    exact ret_z C0 G rfl dX3_readVisitor_8
theorem o3_readVisitor : okName yX3_readVisitor 2 := ⟨by decide, by decide, by decide +kernel⟩
set_option maxHeartbeats 4000000 in
set_option maxRecDepth 100000 in
theorem c3_readVisitor {ta adK adV : Nat → Nat} (hX : XT (XS ta adK adV)) {l : Launch} {D : va_G} {cI cB cG cS : ClassId} {at_ ad : Nat → Nat} {sz : Nat} {tb : Nat → Int32} {tl : Int32} {rtok : Int32} {rbg : Int32} {ren : Int32} {rvl : Int32} {hp : Nat → Int32} {st : Nat → Int32} {tr : Nat → Nat → Int32} {sp : Nat → Int32} {vis : Int32} {day : Int32} {z : Int32} {v2 : Int32} {r0 : Int32} {o_rtok : Int32} {o_rbg : Int32} {o_ren : Int32} {o_rvl : Int32} {o_tr : Nat → Nat → Int32} {o_vis : Int32} (hf : f3_readVisitor tb tl rtok rbg ren rvl tr vis v2 = some (r0, o_rtok, o_rbg, o_ren, o_rvl, o_tr, o_vis)) : Met l yX3_readVisitor (wU yX3_readVisitor cX3_readVisitor 4 (some .boolean)) ({ frames := 6, cells := 0, slots := 0, locals := 131 }) (va_Pc [.ref (at_ 0), .ref (ad 0), .int v2] (PreW (XS ta adK adV) D (tyC cI cB cG cS) (wT cI cB cG at_ ad tb tl rtok rbg ren rvl hp st tr sp vis day z) sz)) (QcI D (tyC cI cB cG cS) (wT cI cB cG at_ ad tb tl o_rtok o_rbg o_ren o_rvl hp st o_tr sp o_vis day z) (va_A (wT cI cB cG at_ ad tb tl rtok rbg ren rvl hp st tr sp vis day z) sz) r0) 0 0 (va_A (wT cI cB cG at_ ad tb tl rtok rbg ren rvl hp st tr sp vis day z) sz) := by
  refine startW hX (own := RX3) (by decide) rfl (Nat.le_of_ble_eq_true rfl) (fun p e s m args below meth c ls C0 G hl => ?_)
  exact b3_readVisitor_0 C0 G hl hf
/-! 3_readItem -/
theorem dX3_readItem_0 : decode cX3_readItem 0 = .ok (.iconst 0, 1) := by decide +kernel
theorem dX3_readItem_1 : decode cX3_readItem 1 = .ok (.istore_n 2, 1) := by decide +kernel
theorem dX3_readItem_2 : decode cX3_readItem 2 = .ok (.iload_n 2, 1) := by decide +kernel
theorem dX3_readItem_3 : decode cX3_readItem 3 = .ok (.bipush 7, 2) := by decide +kernel
theorem dX3_readItem_5 : decode cX3_readItem 5 = .ok (.if_icmp .ge 27, 3) := by decide +kernel
theorem dX3_readItem_8 : decode cX3_readItem 8 = .ok (.aload_n 0, 1) := by decide +kernel
theorem dX3_readItem_9 : decode cX3_readItem 9 = .ok (.iload_n 2, 1) := by decide +kernel
theorem dX3_readItem_10 : decode cX3_readItem 10 = .ok (.invokestatic 35, 3) := by decide +kernel
theorem dX3_readItem_13 : decode cX3_readItem 13 = .ok (.invokevirtual 39, 3) := by decide +kernel
theorem dX3_readItem_16 : decode cX3_readItem 16 = .ok (.ifCond .eq 10, 3) := by decide +kernel
theorem dX3_readItem_19 : decode cX3_readItem 19 = .ok (.aload_n 0, 1) := by decide +kernel
theorem dX3_readItem_20 : decode cX3_readItem 20 = .ok (.aload_n 1, 1) := by decide +kernel
theorem dX3_readItem_21 : decode cX3_readItem 21 = .ok (.iload_n 2, 1) := by decide +kernel
theorem dX3_readItem_22 : decode cX3_readItem 22 = .ok (.invokevirtual 43, 3) := by decide +kernel
theorem dX3_readItem_25 : decode cX3_readItem 25 = .ok (.ireturn, 1) := by decide +kernel
theorem dX3_readItem_26 : decode cX3_readItem 26 = .ok (.iinc 2 1, 3) := by decide +kernel
theorem dX3_readItem_29 : decode cX3_readItem 29 = .ok (.goto (-27), 3) := by decide +kernel
theorem dX3_readItem_32 : decode cX3_readItem 32 = .ok (.aload_n 0, 1) := by decide +kernel
theorem dX3_readItem_33 : decode cX3_readItem 33 = .ok (.ldc 47, 2) := by decide +kernel
theorem dX3_readItem_35 : decode cX3_readItem 35 = .ok (.invokevirtual 39, 3) := by decide +kernel
theorem dX3_readItem_38 : decode cX3_readItem 38 = .ok (.ifCond .eq 9, 3) := by decide +kernel
theorem dX3_readItem_41 : decode cX3_readItem 41 = .ok (.aload_n 0, 1) := by decide +kernel
theorem dX3_readItem_42 : decode cX3_readItem 42 = .ok (.aload_n 1, 1) := by decide +kernel
theorem dX3_readItem_43 : decode cX3_readItem 43 = .ok (.invokevirtual 49, 3) := by decide +kernel
theorem dX3_readItem_46 : decode cX3_readItem 46 = .ok (.ireturn, 1) := by decide +kernel
theorem dX3_readItem_47 : decode cX3_readItem 47 = .ok (.aload_n 0, 1) := by decide +kernel
theorem dX3_readItem_48 : decode cX3_readItem 48 = .ok (.ldc 52, 2) := by decide +kernel
theorem dX3_readItem_50 : decode cX3_readItem 50 = .ok (.invokevirtual 39, 3) := by decide +kernel
theorem dX3_readItem_53 : decode cX3_readItem 53 = .ok (.ifCond .eq 10, 3) := by decide +kernel
theorem dX3_readItem_56 : decode cX3_readItem 56 = .ok (.aload_n 0, 1) := by decide +kernel
theorem dX3_readItem_57 : decode cX3_readItem 57 = .ok (.aload_n 1, 1) := by decide +kernel
theorem dX3_readItem_58 : decode cX3_readItem 58 = .ok (.iconst 0, 1) := by decide +kernel
theorem dX3_readItem_59 : decode cX3_readItem 59 = .ok (.invokevirtual 54, 3) := by decide +kernel
theorem dX3_readItem_62 : decode cX3_readItem 62 = .ok (.ireturn, 1) := by decide +kernel
theorem dX3_readItem_63 : decode cX3_readItem 63 = .ok (.aload_n 0, 1) := by decide +kernel
theorem dX3_readItem_64 : decode cX3_readItem 64 = .ok (.ldc 57, 2) := by decide +kernel
theorem dX3_readItem_66 : decode cX3_readItem 66 = .ok (.invokevirtual 39, 3) := by decide +kernel
theorem dX3_readItem_69 : decode cX3_readItem 69 = .ok (.ifCond .eq 10, 3) := by decide +kernel
theorem dX3_readItem_72 : decode cX3_readItem 72 = .ok (.aload_n 0, 1) := by decide +kernel
theorem dX3_readItem_73 : decode cX3_readItem 73 = .ok (.aload_n 1, 1) := by decide +kernel
theorem dX3_readItem_74 : decode cX3_readItem 74 = .ok (.iconst 1, 1) := by decide +kernel
theorem dX3_readItem_75 : decode cX3_readItem 75 = .ok (.invokevirtual 54, 3) := by decide +kernel
theorem dX3_readItem_78 : decode cX3_readItem 78 = .ok (.ireturn, 1) := by decide +kernel
theorem dX3_readItem_79 : decode cX3_readItem 79 = .ok (.aload_n 0, 1) := by decide +kernel
theorem dX3_readItem_80 : decode cX3_readItem 80 = .ok (.ldc 59, 2) := by decide +kernel
theorem dX3_readItem_82 : decode cX3_readItem 82 = .ok (.invokevirtual 39, 3) := by decide +kernel
theorem dX3_readItem_85 : decode cX3_readItem 85 = .ok (.ifCond .eq 16, 3) := by decide +kernel
theorem dX3_readItem_88 : decode cX3_readItem 88 = .ok (.aload_n 0, 1) := by decide +kernel
theorem dX3_readItem_89 : decode cX3_readItem 89 = .ok (.aload_n 1, 1) := by decide +kernel
theorem dX3_readItem_90 : decode cX3_readItem 90 = .ok (.iconst 2, 1) := by decide +kernel
theorem dX3_readItem_91 : decode cX3_readItem 91 = .ok (.invokevirtual 54, 3) := by decide +kernel
theorem dX3_readItem_94 : decode cX3_readItem 94 = .ok (.ifCond .eq 7, 3) := by decide +kernel
theorem dX3_readItem_97 : decode cX3_readItem 97 = .ok (.iconst 1, 1) := by decide +kernel
theorem dX3_readItem_98 : decode cX3_readItem 98 = .ok (.goto 4, 3) := by decide +kernel
theorem dX3_readItem_101 : decode cX3_readItem 101 = .ok (.iconst 0, 1) := by decide +kernel
theorem dX3_readItem_102 : decode cX3_readItem 102 = .ok (.ireturn, 1) := by decide +kernel
def l3_readItem_2  : Nat → (Nat → Int32) → Int32 → Int32 → Int32 → Int32 → Int32 → (Nat → Int32) → (Nat → Int32) → (Nat → Nat → Int32) → Int32 → Int32 → Option (Int32 × Int32 × Int32 × Int32 × Int32 × (Nat → Int32) × (Nat → Int32) × (Nat → Nat → Int32) × Int32)
  | 0, _, _, _, _, _, _, _, _, _, _, _ => none
  | n + 1, tb, tl, rtok, rbg, ren, rvl, hp, st, tr, vis, v2 =>
    if (7 : Int32) ≤ v2 then (
      ob1 (f3_isWord 11 tb rtok rbg ren) (fun r2 =>
      if r2 = (0 : Int32) then (
        ob1 (f3_isWord 12 tb rtok rbg ren) (fun r5 =>
        if r5 = (0 : Int32) then (
          ob1 (f3_isWord 13 tb rtok rbg ren) (fun r8 =>
          if r8 = (0 : Int32) then (
            ob1 (f3_isWord 14 tb rtok rbg ren) (fun r11 =>
            if r11 = (0 : Int32) then (
              some ((0 : Int32), rtok, rbg, ren, rvl, hp, st, tr, vis))
            else (
              ob6 (f3_readSetting tb tl rtok rbg ren rvl st (2 : Int32)) (fun r14 rtok_15 rbg_16 ren_17 rvl_18 st_19 =>
              if r14 = (0 : Int32) then (
                some ((0 : Int32), rtok_15, rbg_16, ren_17, rvl_18, hp, st_19, tr, vis))
              else (
                some ((1 : Int32), rtok_15, rbg_16, ren_17, rvl_18, hp, st_19, tr, vis))))))
          else (
            ob6 (f3_readSetting tb tl rtok rbg ren rvl st (1 : Int32)) (fun r22 rtok_23 rbg_24 ren_25 rvl_26 st_27 =>
            gd (b01 r22) (
            some (r22, rtok_23, rbg_24, ren_25, rvl_26, hp, st_27, tr, vis))))))
        else (
          ob6 (f3_readSetting tb tl rtok rbg ren rvl st (0 : Int32)) (fun r30 rtok_31 rbg_32 ren_33 rvl_34 st_35 =>
          gd (b01 r30) (
          some (r30, rtok_31, rbg_32, ren_33, rvl_34, hp, st_35, tr, vis))))))
      else (
        ob6 (f3_readSand tb tl rtok rbg ren rvl hp) (fun r38 rtok_39 rbg_40 ren_41 rvl_42 hp_43 =>
        gd (b01 r38) (
        some (r38, rtok_39, rbg_40, ren_41, rvl_42, hp_43, st, tr, vis))))))
    else (
      ob1 (f3_isWord (f3_wordOf v2) tb rtok rbg ren) (fun r46 =>
      if r46 = (0 : Int32) then (
        (l3_readItem_2 n) tb tl rtok rbg ren rvl hp st tr vis (v2 + (1 : Int32)))
      else (
        ob7 (f3_readVisitor tb tl rtok rbg ren rvl tr vis v2) (fun r49 rtok_50 rbg_51 ren_52 rvl_53 tr_54 vis_55 =>
        gd (b01 r49) (
        some (r49, rtok_50, rbg_51, ren_52, rvl_53, hp, st, tr_54, vis_55))))))
def f3_readItem (tb : Nat → Int32) (tl : Int32) (rtok : Int32) (rbg : Int32) (ren : Int32) (rvl : Int32) (hp : Nat → Int32) (st : Nat → Int32) (tr : Nat → Nat → Int32) (vis : Int32)  : Option (Int32 × Int32 × Int32 × Int32 × Int32 × (Nat → Int32) × (Nat → Int32) × (Nat → Nat → Int32) × Int32) :=
  l3_readItem_2 1000 tb tl rtok rbg ren rvl hp st tr vis (0 : Int32)
set_option maxHeartbeats 4000000 in
set_option maxRecDepth 100000 in
theorem b3_readItem_2 {ta adK adV : Nat → Nat} {p : Program} {l : Launch} {e : Env} {s : State} {m : MethodId} {args : Array Value} {below : List Frame} {meth : Method} {c : Code} {D : va_G} {cI cB cG cS : ClassId} {at_ ad : Nat → Nat} {A : Nat → Prop} {tb : Nat → Int32} {tl : Int32} {sp : Nat → Int32} {day : Int32} {z : Int32} {r0 : Int32} {o_rtok : Int32} {o_rbg : Int32} {o_ren : Int32} {o_rvl : Int32} {o_hp : Nat → Int32} {o_st : Nat → Int32} {o_tr : Nat → Nat → Int32} {o_vis : Int32} (C0 : CX (XS ta adK adV) p s m args meth c cX3_readItem 3 (some .boolean) RX3 A) : ∀ (n : Nat) {rtok : Int32} {rbg : Int32} {ren : Int32} {rvl : Int32} {hp : Nat → Int32} {st : Nat → Int32} {tr : Nat → Nat → Int32} {vis : Int32} {v2 : Int32} {H : Heap} {locs : List Loc} {ls : Array Slot}, GX (XS ta adK adV) D (tyC cI cB cG cS) A s (wT cI cB cG at_ ad tb tl rtok rbg ren rvl hp st tr sp vis day z) H locs → lv_has ls 3 [(0, .ref (at_ 0)), (1, .ref (ad 0)), (2, .int v2)] → l3_readItem_2  n tb tl rtok rbg ren rvl hp st tr vis v2 = some (r0, o_rtok, o_rbg, o_ren, o_rvl, o_hp, o_st, o_tr, o_vis) → W p l e ({ frames := 7, cells := 0, slots := 0, locals := 154 }) s m args below meth c H locs 0 0 (MQ below (QcI D (tyC cI cB cG cS) (wT cI cB cG at_ ad tb tl o_rtok o_rbg o_ren o_rvl o_hp o_st o_tr sp o_vis day z) A r0) args s 0 0 A) (F0 m 2 ls []) := by
  have hx := C0.1
  have hb := C0.2.1
  have hown := C0.2.2.2.2.1
  have hts := C0.2.2.2.2.2.1
  have hX := C0.2.2.2.2.2.2.2.2
  intro n
  induction n with
  | zero =>
    intro _ _ _ _ _ _ _ _ _ _ _ _ G hl hf
    cases hf
  | succ n ih =>
    intro rtok rbg ren rvl hp st tr vis v2 H locs ls G hl hf
    rw [l3_readItem_2] at hf
    refine lv_iload_n hx hb dX3_readItem_2 rfl (lv_at hl 2 rfl) ?_
    refine lv_bipush (v := (7 : Int32)) hx hb dX3_readItem_3 (by decide) ?_
    refine lv_icmp_ge (tgt := 32) hx hb dX3_readItem_5 (by decide) (fun hc1 => ?_) (fun hc1 => ?_)
    · have hf := itp hc1 hf
      refine lv_aload_n hx hb dX3_readItem_32 rfl (lv_at hl 0 rfl) ?_
      refine va_ldcS hx hb hown (xr_11 G.2.2.2.2.2.2.1) dX3_readItem_33 ?_
      obtain ⟨r2, hc3, hf⟩ := ob1_s hf
      refine go_i C0 G (runV_of (n := 1) (q0 := 0) (As := [.ref (adK 11)]) (rest := []) C0 G (c3_isWord hX (by decide) hc3) q548 q51 q545 q546 q547 o3_isWord ⟨rfl, rfl⟩ ⟨Nat.le_of_ble_eq_true rfl, Nat.le_of_ble_eq_true rfl⟩ rfl rfl rfl hl.1 rfl (Nat.le_of_ble_eq_true rfl) dX3_readItem_35) (fun H locs G => ?_)
      refine lv_if_eq (tgt := 47) hx hb dX3_readItem_38 (by decide) (fun hc4 => ?_) (fun hc4 => ?_)
      · have hf := itp hc4 hf
        refine lv_aload_n hx hb dX3_readItem_47 rfl (lv_at hl 0 rfl) ?_
        refine va_ldcS hx hb hown (xr_12 G.2.2.2.2.2.2.1) dX3_readItem_48 ?_
        obtain ⟨r5, hc6, hf⟩ := ob1_s hf
        refine go_i C0 G (runV_of (n := 1) (q0 := 0) (As := [.ref (adK 12)]) (rest := []) C0 G (c3_isWord hX (by decide) hc6) q548 q51 q545 q546 q547 o3_isWord ⟨rfl, rfl⟩ ⟨Nat.le_of_ble_eq_true rfl, Nat.le_of_ble_eq_true rfl⟩ rfl rfl rfl hl.1 rfl (Nat.le_of_ble_eq_true rfl) dX3_readItem_50) (fun H locs G => ?_)
        refine lv_if_eq (tgt := 63) hx hb dX3_readItem_53 (by decide) (fun hc7 => ?_) (fun hc7 => ?_)
        · have hf := itp hc7 hf
          refine lv_aload_n hx hb dX3_readItem_63 rfl (lv_at hl 0 rfl) ?_
          refine va_ldcS hx hb hown (xr_13 G.2.2.2.2.2.2.1) dX3_readItem_64 ?_
          obtain ⟨r8, hc9, hf⟩ := ob1_s hf
          refine go_i C0 G (runV_of (n := 1) (q0 := 0) (As := [.ref (adK 13)]) (rest := []) C0 G (c3_isWord hX (by decide) hc9) q548 q51 q545 q546 q547 o3_isWord ⟨rfl, rfl⟩ ⟨Nat.le_of_ble_eq_true rfl, Nat.le_of_ble_eq_true rfl⟩ rfl rfl rfl hl.1 rfl (Nat.le_of_ble_eq_true rfl) dX3_readItem_66) (fun H locs G => ?_)
          refine lv_if_eq (tgt := 79) hx hb dX3_readItem_69 (by decide) (fun hc10 => ?_) (fun hc10 => ?_)
          · have hf := itp hc10 hf
            refine lv_aload_n hx hb dX3_readItem_79 rfl (lv_at hl 0 rfl) ?_
            refine va_ldcS hx hb hown (xr_14 G.2.2.2.2.2.2.1) dX3_readItem_80 ?_
            obtain ⟨r11, hc12, hf⟩ := ob1_s hf
            refine go_i C0 G (runV_of (n := 1) (q0 := 0) (As := [.ref (adK 14)]) (rest := []) C0 G (c3_isWord hX (by decide) hc12) q548 q51 q545 q546 q547 o3_isWord ⟨rfl, rfl⟩ ⟨Nat.le_of_ble_eq_true rfl, Nat.le_of_ble_eq_true rfl⟩ rfl rfl rfl hl.1 rfl (Nat.le_of_ble_eq_true rfl) dX3_readItem_82) (fun H locs G => ?_)
            refine lv_if_eq (tgt := 101) hx hb dX3_readItem_85 (by decide) (fun hc13 => ?_) (fun hc13 => ?_)
            · have hf := itp hc13 hf
              refine lv_iconst (v := (0 : Int32)) hx hb dX3_readItem_101 (by decide) ?_
              obtain ⟨rfl, rfl, rfl, rfl, rfl, rfl, rfl, rfl, rfl⟩ := inj9 hf
              exact ret_z C0 G rfl dX3_readItem_102
            · have hf := itn hc13 hf
              refine lv_aload_n hx hb dX3_readItem_88 rfl (lv_at hl 0 rfl) ?_
              refine lv_aload_n hx hb dX3_readItem_89 rfl (lv_at hl 1 rfl) ?_
              refine lv_iconst (v := (2 : Int32)) hx hb dX3_readItem_90 (by decide) ?_
              obtain ⟨r14, rtok_15, rbg_16, ren_17, rvl_18, st_19, hc20, hf⟩ := ob6_s hf
              refine go_i C0 G (runV_of (n := 2) (q0 := 0) (As := [.ref (ad 0), .int (2 : Int32)]) (rest := []) C0 G (c3_readSetting hX hc20) q628 q51 q625 q626 q627 o3_readSetting ⟨rfl, rfl⟩ ⟨Nat.le_of_ble_eq_true rfl, Nat.le_of_ble_eq_true rfl⟩ rfl rfl rfl hl.1 rfl (Nat.le_of_ble_eq_true rfl) dX3_readItem_91) (fun H locs G => ?_)
              refine lv_if_eq (tgt := 101) hx hb dX3_readItem_94 (by decide) (fun hc21 => ?_) (fun hc21 => ?_)
              · have hf := itp hc21 hf
                refine lv_iconst (v := (0 : Int32)) hx hb dX3_readItem_101 (by decide) ?_
                obtain ⟨rfl, rfl, rfl, rfl, rfl, rfl, rfl, rfl, rfl⟩ := inj9 hf
                exact ret_z C0 G rfl dX3_readItem_102
              · have hf := itn hc21 hf
                refine lv_iconst (v := (1 : Int32)) hx hb dX3_readItem_97 (by decide) ?_
                refine lv_goto (tgt := 102) hx hb dX3_readItem_98 (by decide) ?_
                obtain ⟨rfl, rfl, rfl, rfl, rfl, rfl, rfl, rfl, rfl⟩ := inj9 hf
                exact ret_z C0 G rfl dX3_readItem_102
          · have hf := itn hc10 hf
            refine lv_aload_n hx hb dX3_readItem_72 rfl (lv_at hl 0 rfl) ?_
            refine lv_aload_n hx hb dX3_readItem_73 rfl (lv_at hl 1 rfl) ?_
            refine lv_iconst (v := (1 : Int32)) hx hb dX3_readItem_74 (by decide) ?_
            obtain ⟨r22, rtok_23, rbg_24, ren_25, rvl_26, st_27, hc28, hf⟩ := ob6_s hf
            refine go_i C0 G (runV_of (n := 2) (q0 := 0) (As := [.ref (ad 0), .int (1 : Int32)]) (rest := []) C0 G (c3_readSetting hX hc28) q628 q51 q625 q626 q627 o3_readSetting ⟨rfl, rfl⟩ ⟨Nat.le_of_ble_eq_true rfl, Nat.le_of_ble_eq_true rfl⟩ rfl rfl rfl hl.1 rfl (Nat.le_of_ble_eq_true rfl) dX3_readItem_75) (fun H locs G => ?_)
            obtain ⟨hz29, hf⟩ := gd_s hf
            obtain ⟨rfl, rfl, rfl, rfl, rfl, rfl, rfl, rfl, rfl⟩ := inj9 hf
            exact ret_z C0 G (b01_n hz29) dX3_readItem_78
        · have hf := itn hc7 hf
          refine lv_aload_n hx hb dX3_readItem_56 rfl (lv_at hl 0 rfl) ?_
          refine lv_aload_n hx hb dX3_readItem_57 rfl (lv_at hl 1 rfl) ?_
          refine lv_iconst (v := (0 : Int32)) hx hb dX3_readItem_58 (by decide) ?_
          obtain ⟨r30, rtok_31, rbg_32, ren_33, rvl_34, st_35, hc36, hf⟩ := ob6_s hf
          refine go_i C0 G (runV_of (n := 2) (q0 := 0) (As := [.ref (ad 0), .int (0 : Int32)]) (rest := []) C0 G (c3_readSetting hX hc36) q628 q51 q625 q626 q627 o3_readSetting ⟨rfl, rfl⟩ ⟨Nat.le_of_ble_eq_true rfl, Nat.le_of_ble_eq_true rfl⟩ rfl rfl rfl hl.1 rfl (Nat.le_of_ble_eq_true rfl) dX3_readItem_59) (fun H locs G => ?_)
          obtain ⟨hz37, hf⟩ := gd_s hf
          obtain ⟨rfl, rfl, rfl, rfl, rfl, rfl, rfl, rfl, rfl⟩ := inj9 hf
          exact ret_z C0 G (b01_n hz37) dX3_readItem_62
      · have hf := itn hc4 hf
        refine lv_aload_n hx hb dX3_readItem_41 rfl (lv_at hl 0 rfl) ?_
        refine lv_aload_n hx hb dX3_readItem_42 rfl (lv_at hl 1 rfl) ?_
        obtain ⟨r38, rtok_39, rbg_40, ren_41, rvl_42, hp_43, hc44, hf⟩ := ob6_s hf
        refine go_i C0 G (runV_of (n := 1) (q0 := 0) (As := [.ref (ad 0)]) (rest := []) C0 G (c3_readSand hX hc44) q623 q51 q620 q621 q622 o3_readSand ⟨rfl, rfl⟩ ⟨Nat.le_of_ble_eq_true rfl, Nat.le_of_ble_eq_true rfl⟩ rfl rfl rfl hl.1 rfl (Nat.le_of_ble_eq_true rfl) dX3_readItem_43) (fun H locs G => ?_)
        obtain ⟨hz45, hf⟩ := gd_s hf
        obtain ⟨rfl, rfl, rfl, rfl, rfl, rfl, rfl, rfl, rfl⟩ := inj9 hf
        exact ret_z C0 G (b01_n hz45) dX3_readItem_46
    · have hf := itn hc1 hf
      refine lv_aload_n hx hb dX3_readItem_8 rfl (lv_at hl 0 rfl) ?_
      refine lv_iload_n hx hb dX3_readItem_9 rfl (lv_at hl 2 rfl) ?_
      refine go_r C0 G (runS_of (n := 1) (As := [.int v2]) (rest := [.ref (at_ 0)]) C0 G (c3_wordOf hX rfl) q537 q51 q535 q536 o3_wordOf ⟨rfl, rfl⟩ ⟨Nat.le_of_ble_eq_true rfl, Nat.le_of_ble_eq_true rfl⟩ rfl hl.1 rfl (Nat.le_of_ble_eq_true rfl) dX3_readItem_10) (fun H locs G => ?_)
      obtain ⟨r46, hc47, hf⟩ := ob1_s hf
      refine go_i C0 G (runV_of (n := 1) (q0 := 0) (As := [.ref (adK (f3_wordOf v2))]) (rest := []) C0 G (c3_isWord hX (lt3_wordOf _) hc47) q548 q51 q545 q546 q547 o3_isWord ⟨rfl, rfl⟩ ⟨Nat.le_of_ble_eq_true rfl, Nat.le_of_ble_eq_true rfl⟩ rfl rfl rfl hl.1 rfl (Nat.le_of_ble_eq_true rfl) dX3_readItem_13) (fun H locs G => ?_)
      refine lv_if_eq (tgt := 26) hx hb dX3_readItem_16 (by decide) (fun hc48 => ?_) (fun hc48 => ?_)
      · have hf := itp hc48 hf
        refine lv_iinc (v := (v2 + (1 : Int32))) (lv' := [(2, .int (v2 + (1 : Int32))), (0, .ref (at_ 0)), (1, .ref (ad 0))]) hx hb dX3_readItem_26 hl (k := 2) rfl rfl (by decide) rfl (fun ls hl => ?_)
        refine lv_goto (tgt := 2) hx hb dX3_readItem_29 (by decide) ?_
        exact ih G (lv_sub hl [1, 2, 0] rfl) hf
      · have hf := itn hc48 hf
        refine lv_aload_n hx hb dX3_readItem_19 rfl (lv_at hl 0 rfl) ?_
        refine lv_aload_n hx hb dX3_readItem_20 rfl (lv_at hl 1 rfl) ?_
        refine lv_iload_n hx hb dX3_readItem_21 rfl (lv_at hl 2 rfl) ?_
        obtain ⟨r49, rtok_50, rbg_51, ren_52, rvl_53, tr_54, vis_55, hc56, hf⟩ := ob7_s hf
        refine go_i C0 G (runV_of (n := 2) (q0 := 0) (As := [.ref (ad 0), .int v2]) (rest := []) C0 G (c3_readVisitor hX hc56) q600 q51 q597 q598 q599 o3_readVisitor ⟨rfl, rfl⟩ ⟨Nat.le_of_ble_eq_true rfl, Nat.le_of_ble_eq_true rfl⟩ rfl rfl rfl hl.1 rfl (Nat.le_of_ble_eq_true rfl) dX3_readItem_22) (fun H locs G => ?_)
        obtain ⟨hz57, hf⟩ := gd_s hf
        obtain ⟨rfl, rfl, rfl, rfl, rfl, rfl, rfl, rfl, rfl⟩ := inj9 hf
        exact ret_z C0 G (b01_n hz57) dX3_readItem_25
set_option maxHeartbeats 4000000 in
set_option maxRecDepth 100000 in
theorem b3_readItem_0 {ta adK adV : Nat → Nat} {p : Program} {l : Launch} {e : Env} {s : State} {m : MethodId} {args : Array Value} {below : List Frame} {meth : Method} {c : Code} {D : va_G} {cI cB cG cS : ClassId} {at_ ad : Nat → Nat} {A : Nat → Prop} {tb : Nat → Int32} {tl : Int32} {sp : Nat → Int32} {day : Int32} {z : Int32} {r0 : Int32} {o_rtok : Int32} {o_rbg : Int32} {o_ren : Int32} {o_rvl : Int32} {o_hp : Nat → Int32} {o_st : Nat → Int32} {o_tr : Nat → Nat → Int32} {o_vis : Int32} (C0 : CX (XS ta adK adV) p s m args meth c cX3_readItem 3 (some .boolean) RX3 A) : ∀ {rtok : Int32} {rbg : Int32} {ren : Int32} {rvl : Int32} {hp : Nat → Int32} {st : Nat → Int32} {tr : Nat → Nat → Int32} {vis : Int32} {H : Heap} {locs : List Loc} {ls : Array Slot}, GX (XS ta adK adV) D (tyC cI cB cG cS) A s (wT cI cB cG at_ ad tb tl rtok rbg ren rvl hp st tr sp vis day z) H locs → lv_has ls 3 [(0, .ref (at_ 0)), (1, .ref (ad 0))] → f3_readItem tb tl rtok rbg ren rvl hp st tr vis = some (r0, o_rtok, o_rbg, o_ren, o_rvl, o_hp, o_st, o_tr, o_vis) → W p l e ({ frames := 7, cells := 0, slots := 0, locals := 154 }) s m args below meth c H locs 0 0 (MQ below (QcI D (tyC cI cB cG cS) (wT cI cB cG at_ ad tb tl o_rtok o_rbg o_ren o_rvl o_hp o_st o_tr sp o_vis day z) A r0) args s 0 0 A) (F0 m 0 ls []) := by
  have hx := C0.1
  have hb := C0.2.1
  have hown := C0.2.2.2.2.1
  have hts := C0.2.2.2.2.2.1
  have hX := C0.2.2.2.2.2.2.2.2
  intro rtok rbg ren rvl hp st tr vis H locs ls G hl hf
  unfold f3_readItem at hf
  refine lv_iconst (v := (0 : Int32)) hx hb dX3_readItem_0 (by decide) ?_
  refine lv_istore_n (lv' := [(2, .int (0 : Int32)), (0, .ref (at_ 0)), (1, .ref (ad 0))]) hx hb dX3_readItem_1 rfl hl (by decide) rfl (fun ls hl => ?_)
  exact b3_readItem_2 C0  1000 G (lv_sub hl [1, 2, 0] rfl) hf
theorem o3_readItem : okName yX3_readItem 1 := ⟨by decide, by decide, by decide +kernel⟩
set_option maxHeartbeats 4000000 in
set_option maxRecDepth 100000 in
theorem c3_readItem {ta adK adV : Nat → Nat} (hX : XT (XS ta adK adV)) {l : Launch} {D : va_G} {cI cB cG cS : ClassId} {at_ ad : Nat → Nat} {sz : Nat} {tb : Nat → Int32} {tl : Int32} {rtok : Int32} {rbg : Int32} {ren : Int32} {rvl : Int32} {hp : Nat → Int32} {st : Nat → Int32} {tr : Nat → Nat → Int32} {sp : Nat → Int32} {vis : Int32} {day : Int32} {z : Int32}  {r0 : Int32} {o_rtok : Int32} {o_rbg : Int32} {o_ren : Int32} {o_rvl : Int32} {o_hp : Nat → Int32} {o_st : Nat → Int32} {o_tr : Nat → Nat → Int32} {o_vis : Int32} (hf : f3_readItem tb tl rtok rbg ren rvl hp st tr vis = some (r0, o_rtok, o_rbg, o_ren, o_rvl, o_hp, o_st, o_tr, o_vis)) : Met l yX3_readItem (wU yX3_readItem cX3_readItem 3 (some .boolean)) ({ frames := 7, cells := 0, slots := 0, locals := 154 }) (va_Pc [.ref (at_ 0), .ref (ad 0)] (PreW (XS ta adK adV) D (tyC cI cB cG cS) (wT cI cB cG at_ ad tb tl rtok rbg ren rvl hp st tr sp vis day z) sz)) (QcI D (tyC cI cB cG cS) (wT cI cB cG at_ ad tb tl o_rtok o_rbg o_ren o_rvl o_hp o_st o_tr sp o_vis day z) (va_A (wT cI cB cG at_ ad tb tl rtok rbg ren rvl hp st tr sp vis day z) sz) r0) 0 0 (va_A (wT cI cB cG at_ ad tb tl rtok rbg ren rvl hp st tr sp vis day z) sz) := by
  refine startW hX (own := RX3) (by decide) rfl (Nat.le_of_ble_eq_true rfl) (fun p e s m args below meth c ls C0 G hl => ?_)
  exact b3_readItem_0 C0 G hl hf
/-! 3_readText -/
theorem dX3_readText_0 : decode cX3_readText 0 = .ok (.aload_n 0, 1) := by decide +kernel
theorem dX3_readText_1 : decode cX3_readText 1 = .ok (.iconst 0, 1) := by decide +kernel
theorem dX3_readText_2 : decode cX3_readText 2 = .ok (.putfield 18, 3) := by decide +kernel
theorem dX3_readText_5 : decode cX3_readText 5 = .ok (.aload_n 0, 1) := by decide +kernel
theorem dX3_readText_6 : decode cX3_readText 6 = .ok (.invokevirtual 22, 3) := by decide +kernel
theorem dX3_readText_9 : decode cX3_readText 9 = .ok (.iconst 1, 1) := by decide +kernel
theorem dX3_readText_10 : decode cX3_readText 10 = .ok (.istore_n 2, 1) := by decide +kernel
theorem dX3_readText_11 : decode cX3_readText 11 = .ok (.iload_n 2, 1) := by decide +kernel
theorem dX3_readText_12 : decode cX3_readText 12 = .ok (.bipush 120, 2) := by decide +kernel
theorem dX3_readText_14 : decode cX3_readText 14 = .ok (.if_icmp .gt 52, 3) := by decide +kernel
theorem dX3_readText_17 : decode cX3_readText 17 = .ok (.aload_n 0, 1) := by decide +kernel
theorem dX3_readText_18 : decode cX3_readText 18 = .ok (.aload_n 1, 1) := by decide +kernel
theorem dX3_readText_19 : decode cX3_readText 19 = .ok (.invokevirtual 25, 3) := by decide +kernel
theorem dX3_readText_22 : decode cX3_readText 22 = .ok (.ifCond .ne 10, 3) := by decide +kernel
theorem dX3_readText_25 : decode cX3_readText 25 = .ok (.iconst (-1), 1) := by decide +kernel
theorem dX3_readText_26 : decode cX3_readText 26 = .ok (.aload_n 0, 1) := by decide +kernel
theorem dX3_readText_27 : decode cX3_readText 27 = .ok (.getfield 29, 3) := by decide +kernel
theorem dX3_readText_30 : decode cX3_readText 30 = .ok (.isub, 1) := by decide +kernel
theorem dX3_readText_31 : decode cX3_readText 31 = .ok (.ireturn, 1) := by decide +kernel
theorem dX3_readText_32 : decode cX3_readText 32 = .ok (.aload_n 0, 1) := by decide +kernel
theorem dX3_readText_33 : decode cX3_readText 33 = .ok (.getfield 32, 3) := by decide +kernel
theorem dX3_readText_36 : decode cX3_readText 36 = .ok (.ifCond .ne 5, 3) := by decide +kernel
theorem dX3_readText_39 : decode cX3_readText 39 = .ok (.iload_n 2, 1) := by decide +kernel
theorem dX3_readText_40 : decode cX3_readText 40 = .ok (.ireturn, 1) := by decide +kernel
theorem dX3_readText_41 : decode cX3_readText 41 = .ok (.aload_n 0, 1) := by decide +kernel
theorem dX3_readText_42 : decode cX3_readText 42 = .ok (.getfield 32, 3) := by decide +kernel
theorem dX3_readText_45 : decode cX3_readText 45 = .ok (.iconst 3, 1) := by decide +kernel
theorem dX3_readText_46 : decode cX3_readText 46 = .ok (.if_icmp .eq 10, 3) := by decide +kernel
theorem dX3_readText_49 : decode cX3_readText 49 = .ok (.iconst (-1), 1) := by decide +kernel
theorem dX3_readText_50 : decode cX3_readText 50 = .ok (.aload_n 0, 1) := by decide +kernel
theorem dX3_readText_51 : decode cX3_readText 51 = .ok (.getfield 29, 3) := by decide +kernel
theorem dX3_readText_54 : decode cX3_readText 54 = .ok (.isub, 1) := by decide +kernel
theorem dX3_readText_55 : decode cX3_readText 55 = .ok (.ireturn, 1) := by decide +kernel
theorem dX3_readText_56 : decode cX3_readText 56 = .ok (.aload_n 0, 1) := by decide +kernel
theorem dX3_readText_57 : decode cX3_readText 57 = .ok (.invokevirtual 22, 3) := by decide +kernel
theorem dX3_readText_60 : decode cX3_readText 60 = .ok (.iinc 2 1, 3) := by decide +kernel
theorem dX3_readText_63 : decode cX3_readText 63 = .ok (.goto (-52), 3) := by decide +kernel
theorem dX3_readText_66 : decode cX3_readText 66 = .ok (.iconst (-1), 1) := by decide +kernel
theorem dX3_readText_67 : decode cX3_readText 67 = .ok (.aload_n 0, 1) := by decide +kernel
theorem dX3_readText_68 : decode cX3_readText 68 = .ok (.getfield 29, 3) := by decide +kernel
theorem dX3_readText_71 : decode cX3_readText 71 = .ok (.isub, 1) := by decide +kernel
theorem dX3_readText_72 : decode cX3_readText 72 = .ok (.ireturn, 1) := by decide +kernel
def l3_readText_11  : Nat → (Nat → Int32) → Int32 → Int32 → Int32 → Int32 → Int32 → (Nat → Int32) → (Nat → Int32) → (Nat → Nat → Int32) → Int32 → Int32 → Option (Int32 × Int32 × Int32 × Int32 × Int32 × (Nat → Int32) × (Nat → Int32) × (Nat → Nat → Int32) × Int32)
  | 0, _, _, _, _, _, _, _, _, _, _, _ => none
  | n + 1, tb, tl, rtok, rbg, ren, rvl, hp, st, tr, vis, v2 =>
    if (120 : Int32) < v2 then (
      some (((-1 : Int32) - rbg), rtok, rbg, ren, rvl, hp, st, tr, vis))
    else (
      ob9 (f3_readItem tb tl rtok rbg ren rvl hp st tr vis) (fun r7 rtok_8 rbg_9 ren_10 rvl_11 hp_12 st_13 tr_14 vis_15 =>
      if r7 = (0 : Int32) then (
        some (((-1 : Int32) - rbg_9), rtok_8, rbg_9, ren_10, rvl_11, hp_12, st_13, tr_14, vis_15))
      else (
        if rtok_8 = (0 : Int32) then (
          some (v2, rtok_8, rbg_9, ren_10, rvl_11, hp_12, st_13, tr_14, vis_15))
        else (
          if rtok_8 = (3 : Int32) then (
            ob4 (f3_readToken tb tl rtok_8 rbg_9 ren_10 rvl_11) (fun rtok_20 rbg_21 ren_22 rvl_23 =>
            (l3_readText_11 n) tb tl rtok_20 rbg_21 ren_22 rvl_23 hp_12 st_13 tr_14 vis_15 (v2 + (1 : Int32))))
          else (
            some (((-1 : Int32) - rbg_9), rtok_8, rbg_9, ren_10, rvl_11, hp_12, st_13, tr_14, vis_15))))))
def f3_readText (tb : Nat → Int32) (tl : Int32) (rtok : Int32) (rbg : Int32) (ren : Int32) (rvl : Int32) (hp : Nat → Int32) (st : Nat → Int32) (tr : Nat → Nat → Int32) (vis : Int32)  : Option (Int32 × Int32 × Int32 × Int32 × Int32 × (Nat → Int32) × (Nat → Int32) × (Nat → Nat → Int32) × Int32) :=
  ob4 (f3_readToken tb tl rtok rbg (0 : Int32) rvl) (fun rtok_1 rbg_2 ren_3 rvl_4 =>
  l3_readText_11 1000 tb tl rtok_1 rbg_2 ren_3 rvl_4 hp st tr vis (1 : Int32))
set_option maxHeartbeats 4000000 in
set_option maxRecDepth 100000 in
theorem b3_readText_11 {ta adK adV : Nat → Nat} {p : Program} {l : Launch} {e : Env} {s : State} {m : MethodId} {args : Array Value} {below : List Frame} {meth : Method} {c : Code} {D : va_G} {cI cB cG cS : ClassId} {at_ ad : Nat → Nat} {A : Nat → Prop} {tb : Nat → Int32} {tl : Int32} {sp : Nat → Int32} {day : Int32} {z : Int32} {r0 : Int32} {o_rtok : Int32} {o_rbg : Int32} {o_ren : Int32} {o_rvl : Int32} {o_hp : Nat → Int32} {o_st : Nat → Int32} {o_tr : Nat → Nat → Int32} {o_vis : Int32} (C0 : CX (XS ta adK adV) p s m args meth c cX3_readText 3 (some .int) RX3 A) : ∀ (n : Nat) {rtok : Int32} {rbg : Int32} {ren : Int32} {rvl : Int32} {hp : Nat → Int32} {st : Nat → Int32} {tr : Nat → Nat → Int32} {vis : Int32} {v2 : Int32} {H : Heap} {locs : List Loc} {ls : Array Slot}, GX (XS ta adK adV) D (tyC cI cB cG cS) A s (wT cI cB cG at_ ad tb tl rtok rbg ren rvl hp st tr sp vis day z) H locs → lv_has ls 3 [(0, .ref (at_ 0)), (1, .ref (ad 0)), (2, .int v2)] → l3_readText_11  n tb tl rtok rbg ren rvl hp st tr vis v2 = some (r0, o_rtok, o_rbg, o_ren, o_rvl, o_hp, o_st, o_tr, o_vis) → W p l e ({ frames := 8, cells := 0, slots := 0, locals := 176 }) s m args below meth c H locs 0 0 (MQ below (QcI D (tyC cI cB cG cS) (wT cI cB cG at_ ad tb tl o_rtok o_rbg o_ren o_rvl o_hp o_st o_tr sp o_vis day z) A r0) args s 0 0 A) (F0 m 11 ls []) := by
  have hx := C0.1
  have hb := C0.2.1
  have hown := C0.2.2.2.2.1
  have hts := C0.2.2.2.2.2.1
  have hX := C0.2.2.2.2.2.2.2.2
  intro n
  induction n with
  | zero =>
    intro _ _ _ _ _ _ _ _ _ _ _ _ G hl hf
    cases hf
  | succ n ih =>
    intro rtok rbg ren rvl hp st tr vis v2 H locs ls G hl hf
    rw [l3_readText_11] at hf
    refine lv_iload_n hx hb dX3_readText_11 rfl (lv_at hl 2 rfl) ?_
    refine lv_bipush (v := (120 : Int32)) hx hb dX3_readText_12 (by decide) ?_
    refine lv_icmp_gt (tgt := 66) hx hb dX3_readText_14 (by decide) (fun hc6 => ?_) (fun hc6 => ?_)
    · have hf := itp hc6 hf
      refine lv_iconst (v := (-1 : Int32)) hx hb dX3_readText_66 (by decide) ?_
      refine lv_aload_n hx hb dX3_readText_67 rfl (lv_at hl 0 rfl) ?_
      refine s_get (C := RX3) (T := TX3) C0 G i_X3 0 2 rfl rfl (by decide) q139 rfl dX3_readText_68 ?_
      refine lv_isub hx hb dX3_readText_71 ?_
      obtain ⟨rfl, rfl, rfl, rfl, rfl, rfl, rfl, rfl, rfl⟩ := inj9 hf
      exact ret_i C0 G dX3_readText_72
    · have hf := itn hc6 hf
      refine lv_aload_n hx hb dX3_readText_17 rfl (lv_at hl 0 rfl) ?_
      refine lv_aload_n hx hb dX3_readText_18 rfl (lv_at hl 1 rfl) ?_
      obtain ⟨r7, rtok_8, rbg_9, ren_10, rvl_11, hp_12, st_13, tr_14, vis_15, hc16, hf⟩ := ob9_s hf
      refine go_i C0 G (runV_of (n := 1) (q0 := 0) (As := [.ref (ad 0)]) (rest := []) C0 G (c3_readItem hX hc16) q534 q51 q531 q532 q533 o3_readItem ⟨rfl, rfl⟩ ⟨Nat.le_of_ble_eq_true rfl, Nat.le_of_ble_eq_true rfl⟩ rfl rfl rfl hl.1 rfl (Nat.le_of_ble_eq_true rfl) dX3_readText_19) (fun H locs G => ?_)
      refine lv_if_ne (tgt := 32) hx hb dX3_readText_22 (by decide) (fun hc17 => ?_) (fun hc17 => ?_)
      · have hf := itn hc17 hf
        refine lv_aload_n hx hb dX3_readText_32 rfl (lv_at hl 0 rfl) ?_
        refine s_get (C := RX3) (T := TX3) C0 G i_X3 0 1 rfl rfl (by decide) q138 rfl dX3_readText_33 ?_
        refine lv_if_ne (tgt := 41) hx hb dX3_readText_36 (by decide) (fun hc18 => ?_) (fun hc18 => ?_)
        · have hf := itn hc18 hf
          refine lv_aload_n hx hb dX3_readText_41 rfl (lv_at hl 0 rfl) ?_
          refine s_get (C := RX3) (T := TX3) C0 G i_X3 0 1 rfl rfl (by decide) q138 rfl dX3_readText_42 ?_
          refine lv_iconst (v := (3 : Int32)) hx hb dX3_readText_45 (by decide) ?_
          refine lv_icmp_eq (tgt := 56) hx hb dX3_readText_46 (by decide) (fun hc19 => ?_) (fun hc19 => ?_)
          · have hf := itp hc19 hf
            refine lv_aload_n hx hb dX3_readText_56 rfl (lv_at hl 0 rfl) ?_
            obtain ⟨rtok_20, rbg_21, ren_22, rvl_23, hc24, hf⟩ := ob4_s hf
            refine go_v C0 G (runV_of (n := 0) (q0 := 0) (As := []) (rest := []) C0 G (c3_readToken hX hc24) q521 q51 q518 q519 q520 o3_readToken ⟨rfl, rfl⟩ ⟨Nat.le_of_ble_eq_true rfl, Nat.le_of_ble_eq_true rfl⟩ rfl rfl rfl hl.1 rfl (Nat.le_of_ble_eq_true rfl) dX3_readText_57) (fun H locs G => ?_)
            refine lv_iinc (v := (v2 + (1 : Int32))) (lv' := [(2, .int (v2 + (1 : Int32))), (0, .ref (at_ 0)), (1, .ref (ad 0))]) hx hb dX3_readText_60 hl (k := 2) rfl rfl (by decide) rfl (fun ls hl => ?_)
            refine lv_goto (tgt := 11) hx hb dX3_readText_63 (by decide) ?_
            exact ih G (lv_sub hl [1, 2, 0] rfl) hf
          · have hf := itn hc19 hf
            refine lv_iconst (v := (-1 : Int32)) hx hb dX3_readText_49 (by decide) ?_
            refine lv_aload_n hx hb dX3_readText_50 rfl (lv_at hl 0 rfl) ?_
            refine s_get (C := RX3) (T := TX3) C0 G i_X3 0 2 rfl rfl (by decide) q139 rfl dX3_readText_51 ?_
            refine lv_isub hx hb dX3_readText_54 ?_
            obtain ⟨rfl, rfl, rfl, rfl, rfl, rfl, rfl, rfl, rfl⟩ := inj9 hf
            exact ret_i C0 G dX3_readText_55
        · have hf := itp hc18 hf
          refine lv_iload_n hx hb dX3_readText_39 rfl (lv_at hl 2 rfl) ?_
          obtain ⟨rfl, rfl, rfl, rfl, rfl, rfl, rfl, rfl, rfl⟩ := inj9 hf
          exact ret_i C0 G dX3_readText_40
      · have hf := itp hc17 hf
        refine lv_iconst (v := (-1 : Int32)) hx hb dX3_readText_25 (by decide) ?_
        refine lv_aload_n hx hb dX3_readText_26 rfl (lv_at hl 0 rfl) ?_
        refine s_get (C := RX3) (T := TX3) C0 G i_X3 0 2 rfl rfl (by decide) q139 rfl dX3_readText_27 ?_
        refine lv_isub hx hb dX3_readText_30 ?_
        obtain ⟨rfl, rfl, rfl, rfl, rfl, rfl, rfl, rfl, rfl⟩ := inj9 hf
        exact ret_i C0 G dX3_readText_31
set_option maxHeartbeats 4000000 in
set_option maxRecDepth 100000 in
theorem b3_readText_0 {ta adK adV : Nat → Nat} {p : Program} {l : Launch} {e : Env} {s : State} {m : MethodId} {args : Array Value} {below : List Frame} {meth : Method} {c : Code} {D : va_G} {cI cB cG cS : ClassId} {at_ ad : Nat → Nat} {A : Nat → Prop} {tb : Nat → Int32} {tl : Int32} {sp : Nat → Int32} {day : Int32} {z : Int32} {r0 : Int32} {o_rtok : Int32} {o_rbg : Int32} {o_ren : Int32} {o_rvl : Int32} {o_hp : Nat → Int32} {o_st : Nat → Int32} {o_tr : Nat → Nat → Int32} {o_vis : Int32} (C0 : CX (XS ta adK adV) p s m args meth c cX3_readText 3 (some .int) RX3 A) : ∀ {rtok : Int32} {rbg : Int32} {ren : Int32} {rvl : Int32} {hp : Nat → Int32} {st : Nat → Int32} {tr : Nat → Nat → Int32} {vis : Int32} {H : Heap} {locs : List Loc} {ls : Array Slot}, GX (XS ta adK adV) D (tyC cI cB cG cS) A s (wT cI cB cG at_ ad tb tl rtok rbg ren rvl hp st tr sp vis day z) H locs → lv_has ls 3 [(0, .ref (at_ 0)), (1, .ref (ad 0))] → f3_readText tb tl rtok rbg ren rvl hp st tr vis = some (r0, o_rtok, o_rbg, o_ren, o_rvl, o_hp, o_st, o_tr, o_vis) → W p l e ({ frames := 8, cells := 0, slots := 0, locals := 176 }) s m args below meth c H locs 0 0 (MQ below (QcI D (tyC cI cB cG cS) (wT cI cB cG at_ ad tb tl o_rtok o_rbg o_ren o_rvl o_hp o_st o_tr sp o_vis day z) A r0) args s 0 0 A) (F0 m 0 ls []) := by
  have hx := C0.1
  have hb := C0.2.1
  have hown := C0.2.2.2.2.1
  have hts := C0.2.2.2.2.2.1
  have hX := C0.2.2.2.2.2.2.2.2
  intro rtok rbg ren rvl hp st tr vis H locs ls G hl hf
  unfold f3_readText at hf
  refine lv_aload_n hx hb dX3_readText_0 rfl (lv_at hl 0 rfl) ?_
  refine lv_iconst (v := (0 : Int32)) hx hb dX3_readText_1 (by decide) ?_
  refine s_put (C := RX3) (T := TX3) (w' := (wT cI cB cG at_ ad tb tl rtok rbg (0 : Int32) rvl hp st tr sp vis day z)) C0 G i_X3 tyX3 tyX3_ok nmX3 0 3 rfl rfl (by decide) q140 rfl (ty := .int) (by decide +kernel) rfl rfl (Nat.le_of_ble_eq_true rfl) rfl dX3_readText_2 (fun H locs G => ?_)
  refine lv_aload_n hx hb dX3_readText_5 rfl (lv_at hl 0 rfl) ?_
  obtain ⟨rtok_1, rbg_2, ren_3, rvl_4, hc5, hf⟩ := ob4_s hf
  refine go_v C0 G (runV_of (n := 0) (q0 := 0) (As := []) (rest := []) C0 G (c3_readToken hX hc5) q521 q51 q518 q519 q520 o3_readToken ⟨rfl, rfl⟩ ⟨Nat.le_of_ble_eq_true rfl, Nat.le_of_ble_eq_true rfl⟩ rfl rfl rfl hl.1 rfl (Nat.le_of_ble_eq_true rfl) dX3_readText_6) (fun H locs G => ?_)
  refine lv_iconst (v := (1 : Int32)) hx hb dX3_readText_9 (by decide) ?_
  refine lv_istore_n (lv' := [(2, .int (1 : Int32)), (0, .ref (at_ 0)), (1, .ref (ad 0))]) hx hb dX3_readText_10 rfl hl (by decide) rfl (fun ls hl => ?_)
  exact b3_readText_11 C0  1000 G (lv_sub hl [1, 2, 0] rfl) hf
theorem o3_readText : okName yX3_readText 1 := ⟨by decide, by decide, by decide +kernel⟩
set_option maxHeartbeats 4000000 in
set_option maxRecDepth 100000 in
theorem c3_readText {ta adK adV : Nat → Nat} (hX : XT (XS ta adK adV)) {l : Launch} {D : va_G} {cI cB cG cS : ClassId} {at_ ad : Nat → Nat} {sz : Nat} {tb : Nat → Int32} {tl : Int32} {rtok : Int32} {rbg : Int32} {ren : Int32} {rvl : Int32} {hp : Nat → Int32} {st : Nat → Int32} {tr : Nat → Nat → Int32} {sp : Nat → Int32} {vis : Int32} {day : Int32} {z : Int32}  {r0 : Int32} {o_rtok : Int32} {o_rbg : Int32} {o_ren : Int32} {o_rvl : Int32} {o_hp : Nat → Int32} {o_st : Nat → Int32} {o_tr : Nat → Nat → Int32} {o_vis : Int32} (hf : f3_readText tb tl rtok rbg ren rvl hp st tr vis = some (r0, o_rtok, o_rbg, o_ren, o_rvl, o_hp, o_st, o_tr, o_vis)) : Met l yX3_readText (wU yX3_readText cX3_readText 3 (some .int)) ({ frames := 8, cells := 0, slots := 0, locals := 176 }) (va_Pc [.ref (at_ 0), .ref (ad 0)] (PreW (XS ta adK adV) D (tyC cI cB cG cS) (wT cI cB cG at_ ad tb tl rtok rbg ren rvl hp st tr sp vis day z) sz)) (QcI D (tyC cI cB cG cS) (wT cI cB cG at_ ad tb tl o_rtok o_rbg o_ren o_rvl o_hp o_st o_tr sp o_vis day z) (va_A (wT cI cB cG at_ ad tb tl rtok rbg ren rvl hp st tr sp vis day z) sz) r0) 0 0 (va_A (wT cI cB cG at_ ad tb tl rtok rbg ren rvl hp st tr sp vis day z) sz) := by
  refine startW hX (own := RX3) (by decide) rfl (Nat.le_of_ble_eq_true rfl) (fun p e s m args below meth c ls C0 G hl => ?_)
  exact b3_readText_0 C0 G hl hf
