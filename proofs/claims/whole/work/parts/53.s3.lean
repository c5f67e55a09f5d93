/-! 4_isOfKind -/
theorem dX4_isOfKind_0 : decode cX4_isOfKind 0 = .ok (.iload_n 0, 1) := by decide +kernel
theorem dX4_isOfKind_1 : decode cX4_isOfKind 1 = .ok (.istore_n 2, 1) := by decide +kernel
theorem dX4_isOfKind_2 : decode cX4_isOfKind 2 = .ok (.iconst 0, 1) := by decide +kernel
theorem dX4_isOfKind_3 : decode cX4_isOfKind 3 = .ok (.istore_n 3, 1) := by decide +kernel
theorem dX4_isOfKind_4 : decode cX4_isOfKind 4 = .ok (.iload_n 3, 1) := by decide +kernel
theorem dX4_isOfKind_5 : decode cX4_isOfKind 5 = .ok (.bipush 7, 2) := by decide +kernel
theorem dX4_isOfKind_7 : decode cX4_isOfKind 7 = .ok (.if_icmp .ge 26, 3) := by decide +kernel
theorem dX4_isOfKind_10 : decode cX4_isOfKind 10 = .ok (.iload_n 2, 1) := by decide +kernel
theorem dX4_isOfKind_11 : decode cX4_isOfKind 11 = .ok (.ifCond .lt 22, 3) := by decide +kernel
theorem dX4_isOfKind_14 : decode cX4_isOfKind 14 = .ok (.iload_n 2, 1) := by decide +kernel
theorem dX4_isOfKind_15 : decode cX4_isOfKind 15 = .ok (.iload_n 1, 1) := by decide +kernel
theorem dX4_isOfKind_16 : decode cX4_isOfKind 16 = .ok (.if_icmp .ne 5, 3) := by decide +kernel
theorem dX4_isOfKind_19 : decode cX4_isOfKind 19 = .ok (.iconst 1, 1) := by decide +kernel
theorem dX4_isOfKind_20 : decode cX4_isOfKind 20 = .ok (.ireturn, 1) := by decide +kernel
theorem dX4_isOfKind_21 : decode cX4_isOfKind 21 = .ok (.getstatic 240, 3) := by decide +kernel
theorem dX4_isOfKind_24 : decode cX4_isOfKind 24 = .ok (.iload_n 2, 1) := by decide +kernel
theorem dX4_isOfKind_25 : decode cX4_isOfKind 25 = .ok (.iaload, 1) := by decide +kernel
theorem dX4_isOfKind_26 : decode cX4_isOfKind 26 = .ok (.istore_n 2, 1) := by decide +kernel
theorem dX4_isOfKind_27 : decode cX4_isOfKind 27 = .ok (.iinc 3 1, 3) := by decide +kernel
theorem dX4_isOfKind_30 : decode cX4_isOfKind 30 = .ok (.goto (-26), 3) := by decide +kernel
theorem dX4_isOfKind_33 : decode cX4_isOfKind 33 = .ok (.iconst 0, 1) := by decide +kernel
theorem dX4_isOfKind_34 : decode cX4_isOfKind 34 = .ok (.ireturn, 1) := by decide +kernel
def l4_isOfKind_4  : Nat → Int32 → Int32 → Int32 → Option (Int32)
  | 0, _, _, _ => none
  | n + 1, v1, v2, v3 =>
    if (7 : Int32) ≤ v3 then (
      some (0 : Int32))
    else (
      if v2 < (0 : Int32) then (
        some (0 : Int32))
      else (
        if v2 = v1 then (
          some (1 : Int32))
        else (
          gd (inb v2 7) (
          (l4_isOfKind_4 n) v1 (kKA v2.toNatClampNeg) (v3 + (1 : Int32))))))
def f4_isOfKind  (v0 : Int32) (v1 : Int32) : Option (Int32) :=
  l4_isOfKind_4 1000 v1 v0 (0 : Int32)
set_option maxHeartbeats 4000000 in
set_option maxRecDepth 100000 in
theorem b4_isOfKind_4 {ta adK adV : Nat → Nat} {p : Program} {l : Launch} {e : Env} {s : State} {m : MethodId} {args : Array Value} {below : List Frame} {meth : Method} {c : Code} {D : va_G} {tys : List (ClassId × FieldType)} {w0 : va_W} {A : Nat → Prop}  {r0 : Int32} (C0 : CX (XS ta adK adV) p s m args meth c cX4_isOfKind 4 (some .boolean) RX4 A) : ∀ (n : Nat) {v1 : Int32} {v2 : Int32} {v3 : Int32} {H : Heap} {locs : List Loc} {ls : Array Slot}, GX (XS ta adK adV) D tys A s w0 H locs → lv_has ls 4 [(1, .int v1), (2, .int v2), (3, .int v3)] → l4_isOfKind_4  n v1 v2 v3 = some r0 → W p l e ({ frames := 0, cells := 0, slots := 0, locals := 0 }) s m args below meth c H locs 0 0 (MQ below (QcI D tys w0 A r0) args s 0 0 A) (F0 m 4 ls []) := by
  have hx := C0.1
  have hb := C0.2.1
  have hown := C0.2.2.2.2.1
  have hts := C0.2.2.2.2.2.1
  have hX := C0.2.2.2.2.2.2.2.2
  intro n
  induction n with
  | zero =>
    intro _ _ _ _ _ _ G hl hf
    cases hf
  | succ n ih =>
    intro v1 v2 v3 H locs ls G hl hf
    rw [l4_isOfKind_4] at hf
    refine lv_iload_n hx hb dX4_isOfKind_4 rfl (lv_at hl 2 rfl) ?_
    refine lv_bipush (v := (7 : Int32)) hx hb dX4_isOfKind_5 (by decide) ?_
    refine lv_icmp_ge (tgt := 33) hx hb dX4_isOfKind_7 (by decide) (fun hc1 => ?_) (fun hc1 => ?_)
    · have hf := itp hc1 hf
      refine lv_iconst (v := (0 : Int32)) hx hb dX4_isOfKind_33 (by decide) ?_
      obtain rfl := inj1 hf
      exact ret_z C0 G rfl dX4_isOfKind_34
    · have hf := itn hc1 hf
      refine lv_iload_n hx hb dX4_isOfKind_10 rfl (lv_at hl 1 rfl) ?_
      refine lv_if_lt (tgt := 33) hx hb dX4_isOfKind_11 (by decide) (fun hc2 => ?_) (fun hc2 => ?_)
      · have hf := itp hc2 hf
        refine lv_iconst (v := (0 : Int32)) hx hb dX4_isOfKind_33 (by decide) ?_
        obtain rfl := inj1 hf
        exact ret_z C0 G rfl dX4_isOfKind_34
      · have hf := itn hc2 hf
        refine lv_iload_n hx hb dX4_isOfKind_14 rfl (lv_at hl 1 rfl) ?_
        refine lv_iload_n hx hb dX4_isOfKind_15 rfl (lv_at hl 0 rfl) ?_
        refine lv_icmp_ne (tgt := 21) hx hb dX4_isOfKind_16 (by decide) (fun hc3 => ?_) (fun hc3 => ?_)
        · have hf := itn hc3 hf
          refine s_gets C0 G (xa_2 G.2.2.2.2) q643 dX4_isOfKind_21 ?_
          refine lv_iload_n hx hb dX4_isOfKind_24 rfl (lv_at hl 1 rfl) ?_
          obtain ⟨hi4, hf⟩ := gd_s hf
          refine s_ti (k := v2.toNatClampNeg) C0 G (xa_2 G.2.2.2.2) (vin hi4) rfl dX4_isOfKind_25 ?_
          refine lv_istore_n (lv' := [(2, .int (kKA v2.toNatClampNeg)), (1, .int v1), (3, .int v3)]) hx hb dX4_isOfKind_26 rfl hl (by decide) rfl (fun ls hl => ?_)
          refine lv_iinc (v := (v3 + (1 : Int32))) (lv' := [(3, .int (v3 + (1 : Int32))), (2, .int (kKA v2.toNatClampNeg)), (1, .int v1)]) hx hb dX4_isOfKind_27 hl (k := 2) rfl rfl (by decide) rfl (fun ls hl => ?_)
          refine lv_goto (tgt := 4) hx hb dX4_isOfKind_30 (by decide) ?_
          exact ih G (lv_sub hl [2, 1, 0] rfl) hf
        · have hf := itp hc3 hf
          refine lv_iconst (v := (1 : Int32)) hx hb dX4_isOfKind_19 (by decide) ?_
          obtain rfl := inj1 hf
          exact ret_z C0 G rfl dX4_isOfKind_20
set_option maxHeartbeats 4000000 in
set_option maxRecDepth 100000 in
theorem b4_isOfKind_0 {ta adK adV : Nat → Nat} {p : Program} {l : Launch} {e : Env} {s : State} {m : MethodId} {args : Array Value} {below : List Frame} {meth : Method} {c : Code} {D : va_G} {tys : List (ClassId × FieldType)} {w0 : va_W} {A : Nat → Prop}  {r0 : Int32} (C0 : CX (XS ta adK adV) p s m args meth c cX4_isOfKind 4 (some .boolean) RX4 A) : ∀ {v0 : Int32} {v1 : Int32} {H : Heap} {locs : List Loc} {ls : Array Slot}, GX (XS ta adK adV) D tys A s w0 H locs → lv_has ls 4 [(0, .int v0), (1, .int v1)] → f4_isOfKind v0 v1 = some r0 → W p l e ({ frames := 0, cells := 0, slots := 0, locals := 0 }) s m args below meth c H locs 0 0 (MQ below (QcI D tys w0 A r0) args s 0 0 A) (F0 m 0 ls []) := by
  have hx := C0.1
  have hb := C0.2.1
  have hown := C0.2.2.2.2.1
  have hts := C0.2.2.2.2.2.1
  have hX := C0.2.2.2.2.2.2.2.2
  intro v0 v1 H locs ls G hl hf
  unfold f4_isOfKind at hf
  refine lv_iload_n hx hb dX4_isOfKind_0 rfl (lv_at hl 0 rfl) ?_
  refine lv_istore_n (lv' := [(2, .int v0), (0, .int v0), (1, .int v1)]) hx hb dX4_isOfKind_1 rfl hl (by decide) rfl (fun ls hl => ?_)
  refine lv_iconst (v := (0 : Int32)) hx hb dX4_isOfKind_2 (by decide) ?_
  refine lv_istore_n (lv' := [(3, .int (0 : Int32)), (2, .int v0), (0, .int v0), (1, .int v1)]) hx hb dX4_isOfKind_3 rfl hl (by decide) rfl (fun ls hl => ?_)
  exact b4_isOfKind_4 C0  1000 G (lv_sub hl [3, 1, 0] rfl) hf
theorem o4_isOfKind : okName yX4_isOfKind 2 := ⟨by decide, by decide, by decide +kernel⟩
set_option maxHeartbeats 4000000 in
set_option maxRecDepth 100000 in
theorem c4_isOfKind {ta adK adV : Nat → Nat} (hX : XT (XS ta adK adV)) {l : Launch} {D : va_G} {tys : List (ClassId × FieldType)} {w0 : va_W} {sz : Nat}  {v0 : Int32} {v1 : Int32} {r0 : Int32} (hf : f4_isOfKind v0 v1 = some r0) : Met l yX4_isOfKind (wU yX4_isOfKind cX4_isOfKind 4 (some .boolean)) ({ frames := 0, cells := 0, slots := 0, locals := 0 }) (va_Pc [.int v0, .int v1] (PreW (XS ta adK adV) D tys w0 sz)) (QcI D tys w0 (va_A w0 sz) r0) 0 0 (va_A w0 sz) := by
  refine startW hX (own := RX4) (by decide) rfl (Nat.le_of_ble_eq_true rfl) (fun p e s m args below meth c ls C0 G hl => ?_)
  exact b4_isOfKind_0 C0 G hl hf
/-! 4_as -/
theorem dX4_as_0 : decode cX4_as 0 = .ok (.iload_n 1, 1) := by decide +kernel
theorem dX4_as_1 : decode cX4_as 1 = .ok (.iconst 0, 1) := by decide +kernel
theorem dX4_as_2 : decode cX4_as 2 = .ok (.bipush 9, 2) := by decide +kernel
theorem dX4_as_4 : decode cX4_as 4 = .ok (.invokestatic 45, 3) := by decide +kernel
theorem dX4_as_7 : decode cX4_as 7 = .ok (.ifCond .eq 13, 3) := by decide +kernel
theorem dX4_as_10 : decode cX4_as 10 = .ok (.iload_n 2, 1) := by decide +kernel
theorem dX4_as_11 : decode cX4_as 11 = .ok (.iconst 0, 1) := by decide +kernel
theorem dX4_as_12 : decode cX4_as 12 = .ok (.bipush 6, 2) := by decide +kernel
theorem dX4_as_14 : decode cX4_as 14 = .ok (.invokestatic 45, 3) := by decide +kernel
theorem dX4_as_17 : decode cX4_as 17 = .ok (.ifCond .ne 9, 3) := by decide +kernel
theorem dX4_as_20 : decode cX4_as 20 = .ok (.aload_n 0, 1) := by decide +kernel
theorem dX4_as_21 : decode cX4_as 21 = .ok (.iconst 0, 1) := by decide +kernel
theorem dX4_as_22 : decode cX4_as 22 = .ok (.invokevirtual 49, 3) := by decide +kernel
theorem dX4_as_25 : decode cX4_as 25 = .ok (.ireturn, 1) := by decide +kernel
theorem dX4_as_26 : decode cX4_as 26 = .ok (.aload_n 0, 1) := by decide +kernel
theorem dX4_as_27 : decode cX4_as 27 = .ok (.getfield 10, 3) := by decide +kernel
theorem dX4_as_30 : decode cX4_as 30 = .ok (.getfield 189, 3) := by decide +kernel
theorem dX4_as_33 : decode cX4_as 33 = .ok (.iload_n 1, 1) := by decide +kernel
theorem dX4_as_34 : decode cX4_as 34 = .ok (.iaload, 1) := by decide +kernel
theorem dX4_as_35 : decode cX4_as 35 = .ok (.istore_n 3, 1) := by decide +kernel
theorem dX4_as_36 : decode cX4_as 36 = .ok (.aload_n 0, 1) := by decide +kernel
theorem dX4_as_37 : decode cX4_as 37 = .ok (.iload_n 3, 1) := by decide +kernel
theorem dX4_as_38 : decode cX4_as 38 = .ok (.invokevirtual 73, 3) := by decide +kernel
theorem dX4_as_41 : decode cX4_as 41 = .ok (.ifCond .ne 9, 3) := by decide +kernel
theorem dX4_as_44 : decode cX4_as 44 = .ok (.aload_n 0, 1) := by decide +kernel
theorem dX4_as_45 : decode cX4_as 45 = .ok (.iconst 5, 1) := by decide +kernel
theorem dX4_as_46 : decode cX4_as 46 = .ok (.invokevirtual 49, 3) := by decide +kernel
theorem dX4_as_49 : decode cX4_as 49 = .ok (.ireturn, 1) := by decide +kernel
theorem dX4_as_50 : decode cX4_as 50 = .ok (.aload_n 0, 1) := by decide +kernel
theorem dX4_as_51 : decode cX4_as 51 = .ok (.getfield 10, 3) := by decide +kernel
theorem dX4_as_54 : decode cX4_as 54 = .ok (.getfield 89, 3) := by decide +kernel
theorem dX4_as_57 : decode cX4_as 57 = .ok (.iconst 0, 1) := by decide +kernel
theorem dX4_as_58 : decode cX4_as 58 = .ok (.aaload, 1) := by decide +kernel
theorem dX4_as_59 : decode cX4_as 59 = .ok (.iload_n 3, 1) := by decide +kernel
theorem dX4_as_60 : decode cX4_as 60 = .ok (.iaload, 1) := by decide +kernel
theorem dX4_as_61 : decode cX4_as 61 = .ok (.iload_n 2, 1) := by decide +kernel
theorem dX4_as_62 : decode cX4_as 62 = .ok (.invokestatic 192, 3) := by decide +kernel
theorem dX4_as_65 : decode cX4_as 65 = .ok (.ifCond .eq 7, 3) := by decide +kernel
theorem dX4_as_68 : decode cX4_as 68 = .ok (.iload_n 3, 1) := by decide +kernel
theorem dX4_as_69 : decode cX4_as 69 = .ok (.goto 8, 3) := by decide +kernel
theorem dX4_as_72 : decode cX4_as 72 = .ok (.aload_n 0, 1) := by decide +kernel
theorem dX4_as_73 : decode cX4_as 73 = .ok (.iconst 2, 1) := by decide +kernel
theorem dX4_as_74 : decode cX4_as 74 = .ok (.invokevirtual 49, 3) := by decide +kernel
theorem dX4_as_77 : decode cX4_as 77 = .ok (.ireturn, 1) := by decide +kernel
def j4_as_20  (tr1 : Nat → Nat → Int32) (sp1 : Nat → Int32) (vis1 : Int32) (fd : Nat → Int32)  : Option (Int32 × (Nat → Int32)) :=
  ob2 (f4_found fd (0 : Int32)) (fun r15 fd_16 =>
  some (r15, fd_16))
def f4_as (tr1 : Nat → Nat → Int32) (sp1 : Nat → Int32) (vis1 : Int32) (fd : Nat → Int32) (v1 : Int32) (v2 : Int32) : Option (Int32 × (Nat → Int32)) :=
  if (f4_within v1 (0 : Int32) (9 : Int32)) = (0 : Int32) then (
    j4_as_20 tr1 sp1 vis1 fd)
  else (
    if (f4_within v2 (0 : Int32) (6 : Int32)) = (0 : Int32) then (
      j4_as_20 tr1 sp1 vis1 fd)
    else (
      gd (inb v1 10) (
      if (f4_isVisitor vis1 (sp1 v1.toNatClampNeg)) = (0 : Int32) then (
        ob2 (f4_found fd (5 : Int32)) (fun r12 fd_13 =>
        some (r12, fd_13)))
      else (
        gd (inb (sp1 v1.toNatClampNeg) 8) (
        ob1 (f4_isOfKind ((tr1 0) ((sp1 v1.toNatClampNeg).toNatClampNeg)) v2) (fun r6 =>
        if r6 = (0 : Int32) then (
          ob2 (f4_found fd (2 : Int32)) (fun r9 fd_10 =>
          some (r9, fd_10)))
        else (
          some ((sp1 v1.toNatClampNeg), fd))))))))
set_option maxHeartbeats 4000000 in
set_option maxRecDepth 100000 in
theorem b4_as_20 {ta adK adV : Nat → Nat} {p : Program} {l : Launch} {e : Env} {s : State} {m : MethodId} {args : Array Value} {below : List Frame} {meth : Method} {c : Code} {D : va_G} {cI cB cG cS : ClassId} {ad : Nat → Nat} {A : Nat → Prop} {hp1 : Nat → Int32} {st1 : Nat → Int32} {tr1 : Nat → Nat → Int32} {sp1 : Nat → Int32} {vis1 : Int32} {day1 : Int32} {z1 : Int32} {hp2 : Nat → Int32} {st2 : Nat → Int32} {tr2 : Nat → Nat → Int32} {sp2 : Nat → Int32} {vis2 : Int32} {day2 : Int32} {z2 : Int32} {hp3 : Nat → Int32} {st3 : Nat → Int32} {tr3 : Nat → Nat → Int32} {sp3 : Nat → Int32} {vis3 : Int32} {day3 : Int32} {z3 : Int32} {tb : Nat → Int32} {tl : Int32} {rtok : Int32} {rbg : Int32} {ren : Int32} {rvl : Int32} {shn : Nat → Nat → Int32} {shb : Nat → Int32} {shz : Nat → Int32} {isK : Int32} {r0 : Int32} {o_fd : Nat → Int32} (C0 : CX (XS ta adK adV) p s m args meth c cX4_as 4 (some .int) RX4 A) : ∀ {fd : Nat → Int32} {H : Heap} {locs : List Loc} {ls : Array Slot}, GX (XS ta adK adV) D (tyC cI cB cG cS) A s (wS cI cB cG cS ad hp1 st1 tr1 sp1 vis1 day1 z1 hp2 st2 tr2 sp2 vis2 day2 z2 hp3 st3 tr3 sp3 vis3 day3 z3 tb tl rtok rbg ren rvl shn shb shz fd isK) H locs → lv_has ls 4 [(0, .ref (ad 0))] → j4_as_20  tr1 sp1 vis1 fd = some (r0, o_fd) → W p l e ({ frames := 2, cells := 0, slots := 0, locals := 43 }) s m args below meth c H locs 0 0 (MQ below (QcI D (tyC cI cB cG cS) (wS cI cB cG cS ad hp1 st1 tr1 sp1 vis1 day1 z1 hp2 st2 tr2 sp2 vis2 day2 z2 hp3 st3 tr3 sp3 vis3 day3 z3 tb tl rtok rbg ren rvl shn shb shz o_fd isK) A r0) args s 0 0 A) (F0 m 20 ls []) := by
  have hx := C0.1
  have hb := C0.2.1
  have hown := C0.2.2.2.2.1
  have hts := C0.2.2.2.2.2.1
  have hX := C0.2.2.2.2.2.2.2.2
  intro fd H locs ls G hl hf
  unfold j4_as_20 at hf
  refine lv_aload_n hx hb dX4_as_20 rfl (lv_at hl 0 rfl) ?_
  refine lv_iconst (v := (0 : Int32)) hx hb dX4_as_21 (by decide) ?_
  obtain ⟨r15, fd_16, hc17, hf⟩ := ob2_s hf
  refine go_i C0 G (runV_of (n := 1) (q0 := 0) (As := [.int (0 : Int32)]) (rest := []) C0 G (c4_found hX hc17) q208 q49 q205 q207 q0 o4_found ⟨rfl, rfl⟩ ⟨Nat.le_of_ble_eq_true rfl, Nat.le_of_ble_eq_true rfl⟩ rfl rfl rfl hl.1 rfl (Nat.le_of_ble_eq_true rfl) dX4_as_22) (fun H locs G => ?_)
  obtain ⟨rfl, rfl⟩ := inj2 hf
  exact ret_i C0 G dX4_as_25
set_option maxHeartbeats 4000000 in
set_option maxRecDepth 100000 in
theorem b4_as_0 {ta adK adV : Nat → Nat} {p : Program} {l : Launch} {e : Env} {s : State} {m : MethodId} {args : Array Value} {below : List Frame} {meth : Method} {c : Code} {D : va_G} {cI cB cG cS : ClassId} {ad : Nat → Nat} {A : Nat → Prop} {hp1 : Nat → Int32} {st1 : Nat → Int32} {tr1 : Nat → Nat → Int32} {sp1 : Nat → Int32} {vis1 : Int32} {day1 : Int32} {z1 : Int32} {hp2 : Nat → Int32} {st2 : Nat → Int32} {tr2 : Nat → Nat → Int32} {sp2 : Nat → Int32} {vis2 : Int32} {day2 : Int32} {z2 : Int32} {hp3 : Nat → Int32} {st3 : Nat → Int32} {tr3 : Nat → Nat → Int32} {sp3 : Nat → Int32} {vis3 : Int32} {day3 : Int32} {z3 : Int32} {tb : Nat → Int32} {tl : Int32} {rtok : Int32} {rbg : Int32} {ren : Int32} {rvl : Int32} {shn : Nat → Nat → Int32} {shb : Nat → Int32} {shz : Nat → Int32} {isK : Int32} {r0 : Int32} {o_fd : Nat → Int32} (C0 : CX (XS ta adK adV) p s m args meth c cX4_as 4 (some .int) RX4 A) : ∀ {fd : Nat → Int32} {v1 : Int32} {v2 : Int32} {H : Heap} {locs : List Loc} {ls : Array Slot}, GX (XS ta adK adV) D (tyC cI cB cG cS) A s (wS cI cB cG cS ad hp1 st1 tr1 sp1 vis1 day1 z1 hp2 st2 tr2 sp2 vis2 day2 z2 hp3 st3 tr3 sp3 vis3 day3 z3 tb tl rtok rbg ren rvl shn shb shz fd isK) H locs → lv_has ls 4 [(0, .ref (ad 0)), (1, .int v1), (2, .int v2)] → f4_as tr1 sp1 vis1 fd v1 v2 = some (r0, o_fd) → W p l e ({ frames := 2, cells := 0, slots := 0, locals := 43 }) s m args below meth c H locs 0 0 (MQ below (QcI D (tyC cI cB cG cS) (wS cI cB cG cS ad hp1 st1 tr1 sp1 vis1 day1 z1 hp2 st2 tr2 sp2 vis2 day2 z2 hp3 st3 tr3 sp3 vis3 day3 z3 tb tl rtok rbg ren rvl shn shb shz o_fd isK) A r0) args s 0 0 A) (F0 m 0 ls []) := by
  have hx := C0.1
  have hb := C0.2.1
  have hown := C0.2.2.2.2.1
  have hts := C0.2.2.2.2.2.1
  have hX := C0.2.2.2.2.2.2.2.2
  intro fd v1 v2 H locs ls G hl hf
  unfold f4_as at hf
  refine lv_iload_n hx hb dX4_as_0 rfl (lv_at hl 1 rfl) ?_
  refine lv_iconst (v := (0 : Int32)) hx hb dX4_as_1 (by decide) ?_
  refine lv_bipush (v := (9 : Int32)) hx hb dX4_as_2 (by decide) ?_
  refine go_i C0 G (runS_of (n := 3) (As := [.int v1, .int (0 : Int32), .int (9 : Int32)]) (rest := []) C0 G (c4_within hX rfl) q204 q49 q202 q203 o4_within ⟨rfl, rfl⟩ ⟨Nat.le_of_ble_eq_true rfl, Nat.le_of_ble_eq_true rfl⟩ rfl hl.1 rfl (Nat.le_of_ble_eq_true rfl) dX4_as_4) (fun H locs G => ?_)
  refine lv_if_eq (tgt := 20) hx hb dX4_as_7 (by decide) (fun hc1 => ?_) (fun hc1 => ?_)
  · have hf := itp hc1 hf
    exact b4_as_20 C0  G (lv_sub hl [0] rfl) hf
  · have hf := itn hc1 hf
    refine lv_iload_n hx hb dX4_as_10 rfl (lv_at hl 2 rfl) ?_
    refine lv_iconst (v := (0 : Int32)) hx hb dX4_as_11 (by decide) ?_
    refine lv_bipush (v := (6 : Int32)) hx hb dX4_as_12 (by decide) ?_
    refine go_i C0 G (runS_of (n := 3) (As := [.int v2, .int (0 : Int32), .int (6 : Int32)]) (rest := []) C0 G (c4_within hX rfl) q204 q49 q202 q203 o4_within ⟨rfl, rfl⟩ ⟨Nat.le_of_ble_eq_true rfl, Nat.le_of_ble_eq_true rfl⟩ rfl hl.1 rfl (Nat.le_of_ble_eq_true rfl) dX4_as_14) (fun H locs G => ?_)
    refine lv_if_ne (tgt := 26) hx hb dX4_as_17 (by decide) (fun hc2 => ?_) (fun hc2 => ?_)
    · have hf := itn hc2 hf
      refine lv_aload_n hx hb dX4_as_26 rfl (lv_at hl 0 rfl) ?_
      refine s_get (C := RX4) (T := TX4) C0 G i_X4 0 0 rfl rfl (by decide) q173 rfl dX4_as_27 ?_
      refine s_get (C := RX0) (T := TX0) C0 G i_X0 1 3 rfl rfl (by decide) q90 rfl dX4_as_30 ?_
      refine lv_iload_n hx hb dX4_as_33 rfl (lv_at hl 1 rfl) ?_
      obtain ⟨hi3, hf⟩ := gd_s hf
      refine s_iald (k := v1.toNatClampNeg) C0 G 12 0 rfl rfl (vin hi3) rfl dX4_as_34 ?_
      refine lv_istore_n (lv' := [(3, .int (sp1 v1.toNatClampNeg)), (0, .ref (ad 0)), (1, .int v1), (2, .int v2)]) hx hb dX4_as_35 rfl hl (by decide) rfl (fun ls hl => ?_)
      refine lv_aload_n hx hb dX4_as_36 rfl (lv_at hl 1 rfl) ?_
      refine lv_iload_n hx hb dX4_as_37 rfl (lv_at hl 0 rfl) ?_
      refine go_i C0 G (runV_of (n := 1) (q0 := 0) (As := [.int (sp1 v1.toNatClampNeg)]) (rest := []) C0 G (c4_isVisitor hX rfl) q261 q49 q258 q260 q1 o4_isVisitor ⟨rfl, rfl⟩ ⟨Nat.le_of_ble_eq_true rfl, Nat.le_of_ble_eq_true rfl⟩ rfl rfl rfl hl.1 rfl (Nat.le_of_ble_eq_true rfl) dX4_as_38) (fun H locs G => ?_)
      refine lv_if_ne (tgt := 50) hx hb dX4_as_41 (by decide) (fun hc4 => ?_) (fun hc4 => ?_)
      · have hf := itn hc4 hf
        refine lv_aload_n hx hb dX4_as_50 rfl (lv_at hl 1 rfl) ?_
        refine s_get (C := RX4) (T := TX4) C0 G i_X4 0 0 rfl rfl (by decide) q173 rfl dX4_as_51 ?_
        refine s_get (C := RX0) (T := TX0) C0 G i_X0 1 2 rfl rfl (by decide) q88 rfl dX4_as_54 ?_
        refine lv_iconst (v := (0 : Int32)) hx hb dX4_as_57 (by decide) ?_
        refine s_aldg (k := 0) (b := ad 5) C0 G 4 2 rfl rfl (vin (by decide)) (by decide) rfl dX4_as_58 ?_
        refine lv_iload_n hx hb dX4_as_59 rfl (lv_at hl 0 rfl) ?_
        obtain ⟨hi5, hf⟩ := gd_s hf
        refine s_iald (k := (sp1 v1.toNatClampNeg).toNatClampNeg) C0 G 5 0 rfl rfl (vin hi5) rfl dX4_as_60 ?_
        refine lv_iload_n hx hb dX4_as_61 rfl (lv_at hl 3 rfl) ?_
        obtain ⟨r6, hc7, hf⟩ := ob1_s hf
        refine go_i C0 G (runS_of (n := 2) (As := [.int ((tr1 0) ((sp1 v1.toNatClampNeg).toNatClampNeg)), .int v2]) (rest := []) C0 G (c4_isOfKind hX hc7) q642 q49 q640 q641 o4_isOfKind ⟨rfl, rfl⟩ ⟨Nat.le_of_ble_eq_true rfl, Nat.le_of_ble_eq_true rfl⟩ rfl hl.1 rfl (Nat.le_of_ble_eq_true rfl) dX4_as_62) (fun H locs G => ?_)
        refine lv_if_eq (tgt := 72) hx hb dX4_as_65 (by decide) (fun hc8 => ?_) (fun hc8 => ?_)
        · have hf := itp hc8 hf
          refine lv_aload_n hx hb dX4_as_72 rfl (lv_at hl 1 rfl) ?_
          refine lv_iconst (v := (2 : Int32)) hx hb dX4_as_73 (by decide) ?_
          obtain ⟨r9, fd_10, hc11, hf⟩ := ob2_s hf
          refine go_i C0 G (runV_of (n := 1) (q0 := 0) (As := [.int (2 : Int32)]) (rest := []) C0 G (c4_found hX hc11) q208 q49 q205 q207 q0 o4_found ⟨rfl, rfl⟩ ⟨Nat.le_of_ble_eq_true rfl, Nat.le_of_ble_eq_true rfl⟩ rfl rfl rfl hl.1 rfl (Nat.le_of_ble_eq_true rfl) dX4_as_74) (fun H locs G => ?_)
          obtain ⟨rfl, rfl⟩ := inj2 hf
          exact ret_i C0 G dX4_as_77
        · have hf := itn hc8 hf
          refine lv_iload_n hx hb dX4_as_68 rfl (lv_at hl 0 rfl) ?_
          refine lv_goto (tgt := 77) hx hb dX4_as_69 (by decide) ?_
          obtain ⟨rfl, rfl⟩ := inj2 hf
          exact ret_i C0 G dX4_as_77
      · have hf := itp hc4 hf
        refine lv_aload_n hx hb dX4_as_44 rfl (lv_at hl 1 rfl) ?_
        refine lv_iconst (v := (5 : Int32)) hx hb dX4_as_45 (by decide) ?_
        obtain ⟨r12, fd_13, hc14, hf⟩ := ob2_s hf
        refine go_i C0 G (runV_of (n := 1) (q0 := 0) (As := [.int (5 : Int32)]) (rest := []) C0 G (c4_found hX hc14) q208 q49 q205 q207 q0 o4_found ⟨rfl, rfl⟩ ⟨Nat.le_of_ble_eq_true rfl, Nat.le_of_ble_eq_true rfl⟩ rfl rfl rfl hl.1 rfl (Nat.le_of_ble_eq_true rfl) dX4_as_46) (fun H locs G => ?_)
        obtain ⟨rfl, rfl⟩ := inj2 hf
        exact ret_i C0 G dX4_as_49
    · have hf := itp hc2 hf
      exact b4_as_20 C0  G (lv_sub hl [0] rfl) hf
theorem o4_as : okName yX4_as 2 := ⟨by decide, by decide, by decide +kernel⟩
set_option maxHeartbeats 4000000 in
set_option maxRecDepth 100000 in
theorem c4_as {ta adK adV : Nat → Nat} (hX : XT (XS ta adK adV)) {l : Launch} {D : va_G} {cI cB cG cS : ClassId} {ad : Nat → Nat} {sz : Nat} {hp1 : Nat → Int32} {st1 : Nat → Int32} {tr1 : Nat → Nat → Int32} {sp1 : Nat → Int32} {vis1 : Int32} {day1 : Int32} {z1 : Int32} {hp2 : Nat → Int32} {st2 : Nat → Int32} {tr2 : Nat → Nat → Int32} {sp2 : Nat → Int32} {vis2 : Int32} {day2 : Int32} {z2 : Int32} {hp3 : Nat → Int32} {st3 : Nat → Int32} {tr3 : Nat → Nat → Int32} {sp3 : Nat → Int32} {vis3 : Int32} {day3 : Int32} {z3 : Int32} {tb : Nat → Int32} {tl : Int32} {rtok : Int32} {rbg : Int32} {ren : Int32} {rvl : Int32} {shn : Nat → Nat → Int32} {shb : Nat → Int32} {shz : Nat → Int32} {fd : Nat → Int32} {isK : Int32} {v1 : Int32} {v2 : Int32} {r0 : Int32} {o_fd : Nat → Int32} (hf : f4_as tr1 sp1 vis1 fd v1 v2 = some (r0, o_fd)) : Met l yX4_as (wU yX4_as cX4_as 4 (some .int)) ({ frames := 2, cells := 0, slots := 0, locals := 43 }) (va_Pc [.ref (ad 0), .int v1, .int v2] (PreW (XS ta adK adV) D (tyC cI cB cG cS) (wS cI cB cG cS ad hp1 st1 tr1 sp1 vis1 day1 z1 hp2 st2 tr2 sp2 vis2 day2 z2 hp3 st3 tr3 sp3 vis3 day3 z3 tb tl rtok rbg ren rvl shn shb shz fd isK) sz)) (QcI D (tyC cI cB cG cS) (wS cI cB cG cS ad hp1 st1 tr1 sp1 vis1 day1 z1 hp2 st2 tr2 sp2 vis2 day2 z2 hp3 st3 tr3 sp3 vis3 day3 z3 tb tl rtok rbg ren rvl shn shb shz o_fd isK) (va_A (wS cI cB cG cS ad hp1 st1 tr1 sp1 vis1 day1 z1 hp2 st2 tr2 sp2 vis2 day2 z2 hp3 st3 tr3 sp3 vis3 day3 z3 tb tl rtok rbg ren rvl shn shb shz fd isK) sz) r0) 0 0 (va_A (wS cI cB cG cS ad hp1 st1 tr1 sp1 vis1 day1 z1 hp2 st2 tr2 sp2 vis2 day2 z2 hp3 st3 tr3 sp3 vis3 day3 z3 tb tl rtok rbg ren rvl shn shb shz fd isK) sz) := by
  refine startW hX (own := RX4) (by decide) rfl (Nat.le_of_ble_eq_true rfl) (fun p e s m args below meth c ls C0 G hl => ?_)
  exact b4_as_0 C0 G hl hf
/-! 1_layOut -/
theorem dX1_layOut_0 : decode cX1_layOut 0 = .ok (.aload_n 0, 1) := by decide +kernel
theorem dX1_layOut_1 : decode cX1_layOut 1 = .ok (.iload_n 1, 1) := by decide +kernel
theorem dX1_layOut_2 : decode cX1_layOut 2 = .ok (.putfield 15, 3) := by decide +kernel
theorem dX1_layOut_5 : decode cX1_layOut 5 = .ok (.aload_n 0, 1) := by decide +kernel
theorem dX1_layOut_6 : decode cX1_layOut 6 = .ok (.iload_n 1, 1) := by decide +kernel
theorem dX1_layOut_7 : decode cX1_layOut 7 = .ok (.ifCond .ne 7, 3) := by decide +kernel
theorem dX1_layOut_10 : decode cX1_layOut 10 = .ok (.iconst 0, 1) := by decide +kernel
theorem dX1_layOut_11 : decode cX1_layOut 11 = .ok (.goto 4, 3) := by decide +kernel
theorem dX1_layOut_14 : decode cX1_layOut 14 = .ok (.iload_n 2, 1) := by decide +kernel
theorem dX1_layOut_15 : decode cX1_layOut 15 = .ok (.putfield 19, 3) := by decide +kernel
theorem dX1_layOut_18 : decode cX1_layOut 18 = .ok (.iconst 0, 1) := by decide +kernel
theorem dX1_layOut_19 : decode cX1_layOut 19 = .ok (.istore_n 3, 1) := by decide +kernel
theorem dX1_layOut_20 : decode cX1_layOut 20 = .ok (.iload_n 3, 1) := by decide +kernel
theorem dX1_layOut_21 : decode cX1_layOut 21 = .ok (.bipush 40, 2) := by decide +kernel
theorem dX1_layOut_23 : decode cX1_layOut 23 = .ok (.if_icmp .ge 16, 3) := by decide +kernel
theorem dX1_layOut_26 : decode cX1_layOut 26 = .ok (.aload_n 0, 1) := by decide +kernel
theorem dX1_layOut_27 : decode cX1_layOut 27 = .ok (.getfield 9, 3) := by decide +kernel
theorem dX1_layOut_30 : decode cX1_layOut 30 = .ok (.iload_n 3, 1) := by decide +kernel
theorem dX1_layOut_31 : decode cX1_layOut 31 = .ok (.iconst 0, 1) := by decide +kernel
theorem dX1_layOut_32 : decode cX1_layOut 32 = .ok (.iastore, 1) := by decide +kernel
theorem dX1_layOut_33 : decode cX1_layOut 33 = .ok (.iinc 3 1, 3) := by decide +kernel
theorem dX1_layOut_36 : decode cX1_layOut 36 = .ok (.goto (-16), 3) := by decide +kernel
theorem dX1_layOut_39 : decode cX1_layOut 39 = .ok (.return_, 1) := by decide +kernel
def l1_layOut_20  : Nat → Nat → (Nat → Nat → Int32) → (Nat → Int32) → (Nat → Int32) → Int32 → Option ((Nat → Nat → Int32) × (Nat → Int32) × (Nat → Int32))
  | 0, _, _, _, _, _ => none
  | n + 1, t, shn, shb, shz, v3 =>
    if (40 : Int32) ≤ v3 then (
      some (shn, shb, shz))
    else (
      gd (inb v3 40) (
      (l1_layOut_20 n) t (upd2 shn t v3.toNatClampNeg (0 : Int32)) shb shz (v3 + (1 : Int32))))
def j1_layOut_15  (t : Nat) (shn : Nat → Nat → Int32) (shb : Nat → Int32) (shz : Nat → Int32) (t1 : Int32) : Option ((Nat → Nat → Int32) × (Nat → Int32) × (Nat → Int32)) :=
  l1_layOut_20 1000 t shn shb (upd shz t t1) (0 : Int32)
def f1_layOut (t : Nat) (shn : Nat → Nat → Int32) (shb : Nat → Int32) (shz : Nat → Int32) (v1 : Int32) (v2 : Int32) : Option ((Nat → Nat → Int32) × (Nat → Int32) × (Nat → Int32)) :=
  if v1 = (0 : Int32) then (
    j1_layOut_15 t shn (upd shb t v1) shz (0 : Int32))
  else (
    j1_layOut_15 t shn (upd shb t v1) shz v2)
set_option maxHeartbeats 4000000 in
set_option maxRecDepth 100000 in
theorem b1_layOut_20 {ta adK adV : Nat → Nat} {p : Program} {l : Launch} {e : Env} {s : State} {m : MethodId} {args : Array Value} {below : List Frame} {meth : Method} {c : Code} {D : va_G} {cI cB cG cS : ClassId} {ad : Nat → Nat} {A : Nat → Prop} {t : Nat} {o_shn : Nat → Nat → Int32} {o_shb : Nat → Int32} {o_shz : Nat → Int32} (C0 : CX (XS ta adK adV) p s m args meth c cX1_layOut 4 none RX1 A) (ht : t < 4) : ∀ (n : Nat) {shn : Nat → Nat → Int32} {shb : Nat → Int32} {shz : Nat → Int32} {v3 : Int32} {H : Heap} {locs : List Loc} {ls : Array Slot}, GX (XS ta adK adV) D (tyC cI cB cG cS) A s (wH cI ad shn shb shz) H locs → lv_has ls 4 [(0, .ref (ad (2 * t))), (3, .int v3)] → l1_layOut_20  n t shn shb shz v3 = some (o_shn, o_shb, o_shz) → W p l e ({ frames := 0, cells := 0, slots := 0, locals := 0 }) s m args below meth c H locs 0 0 (MQ below (QcV D (tyC cI cB cG cS) (wH cI ad o_shn o_shb o_shz) A) args s 0 0 A) (F0 m 20 ls []) := by
  have hx := C0.1
  have hb := C0.2.1
  have hown := C0.2.2.2.2.1
  have hts := C0.2.2.2.2.2.1
  have hX := C0.2.2.2.2.2.2.2.2
  intro n
  induction n with
  | zero =>
    intro _ _ _ _ _ _ _ G hl hf
    cases hf
  | succ n ih =>
    intro shn shb shz v3 H locs ls G hl hf
    rw [l1_layOut_20] at hf
    refine lv_iload_n hx hb dX1_layOut_20 rfl (lv_at hl 1 rfl) ?_
    refine lv_bipush (v := (40 : Int32)) hx hb dX1_layOut_21 (by decide) ?_
    refine lv_icmp_ge (tgt := 39) hx hb dX1_layOut_23 (by decide) (fun hc2 => ?_) (fun hc2 => ?_)
    · have hf := itp hc2 hf
      obtain ⟨rfl, rfl, rfl⟩ := inj3 hf
      exact ret_v C0 G dX1_layOut_39
    · have hf := itn hc2 hf
      refine lv_aload_n hx hb dX1_layOut_26 rfl (lv_at hl 0 rfl) ?_
      refine s_get (C := RX1) (T := TX1) C0 G i_X1 (2 * t) 0 (wH_sh ht) rfl (by decide) q160 rfl dX1_layOut_27 ?_
      refine lv_iload_n hx hb dX1_layOut_30 rfl (lv_at hl 1 rfl) ?_
      refine lv_iconst (v := (0 : Int32)) hx hb dX1_layOut_31 (by decide) ?_
      obtain ⟨hi3, hf⟩ := gd_s hf
      refine s_iast (k := v3.toNatClampNeg) (w' := (wH cI ad (upd2 shn t v3.toNatClampNeg (0 : Int32)) shb shz)) C0 G (2 * t + 1) 0 (wH_shn ht) rfl (vin hi3) rfl (wH_setn ht) dX1_layOut_32 (fun H locs G => ?_)
      refine lv_iinc (v := (v3 + (1 : Int32))) (lv' := [(3, .int (v3 + (1 : Int32))), (0, .ref (ad (2 * t)))]) hx hb dX1_layOut_33 hl (k := 1) rfl rfl (by decide) rfl (fun ls hl => ?_)
      refine lv_goto (tgt := 20) hx hb dX1_layOut_36 (by decide) ?_
      exact ih G (lv_sub hl [1, 0] rfl) hf
set_option maxHeartbeats 4000000 in
set_option maxRecDepth 100000 in
theorem b1_layOut_15 {ta adK adV : Nat → Nat} {p : Program} {l : Launch} {e : Env} {s : State} {m : MethodId} {args : Array Value} {below : List Frame} {meth : Method} {c : Code} {D : va_G} {cI cB cG cS : ClassId} {ad : Nat → Nat} {A : Nat → Prop} {t : Nat} {o_shn : Nat → Nat → Int32} {o_shb : Nat → Int32} {o_shz : Nat → Int32} (C0 : CX (XS ta adK adV) p s m args meth c cX1_layOut 4 none RX1 A) (ht : t < 4) : ∀ {shn : Nat → Nat → Int32} {shb : Nat → Int32} {shz : Nat → Int32} {t1 : Int32} {H : Heap} {locs : List Loc} {ls : Array Slot}, GX (XS ta adK adV) D (tyC cI cB cG cS) A s (wH cI ad shn shb shz) H locs → lv_has ls 4 [(0, .ref (ad (2 * t)))] → j1_layOut_15  t shn shb shz t1 = some (o_shn, o_shb, o_shz) → W p l e ({ frames := 0, cells := 0, slots := 0, locals := 0 }) s m args below meth c H locs 0 0 (MQ below (QcV D (tyC cI cB cG cS) (wH cI ad o_shn o_shb o_shz) A) args s 0 0 A) (F0 m 15 ls [.int t1, .ref (ad (2 * t))]) := by
  have hx := C0.1
  have hb := C0.2.1
  have hown := C0.2.2.2.2.1
  have hts := C0.2.2.2.2.2.1
  have hX := C0.2.2.2.2.2.2.2.2
  intro shn shb shz t1 H locs ls G hl hf
  unfold j1_layOut_15 at hf
  refine s_put (C := RX1) (T := TX1) (w' := (wH cI ad shn shb (upd shz t t1))) C0 G i_X1 tyX1 tyX1_ok nmX1 (2 * t) 2 (wH_sh ht) rfl (by decide) q164 rfl (ty := .int) (by decide +kernel) rfl rfl (Nat.le_of_ble_eq_true rfl) (wH_setz ht) dX1_layOut_15 (fun H locs G => ?_)
  refine lv_iconst (v := (0 : Int32)) hx hb dX1_layOut_18 (by decide) ?_
  refine lv_istore_n (lv' := [(3, .int (0 : Int32)), (0, .ref (ad (2 * t)))]) hx hb dX1_layOut_19 rfl hl (by decide) rfl (fun ls hl => ?_)
  exact b1_layOut_20 C0 ht  1000 G (lv_sub hl [1, 0] rfl) hf
set_option maxHeartbeats 4000000 in
set_option maxRecDepth 100000 in
theorem b1_layOut_0 {ta adK adV : Nat → Nat} {p : Program} {l : Launch} {e : Env} {s : State} {m : MethodId} {args : Array Value} {below : List Frame} {meth : Method} {c : Code} {D : va_G} {cI cB cG cS : ClassId} {ad : Nat → Nat} {A : Nat → Prop} {t : Nat} {o_shn : Nat → Nat → Int32} {o_shb : Nat → Int32} {o_shz : Nat → Int32} (C0 : CX (XS ta adK adV) p s m args meth c cX1_layOut 4 none RX1 A) (ht : t < 4) : ∀ {shn : Nat → Nat → Int32} {shb : Nat → Int32} {shz : Nat → Int32} {v1 : Int32} {v2 : Int32} {H : Heap} {locs : List Loc} {ls : Array Slot}, GX (XS ta adK adV) D (tyC cI cB cG cS) A s (wH cI ad shn shb shz) H locs → lv_has ls 4 [(0, .ref (ad (2 * t))), (1, .int v1), (2, .int v2)] → f1_layOut t shn shb shz v1 v2 = some (o_shn, o_shb, o_shz) → W p l e ({ frames := 0, cells := 0, slots := 0, locals := 0 }) s m args below meth c H locs 0 0 (MQ below (QcV D (tyC cI cB cG cS) (wH cI ad o_shn o_shb o_shz) A) args s 0 0 A) (F0 m 0 ls []) := by
  have hx := C0.1
  have hb := C0.2.1
  have hown := C0.2.2.2.2.1
  have hts := C0.2.2.2.2.2.1
  have hX := C0.2.2.2.2.2.2.2.2
  intro shn shb shz v1 v2 H locs ls G hl hf
  unfold f1_layOut at hf
  refine lv_aload_n hx hb dX1_layOut_0 rfl (lv_at hl 0 rfl) ?_
  refine lv_iload_n hx hb dX1_layOut_1 rfl (lv_at hl 1 rfl) ?_
  refine s_put (C := RX1) (T := TX1) (w' := (wH cI ad shn (upd shb t v1) shz)) C0 G i_X1 tyX1 tyX1_ok nmX1 (2 * t) 1 (wH_sh ht) rfl (by decide) q162 rfl (ty := .int) (by decide +kernel) rfl rfl (Nat.le_of_ble_eq_true rfl) (wH_setb ht) dX1_layOut_2 (fun H locs G => ?_)
  refine lv_aload_n hx hb dX1_layOut_5 rfl (lv_at hl 0 rfl) ?_
  refine lv_iload_n hx hb dX1_layOut_6 rfl (lv_at hl 1 rfl) ?_
  refine lv_if_ne (tgt := 14) hx hb dX1_layOut_7 (by decide) (fun hc1 => ?_) (fun hc1 => ?_)
  · have hf := itn hc1 hf
    refine lv_iload_n hx hb dX1_layOut_14 rfl (lv_at hl 2 rfl) ?_
    exact b1_layOut_15 C0 ht  G (lv_sub hl [0] rfl) hf
  · have hf := itp hc1 hf
    refine lv_iconst (v := (0 : Int32)) hx hb dX1_layOut_10 (by decide) ?_
    refine lv_goto (tgt := 15) hx hb dX1_layOut_11 (by decide) ?_
    exact b1_layOut_15 C0 ht  G (lv_sub hl [0] rfl) hf
theorem o1_layOut : okName yX1_layOut 2 := ⟨by decide, by decide, by decide +kernel⟩
set_option maxHeartbeats 4000000 in
set_option maxRecDepth 100000 in
theorem c1_layOut {ta adK adV : Nat → Nat} (hX : XT (XS ta adK adV)) {l : Launch} {D : va_G} {cI cB cG cS : ClassId} {ad : Nat → Nat} {sz : Nat} {t : Nat} {shn : Nat → Nat → Int32} {shb : Nat → Int32} {shz : Nat → Int32} {v1 : Int32} {v2 : Int32} {o_shn : Nat → Nat → Int32} {o_shb : Nat → Int32} {o_shz : Nat → Int32} (ht : t < 4) (hf : f1_layOut t shn shb shz v1 v2 = some (o_shn, o_shb, o_shz)) : Met l yX1_layOut (wU yX1_layOut cX1_layOut 4 none) ({ frames := 0, cells := 0, slots := 0, locals := 0 }) (va_Pc [.ref (ad (2 * t)), .int v1, .int v2] (PreW (XS ta adK adV) D (tyC cI cB cG cS) (wH cI ad shn shb shz) sz)) (QcV D (tyC cI cB cG cS) (wH cI ad o_shn o_shb o_shz) (va_A (wH cI ad shn shb shz) sz)) 0 0 (va_A (wH cI ad shn shb shz) sz) := by
  refine startW hX (own := RX1) (by decide) rfl (Nat.le_of_ble_eq_true rfl) (fun p e s m args below meth c ls C0 G hl => ?_)
  exact b1_layOut_0 C0 ht G hl hf
/-! 4_sheet -/
theorem dX4_sheet_0 : decode cX4_sheet 0 = .ok (.iload_n 1, 1) := by decide +kernel
theorem dX4_sheet_1 : decode cX4_sheet 1 = .ok (.invokestatic 195, 3) := by decide +kernel
theorem dX4_sheet_4 : decode cX4_sheet 4 = .ok (.ifCond .eq 25, 3) := by decide +kernel
theorem dX4_sheet_7 : decode cX4_sheet 7 = .ok (.iload_n 2, 1) := by decide +kernel
theorem dX4_sheet_8 : decode cX4_sheet 8 = .ok (.ifCond .eq 27, 3) := by decide +kernel
theorem dX4_sheet_11 : decode cX4_sheet 11 = .ok (.iload_n 2, 1) := by decide +kernel
theorem dX4_sheet_12 : decode cX4_sheet 12 = .ok (.bipush 8, 2) := by decide +kernel
theorem dX4_sheet_14 : decode cX4_sheet 14 = .ok (.if_icmp .eq 21, 3) := by decide +kernel
theorem dX4_sheet_17 : decode cX4_sheet 17 = .ok (.iload_n 2, 1) := by decide +kernel
theorem dX4_sheet_18 : decode cX4_sheet 18 = .ok (.bipush 16, 2) := by decide +kernel
theorem dX4_sheet_20 : decode cX4_sheet 20 = .ok (.if_icmp .eq 15, 3) := by decide +kernel
theorem dX4_sheet_23 : decode cX4_sheet 23 = .ok (.iload_n 2, 1) := by decide +kernel
theorem dX4_sheet_24 : decode cX4_sheet 24 = .ok (.bipush 32, 2) := by decide +kernel
theorem dX4_sheet_26 : decode cX4_sheet 26 = .ok (.if_icmp .eq 9, 3) := by decide +kernel
theorem dX4_sheet_29 : decode cX4_sheet 29 = .ok (.aload_n 0, 1) := by decide +kernel
theorem dX4_sheet_30 : decode cX4_sheet 30 = .ok (.iconst 0, 1) := by decide +kernel
theorem dX4_sheet_31 : decode cX4_sheet 31 = .ok (.invokevirtual 49, 3) := by decide +kernel
theorem dX4_sheet_34 : decode cX4_sheet 34 = .ok (.ireturn, 1) := by decide +kernel
theorem dX4_sheet_35 : decode cX4_sheet 35 = .ok (.iload_n 3, 1) := by decide +kernel
theorem dX4_sheet_36 : decode cX4_sheet 36 = .ok (.ifCond .ge 10, 3) := by decide +kernel
theorem dX4_sheet_39 : decode cX4_sheet 39 = .ok (.aload_n 0, 1) := by decide +kernel
theorem dX4_sheet_40 : decode cX4_sheet 40 = .ok (.bipush 6, 2) := by decide +kernel
theorem dX4_sheet_42 : decode cX4_sheet 42 = .ok (.invokevirtual 49, 3) := by decide +kernel
theorem dX4_sheet_45 : decode cX4_sheet 45 = .ok (.ireturn, 1) := by decide +kernel
theorem dX4_sheet_46 : decode cX4_sheet 46 = .ok (.iload_n 3, 1) := by decide +kernel
theorem dX4_sheet_47 : decode cX4_sheet 47 = .ok (.bipush 40, 2) := by decide +kernel
theorem dX4_sheet_49 : decode cX4_sheet 49 = .ok (.if_icmp .le 9, 3) := by decide +kernel
theorem dX4_sheet_52 : decode cX4_sheet 52 = .ok (.aload_n 0, 1) := by decide +kernel
theorem dX4_sheet_53 : decode cX4_sheet 53 = .ok (.iconst 0, 1) := by decide +kernel
theorem dX4_sheet_54 : decode cX4_sheet 54 = .ok (.invokevirtual 49, 3) := by decide +kernel
theorem dX4_sheet_57 : decode cX4_sheet 57 = .ok (.ireturn, 1) := by decide +kernel
theorem dX4_sheet_58 : decode cX4_sheet 58 = .ok (.aload_n 0, 1) := by decide +kernel
theorem dX4_sheet_59 : decode cX4_sheet 59 = .ok (.getfield 36, 3) := by decide +kernel
theorem dX4_sheet_62 : decode cX4_sheet 62 = .ok (.iload_n 1, 1) := by decide +kernel
theorem dX4_sheet_63 : decode cX4_sheet 63 = .ok (.aaload, 1) := by decide +kernel
theorem dX4_sheet_64 : decode cX4_sheet 64 = .ok (.iload_n 2, 1) := by decide +kernel
theorem dX4_sheet_65 : decode cX4_sheet 65 = .ok (.iload_n 3, 1) := by decide +kernel
theorem dX4_sheet_66 : decode cX4_sheet 66 = .ok (.invokevirtual 198, 3) := by decide +kernel
theorem dX4_sheet_69 : decode cX4_sheet 69 = .ok (.aload_n 0, 1) := by decide +kernel
theorem dX4_sheet_70 : decode cX4_sheet 70 = .ok (.getfield 36, 3) := by decide +kernel
theorem dX4_sheet_73 : decode cX4_sheet 73 = .ok (.iload_n 1, 1) := by decide +kernel
theorem dX4_sheet_74 : decode cX4_sheet 74 = .ok (.aaload, 1) := by decide +kernel
theorem dX4_sheet_75 : decode cX4_sheet 75 = .ok (.getfield 201, 3) := by decide +kernel
theorem dX4_sheet_78 : decode cX4_sheet 78 = .ok (.ireturn, 1) := by decide +kernel
def j4_sheet_29  (shn : Nat → Nat → Int32) (shb : Nat → Int32) (shz : Nat → Int32) (fd : Nat → Int32)  : Option (Int32 × (Nat → Nat → Int32) × (Nat → Int32) × (Nat → Int32) × (Nat → Int32)) :=
  ob2 (f4_found fd (0 : Int32)) (fun r6 fd_7 =>
  some (r6, shn, shb, shz, fd_7))
def j4_sheet_35  (shn : Nat → Nat → Int32) (shb : Nat → Int32) (shz : Nat → Int32) (fd : Nat → Int32) (v1 : Int32) (v2 : Int32) (v3 : Int32) : Option (Int32 × (Nat → Nat → Int32) × (Nat → Int32) × (Nat → Int32) × (Nat → Int32)) :=
  if (0 : Int32) ≤ v3 then (
    if v3 ≤ (40 : Int32) then (
      gd (inb v1 4) (
      ob3 (f1_layOut v1.toNatClampNeg shn shb shz v2 v3) (fun shn_12 shb_13 shz_14 =>
      gd (inb v1 4) (
      some ((shz_14 v1.toNatClampNeg), shn_12, shb_13, shz_14, fd)))))
    else (
      ob2 (f4_found fd (0 : Int32)) (fun r17 fd_18 =>
      some (r17, shn, shb, shz, fd_18))))
  else (
    ob2 (f4_found fd (6 : Int32)) (fun r20 fd_21 =>
    some (r20, shn, shb, shz, fd_21)))
def f4_sheet (shn : Nat → Nat → Int32) (shb : Nat → Int32) (shz : Nat → Int32) (fd : Nat → Int32) (v1 : Int32) (v2 : Int32) (v3 : Int32) : Option (Int32 × (Nat → Nat → Int32) × (Nat → Int32) × (Nat → Int32) × (Nat → Int32)) :=
  if (f4_isSheet v1) = (0 : Int32) then (
    j4_sheet_29 shn shb shz fd)
  else (
    if v2 = (0 : Int32) then (
      j4_sheet_35 shn shb shz fd v1 v2 v3)
    else (
      if v2 = (8 : Int32) then (
        j4_sheet_35 shn shb shz fd v1 v2 v3)
      else (
        if v2 = (16 : Int32) then (
          j4_sheet_35 shn shb shz fd v1 v2 v3)
        else (
          if v2 = (32 : Int32) then (
            j4_sheet_35 shn shb shz fd v1 v2 v3)
          else (
            j4_sheet_29 shn shb shz fd)))))
set_option maxHeartbeats 4000000 in
set_option maxRecDepth 100000 in
theorem b4_sheet_29 {ta adK adV : Nat → Nat} {p : Program} {l : Launch} {e : Env} {s : State} {m : MethodId} {args : Array Value} {below : List Frame} {meth : Method} {c : Code} {D : va_G} {cI cB cG cS : ClassId} {ad : Nat → Nat} {A : Nat → Prop} {hp1 : Nat → Int32} {st1 : Nat → Int32} {tr1 : Nat → Nat → Int32} {sp1 : Nat → Int32} {vis1 : Int32} {day1 : Int32} {z1 : Int32} {hp2 : Nat → Int32} {st2 : Nat → Int32} {tr2 : Nat → Nat → Int32} {sp2 : Nat → Int32} {vis2 : Int32} {day2 : Int32} {z2 : Int32} {hp3 : Nat → Int32} {st3 : Nat → Int32} {tr3 : Nat → Nat → Int32} {sp3 : Nat → Int32} {vis3 : Int32} {day3 : Int32} {z3 : Int32} {tb : Nat → Int32} {tl : Int32} {rtok : Int32} {rbg : Int32} {ren : Int32} {rvl : Int32} {isK : Int32} {r0 : Int32} {o_shn : Nat → Nat → Int32} {o_shb : Nat → Int32} {o_shz : Nat → Int32} {o_fd : Nat → Int32} (C0 : CX (XS ta adK adV) p s m args meth c cX4_sheet 4 (some .int) RX4 A) : ∀ {shn : Nat → Nat → Int32} {shb : Nat → Int32} {shz : Nat → Int32} {fd : Nat → Int32} {H : Heap} {locs : List Loc} {ls : Array Slot}, GX (XS ta adK adV) D (tyC cI cB cG cS) A s (wS cI cB cG cS ad hp1 st1 tr1 sp1 vis1 day1 z1 hp2 st2 tr2 sp2 vis2 day2 z2 hp3 st3 tr3 sp3 vis3 day3 z3 tb tl rtok rbg ren rvl shn shb shz fd isK) H locs → lv_has ls 4 [(0, .ref (ad 0))] → j4_sheet_29  shn shb shz fd = some (r0, o_shn, o_shb, o_shz, o_fd) → W p l e ({ frames := 2, cells := 0, slots := 0, locals := 42 }) s m args below meth c H locs 0 0 (MQ below (QcI D (tyC cI cB cG cS) (wS cI cB cG cS ad hp1 st1 tr1 sp1 vis1 day1 z1 hp2 st2 tr2 sp2 vis2 day2 z2 hp3 st3 tr3 sp3 vis3 day3 z3 tb tl rtok rbg ren rvl o_shn o_shb o_shz o_fd isK) A r0) args s 0 0 A) (F0 m 29 ls []) := by
  have hx := C0.1
  have hb := C0.2.1
  have hown := C0.2.2.2.2.1
  have hts := C0.2.2.2.2.2.1
  have hX := C0.2.2.2.2.2.2.2.2
  intro shn shb shz fd H locs ls G hl hf
  unfold j4_sheet_29 at hf
  refine lv_aload_n hx hb dX4_sheet_29 rfl (lv_at hl 0 rfl) ?_
  refine lv_iconst (v := (0 : Int32)) hx hb dX4_sheet_30 (by decide) ?_
  obtain ⟨r6, fd_7, hc8, hf⟩ := ob2_s hf
  refine go_i C0 G (runV_of (n := 1) (q0 := 0) (As := [.int (0 : Int32)]) (rest := []) C0 G (c4_found hX hc8) q208 q49 q205 q207 q0 o4_found ⟨rfl, rfl⟩ ⟨Nat.le_of_ble_eq_true rfl, Nat.le_of_ble_eq_true rfl⟩ rfl rfl rfl hl.1 rfl (Nat.le_of_ble_eq_true rfl) dX4_sheet_31) (fun H locs G => ?_)
  obtain ⟨rfl, rfl, rfl, rfl, rfl⟩ := inj5 hf
  exact ret_i C0 G dX4_sheet_34
set_option maxHeartbeats 4000000 in
set_option maxRecDepth 100000 in
theorem b4_sheet_35 {ta adK adV : Nat → Nat} {p : Program} {l : Launch} {e : Env} {s : State} {m : MethodId} {args : Array Value} {below : List Frame} {meth : Method} {c : Code} {D : va_G} {cI cB cG cS : ClassId} {ad : Nat → Nat} {A : Nat → Prop} {hp1 : Nat → Int32} {st1 : Nat → Int32} {tr1 : Nat → Nat → Int32} {sp1 : Nat → Int32} {vis1 : Int32} {day1 : Int32} {z1 : Int32} {hp2 : Nat → Int32} {st2 : Nat → Int32} {tr2 : Nat → Nat → Int32} {sp2 : Nat → Int32} {vis2 : Int32} {day2 : Int32} {z2 : Int32} {hp3 : Nat → Int32} {st3 : Nat → Int32} {tr3 : Nat → Nat → Int32} {sp3 : Nat → Int32} {vis3 : Int32} {day3 : Int32} {z3 : Int32} {tb : Nat → Int32} {tl : Int32} {rtok : Int32} {rbg : Int32} {ren : Int32} {rvl : Int32} {isK : Int32} {r0 : Int32} {o_shn : Nat → Nat → Int32} {o_shb : Nat → Int32} {o_shz : Nat → Int32} {o_fd : Nat → Int32} (C0 : CX (XS ta adK adV) p s m args meth c cX4_sheet 4 (some .int) RX4 A) : ∀ {shn : Nat → Nat → Int32} {shb : Nat → Int32} {shz : Nat → Int32} {fd : Nat → Int32} {v1 : Int32} {v2 : Int32} {v3 : Int32} {H : Heap} {locs : List Loc} {ls : Array Slot}, GX (XS ta adK adV) D (tyC cI cB cG cS) A s (wS cI cB cG cS ad hp1 st1 tr1 sp1 vis1 day1 z1 hp2 st2 tr2 sp2 vis2 day2 z2 hp3 st3 tr3 sp3 vis3 day3 z3 tb tl rtok rbg ren rvl shn shb shz fd isK) H locs → lv_has ls 4 [(0, .ref (ad 0)), (1, .int v1), (2, .int v2), (3, .int v3)] → j4_sheet_35  shn shb shz fd v1 v2 v3 = some (r0, o_shn, o_shb, o_shz, o_fd) → W p l e ({ frames := 2, cells := 0, slots := 0, locals := 42 }) s m args below meth c H locs 0 0 (MQ below (QcI D (tyC cI cB cG cS) (wS cI cB cG cS ad hp1 st1 tr1 sp1 vis1 day1 z1 hp2 st2 tr2 sp2 vis2 day2 z2 hp3 st3 tr3 sp3 vis3 day3 z3 tb tl rtok rbg ren rvl o_shn o_shb o_shz o_fd isK) A r0) args s 0 0 A) (F0 m 35 ls []) := by
  have hx := C0.1
  have hb := C0.2.1
  have hown := C0.2.2.2.2.1
  have hts := C0.2.2.2.2.2.1
  have hX := C0.2.2.2.2.2.2.2.2
  intro shn shb shz fd v1 v2 v3 H locs ls G hl hf
  unfold j4_sheet_35 at hf
  refine lv_iload_n hx hb dX4_sheet_35 rfl (lv_at hl 3 rfl) ?_
  refine lv_if_ge (tgt := 46) hx hb dX4_sheet_36 (by decide) (fun hc9 => ?_) (fun hc9 => ?_)
  · have hf := itp hc9 hf
    refine lv_iload_n hx hb dX4_sheet_46 rfl (lv_at hl 3 rfl) ?_
    refine lv_bipush (v := (40 : Int32)) hx hb dX4_sheet_47 (by decide) ?_
    refine lv_icmp_le (tgt := 58) hx hb dX4_sheet_49 (by decide) (fun hc10 => ?_) (fun hc10 => ?_)
    · have hf := itp hc10 hf
      refine lv_aload_n hx hb dX4_sheet_58 rfl (lv_at hl 0 rfl) ?_
      refine s_get (C := RX4) (T := TX4) C0 G i_X4 0 5 rfl rfl (by decide) q178 rfl dX4_sheet_59 ?_
      refine lv_iload_n hx hb dX4_sheet_62 rfl (lv_at hl 1 rfl) ?_
      obtain ⟨hi11, hf⟩ := gd_s hf
      refine s_aldo (k := v1.toNatClampNeg) (b := ad (41 + 2 * v1.toNatClampNeg)) C0 G 40 3 rfl rfl (vin hi11) rfl rfl dX4_sheet_63 ?_
      refine lv_iload_n hx hb dX4_sheet_64 rfl (lv_at hl 2 rfl) ?_
      refine lv_iload_n hx hb dX4_sheet_65 rfl (lv_at hl 3 rfl) ?_
      obtain ⟨shn_12, shb_13, shz_14, hc15, hf⟩ := ob3_s hf
      refine go_v_sub C0 G s_sheets o_sheets (runV_sub (n := 2) (q0 := (41 + 2 * v1.toNatClampNeg)) (As := [.int v2, .int v3]) (rest := []) C0 G s_sheets (c1_layOut hX (inb_lt hi11) hc15) q652 q53 q649 q650 q651 o1_layOut ⟨rfl, rfl⟩ ⟨Nat.le_of_ble_eq_true rfl, Nat.le_of_ble_eq_true rfl⟩ (wS_sh (inb_lt hi11)) rfl rfl hl.1 rfl (Nat.le_of_ble_eq_true rfl) dX4_sheet_66) (fun H locs G => ?_)
      refine lv_aload_n hx hb dX4_sheet_69 rfl (lv_at hl 0 rfl) ?_
      refine s_get (C := RX4) (T := TX4) C0 G i_X4 0 5 rfl rfl (by decide) q178 rfl dX4_sheet_70 ?_
      refine lv_iload_n hx hb dX4_sheet_73 rfl (lv_at hl 1 rfl) ?_
      obtain ⟨hi16, hf⟩ := gd_s hf
      refine s_aldo (k := v1.toNatClampNeg) (b := ad (41 + 2 * v1.toNatClampNeg)) C0 G 40 3 rfl rfl (vin hi16) rfl rfl dX4_sheet_74 ?_
      refine s_get (C := RX1) (T := TX1) C0 G i_X1 (41 + 2 * v1.toNatClampNeg) 2 (wS_sh (inb_lt hi16)) rfl (by decide) q165 rfl dX4_sheet_75 ?_
      obtain ⟨rfl, rfl, rfl, rfl, rfl⟩ := inj5 hf
      exact ret_i C0 G dX4_sheet_78
    · have hf := itn hc10 hf
      refine lv_aload_n hx hb dX4_sheet_52 rfl (lv_at hl 0 rfl) ?_
      refine lv_iconst (v := (0 : Int32)) hx hb dX4_sheet_53 (by decide) ?_
      obtain ⟨r17, fd_18, hc19, hf⟩ := ob2_s hf
      refine go_i C0 G (runV_of (n := 1) (q0 := 0) (As := [.int (0 : Int32)]) (rest := []) C0 G (c4_found hX hc19) q208 q49 q205 q207 q0 o4_found ⟨rfl, rfl⟩ ⟨Nat.le_of_ble_eq_true rfl, Nat.le_of_ble_eq_true rfl⟩ rfl rfl rfl hl.1 rfl (Nat.le_of_ble_eq_true rfl) dX4_sheet_54) (fun H locs G => ?_)
      obtain ⟨rfl, rfl, rfl, rfl, rfl⟩ := inj5 hf
      exact ret_i C0 G dX4_sheet_57
  · have hf := itn hc9 hf
    refine lv_aload_n hx hb dX4_sheet_39 rfl (lv_at hl 0 rfl) ?_
    refine lv_bipush (v := (6 : Int32)) hx hb dX4_sheet_40 (by decide) ?_
    obtain ⟨r20, fd_21, hc22, hf⟩ := ob2_s hf
    refine go_i C0 G (runV_of (n := 1) (q0 := 0) (As := [.int (6 : Int32)]) (rest := []) C0 G (c4_found hX hc22) q208 q49 q205 q207 q0 o4_found ⟨rfl, rfl⟩ ⟨Nat.le_of_ble_eq_true rfl, Nat.le_of_ble_eq_true rfl⟩ rfl rfl rfl hl.1 rfl (Nat.le_of_ble_eq_true rfl) dX4_sheet_42) (fun H locs G => ?_)
    obtain ⟨rfl, rfl, rfl, rfl, rfl⟩ := inj5 hf
    exact ret_i C0 G dX4_sheet_45
set_option maxHeartbeats 4000000 in
set_option maxRecDepth 100000 in
theorem b4_sheet_0 {ta adK adV : Nat → Nat} {p : Program} {l : Launch} {e : Env} {s : State} {m : MethodId} {args : Array Value} {below : List Frame} {meth : Method} {c : Code} {D : va_G} {cI cB cG cS : ClassId} {ad : Nat → Nat} {A : Nat → Prop} {hp1 : Nat → Int32} {st1 : Nat → Int32} {tr1 : Nat → Nat → Int32} {sp1 : Nat → Int32} {vis1 : Int32} {day1 : Int32} {z1 : Int32} {hp2 : Nat → Int32} {st2 : Nat → Int32} {tr2 : Nat → Nat → Int32} {sp2 : Nat → Int32} {vis2 : Int32} {day2 : Int32} {z2 : Int32} {hp3 : Nat → Int32} {st3 : Nat → Int32} {tr3 : Nat → Nat → Int32} {sp3 : Nat → Int32} {vis3 : Int32} {day3 : Int32} {z3 : Int32} {tb : Nat → Int32} {tl : Int32} {rtok : Int32} {rbg : Int32} {ren : Int32} {rvl : Int32} {isK : Int32} {r0 : Int32} {o_shn : Nat → Nat → Int32} {o_shb : Nat → Int32} {o_shz : Nat → Int32} {o_fd : Nat → Int32} (C0 : CX (XS ta adK adV) p s m args meth c cX4_sheet 4 (some .int) RX4 A) : ∀ {shn : Nat → Nat → Int32} {shb : Nat → Int32} {shz : Nat → Int32} {fd : Nat → Int32} {v1 : Int32} {v2 : Int32} {v3 : Int32} {H : Heap} {locs : List Loc} {ls : Array Slot}, GX (XS ta adK adV) D (tyC cI cB cG cS) A s (wS cI cB cG cS ad hp1 st1 tr1 sp1 vis1 day1 z1 hp2 st2 tr2 sp2 vis2 day2 z2 hp3 st3 tr3 sp3 vis3 day3 z3 tb tl rtok rbg ren rvl shn shb shz fd isK) H locs → lv_has ls 4 [(0, .ref (ad 0)), (1, .int v1), (2, .int v2), (3, .int v3)] → f4_sheet shn shb shz fd v1 v2 v3 = some (r0, o_shn, o_shb, o_shz, o_fd) → W p l e ({ frames := 2, cells := 0, slots := 0, locals := 42 }) s m args below meth c H locs 0 0 (MQ below (QcI D (tyC cI cB cG cS) (wS cI cB cG cS ad hp1 st1 tr1 sp1 vis1 day1 z1 hp2 st2 tr2 sp2 vis2 day2 z2 hp3 st3 tr3 sp3 vis3 day3 z3 tb tl rtok rbg ren rvl o_shn o_shb o_shz o_fd isK) A r0) args s 0 0 A) (F0 m 0 ls []) := by
  have hx := C0.1
  have hb := C0.2.1
  have hown := C0.2.2.2.2.1
  have hts := C0.2.2.2.2.2.1
  have hX := C0.2.2.2.2.2.2.2.2
  intro shn shb shz fd v1 v2 v3 H locs ls G hl hf
  unfold f4_sheet at hf
  refine lv_iload_n hx hb dX4_sheet_0 rfl (lv_at hl 1 rfl) ?_
  refine go_i C0 G (runS_of (n := 1) (As := [.int v1]) (rest := []) C0 G (c4_isSheet hX rfl) q460 q49 q458 q459 o4_isSheet ⟨rfl, rfl⟩ ⟨Nat.le_of_ble_eq_true rfl, Nat.le_of_ble_eq_true rfl⟩ rfl hl.1 rfl (Nat.le_of_ble_eq_true rfl) dX4_sheet_1) (fun H locs G => ?_)
  refine lv_if_eq (tgt := 29) hx hb dX4_sheet_4 (by decide) (fun hc1 => ?_) (fun hc1 => ?_)
  · have hf := itp hc1 hf
    exact b4_sheet_29 C0  G (lv_sub hl [0] rfl) hf
  · have hf := itn hc1 hf
    refine lv_iload_n hx hb dX4_sheet_7 rfl (lv_at hl 2 rfl) ?_
    refine lv_if_eq (tgt := 35) hx hb dX4_sheet_8 (by decide) (fun hc2 => ?_) (fun hc2 => ?_)
    · have hf := itp hc2 hf
      exact b4_sheet_35 C0  G (lv_sub hl [0, 1, 2, 3] rfl) hf
    · have hf := itn hc2 hf
      refine lv_iload_n hx hb dX4_sheet_11 rfl (lv_at hl 2 rfl) ?_
      refine lv_bipush (v := (8 : Int32)) hx hb dX4_sheet_12 (by decide) ?_
      refine lv_icmp_eq (tgt := 35) hx hb dX4_sheet_14 (by decide) (fun hc3 => ?_) (fun hc3 => ?_)
      · have hf := itp hc3 hf
        exact b4_sheet_35 C0  G (lv_sub hl [0, 1, 2, 3] rfl) hf
      · have hf := itn hc3 hf
        refine lv_iload_n hx hb dX4_sheet_17 rfl (lv_at hl 2 rfl) ?_
        refine lv_bipush (v := (16 : Int32)) hx hb dX4_sheet_18 (by decide) ?_
        refine lv_icmp_eq (tgt := 35) hx hb dX4_sheet_20 (by decide) (fun hc4 => ?_) (fun hc4 => ?_)
        · have hf := itp hc4 hf
          exact b4_sheet_35 C0  G (lv_sub hl [0, 1, 2, 3] rfl) hf
        · have hf := itn hc4 hf
          refine lv_iload_n hx hb dX4_sheet_23 rfl (lv_at hl 2 rfl) ?_
          refine lv_bipush (v := (32 : Int32)) hx hb dX4_sheet_24 (by decide) ?_
          refine lv_icmp_eq (tgt := 35) hx hb dX4_sheet_26 (by decide) (fun hc5 => ?_) (fun hc5 => ?_)
          · have hf := itp hc5 hf
            exact b4_sheet_35 C0  G (lv_sub hl [0, 1, 2, 3] rfl) hf
          · have hf := itn hc5 hf
            exact b4_sheet_29 C0  G (lv_sub hl [0] rfl) hf
theorem o4_sheet : okName yX4_sheet 3 := ⟨by decide, by decide, by decide +kernel⟩
set_option maxHeartbeats 4000000 in
set_option maxRecDepth 100000 in
theorem c4_sheet {ta adK adV : Nat → Nat} (hX : XT (XS ta adK adV)) {l : Launch} {D : va_G} {cI cB cG cS : ClassId} {ad : Nat → Nat} {sz : Nat} {hp1 : Nat → Int32} {st1 : Nat → Int32} {tr1 : Nat → Nat → Int32} {sp1 : Nat → Int32} {vis1 : Int32} {day1 : Int32} {z1 : Int32} {hp2 : Nat → Int32} {st2 : Nat → Int32} {tr2 : Nat → Nat → Int32} {sp2 : Nat → Int32} {vis2 : Int32} {day2 : Int32} {z2 : Int32} {hp3 : Nat → Int32} {st3 : Nat → Int32} {tr3 : Nat → Nat → Int32} {sp3 : Nat → Int32} {vis3 : Int32} {day3 : Int32} {z3 : Int32} {tb : Nat → Int32} {tl : Int32} {rtok : Int32} {rbg : Int32} {ren : Int32} {rvl : Int32} {shn : Nat → Nat → Int32} {shb : Nat → Int32} {shz : Nat → Int32} {fd : Nat → Int32} {isK : Int32} {v1 : Int32} {v2 : Int32} {v3 : Int32} {r0 : Int32} {o_shn : Nat → Nat → Int32} {o_shb : Nat → Int32} {o_shz : Nat → Int32} {o_fd : Nat → Int32} (hf : f4_sheet shn shb shz fd v1 v2 v3 = some (r0, o_shn, o_shb, o_shz, o_fd)) : Met l yX4_sheet (wU yX4_sheet cX4_sheet 4 (some .int)) ({ frames := 2, cells := 0, slots := 0, locals := 42 }) (va_Pc [.ref (ad 0), .int v1, .int v2, .int v3] (PreW (XS ta adK adV) D (tyC cI cB cG cS) (wS cI cB cG cS ad hp1 st1 tr1 sp1 vis1 day1 z1 hp2 st2 tr2 sp2 vis2 day2 z2 hp3 st3 tr3 sp3 vis3 day3 z3 tb tl rtok rbg ren rvl shn shb shz fd isK) sz)) (QcI D (tyC cI cB cG cS) (wS cI cB cG cS ad hp1 st1 tr1 sp1 vis1 day1 z1 hp2 st2 tr2 sp2 vis2 day2 z2 hp3 st3 tr3 sp3 vis3 day3 z3 tb tl rtok rbg ren rvl o_shn o_shb o_shz o_fd isK) (va_A (wS cI cB cG cS ad hp1 st1 tr1 sp1 vis1 day1 z1 hp2 st2 tr2 sp2 vis2 day2 z2 hp3 st3 tr3 sp3 vis3 day3 z3 tb tl rtok rbg ren rvl shn shb shz fd isK) sz) r0) 0 0 (va_A (wS cI cB cG cS ad hp1 st1 tr1 sp1 vis1 day1 z1 hp2 st2 tr2 sp2 vis2 day2 z2 hp3 st3 tr3 sp3 vis3 day3 z3 tb tl rtok rbg ren rvl shn shb shz fd isK) sz) := by
  refine startW hX (own := RX4) (by decide) rfl (Nat.le_of_ble_eq_true rfl) (fun p e s m args below meth c ls C0 G hl => ?_)
  exact b4_sheet_0 C0 G hl hf
/-! 1_put -/
theorem dX1_put_0 : decode cX1_put 0 = .ok (.aload_n 0, 1) := by decide +kernel
theorem dX1_put_1 : decode cX1_put 1 = .ok (.getfield 15, 3) := by decide +kernel
theorem dX1_put_4 : decode cX1_put 4 = .ok (.lookupswitch 50 #[(8, 28), (16, 39)], 28) := by decide +kernel
theorem dX1_put_32 : decode cX1_put 32 = .ok (.aload_n 0, 1) := by decide +kernel
theorem dX1_put_33 : decode cX1_put 33 = .ok (.getfield 9, 3) := by decide +kernel
theorem dX1_put_36 : decode cX1_put 36 = .ok (.iload_n 1, 1) := by decide +kernel
theorem dX1_put_37 : decode cX1_put 37 = .ok (.iload_n 2, 1) := by decide +kernel
theorem dX1_put_38 : decode cX1_put 38 = .ok (.i2b, 1) := by decide +kernel
theorem dX1_put_39 : decode cX1_put 39 = .ok (.iastore, 1) := by decide +kernel
theorem dX1_put_40 : decode cX1_put 40 = .ok (.goto 21, 3) := by decide +kernel
theorem dX1_put_43 : decode cX1_put 43 = .ok (.aload_n 0, 1) := by decide +kernel
theorem dX1_put_44 : decode cX1_put 44 = .ok (.getfield 9, 3) := by decide +kernel
theorem dX1_put_47 : decode cX1_put 47 = .ok (.iload_n 1, 1) := by decide +kernel
theorem dX1_put_48 : decode cX1_put 48 = .ok (.iload_n 2, 1) := by decide +kernel
theorem dX1_put_49 : decode cX1_put 49 = .ok (.i2s, 1) := by decide +kernel
theorem dX1_put_50 : decode cX1_put 50 = .ok (.iastore, 1) := by decide +kernel
theorem dX1_put_51 : decode cX1_put 51 = .ok (.goto 10, 3) := by decide +kernel
theorem dX1_put_54 : decode cX1_put 54 = .ok (.aload_n 0, 1) := by decide +kernel
theorem dX1_put_55 : decode cX1_put 55 = .ok (.getfield 9, 3) := by decide +kernel
theorem dX1_put_58 : decode cX1_put 58 = .ok (.iload_n 1, 1) := by decide +kernel
theorem dX1_put_59 : decode cX1_put 59 = .ok (.iload_n 2, 1) := by decide +kernel
theorem dX1_put_60 : decode cX1_put 60 = .ok (.iastore, 1) := by decide +kernel
theorem dX1_put_61 : decode cX1_put 61 = .ok (.return_, 1) := by decide +kernel
def f1_put (t : Nat) (shn : Nat → Nat → Int32) (shb : Nat → Int32) (v1 : Int32) (v2 : Int32) : Option ((Nat → Nat → Int32)) :=
  if (shb t) = (8 : Int32) then (
    gd (inb v1 40) (
    some (upd2 shn t v1.toNatClampNeg (v2.toInt8.toInt32))))
  else
  if (shb t) = (16 : Int32) then (
    gd (inb v1 40) (
    some (upd2 shn t v1.toNatClampNeg (v2.toInt16.toInt32))))
  else
  gd (inb v1 40) (
  some (upd2 shn t v1.toNatClampNeg v2))
set_option maxHeartbeats 4000000 in
set_option maxRecDepth 100000 in
theorem b1_put_0 {ta adK adV : Nat → Nat} {p : Program} {l : Launch} {e : Env} {s : State} {m : MethodId} {args : Array Value} {below : List Frame} {meth : Method} {c : Code} {D : va_G} {cI cB cG cS : ClassId} {ad : Nat → Nat} {A : Nat → Prop} {t : Nat} {shb : Nat → Int32} {shz : Nat → Int32} {o_shn : Nat → Nat → Int32} (C0 : CX (XS ta adK adV) p s m args meth c cX1_put 3 none RX1 A) (ht : t < 4) : ∀ {shn : Nat → Nat → Int32} {v1 : Int32} {v2 : Int32} {H : Heap} {locs : List Loc} {ls : Array Slot}, GX (XS ta adK adV) D (tyC cI cB cG cS) A s (wH cI ad shn shb shz) H locs → lv_has ls 3 [(0, .ref (ad (2 * t))), (1, .int v1), (2, .int v2)] → f1_put t shn shb v1 v2 = some o_shn → W p l e ({ frames := 0, cells := 0, slots := 0, locals := 0 }) s m args below meth c H locs 0 0 (MQ below (QcV D (tyC cI cB cG cS) (wH cI ad o_shn shb shz) A) args s 0 0 A) (F0 m 0 ls []) := by
  have hx := C0.1
  have hb := C0.2.1
  have hown := C0.2.2.2.2.1
  have hts := C0.2.2.2.2.2.1
  have hX := C0.2.2.2.2.2.2.2.2
  intro shn v1 v2 H locs ls G hl hf
  unfold f1_put at hf
  refine lv_aload_n hx hb dX1_put_0 rfl (lv_at hl 0 rfl) ?_
  refine s_get (C := RX1) (T := TX1) C0 G i_X1 (2 * t) 1 (wH_sh ht) rfl (by decide) q162 rfl dX1_put_1 ?_
  by_cases hs1 : (shb t) = (8 : Int32)
  · have hf := itp hs1 hf
    refine lv_lookup (tgt := 32) hx hb dX1_put_4 (by decide) (by rw [hs1] <;> rfl) (by decide) ?_
    refine lv_aload_n hx hb dX1_put_32 rfl (lv_at hl 0 rfl) ?_
    refine s_get (C := RX1) (T := TX1) C0 G i_X1 (2 * t) 0 (wH_sh ht) rfl (by decide) q160 rfl dX1_put_33 ?_
    refine lv_iload_n hx hb dX1_put_36 rfl (lv_at hl 1 rfl) ?_
    refine lv_iload_n hx hb dX1_put_37 rfl (lv_at hl 2 rfl) ?_
    refine lv_i2b hx hb dX1_put_38 rfl ?_
    obtain ⟨hi2, hf⟩ := gd_s hf
    refine s_iast (k := v1.toNatClampNeg) (w' := (wH cI ad (upd2 shn t v1.toNatClampNeg (v2.toInt8.toInt32)) shb shz)) C0 G (2 * t + 1) 0 (wH_shn ht) rfl (vin hi2) rfl (wH_setn ht) dX1_put_39 (fun H locs G => ?_)
    refine lv_goto (tgt := 61) hx hb dX1_put_40 (by decide) ?_
    obtain rfl := inj1 hf
    exact ret_v C0 G dX1_put_61
  have hf := itn hs1 hf
  by_cases hs3 : (shb t) = (16 : Int32)
  · have hf := itp hs3 hf
    refine lv_lookup (tgt := 43) hx hb dX1_put_4 (by decide) (by rw [hs3] <;> rfl) (by decide) ?_
    refine lv_aload_n hx hb dX1_put_43 rfl (lv_at hl 0 rfl) ?_
    refine s_get (C := RX1) (T := TX1) C0 G i_X1 (2 * t) 0 (wH_sh ht) rfl (by decide) q160 rfl dX1_put_44 ?_
    refine lv_iload_n hx hb dX1_put_47 rfl (lv_at hl 1 rfl) ?_
    refine lv_iload_n hx hb dX1_put_48 rfl (lv_at hl 2 rfl) ?_
    refine lv_i2s hx hb dX1_put_49 rfl ?_
    obtain ⟨hi4, hf⟩ := gd_s hf
    refine s_iast (k := v1.toNatClampNeg) (w' := (wH cI ad (upd2 shn t v1.toNatClampNeg (v2.toInt16.toInt32)) shb shz)) C0 G (2 * t + 1) 0 (wH_shn ht) rfl (vin hi4) rfl (wH_setn ht) dX1_put_50 (fun H locs G => ?_)
    refine lv_goto (tgt := 61) hx hb dX1_put_51 (by decide) ?_
    obtain rfl := inj1 hf
    exact ret_v C0 G dX1_put_61
  have hf := itn hs3 hf
  refine lv_lookup (off := 50) (tgt := 54) hx hb dX1_put_4 (by decide) ((lv_osw (k := (8 : Int32)) (a := 8) hs1 (by decide)).trans ((lv_osw (k := (16 : Int32)) (a := 16) hs3 (by decide)).trans rfl)) (by decide) ?_
  refine lv_aload_n hx hb dX1_put_54 rfl (lv_at hl 0 rfl) ?_
  refine s_get (C := RX1) (T := TX1) C0 G i_X1 (2 * t) 0 (wH_sh ht) rfl (by decide) q160 rfl dX1_put_55 ?_
  refine lv_iload_n hx hb dX1_put_58 rfl (lv_at hl 1 rfl) ?_
  refine lv_iload_n hx hb dX1_put_59 rfl (lv_at hl 2 rfl) ?_
  obtain ⟨hi5, hf⟩ := gd_s hf
  refine s_iast (k := v1.toNatClampNeg) (w' := (wH cI ad (upd2 shn t v1.toNatClampNeg v2) shb shz)) C0 G (2 * t + 1) 0 (wH_shn ht) rfl (vin hi5) rfl (wH_setn ht) dX1_put_60 (fun H locs G => ?_)
  obtain rfl := inj1 hf
  exact ret_v C0 G dX1_put_61
theorem o1_put : okName yX1_put 2 := ⟨by decide, by decide, by decide +kernel⟩
set_option maxHeartbeats 4000000 in
set_option maxRecDepth 100000 in
theorem c1_put {ta adK adV : Nat → Nat} (hX : XT (XS ta adK adV)) {l : Launch} {D : va_G} {cI cB cG cS : ClassId} {ad : Nat → Nat} {sz : Nat} {t : Nat} {shn : Nat → Nat → Int32} {shb : Nat → Int32} {shz : Nat → Int32} {v1 : Int32} {v2 : Int32} {o_shn : Nat → Nat → Int32} (ht : t < 4) (hf : f1_put t shn shb v1 v2 = some o_shn) : Met l yX1_put (wU yX1_put cX1_put 3 none) ({ frames := 0, cells := 0, slots := 0, locals := 0 }) (va_Pc [.ref (ad (2 * t)), .int v1, .int v2] (PreW (XS ta adK adV) D (tyC cI cB cG cS) (wH cI ad shn shb shz) sz)) (QcV D (tyC cI cB cG cS) (wH cI ad o_shn shb shz) (va_A (wH cI ad shn shb shz) sz)) 0 0 (va_A (wH cI ad shn shb shz) sz) := by
  refine startW hX (own := RX1) (by decide) rfl (Nat.le_of_ble_eq_true rfl) (fun p e s m args below meth c ls C0 G hl => ?_)
  exact b1_put_0 C0 ht G hl hf
/-! 4_write -/
theorem dX4_write_0 : decode cX4_write 0 = .ok (.iload_n 1, 1) := by decide +kernel
theorem dX4_write_1 : decode cX4_write 1 = .ok (.invokestatic 195, 3) := by decide +kernel
theorem dX4_write_4 : decode cX4_write 4 = .ok (.ifCond .ne 9, 3) := by decide +kernel
theorem dX4_write_7 : decode cX4_write 7 = .ok (.aload_n 0, 1) := by decide +kernel
theorem dX4_write_8 : decode cX4_write 8 = .ok (.iconst 0, 1) := by decide +kernel
theorem dX4_write_9 : decode cX4_write 9 = .ok (.invokevirtual 49, 3) := by decide +kernel
theorem dX4_write_12 : decode cX4_write 12 = .ok (.ireturn, 1) := by decide +kernel
theorem dX4_write_13 : decode cX4_write 13 = .ok (.aload_n 0, 1) := by decide +kernel
theorem dX4_write_14 : decode cX4_write 14 = .ok (.getfield 36, 3) := by decide +kernel
theorem dX4_write_17 : decode cX4_write 17 = .ok (.iload_n 1, 1) := by decide +kernel
theorem dX4_write_18 : decode cX4_write 18 = .ok (.aaload, 1) := by decide +kernel
theorem dX4_write_19 : decode cX4_write 19 = .ok (.astore 4, 2) := by decide +kernel
theorem dX4_write_21 : decode cX4_write 21 = .ok (.aload 4, 2) := by decide +kernel
theorem dX4_write_23 : decode cX4_write 23 = .ok (.invokevirtual 204, 3) := by decide +kernel
theorem dX4_write_26 : decode cX4_write 26 = .ok (.ifCond .eq 9, 3) := by decide +kernel
theorem dX4_write_29 : decode cX4_write 29 = .ok (.aload_n 0, 1) := by decide +kernel
theorem dX4_write_30 : decode cX4_write 30 = .ok (.iconst 5, 1) := by decide +kernel
theorem dX4_write_31 : decode cX4_write 31 = .ok (.invokevirtual 49, 3) := by decide +kernel
theorem dX4_write_34 : decode cX4_write 34 = .ok (.ireturn, 1) := by decide +kernel
theorem dX4_write_35 : decode cX4_write 35 = .ok (.iload_n 2, 1) := by decide +kernel
theorem dX4_write_36 : decode cX4_write 36 = .ok (.iconst 0, 1) := by decide +kernel
theorem dX4_write_37 : decode cX4_write 37 = .ok (.aload 4, 2) := by decide +kernel
theorem dX4_write_39 : decode cX4_write 39 = .ok (.getfield 201, 3) := by decide +kernel
theorem dX4_write_42 : decode cX4_write 42 = .ok (.iconst 1, 1) := by decide +kernel
theorem dX4_write_43 : decode cX4_write 43 = .ok (.isub, 1) := by decide +kernel
theorem dX4_write_44 : decode cX4_write 44 = .ok (.invokestatic 45, 3) := by decide +kernel
theorem dX4_write_47 : decode cX4_write 47 = .ok (.ifCond .ne 9, 3) := by decide +kernel
theorem dX4_write_50 : decode cX4_write 50 = .ok (.aload_n 0, 1) := by decide +kernel
theorem dX4_write_51 : decode cX4_write 51 = .ok (.iconst 0, 1) := by decide +kernel
theorem dX4_write_52 : decode cX4_write 52 = .ok (.invokevirtual 49, 3) := by decide +kernel
theorem dX4_write_55 : decode cX4_write 55 = .ok (.ireturn, 1) := by decide +kernel
theorem dX4_write_56 : decode cX4_write 56 = .ok (.aload 4, 2) := by decide +kernel
theorem dX4_write_58 : decode cX4_write 58 = .ok (.iload_n 2, 1) := by decide +kernel
theorem dX4_write_59 : decode cX4_write 59 = .ok (.iload_n 3, 1) := by decide +kernel
theorem dX4_write_60 : decode cX4_write 60 = .ok (.invokevirtual 207, 3) := by decide +kernel
theorem dX4_write_63 : decode cX4_write 63 = .ok (.iconst 1, 1) := by decide +kernel
theorem dX4_write_64 : decode cX4_write 64 = .ok (.ireturn, 1) := by decide +kernel
def f4_write (shn : Nat → Nat → Int32) (shb : Nat → Int32) (shz : Nat → Int32) (fd : Nat → Int32) (v1 : Int32) (v2 : Int32) (v3 : Int32) : Option (Int32 × (Nat → Nat → Int32) × (Nat → Int32)) :=
  if (f4_isSheet v1) = (0 : Int32) then (
    ob2 (f4_found fd (0 : Int32)) (fun r13 fd_14 =>
    some (r13, shn, fd_14)))
  else (
    gd (inb v1 4) (
    if (f1_isMissing v1.toNatClampNeg shb) = (0 : Int32) then (
      if (f4_within v2 (0 : Int32) ((shz v1.toNatClampNeg) - (1 : Int32))) = (0 : Int32) then (
        ob2 (f4_found fd (0 : Int32)) (fun r7 fd_8 =>
        some (r7, shn, fd_8)))
      else (
        ob1 (f1_put v1.toNatClampNeg shn shb v2 v3) (fun shn_5 =>
        some ((1 : Int32), shn_5, fd))))
    else (
      ob2 (f4_found fd (5 : Int32)) (fun r10 fd_11 =>
      some (r10, shn, fd_11)))))
set_option maxHeartbeats 4000000 in
set_option maxRecDepth 100000 in
theorem b4_write_0 {ta adK adV : Nat → Nat} {p : Program} {l : Launch} {e : Env} {s : State} {m : MethodId} {args : Array Value} {below : List Frame} {meth : Method} {c : Code} {D : va_G} {cI cB cG cS : ClassId} {ad : Nat → Nat} {A : Nat → Prop} {hp1 : Nat → Int32} {st1 : Nat → Int32} {tr1 : Nat → Nat → Int32} {sp1 : Nat → Int32} {vis1 : Int32} {day1 : Int32} {z1 : Int32} {hp2 : Nat → Int32} {st2 : Nat → Int32} {tr2 : Nat → Nat → Int32} {sp2 : Nat → Int32} {vis2 : Int32} {day2 : Int32} {z2 : Int32} {hp3 : Nat → Int32} {st3 : Nat → Int32} {tr3 : Nat → Nat → Int32} {sp3 : Nat → Int32} {vis3 : Int32} {day3 : Int32} {z3 : Int32} {tb : Nat → Int32} {tl : Int32} {rtok : Int32} {rbg : Int32} {ren : Int32} {rvl : Int32} {shb : Nat → Int32} {shz : Nat → Int32} {isK : Int32} {r0 : Int32} {o_shn : Nat → Nat → Int32} {o_fd : Nat → Int32} (C0 : CX (XS ta adK adV) p s m args meth c cX4_write 5 (some .int) RX4 A) : ∀ {shn : Nat → Nat → Int32} {fd : Nat → Int32} {v1 : Int32} {v2 : Int32} {v3 : Int32} {H : Heap} {locs : List Loc} {ls : Array Slot}, GX (XS ta adK adV) D (tyC cI cB cG cS) A s (wS cI cB cG cS ad hp1 st1 tr1 sp1 vis1 day1 z1 hp2 st2 tr2 sp2 vis2 day2 z2 hp3 st3 tr3 sp3 vis3 day3 z3 tb tl rtok rbg ren rvl shn shb shz fd isK) H locs → lv_has ls 5 [(0, .ref (ad 0)), (1, .int v1), (2, .int v2), (3, .int v3)] → f4_write shn shb shz fd v1 v2 v3 = some (r0, o_shn, o_fd) → W p l e ({ frames := 2, cells := 0, slots := 0, locals := 42 }) s m args below meth c H locs 0 0 (MQ below (QcI D (tyC cI cB cG cS) (wS cI cB cG cS ad hp1 st1 tr1 sp1 vis1 day1 z1 hp2 st2 tr2 sp2 vis2 day2 z2 hp3 st3 tr3 sp3 vis3 day3 z3 tb tl rtok rbg ren rvl o_shn shb shz o_fd isK) A r0) args s 0 0 A) (F0 m 0 ls []) := by
  have hx := C0.1
  have hb := C0.2.1
  have hown := C0.2.2.2.2.1
  have hts := C0.2.2.2.2.2.1
  have hX := C0.2.2.2.2.2.2.2.2
  intro shn fd v1 v2 v3 H locs ls G hl hf
  unfold f4_write at hf
  refine lv_iload_n hx hb dX4_write_0 rfl (lv_at hl 1 rfl) ?_
  refine go_i C0 G (runS_of (n := 1) (As := [.int v1]) (rest := []) C0 G (c4_isSheet hX rfl) q460 q49 q458 q459 o4_isSheet ⟨rfl, rfl⟩ ⟨Nat.le_of_ble_eq_true rfl, Nat.le_of_ble_eq_true rfl⟩ rfl hl.1 rfl (Nat.le_of_ble_eq_true rfl) dX4_write_1) (fun H locs G => ?_)
  refine lv_if_ne (tgt := 13) hx hb dX4_write_4 (by decide) (fun hc1 => ?_) (fun hc1 => ?_)
  · have hf := itn hc1 hf
    refine lv_aload_n hx hb dX4_write_13 rfl (lv_at hl 0 rfl) ?_
    refine s_get (C := RX4) (T := TX4) C0 G i_X4 0 5 rfl rfl (by decide) q178 rfl dX4_write_14 ?_
    refine lv_iload_n hx hb dX4_write_17 rfl (lv_at hl 1 rfl) ?_
    obtain ⟨hi2, hf⟩ := gd_s hf
    refine s_aldo (k := v1.toNatClampNeg) (b := ad (41 + 2 * v1.toNatClampNeg)) C0 G 40 3 rfl rfl (vin hi2) rfl rfl dX4_write_18 ?_
    refine lv_astore (lv' := [(4, .ref (ad (41 + 2 * v1.toNatClampNeg))), (0, .ref (ad 0)), (1, .int v1), (2, .int v2), (3, .int v3)]) hx hb dX4_write_19 hl (by decide) rfl (fun ls hl => ?_)
    refine lv_aload hx hb dX4_write_21 (lv_at hl 0 rfl) ?_
    refine go_i_sub C0 G s_sheets o_sheets (runV_sub (n := 0) (q0 := (41 + 2 * v1.toNatClampNeg)) (As := []) (rest := []) C0 G s_sheets (c1_isMissing hX (inb_lt hi2) rfl) q464 q53 q461 q462 q463 o1_isMissing ⟨rfl, rfl⟩ ⟨Nat.le_of_ble_eq_true rfl, Nat.le_of_ble_eq_true rfl⟩ (wS_sh (inb_lt hi2)) rfl rfl hl.1 rfl (Nat.le_of_ble_eq_true rfl) dX4_write_23) (fun H locs G => ?_)
    refine lv_if_eq (tgt := 35) hx hb dX4_write_26 (by decide) (fun hc3 => ?_) (fun hc3 => ?_)
    · have hf := itp hc3 hf
      refine lv_iload_n hx hb dX4_write_35 rfl (lv_at hl 3 rfl) ?_
      refine lv_iconst (v := (0 : Int32)) hx hb dX4_write_36 (by decide) ?_
      refine lv_aload hx hb dX4_write_37 (lv_at hl 0 rfl) ?_
      refine s_get (C := RX1) (T := TX1) C0 G i_X1 (41 + 2 * v1.toNatClampNeg) 2 (wS_sh (inb_lt hi2)) rfl (by decide) q165 rfl dX4_write_39 ?_
      refine lv_iconst (v := (1 : Int32)) hx hb dX4_write_42 (by decide) ?_
      refine lv_isub hx hb dX4_write_43 ?_
      refine go_i C0 G (runS_of (n := 3) (As := [.int v2, .int (0 : Int32), .int ((shz v1.toNatClampNeg) - (1 : Int32))]) (rest := []) C0 G (c4_within hX rfl) q204 q49 q202 q203 o4_within ⟨rfl, rfl⟩ ⟨Nat.le_of_ble_eq_true rfl, Nat.le_of_ble_eq_true rfl⟩ rfl hl.1 rfl (Nat.le_of_ble_eq_true rfl) dX4_write_44) (fun H locs G => ?_)
      refine lv_if_ne (tgt := 56) hx hb dX4_write_47 (by decide) (fun hc4 => ?_) (fun hc4 => ?_)
      · have hf := itn hc4 hf
        refine lv_aload hx hb dX4_write_56 (lv_at hl 0 rfl) ?_
        refine lv_iload_n hx hb dX4_write_58 rfl (lv_at hl 3 rfl) ?_
        refine lv_iload_n hx hb dX4_write_59 rfl (lv_at hl 4 rfl) ?_
        obtain ⟨shn_5, hc6, hf⟩ := ob1_s hf
        refine go_v_sub C0 G s_sheets o_sheets (runV_sub (n := 2) (q0 := (41 + 2 * v1.toNatClampNeg)) (As := [.int v2, .int v3]) (rest := []) C0 G s_sheets (c1_put hX (inb_lt hi2) hc6) q660 q53 q657 q658 q659 o1_put ⟨rfl, rfl⟩ ⟨Nat.le_of_ble_eq_true rfl, Nat.le_of_ble_eq_true rfl⟩ (wS_sh (inb_lt hi2)) rfl rfl hl.1 rfl (Nat.le_of_ble_eq_true rfl) dX4_write_60) (fun H locs G => ?_)
        refine lv_iconst (v := (1 : Int32)) hx hb dX4_write_63 (by decide) ?_
        obtain ⟨rfl, rfl, rfl⟩ := inj3 hf
        exact ret_i C0 G dX4_write_64
      · have hf := itp hc4 hf
        refine lv_aload_n hx hb dX4_write_50 rfl (lv_at hl 1 rfl) ?_
        refine lv_iconst (v := (0 : Int32)) hx hb dX4_write_51 (by decide) ?_
        obtain ⟨r7, fd_8, hc9, hf⟩ := ob2_s hf
        refine go_i C0 G (runV_of (n := 1) (q0 := 0) (As := [.int (0 : Int32)]) (rest := []) C0 G (c4_found hX hc9) q208 q49 q205 q207 q0 o4_found ⟨rfl, rfl⟩ ⟨Nat.le_of_ble_eq_true rfl, Nat.le_of_ble_eq_true rfl⟩ rfl rfl rfl hl.1 rfl (Nat.le_of_ble_eq_true rfl) dX4_write_52) (fun H locs G => ?_)
        obtain ⟨rfl, rfl, rfl⟩ := inj3 hf
        exact ret_i C0 G dX4_write_55
    · have hf := itn hc3 hf
      refine lv_aload_n hx hb dX4_write_29 rfl (lv_at hl 1 rfl) ?_
      refine lv_iconst (v := (5 : Int32)) hx hb dX4_write_30 (by decide) ?_
      obtain ⟨r10, fd_11, hc12, hf⟩ := ob2_s hf
      refine go_i C0 G (runV_of (n := 1) (q0 := 0) (As := [.int (5 : Int32)]) (rest := []) C0 G (c4_found hX hc12) q208 q49 q205 q207 q0 o4_found ⟨rfl, rfl⟩ ⟨Nat.le_of_ble_eq_true rfl, Nat.le_of_ble_eq_true rfl⟩ rfl rfl rfl hl.1 rfl (Nat.le_of_ble_eq_true rfl) dX4_write_31) (fun H locs G => ?_)
      obtain ⟨rfl, rfl, rfl⟩ := inj3 hf
      exact ret_i C0 G dX4_write_34
  · have hf := itp hc1 hf
    refine lv_aload_n hx hb dX4_write_7 rfl (lv_at hl 0 rfl) ?_
    refine lv_iconst (v := (0 : Int32)) hx hb dX4_write_8 (by decide) ?_
    obtain ⟨r13, fd_14, hc15, hf⟩ := ob2_s hf
    refine go_i C0 G (runV_of (n := 1) (q0 := 0) (As := [.int (0 : Int32)]) (rest := []) C0 G (c4_found hX hc15) q208 q49 q205 q207 q0 o4_found ⟨rfl, rfl⟩ ⟨Nat.le_of_ble_eq_true rfl, Nat.le_of_ble_eq_true rfl⟩ rfl rfl rfl hl.1 rfl (Nat.le_of_ble_eq_true rfl) dX4_write_9) (fun H locs G => ?_)
    obtain ⟨rfl, rfl, rfl⟩ := inj3 hf
    exact ret_i C0 G dX4_write_12
theorem o4_write : okName yX4_write 3 := ⟨by decide, by decide, by decide +kernel⟩
set_option maxHeartbeats 4000000 in
set_option maxRecDepth 100000 in
theorem c4_write {ta adK adV : Nat → Nat} (hX : XT (XS ta adK adV)) {l : Launch} {D : va_G} {cI cB cG cS : ClassId} {ad : Nat → Nat} {sz : Nat} {hp1 : Nat → Int32} {st1 : Nat → Int32} {tr1 : Nat → Nat → Int32} {sp1 : Nat → Int32} {vis1 : Int32} {day1 : Int32} {z1 : Int32} {hp2 : Nat → Int32} {st2 : Nat → Int32} {tr2 : Nat → Nat → Int32} {sp2 : Nat → Int32} {vis2 : Int32} {day2 : Int32} {z2 : Int32} {hp3 : Nat → Int32} {st3 : Nat → Int32} {tr3 : Nat → Nat → Int32} {sp3 : Nat → Int32} {vis3 : Int32} {day3 : Int32} {z3 : Int32} {tb : Nat → Int32} {tl : Int32} {rtok : Int32} {rbg : Int32} {ren : Int32} {rvl : Int32} {shn : Nat → Nat → Int32} {shb : Nat → Int32} {shz : Nat → Int32} {fd : Nat → Int32} {isK : Int32} {v1 : Int32} {v2 : Int32} {v3 : Int32} {r0 : Int32} {o_shn : Nat → Nat → Int32} {o_fd : Nat → Int32} (hf : f4_write shn shb shz fd v1 v2 v3 = some (r0, o_shn, o_fd)) : Met l yX4_write (wU yX4_write cX4_write 5 (some .int)) ({ frames := 2, cells := 0, slots := 0, locals := 42 }) (va_Pc [.ref (ad 0), .int v1, .int v2, .int v3] (PreW (XS ta adK adV) D (tyC cI cB cG cS) (wS cI cB cG cS ad hp1 st1 tr1 sp1 vis1 day1 z1 hp2 st2 tr2 sp2 vis2 day2 z2 hp3 st3 tr3 sp3 vis3 day3 z3 tb tl rtok rbg ren rvl shn shb shz fd isK) sz)) (QcI D (tyC cI cB cG cS) (wS cI cB cG cS ad hp1 st1 tr1 sp1 vis1 day1 z1 hp2 st2 tr2 sp2 vis2 day2 z2 hp3 st3 tr3 sp3 vis3 day3 z3 tb tl rtok rbg ren rvl o_shn shb shz o_fd isK) (va_A (wS cI cB cG cS ad hp1 st1 tr1 sp1 vis1 day1 z1 hp2 st2 tr2 sp2 vis2 day2 z2 hp3 st3 tr3 sp3 vis3 day3 z3 tb tl rtok rbg ren rvl shn shb shz fd isK) sz) r0) 0 0 (va_A (wS cI cB cG cS ad hp1 st1 tr1 sp1 vis1 day1 z1 hp2 st2 tr2 sp2 vis2 day2 z2 hp3 st3 tr3 sp3 vis3 day3 z3 tb tl rtok rbg ren rvl shn shb shz fd isK) sz) := by
  refine startW hX (own := RX4) (by decide) rfl (Nat.le_of_ble_eq_true rfl) (fun p e s m args below meth c ls C0 G hl => ?_)
  exact b4_write_0 C0 G hl hf
/-! 1_hasPart -/
theorem dX1_hasPart_0 : decode cX1_hasPart 0 = .ok (.iload_n 1, 1) := by decide +kernel
theorem dX1_hasPart_1 : decode cX1_hasPart 1 = .ok (.ifCond .lt 21, 3) := by decide +kernel
theorem dX1_hasPart_4 : decode cX1_hasPart 4 = .ok (.iload_n 2, 1) := by decide +kernel
theorem dX1_hasPart_5 : decode cX1_hasPart 5 = .ok (.ifCond .lt 17, 3) := by decide +kernel
theorem dX1_hasPart_8 : decode cX1_hasPart 8 = .ok (.iload_n 2, 1) := by decide +kernel
theorem dX1_hasPart_9 : decode cX1_hasPart 9 = .ok (.aload_n 0, 1) := by decide +kernel
theorem dX1_hasPart_10 : decode cX1_hasPart 10 = .ok (.getfield 19, 3) := by decide +kernel
theorem dX1_hasPart_13 : decode cX1_hasPart 13 = .ok (.iload_n 1, 1) := by decide +kernel
theorem dX1_hasPart_14 : decode cX1_hasPart 14 = .ok (.isub, 1) := by decide +kernel
theorem dX1_hasPart_15 : decode cX1_hasPart 15 = .ok (.if_icmp .gt 7, 3) := by decide +kernel
theorem dX1_hasPart_18 : decode cX1_hasPart 18 = .ok (.iconst 1, 1) := by decide +kernel
theorem dX1_hasPart_19 : decode cX1_hasPart 19 = .ok (.goto 4, 3) := by decide +kernel
theorem dX1_hasPart_22 : decode cX1_hasPart 22 = .ok (.iconst 0, 1) := by decide +kernel
theorem dX1_hasPart_23 : decode cX1_hasPart 23 = .ok (.ireturn, 1) := by decide +kernel
def f1_hasPart (t : Nat) (shz : Nat → Int32) (v1 : Int32) (v2 : Int32) : Int32 :=
  if v1 < (0 : Int32) then (
    (0 : Int32))
  else (
    if v2 < (0 : Int32) then (
      (0 : Int32))
    else (
      if ((shz t) - v1) < v2 then (
        (0 : Int32))
      else (
        (1 : Int32))))
set_option maxHeartbeats 4000000 in
set_option maxRecDepth 100000 in
theorem b1_hasPart_0 {ta adK adV : Nat → Nat} {p : Program} {l : Launch} {e : Env} {s : State} {m : MethodId} {args : Array Value} {below : List Frame} {meth : Method} {c : Code} {D : va_G} {cI cB cG cS : ClassId} {ad : Nat → Nat} {A : Nat → Prop} {t : Nat} {shn : Nat → Nat → Int32} {shb : Nat → Int32} {shz : Nat → Int32} {r0 : Int32} (C0 : CX (XS ta adK adV) p s m args meth c cX1_hasPart 3 (some .boolean) RX1 A) (ht : t < 4) : ∀ {v1 : Int32} {v2 : Int32} {H : Heap} {locs : List Loc} {ls : Array Slot}, GX (XS ta adK adV) D (tyC cI cB cG cS) A s (wH cI ad shn shb shz) H locs → lv_has ls 3 [(0, .ref (ad (2 * t))), (1, .int v1), (2, .int v2)] → f1_hasPart t shz v1 v2 = r0 → W p l e ({ frames := 0, cells := 0, slots := 0, locals := 0 }) s m args below meth c H locs 0 0 (MQ below (QcI D (tyC cI cB cG cS) (wH cI ad shn shb shz) A r0) args s 0 0 A) (F0 m 0 ls []) := by
  have hx := C0.1
  have hb := C0.2.1
  have hown := C0.2.2.2.2.1
  have hts := C0.2.2.2.2.2.1
  have hX := C0.2.2.2.2.2.2.2.2
  intro v1 v2 H locs ls G hl hf
  unfold f1_hasPart at hf
  refine lv_iload_n hx hb dX1_hasPart_0 rfl (lv_at hl 1 rfl) ?_
  refine lv_if_lt (tgt := 22) hx hb dX1_hasPart_1 (by decide) (fun hc1 => ?_) (fun hc1 => ?_)
  · have hf := itp hc1 hf
    refine lv_iconst (v := (0 : Int32)) hx hb dX1_hasPart_22 (by decide) ?_
    obtain rfl := tnj1 hf
    exact ret_z C0 G rfl dX1_hasPart_23
  · have hf := itn hc1 hf
    refine lv_iload_n hx hb dX1_hasPart_4 rfl (lv_at hl 2 rfl) ?_
    refine lv_if_lt (tgt := 22) hx hb dX1_hasPart_5 (by decide) (fun hc2 => ?_) (fun hc2 => ?_)
    · have hf := itp hc2 hf
      refine lv_iconst (v := (0 : Int32)) hx hb dX1_hasPart_22 (by decide) ?_
      obtain rfl := tnj1 hf
      exact ret_z C0 G rfl dX1_hasPart_23
    · have hf := itn hc2 hf
      refine lv_iload_n hx hb dX1_hasPart_8 rfl (lv_at hl 2 rfl) ?_
      refine lv_aload_n hx hb dX1_hasPart_9 rfl (lv_at hl 0 rfl) ?_
      refine s_get (C := RX1) (T := TX1) C0 G i_X1 (2 * t) 2 (wH_sh ht) rfl (by decide) q164 rfl dX1_hasPart_10 ?_
      refine lv_iload_n hx hb dX1_hasPart_13 rfl (lv_at hl 1 rfl) ?_
      refine lv_isub hx hb dX1_hasPart_14 ?_
      refine lv_icmp_gt (tgt := 22) hx hb dX1_hasPart_15 (by decide) (fun hc3 => ?_) (fun hc3 => ?_)
      · have hf := itp hc3 hf
        refine lv_iconst (v := (0 : Int32)) hx hb dX1_hasPart_22 (by decide) ?_
        obtain rfl := tnj1 hf
        exact ret_z C0 G rfl dX1_hasPart_23
      · have hf := itn hc3 hf
        refine lv_iconst (v := (1 : Int32)) hx hb dX1_hasPart_18 (by decide) ?_
        refine lv_goto (tgt := 23) hx hb dX1_hasPart_19 (by decide) ?_
        obtain rfl := tnj1 hf
        exact ret_z C0 G rfl dX1_hasPart_23
theorem z1_hasPart (t : Nat) (shz : Nat → Int32) (v1 : Int32) (v2 : Int32) : b01 (f1_hasPart t shz v1 v2) = true := by
  unfold f1_hasPart
  (repeat' split) <;> first | rfl
theorem o1_hasPart : okName yX1_hasPart 2 := ⟨by decide, by decide, by decide +kernel⟩
set_option maxHeartbeats 4000000 in
set_option maxRecDepth 100000 in
theorem c1_hasPart {ta adK adV : Nat → Nat} (hX : XT (XS ta adK adV)) {l : Launch} {D : va_G} {cI cB cG cS : ClassId} {ad : Nat → Nat} {sz : Nat} {t : Nat} {shn : Nat → Nat → Int32} {shb : Nat → Int32} {shz : Nat → Int32} {v1 : Int32} {v2 : Int32} {r0 : Int32} (ht : t < 4) (hf : f1_hasPart t shz v1 v2 = r0) : Met l yX1_hasPart (wU yX1_hasPart cX1_hasPart 3 (some .boolean)) ({ frames := 0, cells := 0, slots := 0, locals := 0 }) (va_Pc [.ref (ad (2 * t)), .int v1, .int v2] (PreW (XS ta adK adV) D (tyC cI cB cG cS) (wH cI ad shn shb shz) sz)) (QcI D (tyC cI cB cG cS) (wH cI ad shn shb shz) (va_A (wH cI ad shn shb shz) sz) r0) 0 0 (va_A (wH cI ad shn shb shz) sz) := by
  refine startW hX (own := RX1) (by decide) rfl (Nat.le_of_ble_eq_true rfl) (fun p e s m args below meth c ls C0 G hl => ?_)
  exact b1_hasPart_0 C0 ht G hl hf
/-! 4_copy -/
theorem dX4_copy_0 : decode cX4_copy 0 = .ok (.iload_n 1, 1) := by decide +kernel
theorem dX4_copy_1 : decode cX4_copy 1 = .ok (.invokestatic 195, 3) := by decide +kernel
theorem dX4_copy_4 : decode cX4_copy 4 = .ok (.ifCond .eq 10, 3) := by decide +kernel
theorem dX4_copy_7 : decode cX4_copy 7 = .ok (.iload_n 3, 1) := by decide +kernel
theorem dX4_copy_8 : decode cX4_copy 8 = .ok (.invokestatic 195, 3) := by decide +kernel
theorem dX4_copy_11 : decode cX4_copy 11 = .ok (.ifCond .ne 9, 3) := by decide +kernel
theorem dX4_copy_14 : decode cX4_copy 14 = .ok (.aload_n 0, 1) := by decide +kernel
theorem dX4_copy_15 : decode cX4_copy 15 = .ok (.iconst 0, 1) := by decide +kernel
theorem dX4_copy_16 : decode cX4_copy 16 = .ok (.invokevirtual 49, 3) := by decide +kernel
theorem dX4_copy_19 : decode cX4_copy 19 = .ok (.ireturn, 1) := by decide +kernel
theorem dX4_copy_20 : decode cX4_copy 20 = .ok (.aload_n 0, 1) := by decide +kernel
theorem dX4_copy_21 : decode cX4_copy 21 = .ok (.getfield 36, 3) := by decide +kernel
theorem dX4_copy_24 : decode cX4_copy 24 = .ok (.iload_n 1, 1) := by decide +kernel
theorem dX4_copy_25 : decode cX4_copy 25 = .ok (.aaload, 1) := by decide +kernel
theorem dX4_copy_26 : decode cX4_copy 26 = .ok (.astore 6, 2) := by decide +kernel
theorem dX4_copy_28 : decode cX4_copy 28 = .ok (.aload_n 0, 1) := by decide +kernel
theorem dX4_copy_29 : decode cX4_copy 29 = .ok (.getfield 36, 3) := by decide +kernel
theorem dX4_copy_32 : decode cX4_copy 32 = .ok (.iload_n 3, 1) := by decide +kernel
theorem dX4_copy_33 : decode cX4_copy 33 = .ok (.aaload, 1) := by decide +kernel
theorem dX4_copy_34 : decode cX4_copy 34 = .ok (.astore 7, 2) := by decide +kernel
theorem dX4_copy_36 : decode cX4_copy 36 = .ok (.aload 6, 2) := by decide +kernel
theorem dX4_copy_38 : decode cX4_copy 38 = .ok (.invokevirtual 204, 3) := by decide +kernel
theorem dX4_copy_41 : decode cX4_copy 41 = .ok (.ifCond .ne 11, 3) := by decide +kernel
theorem dX4_copy_44 : decode cX4_copy 44 = .ok (.aload 7, 2) := by decide +kernel
theorem dX4_copy_46 : decode cX4_copy 46 = .ok (.invokevirtual 204, 3) := by decide +kernel
theorem dX4_copy_49 : decode cX4_copy 49 = .ok (.ifCond .eq 9, 3) := by decide +kernel
theorem dX4_copy_52 : decode cX4_copy 52 = .ok (.aload_n 0, 1) := by decide +kernel
theorem dX4_copy_53 : decode cX4_copy 53 = .ok (.iconst 5, 1) := by decide +kernel
theorem dX4_copy_54 : decode cX4_copy 54 = .ok (.invokevirtual 49, 3) := by decide +kernel
theorem dX4_copy_57 : decode cX4_copy 57 = .ok (.ireturn, 1) := by decide +kernel
theorem dX4_copy_58 : decode cX4_copy 58 = .ok (.aload 6, 2) := by decide +kernel
theorem dX4_copy_60 : decode cX4_copy 60 = .ok (.getfield 210, 3) := by decide +kernel
theorem dX4_copy_63 : decode cX4_copy 63 = .ok (.aload 7, 2) := by decide +kernel
theorem dX4_copy_65 : decode cX4_copy 65 = .ok (.getfield 210, 3) := by decide +kernel
theorem dX4_copy_68 : decode cX4_copy 68 = .ok (.if_icmp .eq 9, 3) := by decide +kernel
theorem dX4_copy_71 : decode cX4_copy 71 = .ok (.aload_n 0, 1) := by decide +kernel
theorem dX4_copy_72 : decode cX4_copy 72 = .ok (.iconst 2, 1) := by decide +kernel
theorem dX4_copy_73 : decode cX4_copy 73 = .ok (.invokevirtual 49, 3) := by decide +kernel
theorem dX4_copy_76 : decode cX4_copy 76 = .ok (.ireturn, 1) := by decide +kernel
theorem dX4_copy_77 : decode cX4_copy 77 = .ok (.aload 6, 2) := by decide +kernel
theorem dX4_copy_79 : decode cX4_copy 79 = .ok (.iload_n 2, 1) := by decide +kernel
theorem dX4_copy_80 : decode cX4_copy 80 = .ok (.iload 5, 2) := by decide +kernel
theorem dX4_copy_82 : decode cX4_copy 82 = .ok (.invokevirtual 213, 3) := by decide +kernel
theorem dX4_copy_85 : decode cX4_copy 85 = .ok (.ifCond .eq 15, 3) := by decide +kernel
theorem dX4_copy_88 : decode cX4_copy 88 = .ok (.aload 7, 2) := by decide +kernel
theorem dX4_copy_90 : decode cX4_copy 90 = .ok (.iload 4, 2) := by decide +kernel
theorem dX4_copy_92 : decode cX4_copy 92 = .ok (.iload 5, 2) := by decide +kernel
theorem dX4_copy_94 : decode cX4_copy 94 = .ok (.invokevirtual 213, 3) := by decide +kernel
theorem dX4_copy_97 : decode cX4_copy 97 = .ok (.ifCond .ne 9, 3) := by decide +kernel
theorem dX4_copy_100 : decode cX4_copy 100 = .ok (.aload_n 0, 1) := by decide +kernel
theorem dX4_copy_101 : decode cX4_copy 101 = .ok (.iconst 0, 1) := by decide +kernel
theorem dX4_copy_102 : decode cX4_copy 102 = .ok (.invokevirtual 49, 3) := by decide +kernel
theorem dX4_copy_105 : decode cX4_copy 105 = .ok (.ireturn, 1) := by decide +kernel
theorem dX4_copy_106 : decode cX4_copy 106 = .ok (.aload 6, 2) := by decide +kernel
theorem dX4_copy_108 : decode cX4_copy 108 = .ok (.getfield 216, 3) := by decide +kernel
theorem dX4_copy_111 : decode cX4_copy 111 = .ok (.iload_n 2, 1) := by decide +kernel
theorem dX4_copy_112 : decode cX4_copy 112 = .ok (.aload 7, 2) := by decide +kernel
theorem dX4_copy_114 : decode cX4_copy 114 = .ok (.getfield 216, 3) := by decide +kernel
theorem dX4_copy_117 : decode cX4_copy 117 = .ok (.iload 4, 2) := by decide +kernel
theorem dX4_copy_119 : decode cX4_copy 119 = .ok (.iload 5, 2) := by decide +kernel
theorem dX4_copy_121 : decode cX4_copy 121 = .ok (.invokestatic 219, 3) := by decide +kernel
theorem dX4_copy_124 : decode cX4_copy 124 = .ok (.iload 5, 2) := by decide +kernel
theorem dX4_copy_126 : decode cX4_copy 126 = .ok (.ireturn, 1) := by decide +kernel
def j4_copy_14  (shn : Nat → Nat → Int32) (shb : Nat → Int32) (shz : Nat → Int32) (fd : Nat → Int32)  : Option (Int32 × (Nat → Nat → Int32) × (Nat → Int32)) :=
  ob2 (f4_found fd (0 : Int32)) (fun r14 fd_15 =>
  some (r14, shn, fd_15))
def j4_copy_52  (shn : Nat → Nat → Int32) (shb : Nat → Int32) (shz : Nat → Int32) (fd : Nat → Int32)  : Option (Int32 × (Nat → Nat → Int32) × (Nat → Int32)) :=
  ob2 (f4_found fd (5 : Int32)) (fun r17 fd_18 =>
  some (r17, shn, fd_18))
def j4_copy_100  (shn : Nat → Nat → Int32) (shb : Nat → Int32) (shz : Nat → Int32) (fd : Nat → Int32)  : Option (Int32 × (Nat → Nat → Int32) × (Nat → Int32)) :=
  ob2 (f4_found fd (0 : Int32)) (fun r20 fd_21 =>
  some (r20, shn, fd_21))
def f4_copy (shn : Nat → Nat → Int32) (shb : Nat → Int32) (shz : Nat → Int32) (fd : Nat → Int32) (v1 : Int32) (v2 : Int32) (v3 : Int32) (v4 : Int32) (v5 : Int32) : Option (Int32 × (Nat → Nat → Int32) × (Nat → Int32)) :=
  if (f4_isSheet v1) = (0 : Int32) then (
    j4_copy_14 shn shb shz fd)
  else (
    if (f4_isSheet v3) = (0 : Int32) then (
      j4_copy_14 shn shb shz fd)
    else (
      gd (inb v1 4) (
      gd (inb v3 4) (
      if (f1_isMissing v1.toNatClampNeg shb) = (0 : Int32) then (
        if (f1_isMissing v3.toNatClampNeg shb) = (0 : Int32) then (
          if (shb v1.toNatClampNeg) = (shb v3.toNatClampNeg) then (
            if (f1_hasPart v1.toNatClampNeg shz v2 v5) = (0 : Int32) then (
              j4_copy_100 shn shb shz fd)
            else (
              if (f1_hasPart v3.toNatClampNeg shz v4 v5) = (0 : Int32) then (
                j4_copy_100 shn shb shz fd)
              else (
                gd (cpok v2 v4 v5 40 40) (
                some (v5, (updR shn v3.toNatClampNeg (va_cpy (shn v1.toNatClampNeg) (shn v3.toNatClampNeg) v2.toNatClampNeg v4.toNatClampNeg v5.toNatClampNeg)), fd)))))
          else (
            ob2 (f4_found fd (2 : Int32)) (fun r11 fd_12 =>
            some (r11, shn, fd_12))))
        else (
          j4_copy_52 shn shb shz fd))
      else (
        j4_copy_52 shn shb shz fd)))))
set_option maxHeartbeats 4000000 in
set_option maxRecDepth 100000 in
theorem b4_copy_14 {ta adK adV : Nat → Nat} {p : Program} {l : Launch} {e : Env} {s : State} {m : MethodId} {args : Array Value} {below : List Frame} {meth : Method} {c : Code} {D : va_G} {cI cB cG cS : ClassId} {ad : Nat → Nat} {A : Nat → Prop} {hp1 : Nat → Int32} {st1 : Nat → Int32} {tr1 : Nat → Nat → Int32} {sp1 : Nat → Int32} {vis1 : Int32} {day1 : Int32} {z1 : Int32} {hp2 : Nat → Int32} {st2 : Nat → Int32} {tr2 : Nat → Nat → Int32} {sp2 : Nat → Int32} {vis2 : Int32} {day2 : Int32} {z2 : Int32} {hp3 : Nat → Int32} {st3 : Nat → Int32} {tr3 : Nat → Nat → Int32} {sp3 : Nat → Int32} {vis3 : Int32} {day3 : Int32} {z3 : Int32} {tb : Nat → Int32} {tl : Int32} {rtok : Int32} {rbg : Int32} {ren : Int32} {rvl : Int32} {shb : Nat → Int32} {shz : Nat → Int32} {isK : Int32} {r0 : Int32} {o_shn : Nat → Nat → Int32} {o_fd : Nat → Int32} (C0 : CX (XS ta adK adV) p s m args meth c cX4_copy 8 (some .int) RX4 A) : ∀ {shn : Nat → Nat → Int32} {fd : Nat → Int32} {H : Heap} {locs : List Loc} {ls : Array Slot}, GX (XS ta adK adV) D (tyC cI cB cG cS) A s (wS cI cB cG cS ad hp1 st1 tr1 sp1 vis1 day1 z1 hp2 st2 tr2 sp2 vis2 day2 z2 hp3 st3 tr3 sp3 vis3 day3 z3 tb tl rtok rbg ren rvl shn shb shz fd isK) H locs → lv_has ls 8 [(0, .ref (ad 0))] → j4_copy_14  shn shb shz fd = some (r0, o_shn, o_fd) → W p l e ({ frames := 2, cells := 0, slots := 0, locals := 60 }) s m args below meth c H locs 0 0 (MQ below (QcI D (tyC cI cB cG cS) (wS cI cB cG cS ad hp1 st1 tr1 sp1 vis1 day1 z1 hp2 st2 tr2 sp2 vis2 day2 z2 hp3 st3 tr3 sp3 vis3 day3 z3 tb tl rtok rbg ren rvl o_shn shb shz o_fd isK) A r0) args s 0 0 A) (F0 m 14 ls []) := by
  have hx := C0.1
  have hb := C0.2.1
  have hown := C0.2.2.2.2.1
  have hts := C0.2.2.2.2.2.1
  have hX := C0.2.2.2.2.2.2.2.2
  intro shn fd H locs ls G hl hf
  unfold j4_copy_14 at hf
  refine lv_aload_n hx hb dX4_copy_14 rfl (lv_at hl 0 rfl) ?_
  refine lv_iconst (v := (0 : Int32)) hx hb dX4_copy_15 (by decide) ?_
  obtain ⟨r14, fd_15, hc16, hf⟩ := ob2_s hf
  refine go_i C0 G (runV_of (n := 1) (q0 := 0) (As := [.int (0 : Int32)]) (rest := []) C0 G (c4_found hX hc16) q208 q49 q205 q207 q0 o4_found ⟨rfl, rfl⟩ ⟨Nat.le_of_ble_eq_true rfl, Nat.le_of_ble_eq_true rfl⟩ rfl rfl rfl hl.1 rfl (Nat.le_of_ble_eq_true rfl) dX4_copy_16) (fun H locs G => ?_)
  obtain ⟨rfl, rfl, rfl⟩ := inj3 hf
  exact ret_i C0 G dX4_copy_19
set_option maxHeartbeats 4000000 in
set_option maxRecDepth 100000 in
theorem b4_copy_52 {ta adK adV : Nat → Nat} {p : Program} {l : Launch} {e : Env} {s : State} {m : MethodId} {args : Array Value} {below : List Frame} {meth : Method} {c : Code} {D : va_G} {cI cB cG cS : ClassId} {ad : Nat → Nat} {A : Nat → Prop} {hp1 : Nat → Int32} {st1 : Nat → Int32} {tr1 : Nat → Nat → Int32} {sp1 : Nat → Int32} {vis1 : Int32} {day1 : Int32} {z1 : Int32} {hp2 : Nat → Int32} {st2 : Nat → Int32} {tr2 : Nat → Nat → Int32} {sp2 : Nat → Int32} {vis2 : Int32} {day2 : Int32} {z2 : Int32} {hp3 : Nat → Int32} {st3 : Nat → Int32} {tr3 : Nat → Nat → Int32} {sp3 : Nat → Int32} {vis3 : Int32} {day3 : Int32} {z3 : Int32} {tb : Nat → Int32} {tl : Int32} {rtok : Int32} {rbg : Int32} {ren : Int32} {rvl : Int32} {shb : Nat → Int32} {shz : Nat → Int32} {isK : Int32} {r0 : Int32} {o_shn : Nat → Nat → Int32} {o_fd : Nat → Int32} (C0 : CX (XS ta adK adV) p s m args meth c cX4_copy 8 (some .int) RX4 A) : ∀ {shn : Nat → Nat → Int32} {fd : Nat → Int32} {H : Heap} {locs : List Loc} {ls : Array Slot}, GX (XS ta adK adV) D (tyC cI cB cG cS) A s (wS cI cB cG cS ad hp1 st1 tr1 sp1 vis1 day1 z1 hp2 st2 tr2 sp2 vis2 day2 z2 hp3 st3 tr3 sp3 vis3 day3 z3 tb tl rtok rbg ren rvl shn shb shz fd isK) H locs → lv_has ls 8 [(0, .ref (ad 0))] → j4_copy_52  shn shb shz fd = some (r0, o_shn, o_fd) → W p l e ({ frames := 2, cells := 0, slots := 0, locals := 60 }) s m args below meth c H locs 0 0 (MQ below (QcI D (tyC cI cB cG cS) (wS cI cB cG cS ad hp1 st1 tr1 sp1 vis1 day1 z1 hp2 st2 tr2 sp2 vis2 day2 z2 hp3 st3 tr3 sp3 vis3 day3 z3 tb tl rtok rbg ren rvl o_shn shb shz o_fd isK) A r0) args s 0 0 A) (F0 m 52 ls []) := by
  have hx := C0.1
  have hb := C0.2.1
  have hown := C0.2.2.2.2.1
  have hts := C0.2.2.2.2.2.1
  have hX := C0.2.2.2.2.2.2.2.2
  intro shn fd H locs ls G hl hf
  unfold j4_copy_52 at hf
  refine lv_aload_n hx hb dX4_copy_52 rfl (lv_at hl 0 rfl) ?_
  refine lv_iconst (v := (5 : Int32)) hx hb dX4_copy_53 (by decide) ?_
  obtain ⟨r17, fd_18, hc19, hf⟩ := ob2_s hf
  refine go_i C0 G (runV_of (n := 1) (q0 := 0) (As := [.int (5 : Int32)]) (rest := []) C0 G (c4_found hX hc19) q208 q49 q205 q207 q0 o4_found ⟨rfl, rfl⟩ ⟨Nat.le_of_ble_eq_true rfl, Nat.le_of_ble_eq_true rfl⟩ rfl rfl rfl hl.1 rfl (Nat.le_of_ble_eq_true rfl) dX4_copy_54) (fun H locs G => ?_)
  obtain ⟨rfl, rfl, rfl⟩ := inj3 hf
  exact ret_i C0 G dX4_copy_57
set_option maxHeartbeats 4000000 in
set_option maxRecDepth 100000 in
theorem b4_copy_100 {ta adK adV : Nat → Nat} {p : Program} {l : Launch} {e : Env} {s : State} {m : MethodId} {args : Array Value} {below : List Frame} {meth : Method} {c : Code} {D : va_G} {cI cB cG cS : ClassId} {ad : Nat → Nat} {A : Nat → Prop} {hp1 : Nat → Int32} {st1 : Nat → Int32} {tr1 : Nat → Nat → Int32} {sp1 : Nat → Int32} {vis1 : Int32} {day1 : Int32} {z1 : Int32} {hp2 : Nat → Int32} {st2 : Nat → Int32} {tr2 : Nat → Nat → Int32} {sp2 : Nat → Int32} {vis2 : Int32} {day2 : Int32} {z2 : Int32} {hp3 : Nat → Int32} {st3 : Nat → Int32} {tr3 : Nat → Nat → Int32} {sp3 : Nat → Int32} {vis3 : Int32} {day3 : Int32} {z3 : Int32} {tb : Nat → Int32} {tl : Int32} {rtok : Int32} {rbg : Int32} {ren : Int32} {rvl : Int32} {shb : Nat → Int32} {shz : Nat → Int32} {isK : Int32} {r0 : Int32} {o_shn : Nat → Nat → Int32} {o_fd : Nat → Int32} (C0 : CX (XS ta adK adV) p s m args meth c cX4_copy 8 (some .int) RX4 A) : ∀ {shn : Nat → Nat → Int32} {fd : Nat → Int32} {H : Heap} {locs : List Loc} {ls : Array Slot}, GX (XS ta adK adV) D (tyC cI cB cG cS) A s (wS cI cB cG cS ad hp1 st1 tr1 sp1 vis1 day1 z1 hp2 st2 tr2 sp2 vis2 day2 z2 hp3 st3 tr3 sp3 vis3 day3 z3 tb tl rtok rbg ren rvl shn shb shz fd isK) H locs → lv_has ls 8 [(0, .ref (ad 0))] → j4_copy_100  shn shb shz fd = some (r0, o_shn, o_fd) → W p l e ({ frames := 2, cells := 0, slots := 0, locals := 60 }) s m args below meth c H locs 0 0 (MQ below (QcI D (tyC cI cB cG cS) (wS cI cB cG cS ad hp1 st1 tr1 sp1 vis1 day1 z1 hp2 st2 tr2 sp2 vis2 day2 z2 hp3 st3 tr3 sp3 vis3 day3 z3 tb tl rtok rbg ren rvl o_shn shb shz o_fd isK) A r0) args s 0 0 A) (F0 m 100 ls []) := by
  have hx := C0.1
  have hb := C0.2.1
  have hown := C0.2.2.2.2.1
  have hts := C0.2.2.2.2.2.1
  have hX := C0.2.2.2.2.2.2.2.2
  intro shn fd H locs ls G hl hf
  unfold j4_copy_100 at hf
  refine lv_aload_n hx hb dX4_copy_100 rfl (lv_at hl 0 rfl) ?_
  refine lv_iconst (v := (0 : Int32)) hx hb dX4_copy_101 (by decide) ?_
  obtain ⟨r20, fd_21, hc22, hf⟩ := ob2_s hf
  refine go_i C0 G (runV_of (n := 1) (q0 := 0) (As := [.int (0 : Int32)]) (rest := []) C0 G (c4_found hX hc22) q208 q49 q205 q207 q0 o4_found ⟨rfl, rfl⟩ ⟨Nat.le_of_ble_eq_true rfl, Nat.le_of_ble_eq_true rfl⟩ rfl rfl rfl hl.1 rfl (Nat.le_of_ble_eq_true rfl) dX4_copy_102) (fun H locs G => ?_)
  obtain ⟨rfl, rfl, rfl⟩ := inj3 hf
  exact ret_i C0 G dX4_copy_105
set_option maxHeartbeats 4000000 in
set_option maxRecDepth 100000 in
theorem b4_copy_0 {ta adK adV : Nat → Nat} {p : Program} {l : Launch} {e : Env} {s : State} {m : MethodId} {args : Array Value} {below : List Frame} {meth : Method} {c : Code} {D : va_G} {cI cB cG cS : ClassId} {ad : Nat → Nat} {A : Nat → Prop} {hp1 : Nat → Int32} {st1 : Nat → Int32} {tr1 : Nat → Nat → Int32} {sp1 : Nat → Int32} {vis1 : Int32} {day1 : Int32} {z1 : Int32} {hp2 : Nat → Int32} {st2 : Nat → Int32} {tr2 : Nat → Nat → Int32} {sp2 : Nat → Int32} {vis2 : Int32} {day2 : Int32} {z2 : Int32} {hp3 : Nat → Int32} {st3 : Nat → Int32} {tr3 : Nat → Nat → Int32} {sp3 : Nat → Int32} {vis3 : Int32} {day3 : Int32} {z3 : Int32} {tb : Nat → Int32} {tl : Int32} {rtok : Int32} {rbg : Int32} {ren : Int32} {rvl : Int32} {shb : Nat → Int32} {shz : Nat → Int32} {isK : Int32} {r0 : Int32} {o_shn : Nat → Nat → Int32} {o_fd : Nat → Int32} (C0 : CX (XS ta adK adV) p s m args meth c cX4_copy 8 (some .int) RX4 A) : ∀ {shn : Nat → Nat → Int32} {fd : Nat → Int32} {v1 : Int32} {v2 : Int32} {v3 : Int32} {v4 : Int32} {v5 : Int32} {H : Heap} {locs : List Loc} {ls : Array Slot}, GX (XS ta adK adV) D (tyC cI cB cG cS) A s (wS cI cB cG cS ad hp1 st1 tr1 sp1 vis1 day1 z1 hp2 st2 tr2 sp2 vis2 day2 z2 hp3 st3 tr3 sp3 vis3 day3 z3 tb tl rtok rbg ren rvl shn shb shz fd isK) H locs → lv_has ls 8 [(0, .ref (ad 0)), (1, .int v1), (2, .int v2), (3, .int v3), (4, .int v4), (5, .int v5)] → f4_copy shn shb shz fd v1 v2 v3 v4 v5 = some (r0, o_shn, o_fd) → W p l e ({ frames := 2, cells := 0, slots := 0, locals := 60 }) s m args below meth c H locs 0 0 (MQ below (QcI D (tyC cI cB cG cS) (wS cI cB cG cS ad hp1 st1 tr1 sp1 vis1 day1 z1 hp2 st2 tr2 sp2 vis2 day2 z2 hp3 st3 tr3 sp3 vis3 day3 z3 tb tl rtok rbg ren rvl o_shn shb shz o_fd isK) A r0) args s 0 0 A) (F0 m 0 ls []) := by
  have hx := C0.1
  have hb := C0.2.1
  have hown := C0.2.2.2.2.1
  have hts := C0.2.2.2.2.2.1
  have hX := C0.2.2.2.2.2.2.2.2
  intro shn fd v1 v2 v3 v4 v5 H locs ls G hl hf
  unfold f4_copy at hf
  refine lv_iload_n hx hb dX4_copy_0 rfl (lv_at hl 1 rfl) ?_
  refine go_i C0 G (runS_of (n := 1) (As := [.int v1]) (rest := []) C0 G (c4_isSheet hX rfl) q460 q49 q458 q459 o4_isSheet ⟨rfl, rfl⟩ ⟨Nat.le_of_ble_eq_true rfl, Nat.le_of_ble_eq_true rfl⟩ rfl hl.1 rfl (Nat.le_of_ble_eq_true rfl) dX4_copy_1) (fun H locs G => ?_)
  refine lv_if_eq (tgt := 14) hx hb dX4_copy_4 (by decide) (fun hc1 => ?_) (fun hc1 => ?_)
  · have hf := itp hc1 hf
    exact b4_copy_14 C0  G (lv_sub hl [0] rfl) hf
  · have hf := itn hc1 hf
    refine lv_iload_n hx hb dX4_copy_7 rfl (lv_at hl 3 rfl) ?_
    refine go_i C0 G (runS_of (n := 1) (As := [.int v3]) (rest := []) C0 G (c4_isSheet hX rfl) q460 q49 q458 q459 o4_isSheet ⟨rfl, rfl⟩ ⟨Nat.le_of_ble_eq_true rfl, Nat.le_of_ble_eq_true rfl⟩ rfl hl.1 rfl (Nat.le_of_ble_eq_true rfl) dX4_copy_8) (fun H locs G => ?_)
    refine lv_if_ne (tgt := 20) hx hb dX4_copy_11 (by decide) (fun hc2 => ?_) (fun hc2 => ?_)
    · have hf := itn hc2 hf
      refine lv_aload_n hx hb dX4_copy_20 rfl (lv_at hl 0 rfl) ?_
      refine s_get (C := RX4) (T := TX4) C0 G i_X4 0 5 rfl rfl (by decide) q178 rfl dX4_copy_21 ?_
      refine lv_iload_n hx hb dX4_copy_24 rfl (lv_at hl 1 rfl) ?_
      obtain ⟨hi3, hf⟩ := gd_s hf
      refine s_aldo (k := v1.toNatClampNeg) (b := ad (41 + 2 * v1.toNatClampNeg)) C0 G 40 3 rfl rfl (vin hi3) rfl rfl dX4_copy_25 ?_
      refine lv_astore (lv' := [(6, .ref (ad (41 + 2 * v1.toNatClampNeg))), (0, .ref (ad 0)), (1, .int v1), (2, .int v2), (3, .int v3), (4, .int v4), (5, .int v5)]) hx hb dX4_copy_26 hl (by decide) rfl (fun ls hl => ?_)
      refine lv_aload_n hx hb dX4_copy_28 rfl (lv_at hl 1 rfl) ?_
      refine s_get (C := RX4) (T := TX4) C0 G i_X4 0 5 rfl rfl (by decide) q178 rfl dX4_copy_29 ?_
      refine lv_iload_n hx hb dX4_copy_32 rfl (lv_at hl 4 rfl) ?_
      obtain ⟨hi4, hf⟩ := gd_s hf
      refine s_aldo (k := v3.toNatClampNeg) (b := ad (41 + 2 * v3.toNatClampNeg)) C0 G 40 3 rfl rfl (vin hi4) rfl rfl dX4_copy_33 ?_
      refine lv_astore (lv' := [(7, .ref (ad (41 + 2 * v3.toNatClampNeg))), (6, .ref (ad (41 + 2 * v1.toNatClampNeg))), (0, .ref (ad 0)), (1, .int v1), (2, .int v2), (3, .int v3), (4, .int v4), (5, .int v5)]) hx hb dX4_copy_34 hl (by decide) rfl (fun ls hl => ?_)
      refine lv_aload hx hb dX4_copy_36 (lv_at hl 1 rfl) ?_
      refine go_i_sub C0 G s_sheets o_sheets (runV_sub (n := 0) (q0 := (41 + 2 * v1.toNatClampNeg)) (As := []) (rest := []) C0 G s_sheets (c1_isMissing hX (inb_lt hi3) rfl) q464 q53 q461 q462 q463 o1_isMissing ⟨rfl, rfl⟩ ⟨Nat.le_of_ble_eq_true rfl, Nat.le_of_ble_eq_true rfl⟩ (wS_sh (inb_lt hi3)) rfl rfl hl.1 rfl (Nat.le_of_ble_eq_true rfl) dX4_copy_38) (fun H locs G => ?_)
      refine lv_if_ne (tgt := 52) hx hb dX4_copy_41 (by decide) (fun hc5 => ?_) (fun hc5 => ?_)
      · have hf := itn hc5 hf
        exact b4_copy_52 C0  G (lv_sub hl [2] rfl) hf
      · have hf := itp hc5 hf
        refine lv_aload hx hb dX4_copy_44 (lv_at hl 0 rfl) ?_
        refine go_i_sub C0 G s_sheets o_sheets (runV_sub (n := 0) (q0 := (41 + 2 * v3.toNatClampNeg)) (As := []) (rest := []) C0 G s_sheets (c1_isMissing hX (inb_lt hi4) rfl) q464 q53 q461 q462 q463 o1_isMissing ⟨rfl, rfl⟩ ⟨Nat.le_of_ble_eq_true rfl, Nat.le_of_ble_eq_true rfl⟩ (wS_sh (inb_lt hi4)) rfl rfl hl.1 rfl (Nat.le_of_ble_eq_true rfl) dX4_copy_46) (fun H locs G => ?_)
        refine lv_if_eq (tgt := 58) hx hb dX4_copy_49 (by decide) (fun hc6 => ?_) (fun hc6 => ?_)
        · have hf := itp hc6 hf
          refine lv_aload hx hb dX4_copy_58 (lv_at hl 1 rfl) ?_
          refine s_get (C := RX1) (T := TX1) C0 G i_X1 (41 + 2 * v1.toNatClampNeg) 1 (wS_sh (inb_lt hi3)) rfl (by decide) q163 rfl dX4_copy_60 ?_
          refine lv_aload hx hb dX4_copy_63 (lv_at hl 0 rfl) ?_
          refine s_get (C := RX1) (T := TX1) C0 G i_X1 (41 + 2 * v3.toNatClampNeg) 1 (wS_sh (inb_lt hi4)) rfl (by decide) q163 rfl dX4_copy_65 ?_
          refine lv_icmp_eq (tgt := 77) hx hb dX4_copy_68 (by decide) (fun hc7 => ?_) (fun hc7 => ?_)
          · have hf := itp hc7 hf
            refine lv_aload hx hb dX4_copy_77 (lv_at hl 1 rfl) ?_
            refine lv_iload_n hx hb dX4_copy_79 rfl (lv_at hl 4 rfl) ?_
            refine lv_iload hx hb dX4_copy_80 (lv_at hl 7 rfl) ?_
            refine go_i_sub C0 G s_sheets o_sheets (runV_sub (n := 2) (q0 := (41 + 2 * v1.toNatClampNeg)) (As := [.int v2, .int v5]) (rest := []) C0 G s_sheets (c1_hasPart hX (inb_lt hi3) rfl) q668 q53 q665 q666 q667 o1_hasPart ⟨rfl, rfl⟩ ⟨Nat.le_of_ble_eq_true rfl, Nat.le_of_ble_eq_true rfl⟩ (wS_sh (inb_lt hi3)) rfl rfl hl.1 rfl (Nat.le_of_ble_eq_true rfl) dX4_copy_82) (fun H locs G => ?_)
            refine lv_if_eq (tgt := 100) hx hb dX4_copy_85 (by decide) (fun hc8 => ?_) (fun hc8 => ?_)
            · have hf := itp hc8 hf
              exact b4_copy_100 C0  G (lv_sub hl [2] rfl) hf
            · have hf := itn hc8 hf
              refine lv_aload hx hb dX4_copy_88 (lv_at hl 0 rfl) ?_
              refine lv_iload hx hb dX4_copy_90 (lv_at hl 6 rfl) ?_
              refine lv_iload hx hb dX4_copy_92 (lv_at hl 7 rfl) ?_
              refine go_i_sub C0 G s_sheets o_sheets (runV_sub (n := 2) (q0 := (41 + 2 * v3.toNatClampNeg)) (As := [.int v4, .int v5]) (rest := []) C0 G s_sheets (c1_hasPart hX (inb_lt hi4) rfl) q668 q53 q665 q666 q667 o1_hasPart ⟨rfl, rfl⟩ ⟨Nat.le_of_ble_eq_true rfl, Nat.le_of_ble_eq_true rfl⟩ (wS_sh (inb_lt hi4)) rfl rfl hl.1 rfl (Nat.le_of_ble_eq_true rfl) dX4_copy_94) (fun H locs G => ?_)
              refine lv_if_ne (tgt := 106) hx hb dX4_copy_97 (by decide) (fun hc9 => ?_) (fun hc9 => ?_)
              · have hf := itn hc9 hf
                refine lv_aload hx hb dX4_copy_106 (lv_at hl 1 rfl) ?_
                refine s_get (C := RX1) (T := TX1) C0 G i_X1 (41 + 2 * v1.toNatClampNeg) 0 (wS_sh (inb_lt hi3)) rfl (by decide) q161 rfl dX4_copy_108 ?_
                refine lv_iload_n hx hb dX4_copy_111 rfl (lv_at hl 4 rfl) ?_
                refine lv_aload hx hb dX4_copy_112 (lv_at hl 0 rfl) ?_
                refine s_get (C := RX1) (T := TX1) C0 G i_X1 (41 + 2 * v3.toNatClampNeg) 0 (wS_sh (inb_lt hi4)) rfl (by decide) q161 rfl dX4_copy_114 ?_
                refine lv_iload hx hb dX4_copy_117 (lv_at hl 6 rfl) ?_
                refine lv_iload hx hb dX4_copy_119 (lv_at hl 7 rfl) ?_
                obtain ⟨hi10, hf⟩ := gd_s hf
                refine s_cpy (ks := v2.toNatClampNeg) (kd := v4.toNatClampNeg) (kn := v5.toNatClampNeg) (f' := (va_cpy (shn v1.toNatClampNeg) (shn v3.toNatClampNeg) v2.toNatClampNeg v4.toNatClampNeg v5.toNatClampNeg)) (w' := (wS cI cB cG cS ad hp1 st1 tr1 sp1 vis1 day1 z1 hp2 st2 tr2 sp2 vis2 day2 z2 hp3 st3 tr3 sp3 vis3 day3 z3 tb tl rtok rbg ren rvl (updR shn v3.toNatClampNeg (va_cpy (shn v1.toNatClampNeg) (shn v3.toNatClampNeg) v2.toNatClampNeg v4.toNatClampNeg v5.toNatClampNeg)) shb shz fd isK)) C0 G hl.1 q669 (41 + (2 * v1.toNatClampNeg + 1)) (41 + (2 * v3.toNatClampNeg + 1)) 0 (wS_shn (inb_lt hi3)) (wS_shn (inb_lt hi4)) rfl rfl (cpok_s hi10).1 (cpok_s hi10).2.1 (cpok_s hi10).2.2.1 rfl rfl rfl (cpok_s hi10).2.2.2.1 (cpok_s hi10).2.2.2.2 (fun _ _ => rfl) (wS_setR (inb_lt hi4)) ⟨Nat.le_of_ble_eq_true rfl, Nat.le_of_ble_eq_true rfl⟩ dX4_copy_121 (fun H locs G => ?_)
                refine lv_iload hx hb dX4_copy_124 (lv_at hl 7 rfl) ?_
                obtain ⟨rfl, rfl, rfl⟩ := inj3 hf
                exact ret_i C0 G dX4_copy_126
              · have hf := itp hc9 hf
                exact b4_copy_100 C0  G (lv_sub hl [2] rfl) hf
          · have hf := itn hc7 hf
            refine lv_aload_n hx hb dX4_copy_71 rfl (lv_at hl 2 rfl) ?_
            refine lv_iconst (v := (2 : Int32)) hx hb dX4_copy_72 (by decide) ?_
            obtain ⟨r11, fd_12, hc13, hf⟩ := ob2_s hf
            refine go_i C0 G (runV_of (n := 1) (q0 := 0) (As := [.int (2 : Int32)]) (rest := []) C0 G (c4_found hX hc13) q208 q49 q205 q207 q0 o4_found ⟨rfl, rfl⟩ ⟨Nat.le_of_ble_eq_true rfl, Nat.le_of_ble_eq_true rfl⟩ rfl rfl rfl hl.1 rfl (Nat.le_of_ble_eq_true rfl) dX4_copy_73) (fun H locs G => ?_)
            obtain ⟨rfl, rfl, rfl⟩ := inj3 hf
            exact ret_i C0 G dX4_copy_76
        · have hf := itn hc6 hf
          exact b4_copy_52 C0  G (lv_sub hl [2] rfl) hf
    · have hf := itp hc2 hf
      exact b4_copy_14 C0  G (lv_sub hl [0] rfl) hf
theorem o4_copy : okName yX4_copy 5 := ⟨by decide, by decide, by decide +kernel⟩
set_option maxHeartbeats 4000000 in
set_option maxRecDepth 100000 in
theorem c4_copy {ta adK adV : Nat → Nat} (hX : XT (XS ta adK adV)) {l : Launch} {D : va_G} {cI cB cG cS : ClassId} {ad : Nat → Nat} {sz : Nat} {hp1 : Nat → Int32} {st1 : Nat → Int32} {tr1 : Nat → Nat → Int32} {sp1 : Nat → Int32} {vis1 : Int32} {day1 : Int32} {z1 : Int32} {hp2 : Nat → Int32} {st2 : Nat → Int32} {tr2 : Nat → Nat → Int32} {sp2 : Nat → Int32} {vis2 : Int32} {day2 : Int32} {z2 : Int32} {hp3 : Nat → Int32} {st3 : Nat → Int32} {tr3 : Nat → Nat → Int32} {sp3 : Nat → Int32} {vis3 : Int32} {day3 : Int32} {z3 : Int32} {tb : Nat → Int32} {tl : Int32} {rtok : Int32} {rbg : Int32} {ren : Int32} {rvl : Int32} {shn : Nat → Nat → Int32} {shb : Nat → Int32} {shz : Nat → Int32} {fd : Nat → Int32} {isK : Int32} {v1 : Int32} {v2 : Int32} {v3 : Int32} {v4 : Int32} {v5 : Int32} {r0 : Int32} {o_shn : Nat → Nat → Int32} {o_fd : Nat → Int32} (hf : f4_copy shn shb shz fd v1 v2 v3 v4 v5 = some (r0, o_shn, o_fd)) : Met l yX4_copy (wU yX4_copy cX4_copy 8 (some .int)) ({ frames := 2, cells := 0, slots := 0, locals := 60 }) (va_Pc [.ref (ad 0), .int v1, .int v2, .int v3, .int v4, .int v5] (PreW (XS ta adK adV) D (tyC cI cB cG cS) (wS cI cB cG cS ad hp1 st1 tr1 sp1 vis1 day1 z1 hp2 st2 tr2 sp2 vis2 day2 z2 hp3 st3 tr3 sp3 vis3 day3 z3 tb tl rtok rbg ren rvl shn shb shz fd isK) sz)) (QcI D (tyC cI cB cG cS) (wS cI cB cG cS ad hp1 st1 tr1 sp1 vis1 day1 z1 hp2 st2 tr2 sp2 vis2 day2 z2 hp3 st3 tr3 sp3 vis3 day3 z3 tb tl rtok rbg ren rvl o_shn shb shz o_fd isK) (va_A (wS cI cB cG cS ad hp1 st1 tr1 sp1 vis1 day1 z1 hp2 st2 tr2 sp2 vis2 day2 z2 hp3 st3 tr3 sp3 vis3 day3 z3 tb tl rtok rbg ren rvl shn shb shz fd isK) sz) r0) 0 0 (va_A (wS cI cB cG cS ad hp1 st1 tr1 sp1 vis1 day1 z1 hp2 st2 tr2 sp2 vis2 day2 z2 hp3 st3 tr3 sp3 vis3 day3 z3 tb tl rtok rbg ren rvl shn shb shz fd isK) sz) := by
  refine startW hX (own := RX4) (by decide) rfl (Nat.le_of_ble_eq_true rfl) (fun p e s m args below meth c ls C0 G hl => ?_)
  exact b4_copy_0 C0 G hl hf
/-! 4_load -/
theorem dX4_load_0 : decode cX4_load 0 = .ok (.iload_n 1, 1) := by decide +kernel
theorem dX4_load_1 : decode cX4_load 1 = .ok (.invokestatic 195, 3) := by decide +kernel
theorem dX4_load_4 : decode cX4_load 4 = .ok (.ifCond .ne 9, 3) := by decide +kernel
theorem dX4_load_7 : decode cX4_load 7 = .ok (.aload_n 0, 1) := by decide +kernel
theorem dX4_load_8 : decode cX4_load 8 = .ok (.iconst 0, 1) := by decide +kernel
theorem dX4_load_9 : decode cX4_load 9 = .ok (.invokevirtual 49, 3) := by decide +kernel
theorem dX4_load_12 : decode cX4_load 12 = .ok (.ireturn, 1) := by decide +kernel
theorem dX4_load_13 : decode cX4_load 13 = .ok (.aload_n 0, 1) := by decide +kernel
theorem dX4_load_14 : decode cX4_load 14 = .ok (.getfield 36, 3) := by decide +kernel
theorem dX4_load_17 : decode cX4_load 17 = .ok (.iload_n 1, 1) := by decide +kernel
theorem dX4_load_18 : decode cX4_load 18 = .ok (.aaload, 1) := by decide +kernel
theorem dX4_load_19 : decode cX4_load 19 = .ok (.astore_n 2, 1) := by decide +kernel
theorem dX4_load_20 : decode cX4_load 20 = .ok (.aload_n 2, 1) := by decide +kernel
theorem dX4_load_21 : decode cX4_load 21 = .ok (.invokevirtual 204, 3) := by decide +kernel
theorem dX4_load_24 : decode cX4_load 24 = .ok (.ifCond .eq 9, 3) := by decide +kernel
theorem dX4_load_27 : decode cX4_load 27 = .ok (.aload_n 0, 1) := by decide +kernel
theorem dX4_load_28 : decode cX4_load 28 = .ok (.iconst 5, 1) := by decide +kernel
theorem dX4_load_29 : decode cX4_load 29 = .ok (.invokevirtual 49, 3) := by decide +kernel
theorem dX4_load_32 : decode cX4_load 32 = .ok (.ireturn, 1) := by decide +kernel
theorem dX4_load_33 : decode cX4_load 33 = .ok (.aload_n 2, 1) := by decide +kernel
theorem dX4_load_34 : decode cX4_load 34 = .ok (.getfield 201, 3) := by decide +kernel
theorem dX4_load_37 : decode cX4_load 37 = .ok (.bipush 16, 2) := by decide +kernel
theorem dX4_load_39 : decode cX4_load 39 = .ok (.invokestatic 225, 3) := by decide +kernel
theorem dX4_load_42 : decode cX4_load 42 = .ok (.istore_n 3, 1) := by decide +kernel
theorem dX4_load_43 : decode cX4_load 43 = .ok (.iconst 0, 1) := by decide +kernel
theorem dX4_load_44 : decode cX4_load 44 = .ok (.istore 4, 2) := by decide +kernel
theorem dX4_load_46 : decode cX4_load 46 = .ok (.iload 4, 2) := by decide +kernel
theorem dX4_load_48 : decode cX4_load 48 = .ok (.iload_n 3, 1) := by decide +kernel
theorem dX4_load_49 : decode cX4_load 49 = .ok (.if_icmp .ge 45, 3) := by decide +kernel
theorem dX4_load_52 : decode cX4_load 52 = .ok (.aload_n 2, 1) := by decide +kernel
theorem dX4_load_53 : decode cX4_load 53 = .ok (.getfield 216, 3) := by decide +kernel
theorem dX4_load_56 : decode cX4_load 56 = .ok (.iload 4, 2) := by decide +kernel
theorem dX4_load_58 : decode cX4_load 58 = .ok (.iaload, 1) := by decide +kernel
theorem dX4_load_59 : decode cX4_load 59 = .ok (.iconst 0, 1) := by decide +kernel
theorem dX4_load_60 : decode cX4_load 60 = .ok (.bipush 30, 2) := by decide +kernel
theorem dX4_load_62 : decode cX4_load 62 = .ok (.invokestatic 45, 3) := by decide +kernel
theorem dX4_load_65 : decode cX4_load 65 = .ok (.ifCond .ne 6, 3) := by decide +kernel
theorem dX4_load_68 : decode cX4_load 68 = .ok (.iload 4, 2) := by decide +kernel
theorem dX4_load_70 : decode cX4_load 70 = .ok (.ireturn, 1) := by decide +kernel
theorem dX4_load_71 : decode cX4_load 71 = .ok (.aload_n 0, 1) := by decide +kernel
theorem dX4_load_72 : decode cX4_load 72 = .ok (.getfield 10, 3) := by decide +kernel
theorem dX4_load_75 : decode cX4_load 75 = .ok (.getfield 53, 3) := by decide +kernel
theorem dX4_load_78 : decode cX4_load 78 = .ok (.iload 4, 2) := by decide +kernel
theorem dX4_load_80 : decode cX4_load 80 = .ok (.aload_n 2, 1) := by decide +kernel
theorem dX4_load_81 : decode cX4_load 81 = .ok (.getfield 216, 3) := by decide +kernel
theorem dX4_load_84 : decode cX4_load 84 = .ok (.iload 4, 2) := by decide +kernel
theorem dX4_load_86 : decode cX4_load 86 = .ok (.iaload, 1) := by decide +kernel
theorem dX4_load_87 : decode cX4_load 87 = .ok (.iastore, 1) := by decide +kernel
theorem dX4_load_88 : decode cX4_load 88 = .ok (.iinc 4 1, 3) := by decide +kernel
theorem dX4_load_91 : decode cX4_load 91 = .ok (.goto (-45), 3) := by decide +kernel
theorem dX4_load_94 : decode cX4_load 94 = .ok (.iload_n 3, 1) := by decide +kernel
theorem dX4_load_95 : decode cX4_load 95 = .ok (.ireturn, 1) := by decide +kernel
def l4_load_46  : Nat → (Nat → Int32) → (Nat → Nat → Int32) → (Nat → Int32) → (Nat → Int32) → (Nat → Int32) → Nat → Int32 → Int32 → Option (Int32 × (Nat → Int32) × (Nat → Int32))
  | 0, _, _, _, _, _, _, _, _ => none
  | n + 1, hp1, shn, shb, shz, fd, g2, v3, v4 =>
    if v3 ≤ v4 then (
      some (v3, hp1, fd))
    else (
      gd (inb v4 40) (
      if (f4_within ((shn g2) v4.toNatClampNeg) (0 : Int32) (30 : Int32)) = (0 : Int32) then (
        some (v4, hp1, fd))
      else (
        gd (inb v4 40) (
        gd (inb v4 16) (
        (l4_load_46 n) (upd hp1 v4.toNatClampNeg ((shn g2) v4.toNatClampNeg)) shn shb shz fd g2 v3 (v4 + (1 : Int32)))))))
def f4_load (hp1 : Nat → Int32) (shn : Nat → Nat → Int32) (shb : Nat → Int32) (shz : Nat → Int32) (fd : Nat → Int32) (v1 : Int32) : Option (Int32 × (Nat → Int32) × (Nat → Int32)) :=
  if (f4_isSheet v1) = (0 : Int32) then (
    ob2 (f4_found fd (0 : Int32)) (fun r7 fd_8 =>
    some (r7, hp1, fd_8)))
  else (
    gd (inb v1 4) (
    if (f1_isMissing v1.toNatClampNeg shb) = (0 : Int32) then (
      l4_load_46 1000 hp1 shn shb shz fd v1.toNatClampNeg (jmin (shz v1.toNatClampNeg) (16 : Int32)) (0 : Int32))
    else (
      ob2 (f4_found fd (5 : Int32)) (fun r4 fd_5 =>
      some (r4, hp1, fd_5)))))
set_option maxHeartbeats 4000000 in
set_option maxRecDepth 100000 in
theorem b4_load_46 {ta adK adV : Nat → Nat} {p : Program} {l : Launch} {e : Env} {s : State} {m : MethodId} {args : Array Value} {below : List Frame} {meth : Method} {c : Code} {D : va_G} {cI cB cG cS : ClassId} {ad : Nat → Nat} {A : Nat → Prop} {st1 : Nat → Int32} {tr1 : Nat → Nat → Int32} {sp1 : Nat → Int32} {vis1 : Int32} {day1 : Int32} {z1 : Int32} {hp2 : Nat → Int32} {st2 : Nat → Int32} {tr2 : Nat → Nat → Int32} {sp2 : Nat → Int32} {vis2 : Int32} {day2 : Int32} {z2 : Int32} {hp3 : Nat → Int32} {st3 : Nat → Int32} {tr3 : Nat → Nat → Int32} {sp3 : Nat → Int32} {vis3 : Int32} {day3 : Int32} {z3 : Int32} {tb : Nat → Int32} {tl : Int32} {rtok : Int32} {rbg : Int32} {ren : Int32} {rvl : Int32} {shn : Nat → Nat → Int32} {shb : Nat → Int32} {shz : Nat → Int32} {isK : Int32} {r0 : Int32} {o_hp1 : Nat → Int32} {o_fd : Nat → Int32} (C0 : CX (XS ta adK adV) p s m args meth c cX4_load 5 (some .int) RX4 A) : ∀ (n : Nat) {hp1 : Nat → Int32} {fd : Nat → Int32} {g2 : Nat} {v3 : Int32} {v4 : Int32} {H : Heap} {locs : List Loc} {ls : Array Slot}, g2 < 4 → GX (XS ta adK adV) D (tyC cI cB cG cS) A s (wS cI cB cG cS ad hp1 st1 tr1 sp1 vis1 day1 z1 hp2 st2 tr2 sp2 vis2 day2 z2 hp3 st3 tr3 sp3 vis3 day3 z3 tb tl rtok rbg ren rvl shn shb shz fd isK) H locs → lv_has ls 5 [(0, .ref (ad 0)), (2, .ref (ad (41 + 2 * g2))), (3, .int v3), (4, .int v4)] → l4_load_46  n hp1 shn shb shz fd g2 v3 v4 = some (r0, o_hp1, o_fd) → W p l e ({ frames := 2, cells := 0, slots := 0, locals := 42 }) s m args below meth c H locs 0 0 (MQ below (QcI D (tyC cI cB cG cS) (wS cI cB cG cS ad o_hp1 st1 tr1 sp1 vis1 day1 z1 hp2 st2 tr2 sp2 vis2 day2 z2 hp3 st3 tr3 sp3 vis3 day3 z3 tb tl rtok rbg ren rvl shn shb shz o_fd isK) A r0) args s 0 0 A) (F0 m 46 ls []) := by
  have hx := C0.1
  have hb := C0.2.1
  have hown := C0.2.2.2.2.1
  have hts := C0.2.2.2.2.2.1
  have hX := C0.2.2.2.2.2.2.2.2
  intro n
  induction n with
  | zero =>
    intro _ _ _ _ _ _ _ _ hg2 G hl hf
    cases hf
  | succ n ih =>
    intro hp1 fd g2 v3 v4 H locs ls hg2 G hl hf
    rw [l4_load_46] at hf
    refine lv_iload hx hb dX4_load_46 (lv_at hl 3 rfl) ?_
    refine lv_iload_n hx hb dX4_load_48 rfl (lv_at hl 2 rfl) ?_
    refine lv_icmp_ge (tgt := 94) hx hb dX4_load_49 (by decide) (fun hc10 => ?_) (fun hc10 => ?_)
    · have hf := itp hc10 hf
      refine lv_iload_n hx hb dX4_load_94 rfl (lv_at hl 2 rfl) ?_
      obtain ⟨rfl, rfl, rfl⟩ := inj3 hf
      exact ret_i C0 G dX4_load_95
    · have hf := itn hc10 hf
      refine lv_aload_n hx hb dX4_load_52 rfl (lv_at hl 1 rfl) ?_
      refine s_get (C := RX1) (T := TX1) C0 G i_X1 (41 + 2 * g2) 0 (wS_sh hg2) rfl (by decide) q161 rfl dX4_load_53 ?_
      refine lv_iload hx hb dX4_load_56 (lv_at hl 3 rfl) ?_
      obtain ⟨hi11, hf⟩ := gd_s hf
      refine s_iald (k := v4.toNatClampNeg) C0 G (41 + (2 * g2 + 1)) 0 (wS_shn hg2) rfl (vin hi11) rfl dX4_load_58 ?_
      refine lv_iconst (v := (0 : Int32)) hx hb dX4_load_59 (by decide) ?_
      refine lv_bipush (v := (30 : Int32)) hx hb dX4_load_60 (by decide) ?_
      refine go_i C0 G (runS_of (n := 3) (As := [.int ((shn g2) v4.toNatClampNeg), .int (0 : Int32), .int (30 : Int32)]) (rest := []) C0 G (c4_within hX rfl) q204 q49 q202 q203 o4_within ⟨rfl, rfl⟩ ⟨Nat.le_of_ble_eq_true rfl, Nat.le_of_ble_eq_true rfl⟩ rfl hl.1 rfl (Nat.le_of_ble_eq_true rfl) dX4_load_62) (fun H locs G => ?_)
      refine lv_if_ne (tgt := 71) hx hb dX4_load_65 (by decide) (fun hc12 => ?_) (fun hc12 => ?_)
      · have hf := itn hc12 hf
        refine lv_aload_n hx hb dX4_load_71 rfl (lv_at hl 0 rfl) ?_
        refine s_get (C := RX4) (T := TX4) C0 G i_X4 0 0 rfl rfl (by decide) q173 rfl dX4_load_72 ?_
        refine s_get (C := RX0) (T := TX0) C0 G i_X0 1 0 rfl rfl (by decide) q81 rfl dX4_load_75 ?_
        refine lv_iload hx hb dX4_load_78 (lv_at hl 3 rfl) ?_
        refine lv_aload_n hx hb dX4_load_80 rfl (lv_at hl 1 rfl) ?_
        refine s_get (C := RX1) (T := TX1) C0 G i_X1 (41 + 2 * g2) 0 (wS_sh hg2) rfl (by decide) q161 rfl dX4_load_81 ?_
        refine lv_iload hx hb dX4_load_84 (lv_at hl 3 rfl) ?_
        obtain ⟨hi13, hf⟩ := gd_s hf
        refine s_iald (k := v4.toNatClampNeg) C0 G (41 + (2 * g2 + 1)) 0 (wS_shn hg2) rfl (vin hi13) rfl dX4_load_86 ?_
        obtain ⟨hi14, hf⟩ := gd_s hf
        refine s_iast (k := v4.toNatClampNeg) (w' := (wS cI cB cG cS ad (upd hp1 v4.toNatClampNeg ((shn g2) v4.toNatClampNeg)) st1 tr1 sp1 vis1 day1 z1 hp2 st2 tr2 sp2 vis2 day2 z2 hp3 st3 tr3 sp3 vis3 day3 z3 tb tl rtok rbg ren rvl shn shb shz fd isK)) C0 G 2 0 rfl rfl (vin hi14) rfl rfl dX4_load_87 (fun H locs G => ?_)
        refine lv_iinc (v := (v4 + (1 : Int32))) (lv' := [(4, .int (v4 + (1 : Int32))), (0, .ref (ad 0)), (2, .ref (ad (41 + 2 * g2))), (3, .int v3)]) hx hb dX4_load_88 hl (k := 3) rfl rfl (by decide) rfl (fun ls hl => ?_)
        refine lv_goto (tgt := 46) hx hb dX4_load_91 (by decide) ?_
        exact ih hg2 G (lv_sub hl [1, 2, 3, 0] rfl) hf
      · have hf := itp hc12 hf
        refine lv_iload hx hb dX4_load_68 (lv_at hl 3 rfl) ?_
        obtain ⟨rfl, rfl, rfl⟩ := inj3 hf
        exact ret_i C0 G dX4_load_70
set_option maxHeartbeats 4000000 in
set_option maxRecDepth 100000 in
theorem b4_load_0 {ta adK adV : Nat → Nat} {p : Program} {l : Launch} {e : Env} {s : State} {m : MethodId} {args : Array Value} {below : List Frame} {meth : Method} {c : Code} {D : va_G} {cI cB cG cS : ClassId} {ad : Nat → Nat} {A : Nat → Prop} {st1 : Nat → Int32} {tr1 : Nat → Nat → Int32} {sp1 : Nat → Int32} {vis1 : Int32} {day1 : Int32} {z1 : Int32} {hp2 : Nat → Int32} {st2 : Nat → Int32} {tr2 : Nat → Nat → Int32} {sp2 : Nat → Int32} {vis2 : Int32} {day2 : Int32} {z2 : Int32} {hp3 : Nat → Int32} {st3 : Nat → Int32} {tr3 : Nat → Nat → Int32} {sp3 : Nat → Int32} {vis3 : Int32} {day3 : Int32} {z3 : Int32} {tb : Nat → Int32} {tl : Int32} {rtok : Int32} {rbg : Int32} {ren : Int32} {rvl : Int32} {shn : Nat → Nat → Int32} {shb : Nat → Int32} {shz : Nat → Int32} {isK : Int32} {r0 : Int32} {o_hp1 : Nat → Int32} {o_fd : Nat → Int32} (C0 : CX (XS ta adK adV) p s m args meth c cX4_load 5 (some .int) RX4 A) : ∀ {hp1 : Nat → Int32} {fd : Nat → Int32} {v1 : Int32} {H : Heap} {locs : List Loc} {ls : Array Slot}, GX (XS ta adK adV) D (tyC cI cB cG cS) A s (wS cI cB cG cS ad hp1 st1 tr1 sp1 vis1 day1 z1 hp2 st2 tr2 sp2 vis2 day2 z2 hp3 st3 tr3 sp3 vis3 day3 z3 tb tl rtok rbg ren rvl shn shb shz fd isK) H locs → lv_has ls 5 [(0, .ref (ad 0)), (1, .int v1)] → f4_load hp1 shn shb shz fd v1 = some (r0, o_hp1, o_fd) → W p l e ({ frames := 2, cells := 0, slots := 0, locals := 42 }) s m args below meth c H locs 0 0 (MQ below (QcI D (tyC cI cB cG cS) (wS cI cB cG cS ad o_hp1 st1 tr1 sp1 vis1 day1 z1 hp2 st2 tr2 sp2 vis2 day2 z2 hp3 st3 tr3 sp3 vis3 day3 z3 tb tl rtok rbg ren rvl shn shb shz o_fd isK) A r0) args s 0 0 A) (F0 m 0 ls []) := by
  have hx := C0.1
  have hb := C0.2.1
  have hown := C0.2.2.2.2.1
  have hts := C0.2.2.2.2.2.1
  have hX := C0.2.2.2.2.2.2.2.2
  intro hp1 fd v1 H locs ls G hl hf
  unfold f4_load at hf
  refine lv_iload_n hx hb dX4_load_0 rfl (lv_at hl 1 rfl) ?_
  refine go_i C0 G (runS_of (n := 1) (As := [.int v1]) (rest := []) C0 G (c4_isSheet hX rfl) q460 q49 q458 q459 o4_isSheet ⟨rfl, rfl⟩ ⟨Nat.le_of_ble_eq_true rfl, Nat.le_of_ble_eq_true rfl⟩ rfl hl.1 rfl (Nat.le_of_ble_eq_true rfl) dX4_load_1) (fun H locs G => ?_)
  refine lv_if_ne (tgt := 13) hx hb dX4_load_4 (by decide) (fun hc1 => ?_) (fun hc1 => ?_)
  · have hf := itn hc1 hf
    refine lv_aload_n hx hb dX4_load_13 rfl (lv_at hl 0 rfl) ?_
    refine s_get (C := RX4) (T := TX4) C0 G i_X4 0 5 rfl rfl (by decide) q178 rfl dX4_load_14 ?_
    refine lv_iload_n hx hb dX4_load_17 rfl (lv_at hl 1 rfl) ?_
    obtain ⟨hi2, hf⟩ := gd_s hf
    refine s_aldo (k := v1.toNatClampNeg) (b := ad (41 + 2 * v1.toNatClampNeg)) C0 G 40 3 rfl rfl (vin hi2) rfl rfl dX4_load_18 ?_
    refine lv_astore_n (lv' := [(2, .ref (ad (41 + 2 * v1.toNatClampNeg))), (0, .ref (ad 0)), (1, .int v1)]) hx hb dX4_load_19 rfl hl (by decide) rfl (fun ls hl => ?_)
    refine lv_aload_n hx hb dX4_load_20 rfl (lv_at hl 0 rfl) ?_
    refine go_i_sub C0 G s_sheets o_sheets (runV_sub (n := 0) (q0 := (41 + 2 * v1.toNatClampNeg)) (As := []) (rest := []) C0 G s_sheets (c1_isMissing hX (inb_lt hi2) rfl) q464 q53 q461 q462 q463 o1_isMissing ⟨rfl, rfl⟩ ⟨Nat.le_of_ble_eq_true rfl, Nat.le_of_ble_eq_true rfl⟩ (wS_sh (inb_lt hi2)) rfl rfl hl.1 rfl (Nat.le_of_ble_eq_true rfl) dX4_load_21) (fun H locs G => ?_)
    refine lv_if_eq (tgt := 33) hx hb dX4_load_24 (by decide) (fun hc3 => ?_) (fun hc3 => ?_)
    · have hf := itp hc3 hf
      refine lv_aload_n hx hb dX4_load_33 rfl (lv_at hl 0 rfl) ?_
      refine s_get (C := RX1) (T := TX1) C0 G i_X1 (41 + 2 * v1.toNatClampNeg) 2 (wS_sh (inb_lt hi2)) rfl (by decide) q165 rfl dX4_load_34 ?_
      refine lv_bipush (v := (16 : Int32)) hx hb dX4_load_37 (by decide) ?_
      refine s_min C0 hl.1 q674 ⟨Nat.le_of_ble_eq_true rfl, Nat.le_of_ble_eq_true rfl⟩ dX4_load_39 ?_
      refine lv_istore_n (lv' := [(3, .int (jmin (shz v1.toNatClampNeg) (16 : Int32))), (2, .ref (ad (41 + 2 * v1.toNatClampNeg))), (0, .ref (ad 0)), (1, .int v1)]) hx hb dX4_load_42 rfl hl (by decide) rfl (fun ls hl => ?_)
      refine lv_iconst (v := (0 : Int32)) hx hb dX4_load_43 (by decide) ?_
      refine lv_istore (lv' := [(4, .int (0 : Int32)), (3, .int (jmin (shz v1.toNatClampNeg) (16 : Int32))), (2, .ref (ad (41 + 2 * v1.toNatClampNeg))), (0, .ref (ad 0)), (1, .int v1)]) hx hb dX4_load_44 hl (by decide) rfl (fun ls hl => ?_)
      exact b4_load_46 C0  1000 (inb_lt hi2) G (lv_sub hl [3, 2, 1, 0] rfl) hf
    · have hf := itn hc3 hf
      refine lv_aload_n hx hb dX4_load_27 rfl (lv_at hl 1 rfl) ?_
      refine lv_iconst (v := (5 : Int32)) hx hb dX4_load_28 (by decide) ?_
      obtain ⟨r4, fd_5, hc6, hf⟩ := ob2_s hf
      refine go_i C0 G (runV_of (n := 1) (q0 := 0) (As := [.int (5 : Int32)]) (rest := []) C0 G (c4_found hX hc6) q208 q49 q205 q207 q0 o4_found ⟨rfl, rfl⟩ ⟨Nat.le_of_ble_eq_true rfl, Nat.le_of_ble_eq_true rfl⟩ rfl rfl rfl hl.1 rfl (Nat.le_of_ble_eq_true rfl) dX4_load_29) (fun H locs G => ?_)
      obtain ⟨rfl, rfl, rfl⟩ := inj3 hf
      exact ret_i C0 G dX4_load_32
  · have hf := itp hc1 hf
    refine lv_aload_n hx hb dX4_load_7 rfl (lv_at hl 0 rfl) ?_
    refine lv_iconst (v := (0 : Int32)) hx hb dX4_load_8 (by decide) ?_
    obtain ⟨r7, fd_8, hc9, hf⟩ := ob2_s hf
    refine go_i C0 G (runV_of (n := 1) (q0 := 0) (As := [.int (0 : Int32)]) (rest := []) C0 G (c4_found hX hc9) q208 q49 q205 q207 q0 o4_found ⟨rfl, rfl⟩ ⟨Nat.le_of_ble_eq_true rfl, Nat.le_of_ble_eq_true rfl⟩ rfl rfl rfl hl.1 rfl (Nat.le_of_ble_eq_true rfl) dX4_load_9) (fun H locs G => ?_)
    obtain ⟨rfl, rfl, rfl⟩ := inj3 hf
    exact ret_i C0 G dX4_load_12
theorem o4_load : okName yX4_load 1 := ⟨by decide, by decide, by decide +kernel⟩
set_option maxHeartbeats 4000000 in
set_option maxRecDepth 100000 in
theorem c4_load {ta adK adV : Nat → Nat} (hX : XT (XS ta adK adV)) {l : Launch} {D : va_G} {cI cB cG cS : ClassId} {ad : Nat → Nat} {sz : Nat} {hp1 : Nat → Int32} {st1 : Nat → Int32} {tr1 : Nat → Nat → Int32} {sp1 : Nat → Int32} {vis1 : Int32} {day1 : Int32} {z1 : Int32} {hp2 : Nat → Int32} {st2 : Nat → Int32} {tr2 : Nat → Nat → Int32} {sp2 : Nat → Int32} {vis2 : Int32} {day2 : Int32} {z2 : Int32} {hp3 : Nat → Int32} {st3 : Nat → Int32} {tr3 : Nat → Nat → Int32} {sp3 : Nat → Int32} {vis3 : Int32} {day3 : Int32} {z3 : Int32} {tb : Nat → Int32} {tl : Int32} {rtok : Int32} {rbg : Int32} {ren : Int32} {rvl : Int32} {shn : Nat → Nat → Int32} {shb : Nat → Int32} {shz : Nat → Int32} {fd : Nat → Int32} {isK : Int32} {v1 : Int32} {r0 : Int32} {o_hp1 : Nat → Int32} {o_fd : Nat → Int32} (hf : f4_load hp1 shn shb shz fd v1 = some (r0, o_hp1, o_fd)) : Met l yX4_load (wU yX4_load cX4_load 5 (some .int)) ({ frames := 2, cells := 0, slots := 0, locals := 42 }) (va_Pc [.ref (ad 0), .int v1] (PreW (XS ta adK adV) D (tyC cI cB cG cS) (wS cI cB cG cS ad hp1 st1 tr1 sp1 vis1 day1 z1 hp2 st2 tr2 sp2 vis2 day2 z2 hp3 st3 tr3 sp3 vis3 day3 z3 tb tl rtok rbg ren rvl shn shb shz fd isK) sz)) (QcI D (tyC cI cB cG cS) (wS cI cB cG cS ad o_hp1 st1 tr1 sp1 vis1 day1 z1 hp2 st2 tr2 sp2 vis2 day2 z2 hp3 st3 tr3 sp3 vis3 day3 z3 tb tl rtok rbg ren rvl shn shb shz o_fd isK) (va_A (wS cI cB cG cS ad hp1 st1 tr1 sp1 vis1 day1 z1 hp2 st2 tr2 sp2 vis2 day2 z2 hp3 st3 tr3 sp3 vis3 day3 z3 tb tl rtok rbg ren rvl shn shb shz fd isK) sz) r0) 0 0 (va_A (wS cI cB cG cS ad hp1 st1 tr1 sp1 vis1 day1 z1 hp2 st2 tr2 sp2 vis2 day2 z2 hp3 st3 tr3 sp3 vis3 day3 z3 tb tl rtok rbg ren rvl shn shb shz fd isK) sz) := by
  refine startW hX (own := RX4) (by decide) rfl (Nat.le_of_ble_eq_true rfl) (fun p e s m args below meth c ls C0 G hl => ?_)
  exact b4_load_0 C0 G hl hf
/-! 4_judge -/
theorem dX4_judge_0 : decode cX4_judge 0 = .ok (.iload_n 1, 1) := by decide +kernel
theorem dX4_judge_1 : decode cX4_judge 1 = .ok (.invokestatic 195, 3) := by decide +kernel
theorem dX4_judge_4 : decode cX4_judge 4 = .ok (.ifCond .ne 9, 3) := by decide +kernel
theorem dX4_judge_7 : decode cX4_judge 7 = .ok (.aload_n 0, 1) := by decide +kernel
theorem dX4_judge_8 : decode cX4_judge 8 = .ok (.iconst 0, 1) := by decide +kernel
theorem dX4_judge_9 : decode cX4_judge 9 = .ok (.invokevirtual 49, 3) := by decide +kernel
theorem dX4_judge_12 : decode cX4_judge 12 = .ok (.ireturn, 1) := by decide +kernel
theorem dX4_judge_13 : decode cX4_judge 13 = .ok (.aload_n 0, 1) := by decide +kernel
theorem dX4_judge_14 : decode cX4_judge 14 = .ok (.getfield 36, 3) := by decide +kernel
theorem dX4_judge_17 : decode cX4_judge 17 = .ok (.iload_n 1, 1) := by decide +kernel
theorem dX4_judge_18 : decode cX4_judge 18 = .ok (.aaload, 1) := by decide +kernel
theorem dX4_judge_19 : decode cX4_judge 19 = .ok (.astore_n 2, 1) := by decide +kernel
theorem dX4_judge_20 : decode cX4_judge 20 = .ok (.aload_n 2, 1) := by decide +kernel
theorem dX4_judge_21 : decode cX4_judge 21 = .ok (.invokevirtual 204, 3) := by decide +kernel
theorem dX4_judge_24 : decode cX4_judge 24 = .ok (.ifCond .eq 9, 3) := by decide +kernel
theorem dX4_judge_27 : decode cX4_judge 27 = .ok (.aload_n 0, 1) := by decide +kernel
theorem dX4_judge_28 : decode cX4_judge 28 = .ok (.iconst 5, 1) := by decide +kernel
theorem dX4_judge_29 : decode cX4_judge 29 = .ok (.invokevirtual 49, 3) := by decide +kernel
theorem dX4_judge_32 : decode cX4_judge 32 = .ok (.ireturn, 1) := by decide +kernel
theorem dX4_judge_33 : decode cX4_judge 33 = .ok (.iconst 0, 1) := by decide +kernel
theorem dX4_judge_34 : decode cX4_judge 34 = .ok (.istore_n 3, 1) := by decide +kernel
theorem dX4_judge_35 : decode cX4_judge 35 = .ok (.iload_n 3, 1) := by decide +kernel
theorem dX4_judge_36 : decode cX4_judge 36 = .ok (.aload_n 2, 1) := by decide +kernel
theorem dX4_judge_37 : decode cX4_judge 37 = .ok (.getfield 201, 3) := by decide +kernel
theorem dX4_judge_40 : decode cX4_judge 40 = .ok (.if_icmp .ge 42, 3) := by decide +kernel
theorem dX4_judge_43 : decode cX4_judge 43 = .ok (.aload_n 0, 1) := by decide +kernel
theorem dX4_judge_44 : decode cX4_judge 44 = .ok (.iload_n 3, 1) := by decide +kernel
theorem dX4_judge_45 : decode cX4_judge 45 = .ok (.invokevirtual 73, 3) := by decide +kernel
theorem dX4_judge_48 : decode cX4_judge 48 = .ok (.ifCond .eq 24, 3) := by decide +kernel
theorem dX4_judge_51 : decode cX4_judge 51 = .ok (.aload_n 0, 1) := by decide +kernel
theorem dX4_judge_52 : decode cX4_judge 52 = .ok (.getfield 10, 3) := by decide +kernel
theorem dX4_judge_55 : decode cX4_judge 55 = .ok (.getfield 89, 3) := by decide +kernel
theorem dX4_judge_58 : decode cX4_judge 58 = .ok (.bipush 6, 2) := by decide +kernel
theorem dX4_judge_60 : decode cX4_judge 60 = .ok (.aaload, 1) := by decide +kernel
theorem dX4_judge_61 : decode cX4_judge 61 = .ok (.iload_n 3, 1) := by decide +kernel
theorem dX4_judge_62 : decode cX4_judge 62 = .ok (.iaload, 1) := by decide +kernel
theorem dX4_judge_63 : decode cX4_judge 63 = .ok (.aload_n 2, 1) := by decide +kernel
theorem dX4_judge_64 : decode cX4_judge 64 = .ok (.getfield 216, 3) := by decide +kernel
theorem dX4_judge_67 : decode cX4_judge 67 = .ok (.iload_n 3, 1) := by decide +kernel
theorem dX4_judge_68 : decode cX4_judge 68 = .ok (.iaload, 1) := by decide +kernel
theorem dX4_judge_69 : decode cX4_judge 69 = .ok (.if_icmp .eq 7, 3) := by decide +kernel
theorem dX4_judge_72 : decode cX4_judge 72 = .ok (.iconst 1, 1) := by decide +kernel
theorem dX4_judge_73 : decode cX4_judge 73 = .ok (.iload_n 3, 1) := by decide +kernel
theorem dX4_judge_74 : decode cX4_judge 74 = .ok (.iadd, 1) := by decide +kernel
theorem dX4_judge_75 : decode cX4_judge 75 = .ok (.ireturn, 1) := by decide +kernel
theorem dX4_judge_76 : decode cX4_judge 76 = .ok (.iinc 3 1, 3) := by decide +kernel
theorem dX4_judge_79 : decode cX4_judge 79 = .ok (.goto (-44), 3) := by decide +kernel
theorem dX4_judge_82 : decode cX4_judge 82 = .ok (.iconst 0, 1) := by decide +kernel
theorem dX4_judge_83 : decode cX4_judge 83 = .ok (.ireturn, 1) := by decide +kernel
def l4_judge_35  : Nat → (Nat → Nat → Int32) → Int32 → (Nat → Nat → Int32) → (Nat → Int32) → (Nat → Int32) → (Nat → Int32) → Nat → Int32 → Option (Int32 × (Nat → Int32))
  | 0, _, _, _, _, _, _, _, _ => none
  | n + 1, tr1, vis1, shn, shb, shz, fd, g2, v3 =>
    if (shz g2) ≤ v3 then (
      some ((0 : Int32), fd))
    else (
      if (f4_isVisitor vis1 v3) = (0 : Int32) then (
        some (((1 : Int32) + v3), fd))
      else (
        gd (inb v3 8) (
        gd (inb v3 40) (
        if ((tr1 6) v3.toNatClampNeg) = ((shn g2) v3.toNatClampNeg) then (
          (l4_judge_35 n) tr1 vis1 shn shb shz fd g2 (v3 + (1 : Int32)))
        else (
          some (((1 : Int32) + v3), fd))))))
def f4_judge (tr1 : Nat → Nat → Int32) (vis1 : Int32) (shn : Nat → Nat → Int32) (shb : Nat → Int32) (shz : Nat → Int32) (fd : Nat → Int32) (v1 : Int32) : Option (Int32 × (Nat → Int32)) :=
  if (f4_isSheet v1) = (0 : Int32) then (
    ob2 (f4_found fd (0 : Int32)) (fun r7 fd_8 =>
    some (r7, fd_8)))
  else (
    gd (inb v1 4) (
    if (f1_isMissing v1.toNatClampNeg shb) = (0 : Int32) then (
      l4_judge_35 1000 tr1 vis1 shn shb shz fd v1.toNatClampNeg (0 : Int32))
    else (
      ob2 (f4_found fd (5 : Int32)) (fun r4 fd_5 =>
      some (r4, fd_5)))))
set_option maxHeartbeats 4000000 in
set_option maxRecDepth 100000 in
theorem b4_judge_35 {ta adK adV : Nat → Nat} {p : Program} {l : Launch} {e : Env} {s : State} {m : MethodId} {args : Array Value} {below : List Frame} {meth : Method} {c : Code} {D : va_G} {cI cB cG cS : ClassId} {ad : Nat → Nat} {A : Nat → Prop} {hp1 : Nat → Int32} {st1 : Nat → Int32} {tr1 : Nat → Nat → Int32} {sp1 : Nat → Int32} {vis1 : Int32} {day1 : Int32} {z1 : Int32} {hp2 : Nat → Int32} {st2 : Nat → Int32} {tr2 : Nat → Nat → Int32} {sp2 : Nat → Int32} {vis2 : Int32} {day2 : Int32} {z2 : Int32} {hp3 : Nat → Int32} {st3 : Nat → Int32} {tr3 : Nat → Nat → Int32} {sp3 : Nat → Int32} {vis3 : Int32} {day3 : Int32} {z3 : Int32} {tb : Nat → Int32} {tl : Int32} {rtok : Int32} {rbg : Int32} {ren : Int32} {rvl : Int32} {shn : Nat → Nat → Int32} {shb : Nat → Int32} {shz : Nat → Int32} {isK : Int32} {r0 : Int32} {o_fd : Nat → Int32} (C0 : CX (XS ta adK adV) p s m args meth c cX4_judge 4 (some .int) RX4 A) : ∀ (n : Nat) {fd : Nat → Int32} {g2 : Nat} {v3 : Int32} {H : Heap} {locs : List Loc} {ls : Array Slot}, g2 < 4 → GX (XS ta adK adV) D (tyC cI cB cG cS) A s (wS cI cB cG cS ad hp1 st1 tr1 sp1 vis1 day1 z1 hp2 st2 tr2 sp2 vis2 day2 z2 hp3 st3 tr3 sp3 vis3 day3 z3 tb tl rtok rbg ren rvl shn shb shz fd isK) H locs → lv_has ls 4 [(0, .ref (ad 0)), (2, .ref (ad (41 + 2 * g2))), (3, .int v3)] → l4_judge_35  n tr1 vis1 shn shb shz fd g2 v3 = some (r0, o_fd) → W p l e ({ frames := 2, cells := 0, slots := 0, locals := 43 }) s m args below meth c H locs 0 0 (MQ below (QcI D (tyC cI cB cG cS) (wS cI cB cG cS ad hp1 st1 tr1 sp1 vis1 day1 z1 hp2 st2 tr2 sp2 vis2 day2 z2 hp3 st3 tr3 sp3 vis3 day3 z3 tb tl rtok rbg ren rvl shn shb shz o_fd isK) A r0) args s 0 0 A) (F0 m 35 ls []) := by
  have hx := C0.1
  have hb := C0.2.1
  have hown := C0.2.2.2.2.1
  have hts := C0.2.2.2.2.2.1
  have hX := C0.2.2.2.2.2.2.2.2
  intro n
  induction n with
  | zero =>
    intro _ _ _ _ _ _ hg2 G hl hf
    cases hf
  | succ n ih =>
    intro fd g2 v3 H locs ls hg2 G hl hf
    rw [l4_judge_35] at hf
    refine lv_iload_n hx hb dX4_judge_35 rfl (lv_at hl 2 rfl) ?_
    refine lv_aload_n hx hb dX4_judge_36 rfl (lv_at hl 1 rfl) ?_
    refine s_get (C := RX1) (T := TX1) C0 G i_X1 (41 + 2 * g2) 2 (wS_sh hg2) rfl (by decide) q165 rfl dX4_judge_37 ?_
    refine lv_icmp_ge (tgt := 82) hx hb dX4_judge_40 (by decide) (fun hc10 => ?_) (fun hc10 => ?_)
    · have hf := itp hc10 hf
      refine lv_iconst (v := (0 : Int32)) hx hb dX4_judge_82 (by decide) ?_
      obtain ⟨rfl, rfl⟩ := inj2 hf
      exact ret_i C0 G dX4_judge_83
    · have hf := itn hc10 hf
      refine lv_aload_n hx hb dX4_judge_43 rfl (lv_at hl 0 rfl) ?_
      refine lv_iload_n hx hb dX4_judge_44 rfl (lv_at hl 2 rfl) ?_
      refine go_i C0 G (runV_of (n := 1) (q0 := 0) (As := [.int v3]) (rest := []) C0 G (c4_isVisitor hX rfl) q261 q49 q258 q260 q1 o4_isVisitor ⟨rfl, rfl⟩ ⟨Nat.le_of_ble_eq_true rfl, Nat.le_of_ble_eq_true rfl⟩ rfl rfl rfl hl.1 rfl (Nat.le_of_ble_eq_true rfl) dX4_judge_45) (fun H locs G => ?_)
      refine lv_if_eq (tgt := 72) hx hb dX4_judge_48 (by decide) (fun hc11 => ?_) (fun hc11 => ?_)
      · have hf := itp hc11 hf
        refine lv_iconst (v := (1 : Int32)) hx hb dX4_judge_72 (by decide) ?_
        refine lv_iload_n hx hb dX4_judge_73 rfl (lv_at hl 2 rfl) ?_
        refine lv_iadd hx hb dX4_judge_74 ?_
        obtain ⟨rfl, rfl⟩ := inj2 hf
        exact ret_i C0 G dX4_judge_75
      · have hf := itn hc11 hf
        refine lv_aload_n hx hb dX4_judge_51 rfl (lv_at hl 0 rfl) ?_
        refine s_get (C := RX4) (T := TX4) C0 G i_X4 0 0 rfl rfl (by decide) q173 rfl dX4_judge_52 ?_
        refine s_get (C := RX0) (T := TX0) C0 G i_X0 1 2 rfl rfl (by decide) q88 rfl dX4_judge_55 ?_
        refine lv_bipush (v := (6 : Int32)) hx hb dX4_judge_58 (by decide) ?_
        refine s_aldg (k := 6) (b := ad 11) C0 G 4 2 rfl rfl (vin (by decide)) (by decide) rfl dX4_judge_60 ?_
        refine lv_iload_n hx hb dX4_judge_61 rfl (lv_at hl 2 rfl) ?_
        obtain ⟨hi12, hf⟩ := gd_s hf
        refine s_iald (k := v3.toNatClampNeg) C0 G 11 0 rfl rfl (vin hi12) rfl dX4_judge_62 ?_
        refine lv_aload_n hx hb dX4_judge_63 rfl (lv_at hl 1 rfl) ?_
        refine s_get (C := RX1) (T := TX1) C0 G i_X1 (41 + 2 * g2) 0 (wS_sh hg2) rfl (by decide) q161 rfl dX4_judge_64 ?_
        refine lv_iload_n hx hb dX4_judge_67 rfl (lv_at hl 2 rfl) ?_
        obtain ⟨hi13, hf⟩ := gd_s hf
        refine s_iald (k := v3.toNatClampNeg) C0 G (41 + (2 * g2 + 1)) 0 (wS_shn hg2) rfl (vin hi13) rfl dX4_judge_68 ?_
        refine lv_icmp_eq (tgt := 76) hx hb dX4_judge_69 (by decide) (fun hc14 => ?_) (fun hc14 => ?_)
        · have hf := itp hc14 hf
          refine lv_iinc (v := (v3 + (1 : Int32))) (lv' := [(3, .int (v3 + (1 : Int32))), (0, .ref (ad 0)), (2, .ref (ad (41 + 2 * g2)))]) hx hb dX4_judge_76 hl (k := 2) rfl rfl (by decide) rfl (fun ls hl => ?_)
          refine lv_goto (tgt := 35) hx hb dX4_judge_79 (by decide) ?_
          exact ih hg2 G (lv_sub hl [1, 2, 0] rfl) hf
        · have hf := itn hc14 hf
          refine lv_iconst (v := (1 : Int32)) hx hb dX4_judge_72 (by decide) ?_
          refine lv_iload_n hx hb dX4_judge_73 rfl (lv_at hl 2 rfl) ?_
          refine lv_iadd hx hb dX4_judge_74 ?_
          obtain ⟨rfl, rfl⟩ := inj2 hf
          exact ret_i C0 G dX4_judge_75
set_option maxHeartbeats 4000000 in
set_option maxRecDepth 100000 in
theorem b4_judge_0 {ta adK adV : Nat → Nat} {p : Program} {l : Launch} {e : Env} {s : State} {m : MethodId} {args : Array Value} {below : List Frame} {meth : Method} {c : Code} {D : va_G} {cI cB cG cS : ClassId} {ad : Nat → Nat} {A : Nat → Prop} {hp1 : Nat → Int32} {st1 : Nat → Int32} {tr1 : Nat → Nat → Int32} {sp1 : Nat → Int32} {vis1 : Int32} {day1 : Int32} {z1 : Int32} {hp2 : Nat → Int32} {st2 : Nat → Int32} {tr2 : Nat → Nat → Int32} {sp2 : Nat → Int32} {vis2 : Int32} {day2 : Int32} {z2 : Int32} {hp3 : Nat → Int32} {st3 : Nat → Int32} {tr3 : Nat → Nat → Int32} {sp3 : Nat → Int32} {vis3 : Int32} {day3 : Int32} {z3 : Int32} {tb : Nat → Int32} {tl : Int32} {rtok : Int32} {rbg : Int32} {ren : Int32} {rvl : Int32} {shn : Nat → Nat → Int32} {shb : Nat → Int32} {shz : Nat → Int32} {isK : Int32} {r0 : Int32} {o_fd : Nat → Int32} (C0 : CX (XS ta adK adV) p s m args meth c cX4_judge 4 (some .int) RX4 A) : ∀ {fd : Nat → Int32} {v1 : Int32} {H : Heap} {locs : List Loc} {ls : Array Slot}, GX (XS ta adK adV) D (tyC cI cB cG cS) A s (wS cI cB cG cS ad hp1 st1 tr1 sp1 vis1 day1 z1 hp2 st2 tr2 sp2 vis2 day2 z2 hp3 st3 tr3 sp3 vis3 day3 z3 tb tl rtok rbg ren rvl shn shb shz fd isK) H locs → lv_has ls 4 [(0, .ref (ad 0)), (1, .int v1)] → f4_judge tr1 vis1 shn shb shz fd v1 = some (r0, o_fd) → W p l e ({ frames := 2, cells := 0, slots := 0, locals := 43 }) s m args below meth c H locs 0 0 (MQ below (QcI D (tyC cI cB cG cS) (wS cI cB cG cS ad hp1 st1 tr1 sp1 vis1 day1 z1 hp2 st2 tr2 sp2 vis2 day2 z2 hp3 st3 tr3 sp3 vis3 day3 z3 tb tl rtok rbg ren rvl shn shb shz o_fd isK) A r0) args s 0 0 A) (F0 m 0 ls []) := by
  have hx := C0.1
  have hb := C0.2.1
  have hown := C0.2.2.2.2.1
  have hts := C0.2.2.2.2.2.1
  have hX := C0.2.2.2.2.2.2.2.2
  intro fd v1 H locs ls G hl hf
  unfold f4_judge at hf
  refine lv_iload_n hx hb dX4_judge_0 rfl (lv_at hl 1 rfl) ?_
  refine go_i C0 G (runS_of (n := 1) (As := [.int v1]) (rest := []) C0 G (c4_isSheet hX rfl) q460 q49 q458 q459 o4_isSheet ⟨rfl, rfl⟩ ⟨Nat.le_of_ble_eq_true rfl, Nat.le_of_ble_eq_true rfl⟩ rfl hl.1 rfl (Nat.le_of_ble_eq_true rfl) dX4_judge_1) (fun H locs G => ?_)
  refine lv_if_ne (tgt := 13) hx hb dX4_judge_4 (by decide) (fun hc1 => ?_) (fun hc1 => ?_)
  · have hf := itn hc1 hf
    refine lv_aload_n hx hb dX4_judge_13 rfl (lv_at hl 0 rfl) ?_
    refine s_get (C := RX4) (T := TX4) C0 G i_X4 0 5 rfl rfl (by decide) q178 rfl dX4_judge_14 ?_
    refine lv_iload_n hx hb dX4_judge_17 rfl (lv_at hl 1 rfl) ?_
    obtain ⟨hi2, hf⟩ := gd_s hf
    refine s_aldo (k := v1.toNatClampNeg) (b := ad (41 + 2 * v1.toNatClampNeg)) C0 G 40 3 rfl rfl (vin hi2) rfl rfl dX4_judge_18 ?_
    refine lv_astore_n (lv' := [(2, .ref (ad (41 + 2 * v1.toNatClampNeg))), (0, .ref (ad 0)), (1, .int v1)]) hx hb dX4_judge_19 rfl hl (by decide) rfl (fun ls hl => ?_)
    refine lv_aload_n hx hb dX4_judge_20 rfl (lv_at hl 0 rfl) ?_
    refine go_i_sub C0 G s_sheets o_sheets (runV_sub (n := 0) (q0 := (41 + 2 * v1.toNatClampNeg)) (As := []) (rest := []) C0 G s_sheets (c1_isMissing hX (inb_lt hi2) rfl) q464 q53 q461 q462 q463 o1_isMissing ⟨rfl, rfl⟩ ⟨Nat.le_of_ble_eq_true rfl, Nat.le_of_ble_eq_true rfl⟩ (wS_sh (inb_lt hi2)) rfl rfl hl.1 rfl (Nat.le_of_ble_eq_true rfl) dX4_judge_21) (fun H locs G => ?_)
    refine lv_if_eq (tgt := 33) hx hb dX4_judge_24 (by decide) (fun hc3 => ?_) (fun hc3 => ?_)
    · have hf := itp hc3 hf
      refine lv_iconst (v := (0 : Int32)) hx hb dX4_judge_33 (by decide) ?_
      refine lv_istore_n (lv' := [(3, .int (0 : Int32)), (2, .ref (ad (41 + 2 * v1.toNatClampNeg))), (0, .ref (ad 0)), (1, .int v1)]) hx hb dX4_judge_34 rfl hl (by decide) rfl (fun ls hl => ?_)
      exact b4_judge_35 C0  1000 (inb_lt hi2) G (lv_sub hl [2, 1, 0] rfl) hf
    · have hf := itn hc3 hf
      refine lv_aload_n hx hb dX4_judge_27 rfl (lv_at hl 1 rfl) ?_
      refine lv_iconst (v := (5 : Int32)) hx hb dX4_judge_28 (by decide) ?_
      obtain ⟨r4, fd_5, hc6, hf⟩ := ob2_s hf
      refine go_i C0 G (runV_of (n := 1) (q0 := 0) (As := [.int (5 : Int32)]) (rest := []) C0 G (c4_found hX hc6) q208 q49 q205 q207 q0 o4_found ⟨rfl, rfl⟩ ⟨Nat.le_of_ble_eq_true rfl, Nat.le_of_ble_eq_true rfl⟩ rfl rfl rfl hl.1 rfl (Nat.le_of_ble_eq_true rfl) dX4_judge_29) (fun H locs G => ?_)
      obtain ⟨rfl, rfl⟩ := inj2 hf
      exact ret_i C0 G dX4_judge_32
  · have hf := itp hc1 hf
    refine lv_aload_n hx hb dX4_judge_7 rfl (lv_at hl 0 rfl) ?_
    refine lv_iconst (v := (0 : Int32)) hx hb dX4_judge_8 (by decide) ?_
    obtain ⟨r7, fd_8, hc9, hf⟩ := ob2_s hf
    refine go_i C0 G (runV_of (n := 1) (q0 := 0) (As := [.int (0 : Int32)]) (rest := []) C0 G (c4_found hX hc9) q208 q49 q205 q207 q0 o4_found ⟨rfl, rfl⟩ ⟨Nat.le_of_ble_eq_true rfl, Nat.le_of_ble_eq_true rfl⟩ rfl rfl rfl hl.1 rfl (Nat.le_of_ble_eq_true rfl) dX4_judge_9) (fun H locs G => ?_)
    obtain ⟨rfl, rfl⟩ := inj2 hf
    exact ret_i C0 G dX4_judge_12
theorem o4_judge : okName yX4_judge 1 := ⟨by decide, by decide, by decide +kernel⟩
set_option maxHeartbeats 4000000 in
set_option maxRecDepth 100000 in
theorem c4_judge {ta adK adV : Nat → Nat} (hX : XT (XS ta adK adV)) {l : Launch} {D : va_G} {cI cB cG cS : ClassId} {ad : Nat → Nat} {sz : Nat} {hp1 : Nat → Int32} {st1 : Nat → Int32} {tr1 : Nat → Nat → Int32} {sp1 : Nat → Int32} {vis1 : Int32} {day1 : Int32} {z1 : Int32} {hp2 : Nat → Int32} {st2 : Nat → Int32} {tr2 : Nat → Nat → Int32} {sp2 : Nat → Int32} {vis2 : Int32} {day2 : Int32} {z2 : Int32} {hp3 : Nat → Int32} {st3 : Nat → Int32} {tr3 : Nat → Nat → Int32} {sp3 : Nat → Int32} {vis3 : Int32} {day3 : Int32} {z3 : Int32} {tb : Nat → Int32} {tl : Int32} {rtok : Int32} {rbg : Int32} {ren : Int32} {rvl : Int32} {shn : Nat → Nat → Int32} {shb : Nat → Int32} {shz : Nat → Int32} {fd : Nat → Int32} {isK : Int32} {v1 : Int32} {r0 : Int32} {o_fd : Nat → Int32} (hf : f4_judge tr1 vis1 shn shb shz fd v1 = some (r0, o_fd)) : Met l yX4_judge (wU yX4_judge cX4_judge 4 (some .int)) ({ frames := 2, cells := 0, slots := 0, locals := 43 }) (va_Pc [.ref (ad 0), .int v1] (PreW (XS ta adK adV) D (tyC cI cB cG cS) (wS cI cB cG cS ad hp1 st1 tr1 sp1 vis1 day1 z1 hp2 st2 tr2 sp2 vis2 day2 z2 hp3 st3 tr3 sp3 vis3 day3 z3 tb tl rtok rbg ren rvl shn shb shz fd isK) sz)) (QcI D (tyC cI cB cG cS) (wS cI cB cG cS ad hp1 st1 tr1 sp1 vis1 day1 z1 hp2 st2 tr2 sp2 vis2 day2 z2 hp3 st3 tr3 sp3 vis3 day3 z3 tb tl rtok rbg ren rvl shn shb shz o_fd isK) (va_A (wS cI cB cG cS ad hp1 st1 tr1 sp1 vis1 day1 z1 hp2 st2 tr2 sp2 vis2 day2 z2 hp3 st3 tr3 sp3 vis3 day3 z3 tb tl rtok rbg ren rvl shn shb shz fd isK) sz) r0) 0 0 (va_A (wS cI cB cG cS ad hp1 st1 tr1 sp1 vis1 day1 z1 hp2 st2 tr2 sp2 vis2 day2 z2 hp3 st3 tr3 sp3 vis3 day3 z3 tb tl rtok rbg ren rvl shn shb shz fd isK) sz) := by
  refine startW hX (own := RX4) (by decide) rfl (Nat.le_of_ble_eq_true rfl) (fun p e s m args below meth c ls C0 G hl => ?_)
  exact b4_judge_0 C0 G hl hf
/-! 4_image -/
theorem dX4_image_0 : decode cX4_image 0 = .ok (.aload_n 0, 1) := by decide +kernel
theorem dX4_image_1 : decode cX4_image 1 = .ok (.getfield 16, 3) := by decide +kernel
theorem dX4_image_4 : decode cX4_image 4 = .ok (.aload_n 0, 1) := by decide +kernel
theorem dX4_image_5 : decode cX4_image 5 = .ok (.getfield 10, 3) := by decide +kernel
theorem dX4_image_8 : decode cX4_image 8 = .ok (.invokevirtual 128, 3) := by decide +kernel
theorem dX4_image_11 : decode cX4_image 11 = .ok (.aload_n 0, 1) := by decide +kernel
theorem dX4_image_12 : decode cX4_image 12 = .ok (.iconst 1, 1) := by decide +kernel
theorem dX4_image_13 : decode cX4_image 13 = .ok (.putfield 230, 3) := by decide +kernel
theorem dX4_image_16 : decode cX4_image 16 = .ok (.iconst 1, 1) := by decide +kernel
theorem dX4_image_17 : decode cX4_image 17 = .ok (.ireturn, 1) := by decide +kernel
def f4_image (hp1 : Nat → Int32) (st1 : Nat → Int32) (tr1 : Nat → Nat → Int32) (sp1 : Nat → Int32) (vis1 : Int32) (day1 : Int32) (z1 : Int32) (hp2 : Nat → Int32) (st2 : Nat → Int32) (tr2 : Nat → Nat → Int32) (sp2 : Nat → Int32) (vis2 : Int32) (day2 : Int32) (z2 : Int32) (isK : Int32)  : Option (Int32 × (Nat → Int32) × (Nat → Int32) × (Nat → Nat → Int32) × (Nat → Int32) × Int32 × Int32 × Int32 × Int32) :=
  ob7 (f0_become hp2 st2 tr2 sp2 vis2 day2 z2 hp1 st1 tr1 sp1 vis1 day1 z1) (fun hp2_1 st2_2 tr2_3 sp2_4 vis2_5 day2_6 z2_7 =>
  some ((1 : Int32), hp2_1, st2_2, tr2_3, sp2_4, vis2_5, day2_6, z2_7, (1 : Int32)))
set_option maxHeartbeats 4000000 in
set_option maxRecDepth 100000 in
theorem b4_image_0 {ta adK adV : Nat → Nat} {p : Program} {l : Launch} {e : Env} {s : State} {m : MethodId} {args : Array Value} {below : List Frame} {meth : Method} {c : Code} {D : va_G} {cI cB cG cS : ClassId} {ad : Nat → Nat} {A : Nat → Prop} {hp1 : Nat → Int32} {st1 : Nat → Int32} {tr1 : Nat → Nat → Int32} {sp1 : Nat → Int32} {vis1 : Int32} {day1 : Int32} {z1 : Int32} {hp3 : Nat → Int32} {st3 : Nat → Int32} {tr3 : Nat → Nat → Int32} {sp3 : Nat → Int32} {vis3 : Int32} {day3 : Int32} {z3 : Int32} {tb : Nat → Int32} {tl : Int32} {rtok : Int32} {rbg : Int32} {ren : Int32} {rvl : Int32} {shn : Nat → Nat → Int32} {shb : Nat → Int32} {shz : Nat → Int32} {fd : Nat → Int32} {r0 : Int32} {o_hp2 : Nat → Int32} {o_st2 : Nat → Int32} {o_tr2 : Nat → Nat → Int32} {o_sp2 : Nat → Int32} {o_vis2 : Int32} {o_day2 : Int32} {o_z2 : Int32} {o_isK : Int32} (C0 : CX (XS ta adK adV) p s m args meth c cX4_image 1 (some .int) RX4 A) : ∀ {hp2 : Nat → Int32} {st2 : Nat → Int32} {tr2 : Nat → Nat → Int32} {sp2 : Nat → Int32} {vis2 : Int32} {day2 : Int32} {z2 : Int32} {isK : Int32} {H : Heap} {locs : List Loc} {ls : Array Slot}, GX (XS ta adK adV) D (tyC cI cB cG cS) A s (wS cI cB cG cS ad hp1 st1 tr1 sp1 vis1 day1 z1 hp2 st2 tr2 sp2 vis2 day2 z2 hp3 st3 tr3 sp3 vis3 day3 z3 tb tl rtok rbg ren rvl shn shb shz fd isK) H locs → lv_has ls 1 [(0, .ref (ad 0))] → f4_image hp1 st1 tr1 sp1 vis1 day1 z1 hp2 st2 tr2 sp2 vis2 day2 z2 isK = some (r0, o_hp2, o_st2, o_tr2, o_sp2, o_vis2, o_day2, o_z2, o_isK) → W p l e ({ frames := 2, cells := 0, slots := 0, locals := 82 }) s m args below meth c H locs 0 0 (MQ below (QcI D (tyC cI cB cG cS) (wS cI cB cG cS ad hp1 st1 tr1 sp1 vis1 day1 z1 o_hp2 o_st2 o_tr2 o_sp2 o_vis2 o_day2 o_z2 hp3 st3 tr3 sp3 vis3 day3 z3 tb tl rtok rbg ren rvl shn shb shz fd o_isK) A r0) args s 0 0 A) (F0 m 0 ls []) := by
  have hx := C0.1
  have hb := C0.2.1
  have hown := C0.2.2.2.2.1
  have hts := C0.2.2.2.2.2.1
  have hX := C0.2.2.2.2.2.2.2.2
  intro hp2 st2 tr2 sp2 vis2 day2 z2 isK H locs ls G hl hf
  unfold f4_image at hf
  refine lv_aload_n hx hb dX4_image_0 rfl (lv_at hl 0 rfl) ?_
  refine s_get (C := RX4) (T := TX4) C0 G i_X4 0 1 rfl rfl (by decide) q174 rfl dX4_image_1 ?_
  refine lv_aload_n hx hb dX4_image_4 rfl (lv_at hl 0 rfl) ?_
  refine s_get (C := RX4) (T := TX4) C0 G i_X4 0 0 rfl rfl (by decide) q173 rfl dX4_image_5 ?_
  obtain ⟨hp2_1, st2_2, tr2_3, sp2_4, vis2_5, day2_6, z2_7, hc8, hf⟩ := ob7_s hf
  refine go_v_sub C0 G s_pp21 o_pp21 (runV_sub (n := 1) (q0 := 13) (As := [.ref (ad 1)]) (rest := []) C0 G s_pp21 (c0_become hX (ad := fun k => ad (13 + k)) (ae := fun k => ad (1 + k))  hc8) q376 q50 q373 q374 q375 o0_become ⟨rfl, rfl⟩ ⟨Nat.le_of_ble_eq_true rfl, Nat.le_of_ble_eq_true rfl⟩ rfl rfl rfl hl.1 rfl (Nat.le_of_ble_eq_true rfl) dX4_image_8) (fun H locs G => ?_)
  refine lv_aload_n hx hb dX4_image_11 rfl (lv_at hl 0 rfl) ?_
  refine lv_iconst (v := (1 : Int32)) hx hb dX4_image_12 (by decide) ?_
  refine s_put (C := RX4) (T := TX4) (w' := (wS cI cB cG cS ad hp1 st1 tr1 sp1 vis1 day1 z1 hp2_1 st2_2 tr2_3 sp2_4 vis2_5 day2_6 z2_7 hp3 st3 tr3 sp3 vis3 day3 z3 tb tl rtok rbg ren rvl shn shb shz fd (1 : Int32))) C0 G i_X4 tyX4 tyX4_ok nmX4 0 7 rfl rfl (by decide) q180 rfl (ty := .boolean) (by decide +kernel) rfl rfl (Nat.le_of_ble_eq_true rfl) rfl dX4_image_13 (fun H locs G => ?_)
  refine lv_iconst (v := (1 : Int32)) hx hb dX4_image_16 (by decide) ?_
  obtain ⟨rfl, rfl, rfl, rfl, rfl, rfl, rfl, rfl, rfl⟩ := inj9 hf
  exact ret_i C0 G dX4_image_17
theorem o4_image : okName yX4_image 0 := ⟨by decide, by decide, by decide +kernel⟩
set_option maxHeartbeats 4000000 in
set_option maxRecDepth 100000 in
theorem c4_image {ta adK adV : Nat → Nat} (hX : XT (XS ta adK adV)) {l : Launch} {D : va_G} {cI cB cG cS : ClassId} {ad : Nat → Nat} {sz : Nat} {hp1 : Nat → Int32} {st1 : Nat → Int32} {tr1 : Nat → Nat → Int32} {sp1 : Nat → Int32} {vis1 : Int32} {day1 : Int32} {z1 : Int32} {hp2 : Nat → Int32} {st2 : Nat → Int32} {tr2 : Nat → Nat → Int32} {sp2 : Nat → Int32} {vis2 : Int32} {day2 : Int32} {z2 : Int32} {hp3 : Nat → Int32} {st3 : Nat → Int32} {tr3 : Nat → Nat → Int32} {sp3 : Nat → Int32} {vis3 : Int32} {day3 : Int32} {z3 : Int32} {tb : Nat → Int32} {tl : Int32} {rtok : Int32} {rbg : Int32} {ren : Int32} {rvl : Int32} {shn : Nat → Nat → Int32} {shb : Nat → Int32} {shz : Nat → Int32} {fd : Nat → Int32} {isK : Int32}  {r0 : Int32} {o_hp2 : Nat → Int32} {o_st2 : Nat → Int32} {o_tr2 : Nat → Nat → Int32} {o_sp2 : Nat → Int32} {o_vis2 : Int32} {o_day2 : Int32} {o_z2 : Int32} {o_isK : Int32} (hf : f4_image hp1 st1 tr1 sp1 vis1 day1 z1 hp2 st2 tr2 sp2 vis2 day2 z2 isK = some (r0, o_hp2, o_st2, o_tr2, o_sp2, o_vis2, o_day2, o_z2, o_isK)) : Met l yX4_image (wU yX4_image cX4_image 1 (some .int)) ({ frames := 2, cells := 0, slots := 0, locals := 82 }) (va_Pc [.ref (ad 0)] (PreW (XS ta adK adV) D (tyC cI cB cG cS) (wS cI cB cG cS ad hp1 st1 tr1 sp1 vis1 day1 z1 hp2 st2 tr2 sp2 vis2 day2 z2 hp3 st3 tr3 sp3 vis3 day3 z3 tb tl rtok rbg ren rvl shn shb shz fd isK) sz)) (QcI D (tyC cI cB cG cS) (wS cI cB cG cS ad hp1 st1 tr1 sp1 vis1 day1 z1 o_hp2 o_st2 o_tr2 o_sp2 o_vis2 o_day2 o_z2 hp3 st3 tr3 sp3 vis3 day3 z3 tb tl rtok rbg ren rvl shn shb shz fd o_isK) (va_A (wS cI cB cG cS ad hp1 st1 tr1 sp1 vis1 day1 z1 hp2 st2 tr2 sp2 vis2 day2 z2 hp3 st3 tr3 sp3 vis3 day3 z3 tb tl rtok rbg ren rvl shn shb shz fd isK) sz) r0) 0 0 (va_A (wS cI cB cG cS ad hp1 st1 tr1 sp1 vis1 day1 z1 hp2 st2 tr2 sp2 vis2 day2 z2 hp3 st3 tr3 sp3 vis3 day3 z3 tb tl rtok rbg ren rvl shn shb shz fd isK) sz) := by
  refine startW hX (own := RX4) (by decide) rfl (Nat.le_of_ble_eq_true rfl) (fun p e s m args below meth c ls C0 G hl => ?_)
  exact b4_image_0 C0 G hl hf
/-! 4_undo -/
theorem dX4_undo_0 : decode cX4_undo 0 = .ok (.aload_n 0, 1) := by decide +kernel
theorem dX4_undo_1 : decode cX4_undo 1 = .ok (.getfield 230, 3) := by decide +kernel
theorem dX4_undo_4 : decode cX4_undo 4 = .ok (.ifCond .ne 9, 3) := by decide +kernel
theorem dX4_undo_7 : decode cX4_undo 7 = .ok (.aload_n 0, 1) := by decide +kernel
theorem dX4_undo_8 : decode cX4_undo 8 = .ok (.iconst 3, 1) := by decide +kernel
theorem dX4_undo_9 : decode cX4_undo 9 = .ok (.invokevirtual 49, 3) := by decide +kernel
theorem dX4_undo_12 : decode cX4_undo 12 = .ok (.ireturn, 1) := by decide +kernel
theorem dX4_undo_13 : decode cX4_undo 13 = .ok (.aload_n 0, 1) := by decide +kernel
theorem dX4_undo_14 : decode cX4_undo 14 = .ok (.getfield 10, 3) := by decide +kernel
theorem dX4_undo_17 : decode cX4_undo 17 = .ok (.aload_n 0, 1) := by decide +kernel
theorem dX4_undo_18 : decode cX4_undo 18 = .ok (.getfield 16, 3) := by decide +kernel
theorem dX4_undo_21 : decode cX4_undo 21 = .ok (.invokevirtual 128, 3) := by decide +kernel
theorem dX4_undo_24 : decode cX4_undo 24 = .ok (.aload_n 0, 1) := by decide +kernel
theorem dX4_undo_25 : decode cX4_undo 25 = .ok (.getfield 10, 3) := by decide +kernel
theorem dX4_undo_28 : decode cX4_undo 28 = .ok (.getfield 100, 3) := by decide +kernel
theorem dX4_undo_31 : decode cX4_undo 31 = .ok (.ireturn, 1) := by decide +kernel
def f4_undo (hp1 : Nat → Int32) (st1 : Nat → Int32) (tr1 : Nat → Nat → Int32) (sp1 : Nat → Int32) (vis1 : Int32) (day1 : Int32) (z1 : Int32) (hp2 : Nat → Int32) (st2 : Nat → Int32) (tr2 : Nat → Nat → Int32) (sp2 : Nat → Int32) (vis2 : Int32) (day2 : Int32) (z2 : Int32) (fd : Nat → Int32) (isK : Int32)  : Option (Int32 × (Nat → Int32) × (Nat → Int32) × (Nat → Nat → Int32) × (Nat → Int32) × Int32 × Int32 × Int32 × (Nat → Int32)) :=
  if isK = (0 : Int32) then (
    ob2 (f4_found fd (3 : Int32)) (fun r10 fd_11 =>
    some (r10, hp1, st1, tr1, sp1, vis1, day1, z1, fd_11)))
  else (
    ob7 (f0_become hp1 st1 tr1 sp1 vis1 day1 z1 hp2 st2 tr2 sp2 vis2 day2 z2) (fun hp1_2 st1_3 tr1_4 sp1_5 vis1_6 day1_7 z1_8 =>
    some (day1_7, hp1_2, st1_3, tr1_4, sp1_5, vis1_6, day1_7, z1_8, fd)))
set_option maxHeartbeats 4000000 in
set_option maxRecDepth 100000 in
theorem b4_undo_0 {ta adK adV : Nat → Nat} {p : Program} {l : Launch} {e : Env} {s : State} {m : MethodId} {args : Array Value} {below : List Frame} {meth : Method} {c : Code} {D : va_G} {cI cB cG cS : ClassId} {ad : Nat → Nat} {A : Nat → Prop} {hp2 : Nat → Int32} {st2 : Nat → Int32} {tr2 : Nat → Nat → Int32} {sp2 : Nat → Int32} {vis2 : Int32} {day2 : Int32} {z2 : Int32} {hp3 : Nat → Int32} {st3 : Nat → Int32} {tr3 : Nat → Nat → Int32} {sp3 : Nat → Int32} {vis3 : Int32} {day3 : Int32} {z3 : Int32} {tb : Nat → Int32} {tl : Int32} {rtok : Int32} {rbg : Int32} {ren : Int32} {rvl : Int32} {shn : Nat → Nat → Int32} {shb : Nat → Int32} {shz : Nat → Int32} {isK : Int32} {r0 : Int32} {o_hp1 : Nat → Int32} {o_st1 : Nat → Int32} {o_tr1 : Nat → Nat → Int32} {o_sp1 : Nat → Int32} {o_vis1 : Int32} {o_day1 : Int32} {o_z1 : Int32} {o_fd : Nat → Int32} (C0 : CX (XS ta adK adV) p s m args meth c cX4_undo 1 (some .int) RX4 A) : ∀ {hp1 : Nat → Int32} {st1 : Nat → Int32} {tr1 : Nat → Nat → Int32} {sp1 : Nat → Int32} {vis1 : Int32} {day1 : Int32} {z1 : Int32} {fd : Nat → Int32} {H : Heap} {locs : List Loc} {ls : Array Slot}, GX (XS ta adK adV) D (tyC cI cB cG cS) A s (wS cI cB cG cS ad hp1 st1 tr1 sp1 vis1 day1 z1 hp2 st2 tr2 sp2 vis2 day2 z2 hp3 st3 tr3 sp3 vis3 day3 z3 tb tl rtok rbg ren rvl shn shb shz fd isK) H locs → lv_has ls 1 [(0, .ref (ad 0))] → f4_undo hp1 st1 tr1 sp1 vis1 day1 z1 hp2 st2 tr2 sp2 vis2 day2 z2 fd isK = some (r0, o_hp1, o_st1, o_tr1, o_sp1, o_vis1, o_day1, o_z1, o_fd) → W p l e ({ frames := 2, cells := 0, slots := 0, locals := 82 }) s m args below meth c H locs 0 0 (MQ below (QcI D (tyC cI cB cG cS) (wS cI cB cG cS ad o_hp1 o_st1 o_tr1 o_sp1 o_vis1 o_day1 o_z1 hp2 st2 tr2 sp2 vis2 day2 z2 hp3 st3 tr3 sp3 vis3 day3 z3 tb tl rtok rbg ren rvl shn shb shz o_fd isK) A r0) args s 0 0 A) (F0 m 0 ls []) := by
  have hx := C0.1
  have hb := C0.2.1
  have hown := C0.2.2.2.2.1
  have hts := C0.2.2.2.2.2.1
  have hX := C0.2.2.2.2.2.2.2.2
  intro hp1 st1 tr1 sp1 vis1 day1 z1 fd H locs ls G hl hf
  unfold f4_undo at hf
  refine lv_aload_n hx hb dX4_undo_0 rfl (lv_at hl 0 rfl) ?_
  refine s_get (C := RX4) (T := TX4) C0 G i_X4 0 7 rfl rfl (by decide) q180 rfl dX4_undo_1 ?_
  refine lv_if_ne (tgt := 13) hx hb dX4_undo_4 (by decide) (fun hc1 => ?_) (fun hc1 => ?_)
  · have hf := itn hc1 hf
    refine lv_aload_n hx hb dX4_undo_13 rfl (lv_at hl 0 rfl) ?_
    refine s_get (C := RX4) (T := TX4) C0 G i_X4 0 0 rfl rfl (by decide) q173 rfl dX4_undo_14 ?_
    refine lv_aload_n hx hb dX4_undo_17 rfl (lv_at hl 0 rfl) ?_
    refine s_get (C := RX4) (T := TX4) C0 G i_X4 0 1 rfl rfl (by decide) q174 rfl dX4_undo_18 ?_
    obtain ⟨hp1_2, st1_3, tr1_4, sp1_5, vis1_6, day1_7, z1_8, hc9, hf⟩ := ob7_s hf
    refine go_v_sub C0 G s_pp12 o_pp12 (runV_sub (n := 1) (q0 := 1) (As := [.ref (ad 13)]) (rest := []) C0 G s_pp12 (c0_become hX (ad := fun k => ad (1 + k)) (ae := fun k => ad (13 + k))  hc9) q376 q50 q373 q374 q375 o0_become ⟨rfl, rfl⟩ ⟨Nat.le_of_ble_eq_true rfl, Nat.le_of_ble_eq_true rfl⟩ rfl rfl rfl hl.1 rfl (Nat.le_of_ble_eq_true rfl) dX4_undo_21) (fun H locs G => ?_)
    refine lv_aload_n hx hb dX4_undo_24 rfl (lv_at hl 0 rfl) ?_
    refine s_get (C := RX4) (T := TX4) C0 G i_X4 0 0 rfl rfl (by decide) q173 rfl dX4_undo_25 ?_
    refine s_get (C := RX0) (T := TX0) C0 G i_X0 1 5 rfl rfl (by decide) q94 rfl dX4_undo_28 ?_
    obtain ⟨rfl, rfl, rfl, rfl, rfl, rfl, rfl, rfl, rfl⟩ := inj9 hf
    exact ret_i C0 G dX4_undo_31
  · have hf := itp hc1 hf
    refine lv_aload_n hx hb dX4_undo_7 rfl (lv_at hl 0 rfl) ?_
    refine lv_iconst (v := (3 : Int32)) hx hb dX4_undo_8 (by decide) ?_
    obtain ⟨r10, fd_11, hc12, hf⟩ := ob2_s hf
    refine go_i C0 G (runV_of (n := 1) (q0 := 0) (As := [.int (3 : Int32)]) (rest := []) C0 G (c4_found hX hc12) q208 q49 q205 q207 q0 o4_found ⟨rfl, rfl⟩ ⟨Nat.le_of_ble_eq_true rfl, Nat.le_of_ble_eq_true rfl⟩ rfl rfl rfl hl.1 rfl (Nat.le_of_ble_eq_true rfl) dX4_undo_9) (fun H locs G => ?_)
    obtain ⟨rfl, rfl, rfl, rfl, rfl, rfl, rfl, rfl, rfl⟩ := inj9 hf
    exact ret_i C0 G dX4_undo_12
theorem o4_undo : okName yX4_undo 0 := ⟨by decide, by decide, by decide +kernel⟩
set_option maxHeartbeats 4000000 in
set_option maxRecDepth 100000 in
theorem c4_undo {ta adK adV : Nat → Nat} (hX : XT (XS ta adK adV)) {l : Launch} {D : va_G} {cI cB cG cS : ClassId} {ad : Nat → Nat} {sz : Nat} {hp1 : Nat → Int32} {st1 : Nat → Int32} {tr1 : Nat → Nat → Int32} {sp1 : Nat → Int32} {vis1 : Int32} {day1 : Int32} {z1 : Int32} {hp2 : Nat → Int32} {st2 : Nat → Int32} {tr2 : Nat → Nat → Int32} {sp2 : Nat → Int32} {vis2 : Int32} {day2 : Int32} {z2 : Int32} {hp3 : Nat → Int32} {st3 : Nat → Int32} {tr3 : Nat → Nat → Int32} {sp3 : Nat → Int32} {vis3 : Int32} {day3 : Int32} {z3 : Int32} {tb : Nat → Int32} {tl : Int32} {rtok : Int32} {rbg : Int32} {ren : Int32} {rvl : Int32} {shn : Nat → Nat → Int32} {shb : Nat → Int32} {shz : Nat → Int32} {fd : Nat → Int32} {isK : Int32}  {r0 : Int32} {o_hp1 : Nat → Int32} {o_st1 : Nat → Int32} {o_tr1 : Nat → Nat → Int32} {o_sp1 : Nat → Int32} {o_vis1 : Int32} {o_day1 : Int32} {o_z1 : Int32} {o_fd : Nat → Int32} (hf : f4_undo hp1 st1 tr1 sp1 vis1 day1 z1 hp2 st2 tr2 sp2 vis2 day2 z2 fd isK = some (r0, o_hp1, o_st1, o_tr1, o_sp1, o_vis1, o_day1, o_z1, o_fd)) : Met l yX4_undo (wU yX4_undo cX4_undo 1 (some .int)) ({ frames := 2, cells := 0, slots := 0, locals := 82 }) (va_Pc [.ref (ad 0)] (PreW (XS ta adK adV) D (tyC cI cB cG cS) (wS cI cB cG cS ad hp1 st1 tr1 sp1 vis1 day1 z1 hp2 st2 tr2 sp2 vis2 day2 z2 hp3 st3 tr3 sp3 vis3 day3 z3 tb tl rtok rbg ren rvl shn shb shz fd isK) sz)) (QcI D (tyC cI cB cG cS) (wS cI cB cG cS ad o_hp1 o_st1 o_tr1 o_sp1 o_vis1 o_day1 o_z1 hp2 st2 tr2 sp2 vis2 day2 z2 hp3 st3 tr3 sp3 vis3 day3 z3 tb tl rtok rbg ren rvl shn shb shz o_fd isK) (va_A (wS cI cB cG cS ad hp1 st1 tr1 sp1 vis1 day1 z1 hp2 st2 tr2 sp2 vis2 day2 z2 hp3 st3 tr3 sp3 vis3 day3 z3 tb tl rtok rbg ren rvl shn shb shz fd isK) sz) r0) 0 0 (va_A (wS cI cB cG cS ad hp1 st1 tr1 sp1 vis1 day1 z1 hp2 st2 tr2 sp2 vis2 day2 z2 hp3 st3 tr3 sp3 vis3 day3 z3 tb tl rtok rbg ren rvl shn shb shz fd isK) sz) := by
  refine startW hX (own := RX4) (by decide) rfl (Nat.le_of_ble_eq_true rfl) (fun p e s m args below meth c ls C0 G hl => ?_)
  exact b4_undo_0 C0 G hl hf
/-! 4_tear -/
theorem dX4_tear_0 : decode cX4_tear 0 = .ok (.aload_n 0, 1) := by decide +kernel
theorem dX4_tear_1 : decode cX4_tear 1 = .ok (.getfield 230, 3) := by decide +kernel
theorem dX4_tear_4 : decode cX4_tear 4 = .ok (.ifCond .eq 7, 3) := by decide +kernel
theorem dX4_tear_7 : decode cX4_tear 7 = .ok (.iconst 1, 1) := by decide +kernel
theorem dX4_tear_8 : decode cX4_tear 8 = .ok (.goto 4, 3) := by decide +kernel
theorem dX4_tear_11 : decode cX4_tear 11 = .ok (.iconst 0, 1) := by decide +kernel
theorem dX4_tear_12 : decode cX4_tear 12 = .ok (.istore_n 1, 1) := by decide +kernel
theorem dX4_tear_13 : decode cX4_tear 13 = .ok (.aload_n 0, 1) := by decide +kernel
theorem dX4_tear_14 : decode cX4_tear 14 = .ok (.iconst 0, 1) := by decide +kernel
theorem dX4_tear_15 : decode cX4_tear 15 = .ok (.putfield 230, 3) := by decide +kernel
theorem dX4_tear_18 : decode cX4_tear 18 = .ok (.iload_n 1, 1) := by decide +kernel
theorem dX4_tear_19 : decode cX4_tear 19 = .ok (.ireturn, 1) := by decide +kernel
def f4_tear (isK : Int32)  : Option (Int32 × Int32) :=
  if isK = (0 : Int32) then (
    some ((0 : Int32), (0 : Int32)))
  else (
    some ((1 : Int32), (0 : Int32)))
set_option maxHeartbeats 4000000 in
set_option maxRecDepth 100000 in
theorem b4_tear_0 {ta adK adV : Nat → Nat} {p : Program} {l : Launch} {e : Env} {s : State} {m : MethodId} {args : Array Value} {below : List Frame} {meth : Method} {c : Code} {D : va_G} {cI cB cG cS : ClassId} {ad : Nat → Nat} {A : Nat → Prop} {hp1 : Nat → Int32} {st1 : Nat → Int32} {tr1 : Nat → Nat → Int32} {sp1 : Nat → Int32} {vis1 : Int32} {day1 : Int32} {z1 : Int32} {hp2 : Nat → Int32} {st2 : Nat → Int32} {tr2 : Nat → Nat → Int32} {sp2 : Nat → Int32} {vis2 : Int32} {day2 : Int32} {z2 : Int32} {hp3 : Nat → Int32} {st3 : Nat → Int32} {tr3 : Nat → Nat → Int32} {sp3 : Nat → Int32} {vis3 : Int32} {day3 : Int32} {z3 : Int32} {tb : Nat → Int32} {tl : Int32} {rtok : Int32} {rbg : Int32} {ren : Int32} {rvl : Int32} {shn : Nat → Nat → Int32} {shb : Nat → Int32} {shz : Nat → Int32} {fd : Nat → Int32} {r0 : Int32} {o_isK : Int32} (C0 : CX (XS ta adK adV) p s m args meth c cX4_tear 2 (some .int) RX4 A) : ∀ {isK : Int32} {H : Heap} {locs : List Loc} {ls : Array Slot}, GX (XS ta adK adV) D (tyC cI cB cG cS) A s (wS cI cB cG cS ad hp1 st1 tr1 sp1 vis1 day1 z1 hp2 st2 tr2 sp2 vis2 day2 z2 hp3 st3 tr3 sp3 vis3 day3 z3 tb tl rtok rbg ren rvl shn shb shz fd isK) H locs → lv_has ls 2 [(0, .ref (ad 0))] → f4_tear isK = some (r0, o_isK) → W p l e ({ frames := 0, cells := 0, slots := 0, locals := 0 }) s m args below meth c H locs 0 0 (MQ below (QcI D (tyC cI cB cG cS) (wS cI cB cG cS ad hp1 st1 tr1 sp1 vis1 day1 z1 hp2 st2 tr2 sp2 vis2 day2 z2 hp3 st3 tr3 sp3 vis3 day3 z3 tb tl rtok rbg ren rvl shn shb shz fd o_isK) A r0) args s 0 0 A) (F0 m 0 ls []) := by
  have hx := C0.1
  have hb := C0.2.1
  have hown := C0.2.2.2.2.1
  have hts := C0.2.2.2.2.2.1
  have hX := C0.2.2.2.2.2.2.2.2
  intro isK H locs ls G hl hf
  unfold f4_tear at hf
  refine lv_aload_n hx hb dX4_tear_0 rfl (lv_at hl 0 rfl) ?_
  refine s_get (C := RX4) (T := TX4) C0 G i_X4 0 7 rfl rfl (by decide) q180 rfl dX4_tear_1 ?_
  refine lv_if_eq (tgt := 11) hx hb dX4_tear_4 (by decide) (fun hc1 => ?_) (fun hc1 => ?_)
  · have hf := itp hc1 hf
    refine lv_iconst (v := (0 : Int32)) hx hb dX4_tear_11 (by decide) ?_
    refine lv_istore_n (lv' := [(1, .int (0 : Int32)), (0, .ref (ad 0))]) hx hb dX4_tear_12 rfl hl (by decide) rfl (fun ls hl => ?_)
    refine lv_aload_n hx hb dX4_tear_13 rfl (lv_at hl 1 rfl) ?_
    refine lv_iconst (v := (0 : Int32)) hx hb dX4_tear_14 (by decide) ?_
    refine s_put (C := RX4) (T := TX4) (w' := (wS cI cB cG cS ad hp1 st1 tr1 sp1 vis1 day1 z1 hp2 st2 tr2 sp2 vis2 day2 z2 hp3 st3 tr3 sp3 vis3 day3 z3 tb tl rtok rbg ren rvl shn shb shz fd (0 : Int32))) C0 G i_X4 tyX4 tyX4_ok nmX4 0 7 rfl rfl (by decide) q180 rfl (ty := .boolean) (by decide +kernel) rfl rfl (Nat.le_of_ble_eq_true rfl) rfl dX4_tear_15 (fun H locs G => ?_)
    refine lv_iload_n hx hb dX4_tear_18 rfl (lv_at hl 0 rfl) ?_
    obtain ⟨rfl, rfl⟩ := inj2 hf
    exact ret_i C0 G dX4_tear_19
  · have hf := itn hc1 hf
    refine lv_iconst (v := (1 : Int32)) hx hb dX4_tear_7 (by decide) ?_
    refine lv_goto (tgt := 12) hx hb dX4_tear_8 (by decide) ?_
    refine lv_istore_n (lv' := [(1, .int (1 : Int32)), (0, .ref (ad 0))]) hx hb dX4_tear_12 rfl hl (by decide) rfl (fun ls hl => ?_)
    refine lv_aload_n hx hb dX4_tear_13 rfl (lv_at hl 1 rfl) ?_
    refine lv_iconst (v := (0 : Int32)) hx hb dX4_tear_14 (by decide) ?_
    refine s_put (C := RX4) (T := TX4) (w' := (wS cI cB cG cS ad hp1 st1 tr1 sp1 vis1 day1 z1 hp2 st2 tr2 sp2 vis2 day2 z2 hp3 st3 tr3 sp3 vis3 day3 z3 tb tl rtok rbg ren rvl shn shb shz fd (0 : Int32))) C0 G i_X4 tyX4 tyX4_ok nmX4 0 7 rfl rfl (by decide) q180 rfl (ty := .boolean) (by decide +kernel) rfl rfl (Nat.le_of_ble_eq_true rfl) rfl dX4_tear_15 (fun H locs G => ?_)
    refine lv_iload_n hx hb dX4_tear_18 rfl (lv_at hl 0 rfl) ?_
    obtain ⟨rfl, rfl⟩ := inj2 hf
    exact ret_i C0 G dX4_tear_19
theorem o4_tear : okName yX4_tear 0 := ⟨by decide, by decide, by decide +kernel⟩
set_option maxHeartbeats 4000000 in
set_option maxRecDepth 100000 in
theorem c4_tear {ta adK adV : Nat → Nat} (hX : XT (XS ta adK adV)) {l : Launch} {D : va_G} {cI cB cG cS : ClassId} {ad : Nat → Nat} {sz : Nat} {hp1 : Nat → Int32} {st1 : Nat → Int32} {tr1 : Nat → Nat → Int32} {sp1 : Nat → Int32} {vis1 : Int32} {day1 : Int32} {z1 : Int32} {hp2 : Nat → Int32} {st2 : Nat → Int32} {tr2 : Nat → Nat → Int32} {sp2 : Nat → Int32} {vis2 : Int32} {day2 : Int32} {z2 : Int32} {hp3 : Nat → Int32} {st3 : Nat → Int32} {tr3 : Nat → Nat → Int32} {sp3 : Nat → Int32} {vis3 : Int32} {day3 : Int32} {z3 : Int32} {tb : Nat → Int32} {tl : Int32} {rtok : Int32} {rbg : Int32} {ren : Int32} {rvl : Int32} {shn : Nat → Nat → Int32} {shb : Nat → Int32} {shz : Nat → Int32} {fd : Nat → Int32} {isK : Int32}  {r0 : Int32} {o_isK : Int32} (hf : f4_tear isK = some (r0, o_isK)) : Met l yX4_tear (wU yX4_tear cX4_tear 2 (some .int)) ({ frames := 0, cells := 0, slots := 0, locals := 0 }) (va_Pc [.ref (ad 0)] (PreW (XS ta adK adV) D (tyC cI cB cG cS) (wS cI cB cG cS ad hp1 st1 tr1 sp1 vis1 day1 z1 hp2 st2 tr2 sp2 vis2 day2 z2 hp3 st3 tr3 sp3 vis3 day3 z3 tb tl rtok rbg ren rvl shn shb shz fd isK) sz)) (QcI D (tyC cI cB cG cS) (wS cI cB cG cS ad hp1 st1 tr1 sp1 vis1 day1 z1 hp2 st2 tr2 sp2 vis2 day2 z2 hp3 st3 tr3 sp3 vis3 day3 z3 tb tl rtok rbg ren rvl shn shb shz fd o_isK) (va_A (wS cI cB cG cS ad hp1 st1 tr1 sp1 vis1 day1 z1 hp2 st2 tr2 sp2 vis2 day2 z2 hp3 st3 tr3 sp3 vis3 day3 z3 tb tl rtok rbg ren rvl shn shb shz fd isK) sz) r0) 0 0 (va_A (wS cI cB cG cS ad hp1 st1 tr1 sp1 vis1 day1 z1 hp2 st2 tr2 sp2 vis2 day2 z2 hp3 st3 tr3 sp3 vis3 day3 z3 tb tl rtok rbg ren rvl shn shb shz fd isK) sz) := by
  refine startW hX (own := RX4) (by decide) rfl (Nat.le_of_ble_eq_true rfl) (fun p e s m args below meth c ls C0 G hl => ?_)
  exact b4_tear_0 C0 G hl hf
