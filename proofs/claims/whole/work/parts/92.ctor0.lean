/-! the small constructors -/
theorem dX1_init_0 : decode cX1_init 0 = .ok (.aload_n 0, 1) := by decide +kernel
theorem dX1_init_1 : decode cX1_init 1 = .ok (.invokespecial 3, 3) := by decide +kernel
theorem dX1_init_4 : decode cX1_init 4 = .ok (.aload_n 0, 1) := by decide +kernel
theorem dX1_init_5 : decode cX1_init 5 = .ok (.bipush 40, 2) := by decide +kernel
theorem dX1_init_7 : decode cX1_init 7 = .ok (.newarray .int, 2) := by decide +kernel
theorem dX1_init_9 : decode cX1_init 9 = .ok (.putfield 9, 3) := by decide +kernel
theorem dX1_init_12 : decode cX1_init 12 = .ok (.return_, 1) := by decide +kernel
theorem o1_init : okName yX1_init 0 := ⟨by decide, by decide, by decide +kernel⟩
abbrev w1i (h0 : Nat) : va_W := [(h0, .inr (1, [.null, .int 0, .int 0]))]
abbrev w1f (cI : ClassId) (h0 : Nat) (u : Nat → Nat) : va_W := [(h0, .inr (1, [.ref (u 0), .int 0, .int 0])), (u 0, .inl (cI, 40, .inl (fun _ => 0)))]
set_option maxHeartbeats 4000000 in
set_option maxRecDepth 100000 in
theorem c1_init {ta adK adV : Nat → Nat} {l : Launch} {D : va_G} {cI cB cG cS : ClassId} {h0 sz : Nat} : Met l yX1_init (wU yX1_init cX1_init 1 none) ({ frames := 1, cells := 1, slots := 40, locals := 30 }) (va_Pc [.ref h0] (PreW (XC ta adK adV) D (tyC cI cB cG cS) (w1i h0) sz)) (QcC D (tyC cI cB cG cS) (w1f cI h0) (va_A (w1i h0) sz)) 1 40 (va_A (w1i h0) sz) := by
  refine startI XC_ok (own := RX1) (by decide) rfl (Nat.le_of_ble_eq_true rfl) rfl (fun p e s m args below meth c ls C0 hmn G hl => ?_)
  have hx := C0.1
  have hb := C0.2.1
  have hl : lv_has ls 1 [(0, .ref h0)] := hl
  refine lv_aload_n hx hb dX1_init_0 rfl (lv_at hl 0 rfl) ?_
  refine t_obj C0 hl.1 q159 ⟨Nat.le_of_ble_eq_true rfl, Nat.le_of_ble_eq_true rfl⟩ dX1_init_1 ?_
  refine lv_aload_n hx hb dX1_init_4 rfl (lv_at hl 0 rfl) ?_
  refine lv_bipush (v := 40) hx hb dX1_init_5 (by decide) ?_
  refine t_newa (t0 := 0) (N' := 40) (atype := .int) (ty := .int) C0 G q112 rfl rfl (fun _ => rfl) (by decide) (by decide) (Nat.le_of_ble_eq_true rfl) (Nat.le_of_ble_eq_true rfl) (Nat.le_of_ble_eq_true rfl) dX1_init_7 (fun q1 H G => ?_)
  have G : GX (XC ta adK adV) D (tyC cI cB cG cS) _ s [(h0, .inr (1, [.null, .int 0, .int 0])), (q1, .inl (cI, 40, .inl (fun _ => 0)))] H [] := G
  refine t_putF (C := RX1) (T := TX1) (N := 3) C0 G hmn i_X1 tyX1 tyX1_ok nmX1 0 0 rfl rfl (by decide) q160 rfl rfl (ty := .array .int) (by decide +kernel) rfl rfl (Nat.le_of_ble_eq_true rfl) rfl dX1_init_9 (fun H locs G => ?_)
  exact ret_c (f := w1f cI h0) (fun _ => q1) C0 G dX1_init_12
theorem dX2_init_0 : decode cX2_init 0 = .ok (.aload_n 0, 1) := by decide +kernel
theorem dX2_init_1 : decode cX2_init 1 = .ok (.invokespecial 3, 3) := by decide +kernel
theorem dX2_init_4 : decode cX2_init 4 = .ok (.aload_n 0, 1) := by decide +kernel
theorem dX2_init_5 : decode cX2_init 5 = .ok (.bipush 120, 2) := by decide +kernel
theorem dX2_init_7 : decode cX2_init 7 = .ok (.newarray .byte, 2) := by decide +kernel
theorem dX2_init_9 : decode cX2_init 9 = .ok (.putfield 9, 3) := by decide +kernel
theorem dX2_init_12 : decode cX2_init 12 = .ok (.return_, 1) := by decide +kernel
theorem o2_init : okName yX2_init 0 := ⟨by decide, by decide, by decide +kernel⟩
abbrev w2i (h0 : Nat) : va_W := [(h0, .inr (2, [.null, .int 0]))]
abbrev w2f (cB : ClassId) (h0 : Nat) (u : Nat → Nat) : va_W := [(h0, .inr (2, [.ref (u 0), .int 0])), (u 0, .inl (cB, 120, .inl (fun _ => 0)))]
set_option maxHeartbeats 4000000 in
set_option maxRecDepth 100000 in
theorem c2_init {ta adK adV : Nat → Nat} {l : Launch} {D : va_G} {cI cB cG cS : ClassId} {h0 sz : Nat} : Met l yX2_init (wU yX2_init cX2_init 1 none) ({ frames := 1, cells := 1, slots := 120, locals := 30 }) (va_Pc [.ref h0] (PreW (XC ta adK adV) D (tyC cI cB cG cS) (w2i h0) sz)) (QcC D (tyC cI cB cG cS) (w2f cB h0) (va_A (w2i h0) sz)) 1 120 (va_A (w2i h0) sz) := by
  refine startI XC_ok (own := RX2) (by decide) rfl (Nat.le_of_ble_eq_true rfl) rfl (fun p e s m args below meth c ls C0 hmn G hl => ?_)
  have hx := C0.1
  have hb := C0.2.1
  have hl : lv_has ls 1 [(0, .ref h0)] := hl
  refine lv_aload_n hx hb dX2_init_0 rfl (lv_at hl 0 rfl) ?_
  refine t_obj C0 hl.1 q124 ⟨Nat.le_of_ble_eq_true rfl, Nat.le_of_ble_eq_true rfl⟩ dX2_init_1 ?_
  refine lv_aload_n hx hb dX2_init_4 rfl (lv_at hl 0 rfl) ?_
  refine lv_bipush (v := 120) hx hb dX2_init_5 (by decide) ?_
  refine t_newa (t0 := 1) (N' := 120) (atype := .byte) (ty := .byte) C0 G q135 rfl rfl (fun _ => rfl) (by decide) (by decide) (Nat.le_of_ble_eq_true rfl) (Nat.le_of_ble_eq_true rfl) (Nat.le_of_ble_eq_true rfl) dX2_init_7 (fun q1 H G => ?_)
  have G : GX (XC ta adK adV) D (tyC cI cB cG cS) _ s [(h0, .inr (2, [.null, .int 0])), (q1, .inl (cB, 120, .inl (fun _ => 0)))] H [] := G
  refine t_putF (C := RX2) (T := TX2) (N := 2) C0 G hmn i_X2 tyX2 tyX2_ok nmX2 0 0 rfl rfl (by decide) q125 rfl rfl (ty := .array .byte) (by decide +kernel) rfl rfl (Nat.le_of_ble_eq_true rfl) rfl dX2_init_9 (fun H locs G => ?_)
  exact ret_c (f := w2f cB h0) (fun _ => q1) C0 G dX2_init_12
theorem dX3_init_0 : decode cX3_init 0 = .ok (.aload_n 0, 1) := by decide +kernel
theorem dX3_init_1 : decode cX3_init 1 = .ok (.invokespecial 3, 3) := by decide +kernel
theorem dX3_init_4 : decode cX3_init 4 = .ok (.aload_n 0, 1) := by decide +kernel
theorem dX3_init_5 : decode cX3_init 5 = .ok (.new 9, 3) := by decide +kernel
theorem dX3_init_8 : decode cX3_init 8 = .ok (.dup, 1) := by decide +kernel
theorem dX3_init_9 : decode cX3_init 9 = .ok (.invokespecial 11, 3) := by decide +kernel
theorem dX3_init_12 : decode cX3_init 12 = .ok (.putfield 12, 3) := by decide +kernel
theorem dX3_init_15 : decode cX3_init 15 = .ok (.return_, 1) := by decide +kernel
theorem o3_init : okName yX3_init 0 := ⟨by decide, by decide, by decide +kernel⟩
abbrev w3i (h0 : Nat) : va_W := [(h0, .inr (3, [.null, .int 0, .int 0, .int 0, .int 0]))]
abbrev w3f (cB : ClassId) (h0 : Nat) (u : Nat → Nat) : va_W := [(h0, .inr (3, [.ref (u 0), .int 0, .int 0, .int 0, .int 0])), (u 0, .inr (2, [.ref (u 1), .int 0])), (u 1, .inl (cB, 120, .inl (fun _ => 0)))]
set_option maxHeartbeats 4000000 in
set_option maxRecDepth 100000 in
theorem c3_init {ta adK adV : Nat → Nat} {l : Launch} {D : va_G} {cI cB cG cS : ClassId} {h0 sz : Nat} : Met l yX3_init (wU yX3_init cX3_init 1 none) ({ frames := 2, cells := 2, slots := 122, locals := 60 }) (va_Pc [.ref h0] (PreW (XC ta adK adV) D (tyC cI cB cG cS) (w3i h0) sz)) (QcC D (tyC cI cB cG cS) (w3f cB h0) (va_A (w3i h0) sz)) 2 122 (va_A (w3i h0) sz) := by
  refine startI XC_ok (own := RX3) (by decide) rfl (Nat.le_of_ble_eq_true rfl) rfl (fun p e s m args below meth c ls C0 hmn G hl => ?_)
  have hx := C0.1
  have hb := C0.2.1
  have hl : lv_has ls 1 [(0, .ref h0)] := hl
  refine lv_aload_n hx hb dX3_init_0 rfl (lv_at hl 0 rfl) ?_
  refine t_obj C0 hl.1 q118 ⟨Nat.le_of_ble_eq_true rfl, Nat.le_of_ble_eq_true rfl⟩ dX3_init_1 ?_
  refine lv_aload_n hx hb dX3_init_4 rfl (lv_at hl 0 rfl) ?_
  refine t_new (ci := 2) (fs := [.null, .int 0]) (C := RX2) (T := TX2) (N := 2) C0 G i_X2 tyX2 tyX2_ok q119 q120 q52 rfl (fun j hj => by rcases (show j = 0 ∨ j = 1 by omega) with rfl | rfl <;> rfl) (Nat.le_of_ble_eq_true rfl) (Nat.le_of_ble_eq_true rfl) dX3_init_5 (fun qT H G => ?_)
  refine W.widen (k := 1) (n := 2) (Nat.le_of_ble_eq_true rfl) (Nat.le_of_ble_eq_true rfl) ?_
  have G : GX (XC ta adK adV) D (tyC cI cB cG cS) _ s ([(h0, .inr (3, [.null, .int 0, .int 0, .int 0, .int 0]))] ++ w2i qT) H _ := G
  refine lv_dup hx hb dX3_init_8 rfl ?_
  have hs : Sub ([(h0, .inr (3, [.null, .int 0, .int 0, .int 0, .int 0]))] ++ w2i qT) (w2i qT) [(h0, .inr (3, [.null, .int 0, .int 0, .int 0, .int 0]))] [1] [0] := ⟨rfl, rfl, rfl, rfl, by decide⟩
  refine go_c (f := w2f cB qT) C0 G hs (runIN_sub (As := []) (rest := [.ref qT, .ref h0]) (n := 0) C0 G hs (c2_init) q123 q52 (xn_121 G.2.2.2.2.1.2.1) q122 rfl o2_init ⟨rfl, rfl⟩ ⟨Nat.le_of_ble_eq_true rfl, Nat.le_of_ble_eq_true rfl⟩ rfl hl.1 rfl (Nat.le_of_ble_eq_true rfl) dX3_init_9 ⟨Nat.le_of_ble_eq_true rfl, Nat.le_of_ble_eq_true rfl⟩) (fun uT H locs G => ?_)
  refine W.widen (k := 2) (n := 122) (Nat.le_of_ble_eq_true rfl) (Nat.le_of_ble_eq_true rfl) ?_
  have G : GX (XC ta adK adV) D (tyC cI cB cG cS) _ s ([(h0, .inr (3, [.null, .int 0, .int 0, .int 0, .int 0]))] ++ w2f cB qT uT) H _ := G
  refine t_putF (C := RX3) (T := TX3) (N := 5) C0 G hmn i_X3 tyX3 tyX3_ok nmX3 0 0 rfl rfl (by decide) q136 rfl rfl (ty := .object "SandLedger$Tape") (by decide +kernel) rfl rfl (Nat.le_of_ble_eq_true rfl) rfl dX3_init_12 (fun H locs G => ?_)
  exact ret_c (f := w3f cB h0) (fun k => if k = 0 then qT else uT 0) C0 G dX3_init_15
theorem dX0_init_0 : decode cX0_init 0 = .ok (.aload_n 0, 1) := by decide +kernel
theorem dX0_init_1 : decode cX0_init 1 = .ok (.invokespecial 3, 3) := by decide +kernel
theorem dX0_init_4 : decode cX0_init 4 = .ok (.aload_n 0, 1) := by decide +kernel
theorem dX0_init_5 : decode cX0_init 5 = .ok (.bipush 16, 2) := by decide +kernel
theorem dX0_init_7 : decode cX0_init 7 = .ok (.newarray .int, 2) := by decide +kernel
theorem dX0_init_9 : decode cX0_init 9 = .ok (.putfield 9, 3) := by decide +kernel
theorem dX0_init_12 : decode cX0_init 12 = .ok (.aload_n 0, 1) := by decide +kernel
theorem dX0_init_13 : decode cX0_init 13 = .ok (.iconst 3, 1) := by decide +kernel
theorem dX0_init_14 : decode cX0_init 14 = .ok (.newarray .int, 2) := by decide +kernel
theorem dX0_init_16 : decode cX0_init 16 = .ok (.putfield 15, 3) := by decide +kernel
theorem dX0_init_19 : decode cX0_init 19 = .ok (.aload_n 0, 1) := by decide +kernel
theorem dX0_init_20 : decode cX0_init 20 = .ok (.bipush 7, 2) := by decide +kernel
theorem dX0_init_22 : decode cX0_init 22 = .ok (.bipush 8, 2) := by decide +kernel
theorem dX0_init_24 : decode cX0_init 24 = .ok (.multianewarray 18 2, 4) := by decide +kernel
theorem dX0_init_28 : decode cX0_init 28 = .ok (.putfield 20, 3) := by decide +kernel
theorem dX0_init_31 : decode cX0_init 31 = .ok (.aload_n 0, 1) := by decide +kernel
theorem dX0_init_32 : decode cX0_init 32 = .ok (.bipush 10, 2) := by decide +kernel
theorem dX0_init_34 : decode cX0_init 34 = .ok (.newarray .int, 2) := by decide +kernel
theorem dX0_init_36 : decode cX0_init 36 = .ok (.putfield 23, 3) := by decide +kernel
theorem dX0_init_39 : decode cX0_init 39 = .ok (.aload_n 0, 1) := by decide +kernel
theorem dX0_init_40 : decode cX0_init 40 = .ok (.iconst 1, 1) := by decide +kernel
theorem dX0_init_41 : decode cX0_init 41 = .ok (.putfield 26, 3) := by decide +kernel
theorem dX0_init_44 : decode cX0_init 44 = .ok (.iconst 0, 1) := by decide +kernel
theorem dX0_init_45 : decode cX0_init 45 = .ok (.istore_n 1, 1) := by decide +kernel
theorem dX0_init_46 : decode cX0_init 46 = .ok (.iload_n 1, 1) := by decide +kernel
theorem dX0_init_47 : decode cX0_init 47 = .ok (.bipush 16, 2) := by decide +kernel
theorem dX0_init_49 : decode cX0_init 49 = .ok (.if_icmp .ge 16, 3) := by decide +kernel
theorem dX0_init_52 : decode cX0_init 52 = .ok (.aload_n 0, 1) := by decide +kernel
theorem dX0_init_53 : decode cX0_init 53 = .ok (.getfield 9, 3) := by decide +kernel
theorem dX0_init_56 : decode cX0_init 56 = .ok (.iload_n 1, 1) := by decide +kernel
theorem dX0_init_57 : decode cX0_init 57 = .ok (.iconst 5, 1) := by decide +kernel
theorem dX0_init_58 : decode cX0_init 58 = .ok (.iastore, 1) := by decide +kernel
theorem dX0_init_59 : decode cX0_init 59 = .ok (.iinc 1 1, 3) := by decide +kernel
theorem dX0_init_62 : decode cX0_init 62 = .ok (.goto (-16), 3) := by decide +kernel
theorem dX0_init_65 : decode cX0_init 65 = .ok (.iconst 0, 1) := by decide +kernel
theorem dX0_init_66 : decode cX0_init 66 = .ok (.istore_n 1, 1) := by decide +kernel
theorem dX0_init_67 : decode cX0_init 67 = .ok (.iload_n 1, 1) := by decide +kernel
theorem dX0_init_68 : decode cX0_init 68 = .ok (.iconst 2, 1) := by decide +kernel
theorem dX0_init_69 : decode cX0_init 69 = .ok (.if_icmp .gt 20, 3) := by decide +kernel
theorem dX0_init_72 : decode cX0_init 72 = .ok (.aload_n 0, 1) := by decide +kernel
theorem dX0_init_73 : decode cX0_init 73 = .ok (.getfield 15, 3) := by decide +kernel
theorem dX0_init_76 : decode cX0_init 76 = .ok (.iload_n 1, 1) := by decide +kernel
theorem dX0_init_77 : decode cX0_init 77 = .ok (.getstatic 30, 3) := by decide +kernel
theorem dX0_init_80 : decode cX0_init 80 = .ok (.iload_n 1, 1) := by decide +kernel
theorem dX0_init_81 : decode cX0_init 81 = .ok (.iaload, 1) := by decide +kernel
theorem dX0_init_82 : decode cX0_init 82 = .ok (.iastore, 1) := by decide +kernel
theorem dX0_init_83 : decode cX0_init 83 = .ok (.iinc 1 1, 3) := by decide +kernel
theorem dX0_init_86 : decode cX0_init 86 = .ok (.goto (-19), 3) := by decide +kernel
theorem dX0_init_89 : decode cX0_init 89 = .ok (.iconst 0, 1) := by decide +kernel
theorem dX0_init_90 : decode cX0_init 90 = .ok (.istore_n 1, 1) := by decide +kernel
theorem dX0_init_91 : decode cX0_init 91 = .ok (.iload_n 1, 1) := by decide +kernel
theorem dX0_init_92 : decode cX0_init 92 = .ok (.bipush 10, 2) := by decide +kernel
theorem dX0_init_94 : decode cX0_init 94 = .ok (.if_icmp .ge 16, 3) := by decide +kernel
theorem dX0_init_97 : decode cX0_init 97 = .ok (.aload_n 0, 1) := by decide +kernel
theorem dX0_init_98 : decode cX0_init 98 = .ok (.getfield 23, 3) := by decide +kernel
theorem dX0_init_101 : decode cX0_init 101 = .ok (.iload_n 1, 1) := by decide +kernel
theorem dX0_init_102 : decode cX0_init 102 = .ok (.iconst (-1), 1) := by decide +kernel
theorem dX0_init_103 : decode cX0_init 103 = .ok (.iastore, 1) := by decide +kernel
theorem dX0_init_104 : decode cX0_init 104 = .ok (.iinc 1 1, 3) := by decide +kernel
theorem dX0_init_107 : decode cX0_init 107 = .ok (.goto (-16), 3) := by decide +kernel
theorem dX0_init_110 : decode cX0_init 110 = .ok (.return_, 1) := by decide +kernel
theorem o0_init : okName yX0_init 0 := ⟨by decide, by decide, by decide +kernel⟩
abbrev w0i (h0 : Nat) : va_W := [(h0, .inr (0, [.null, .null, .null, .null, .int 0, .int 0, .int 0]))]
abbrev w0f (cI cG : ClassId) (h0 : Nat) (u : Nat → Nat) : va_W := wP cI cG (fun k => if k = 0 then h0 else u k) (fun _ => 5) kSF (fun _ _ => 0) (fun _ => -1) 0 0 1
set_option maxHeartbeats 4000000 in
set_option maxRecDepth 100000 in
theorem pit_l1 {ta adK adV : Nat → Nat} {l : Launch} {D : va_G} {cI cB cG cS : ClassId} {p : Program} {e : Env} {R : Room} {s : State} {m : MethodId} {args : Array Value} {below : List Frame} {meth : Method} {c : Code} {A : Nat → Prop} {Q : State → Prop} {kc ks : Nat} {ad : Nat → Nat} {st sp : Nat → Int32} {tr : Nat → Nat → Int32} {vis day z : Int32} (C0 : CX (XC ta adK adV) p s m args meth c cX0_init 2 none RX0 A) (kk : ∀ (H : Heap) (locs : List Loc) (ls : Array Slot), GX (XC ta adK adV) D (tyC cI cB cG cS) A s (wP cI cG ad (fun _ => 5) st tr sp vis day z) H locs → lv_has ls 2 [(1, .int (nI 16)), (0, .ref (ad 0))] → W p l e R s m args below meth c H locs kc ks Q (F0 m 65 ls [])) : ∀ (n i : Nat) (f : Nat → Int32) (H : Heap) (locs : List Loc) (ls : Array Slot), i + n = 16 → (∀ j, j < i → f j = ((fun _ => 5)) j) → GX (XC ta adK adV) D (tyC cI cB cG cS) A s (wP cI cG ad f st tr sp vis day z) H locs → lv_has ls 2 [(1, .int (nI i)), (0, .ref (ad 0))] → W p l e R s m args below meth c H locs kc ks Q (F0 m 46 ls []) := by
  have hx := C0.1
  have hb := C0.2.1
  intro n
  induction n with
  | zero =>
    intro i f H locs ls hi hf G hl
    obtain rfl : i = 16 := by omega
    refine lv_iload_n hx hb dX0_init_46 rfl (lv_at hl 0 rfl) ?_
    refine lv_bipush (v := nI 16) hx hb dX0_init_47 (by decide) ?_
    refine lv_icmp_ge (tgt := 65) hx hb dX0_init_49 (by decide) (fun hc1 => ?_) (fun hc1 => ?_)
    · refine kk H locs ls ?_ hl
      exact GX.renm (w := wP cI cG ad f st tr sp vis day z) (q0 := 1) G hf
    · exact absurd (nI_le (Nat.le_refl 16) (by decide)) hc1
  | succ n ih =>
    intro i f H locs ls hi hf G hl
    refine lv_iload_n hx hb dX0_init_46 rfl (lv_at hl 0 rfl) ?_
    refine lv_bipush (v := nI 16) hx hb dX0_init_47 (by decide) ?_
    refine lv_icmp_ge (tgt := 65) hx hb dX0_init_49 (by decide) (fun hc1 => ?_) (fun hc1 => ?_)
    · exact absurd hc1 (nI_ge (by omega) (by decide))
    ·
      refine lv_aload_n hx hb dX0_init_52 rfl (lv_at hl 1 rfl) ?_
      refine t_get (C := RX0) (T := TX0) (N := 7) C0 G i_X0 0 0 rfl rfl (by decide) q80 rfl dX0_init_53 ?_
      refine lv_iload_n hx hb dX0_init_56 rfl (lv_at hl 0 rfl) ?_
      refine lv_iconst (v := 5) hx hb dX0_init_57 (by decide) ?_
      refine t_iast (k := i) (w' := wP cI cG ad (upd f i 5) st tr sp vis day z) C0 G 1 0 rfl rfl (nI_in (show i < 16 by omega) (by decide)) (nI_clamp (by omega)) rfl dX0_init_58 (fun H locs G => ?_)
      refine lv_iinc (v := nI (i + 1)) (lv' := [(1, .int (nI (i + 1))), (0, .ref (ad 0))]) hx hb dX0_init_59 hl (k := 0) rfl (nI_1 i) (by decide) rfl (fun ls hl => ?_)
      refine lv_goto (tgt := 46) hx hb dX0_init_62 (by decide) ?_
      refine ih (i + 1) _ H locs ls (by omega) (fun j hj => ?_) G hl
      by_cases q : j = i
      · subst q; rw [upd_s]
      · rw [upd_n q]; exact hf j (by omega)
set_option maxHeartbeats 4000000 in
set_option maxRecDepth 100000 in
theorem pit_l2 {ta adK adV : Nat → Nat} {l : Launch} {D : va_G} {cI cB cG cS : ClassId} {p : Program} {e : Env} {R : Room} {s : State} {m : MethodId} {args : Array Value} {below : List Frame} {meth : Method} {c : Code} {A : Nat → Prop} {Q : State → Prop} {kc ks : Nat} {ad : Nat → Nat} {hp sp : Nat → Int32} {tr : Nat → Nat → Int32} {vis day z : Int32} (C0 : CX (XC ta adK adV) p s m args meth c cX0_init 2 none RX0 A) (kk : ∀ (H : Heap) (locs : List Loc) (ls : Array Slot), GX (XC ta adK adV) D (tyC cI cB cG cS) A s (wP cI cG ad hp kSF tr sp vis day z) H locs → lv_has ls 2 [(1, .int (nI 3)), (0, .ref (ad 0))] → W p l e R s m args below meth c H locs kc ks Q (F0 m 89 ls [])) : ∀ (n i : Nat) (f : Nat → Int32) (H : Heap) (locs : List Loc) (ls : Array Slot), i + n = 3 → (∀ j, j < i → f j = (kSF) j) → GX (XC ta adK adV) D (tyC cI cB cG cS) A s (wP cI cG ad hp f tr sp vis day z) H locs → lv_has ls 2 [(1, .int (nI i)), (0, .ref (ad 0))] → W p l e R s m args below meth c H locs kc ks Q (F0 m 67 ls []) := by
  have hx := C0.1
  have hb := C0.2.1
  intro n
  induction n with
  | zero =>
    intro i f H locs ls hi hf G hl
    obtain rfl : i = 3 := by omega
    refine lv_iload_n hx hb dX0_init_67 rfl (lv_at hl 0 rfl) ?_
    refine lv_iconst (v := nI 2) hx hb dX0_init_68 (by decide) ?_
    refine lv_icmp_gt (tgt := 89) hx hb dX0_init_69 (by decide) (fun hc1 => ?_) (fun hc1 => ?_)
    · refine kk H locs ls ?_ hl
      exact GX.renm (w := wP cI cG ad hp f tr sp vis day z) (q0 := 2) G hf
    · exact absurd (nI_lt (show 2 < 3 by decide) (by decide)) hc1
  | succ n ih =>
    intro i f H locs ls hi hf G hl
    refine lv_iload_n hx hb dX0_init_67 rfl (lv_at hl 0 rfl) ?_
    refine lv_iconst (v := nI 2) hx hb dX0_init_68 (by decide) ?_
    refine lv_icmp_gt (tgt := 89) hx hb dX0_init_69 (by decide) (fun hc1 => ?_) (fun hc1 => ?_)
    · exact absurd hc1 (nI_nlt (by omega) (by decide))
    ·
      refine lv_aload_n hx hb dX0_init_72 rfl (lv_at hl 1 rfl) ?_
      refine t_get (C := RX0) (T := TX0) (N := 7) C0 G i_X0 0 1 rfl rfl (by decide) q83 rfl dX0_init_73 ?_
      refine lv_iload_n hx hb dX0_init_76 rfl (lv_at hl 0 rfl) ?_
      refine s_getsN2 C0 G (xa_0 G.2.2.2.2.1) (xn_78 G.2.2.2.2.1.2.1) dX0_init_77 ?_
      refine lv_iload_n hx hb dX0_init_80 rfl (lv_at hl 0 rfl) ?_
      refine s_ti2 (k := i) C0 G (xa_0 G.2.2.2.2.1) (nI_in (show i < 3 by omega) (by decide)) (nI_clamp (by omega)) dX0_init_81 ?_
      refine t_iast (k := i) (w' := wP cI cG ad hp (upd f i (kSF i)) tr sp vis day z) C0 G 2 0 rfl rfl (nI_in (show i < 3 by omega) (by decide)) (nI_clamp (by omega)) rfl dX0_init_82 (fun H locs G => ?_)
      refine lv_iinc (v := nI (i + 1)) (lv' := [(1, .int (nI (i + 1))), (0, .ref (ad 0))]) hx hb dX0_init_83 hl (k := 0) rfl (nI_1 i) (by decide) rfl (fun ls hl => ?_)
      refine lv_goto (tgt := 67) hx hb dX0_init_86 (by decide) ?_
      refine ih (i + 1) _ H locs ls (by omega) (fun j hj => ?_) G hl
      by_cases q : j = i
      · subst q; rw [upd_s]
      · rw [upd_n q]; exact hf j (by omega)
set_option maxHeartbeats 4000000 in
set_option maxRecDepth 100000 in
theorem pit_l3 {ta adK adV : Nat → Nat} {l : Launch} {D : va_G} {cI cB cG cS : ClassId} {p : Program} {e : Env} {R : Room} {s : State} {m : MethodId} {args : Array Value} {below : List Frame} {meth : Method} {c : Code} {A : Nat → Prop} {Q : State → Prop} {kc ks : Nat} {ad : Nat → Nat} {hp st : Nat → Int32} {tr : Nat → Nat → Int32} {vis day z : Int32} (C0 : CX (XC ta adK adV) p s m args meth c cX0_init 2 none RX0 A) (kk : ∀ (H : Heap) (locs : List Loc) (ls : Array Slot), GX (XC ta adK adV) D (tyC cI cB cG cS) A s (wP cI cG ad hp st tr (fun _ => -1) vis day z) H locs → lv_has ls 2 [(1, .int (nI 10)), (0, .ref (ad 0))] → W p l e R s m args below meth c H locs kc ks Q (F0 m 110 ls [])) : ∀ (n i : Nat) (f : Nat → Int32) (H : Heap) (locs : List Loc) (ls : Array Slot), i + n = 10 → (∀ j, j < i → f j = ((fun _ => -1)) j) → GX (XC ta adK adV) D (tyC cI cB cG cS) A s (wP cI cG ad hp st tr f vis day z) H locs → lv_has ls 2 [(1, .int (nI i)), (0, .ref (ad 0))] → W p l e R s m args below meth c H locs kc ks Q (F0 m 91 ls []) := by
  have hx := C0.1
  have hb := C0.2.1
  intro n
  induction n with
  | zero =>
    intro i f H locs ls hi hf G hl
    obtain rfl : i = 10 := by omega
    refine lv_iload_n hx hb dX0_init_91 rfl (lv_at hl 0 rfl) ?_
    refine lv_bipush (v := nI 10) hx hb dX0_init_92 (by decide) ?_
    refine lv_icmp_ge (tgt := 110) hx hb dX0_init_94 (by decide) (fun hc1 => ?_) (fun hc1 => ?_)
    · refine kk H locs ls ?_ hl
      exact GX.renm (w := wP cI cG ad hp st tr f vis day z) (q0 := 11) G hf
    · exact absurd (nI_le (Nat.le_refl 10) (by decide)) hc1
  | succ n ih =>
    intro i f H locs ls hi hf G hl
    refine lv_iload_n hx hb dX0_init_91 rfl (lv_at hl 0 rfl) ?_
    refine lv_bipush (v := nI 10) hx hb dX0_init_92 (by decide) ?_
    refine lv_icmp_ge (tgt := 110) hx hb dX0_init_94 (by decide) (fun hc1 => ?_) (fun hc1 => ?_)
    · exact absurd hc1 (nI_ge (by omega) (by decide))
    ·
      refine lv_aload_n hx hb dX0_init_97 rfl (lv_at hl 1 rfl) ?_
      refine t_get (C := RX0) (T := TX0) (N := 7) C0 G i_X0 0 3 rfl rfl (by decide) q89 rfl dX0_init_98 ?_
      refine lv_iload_n hx hb dX0_init_101 rfl (lv_at hl 0 rfl) ?_
      refine lv_iconst (v := -1) hx hb dX0_init_102 (by decide) ?_
      refine t_iast (k := i) (w' := wP cI cG ad hp st tr (upd f i (-1)) vis day z) C0 G 11 0 rfl rfl (nI_in (show i < 10 by omega) (by decide)) (nI_clamp (by omega)) rfl dX0_init_103 (fun H locs G => ?_)
      refine lv_iinc (v := nI (i + 1)) (lv' := [(1, .int (nI (i + 1))), (0, .ref (ad 0))]) hx hb dX0_init_104 hl (k := 0) rfl (nI_1 i) (by decide) rfl (fun ls hl => ?_)
      refine lv_goto (tgt := 91) hx hb dX0_init_107 (by decide) ?_
      refine ih (i + 1) _ H locs ls (by omega) (fun j hj => ?_) G hl
      by_cases q : j = i
      · subst q; rw [upd_s]
      · rw [upd_n q]; exact hf j (by omega)
set_option maxHeartbeats 4000000 in
set_option maxRecDepth 100000 in
theorem c0_init {ta adK adV : Nat → Nat} {l : Launch} {D : va_G} {cI cB cG cS : ClassId} {h0 sz : Nat} : Met l yX0_init (wU yX0_init cX0_init 2 none) ({ frames := 1, cells := 11, slots := 92, locals := 30 }) (va_Pc [.ref h0] (PreW (XC ta adK adV) D (tyC cI cB cG cS) (w0i h0) sz)) (QcC D (tyC cI cB cG cS) (w0f cI cG h0) (va_A (w0i h0) sz)) 11 92 (va_A (w0i h0) sz) := by
  refine startI XC_ok (own := RX0) (by decide) rfl (Nat.le_of_ble_eq_true rfl) rfl (fun p e s m args below meth c ls C0 hmn G hl => ?_)
  have hx := C0.1
  have hb := C0.2.1
  have hl : lv_has ls 2 [(0, .ref h0)] := hl
  refine lv_aload_n hx hb dX0_init_0 rfl (lv_at hl 0 rfl) ?_
  refine t_obj C0 hl.1 q75 ⟨Nat.le_of_ble_eq_true rfl, Nat.le_of_ble_eq_true rfl⟩ dX0_init_1 ?_
  refine lv_aload_n hx hb dX0_init_4 rfl (lv_at hl 0 rfl) ?_
  refine lv_bipush (v := 16) hx hb dX0_init_5 (by decide) ?_
  refine t_newa (t0 := 0) (N' := 16) (atype := .int) (ty := .int) C0 G q112 rfl rfl (fun _ => rfl) (by decide) (by decide) (Nat.le_of_ble_eq_true rfl) (Nat.le_of_ble_eq_true rfl) (Nat.le_of_ble_eq_true rfl) dX0_init_7 (fun q1 H G => ?_)
  refine W.widen (k := 1) (n := 16) (Nat.le_of_ble_eq_true rfl) (Nat.le_of_ble_eq_true rfl) ?_
  have G : GX (XC ta adK adV) D (tyC cI cB cG cS) _ s [(h0, .inr (0, [.null, .null, .null, .null, .int 0, .int 0, .int 0])), (q1, .inl (cI, 16, .inl (fun _ => 0)))] H [] := G
  refine t_putF (C := RX0) (T := TX0) (N := 7) C0 G hmn i_X0 tyX0 tyX0_ok nmX0 0 0 rfl rfl (by decide) q80 rfl rfl (ty := .array .int) (by decide +kernel) rfl rfl (Nat.le_of_ble_eq_true rfl) rfl dX0_init_9 (fun H locs G => ?_)
  have G : GX (XC ta adK adV) D (tyC cI cB cG cS) _ s [(h0, .inr (0, [.ref q1, .null, .null, .null, .int 0, .int 0, .int 0])), (q1, .inl (cI, 16, .inl (fun _ => 0)))] H locs := G
  refine lv_aload_n hx hb dX0_init_12 rfl (lv_at hl 0 rfl) ?_
  refine lv_iconst (v := 3) hx hb dX0_init_13 (by decide) ?_
  refine t_newa (t0 := 0) (N' := 3) (atype := .int) (ty := .int) C0 G q112 rfl rfl (fun _ => rfl) (by decide) (by decide) (Nat.le_of_ble_eq_true rfl) (Nat.le_of_ble_eq_true rfl) (Nat.le_of_ble_eq_true rfl) dX0_init_14 (fun q2 H G => ?_)
  refine W.widen (k := 2) (n := 19) (Nat.le_of_ble_eq_true rfl) (Nat.le_of_ble_eq_true rfl) ?_
  have G : GX (XC ta adK adV) D (tyC cI cB cG cS) _ s [(h0, .inr (0, [.ref q1, .null, .null, .null, .int 0, .int 0, .int 0])), (q1, .inl (cI, 16, .inl (fun _ => 0))), (q2, .inl (cI, 3, .inl (fun _ => 0)))] H locs := G
  refine t_putF (C := RX0) (T := TX0) (N := 7) C0 G hmn i_X0 tyX0 tyX0_ok nmX0 0 1 rfl rfl (by decide) q83 rfl rfl (ty := .array .int) (by decide +kernel) rfl rfl (Nat.le_of_ble_eq_true rfl) rfl dX0_init_16 (fun H locs G => ?_)
  have G : GX (XC ta adK adV) D (tyC cI cB cG cS) _ s [(h0, .inr (0, [.ref q1, .ref q2, .null, .null, .int 0, .int 0, .int 0])), (q1, .inl (cI, 16, .inl (fun _ => 0))), (q2, .inl (cI, 3, .inl (fun _ => 0)))] H locs := G
  refine lv_aload_n hx hb dX0_init_19 rfl (lv_at hl 0 rfl) ?_
  refine lv_bipush (v := 7) hx hb dX0_init_20 (by decide) ?_
  refine lv_bipush (v := 8) hx hb dX0_init_22 (by decide) ?_
  refine t_mna (t0 := 0) (t1 := 2) (N' := 7) (K' := 8) C0 G q76 G.2.2.2.2.2.2 q112 rfl rfl (by decide) (by decide) (by decide) (by decide) (Nat.le_of_ble_eq_true rfl) (Nat.le_of_ble_eq_true rfl) (Nat.le_of_ble_eq_true rfl) (Nat.le_of_ble_eq_true rfl) (Nat.le_of_ble_eq_true rfl) dX0_init_24 (fun q3 r H G => ?_)
  refine W.widen (k := 10) (n := 82) (Nat.le_of_ble_eq_true rfl) (Nat.le_of_ble_eq_true rfl) ?_
  have G : GX (XC ta adK adV) D (tyC cI cB cG cS) _ s [(h0, .inr (0, [.ref q1, .ref q2, .null, .null, .int 0, .int 0, .int 0])), (q1, .inl (cI, 16, .inl (fun _ => 0))), (q2, .inl (cI, 3, .inl (fun _ => 0))), (q3, .inl (cG, 7, .inr (.inr (.inr (.inr (fun i => if i < 7 then some (r i) else none)))))), (r 0, .inl (cI, 8, .inl (fun _ => 0))), (r 1, .inl (cI, 8, .inl (fun _ => 0))), (r 2, .inl (cI, 8, .inl (fun _ => 0))), (r 3, .inl (cI, 8, .inl (fun _ => 0))), (r 4, .inl (cI, 8, .inl (fun _ => 0))), (r 5, .inl (cI, 8, .inl (fun _ => 0))), (r 6, .inl (cI, 8, .inl (fun _ => 0)))] H locs := G
  refine t_putF (C := RX0) (T := TX0) (N := 7) C0 G hmn i_X0 tyX0 tyX0_ok nmX0 0 2 rfl rfl (by decide) q86 rfl rfl (ty := .array (.array .int)) (by decide +kernel) rfl rfl (Nat.le_of_ble_eq_true rfl) rfl dX0_init_28 (fun H locs G => ?_)
  have G : GX (XC ta adK adV) D (tyC cI cB cG cS) _ s [(h0, .inr (0, [.ref q1, .ref q2, .ref q3, .null, .int 0, .int 0, .int 0])), (q1, .inl (cI, 16, .inl (fun _ => 0))), (q2, .inl (cI, 3, .inl (fun _ => 0))), (q3, .inl (cG, 7, .inr (.inr (.inr (.inr (fun i => if i < 7 then some (r i) else none)))))), (r 0, .inl (cI, 8, .inl (fun _ => 0))), (r 1, .inl (cI, 8, .inl (fun _ => 0))), (r 2, .inl (cI, 8, .inl (fun _ => 0))), (r 3, .inl (cI, 8, .inl (fun _ => 0))), (r 4, .inl (cI, 8, .inl (fun _ => 0))), (r 5, .inl (cI, 8, .inl (fun _ => 0))), (r 6, .inl (cI, 8, .inl (fun _ => 0)))] H locs := G
  refine lv_aload_n hx hb dX0_init_31 rfl (lv_at hl 0 rfl) ?_
  refine lv_bipush (v := 10) hx hb dX0_init_32 (by decide) ?_
  refine t_newa (t0 := 0) (N' := 10) (atype := .int) (ty := .int) C0 G q112 rfl rfl (fun _ => rfl) (by decide) (by decide) (Nat.le_of_ble_eq_true rfl) (Nat.le_of_ble_eq_true rfl) (Nat.le_of_ble_eq_true rfl) dX0_init_34 (fun q11 H G => ?_)
  refine W.widen (k := 11) (n := 92) (Nat.le_of_ble_eq_true rfl) (Nat.le_of_ble_eq_true rfl) ?_
  have G : GX (XC ta adK adV) D (tyC cI cB cG cS) _ s [(h0, .inr (0, [.ref q1, .ref q2, .ref q3, .null, .int 0, .int 0, .int 0])), (q1, .inl (cI, 16, .inl (fun _ => 0))), (q2, .inl (cI, 3, .inl (fun _ => 0))), (q3, .inl (cG, 7, .inr (.inr (.inr (.inr (fun i => if i < 7 then some (r i) else none)))))), (r 0, .inl (cI, 8, .inl (fun _ => 0))), (r 1, .inl (cI, 8, .inl (fun _ => 0))), (r 2, .inl (cI, 8, .inl (fun _ => 0))), (r 3, .inl (cI, 8, .inl (fun _ => 0))), (r 4, .inl (cI, 8, .inl (fun _ => 0))), (r 5, .inl (cI, 8, .inl (fun _ => 0))), (r 6, .inl (cI, 8, .inl (fun _ => 0))), (q11, .inl (cI, 10, .inl (fun _ => 0)))] H locs := G
  refine t_putF (C := RX0) (T := TX0) (N := 7) C0 G hmn i_X0 tyX0 tyX0_ok nmX0 0 3 rfl rfl (by decide) q89 rfl rfl (ty := .array .int) (by decide +kernel) rfl rfl (Nat.le_of_ble_eq_true rfl) rfl dX0_init_36 (fun H locs G => ?_)
  have G : GX (XC ta adK adV) D (tyC cI cB cG cS) _ s [(h0, .inr (0, [.ref q1, .ref q2, .ref q3, .ref q11, .int 0, .int 0, .int 0])), (q1, .inl (cI, 16, .inl (fun _ => 0))), (q2, .inl (cI, 3, .inl (fun _ => 0))), (q3, .inl (cG, 7, .inr (.inr (.inr (.inr (fun i => if i < 7 then some (r i) else none)))))), (r 0, .inl (cI, 8, .inl (fun _ => 0))), (r 1, .inl (cI, 8, .inl (fun _ => 0))), (r 2, .inl (cI, 8, .inl (fun _ => 0))), (r 3, .inl (cI, 8, .inl (fun _ => 0))), (r 4, .inl (cI, 8, .inl (fun _ => 0))), (r 5, .inl (cI, 8, .inl (fun _ => 0))), (r 6, .inl (cI, 8, .inl (fun _ => 0))), (q11, .inl (cI, 10, .inl (fun _ => 0)))] H locs := G
  refine lv_aload_n hx hb dX0_init_39 rfl (lv_at hl 0 rfl) ?_
  refine lv_iconst (v := 1) hx hb dX0_init_40 (by decide) ?_
  refine t_put (C := RX0) (T := TX0) (N := 7) C0 G i_X0 tyX0 tyX0_ok nmX0 0 6 rfl rfl (by decide) q95 rfl (ty := .int) (by decide +kernel) rfl rfl (Nat.le_of_ble_eq_true rfl) rfl dX0_init_41 (fun H locs G => ?_)
  have G : GX (XC ta adK adV) D (tyC cI cB cG cS) _ s [(h0, .inr (0, [.ref q1, .ref q2, .ref q3, .ref q11, .int 0, .int 0, .int 1])), (q1, .inl (cI, 16, .inl (fun _ => 0))), (q2, .inl (cI, 3, .inl (fun _ => 0))), (q3, .inl (cG, 7, .inr (.inr (.inr (.inr (fun i => if i < 7 then some (r i) else none)))))), (r 0, .inl (cI, 8, .inl (fun _ => 0))), (r 1, .inl (cI, 8, .inl (fun _ => 0))), (r 2, .inl (cI, 8, .inl (fun _ => 0))), (r 3, .inl (cI, 8, .inl (fun _ => 0))), (r 4, .inl (cI, 8, .inl (fun _ => 0))), (r 5, .inl (cI, 8, .inl (fun _ => 0))), (r 6, .inl (cI, 8, .inl (fun _ => 0))), (q11, .inl (cI, 10, .inl (fun _ => 0)))] H locs := G
  have G := GX.renq (w := [(h0, .inr (0, [.ref q1, .ref q2, .ref q3, .ref q11, .int 0, .int 0, .int 1])), (q1, .inl (cI, 16, .inl (fun _ => 0))), (q2, .inl (cI, 3, .inl (fun _ => 0))), (q3, .inl (cG, 7, .inr (.inr (.inr (.inr (fun i => if i < 7 then some (r i) else none)))))), (r 0, .inl (cI, 8, .inl (fun _ => 0))), (r 1, .inl (cI, 8, .inl (fun _ => 0))), (r 2, .inl (cI, 8, .inl (fun _ => 0))), (r 3, .inl (cI, 8, .inl (fun _ => 0))), (r 4, .inl (cI, 8, .inl (fun _ => 0))), (r 5, .inl (cI, 8, .inl (fun _ => 0))), (r 6, .inl (cI, 8, .inl (fun _ => 0))), (q11, .inl (cI, 10, .inl (fun _ => 0)))]) (q0 := 3) (g := fun i => some ((fun k => if k = 0 then h0 else if k = 1 then q1 else if k = 2 then q2 else if k = 3 then q3 else if k = 11 then q11 else r (k - 4)) (4 + i))) G (fun j hj => by rcases (show j = 0 ∨ j = 1 ∨ j = 2 ∨ j = 3 ∨ j = 4 ∨ j = 5 ∨ j = 6 by omega) with rfl | rfl | rfl | rfl | rfl | rfl | rfl <;> rfl)
  have G : GX (XC ta adK adV) D (tyC cI cB cG cS) _ s (wP cI cG (fun k => if k = 0 then h0 else if k = 1 then q1 else if k = 2 then q2 else if k = 3 then q3 else if k = 11 then q11 else r (k - 4)) (fun _ => 0) (fun _ => 0) (fun _ _ => 0) (fun _ => 0) 0 0 1) H locs := G
  refine lv_iconst (v := nI 0) hx hb dX0_init_44 (by decide) ?_
  refine lv_istore_n (lv' := [(1, .int (nI 0)), (0, .ref h0)]) hx hb dX0_init_45 rfl hl (by decide) rfl (fun ls hl => ?_)
  refine pit_l1 C0 (fun H locs ls G hl => ?_) 16 0 _ H locs ls (by omega) (fun j hj => by omega) G hl
  refine lv_iconst (v := nI 0) hx hb dX0_init_65 (by decide) ?_
  refine lv_istore_n (lv' := [(1, .int (nI 0)), (0, .ref h0)]) hx hb dX0_init_66 rfl hl (by decide) rfl (fun ls hl => ?_)
  refine pit_l2 C0 (fun H locs ls G hl => ?_) 3 0 _ H locs ls (by omega) (fun j hj => by omega) G hl
  refine lv_iconst (v := nI 0) hx hb dX0_init_89 (by decide) ?_
  refine lv_istore_n (lv' := [(1, .int (nI 0)), (0, .ref h0)]) hx hb dX0_init_90 rfl hl (by decide) rfl (fun ls hl => ?_)
  refine pit_l3 C0 (fun H locs ls G hl => ?_) 10 0 _ H locs ls (by omega) (fun j hj => by omega) G hl
  have eU : (fun k => if k = 0 then h0 else (fun k => if k = 0 then h0 else if k = 1 then q1 else if k = 2 then q2 else if k = 3 then q3 else if k = 11 then q11 else r (k - 4)) k) = (fun k => if k = 0 then h0 else if k = 1 then q1 else if k = 2 then q2 else if k = 3 then q3 else if k = 11 then q11 else r (k - 4)) := by funext k; by_cases q : k = 0 <;> simp [q]
  exact ret_c (f := w0f cI cG h0) (fun k => if k = 0 then h0 else if k = 1 then q1 else if k = 2 then q2 else if k = 3 then q3 else if k = 11 then q11 else r (k - 4)) C0 (by show GX (XC ta adK adV) D (tyC cI cB cG cS) _ s (wP cI cG (fun k => if k = 0 then h0 else (fun k => if k = 0 then h0 else if k = 1 then q1 else if k = 2 then q2 else if k = 3 then q3 else if k = 11 then q11 else r (k - 4)) k) (fun _ => 5) kSF (fun _ _ => 0) (fun _ => -1) 0 0 1) H locs; rw [eU]; exact G) dX0_init_110
