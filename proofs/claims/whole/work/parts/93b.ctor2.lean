/-! the constructor of SandLedger: the walk -/
abbrev w4i (h0 : Nat) : va_W := [(h0, .inr (4, [.null, .null, .null, .null, .null, .null, .null, .int 0]))]
abbrev w4f (cI cB cG cS : ClassId) (h0 : Nat) (u : Nat → Nat) : va_W := wS cI cB cG cS (fun k => if k = 0 then h0 else u k) (fun _ => 5) kSF (fun _ _ => 0) (fun _ => -1) 0 0 1 (fun _ => 5) kSF (fun _ _ => 0) (fun _ => -1) 0 0 1 (fun _ => 5) kSF (fun _ _ => 0) (fun _ => -1) 0 0 1 (fun _ => 0) 0 0 0 0 0 (fun _ _ => 0) (fun _ => 0) (fun _ => 0) (fun _ => 0) 0
set_option maxHeartbeats 4000000 in
set_option maxRecDepth 100000 in
theorem c4_init {ta adK adV : Nat → Nat} {l : Launch} {D : va_G} {cI cB cG cS : ClassId} {h0 sz : Nat} : Met l yX4_init (wU yX4_init cX4_init 2 none) ({ frames := 3, cells := 49, slots := 607, locals := 90 }) (va_Pc [.ref h0] (PreW (XC ta adK adV) D (tyC cI cB cG cS) (w4i h0) sz)) (QcC D (tyC cI cB cG cS) (w4f cI cB cG cS h0) (va_A (w4i h0) sz)) 49 607 (va_A (w4i h0) sz) := by
  refine startI XC_ok (own := RX4) (by decide) rfl (Nat.le_of_ble_eq_true rfl) rfl (fun p e s m args below meth c ls C0 hmn G hl => ?_)
  have hx := C0.1
  have hb := C0.2.1
  have hl : lv_has ls 2 [(0, .ref h0)] := hl
  refine lv_aload_n hx hb dX4_init_0 rfl (lv_at hl 0 rfl) ?_
  refine t_obj C0 hl.1 q67 ⟨Nat.le_of_ble_eq_true rfl, Nat.le_of_ble_eq_true rfl⟩ dX4_init_1 ?_
  refine lv_aload_n hx hb dX4_init_4 rfl (lv_at hl 0 rfl) ?_
  refine t_new (ci := 0) (fs := [.null, .null, .null, .null, .int 0, .int 0, .int 0]) (C := RX0) (T := TX0) (N := 7) C0 G i_X0 tyX0 tyX0_ok q70 q71 q50 rfl (fun j hj => by rcases (show j = 0 ∨ j = 1 ∨ j = 2 ∨ j = 3 ∨ j = 4 ∨ j = 5 ∨ j = 6 by omega) with rfl | rfl | rfl | rfl | rfl | rfl | rfl <;> rfl) (Nat.le_of_ble_eq_true rfl) (Nat.le_of_ble_eq_true rfl) dX4_init_5 (fun q1 H G => ?_)
  refine W.widen (k := 1) (n := 7) (Nat.le_of_ble_eq_true rfl) (Nat.le_of_ble_eq_true rfl) ?_
  have G : GX (XC ta adK adV) D (tyC cI cB cG cS) _ s (([(h0, .inr (4, [.null, .null, .null, .null, .null, .null, .null, .int 0]))]) ++ w0i q1) H _ := G
  refine lv_dup hx hb dX4_init_8 rfl ?_
  have hs : Sub (([(h0, .inr (4, [.null, .null, .null, .null, .null, .null, .null, .int 0]))]) ++ w0i q1) (w0i q1) ([(h0, .inr (4, [.null, .null, .null, .null, .null, .null, .null, .int 0]))]) [1] [0] := ⟨rfl, rfl, rfl, rfl, by decide⟩
  refine go_c (f := w0f cI cG q1) C0 G hs (runI_sub (As := []) (rest := [.ref q1, .ref h0]) (n := 0) C0 G hs (c0_init) q74 q50 q72 q73 rfl o0_init ⟨rfl, rfl⟩ ⟨Nat.le_of_ble_eq_true rfl, Nat.le_of_ble_eq_true rfl⟩ rfl hl.1 rfl (Nat.le_of_ble_eq_true rfl) dX4_init_9 ⟨Nat.le_of_ble_eq_true rfl, Nat.le_of_ble_eq_true rfl⟩) (fun u1 H locs G => ?_)
  refine W.widen (k := 12) (n := 99) (Nat.le_of_ble_eq_true rfl) (Nat.le_of_ble_eq_true rfl) ?_
  have G : GX (XC ta adK adV) D (tyC cI cB cG cS) _ s ([(h0, .inr (4, [.null, .null, .null, .null, .null, .null, .null, .int 0]))] ++ w0f cI cG q1 u1) H _ := G
  refine t_putF (C := RX4) (T := TX4) (N := 8) C0 G hmn i_X4 tyX4 tyX4_ok nmX4 0 0 rfl rfl (by decide) q173 rfl rfl (ty := .object "SandLedger$Pit") (by decide +kernel) rfl rfl (Nat.le_of_ble_eq_true rfl) rfl dX4_init_12 (fun H locs G => ?_)
  have G : GX (XC ta adK adV) D (tyC cI cB cG cS) _ s ([(h0, .inr (4, [.ref q1, .null, .null, .null, .null, .null, .null, .int 0]))] ++ w0f cI cG q1 u1) H _ := G
  refine lv_aload_n hx hb dX4_init_15 rfl (lv_at hl 0 rfl) ?_
  refine t_new (ci := 0) (fs := [.null, .null, .null, .null, .int 0, .int 0, .int 0]) (C := RX0) (T := TX0) (N := 7) C0 G i_X0 tyX0 tyX0_ok q70 q71 q50 rfl (fun j hj => by rcases (show j = 0 ∨ j = 1 ∨ j = 2 ∨ j = 3 ∨ j = 4 ∨ j = 5 ∨ j = 6 by omega) with rfl | rfl | rfl | rfl | rfl | rfl | rfl <;> rfl) (Nat.le_of_ble_eq_true rfl) (Nat.le_of_ble_eq_true rfl) dX4_init_16 (fun q2 H G => ?_)
  refine W.widen (k := 13) (n := 106) (Nat.le_of_ble_eq_true rfl) (Nat.le_of_ble_eq_true rfl) ?_
  have G : GX (XC ta adK adV) D (tyC cI cB cG cS) _ s (([(h0, .inr (4, [.ref q1, .null, .null, .null, .null, .null, .null, .int 0]))] ++ w0f cI cG q1 u1) ++ w0i q2) H _ := G
  refine lv_dup hx hb dX4_init_19 rfl ?_
  have hs : Sub (([(h0, .inr (4, [.ref q1, .null, .null, .null, .null, .null, .null, .int 0]))] ++ w0f cI cG q1 u1) ++ w0i q2) (w0i q2) ([(h0, .inr (4, [.ref q1, .null, .null, .null, .null, .null, .null, .int 0]))] ++ w0f cI cG q1 u1) [13] [0, 1, 2, 3, 4, 5, 6, 7, 8, 9, 10, 11, 12] := ⟨rfl, rfl, rfl, rfl, by decide⟩
  refine go_c (f := w0f cI cG q2) C0 G hs (runI_sub (As := []) (rest := [.ref q2, .ref h0]) (n := 0) C0 G hs (c0_init) q74 q50 q72 q73 rfl o0_init ⟨rfl, rfl⟩ ⟨Nat.le_of_ble_eq_true rfl, Nat.le_of_ble_eq_true rfl⟩ rfl hl.1 rfl (Nat.le_of_ble_eq_true rfl) dX4_init_20 ⟨Nat.le_of_ble_eq_true rfl, Nat.le_of_ble_eq_true rfl⟩) (fun u2 H locs G => ?_)
  refine W.widen (k := 24) (n := 198) (Nat.le_of_ble_eq_true rfl) (Nat.le_of_ble_eq_true rfl) ?_
  have G : GX (XC ta adK adV) D (tyC cI cB cG cS) _ s ([(h0, .inr (4, [.ref q1, .null, .null, .null, .null, .null, .null, .int 0]))] ++ w0f cI cG q1 u1 ++ w0f cI cG q2 u2) H _ := G
  refine t_putF (C := RX4) (T := TX4) (N := 8) C0 G hmn i_X4 tyX4 tyX4_ok nmX4 0 1 rfl rfl (by decide) q174 rfl rfl (ty := .object "SandLedger$Pit") (by decide +kernel) rfl rfl (Nat.le_of_ble_eq_true rfl) rfl dX4_init_23 (fun H locs G => ?_)
  have G : GX (XC ta adK adV) D (tyC cI cB cG cS) _ s ([(h0, .inr (4, [.ref q1, .ref q2, .null, .null, .null, .null, .null, .int 0]))] ++ w0f cI cG q1 u1 ++ w0f cI cG q2 u2) H _ := G
  refine lv_aload_n hx hb dX4_init_26 rfl (lv_at hl 0 rfl) ?_
  refine t_new (ci := 0) (fs := [.null, .null, .null, .null, .int 0, .int 0, .int 0]) (C := RX0) (T := TX0) (N := 7) C0 G i_X0 tyX0 tyX0_ok q70 q71 q50 rfl (fun j hj => by rcases (show j = 0 ∨ j = 1 ∨ j = 2 ∨ j = 3 ∨ j = 4 ∨ j = 5 ∨ j = 6 by omega) with rfl | rfl | rfl | rfl | rfl | rfl | rfl <;> rfl) (Nat.le_of_ble_eq_true rfl) (Nat.le_of_ble_eq_true rfl) dX4_init_27 (fun q3 H G => ?_)
  refine W.widen (k := 25) (n := 205) (Nat.le_of_ble_eq_true rfl) (Nat.le_of_ble_eq_true rfl) ?_
  have G : GX (XC ta adK adV) D (tyC cI cB cG cS) _ s (([(h0, .inr (4, [.ref q1, .ref q2, .null, .null, .null, .null, .null, .int 0]))] ++ w0f cI cG q1 u1 ++ w0f cI cG q2 u2) ++ w0i q3) H _ := G
  refine lv_dup hx hb dX4_init_30 rfl ?_
  have hs : Sub (([(h0, .inr (4, [.ref q1, .ref q2, .null, .null, .null, .null, .null, .int 0]))] ++ w0f cI cG q1 u1 ++ w0f cI cG q2 u2) ++ w0i q3) (w0i q3) ([(h0, .inr (4, [.ref q1, .ref q2, .null, .null, .null, .null, .null, .int 0]))] ++ w0f cI cG q1 u1 ++ w0f cI cG q2 u2) [25] [0, 1, 2, 3, 4, 5, 6, 7, 8, 9, 10, 11, 12, 13, 14, 15, 16, 17, 18, 19, 20, 21, 22, 23, 24] := ⟨rfl, rfl, rfl, rfl, by decide⟩
  refine go_c (f := w0f cI cG q3) C0 G hs (runI_sub (As := []) (rest := [.ref q3, .ref h0]) (n := 0) C0 G hs (c0_init) q74 q50 q72 q73 rfl o0_init ⟨rfl, rfl⟩ ⟨Nat.le_of_ble_eq_true rfl, Nat.le_of_ble_eq_true rfl⟩ rfl hl.1 rfl (Nat.le_of_ble_eq_true rfl) dX4_init_31 ⟨Nat.le_of_ble_eq_true rfl, Nat.le_of_ble_eq_true rfl⟩) (fun u3 H locs G => ?_)
  refine W.widen (k := 36) (n := 297) (Nat.le_of_ble_eq_true rfl) (Nat.le_of_ble_eq_true rfl) ?_
  have G : GX (XC ta adK adV) D (tyC cI cB cG cS) _ s ([(h0, .inr (4, [.ref q1, .ref q2, .null, .null, .null, .null, .null, .int 0]))] ++ w0f cI cG q1 u1 ++ w0f cI cG q2 u2 ++ w0f cI cG q3 u3) H _ := G
  refine t_putF (C := RX4) (T := TX4) (N := 8) C0 G hmn i_X4 tyX4 tyX4_ok nmX4 0 2 rfl rfl (by decide) q175 rfl rfl (ty := .object "SandLedger$Pit") (by decide +kernel) rfl rfl (Nat.le_of_ble_eq_true rfl) rfl dX4_init_34 (fun H locs G => ?_)
  have G : GX (XC ta adK adV) D (tyC cI cB cG cS) _ s ([(h0, .inr (4, [.ref q1, .ref q2, .ref q3, .null, .null, .null, .null, .int 0]))] ++ w0f cI cG q1 u1 ++ w0f cI cG q2 u2 ++ w0f cI cG q3 u3) H _ := G
  refine lv_aload_n hx hb dX4_init_37 rfl (lv_at hl 0 rfl) ?_
  refine t_new (ci := 3) (fs := [.null, .int 0, .int 0, .int 0, .int 0]) (C := RX3) (T := TX3) (N := 5) C0 G i_X3 tyX3 tyX3_ok q113 q114 q51 rfl (fun j hj => by rcases (show j = 0 ∨ j = 1 ∨ j = 2 ∨ j = 3 ∨ j = 4 by omega) with rfl | rfl | rfl | rfl | rfl <;> rfl) (Nat.le_of_ble_eq_true rfl) (Nat.le_of_ble_eq_true rfl) dX4_init_38 (fun qR H G => ?_)
  refine W.widen (k := 37) (n := 302) (Nat.le_of_ble_eq_true rfl) (Nat.le_of_ble_eq_true rfl) ?_
  have G : GX (XC ta adK adV) D (tyC cI cB cG cS) _ s (([(h0, .inr (4, [.ref q1, .ref q2, .ref q3, .null, .null, .null, .null, .int 0]))] ++ w0f cI cG q1 u1 ++ w0f cI cG q2 u2 ++ w0f cI cG q3 u3) ++ w3i qR) H _ := G
  refine lv_dup hx hb dX4_init_41 rfl ?_
  have hs : Sub (([(h0, .inr (4, [.ref q1, .ref q2, .ref q3, .null, .null, .null, .null, .int 0]))] ++ w0f cI cG q1 u1 ++ w0f cI cG q2 u2 ++ w0f cI cG q3 u3) ++ w3i qR) (w3i qR) ([(h0, .inr (4, [.ref q1, .ref q2, .ref q3, .null, .null, .null, .null, .int 0]))] ++ w0f cI cG q1 u1 ++ w0f cI cG q2 u2 ++ w0f cI cG q3 u3) [37] [0, 1, 2, 3, 4, 5, 6, 7, 8, 9, 10, 11, 12, 13, 14, 15, 16, 17, 18, 19, 20, 21, 22, 23, 24, 25, 26, 27, 28, 29, 30, 31, 32, 33, 34, 35, 36] := ⟨rfl, rfl, rfl, rfl, by decide⟩
  refine go_c (f := w3f cB qR) C0 G hs (runIN_sub (As := []) (rest := [.ref qR, .ref h0]) (n := 0) C0 G hs (c3_init) q117 q51 (xn_115 G.2.2.2.2.1.2.1) q116 rfl o3_init ⟨rfl, rfl⟩ ⟨Nat.le_of_ble_eq_true rfl, Nat.le_of_ble_eq_true rfl⟩ rfl hl.1 rfl (Nat.le_of_ble_eq_true rfl) dX4_init_42 ⟨Nat.le_of_ble_eq_true rfl, Nat.le_of_ble_eq_true rfl⟩) (fun uR H locs G => ?_)
  refine W.widen (k := 39) (n := 424) (Nat.le_of_ble_eq_true rfl) (Nat.le_of_ble_eq_true rfl) ?_
  have G : GX (XC ta adK adV) D (tyC cI cB cG cS) _ s ([(h0, .inr (4, [.ref q1, .ref q2, .ref q3, .null, .null, .null, .null, .int 0]))] ++ w0f cI cG q1 u1 ++ w0f cI cG q2 u2 ++ w0f cI cG q3 u3 ++ w3f cB qR uR) H _ := G
  refine t_putF (C := RX4) (T := TX4) (N := 8) C0 G hmn i_X4 tyX4 tyX4_ok nmX4 0 3 rfl rfl (by decide) q176 rfl rfl (ty := .object "SandLedger$TextReader") (by decide +kernel) rfl rfl (Nat.le_of_ble_eq_true rfl) rfl dX4_init_45 (fun H locs G => ?_)
  have G : GX (XC ta adK adV) D (tyC cI cB cG cS) _ s ([(h0, .inr (4, [.ref q1, .ref q2, .ref q3, .ref qR, .null, .null, .null, .int 0]))] ++ w0f cI cG q1 u1 ++ w0f cI cG q2 u2 ++ w0f cI cG q3 u3 ++ w3f cB qR uR) H _ := G
  refine lv_aload_n hx hb dX4_init_48 rfl (lv_at hl 0 rfl) ?_
  refine lv_aload_n hx hb dX4_init_49 rfl (lv_at hl 0 rfl) ?_
  refine t_get (C := RX4) (T := TX4) (N := 8) C0 G i_X4 0 3 rfl rfl (by decide) q176 rfl dX4_init_50 ?_
  refine t_get (C := RX3) (T := TX3) (N := 5) C0 G i_X3 37 0 rfl rfl (by decide) q137 rfl dX4_init_53 ?_
  refine t_putF (C := RX4) (T := TX4) (N := 8) C0 G hmn i_X4 tyX4 tyX4_ok nmX4 0 4 rfl rfl (by decide) q177 rfl rfl (ty := .object "SandLedger$Tape") (by decide +kernel) rfl rfl (Nat.le_of_ble_eq_true rfl) rfl dX4_init_56 (fun H locs G => ?_)
  have G : GX (XC ta adK adV) D (tyC cI cB cG cS) _ s ([(h0, .inr (4, [.ref q1, .ref q2, .ref q3, .ref qR, .ref (uR 0), .null, .null, .int 0]))] ++ w0f cI cG q1 u1 ++ w0f cI cG q2 u2 ++ w0f cI cG q3 u3 ++ w3f cB qR uR) H _ := G
  refine lv_aload_n hx hb dX4_init_59 rfl (lv_at hl 0 rfl) ?_
  refine lv_iconst (v := 4) hx hb dX4_init_60 (by decide) ?_
  refine t_newq (t0 := 3) (N' := 4) (C := RX1) C0 G q153 G.2.2.2.2.2.1 rfl (by decide) (by decide) (Nat.le_of_ble_eq_true rfl) (Nat.le_of_ble_eq_true rfl) (Nat.le_of_ble_eq_true rfl) dX4_init_61 (fun qA H G => ?_)
  refine W.widen (k := 40) (n := 428) (Nat.le_of_ble_eq_true rfl) (Nat.le_of_ble_eq_true rfl) ?_
  have G : GX (XC ta adK adV) D (tyC cI cB cG cS) _ s ([(h0, .inr (4, [.ref q1, .ref q2, .ref q3, .ref qR, .ref (uR 0), .null, .null, .int 0]))] ++ w0f cI cG q1 u1 ++ w0f cI cG q2 u2 ++ w0f cI cG q3 u3 ++ w3f cB qR uR ++ [(qA, .inl (cS, 4, .inr (.inr (.inr (.inr (fun _ => none))))))]) H _ := G
  refine t_putF (C := RX4) (T := TX4) (N := 8) C0 G hmn i_X4 tyX4 tyX4_ok nmX4 0 5 rfl rfl (by decide) q178 rfl rfl (ty := .array (.object "SandLedger$Sheet")) (by decide +kernel) rfl rfl (Nat.le_of_ble_eq_true rfl) rfl dX4_init_64 (fun H locs G => ?_)
  have G : GX (XC ta adK adV) D (tyC cI cB cG cS) _ s ([(h0, .inr (4, [.ref q1, .ref q2, .ref q3, .ref qR, .ref (uR 0), .ref qA, .null, .int 0]))] ++ w0f cI cG q1 u1 ++ w0f cI cG q2 u2 ++ w0f cI cG q3 u3 ++ w3f cB qR uR ++ [(qA, .inl (cS, 4, .inr (.inr (.inr (.inr (fun _ => none))))))]) H _ := G
  refine lv_aload_n hx hb dX4_init_67 rfl (lv_at hl 0 rfl) ?_
  refine lv_bipush (v := 7) hx hb dX4_init_68 (by decide) ?_
  refine t_newa (t0 := 0) (N' := 7) (atype := .int) (ty := .int) C0 G q112 rfl rfl (fun _ => rfl) (by decide) (by decide) (Nat.le_of_ble_eq_true rfl) (Nat.le_of_ble_eq_true rfl) (Nat.le_of_ble_eq_true rfl) dX4_init_70 (fun qF H G => ?_)
  refine W.widen (k := 41) (n := 435) (Nat.le_of_ble_eq_true rfl) (Nat.le_of_ble_eq_true rfl) ?_
  have G : GX (XC ta adK adV) D (tyC cI cB cG cS) _ s ([(h0, .inr (4, [.ref q1, .ref q2, .ref q3, .ref qR, .ref (uR 0), .ref qA, .null, .int 0]))] ++ w0f cI cG q1 u1 ++ w0f cI cG q2 u2 ++ w0f cI cG q3 u3 ++ w3f cB qR uR ++ [(qA, .inl (cS, 4, .inr (.inr (.inr (.inr (fun _ => none))))))] ++ [(qF, .inl (cI, 7, .inl (fun _ => 0)))]) H _ := G
  refine t_putF (C := RX4) (T := TX4) (N := 8) C0 G hmn i_X4 tyX4 tyX4_ok nmX4 0 6 rfl rfl (by decide) q179 rfl rfl (ty := .array .int) (by decide +kernel) rfl rfl (Nat.le_of_ble_eq_true rfl) rfl dX4_init_72 (fun H locs G => ?_)
  have G : GX (XC ta adK adV) D (tyC cI cB cG cS) _ s ([(h0, .inr (4, [.ref q1, .ref q2, .ref q3, .ref qR, .ref (uR 0), .ref qA, .ref qF, .int 0]))] ++ w0f cI cG q1 u1 ++ w0f cI cG q2 u2 ++ w0f cI cG q3 u3 ++ w3f cB qR uR ++ [(qA, .inl (cS, 4, .inr (.inr (.inr (.inr (fun _ => none))))))] ++ [(qF, .inl (cI, 7, .inl (fun _ => 0)))]) H _ := G
  refine lv_iconst (v := 0) hx hb dX4_init_75 (by decide) ?_
  refine lv_istore_n (lv' := [(1, .int 0), (0, .ref h0)]) hx hb dX4_init_76 rfl hl (by decide) rfl (fun ls hl => ?_)
  refine lv_iload_n hx hb dX4_init_77 rfl (lv_at hl 0 rfl) ?_
  refine lv_iconst (v := 4) hx hb dX4_init_78 (by decide) ?_
  refine lv_icmp_ge (tgt := 101) hx hb dX4_init_79 (by decide) (fun hc1 => absurd hc1 (by decide)) (fun _ => ?_)
  refine lv_aload_n hx hb dX4_init_82 rfl (lv_at hl 1 rfl) ?_
  refine t_get (C := RX4) (T := TX4) (N := 8) C0 G i_X4 0 5 rfl rfl (by decide) q178 rfl dX4_init_83 ?_
  refine lv_iload_n hx hb dX4_init_86 rfl (lv_at hl 0 rfl) ?_
  refine t_new (ci := 1) (fs := [.null, .int 0, .int 0]) (C := RX1) (T := TX1) (N := 3) C0 G i_X1 tyX1 tyX1_ok q153 q155 q53 rfl (fun j hj => by rcases (show j = 0 ∨ j = 1 ∨ j = 2 by omega) with rfl | rfl | rfl <;> rfl) (Nat.le_of_ble_eq_true rfl) (Nat.le_of_ble_eq_true rfl) dX4_init_87 (fun qS0 H G => ?_)
  refine W.widen (k := 42) (n := 438) (Nat.le_of_ble_eq_true rfl) (Nat.le_of_ble_eq_true rfl) ?_
  have G : GX (XC ta adK adV) D (tyC cI cB cG cS) _ s (([(h0, .inr (4, [.ref q1, .ref q2, .ref q3, .ref qR, .ref (uR 0), .ref qA, .ref qF, .int 0]))] ++ w0f cI cG q1 u1 ++ w0f cI cG q2 u2 ++ w0f cI cG q3 u3 ++ w3f cB qR uR ++ [(qA, .inl (cS, 4, .inr (.inr (.inr (.inr (fun _ => none))))))] ++ [(qF, .inl (cI, 7, .inl (fun _ => 0)))]) ++ w1i qS0) H _ := G
  refine lv_dup hx hb dX4_init_90 rfl ?_
  have hs : Sub (([(h0, .inr (4, [.ref q1, .ref q2, .ref q3, .ref qR, .ref (uR 0), .ref qA, .ref qF, .int 0]))] ++ w0f cI cG q1 u1 ++ w0f cI cG q2 u2 ++ w0f cI cG q3 u3 ++ w3f cB qR uR ++ [(qA, .inl (cS, 4, .inr (.inr (.inr (.inr (fun _ => none))))))] ++ [(qF, .inl (cI, 7, .inl (fun _ => 0)))]) ++ w1i qS0) (w1i qS0) ([(h0, .inr (4, [.ref q1, .ref q2, .ref q3, .ref qR, .ref (uR 0), .ref qA, .ref qF, .int 0]))] ++ w0f cI cG q1 u1 ++ w0f cI cG q2 u2 ++ w0f cI cG q3 u3 ++ w3f cB qR uR ++ [(qA, .inl (cS, 4, .inr (.inr (.inr (.inr (fun _ => none))))))] ++ [(qF, .inl (cI, 7, .inl (fun _ => 0)))]) [42] [0, 1, 2, 3, 4, 5, 6, 7, 8, 9, 10, 11, 12, 13, 14, 15, 16, 17, 18, 19, 20, 21, 22, 23, 24, 25, 26, 27, 28, 29, 30, 31, 32, 33, 34, 35, 36, 37, 38, 39, 40, 41] := ⟨rfl, rfl, rfl, rfl, by decide⟩
  refine go_c (f := w1f cI qS0) C0 G hs (runIN_sub (As := []) (rest := [.ref qS0, .int 0, .ref qA]) (n := 0) C0 G hs (c1_init) q158 q53 (xn_156 G.2.2.2.2.1.2.1) q157 rfl o1_init ⟨rfl, rfl⟩ ⟨Nat.le_of_ble_eq_true rfl, Nat.le_of_ble_eq_true rfl⟩ rfl hl.1 rfl (Nat.le_of_ble_eq_true rfl) dX4_init_91 ⟨Nat.le_of_ble_eq_true rfl, Nat.le_of_ble_eq_true rfl⟩) (fun uS0 H locs G => ?_)
  refine W.widen (k := 43) (n := 478) (Nat.le_of_ble_eq_true rfl) (Nat.le_of_ble_eq_true rfl) ?_
  have G : GX (XC ta adK adV) D (tyC cI cB cG cS) _ s ([(h0, .inr (4, [.ref q1, .ref q2, .ref q3, .ref qR, .ref (uR 0), .ref qA, .ref qF, .int 0]))] ++ w0f cI cG q1 u1 ++ w0f cI cG q2 u2 ++ w0f cI cG q3 u3 ++ w3f cB qR uR ++ [(qA, .inl (cS, 4, .inr (.inr (.inr (.inr (fun _ => none))))))] ++ [(qF, .inl (cI, 7, .inl (fun _ => 0)))] ++ w1f cI qS0 uS0) H _ := G
  refine t_astq (k := 0) (w' := ([(h0, .inr (4, [.ref q1, .ref q2, .ref q3, .ref qR, .ref (uR 0), .ref qA, .ref qF, .int 0]))] ++ w0f cI cG q1 u1 ++ w0f cI cG q2 u2 ++ w0f cI cG q3 u3 ++ w3f cB qR uR ++ [(qA, .inl (cS, 4, .inr (.inr (.inr (.inr (va_up (fun _ => none) 0 (some qS0)))))))] ++ [(qF, .inl (cI, 7, .inl (fun _ => 0)))] ++ w1f cI qS0 uS0)) (r := (RX1, TX1, 3)) C0 G 40 3 42 1 rfl rfl rfl rfl (nI_in (show 0 < 4 by decide) (by decide)) (by decide) rfl dX4_init_94 (fun H locs G => ?_)
  refine lv_iinc (v := 1) (lv' := [(1, .int 1), (0, .ref h0)]) hx hb dX4_init_95 hl (k := 0) rfl (by decide) (by decide) rfl (fun ls hl => ?_)
  refine lv_goto (tgt := 77) hx hb dX4_init_98 (by decide) ?_
  refine lv_iload_n hx hb dX4_init_77 rfl (lv_at hl 0 rfl) ?_
  refine lv_iconst (v := 4) hx hb dX4_init_78 (by decide) ?_
  refine lv_icmp_ge (tgt := 101) hx hb dX4_init_79 (by decide) (fun hc1 => absurd hc1 (by decide)) (fun _ => ?_)
  refine lv_aload_n hx hb dX4_init_82 rfl (lv_at hl 1 rfl) ?_
  refine t_get (C := RX4) (T := TX4) (N := 8) C0 G i_X4 0 5 rfl rfl (by decide) q178 rfl dX4_init_83 ?_
  refine lv_iload_n hx hb dX4_init_86 rfl (lv_at hl 0 rfl) ?_
  refine t_new (ci := 1) (fs := [.null, .int 0, .int 0]) (C := RX1) (T := TX1) (N := 3) C0 G i_X1 tyX1 tyX1_ok q153 q155 q53 rfl (fun j hj => by rcases (show j = 0 ∨ j = 1 ∨ j = 2 by omega) with rfl | rfl | rfl <;> rfl) (Nat.le_of_ble_eq_true rfl) (Nat.le_of_ble_eq_true rfl) dX4_init_87 (fun qS1 H G => ?_)
  refine W.widen (k := 44) (n := 481) (Nat.le_of_ble_eq_true rfl) (Nat.le_of_ble_eq_true rfl) ?_
  have G : GX (XC ta adK adV) D (tyC cI cB cG cS) _ s (([(h0, .inr (4, [.ref q1, .ref q2, .ref q3, .ref qR, .ref (uR 0), .ref qA, .ref qF, .int 0]))] ++ w0f cI cG q1 u1 ++ w0f cI cG q2 u2 ++ w0f cI cG q3 u3 ++ w3f cB qR uR ++ [(qA, .inl (cS, 4, .inr (.inr (.inr (.inr (va_up (fun _ => none) 0 (some qS0)))))))] ++ [(qF, .inl (cI, 7, .inl (fun _ => 0)))] ++ w1f cI qS0 uS0) ++ w1i qS1) H _ := G
  refine lv_dup hx hb dX4_init_90 rfl ?_
  have hs : Sub (([(h0, .inr (4, [.ref q1, .ref q2, .ref q3, .ref qR, .ref (uR 0), .ref qA, .ref qF, .int 0]))] ++ w0f cI cG q1 u1 ++ w0f cI cG q2 u2 ++ w0f cI cG q3 u3 ++ w3f cB qR uR ++ [(qA, .inl (cS, 4, .inr (.inr (.inr (.inr (va_up (fun _ => none) 0 (some qS0)))))))] ++ [(qF, .inl (cI, 7, .inl (fun _ => 0)))] ++ w1f cI qS0 uS0) ++ w1i qS1) (w1i qS1) ([(h0, .inr (4, [.ref q1, .ref q2, .ref q3, .ref qR, .ref (uR 0), .ref qA, .ref qF, .int 0]))] ++ w0f cI cG q1 u1 ++ w0f cI cG q2 u2 ++ w0f cI cG q3 u3 ++ w3f cB qR uR ++ [(qA, .inl (cS, 4, .inr (.inr (.inr (.inr (va_up (fun _ => none) 0 (some qS0)))))))] ++ [(qF, .inl (cI, 7, .inl (fun _ => 0)))] ++ w1f cI qS0 uS0) [44] [0, 1, 2, 3, 4, 5, 6, 7, 8, 9, 10, 11, 12, 13, 14, 15, 16, 17, 18, 19, 20, 21, 22, 23, 24, 25, 26, 27, 28, 29, 30, 31, 32, 33, 34, 35, 36, 37, 38, 39, 40, 41, 42, 43] := ⟨rfl, rfl, rfl, rfl, by decide⟩
  refine go_c (f := w1f cI qS1) C0 G hs (runIN_sub (As := []) (rest := [.ref qS1, .int 1, .ref qA]) (n := 0) C0 G hs (c1_init) q158 q53 (xn_156 G.2.2.2.2.1.2.1) q157 rfl o1_init ⟨rfl, rfl⟩ ⟨Nat.le_of_ble_eq_true rfl, Nat.le_of_ble_eq_true rfl⟩ rfl hl.1 rfl (Nat.le_of_ble_eq_true rfl) dX4_init_91 ⟨Nat.le_of_ble_eq_true rfl, Nat.le_of_ble_eq_true rfl⟩) (fun uS1 H locs G => ?_)
  refine W.widen (k := 45) (n := 521) (Nat.le_of_ble_eq_true rfl) (Nat.le_of_ble_eq_true rfl) ?_
  have G : GX (XC ta adK adV) D (tyC cI cB cG cS) _ s ([(h0, .inr (4, [.ref q1, .ref q2, .ref q3, .ref qR, .ref (uR 0), .ref qA, .ref qF, .int 0]))] ++ w0f cI cG q1 u1 ++ w0f cI cG q2 u2 ++ w0f cI cG q3 u3 ++ w3f cB qR uR ++ [(qA, .inl (cS, 4, .inr (.inr (.inr (.inr (va_up (fun _ => none) 0 (some qS0)))))))] ++ [(qF, .inl (cI, 7, .inl (fun _ => 0)))] ++ w1f cI qS0 uS0 ++ w1f cI qS1 uS1) H _ := G
  refine t_astq (k := 1) (w' := ([(h0, .inr (4, [.ref q1, .ref q2, .ref q3, .ref qR, .ref (uR 0), .ref qA, .ref qF, .int 0]))] ++ w0f cI cG q1 u1 ++ w0f cI cG q2 u2 ++ w0f cI cG q3 u3 ++ w3f cB qR uR ++ [(qA, .inl (cS, 4, .inr (.inr (.inr (.inr (va_up (va_up (fun _ => none) 0 (some qS0)) 1 (some qS1)))))))] ++ [(qF, .inl (cI, 7, .inl (fun _ => 0)))] ++ w1f cI qS0 uS0 ++ w1f cI qS1 uS1)) (r := (RX1, TX1, 3)) C0 G 40 3 44 1 rfl rfl rfl rfl (nI_in (show 1 < 4 by decide) (by decide)) (by decide) rfl dX4_init_94 (fun H locs G => ?_)
  refine lv_iinc (v := 2) (lv' := [(1, .int 2), (0, .ref h0)]) hx hb dX4_init_95 hl (k := 0) rfl (by decide) (by decide) rfl (fun ls hl => ?_)
  refine lv_goto (tgt := 77) hx hb dX4_init_98 (by decide) ?_
  refine lv_iload_n hx hb dX4_init_77 rfl (lv_at hl 0 rfl) ?_
  refine lv_iconst (v := 4) hx hb dX4_init_78 (by decide) ?_
  refine lv_icmp_ge (tgt := 101) hx hb dX4_init_79 (by decide) (fun hc1 => absurd hc1 (by decide)) (fun _ => ?_)
  refine lv_aload_n hx hb dX4_init_82 rfl (lv_at hl 1 rfl) ?_
  refine t_get (C := RX4) (T := TX4) (N := 8) C0 G i_X4 0 5 rfl rfl (by decide) q178 rfl dX4_init_83 ?_
  refine lv_iload_n hx hb dX4_init_86 rfl (lv_at hl 0 rfl) ?_
  refine t_new (ci := 1) (fs := [.null, .int 0, .int 0]) (C := RX1) (T := TX1) (N := 3) C0 G i_X1 tyX1 tyX1_ok q153 q155 q53 rfl (fun j hj => by rcases (show j = 0 ∨ j = 1 ∨ j = 2 by omega) with rfl | rfl | rfl <;> rfl) (Nat.le_of_ble_eq_true rfl) (Nat.le_of_ble_eq_true rfl) dX4_init_87 (fun qS2 H G => ?_)
  refine W.widen (k := 46) (n := 524) (Nat.le_of_ble_eq_true rfl) (Nat.le_of_ble_eq_true rfl) ?_
  have G : GX (XC ta adK adV) D (tyC cI cB cG cS) _ s (([(h0, .inr (4, [.ref q1, .ref q2, .ref q3, .ref qR, .ref (uR 0), .ref qA, .ref qF, .int 0]))] ++ w0f cI cG q1 u1 ++ w0f cI cG q2 u2 ++ w0f cI cG q3 u3 ++ w3f cB qR uR ++ [(qA, .inl (cS, 4, .inr (.inr (.inr (.inr (va_up (va_up (fun _ => none) 0 (some qS0)) 1 (some qS1)))))))] ++ [(qF, .inl (cI, 7, .inl (fun _ => 0)))] ++ w1f cI qS0 uS0 ++ w1f cI qS1 uS1) ++ w1i qS2) H _ := G
  refine lv_dup hx hb dX4_init_90 rfl ?_
  have hs : Sub (([(h0, .inr (4, [.ref q1, .ref q2, .ref q3, .ref qR, .ref (uR 0), .ref qA, .ref qF, .int 0]))] ++ w0f cI cG q1 u1 ++ w0f cI cG q2 u2 ++ w0f cI cG q3 u3 ++ w3f cB qR uR ++ [(qA, .inl (cS, 4, .inr (.inr (.inr (.inr (va_up (va_up (fun _ => none) 0 (some qS0)) 1 (some qS1)))))))] ++ [(qF, .inl (cI, 7, .inl (fun _ => 0)))] ++ w1f cI qS0 uS0 ++ w1f cI qS1 uS1) ++ w1i qS2) (w1i qS2) ([(h0, .inr (4, [.ref q1, .ref q2, .ref q3, .ref qR, .ref (uR 0), .ref qA, .ref qF, .int 0]))] ++ w0f cI cG q1 u1 ++ w0f cI cG q2 u2 ++ w0f cI cG q3 u3 ++ w3f cB qR uR ++ [(qA, .inl (cS, 4, .inr (.inr (.inr (.inr (va_up (va_up (fun _ => none) 0 (some qS0)) 1 (some qS1)))))))] ++ [(qF, .inl (cI, 7, .inl (fun _ => 0)))] ++ w1f cI qS0 uS0 ++ w1f cI qS1 uS1) [46] [0, 1, 2, 3, 4, 5, 6, 7, 8, 9, 10, 11, 12, 13, 14, 15, 16, 17, 18, 19, 20, 21, 22, 23, 24, 25, 26, 27, 28, 29, 30, 31, 32, 33, 34, 35, 36, 37, 38, 39, 40, 41, 42, 43, 44, 45] := ⟨rfl, rfl, rfl, rfl, by decide⟩
  refine go_c (f := w1f cI qS2) C0 G hs (runIN_sub (As := []) (rest := [.ref qS2, .int 2, .ref qA]) (n := 0) C0 G hs (c1_init) q158 q53 (xn_156 G.2.2.2.2.1.2.1) q157 rfl o1_init ⟨rfl, rfl⟩ ⟨Nat.le_of_ble_eq_true rfl, Nat.le_of_ble_eq_true rfl⟩ rfl hl.1 rfl (Nat.le_of_ble_eq_true rfl) dX4_init_91 ⟨Nat.le_of_ble_eq_true rfl, Nat.le_of_ble_eq_true rfl⟩) (fun uS2 H locs G => ?_)
  refine W.widen (k := 47) (n := 564) (Nat.le_of_ble_eq_true rfl) (Nat.le_of_ble_eq_true rfl) ?_
  have G : GX (XC ta adK adV) D (tyC cI cB cG cS) _ s ([(h0, .inr (4, [.ref q1, .ref q2, .ref q3, .ref qR, .ref (uR 0), .ref qA, .ref qF, .int 0]))] ++ w0f cI cG q1 u1 ++ w0f cI cG q2 u2 ++ w0f cI cG q3 u3 ++ w3f cB qR uR ++ [(qA, .inl (cS, 4, .inr (.inr (.inr (.inr (va_up (va_up (fun _ => none) 0 (some qS0)) 1 (some qS1)))))))] ++ [(qF, .inl (cI, 7, .inl (fun _ => 0)))] ++ w1f cI qS0 uS0 ++ w1f cI qS1 uS1 ++ w1f cI qS2 uS2) H _ := G
  refine t_astq (k := 2) (w' := ([(h0, .inr (4, [.ref q1, .ref q2, .ref q3, .ref qR, .ref (uR 0), .ref qA, .ref qF, .int 0]))] ++ w0f cI cG q1 u1 ++ w0f cI cG q2 u2 ++ w0f cI cG q3 u3 ++ w3f cB qR uR ++ [(qA, .inl (cS, 4, .inr (.inr (.inr (.inr (va_up (va_up (va_up (fun _ => none) 0 (some qS0)) 1 (some qS1)) 2 (some qS2)))))))] ++ [(qF, .inl (cI, 7, .inl (fun _ => 0)))] ++ w1f cI qS0 uS0 ++ w1f cI qS1 uS1 ++ w1f cI qS2 uS2)) (r := (RX1, TX1, 3)) C0 G 40 3 46 1 rfl rfl rfl rfl (nI_in (show 2 < 4 by decide) (by decide)) (by decide) rfl dX4_init_94 (fun H locs G => ?_)
  refine lv_iinc (v := 3) (lv' := [(1, .int 3), (0, .ref h0)]) hx hb dX4_init_95 hl (k := 0) rfl (by decide) (by decide) rfl (fun ls hl => ?_)
  refine lv_goto (tgt := 77) hx hb dX4_init_98 (by decide) ?_
  refine lv_iload_n hx hb dX4_init_77 rfl (lv_at hl 0 rfl) ?_
  refine lv_iconst (v := 4) hx hb dX4_init_78 (by decide) ?_
  refine lv_icmp_ge (tgt := 101) hx hb dX4_init_79 (by decide) (fun hc1 => absurd hc1 (by decide)) (fun _ => ?_)
  refine lv_aload_n hx hb dX4_init_82 rfl (lv_at hl 1 rfl) ?_
  refine t_get (C := RX4) (T := TX4) (N := 8) C0 G i_X4 0 5 rfl rfl (by decide) q178 rfl dX4_init_83 ?_
  refine lv_iload_n hx hb dX4_init_86 rfl (lv_at hl 0 rfl) ?_
  refine t_new (ci := 1) (fs := [.null, .int 0, .int 0]) (C := RX1) (T := TX1) (N := 3) C0 G i_X1 tyX1 tyX1_ok q153 q155 q53 rfl (fun j hj => by rcases (show j = 0 ∨ j = 1 ∨ j = 2 by omega) with rfl | rfl | rfl <;> rfl) (Nat.le_of_ble_eq_true rfl) (Nat.le_of_ble_eq_true rfl) dX4_init_87 (fun qS3 H G => ?_)
  refine W.widen (k := 48) (n := 567) (Nat.le_of_ble_eq_true rfl) (Nat.le_of_ble_eq_true rfl) ?_
  have G : GX (XC ta adK adV) D (tyC cI cB cG cS) _ s (([(h0, .inr (4, [.ref q1, .ref q2, .ref q3, .ref qR, .ref (uR 0), .ref qA, .ref qF, .int 0]))] ++ w0f cI cG q1 u1 ++ w0f cI cG q2 u2 ++ w0f cI cG q3 u3 ++ w3f cB qR uR ++ [(qA, .inl (cS, 4, .inr (.inr (.inr (.inr (va_up (va_up (va_up (fun _ => none) 0 (some qS0)) 1 (some qS1)) 2 (some qS2)))))))] ++ [(qF, .inl (cI, 7, .inl (fun _ => 0)))] ++ w1f cI qS0 uS0 ++ w1f cI qS1 uS1 ++ w1f cI qS2 uS2) ++ w1i qS3) H _ := G
  refine lv_dup hx hb dX4_init_90 rfl ?_
  have hs : Sub (([(h0, .inr (4, [.ref q1, .ref q2, .ref q3, .ref qR, .ref (uR 0), .ref qA, .ref qF, .int 0]))] ++ w0f cI cG q1 u1 ++ w0f cI cG q2 u2 ++ w0f cI cG q3 u3 ++ w3f cB qR uR ++ [(qA, .inl (cS, 4, .inr (.inr (.inr (.inr (va_up (va_up (va_up (fun _ => none) 0 (some qS0)) 1 (some qS1)) 2 (some qS2)))))))] ++ [(qF, .inl (cI, 7, .inl (fun _ => 0)))] ++ w1f cI qS0 uS0 ++ w1f cI qS1 uS1 ++ w1f cI qS2 uS2) ++ w1i qS3) (w1i qS3) ([(h0, .inr (4, [.ref q1, .ref q2, .ref q3, .ref qR, .ref (uR 0), .ref qA, .ref qF, .int 0]))] ++ w0f cI cG q1 u1 ++ w0f cI cG q2 u2 ++ w0f cI cG q3 u3 ++ w3f cB qR uR ++ [(qA, .inl (cS, 4, .inr (.inr (.inr (.inr (va_up (va_up (va_up (fun _ => none) 0 (some qS0)) 1 (some qS1)) 2 (some qS2)))))))] ++ [(qF, .inl (cI, 7, .inl (fun _ => 0)))] ++ w1f cI qS0 uS0 ++ w1f cI qS1 uS1 ++ w1f cI qS2 uS2) [48] [0, 1, 2, 3, 4, 5, 6, 7, 8, 9, 10, 11, 12, 13, 14, 15, 16, 17, 18, 19, 20, 21, 22, 23, 24, 25, 26, 27, 28, 29, 30, 31, 32, 33, 34, 35, 36, 37, 38, 39, 40, 41, 42, 43, 44, 45, 46, 47] := ⟨rfl, rfl, rfl, rfl, by decide⟩
  refine go_c (f := w1f cI qS3) C0 G hs (runIN_sub (As := []) (rest := [.ref qS3, .int 3, .ref qA]) (n := 0) C0 G hs (c1_init) q158 q53 (xn_156 G.2.2.2.2.1.2.1) q157 rfl o1_init ⟨rfl, rfl⟩ ⟨Nat.le_of_ble_eq_true rfl, Nat.le_of_ble_eq_true rfl⟩ rfl hl.1 rfl (Nat.le_of_ble_eq_true rfl) dX4_init_91 ⟨Nat.le_of_ble_eq_true rfl, Nat.le_of_ble_eq_true rfl⟩) (fun uS3 H locs G => ?_)
  refine W.widen (k := 49) (n := 607) (Nat.le_of_ble_eq_true rfl) (Nat.le_of_ble_eq_true rfl) ?_
  have G : GX (XC ta adK adV) D (tyC cI cB cG cS) _ s ([(h0, .inr (4, [.ref q1, .ref q2, .ref q3, .ref qR, .ref (uR 0), .ref qA, .ref qF, .int 0]))] ++ w0f cI cG q1 u1 ++ w0f cI cG q2 u2 ++ w0f cI cG q3 u3 ++ w3f cB qR uR ++ [(qA, .inl (cS, 4, .inr (.inr (.inr (.inr (va_up (va_up (va_up (fun _ => none) 0 (some qS0)) 1 (some qS1)) 2 (some qS2)))))))] ++ [(qF, .inl (cI, 7, .inl (fun _ => 0)))] ++ w1f cI qS0 uS0 ++ w1f cI qS1 uS1 ++ w1f cI qS2 uS2 ++ w1f cI qS3 uS3) H _ := G
  refine t_astq (k := 3) (w' := ([(h0, .inr (4, [.ref q1, .ref q2, .ref q3, .ref qR, .ref (uR 0), .ref qA, .ref qF, .int 0]))] ++ w0f cI cG q1 u1 ++ w0f cI cG q2 u2 ++ w0f cI cG q3 u3 ++ w3f cB qR uR ++ [(qA, .inl (cS, 4, .inr (.inr (.inr (.inr (va_up (va_up (va_up (va_up (fun _ => none) 0 (some qS0)) 1 (some qS1)) 2 (some qS2)) 3 (some qS3)))))))] ++ [(qF, .inl (cI, 7, .inl (fun _ => 0)))] ++ w1f cI qS0 uS0 ++ w1f cI qS1 uS1 ++ w1f cI qS2 uS2 ++ w1f cI qS3 uS3)) (r := (RX1, TX1, 3)) C0 G 40 3 48 1 rfl rfl rfl rfl (nI_in (show 3 < 4 by decide) (by decide)) (by decide) rfl dX4_init_94 (fun H locs G => ?_)
  refine lv_iinc (v := 4) (lv' := [(1, .int 4), (0, .ref h0)]) hx hb dX4_init_95 hl (k := 0) rfl (by decide) (by decide) rfl (fun ls hl => ?_)
  refine lv_goto (tgt := 77) hx hb dX4_init_98 (by decide) ?_
  refine lv_iload_n hx hb dX4_init_77 rfl (lv_at hl 0 rfl) ?_
  refine lv_iconst (v := 4) hx hb dX4_init_78 (by decide) ?_
  refine lv_icmp_ge (tgt := 101) hx hb dX4_init_79 (by decide) (fun _ => ?_) (fun hc1 => absurd (by decide) hc1)
  have G := fin4 G
  exact ret_c (f := w4f cI cB cG cS h0) (AF q1 q2 q3 qR qA qS0 qS1 qS2 qS3 qF u1 u2 u3 uR uS0 uS1 uS2 uS3) C0 G dX4_init_101
