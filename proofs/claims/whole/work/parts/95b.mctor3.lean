/-! the constructor of SandLedgerModel -/
def x0 : Nat → Int32 := (fun k => if k = 2 then 1 else if k = 3 then 100 else if k = 4 then 1 else if k = 5 then 2 else if 6 ≤ k ∧ k < 22 then 5 else if 78 ≤ k ∧ k < 88 then -1 else 0)
abbrev w5i (h0 : Nat) : va_W := [(h0, .inr (5, [.null, .null, .null, .int 0, .null, .int 0, .null, .null, .int 0, .int 0, .int 0, .int 0, .long 0, .null, .null, .null, .null, .null, .null, .null]))]
abbrev w5f (cI cC : ClassId) (h0 : Nat) (u : Nat → Nat) : va_W := (wM cI cC (fun k => if k = 0 then h0 else u k) x0 (fun _ => 0) (fun _ => 0) 0 (fun _ => 0) 0 (fun _ => 0) (fun _ => 0) 0 0 0 0 0 (fun _ => 0) (fun _ => 0) (fun _ => 0) (fun _ => 0))
set_option maxHeartbeats 4000000 in
set_option maxRecDepth 100000 in
theorem mod_tail {X : XP} {l : Launch} {D : va_G} {cI cC : ClassId} {p : Program} {e : Env} {R : Room} {s : State} {m : MethodId} {args : Array Value} {below : List Frame} {meth : Method} {c : Code} {A : Nat → Prop} {Q : State → Prop} {kc ks : Nat} {ad : Nat → Nat} {ls : Array Slot} {H : Heap} {locs : List Loc} (C0 : CX X p s m args meth c cX5_init 2 none RX5 A) (G : GX X D (tyM cI cC) A s (wM cI cC ad (fun _ => 0) (fun _ => 0) (fun _ => 0) 0 (fun _ => 0) 0 (fun _ => 0) (fun _ => 0) 0 0 0 0 0 (fun _ => 0) (fun _ => 0) (fun _ => 0) (fun _ => 0)) H locs) (hl : lv_has ls 2 [(0, .ref (ad 0))]) (kk : ∀ (H : Heap) (locs : List Loc) (ls : Array Slot), GX X D (tyM cI cC) A s (wM cI cC ad x0 (fun _ => 0) (fun _ => 0) 0 (fun _ => 0) 0 (fun _ => 0) (fun _ => 0) 0 0 0 0 0 (fun _ => 0) (fun _ => 0) (fun _ => 0) (fun _ => 0)) H locs → W p l e R s m args below meth c H locs kc ks Q (F0 m 976 ls [])) : W p l e R s m args below meth c H locs kc ks Q (F0 m 899 ls []) := by
  have hx := C0.1
  have hb := C0.2.1
  refine lv_aload_n hx hb dX5_init_899 rfl (lv_at hl 0 rfl) ?_
  refine t_get (C := RX5) (T := TX5) (N := 20) C0 G i_X5 0 0 rfl rfl (by decide) q713 rfl dX5_init_900 ?_
  refine lv_iconst (v := 2) hx hb dX5_init_903 (by decide) ?_
  refine lv_iconst (v := 1) hx hb dX5_init_904 (by decide) ?_
  refine t_iast (k := 2) (w' := (wM cI cC ad (upd (fun _ => 0) 2 1) (fun _ => 0) (fun _ => 0) 0 (fun _ => 0) 0 (fun _ => 0) (fun _ => 0) 0 0 0 0 0 (fun _ => 0) (fun _ => 0) (fun _ => 0) (fun _ => 0))) C0 G 1 0 rfl rfl (nI_in (show 2 < 88 by decide) (by decide)) (by decide) rfl dX5_init_905 (fun H locs G => ?_)
  refine lv_aload_n hx hb dX5_init_906 rfl (lv_at hl 0 rfl) ?_
  refine t_get (C := RX5) (T := TX5) (N := 20) C0 G i_X5 0 0 rfl rfl (by decide) q713 rfl dX5_init_907 ?_
  refine lv_iconst (v := 3) hx hb dX5_init_910 (by decide) ?_
  refine lv_bipush (v := 100) hx hb dX5_init_911 (by decide) ?_
  refine t_iast (k := 3) (w' := (wM cI cC ad (upd (upd (fun _ => 0) 2 1) 3 100) (fun _ => 0) (fun _ => 0) 0 (fun _ => 0) 0 (fun _ => 0) (fun _ => 0) 0 0 0 0 0 (fun _ => 0) (fun _ => 0) (fun _ => 0) (fun _ => 0))) C0 G 1 0 rfl rfl (nI_in (show 3 < 88 by decide) (by decide)) (by decide) rfl dX5_init_913 (fun H locs G => ?_)
  refine lv_aload_n hx hb dX5_init_914 rfl (lv_at hl 0 rfl) ?_
  refine t_get (C := RX5) (T := TX5) (N := 20) C0 G i_X5 0 0 rfl rfl (by decide) q713 rfl dX5_init_915 ?_
  refine lv_iconst (v := 4) hx hb dX5_init_918 (by decide) ?_
  refine lv_iconst (v := 1) hx hb dX5_init_919 (by decide) ?_
  refine t_iast (k := 4) (w' := (wM cI cC ad (upd (upd (upd (fun _ => 0) 2 1) 3 100) 4 1) (fun _ => 0) (fun _ => 0) 0 (fun _ => 0) 0 (fun _ => 0) (fun _ => 0) 0 0 0 0 0 (fun _ => 0) (fun _ => 0) (fun _ => 0) (fun _ => 0))) C0 G 1 0 rfl rfl (nI_in (show 4 < 88 by decide) (by decide)) (by decide) rfl dX5_init_920 (fun H locs G => ?_)
  refine lv_aload_n hx hb dX5_init_921 rfl (lv_at hl 0 rfl) ?_
  refine t_get (C := RX5) (T := TX5) (N := 20) C0 G i_X5 0 0 rfl rfl (by decide) q713 rfl dX5_init_922 ?_
  refine lv_iconst (v := 5) hx hb dX5_init_925 (by decide) ?_
  refine lv_iconst (v := 2) hx hb dX5_init_926 (by decide) ?_
  refine t_iast (k := 5) (w' := (wM cI cC ad (upd (upd (upd (upd (fun _ => 0) 2 1) 3 100) 4 1) 5 2) (fun _ => 0) (fun _ => 0) 0 (fun _ => 0) 0 (fun _ => 0) (fun _ => 0) 0 0 0 0 0 (fun _ => 0) (fun _ => 0) (fun _ => 0) (fun _ => 0))) C0 G 1 0 rfl rfl (nI_in (show 5 < 88 by decide) (by decide)) (by decide) rfl dX5_init_927 (fun H locs G => ?_)
  refine lv_iconst (v := nI 0) hx hb dX5_init_928 (by decide) ?_
  refine lv_istore_n (lv' := [(1, .int (nI 0)), (0, .ref (ad 0))]) hx hb dX5_init_929 rfl hl (by decide) rfl (fun ls hl => ?_)
  refine mod_l1 C0 _ (fun f H locs ls hf hg G hl => ?_) 16 0 _ H locs ls (by omega) (fun j hj => by omega) (fun j hj => rfl) G hl
  refine lv_iconst (v := nI 0) hx hb dX5_init_952 (by decide) ?_
  refine lv_istore_n (lv' := [(1, .int (nI 0)), (0, .ref (ad 0))]) hx hb dX5_init_953 rfl hl (by decide) rfl (fun ls hl => ?_)
  refine mod_l2 C0 _ (fun f2 H locs ls hf2 hg2 G hl => ?_) 10 0 _ H locs ls (by omega) (fun j hj => by omega) (fun j hj => rfl) G hl
  refine kk H locs ls ?_
  refine GX.renm (w := (wM cI cC ad f2 (fun _ => 0) (fun _ => 0) 0 (fun _ => 0) 0 (fun _ => 0) (fun _ => 0) 0 0 0 0 0 (fun _ => 0) (fun _ => 0) (fun _ => 0) (fun _ => 0))) (q0 := 1) G (fun j hj => ?_)
  unfold x0
  by_cases a1 : 78 ≤ j
  · rw [if_neg (by omega), if_neg (by omega), if_neg (by omega), if_neg (by omega), if_neg (by omega), if_pos (by omega), show j = 78 + (j - 78) by omega, hf2 (j - 78) (by omega)]
  · rw [hg2 j (by omega)]
    by_cases a2 : 6 ≤ j ∧ j < 22
    · rw [if_neg (by omega), if_neg (by omega), if_neg (by omega), if_neg (by omega), if_pos a2, show j = 6 + (j - 6) by omega, hf (j - 6) (by omega)]
    · rw [hg j (by omega)]
      by_cases b5 : j = 5
      · subst b5; rfl
      · by_cases b4 : j = 4
        · subst b4; rfl
        · by_cases b3 : j = 3
          · subst b3; rfl
          · by_cases b2 : j = 2
            · subst b2; rfl
            · rw [if_neg b2, if_neg b3, if_neg b4, if_neg b5, if_neg a2, if_neg (by omega), upd_n b5, upd_n b4, upd_n b3, upd_n b2]
set_option maxHeartbeats 4000000 in
set_option maxRecDepth 100000 in
theorem c5_init {X : XP} (hX : XT X) {l : Launch} {D : va_G} {cI cC : ClassId} {h0 sz : Nat} : Met l yX5_init (wU yX5_init cX5_init 2 none) ({ frames := 1, cells := 13, slots := 750, locals := 30 }) (va_Pc [.ref h0] (PreW X D (tyM cI cC) (w5i h0) sz)) (QcC D (tyM cI cC) (w5f cI cC h0) (va_A (w5i h0) sz)) 13 750 (va_A (w5i h0) sz) := by
  refine startI hX (own := RX5) (by decide) rfl (Nat.le_of_ble_eq_true rfl) rfl (fun p e s m args below meth c ls C0 hmn G hl => ?_)
  have hx := C0.1
  have hb := C0.2.1
  have hl : lv_has ls 2 [(0, .ref h0)] := hl
  refine lv_aload_n hx hb dX5_init_0 rfl (lv_at hl 0 rfl) ?_
  refine t_obj C0 hl.1 q712 ⟨Nat.le_of_ble_eq_true rfl, Nat.le_of_ble_eq_true rfl⟩ dX5_init_1 ?_
  refine lv_aload_n hx hb dX5_init_4 rfl (lv_at hl 0 rfl) ?_
  refine lv_bipush (v := 88) hx hb dX5_init_5 (by decide) ?_
  refine t_newa (t0 := 0) (N' := 88) (atype := .int) (ty := .int) C0 G q112 rfl rfl (fun _ => rfl) (by decide) (by decide) (Nat.le_of_ble_eq_true rfl) (Nat.le_of_ble_eq_true rfl) (Nat.le_of_ble_eq_true rfl) dX5_init_7 (fun q1 H G => ?_)
  refine W.widen (k := 1) (n := 88) (Nat.le_of_ble_eq_true rfl) (Nat.le_of_ble_eq_true rfl) ?_
  have G : GX X D (tyM cI cC) _ s [(h0, .inr (5, [.null, .null, .null, .int 0, .null, .int 0, .null, .null, .int 0, .int 0, .int 0, .int 0, .long 0, .null, .null, .null, .null, .null, .null, .null])), (q1, .inl (cI, 88, .inl (fun _ => 0)))] H _ := G
  refine t_putF (C := RX5) (T := TX5) (N := 20) C0 G hmn i_X5 tyX5 tyX5_ok nmX5 0 0 rfl rfl (by decide) q713 rfl rfl (ty := .array .int) (by decide +kernel) rfl rfl (Nat.le_of_ble_eq_true rfl) rfl dX5_init_9 (fun H locs G => ?_)
  have G : GX X D (tyM cI cC) _ s [(h0, .inr (5, [.ref q1, .null, .null, .int 0, .null, .int 0, .null, .null, .int 0, .int 0, .int 0, .int 0, .long 0, .null, .null, .null, .null, .null, .null, .null])), (q1, .inl (cI, 88, .inl (fun _ => 0)))] H _ := G
  refine lv_aload_n hx hb dX5_init_12 rfl (lv_at hl 0 rfl) ?_
  refine lv_bipush (v := 88) hx hb dX5_init_13 (by decide) ?_
  refine t_newa (t0 := 0) (N' := 88) (atype := .int) (ty := .int) C0 G q112 rfl rfl (fun _ => rfl) (by decide) (by decide) (Nat.le_of_ble_eq_true rfl) (Nat.le_of_ble_eq_true rfl) (Nat.le_of_ble_eq_true rfl) dX5_init_15 (fun q2 H G => ?_)
  refine W.widen (k := 2) (n := 176) (Nat.le_of_ble_eq_true rfl) (Nat.le_of_ble_eq_true rfl) ?_
  have G : GX X D (tyM cI cC) _ s [(h0, .inr (5, [.ref q1, .null, .null, .int 0, .null, .int 0, .null, .null, .int 0, .int 0, .int 0, .int 0, .long 0, .null, .null, .null, .null, .null, .null, .null])), (q1, .inl (cI, 88, .inl (fun _ => 0))), (q2, .inl (cI, 88, .inl (fun _ => 0)))] H _ := G
  refine t_putF (C := RX5) (T := TX5) (N := 20) C0 G hmn i_X5 tyX5 tyX5_ok nmX5 0 1 rfl rfl (by decide) q714 rfl rfl (ty := .array .int) (by decide +kernel) rfl rfl (Nat.le_of_ble_eq_true rfl) rfl dX5_init_17 (fun H locs G => ?_)
  have G : GX X D (tyM cI cC) _ s [(h0, .inr (5, [.ref q1, .ref q2, .null, .int 0, .null, .int 0, .null, .null, .int 0, .int 0, .int 0, .int 0, .long 0, .null, .null, .null, .null, .null, .null, .null])), (q1, .inl (cI, 88, .inl (fun _ => 0))), (q2, .inl (cI, 88, .inl (fun _ => 0)))] H _ := G
  refine lv_aload_n hx hb dX5_init_20 rfl (lv_at hl 0 rfl) ?_
  refine lv_bipush (v := 88) hx hb dX5_init_21 (by decide) ?_
  refine t_newa (t0 := 0) (N' := 88) (atype := .int) (ty := .int) C0 G q112 rfl rfl (fun _ => rfl) (by decide) (by decide) (Nat.le_of_ble_eq_true rfl) (Nat.le_of_ble_eq_true rfl) (Nat.le_of_ble_eq_true rfl) dX5_init_23 (fun q3 H G => ?_)
  refine W.widen (k := 3) (n := 264) (Nat.le_of_ble_eq_true rfl) (Nat.le_of_ble_eq_true rfl) ?_
  have G : GX X D (tyM cI cC) _ s [(h0, .inr (5, [.ref q1, .ref q2, .null, .int 0, .null, .int 0, .null, .null, .int 0, .int 0, .int 0, .int 0, .long 0, .null, .null, .null, .null, .null, .null, .null])), (q1, .inl (cI, 88, .inl (fun _ => 0))), (q2, .inl (cI, 88, .inl (fun _ => 0))), (q3, .inl (cI, 88, .inl (fun _ => 0)))] H _ := G
  refine t_putF (C := RX5) (T := TX5) (N := 20) C0 G hmn i_X5 tyX5 tyX5_ok nmX5 0 2 rfl rfl (by decide) q715 rfl rfl (ty := .array .int) (by decide +kernel) rfl rfl (Nat.le_of_ble_eq_true rfl) rfl dX5_init_25 (fun H locs G => ?_)
  have G : GX X D (tyM cI cC) _ s [(h0, .inr (5, [.ref q1, .ref q2, .ref q3, .int 0, .null, .int 0, .null, .null, .int 0, .int 0, .int 0, .int 0, .long 0, .null, .null, .null, .null, .null, .null, .null])), (q1, .inl (cI, 88, .inl (fun _ => 0))), (q2, .inl (cI, 88, .inl (fun _ => 0))), (q3, .inl (cI, 88, .inl (fun _ => 0)))] H _ := G
  refine lv_aload_n hx hb dX5_init_28 rfl (lv_at hl 0 rfl) ?_
  refine lv_bipush (v := 7) hx hb dX5_init_29 (by decide) ?_
  refine t_newa (t0 := 0) (N' := 7) (atype := .int) (ty := .int) C0 G q112 rfl rfl (fun _ => rfl) (by decide) (by decide) (Nat.le_of_ble_eq_true rfl) (Nat.le_of_ble_eq_true rfl) (Nat.le_of_ble_eq_true rfl) dX5_init_31 (fun q4 H G => ?_)
  refine W.widen (k := 4) (n := 271) (Nat.le_of_ble_eq_true rfl) (Nat.le_of_ble_eq_true rfl) ?_
  have G : GX X D (tyM cI cC) _ s [(h0, .inr (5, [.ref q1, .ref q2, .ref q3, .int 0, .null, .int 0, .null, .null, .int 0, .int 0, .int 0, .int 0, .long 0, .null, .null, .null, .null, .null, .null, .null])), (q1, .inl (cI, 88, .inl (fun _ => 0))), (q2, .inl (cI, 88, .inl (fun _ => 0))), (q3, .inl (cI, 88, .inl (fun _ => 0))), (q4, .inl (cI, 7, .inl (fun _ => 0)))] H _ := G
  refine t_putF (C := RX5) (T := TX5) (N := 20) C0 G hmn i_X5 tyX5 tyX5_ok nmX5 0 4 rfl rfl (by decide) q717 rfl rfl (ty := .array .int) (by decide +kernel) rfl rfl (Nat.le_of_ble_eq_true rfl) rfl dX5_init_33 (fun H locs G => ?_)
  have G : GX X D (tyM cI cC) _ s [(h0, .inr (5, [.ref q1, .ref q2, .ref q3, .int 0, .ref q4, .int 0, .null, .null, .int 0, .int 0, .int 0, .int 0, .long 0, .null, .null, .null, .null, .null, .null, .null])), (q1, .inl (cI, 88, .inl (fun _ => 0))), (q2, .inl (cI, 88, .inl (fun _ => 0))), (q3, .inl (cI, 88, .inl (fun _ => 0))), (q4, .inl (cI, 7, .inl (fun _ => 0)))] H _ := G
  refine lv_aload_n hx hb dX5_init_36 rfl (lv_at hl 0 rfl) ?_
  refine lv_bipush (v := 16) hx hb dX5_init_37 (by decide) ?_
  refine t_newa (t0 := 0) (N' := 16) (atype := .int) (ty := .int) C0 G q112 rfl rfl (fun _ => rfl) (by decide) (by decide) (Nat.le_of_ble_eq_true rfl) (Nat.le_of_ble_eq_true rfl) (Nat.le_of_ble_eq_true rfl) dX5_init_39 (fun q5 H G => ?_)
  refine W.widen (k := 5) (n := 287) (Nat.le_of_ble_eq_true rfl) (Nat.le_of_ble_eq_true rfl) ?_
  have G : GX X D (tyM cI cC) _ s [(h0, .inr (5, [.ref q1, .ref q2, .ref q3, .int 0, .ref q4, .int 0, .null, .null, .int 0, .int 0, .int 0, .int 0, .long 0, .null, .null, .null, .null, .null, .null, .null])), (q1, .inl (cI, 88, .inl (fun _ => 0))), (q2, .inl (cI, 88, .inl (fun _ => 0))), (q3, .inl (cI, 88, .inl (fun _ => 0))), (q4, .inl (cI, 7, .inl (fun _ => 0))), (q5, .inl (cI, 16, .inl (fun _ => 0)))] H _ := G
  refine t_putF (C := RX5) (T := TX5) (N := 20) C0 G hmn i_X5 tyX5 tyX5_ok nmX5 0 6 rfl rfl (by decide) q719 rfl rfl (ty := .array .int) (by decide +kernel) rfl rfl (Nat.le_of_ble_eq_true rfl) rfl dX5_init_41 (fun H locs G => ?_)
  have G : GX X D (tyM cI cC) _ s [(h0, .inr (5, [.ref q1, .ref q2, .ref q3, .int 0, .ref q4, .int 0, .ref q5, .null, .int 0, .int 0, .int 0, .int 0, .long 0, .null, .null, .null, .null, .null, .null, .null])), (q1, .inl (cI, 88, .inl (fun _ => 0))), (q2, .inl (cI, 88, .inl (fun _ => 0))), (q3, .inl (cI, 88, .inl (fun _ => 0))), (q4, .inl (cI, 7, .inl (fun _ => 0))), (q5, .inl (cI, 16, .inl (fun _ => 0)))] H _ := G
  refine lv_aload_n hx hb dX5_init_44 rfl (lv_at hl 0 rfl) ?_
  refine lv_bipush (v := 120) hx hb dX5_init_45 (by decide) ?_
  refine t_newa (t0 := 0) (N' := 120) (atype := .int) (ty := .int) C0 G q112 rfl rfl (fun _ => rfl) (by decide) (by decide) (Nat.le_of_ble_eq_true rfl) (Nat.le_of_ble_eq_true rfl) (Nat.le_of_ble_eq_true rfl) dX5_init_47 (fun q6 H G => ?_)
  refine W.widen (k := 6) (n := 407) (Nat.le_of_ble_eq_true rfl) (Nat.le_of_ble_eq_true rfl) ?_
  have G : GX X D (tyM cI cC) _ s [(h0, .inr (5, [.ref q1, .ref q2, .ref q3, .int 0, .ref q4, .int 0, .ref q5, .null, .int 0, .int 0, .int 0, .int 0, .long 0, .null, .null, .null, .null, .null, .null, .null])), (q1, .inl (cI, 88, .inl (fun _ => 0))), (q2, .inl (cI, 88, .inl (fun _ => 0))), (q3, .inl (cI, 88, .inl (fun _ => 0))), (q4, .inl (cI, 7, .inl (fun _ => 0))), (q5, .inl (cI, 16, .inl (fun _ => 0))), (q6, .inl (cI, 120, .inl (fun _ => 0)))] H _ := G
  refine t_putF (C := RX5) (T := TX5) (N := 20) C0 G hmn i_X5 tyX5 tyX5_ok nmX5 0 7 rfl rfl (by decide) q720 rfl rfl (ty := .array .int) (by decide +kernel) rfl rfl (Nat.le_of_ble_eq_true rfl) rfl dX5_init_49 (fun H locs G => ?_)
  have G : GX X D (tyM cI cC) _ s [(h0, .inr (5, [.ref q1, .ref q2, .ref q3, .int 0, .ref q4, .int 0, .ref q5, .ref q6, .int 0, .int 0, .int 0, .int 0, .long 0, .null, .null, .null, .null, .null, .null, .null])), (q1, .inl (cI, 88, .inl (fun _ => 0))), (q2, .inl (cI, 88, .inl (fun _ => 0))), (q3, .inl (cI, 88, .inl (fun _ => 0))), (q4, .inl (cI, 7, .inl (fun _ => 0))), (q5, .inl (cI, 16, .inl (fun _ => 0))), (q6, .inl (cI, 120, .inl (fun _ => 0)))] H _ := G
  refine lv_aload_n hx hb dX5_init_52 rfl (lv_at hl 0 rfl) ?_
  refine lv_bipush (v := 63) hx hb dX5_init_53 (by decide) ?_
  refine t_newa (t0 := 1) (N' := 63) (atype := .char) (ty := .char) C0 G q774 rfl rfl (fun _ => rfl) (by decide) (by decide) (Nat.le_of_ble_eq_true rfl) (Nat.le_of_ble_eq_true rfl) (Nat.le_of_ble_eq_true rfl) dX5_init_55 (fun q7 H G => ?_)
  refine W.widen (k := 7) (n := 470) (Nat.le_of_ble_eq_true rfl) (Nat.le_of_ble_eq_true rfl) ?_
  refine fill_q7 (w := [(h0, .inr (5, [.ref q1, .ref q2, .ref q3, .int 0, .ref q4, .int 0, .ref q5, .ref q6, .int 0, .int 0, .int 0, .int 0, .long 0, .null, .null, .null, .null, .null, .null, .null])), (q1, .inl (cI, 88, .inl (fun _ => 0))), (q2, .inl (cI, 88, .inl (fun _ => 0))), (q3, .inl (cI, 88, .inl (fun _ => 0))), (q4, .inl (cI, 7, .inl (fun _ => 0))), (q5, .inl (cI, 16, .inl (fun _ => 0))), (q6, .inl (cI, 120, .inl (fun _ => 0)))]) C0 G (fun H locs G => ?_)
  have G : GX X D (tyM cI cC) _ s [(h0, .inr (5, [.ref q1, .ref q2, .ref q3, .int 0, .ref q4, .int 0, .ref q5, .ref q6, .int 0, .int 0, .int 0, .int 0, .long 0, .null, .null, .null, .null, .null, .null, .null])), (q1, .inl (cI, 88, .inl (fun _ => 0))), (q2, .inl (cI, 88, .inl (fun _ => 0))), (q3, .inl (cI, 88, .inl (fun _ => 0))), (q4, .inl (cI, 7, .inl (fun _ => 0))), (q5, .inl (cI, 16, .inl (fun _ => 0))), (q6, .inl (cI, 120, .inl (fun _ => 0))), (q7, .inl (cC, 63, .inl kLet))] H _ := G
  refine t_putF (C := RX5) (T := TX5) (N := 20) C0 G hmn i_X5 tyX5 tyX5_ok nmX5 0 13 rfl rfl (by decide) q726 rfl rfl (ty := .array .char) (by decide +kernel) rfl rfl (Nat.le_of_ble_eq_true rfl) rfl dX5_init_429 (fun H locs G => ?_)
  have G : GX X D (tyM cI cC) _ s [(h0, .inr (5, [.ref q1, .ref q2, .ref q3, .int 0, .ref q4, .int 0, .ref q5, .ref q6, .int 0, .int 0, .int 0, .int 0, .long 0, .ref q7, .null, .null, .null, .null, .null, .null])), (q1, .inl (cI, 88, .inl (fun _ => 0))), (q2, .inl (cI, 88, .inl (fun _ => 0))), (q3, .inl (cI, 88, .inl (fun _ => 0))), (q4, .inl (cI, 7, .inl (fun _ => 0))), (q5, .inl (cI, 16, .inl (fun _ => 0))), (q6, .inl (cI, 120, .inl (fun _ => 0))), (q7, .inl (cC, 63, .inl kLet))] H _ := G
  refine lv_aload_n hx hb dX5_init_432 rfl (lv_at hl 0 rfl) ?_
  refine lv_bipush (v := 36) hx hb dX5_init_433 (by decide) ?_
  refine t_newa (t0 := 1) (N' := 36) (atype := .char) (ty := .char) C0 G q774 rfl rfl (fun _ => rfl) (by decide) (by decide) (Nat.le_of_ble_eq_true rfl) (Nat.le_of_ble_eq_true rfl) (Nat.le_of_ble_eq_true rfl) dX5_init_435 (fun q8 H G => ?_)
  refine W.widen (k := 8) (n := 506) (Nat.le_of_ble_eq_true rfl) (Nat.le_of_ble_eq_true rfl) ?_
  refine fill_q8 (w := [(h0, .inr (5, [.ref q1, .ref q2, .ref q3, .int 0, .ref q4, .int 0, .ref q5, .ref q6, .int 0, .int 0, .int 0, .int 0, .long 0, .ref q7, .null, .null, .null, .null, .null, .null])), (q1, .inl (cI, 88, .inl (fun _ => 0))), (q2, .inl (cI, 88, .inl (fun _ => 0))), (q3, .inl (cI, 88, .inl (fun _ => 0))), (q4, .inl (cI, 7, .inl (fun _ => 0))), (q5, .inl (cI, 16, .inl (fun _ => 0))), (q6, .inl (cI, 120, .inl (fun _ => 0))), (q7, .inl (cC, 63, .inl kLet))]) C0 G (fun H locs G => ?_)
  have G : GX X D (tyM cI cC) _ s [(h0, .inr (5, [.ref q1, .ref q2, .ref q3, .int 0, .ref q4, .int 0, .ref q5, .ref q6, .int 0, .int 0, .int 0, .int 0, .long 0, .ref q7, .null, .null, .null, .null, .null, .null])), (q1, .inl (cI, 88, .inl (fun _ => 0))), (q2, .inl (cI, 88, .inl (fun _ => 0))), (q3, .inl (cI, 88, .inl (fun _ => 0))), (q4, .inl (cI, 7, .inl (fun _ => 0))), (q5, .inl (cI, 16, .inl (fun _ => 0))), (q6, .inl (cI, 120, .inl (fun _ => 0))), (q7, .inl (cC, 63, .inl kLet)), (q8, .inl (cC, 36, .inl kMor))] H _ := G
  refine t_putF (C := RX5) (T := TX5) (N := 20) C0 G hmn i_X5 tyX5 tyX5_ok nmX5 0 14 rfl rfl (by decide) q727 rfl rfl (ty := .array .char) (by decide +kernel) rfl rfl (Nat.le_of_ble_eq_true rfl) rfl dX5_init_647 (fun H locs G => ?_)
  have G : GX X D (tyM cI cC) _ s [(h0, .inr (5, [.ref q1, .ref q2, .ref q3, .int 0, .ref q4, .int 0, .ref q5, .ref q6, .int 0, .int 0, .int 0, .int 0, .long 0, .ref q7, .ref q8, .null, .null, .null, .null, .null])), (q1, .inl (cI, 88, .inl (fun _ => 0))), (q2, .inl (cI, 88, .inl (fun _ => 0))), (q3, .inl (cI, 88, .inl (fun _ => 0))), (q4, .inl (cI, 7, .inl (fun _ => 0))), (q5, .inl (cI, 16, .inl (fun _ => 0))), (q6, .inl (cI, 120, .inl (fun _ => 0))), (q7, .inl (cC, 63, .inl kLet)), (q8, .inl (cC, 36, .inl kMor))] H _ := G
  refine lv_aload_n hx hb dX5_init_650 rfl (lv_at hl 0 rfl) ?_
  refine lv_bipush (v := 36) hx hb dX5_init_651 (by decide) ?_
  refine t_newa (t0 := 1) (N' := 36) (atype := .char) (ty := .char) C0 G q774 rfl rfl (fun _ => rfl) (by decide) (by decide) (Nat.le_of_ble_eq_true rfl) (Nat.le_of_ble_eq_true rfl) (Nat.le_of_ble_eq_true rfl) dX5_init_653 (fun q9 H G => ?_)
  refine W.widen (k := 9) (n := 542) (Nat.le_of_ble_eq_true rfl) (Nat.le_of_ble_eq_true rfl) ?_
  refine fill_q9 (w := [(h0, .inr (5, [.ref q1, .ref q2, .ref q3, .int 0, .ref q4, .int 0, .ref q5, .ref q6, .int 0, .int 0, .int 0, .int 0, .long 0, .ref q7, .ref q8, .null, .null, .null, .null, .null])), (q1, .inl (cI, 88, .inl (fun _ => 0))), (q2, .inl (cI, 88, .inl (fun _ => 0))), (q3, .inl (cI, 88, .inl (fun _ => 0))), (q4, .inl (cI, 7, .inl (fun _ => 0))), (q5, .inl (cI, 16, .inl (fun _ => 0))), (q6, .inl (cI, 120, .inl (fun _ => 0))), (q7, .inl (cC, 63, .inl kLet)), (q8, .inl (cC, 36, .inl kMor))]) C0 G (fun H locs G => ?_)
  have G : GX X D (tyM cI cC) _ s [(h0, .inr (5, [.ref q1, .ref q2, .ref q3, .int 0, .ref q4, .int 0, .ref q5, .ref q6, .int 0, .int 0, .int 0, .int 0, .long 0, .ref q7, .ref q8, .null, .null, .null, .null, .null])), (q1, .inl (cI, 88, .inl (fun _ => 0))), (q2, .inl (cI, 88, .inl (fun _ => 0))), (q3, .inl (cI, 88, .inl (fun _ => 0))), (q4, .inl (cI, 7, .inl (fun _ => 0))), (q5, .inl (cI, 16, .inl (fun _ => 0))), (q6, .inl (cI, 120, .inl (fun _ => 0))), (q7, .inl (cC, 63, .inl kLet)), (q8, .inl (cC, 36, .inl kMor)), (q9, .inl (cC, 36, .inl kOth))] H _ := G
  refine t_putF (C := RX5) (T := TX5) (N := 20) C0 G hmn i_X5 tyX5 tyX5_ok nmX5 0 15 rfl rfl (by decide) q728 rfl rfl (ty := .array .char) (by decide +kernel) rfl rfl (Nat.le_of_ble_eq_true rfl) rfl dX5_init_865 (fun H locs G => ?_)
  have G : GX X D (tyM cI cC) _ s [(h0, .inr (5, [.ref q1, .ref q2, .ref q3, .int 0, .ref q4, .int 0, .ref q5, .ref q6, .int 0, .int 0, .int 0, .int 0, .long 0, .ref q7, .ref q8, .ref q9, .null, .null, .null, .null])), (q1, .inl (cI, 88, .inl (fun _ => 0))), (q2, .inl (cI, 88, .inl (fun _ => 0))), (q3, .inl (cI, 88, .inl (fun _ => 0))), (q4, .inl (cI, 7, .inl (fun _ => 0))), (q5, .inl (cI, 16, .inl (fun _ => 0))), (q6, .inl (cI, 120, .inl (fun _ => 0))), (q7, .inl (cC, 63, .inl kLet)), (q8, .inl (cC, 36, .inl kMor)), (q9, .inl (cC, 36, .inl kOth))] H _ := G
  refine lv_aload_n hx hb dX5_init_868 rfl (lv_at hl 0 rfl) ?_
  refine lv_iconst (v := 4) hx hb dX5_init_869 (by decide) ?_
  refine t_newa (t0 := 0) (N' := 4) (atype := .int) (ty := .int) C0 G q112 rfl rfl (fun _ => rfl) (by decide) (by decide) (Nat.le_of_ble_eq_true rfl) (Nat.le_of_ble_eq_true rfl) (Nat.le_of_ble_eq_true rfl) dX5_init_870 (fun q10 H G => ?_)
  refine W.widen (k := 10) (n := 546) (Nat.le_of_ble_eq_true rfl) (Nat.le_of_ble_eq_true rfl) ?_
  have G : GX X D (tyM cI cC) _ s [(h0, .inr (5, [.ref q1, .ref q2, .ref q3, .int 0, .ref q4, .int 0, .ref q5, .ref q6, .int 0, .int 0, .int 0, .int 0, .long 0, .ref q7, .ref q8, .ref q9, .null, .null, .null, .null])), (q1, .inl (cI, 88, .inl (fun _ => 0))), (q2, .inl (cI, 88, .inl (fun _ => 0))), (q3, .inl (cI, 88, .inl (fun _ => 0))), (q4, .inl (cI, 7, .inl (fun _ => 0))), (q5, .inl (cI, 16, .inl (fun _ => 0))), (q6, .inl (cI, 120, .inl (fun _ => 0))), (q7, .inl (cC, 63, .inl kLet)), (q8, .inl (cC, 36, .inl kMor)), (q9, .inl (cC, 36, .inl kOth)), (q10, .inl (cI, 4, .inl (fun _ => 0)))] H _ := G
  refine t_putF (C := RX5) (T := TX5) (N := 20) C0 G hmn i_X5 tyX5 tyX5_ok nmX5 0 16 rfl rfl (by decide) q729 rfl rfl (ty := .array .int) (by decide +kernel) rfl rfl (Nat.le_of_ble_eq_true rfl) rfl dX5_init_872 (fun H locs G => ?_)
  have G : GX X D (tyM cI cC) _ s [(h0, .inr (5, [.ref q1, .ref q2, .ref q3, .int 0, .ref q4, .int 0, .ref q5, .ref q6, .int 0, .int 0, .int 0, .int 0, .long 0, .ref q7, .ref q8, .ref q9, .ref q10, .null, .null, .null])), (q1, .inl (cI, 88, .inl (fun _ => 0))), (q2, .inl (cI, 88, .inl (fun _ => 0))), (q3, .inl (cI, 88, .inl (fun _ => 0))), (q4, .inl (cI, 7, .inl (fun _ => 0))), (q5, .inl (cI, 16, .inl (fun _ => 0))), (q6, .inl (cI, 120, .inl (fun _ => 0))), (q7, .inl (cC, 63, .inl kLet)), (q8, .inl (cC, 36, .inl kMor)), (q9, .inl (cC, 36, .inl kOth)), (q10, .inl (cI, 4, .inl (fun _ => 0)))] H _ := G
  refine lv_aload_n hx hb dX5_init_875 rfl (lv_at hl 0 rfl) ?_
  refine lv_iconst (v := 4) hx hb dX5_init_876 (by decide) ?_
  refine t_newa (t0 := 0) (N' := 4) (atype := .int) (ty := .int) C0 G q112 rfl rfl (fun _ => rfl) (by decide) (by decide) (Nat.le_of_ble_eq_true rfl) (Nat.le_of_ble_eq_true rfl) (Nat.le_of_ble_eq_true rfl) dX5_init_877 (fun q11 H G => ?_)
  refine W.widen (k := 11) (n := 550) (Nat.le_of_ble_eq_true rfl) (Nat.le_of_ble_eq_true rfl) ?_
  have G : GX X D (tyM cI cC) _ s [(h0, .inr (5, [.ref q1, .ref q2, .ref q3, .int 0, .ref q4, .int 0, .ref q5, .ref q6, .int 0, .int 0, .int 0, .int 0, .long 0, .ref q7, .ref q8, .ref q9, .ref q10, .null, .null, .null])), (q1, .inl (cI, 88, .inl (fun _ => 0))), (q2, .inl (cI, 88, .inl (fun _ => 0))), (q3, .inl (cI, 88, .inl (fun _ => 0))), (q4, .inl (cI, 7, .inl (fun _ => 0))), (q5, .inl (cI, 16, .inl (fun _ => 0))), (q6, .inl (cI, 120, .inl (fun _ => 0))), (q7, .inl (cC, 63, .inl kLet)), (q8, .inl (cC, 36, .inl kMor)), (q9, .inl (cC, 36, .inl kOth)), (q10, .inl (cI, 4, .inl (fun _ => 0))), (q11, .inl (cI, 4, .inl (fun _ => 0)))] H _ := G
  refine t_putF (C := RX5) (T := TX5) (N := 20) C0 G hmn i_X5 tyX5 tyX5_ok nmX5 0 17 rfl rfl (by decide) q730 rfl rfl (ty := .array .int) (by decide +kernel) rfl rfl (Nat.le_of_ble_eq_true rfl) rfl dX5_init_879 (fun H locs G => ?_)
  have G : GX X D (tyM cI cC) _ s [(h0, .inr (5, [.ref q1, .ref q2, .ref q3, .int 0, .ref q4, .int 0, .ref q5, .ref q6, .int 0, .int 0, .int 0, .int 0, .long 0, .ref q7, .ref q8, .ref q9, .ref q10, .ref q11, .null, .null])), (q1, .inl (cI, 88, .inl (fun _ => 0))), (q2, .inl (cI, 88, .inl (fun _ => 0))), (q3, .inl (cI, 88, .inl (fun _ => 0))), (q4, .inl (cI, 7, .inl (fun _ => 0))), (q5, .inl (cI, 16, .inl (fun _ => 0))), (q6, .inl (cI, 120, .inl (fun _ => 0))), (q7, .inl (cC, 63, .inl kLet)), (q8, .inl (cC, 36, .inl kMor)), (q9, .inl (cC, 36, .inl kOth)), (q10, .inl (cI, 4, .inl (fun _ => 0))), (q11, .inl (cI, 4, .inl (fun _ => 0)))] H _ := G
  refine lv_aload_n hx hb dX5_init_882 rfl (lv_at hl 0 rfl) ?_
  refine lv_sipush (v := 160) hx hb dX5_init_883 (by decide) ?_
  refine t_newa (t0 := 0) (N' := 160) (atype := .int) (ty := .int) C0 G q112 rfl rfl (fun _ => rfl) (by decide) (by decide) (Nat.le_of_ble_eq_true rfl) (Nat.le_of_ble_eq_true rfl) (Nat.le_of_ble_eq_true rfl) dX5_init_886 (fun q12 H G => ?_)
  refine W.widen (k := 12) (n := 710) (Nat.le_of_ble_eq_true rfl) (Nat.le_of_ble_eq_true rfl) ?_
  have G : GX X D (tyM cI cC) _ s [(h0, .inr (5, [.ref q1, .ref q2, .ref q3, .int 0, .ref q4, .int 0, .ref q5, .ref q6, .int 0, .int 0, .int 0, .int 0, .long 0, .ref q7, .ref q8, .ref q9, .ref q10, .ref q11, .null, .null])), (q1, .inl (cI, 88, .inl (fun _ => 0))), (q2, .inl (cI, 88, .inl (fun _ => 0))), (q3, .inl (cI, 88, .inl (fun _ => 0))), (q4, .inl (cI, 7, .inl (fun _ => 0))), (q5, .inl (cI, 16, .inl (fun _ => 0))), (q6, .inl (cI, 120, .inl (fun _ => 0))), (q7, .inl (cC, 63, .inl kLet)), (q8, .inl (cC, 36, .inl kMor)), (q9, .inl (cC, 36, .inl kOth)), (q10, .inl (cI, 4, .inl (fun _ => 0))), (q11, .inl (cI, 4, .inl (fun _ => 0))), (q12, .inl (cI, 160, .inl (fun _ => 0)))] H _ := G
  refine t_putF (C := RX5) (T := TX5) (N := 20) C0 G hmn i_X5 tyX5 tyX5_ok nmX5 0 18 rfl rfl (by decide) q731 rfl rfl (ty := .array .int) (by decide +kernel) rfl rfl (Nat.le_of_ble_eq_true rfl) rfl dX5_init_888 (fun H locs G => ?_)
  have G : GX X D (tyM cI cC) _ s [(h0, .inr (5, [.ref q1, .ref q2, .ref q3, .int 0, .ref q4, .int 0, .ref q5, .ref q6, .int 0, .int 0, .int 0, .int 0, .long 0, .ref q7, .ref q8, .ref q9, .ref q10, .ref q11, .ref q12, .null])), (q1, .inl (cI, 88, .inl (fun _ => 0))), (q2, .inl (cI, 88, .inl (fun _ => 0))), (q3, .inl (cI, 88, .inl (fun _ => 0))), (q4, .inl (cI, 7, .inl (fun _ => 0))), (q5, .inl (cI, 16, .inl (fun _ => 0))), (q6, .inl (cI, 120, .inl (fun _ => 0))), (q7, .inl (cC, 63, .inl kLet)), (q8, .inl (cC, 36, .inl kMor)), (q9, .inl (cC, 36, .inl kOth)), (q10, .inl (cI, 4, .inl (fun _ => 0))), (q11, .inl (cI, 4, .inl (fun _ => 0))), (q12, .inl (cI, 160, .inl (fun _ => 0)))] H _ := G
  refine lv_aload_n hx hb dX5_init_891 rfl (lv_at hl 0 rfl) ?_
  refine lv_bipush (v := 40) hx hb dX5_init_892 (by decide) ?_
  refine t_newa (t0 := 0) (N' := 40) (atype := .int) (ty := .int) C0 G q112 rfl rfl (fun _ => rfl) (by decide) (by decide) (Nat.le_of_ble_eq_true rfl) (Nat.le_of_ble_eq_true rfl) (Nat.le_of_ble_eq_true rfl) dX5_init_894 (fun q13 H G => ?_)
  refine W.widen (k := 13) (n := 750) (Nat.le_of_ble_eq_true rfl) (Nat.le_of_ble_eq_true rfl) ?_
  have G : GX X D (tyM cI cC) _ s [(h0, .inr (5, [.ref q1, .ref q2, .ref q3, .int 0, .ref q4, .int 0, .ref q5, .ref q6, .int 0, .int 0, .int 0, .int 0, .long 0, .ref q7, .ref q8, .ref q9, .ref q10, .ref q11, .ref q12, .null])), (q1, .inl (cI, 88, .inl (fun _ => 0))), (q2, .inl (cI, 88, .inl (fun _ => 0))), (q3, .inl (cI, 88, .inl (fun _ => 0))), (q4, .inl (cI, 7, .inl (fun _ => 0))), (q5, .inl (cI, 16, .inl (fun _ => 0))), (q6, .inl (cI, 120, .inl (fun _ => 0))), (q7, .inl (cC, 63, .inl kLet)), (q8, .inl (cC, 36, .inl kMor)), (q9, .inl (cC, 36, .inl kOth)), (q10, .inl (cI, 4, .inl (fun _ => 0))), (q11, .inl (cI, 4, .inl (fun _ => 0))), (q12, .inl (cI, 160, .inl (fun _ => 0))), (q13, .inl (cI, 40, .inl (fun _ => 0)))] H _ := G
  refine t_putF (C := RX5) (T := TX5) (N := 20) C0 G hmn i_X5 tyX5 tyX5_ok nmX5 0 19 rfl rfl (by decide) q732 rfl rfl (ty := .array .int) (by decide +kernel) rfl rfl (Nat.le_of_ble_eq_true rfl) rfl dX5_init_896 (fun H locs G => ?_)
  have G : GX X D (tyM cI cC) _ s [(h0, .inr (5, [.ref q1, .ref q2, .ref q3, .int 0, .ref q4, .int 0, .ref q5, .ref q6, .int 0, .int 0, .int 0, .int 0, .long 0, .ref q7, .ref q8, .ref q9, .ref q10, .ref q11, .ref q12, .ref q13])), (q1, .inl (cI, 88, .inl (fun _ => 0))), (q2, .inl (cI, 88, .inl (fun _ => 0))), (q3, .inl (cI, 88, .inl (fun _ => 0))), (q4, .inl (cI, 7, .inl (fun _ => 0))), (q5, .inl (cI, 16, .inl (fun _ => 0))), (q6, .inl (cI, 120, .inl (fun _ => 0))), (q7, .inl (cC, 63, .inl kLet)), (q8, .inl (cC, 36, .inl kMor)), (q9, .inl (cC, 36, .inl kOth)), (q10, .inl (cI, 4, .inl (fun _ => 0))), (q11, .inl (cI, 4, .inl (fun _ => 0))), (q12, .inl (cI, 160, .inl (fun _ => 0))), (q13, .inl (cI, 40, .inl (fun _ => 0)))] H _ := G
  have G : GX X D (tyM cI cC) _ s (wM cI cC (fun k => if k = 0 then h0 else (fun k => if k = 1 then q1 else if k = 2 then q2 else if k = 3 then q3 else if k = 4 then q4 else if k = 5 then q5 else if k = 6 then q6 else if k = 7 then q7 else if k = 8 then q8 else if k = 9 then q9 else if k = 10 then q10 else if k = 11 then q11 else if k = 12 then q12 else q13) k) (fun _ => 0) (fun _ => 0) (fun _ => 0) 0 (fun _ => 0) 0 (fun _ => 0) (fun _ => 0) 0 0 0 0 0 (fun _ => 0) (fun _ => 0) (fun _ => 0) (fun _ => 0)) H _ := G
  refine mod_tail (ad := (fun k => if k = 0 then h0 else (fun k => if k = 1 then q1 else if k = 2 then q2 else if k = 3 then q3 else if k = 4 then q4 else if k = 5 then q5 else if k = 6 then q6 else if k = 7 then q7 else if k = 8 then q8 else if k = 9 then q9 else if k = 10 then q10 else if k = 11 then q11 else if k = 12 then q12 else q13) k)) C0 G hl (fun H locs ls G => ?_)
  exact ret_c (f := w5f cI cC h0) (fun k => if k = 1 then q1 else if k = 2 then q2 else if k = 3 then q3 else if k = 4 then q4 else if k = 5 then q5 else if k = 6 then q6 else if k = 7 then q7 else if k = 8 then q8 else if k = 9 then q9 else if k = 10 then q10 else if k = 11 then q11 else if k = 12 then q12 else q13) C0 G dX5_init_976
