theorem dJ0_length_8abf5_0 : decode cJ0_length_8abf5 0 = .ok (.aload_n 0, 1) := by decide +kernel
theorem dJ0_length_8abf5_1 : decode cJ0_length_8abf5 1 = .ok (.getfield 9, 3) := by decide +kernel
theorem dJ0_length_8abf5_4 : decode cJ0_length_8abf5 4 = .ok (.arraylength, 1) := by decide +kernel
theorem dJ0_length_8abf5_5 : decode cJ0_length_8abf5 5 = .ok (.aload_n 0, 1) := by decide +kernel
theorem dJ0_length_8abf5_6 : decode cJ0_length_8abf5 6 = .ok (.invokevirtual 335, 3) := by decide +kernel
theorem dJ0_length_8abf5_9 : decode cJ0_length_8abf5 9 = .ok (.ishr, 1) := by decide +kernel
theorem dJ0_length_8abf5_10 : decode cJ0_length_8abf5 10 = .ok (.ireturn, 1) := by decide +kernel
theorem dJ0_charAt_5068e_0 : decode cJ0_charAt_5068e 0 = .ok (.aload_n 0, 1) := by decide +kernel
theorem dJ0_charAt_5068e_1 : decode cJ0_charAt_5068e 1 = .ok (.invokevirtual 492, 3) := by decide +kernel
theorem dJ0_charAt_5068e_4 : decode cJ0_charAt_5068e 4 = .ok (.ifCond .eq 12, 3) := by decide +kernel
theorem dJ0_charAt_5068e_7 : decode cJ0_charAt_5068e 7 = .ok (.aload_n 0, 1) := by decide +kernel
theorem dJ0_charAt_5068e_8 : decode cJ0_charAt_5068e 8 = .ok (.getfield 9, 3) := by decide +kernel
theorem dJ0_charAt_5068e_11 : decode cJ0_charAt_5068e 11 = .ok (.iload_n 1, 1) := by decide +kernel
theorem dJ0_charAt_5068e_12 : decode cJ0_charAt_5068e 12 = .ok (.invokestatic 495, 3) := by decide +kernel
theorem dJ0_charAt_5068e_15 : decode cJ0_charAt_5068e 15 = .ok (.ireturn, 1) := by decide +kernel
theorem dJ0_charAt_5068e_16 : decode cJ0_charAt_5068e 16 = .ok (.aload_n 0, 1) := by decide +kernel
theorem dJ0_charAt_5068e_17 : decode cJ0_charAt_5068e 17 = .ok (.getfield 9, 3) := by decide +kernel
theorem dJ0_charAt_5068e_20 : decode cJ0_charAt_5068e 20 = .ok (.iload_n 1, 1) := by decide +kernel
theorem dJ0_charAt_5068e_21 : decode cJ0_charAt_5068e 21 = .ok (.invokestatic 498, 3) := by decide +kernel
theorem dJ0_charAt_5068e_24 : decode cJ0_charAt_5068e 24 = .ok (.ireturn, 1) := by decide +kernel
theorem dJ0_coder_7d493_0 : decode cJ0_coder_7d493 0 = .ok (.getstatic 38, 3) := by decide +kernel
theorem dJ0_coder_7d493_3 : decode cJ0_coder_7d493 3 = .ok (.ifCond .eq 10, 3) := by decide +kernel
theorem dJ0_coder_7d493_6 : decode cJ0_coder_7d493 6 = .ok (.aload_n 0, 1) := by decide +kernel
theorem dJ0_coder_7d493_7 : decode cJ0_coder_7d493 7 = .ok (.getfield 15, 3) := by decide +kernel
theorem dJ0_coder_7d493_10 : decode cJ0_coder_7d493 10 = .ok (.goto 4, 3) := by decide +kernel
theorem dJ0_coder_7d493_13 : decode cJ0_coder_7d493 13 = .ok (.iconst 1, 1) := by decide +kernel
theorem dJ0_coder_7d493_14 : decode cJ0_coder_7d493 14 = .ok (.ireturn, 1) := by decide +kernel
theorem dJ0_isLatin1_aae02_0 : decode cJ0_isLatin1_aae02 0 = .ok (.getstatic 38, 3) := by decide +kernel
theorem dJ0_isLatin1_aae02_3 : decode cJ0_isLatin1_aae02 3 = .ok (.ifCond .eq 14, 3) := by decide +kernel
theorem dJ0_isLatin1_aae02_6 : decode cJ0_isLatin1_aae02 6 = .ok (.aload_n 0, 1) := by decide +kernel
theorem dJ0_isLatin1_aae02_7 : decode cJ0_isLatin1_aae02 7 = .ok (.getfield 15, 3) := by decide +kernel
theorem dJ0_isLatin1_aae02_10 : decode cJ0_isLatin1_aae02 10 = .ok (.ifCond .ne 7, 3) := by decide +kernel
theorem dJ0_isLatin1_aae02_13 : decode cJ0_isLatin1_aae02 13 = .ok (.iconst 1, 1) := by decide +kernel
theorem dJ0_isLatin1_aae02_14 : decode cJ0_isLatin1_aae02 14 = .ok (.goto 4, 3) := by decide +kernel
theorem dJ0_isLatin1_aae02_17 : decode cJ0_isLatin1_aae02 17 = .ok (.iconst 0, 1) := by decide +kernel
theorem dJ0_isLatin1_aae02_18 : decode cJ0_isLatin1_aae02 18 = .ok (.ireturn, 1) := by decide +kernel
theorem dJ0_checkIndex_df160_0 : decode cJ0_checkIndex_df160 0 = .ok (.iload_n 0, 1) := by decide +kernel
theorem dJ0_checkIndex_df160_1 : decode cJ0_checkIndex_df160 1 = .ok (.iload_n 1, 1) := by decide +kernel
theorem dJ0_checkIndex_df160_2 : decode cJ0_checkIndex_df160 2 = .ok (.getstatic 1053, 3) := by decide +kernel
theorem dJ0_checkIndex_df160_5 : decode cJ0_checkIndex_df160 5 = .ok (.invokestatic 1059, 3) := by decide +kernel
theorem dJ0_checkIndex_df160_8 : decode cJ0_checkIndex_df160 8 = .ok (.pop, 1) := by decide +kernel
theorem dJ0_checkIndex_df160_9 : decode cJ0_checkIndex_df160 9 = .ok (.return_, 1) := by decide +kernel
theorem dJ1_charAt_3b067_0 : decode cJ1_charAt_3b067 0 = .ok (.iload_n 1, 1) := by decide +kernel
theorem dJ1_charAt_3b067_1 : decode cJ1_charAt_3b067 1 = .ok (.aload_n 0, 1) := by decide +kernel
theorem dJ1_charAt_3b067_2 : decode cJ1_charAt_3b067 2 = .ok (.arraylength, 1) := by decide +kernel
theorem dJ1_charAt_3b067_3 : decode cJ1_charAt_3b067 3 = .ok (.invokestatic 9, 3) := by decide +kernel
theorem dJ1_charAt_3b067_6 : decode cJ1_charAt_3b067 6 = .ok (.aload_n 0, 1) := by decide +kernel
theorem dJ1_charAt_3b067_7 : decode cJ1_charAt_3b067 7 = .ok (.iload_n 1, 1) := by decide +kernel
theorem dJ1_charAt_3b067_8 : decode cJ1_charAt_3b067 8 = .ok (.baload, 1) := by decide +kernel
theorem dJ1_charAt_3b067_9 : decode cJ1_charAt_3b067 9 = .ok (.sipush 255, 3) := by decide +kernel
theorem dJ1_charAt_3b067_12 : decode cJ1_charAt_3b067 12 = .ok (.iand, 1) := by decide +kernel
theorem dJ1_charAt_3b067_13 : decode cJ1_charAt_3b067 13 = .ok (.i2c, 1) := by decide +kernel
theorem dJ1_charAt_3b067_14 : decode cJ1_charAt_3b067 14 = .ok (.ireturn, 1) := by decide +kernel
theorem dJ3_checkIndex_8e157_0 : decode cJ3_checkIndex_8e157 0 = .ok (.iload_n 0, 1) := by decide +kernel
theorem dJ3_checkIndex_8e157_1 : decode cJ3_checkIndex_8e157 1 = .ok (.ifCond .lt 8, 3) := by decide +kernel
theorem dJ3_checkIndex_8e157_4 : decode cJ3_checkIndex_8e157 4 = .ok (.iload_n 0, 1) := by decide +kernel
theorem dJ3_checkIndex_8e157_5 : decode cJ3_checkIndex_8e157 5 = .ok (.iload_n 1, 1) := by decide +kernel
theorem dJ3_checkIndex_8e157_6 : decode cJ3_checkIndex_8e157 6 = .ok (.if_icmp .lt 10, 3) := by decide +kernel
theorem dJ3_checkIndex_8e157_9 : decode cJ3_checkIndex_8e157 9 = .ok (.aload_n 2, 1) := by decide +kernel
theorem dJ3_checkIndex_8e157_10 : decode cJ3_checkIndex_8e157 10 = .ok (.iload_n 0, 1) := by decide +kernel
theorem dJ3_checkIndex_8e157_11 : decode cJ3_checkIndex_8e157 11 = .ok (.iload_n 1, 1) := by decide +kernel
theorem dJ3_checkIndex_8e157_12 : decode cJ3_checkIndex_8e157 12 = .ok (.invokestatic 95, 3) := by decide +kernel
theorem dJ3_checkIndex_8e157_15 : decode cJ3_checkIndex_8e157 15 = .ok (.athrow, 1) := by decide +kernel
theorem dJ3_checkIndex_8e157_16 : decode cJ3_checkIndex_8e157 16 = .ok (.iload_n 0, 1) := by decide +kernel
theorem dJ3_checkIndex_8e157_17 : decode cJ3_checkIndex_8e157 17 = .ok (.ireturn, 1) := by decide +kernel
/-! texts: the JDK's members over the class's own literals, by their places -/
def lenI (i : Nat) : Int32 := Int32.ofNat (lenS.getD i 0)
def chS (i k : Nat) : Int32 := (((bytS.getD i []).getD k 0 &&& 255).toUInt32 % 65536).toInt32
theorem lenS_small {i : Nat} (hi : i < 15) : lenS.getD i 0 < 10 := by
  match i, hi with
  | 0, _ => decide
  | 1, _ => decide
  | 2, _ => decide
  | 3, _ => decide
  | 4, _ => decide
  | 5, _ => decide
  | 6, _ => decide
  | 7, _ => decide
  | 8, _ => decide
  | 9, _ => decide
  | 10, _ => decide
  | 11, _ => decide
  | 12, _ => decide
  | 13, _ => decide
  | 14, _ => decide
theorem in_two {i : Nat} {v : Int32} (hi : i < 15) (h : inb v (lenS.getD i 0) = true) : ¬ v < 0 ∧ v < lenI i := by
  have h1 := vin h
  have h2 := lenS_small hi
  refine ⟨fun z => h1 (Or.inl z), ?_⟩
  have h3 := vp_in_iff.mp h1
  rw [Int32.lt_iff_toInt_lt, show lenI i = nI (lenS.getD i 0) from rfl, nI_toInt (by omega)]
  exact h3.2
theorem xs_S {ta adK adV : Nat → Nat} {A : Nat → Prop} {U : State} {H : Heap} (h : XS ta adK adV A U H) : vk_S 15 lenS bytS adK adV A U H := h.2.2.2.2.2
theorem xs_C {ta adK adV : Nat → Nat} {A : Nat → Prop} {U : State} {H : Heap} (h : XS ta adK adV A U H) : va_Z RJ0 "COMPACT_STRINGS" "Z" (.int 1) A U H := h.2.2.2.1
theorem xs_F {ta adK adV : Nat → Nat} {A : Nat → Prop} {U : State} {H : Heap} (h : XS ta adK adV A U H) : va_Zq RJ3 "SIOOBE_FORMATTER" "Ljava/util/function/BiFunction;" A U H := h.2.2.2.2.1
abbrev QcR (D : va_G) (tys : List (ClassId × FieldType)) (w : va_W) (A : Nat → Prop) (a0 : Nat) : Array Value → State → Outcome → State → Prop := va_Qr (fun (_ : Unit) => True) (fun (_ : Unit) a t => a = a0 ∧ PostW D tys w A () t) A
section ST4
variable {X : XP} {p : Program} {l : Launch} {e : Env} {R : Room} {s : State} {m : MethodId} {args : Array Value} {below : List Frame} {meth : Method} {c : Code} {H : Heap} {locs : List Loc} {Q : State → Prop} {cc : ByteArray} {nL : Nat} {rt : Option FieldType} {own : String} {A : Nat → Prop}
variable {D : va_G} {tys : List (ClassId × FieldType)} {w w' w1 wc wr : va_W} {pc index ci N a : Nat} {ls : Array Slot} {rest st : List Value} {C : String} {T : u_T} {fs : List Value} {v : Value}
variable {y : MethodName} {bytes : ByteArray} {maxL n q0 : Nat} {ret : Option FieldType} {rm : Room} {As : List Value} {b : Nat}
theorem ret_n {r : Int32} {ty : FieldType} (C0 : CX X p s m args meth c cc nL (some ty) own A) (G : GX X D tys A s w H locs) (hn : narrow ty (.int r) = .int r) (hd : decode cc pc = .ok (.ireturn, 1)) : W p l e R s m args below meth c H locs 0 0 (MQ below (QcI D tys w A r) args s 0 0 A) (F0 m pc ls [.int r]) :=
  W.zret C0.1 C0.2.1 C0.2.2.1 hn (fun t ht hW => ⟨⟨r, (), rfl, rfl, by rw [ht]; exact G.2.1, va_K.moved hW.alike G.1, G.2.2.1⟩, G.2.2.2.1.F ht⟩) G.2.2.2.1.2.2 hd C0.2.2.2.2.2.2.1
theorem ret_r {r : Nat} {E : String} (C0 : CX X p s m args meth c cc nL (some (.object E)) own A) (G : GX X D tys A s w H locs) (hd : decode cc pc = .ok (.areturn, 1)) : W p l e R s m args below meth c H locs 0 0 (MQ below (QcR D tys w A r) args s 0 0 A) (F0 m pc ls [.ref r]) :=
  W.aret C0.1 C0.2.1 C0.2.2.1 (Or.inl ⟨E, rfl⟩) (Or.inr ⟨r, rfl⟩) (fun t ht hW => ⟨⟨(), r, rfl, trivial, rfl, by rw [ht]; exact G.2.1, va_K.moved hW.alike G.1, G.2.2.1⟩, G.2.2.2.1.F ht⟩) G.2.2.2.1.2.2 hd C0.2.2.2.2.2.2.1
theorem go_r {av : Array Value} {r : Nat} (C0 : CX X p s m args meth c cc nL rt own A) (G : GX X D tys A s w H locs) (hr : va_Run p l e R s m args below meth c H locs 0 0 0 0 (F0 m pc ls st) rest (QcR D tys w1 (va_A w H.size) r av) (va_A w H.size))
    (kk : ∀ (H : Heap) (locs : List Loc), GX X D tys A s w1 H locs → W p l e R s m args below meth c H locs 0 0 Q (F0 m (pc + 3) ls (.ref r :: rest))) : W p l e R s m args below meth c H locs 0 0 Q (F0 m pc ls st) := by
  refine va_callr hr G.2.2.2.1 (fun q _ h => free_of C0 G q h) (free_of C0 G) (fun u ra t H1 locs1 ht hvm hw hB _ _ hS => ?_)
  obtain ⟨rfl, hB⟩ := hB
  exact kk H1 locs1 (after_of C0 G ht hvm hB hS)
/-- a call on an object that the premises tell, not the world -/
theorem runV_x {Qc : Array Value → State → Outcome → State → Prop} {free : Addr → Prop} (C0 : CX X p s m args meth c cc nL rt own A) (G : GX X D tys A s w H locs)
    (hM : Met l y (wU y bytes maxL ret) rm (va_Pc (.ref b :: As) (PreW X D tys w H.size)) Qc 0 0 free)
    (hrecv : ∃ cell : Cell, H[b]? = some cell ∧ cell.vm.isStatics = false ∧ s.vm.findClass C = some cell.cls)
    (hcode : Cond.code y bytes maxL ret ∈ lw_g) (hini : Cond.initialized y.cls ∈ lw_g) (hlink : Cond.methodLink own index y ∈ lw_g) (hinst : Cond.instanceMethod y ∈ lw_g) (hsel : Cond.selects C y y ∈ lw_g) (hd : okName y n) (hrm : rm.cells = 0 ∧ rm.slots = 0) (hR : rm.frames + 1 ≤ R.frames ∧ 8 + (maxL + 11) + rm.locals ≤ R.locals)
    (hn : As.length = n) (hsz : ls.size = nL) (hst : st = As.reverse ++ .ref b :: rest) (hroom : (rest.map fun v => v.category).sum ≤ 8) (hdg : decode cc pc = .ok (.invokevirtual index, 3)) :
    va_Run p l e R s m args below meth c H locs 0 0 0 0 (F0 m pc ls st) rest (Qc (Value.ref b :: As).toArray) free := by
  obtain ⟨hx, hb, hr, hml, hown, hts, hlk, hA, hX⟩ := id C0
  refine va_runV (As := As) (rest := rest) (C := C) (n := n) (bytes := bytes) (maxL := maxL) (ret := ret) ⟨hx, hb, hml, hown, hts⟩ hM ⟨callB_of n hts (gU hcode) rfl hrm.1 hrm.2 (hts _ hini) (hts _ hlink) hd hR, hts _ hinst, hts _ hsel⟩ ⟨PreW.blind hX, hrecv, fun U hU hW => pre_of C0 G hU hW⟩ rfl hn hsz hst (lv_room (rest := st) (pc := pc) (ls := ls) hroom) hdg ⟨Nat.zero_le _, Nat.zero_le _⟩
end ST4
section JDK
variable {ta adK adV : Nat → Nat} {l : Launch} {D : va_G} {tys : List (ClassId × FieldType)} {w0 : va_W} {sz i : Nat}
theorem oS_coder : okName yJ0_coder_7d493 0 := ⟨by decide, by decide, by decide +kernel⟩
theorem oS_lat : okName yJ0_isLatin1_aae02 0 := ⟨by decide, by decide, by decide +kernel⟩
theorem oS_len : okName yJ0_length_8abf5 0 := ⟨by decide, by decide, by decide +kernel⟩
theorem oS_chr : okName yJ0_charAt_5068e 1 := ⟨by decide, by decide, by decide +kernel⟩
theorem oS_chk : okName yJ0_checkIndex_df160 2 := ⟨by decide, by decide, by decide +kernel⟩
theorem oS_l1 : okName yJ1_charAt_3b067 2 := ⟨by decide, by decide, by decide +kernel⟩
theorem oS_pre : okName yJ3_checkIndex_8e157 3 := ⟨by decide, by decide, by decide +kernel⟩
theorem cS_coder (hi : i < 15) : Met l yJ0_coder_7d493 (wU yJ0_coder_7d493 cJ0_coder_7d493 1 (some .byte)) { frames := 0, cells := 0, slots := 0, locals := 0 } (va_Pc [.ref (adK i)] (PreW (XS ta adK adV) D tys w0 sz)) (QcI D tys w0 (va_A w0 sz) 0) 0 0 (va_A w0 sz) := by
  refine startW XS_ok (own := RJ0) (by decide) rfl (Nat.le_of_ble_eq_true rfl) (fun p e s m args below meth c ls C0 G hl => ?_)
  have hx := C0.1
  have hb := C0.2.1
  have hl : lv_has ls 1 [(0, .ref (adK i))] := hl
  refine va_gets hx hb (xs_C G.2.2.2.2) G.2.2.2.1 C0.2.2.2.2.1 (C0.2.2.2.2.2.1 _ q557) (fun _ h => h) dJ0_coder_7d493_0 ?_
  refine lv_if_eq (tgt := 13) hx hb dJ0_coder_7d493_3 (by decide) (fun h => absurd h (by decide)) (fun _ => ?_)
  refine lv_aload_n hx hb dJ0_coder_7d493_6 rfl (lv_at hl 0 rfl) ?_
  refine vk_getf hx hb ((xs_S G.2.2.2.2).1 i hi).2.1 G.2.2.2.1 C0.2.2.2.2.1 (C0.2.2.2.2.2.1 _ q1142) (fun _ h => h) dJ0_coder_7d493_7 ?_
  refine lv_goto (tgt := 14) hx hb dJ0_coder_7d493_10 (by decide) ?_
  exact ret_n C0 G rfl dJ0_coder_7d493_14
theorem cS_lat (hi : i < 15) : Met l yJ0_isLatin1_aae02 (wU yJ0_isLatin1_aae02 cJ0_isLatin1_aae02 1 (some .boolean)) { frames := 0, cells := 0, slots := 0, locals := 0 } (va_Pc [.ref (adK i)] (PreW (XS ta adK adV) D tys w0 sz)) (QcI D tys w0 (va_A w0 sz) 1) 0 0 (va_A w0 sz) := by
  refine startW XS_ok (own := RJ0) (by decide) rfl (Nat.le_of_ble_eq_true rfl) (fun p e s m args below meth c ls C0 G hl => ?_)
  have hx := C0.1
  have hb := C0.2.1
  have hl : lv_has ls 1 [(0, .ref (adK i))] := hl
  refine va_gets hx hb (xs_C G.2.2.2.2) G.2.2.2.1 C0.2.2.2.2.1 (C0.2.2.2.2.2.1 _ q557) (fun _ h => h) dJ0_isLatin1_aae02_0 ?_
  refine lv_if_eq (tgt := 17) hx hb dJ0_isLatin1_aae02_3 (by decide) (fun h => absurd h (by decide)) (fun _ => ?_)
  refine lv_aload_n hx hb dJ0_isLatin1_aae02_6 rfl (lv_at hl 0 rfl) ?_
  refine vk_getf hx hb ((xs_S G.2.2.2.2).1 i hi).2.1 G.2.2.2.1 C0.2.2.2.2.1 (C0.2.2.2.2.2.1 _ q1142) (fun _ h => h) dJ0_isLatin1_aae02_7 ?_
  refine lv_if_ne (tgt := 17) hx hb dJ0_isLatin1_aae02_10 (by decide) (fun h => absurd rfl h) (fun _ => ?_)
  refine lv_iconst (v := (1 : Int32)) hx hb dJ0_isLatin1_aae02_13 (by decide) ?_
  refine lv_goto (tgt := 18) hx hb dJ0_isLatin1_aae02_14 (by decide) ?_
  exact ret_n C0 G rfl dJ0_isLatin1_aae02_18
theorem cS_len (hi : i < 15) : Met l yJ0_length_8abf5 (wU yJ0_length_8abf5 cJ0_length_8abf5 1 (some .int)) { frames := 1, cells := 0, slots := 0, locals := 20 } (va_Pc [.ref (adK i)] (PreW (XS ta adK adV) D tys w0 sz)) (QcI D tys w0 (va_A w0 sz) (lenI i)) 0 0 (va_A w0 sz) := by
  refine startW XS_ok (own := RJ0) (by decide) rfl (Nat.le_of_ble_eq_true rfl) (fun p e s m args below meth c ls C0 G hl => ?_)
  have hx := C0.1
  have hb := C0.2.1
  have hl : lv_has ls 1 [(0, .ref (adK i))] := hl
  refine lv_aload_n hx hb dJ0_length_8abf5_0 rfl (lv_at hl 0 rfl) ?_
  refine vk_getf hx hb ((xs_S G.2.2.2.2).1 i hi).2.2.1 G.2.2.2.1 C0.2.2.2.2.1 (C0.2.2.2.2.2.1 _ q1141) (fun _ h => h) dJ0_length_8abf5_1 ?_
  refine va_tlen hx hb ((xs_S G.2.2.2.2).1 i hi).2.2.2 G.2.2.2.1 (v := lenI i) rfl dJ0_length_8abf5_4 ?_
  refine lv_aload_n hx hb dJ0_length_8abf5_5 rfl (lv_at hl 0 rfl) ?_
  refine go_i C0 G (runV_x (n := 0) (As := []) (rest := [.int (lenI i)]) C0 G (cS_coder hi) (vk_recv (xs_S G.2.2.2.2) hi G.2.2.2.1) q556 q58 q553 q554 q555 oS_coder ⟨rfl, rfl⟩ ⟨Nat.le_of_ble_eq_true rfl, Nat.le_of_ble_eq_true rfl⟩ rfl hl.1 rfl (Nat.le_of_ble_eq_true rfl) dJ0_length_8abf5_6) (fun H locs G => ?_)
  refine lv_ishr hx hb dJ0_length_8abf5_9 ?_
  rw [sb_shr0]
  exact ret_i C0 G dJ0_length_8abf5_10
theorem cS_pre {v0 v1 : Int32} {fv : Value} (hfv : fv = .null ∨ ∃ t, fv = .ref t) (h1 : ¬ v0 < 0) (h2 : v0 < v1) : Met l yJ3_checkIndex_8e157 (wU yJ3_checkIndex_8e157 cJ3_checkIndex_8e157 3 (some .int)) { frames := 0, cells := 0, slots := 0, locals := 0 } (va_Pc [.int v0, .int v1, fv] (PreW (XS ta adK adV) D tys w0 sz)) (QcI D tys w0 (va_A w0 sz) v0) 0 0 (va_A w0 sz) := by
  rcases hfv with rfl | ⟨t, rfl⟩
  all_goals
    refine startW XS_ok (own := RJ3) (by decide) rfl (Nat.le_of_ble_eq_true rfl) (fun p e s m args below meth c ls C0 G hl => ?_)
    have hx := C0.1
    have hb := C0.2.1
    have hl := lv_sub hl [0, 1] rfl
    refine lv_iload_n hx hb dJ3_checkIndex_8e157_0 rfl (lv_at hl 0 rfl) ?_
    refine lv_if_lt (tgt := 9) hx hb dJ3_checkIndex_8e157_1 (by decide) (fun h => absurd h h1) (fun _ => ?_)
    refine lv_iload_n hx hb dJ3_checkIndex_8e157_4 rfl (lv_at hl 0 rfl) ?_
    refine lv_iload_n hx hb dJ3_checkIndex_8e157_5 rfl (lv_at hl 1 rfl) ?_
    refine lv_icmp_lt (tgt := 16) hx hb dJ3_checkIndex_8e157_6 (by decide) (fun _ => ?_) (fun h => absurd h2 h)
    refine lv_iload_n hx hb dJ3_checkIndex_8e157_16 rfl (lv_at hl 0 rfl) ?_
    exact ret_i C0 G dJ3_checkIndex_8e157_17
theorem cS_chk {v0 v1 : Int32} (h1 : ¬ v0 < 0) (h2 : v0 < v1) : Met l yJ0_checkIndex_df160 (wU yJ0_checkIndex_df160 cJ0_checkIndex_df160 2 none) { frames := 1, cells := 0, slots := 0, locals := 22 } (va_Pc [.int v0, .int v1] (PreW (XS ta adK adV) D tys w0 sz)) (QcV D tys w0 (va_A w0 sz)) 0 0 (va_A w0 sz) := by
  refine startW XS_ok (own := RJ0) (by decide) rfl (Nat.le_of_ble_eq_true rfl) (fun p e s m args below meth c ls C0 G hl => ?_)
  have hx := C0.1
  have hb := C0.2.1
  have hl : lv_has ls 2 [(0, .int v0), (1, .int v1)] := hl
  obtain ⟨fv, hfv, hZ⟩ : ∃ fv : Value, (fv = .null ∨ ∃ t, fv = .ref t) ∧ va_Z RJ3 "SIOOBE_FORMATTER" "Ljava/util/function/BiFunction;" fv (va_A w0 sz) s s.heap := by
    rcases xs_F G.2.2.2.2 with h | ⟨t, h⟩
    · exact ⟨_, Or.inl rfl, h⟩
    · exact ⟨_, Or.inr ⟨t, rfl⟩, h⟩
  have hcat : fv.category = 1 := by rcases hfv with rfl | ⟨t, rfl⟩ <;> rfl
  refine lv_iload_n hx hb dJ0_checkIndex_df160_0 rfl (lv_at hl 0 rfl) ?_
  refine lv_iload_n hx hb dJ0_checkIndex_df160_1 rfl (lv_at hl 1 rfl) ?_
  refine va_gets hx hb hZ G.2.2.2.1 C0.2.2.2.2.1 (C0.2.2.2.2.2.1 _ q573) (fun _ h => h) dJ0_checkIndex_df160_2 ?_
  refine go_i C0 G (runS_of (n := 3) (As := [.int v0, .int v1, fv]) (rest := []) C0 G (cS_pre hfv h1 h2) q577 q60 q575 q576 oS_pre ⟨rfl, rfl⟩ ⟨Nat.le_of_ble_eq_true rfl, Nat.le_of_ble_eq_true rfl⟩ rfl hl.1 rfl (Nat.le_of_ble_eq_true rfl) dJ0_checkIndex_df160_5) (fun H locs G => ?_)
  refine lv_pop hx hb dJ0_checkIndex_df160_8 rfl ?_
  exact ret_v C0 G dJ0_checkIndex_df160_9
theorem cS_l1 (hi : i < 15) {v1 : Int32} (h : inb v1 (lenS.getD i 0) = true) : Met l yJ1_charAt_3b067 (wU yJ1_charAt_3b067 cJ1_charAt_3b067 2 (some .char)) { frames := 2, cells := 0, slots := 0, locals := 43 } (va_Pc [.ref (adV i), .int v1] (PreW (XS ta adK adV) D tys w0 sz)) (QcI D tys w0 (va_A w0 sz) (chS i v1.toNatClampNeg)) 0 0 (va_A w0 sz) := by
  refine startW XS_ok (own := RJ1) (by decide) rfl (Nat.le_of_ble_eq_true rfl) (fun p e s m args below meth c ls C0 G hl => ?_)
  have hx := C0.1
  have hb := C0.2.1
  have hl : lv_has ls 2 [(0, .ref (adV i)), (1, .int v1)] := hl
  refine lv_iload_n hx hb dJ1_charAt_3b067_0 rfl (lv_at hl 1 rfl) ?_
  refine lv_aload_n hx hb dJ1_charAt_3b067_1 rfl (lv_at hl 0 rfl) ?_
  refine va_tlen hx hb ((xs_S G.2.2.2.2).1 i hi).2.2.2 G.2.2.2.1 (v := lenI i) rfl dJ1_charAt_3b067_2 ?_
  refine go_v C0 G (runS_of (n := 2) (As := [.int v1, .int (lenI i)]) (rest := []) C0 G (cS_chk (in_two hi h).1 (in_two hi h).2) q572 q58 q570 q571 oS_chk ⟨rfl, rfl⟩ ⟨Nat.le_of_ble_eq_true rfl, Nat.le_of_ble_eq_true rfl⟩ rfl hl.1 rfl (Nat.le_of_ble_eq_true rfl) dJ1_charAt_3b067_3) (fun H locs G => ?_)
  refine lv_aload_n hx hb dJ1_charAt_3b067_6 rfl (lv_at hl 0 rfl) ?_
  refine lv_iload_n hx hb dJ1_charAt_3b067_7 rfl (lv_at hl 1 rfl) ?_
  refine va_tb hx hb ((xs_S G.2.2.2.2).1 i hi).2.2.2 G.2.2.2.1 (vin h) rfl dJ1_charAt_3b067_8 ?_
  refine lv_sipush (v := (255 : Int32)) hx hb dJ1_charAt_3b067_9 (by decide) ?_
  refine lv_iand hx hb dJ1_charAt_3b067_12 ?_
  refine lv_i2c (v := chS i v1.toNatClampNeg) hx hb dJ1_charAt_3b067_13 rfl ?_
  exact ret_n C0 G (pk_nc _) dJ1_charAt_3b067_14
theorem cS_chr (hi : i < 15) {v1 : Int32} (h : inb v1 (lenS.getD i 0) = true) : Met l yJ0_charAt_5068e (wU yJ0_charAt_5068e cJ0_charAt_5068e 2 (some .char)) { frames := 3, cells := 0, slots := 0, locals := 64 } (va_Pc [.ref (adK i), .int v1] (PreW (XS ta adK adV) D tys w0 sz)) (QcI D tys w0 (va_A w0 sz) (chS i v1.toNatClampNeg)) 0 0 (va_A w0 sz) := by
  refine startW XS_ok (own := RJ0) (by decide) rfl (Nat.le_of_ble_eq_true rfl) (fun p e s m args below meth c ls C0 G hl => ?_)
  have hx := C0.1
  have hb := C0.2.1
  have hl : lv_has ls 2 [(0, .ref (adK i)), (1, .int v1)] := hl
  refine lv_aload_n hx hb dJ0_charAt_5068e_0 rfl (lv_at hl 0 rfl) ?_
  refine go_i C0 G (runV_x (n := 0) (As := []) (rest := []) C0 G (cS_lat hi) (vk_recv (xs_S G.2.2.2.2) hi G.2.2.2.1) q566 q58 q563 q564 q565 oS_lat ⟨rfl, rfl⟩ ⟨Nat.le_of_ble_eq_true rfl, Nat.le_of_ble_eq_true rfl⟩ rfl hl.1 rfl (Nat.le_of_ble_eq_true rfl) dJ0_charAt_5068e_1) (fun H locs G => ?_)
  refine lv_if_eq (tgt := 16) hx hb dJ0_charAt_5068e_4 (by decide) (fun h => absurd h (by decide)) (fun _ => ?_)
  refine lv_aload_n hx hb dJ0_charAt_5068e_7 rfl (lv_at hl 0 rfl) ?_
  refine vk_getf hx hb ((xs_S G.2.2.2.2).1 i hi).2.2.1 G.2.2.2.1 C0.2.2.2.2.1 (C0.2.2.2.2.2.1 _ q1141) (fun _ h => h) dJ0_charAt_5068e_8 ?_
  refine lv_iload_n hx hb dJ0_charAt_5068e_11 rfl (lv_at hl 1 rfl) ?_
  refine go_i C0 G (runS_of (n := 2) (As := [.ref (adV i), .int v1]) (rest := []) C0 G (cS_l1 hi h) q569 q59 q567 q568 oS_l1 ⟨rfl, rfl⟩ ⟨Nat.le_of_ble_eq_true rfl, Nat.le_of_ble_eq_true rfl⟩ rfl hl.1 rfl (Nat.le_of_ble_eq_true rfl) dJ0_charAt_5068e_12) (fun H locs G => ?_)
  exact ret_n C0 G (pk_nc _) dJ0_charAt_5068e_15
end JDK
