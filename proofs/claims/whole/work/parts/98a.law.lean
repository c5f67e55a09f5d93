/-! the law: its cases 0 to 6 -/
set_option maxHeartbeats 4000000 in
set_option maxRecDepth 100000 in
theorem law_sand {ta adK adV : Nat → Nat} {l : Launch} {D : va_G} {cI cB cG cS cC : ClassId} {ad am : Nat → Nat} {p : Program} {e : Env} {s : State} {m : MethodId} {args : Array Value} {below : List Frame} {meth : Method} {c : Code} {A : Nat → Prop} {Q : State → Prop} {H : Heap} {locs : List Loc} {ls : Array Slot} {b L i : Nat} {ss : Nat → Int32} (C0 : CX (XC ta adK adV) p s m args meth c code 4 ret RL A) (hX : va_X b L ss s s.heap) (hbl : b < s.heap.size) (hbA : ¬ A b) (hL : L ≤ 3072) (hi : i + 6 ≤ L) (hW : LW (XC ta adK adV) D cI cB cG cS cC ad am A s H locs) (hl : lv_has ls 4 [(3, .int (nI i)), (2, .ref (am 0)), (1, .ref (ad 0)), (0, .ref b)]) (kk : ∀ (H : Heap) (locs : List Loc), LW (XC ta adK adV) D cI cB cG cS cC ad am A s H locs → W p l e room_1 s m args below meth c H locs 600000 7302250 Q (F0 m 1426 ls [])) : W p l e room_1 s m args below meth c H locs 600000 7302250 Q (F0 m 212 ls []) := by
  have hx := C0.1
  have hb := C0.2.1
  obtain ⟨hp1, st1, tr1, sp1, vis1, day1, z1, hp2, st2, tr2, sp2, vis2, day2, z2, hp3, st3, tr3, sp3, vis3, day3, z3, tb, tl, rtok, rbg, ren, rvl, shn, shb, shz, fd, isK, xs, xkept, xaside, xisK, xfound, xgone, xover, xtape, xtaped, xtok, xbeg, xend, xval, xwid, xsiz, xcel, xcar, ⟨hP, hK, hF, rfl, hT, hS⟩, G⟩ := hW
  obtain ⟨r, o0, o1, o2, o3, h4, h5, nP, nF⟩ := op_sand  hP hF (ss (i + 1)) (ss (i + 2))
  refine lv_aload_n hx hb dL_law_212 rfl (lv_at hl 2 rfl) ?_
  refine l_arg (k := 1) C0 G.2.2.2.1 hX hbl hbA hL hl (by omega) dL_law_213 dL_law_214 dL_law_215 (by decide) dL_law_216 dL_law_217 ?_
  refine l_arg (k := 2) C0 G.2.2.2.1 hX hbl hbA hL hl (by omega) dL_law_218 dL_law_219 dL_law_220 (by decide) dL_law_221 dL_law_222 ?_
  refine l_goi C0 G sSM (l_runV (tys' := tyC cI cB cG cS) (As := [.int (ss (i + 1)), .int (ss (i + 2))]) (rest := []) (n := 2) (q0 := 0) C0 G sSM xc_xs XS_ok [0, 1, 2, 3] rfl (c4_sand XS_ok h4) q201 q49 q198 q199 q200 o4_sand ⟨rfl, rfl⟩ ⟨Nat.le_of_ble_eq_true rfl, Nat.le_of_ble_eq_true rfl⟩ rfl rfl rfl hl.1 rfl (Nat.le_of_ble_eq_true rfl) dL_law_223 ⟨Nat.le_of_ble_eq_true rfl, Nat.le_of_ble_eq_true rfl⟩) (fun H locs G => ?_)
  refine lv_aload_n hx hb dL_law_226 rfl (lv_at hl 1 rfl) ?_
  refine l_arg (k := 1) C0 G.2.2.2.1 hX hbl hbA hL hl (by omega) dL_law_227 dL_law_228 dL_law_229 (by decide) dL_law_230 dL_law_231 ?_
  refine l_arg (k := 2) C0 G.2.2.2.1 hX hbl hbA hL hl (by omega) dL_law_232 dL_law_233 dL_law_234 (by decide) dL_law_235 dL_law_236 ?_
  refine l_goi C0 G sMS (l_runV (tys' := tyM cI cC) (As := [.int (ss (i + 1)), .int (ss (i + 2))]) (rest := [.int r]) (n := 2) (q0 := 0) C0 G sMS x_x0 X0_ok [0, 4] rfl (c5_sand X0_ok h5) q778 q54 q775 q776 q777 o5_sand ⟨rfl, rfl⟩ ⟨Nat.le_of_ble_eq_true rfl, Nat.le_of_ble_eq_true rfl⟩ rfl rfl rfl hl.1 rfl (Nat.le_of_ble_eq_true rfl) dL_law_237 ⟨Nat.le_of_ble_eq_true rfl, Nat.le_of_ble_eq_true rfl⟩) (fun H locs G => ?_)
  refine lv_icmp_eq (tgt := 1426) hx hb dL_law_240 (by decide) (fun _ => ?_) (fun h => absurd rfl h)
  exact kk H locs ⟨_, _, _, _, _, _, _, _, _, _, _, _, _, _, _, _, _, _, _, _, _, _, _, _, _, _, _, _, _, _, _, _, _, _, _, _, _, _, _, _, _, _, _, _, _, _, _, _, _, ⟨nP, hK, nF, rfl, hT, hS⟩, G⟩
set_option maxHeartbeats 4000000 in
set_option maxRecDepth 100000 in
theorem law_cell {ta adK adV : Nat → Nat} {l : Launch} {D : va_G} {cI cB cG cS cC : ClassId} {ad am : Nat → Nat} {p : Program} {e : Env} {s : State} {m : MethodId} {args : Array Value} {below : List Frame} {meth : Method} {c : Code} {A : Nat → Prop} {Q : State → Prop} {H : Heap} {locs : List Loc} {ls : Array Slot} {b L i : Nat} {ss : Nat → Int32} (C0 : CX (XC ta adK adV) p s m args meth c code 4 ret RL A) (hX : va_X b L ss s s.heap) (hbl : b < s.heap.size) (hbA : ¬ A b) (hL : L ≤ 3072) (hi : i + 6 ≤ L) (hW : LW (XC ta adK adV) D cI cB cG cS cC ad am A s H locs) (hl : lv_has ls 4 [(3, .int (nI i)), (2, .ref (am 0)), (1, .ref (ad 0)), (0, .ref b)]) (kk : ∀ (H : Heap) (locs : List Loc), LW (XC ta adK adV) D cI cB cG cS cC ad am A s H locs → W p l e room_1 s m args below meth c H locs 600000 7302250 Q (F0 m 1426 ls [])) : W p l e room_1 s m args below meth c H locs 600000 7302250 Q (F0 m 245 ls []) := by
  have hx := C0.1
  have hb := C0.2.1
  obtain ⟨hp1, st1, tr1, sp1, vis1, day1, z1, hp2, st2, tr2, sp2, vis2, day2, z2, hp3, st3, tr3, sp3, vis3, day3, z3, tb, tl, rtok, rbg, ren, rvl, shn, shb, shz, fd, isK, xs, xkept, xaside, xisK, xfound, xgone, xover, xtape, xtaped, xtok, xbeg, xend, xval, xwid, xsiz, xcel, xcar, ⟨hP, hK, hF, rfl, hT, hS⟩, G⟩ := hW
  obtain ⟨r, o0, o1, h4, h5, nF⟩ := op_cell  hP hF (ss (i + 1)) (ss (i + 2))
  refine lv_aload_n hx hb dL_law_245 rfl (lv_at hl 2 rfl) ?_
  refine l_arg (k := 1) C0 G.2.2.2.1 hX hbl hbA hL hl (by omega) dL_law_246 dL_law_247 dL_law_248 (by decide) dL_law_249 dL_law_250 ?_
  refine l_arg (k := 2) C0 G.2.2.2.1 hX hbl hbA hL hl (by omega) dL_law_251 dL_law_252 dL_law_253 (by decide) dL_law_254 dL_law_255 ?_
  refine l_goi C0 G sSM (l_runV (tys' := tyC cI cB cG cS) (As := [.int (ss (i + 1)), .int (ss (i + 2))]) (rest := []) (n := 2) (q0 := 0) C0 G sSM xc_xs XS_ok [0, 1, 2, 3] rfl (c4_cell XS_ok h4) q213 q49 q210 q211 q212 o4_cell ⟨rfl, rfl⟩ ⟨Nat.le_of_ble_eq_true rfl, Nat.le_of_ble_eq_true rfl⟩ rfl rfl rfl hl.1 rfl (Nat.le_of_ble_eq_true rfl) dL_law_256 ⟨Nat.le_of_ble_eq_true rfl, Nat.le_of_ble_eq_true rfl⟩) (fun H locs G => ?_)
  refine lv_aload_n hx hb dL_law_259 rfl (lv_at hl 1 rfl) ?_
  refine l_arg (k := 1) C0 G.2.2.2.1 hX hbl hbA hL hl (by omega) dL_law_260 dL_law_261 dL_law_262 (by decide) dL_law_263 dL_law_264 ?_
  refine l_arg (k := 2) C0 G.2.2.2.1 hX hbl hbA hL hl (by omega) dL_law_265 dL_law_266 dL_law_267 (by decide) dL_law_268 dL_law_269 ?_
  refine l_goi C0 G sMS (l_runV (tys' := tyM cI cC) (As := [.int (ss (i + 1)), .int (ss (i + 2))]) (rest := [.int r]) (n := 2) (q0 := 0) C0 G sMS x_x0 X0_ok [0, 4] rfl (c5_cell X0_ok h5) q793 q54 q790 q791 q792 o5_cell ⟨rfl, rfl⟩ ⟨Nat.le_of_ble_eq_true rfl, Nat.le_of_ble_eq_true rfl⟩ rfl rfl rfl hl.1 rfl (Nat.le_of_ble_eq_true rfl) dL_law_270 ⟨Nat.le_of_ble_eq_true rfl, Nat.le_of_ble_eq_true rfl⟩) (fun H locs G => ?_)
  refine lv_icmp_eq (tgt := 1426) hx hb dL_law_273 (by decide) (fun _ => ?_) (fun h => absurd rfl h)
  exact kk H locs ⟨_, _, _, _, _, _, _, _, _, _, _, _, _, _, _, _, _, _, _, _, _, _, _, _, _, _, _, _, _, _, _, _, _, _, _, _, _, _, _, _, _, _, _, _, _, _, _, _, _, ⟨hP, hK, nF, rfl, hT, hS⟩, G⟩
set_option maxHeartbeats 4000000 in
set_option maxRecDepth 100000 in
theorem law_set {ta adK adV : Nat → Nat} {l : Launch} {D : va_G} {cI cB cG cS cC : ClassId} {ad am : Nat → Nat} {p : Program} {e : Env} {s : State} {m : MethodId} {args : Array Value} {below : List Frame} {meth : Method} {c : Code} {A : Nat → Prop} {Q : State → Prop} {H : Heap} {locs : List Loc} {ls : Array Slot} {b L i : Nat} {ss : Nat → Int32} (C0 : CX (XC ta adK adV) p s m args meth c code 4 ret RL A) (hX : va_X b L ss s s.heap) (hbl : b < s.heap.size) (hbA : ¬ A b) (hL : L ≤ 3072) (hi : i + 6 ≤ L) (hW : LW (XC ta adK adV) D cI cB cG cS cC ad am A s H locs) (hl : lv_has ls 4 [(3, .int (nI i)), (2, .ref (am 0)), (1, .ref (ad 0)), (0, .ref b)]) (kk : ∀ (H : Heap) (locs : List Loc), LW (XC ta adK adV) D cI cB cG cS cC ad am A s H locs → W p l e room_1 s m args below meth c H locs 600000 7302250 Q (F0 m 1426 ls [])) : W p l e room_1 s m args below meth c H locs 600000 7302250 Q (F0 m 278 ls []) := by
  have hx := C0.1
  have hb := C0.2.1
  obtain ⟨hp1, st1, tr1, sp1, vis1, day1, z1, hp2, st2, tr2, sp2, vis2, day2, z2, hp3, st3, tr3, sp3, vis3, day3, z3, tb, tl, rtok, rbg, ren, rvl, shn, shb, shz, fd, isK, xs, xkept, xaside, xisK, xfound, xgone, xover, xtape, xtaped, xtok, xbeg, xend, xval, xwid, xsiz, xcel, xcar, ⟨hP, hK, hF, rfl, hT, hS⟩, G⟩ := hW
  obtain ⟨r, o0, o1, o2, o3, h4, h5, nP, nF⟩ := op_set  hP hF (ss (i + 1)) (ss (i + 2))
  refine lv_aload_n hx hb dL_law_278 rfl (lv_at hl 2 rfl) ?_
  refine l_arg (k := 1) C0 G.2.2.2.1 hX hbl hbA hL hl (by omega) dL_law_279 dL_law_280 dL_law_281 (by decide) dL_law_282 dL_law_283 ?_
  refine l_arg (k := 2) C0 G.2.2.2.1 hX hbl hbA hL hl (by omega) dL_law_284 dL_law_285 dL_law_286 (by decide) dL_law_287 dL_law_288 ?_
  refine l_goi C0 G sSM (l_runV (tys' := tyC cI cB cG cS) (As := [.int (ss (i + 1)), .int (ss (i + 2))]) (rest := []) (n := 2) (q0 := 0) C0 G sSM xc_xs XS_ok [0, 1, 2, 3] rfl (c4_set XS_ok h4) q236 q49 q233 q234 q235 o4_set ⟨rfl, rfl⟩ ⟨Nat.le_of_ble_eq_true rfl, Nat.le_of_ble_eq_true rfl⟩ rfl rfl rfl hl.1 rfl (Nat.le_of_ble_eq_true rfl) dL_law_289 ⟨Nat.le_of_ble_eq_true rfl, Nat.le_of_ble_eq_true rfl⟩) (fun H locs G => ?_)
  refine lv_aload_n hx hb dL_law_292 rfl (lv_at hl 1 rfl) ?_
  refine l_arg (k := 1) C0 G.2.2.2.1 hX hbl hbA hL hl (by omega) dL_law_293 dL_law_294 dL_law_295 (by decide) dL_law_296 dL_law_297 ?_
  refine l_arg (k := 2) C0 G.2.2.2.1 hX hbl hbA hL hl (by omega) dL_law_298 dL_law_299 dL_law_300 (by decide) dL_law_301 dL_law_302 ?_
  refine l_goi C0 G sMS (l_runV (tys' := tyM cI cC) (As := [.int (ss (i + 1)), .int (ss (i + 2))]) (rest := [.int r]) (n := 2) (q0 := 0) C0 G sMS x_x0 X0_ok [0, 4] rfl (c5_set X0_ok h5) q805 q54 q802 q803 q804 o5_set ⟨rfl, rfl⟩ ⟨Nat.le_of_ble_eq_true rfl, Nat.le_of_ble_eq_true rfl⟩ rfl rfl rfl hl.1 rfl (Nat.le_of_ble_eq_true rfl) dL_law_303 ⟨Nat.le_of_ble_eq_true rfl, Nat.le_of_ble_eq_true rfl⟩) (fun H locs G => ?_)
  refine lv_icmp_eq (tgt := 1426) hx hb dL_law_306 (by decide) (fun _ => ?_) (fun h => absurd rfl h)
  exact kk H locs ⟨_, _, _, _, _, _, _, _, _, _, _, _, _, _, _, _, _, _, _, _, _, _, _, _, _, _, _, _, _, _, _, _, _, _, _, _, _, _, _, _, _, _, _, _, _, _, _, _, _, ⟨nP, hK, nF, rfl, hT, hS⟩, G⟩
set_option maxHeartbeats 4000000 in
set_option maxRecDepth 100000 in
theorem law_visitor {ta adK adV : Nat → Nat} {l : Launch} {D : va_G} {cI cB cG cS cC : ClassId} {ad am : Nat → Nat} {p : Program} {e : Env} {s : State} {m : MethodId} {args : Array Value} {below : List Frame} {meth : Method} {c : Code} {A : Nat → Prop} {Q : State → Prop} {H : Heap} {locs : List Loc} {ls : Array Slot} {b L i : Nat} {ss : Nat → Int32} (C0 : CX (XC ta adK adV) p s m args meth c code 4 ret RL A) (hX : va_X b L ss s s.heap) (hbl : b < s.heap.size) (hbA : ¬ A b) (hL : L ≤ 3072) (hi : i + 6 ≤ L) (hW : LW (XC ta adK adV) D cI cB cG cS cC ad am A s H locs) (hl : lv_has ls 4 [(3, .int (nI i)), (2, .ref (am 0)), (1, .ref (ad 0)), (0, .ref b)]) (kk : ∀ (H : Heap) (locs : List Loc), LW (XC ta adK adV) D cI cB cG cS cC ad am A s H locs → W p l e room_1 s m args below meth c H locs 600000 7302250 Q (F0 m 1426 ls [])) : W p l e room_1 s m args below meth c H locs 600000 7302250 Q (F0 m 311 ls []) := by
  have hx := C0.1
  have hb := C0.2.1
  obtain ⟨hp1, st1, tr1, sp1, vis1, day1, z1, hp2, st2, tr2, sp2, vis2, day2, z2, hp3, st3, tr3, sp3, vis3, day3, z3, tb, tl, rtok, rbg, ren, rvl, shn, shb, shz, fd, isK, xs, xkept, xaside, xisK, xfound, xgone, xover, xtape, xtaped, xtok, xbeg, xend, xval, xwid, xsiz, xcel, xcar, ⟨hP, hK, hF, rfl, hT, hS⟩, G⟩ := hW
  obtain ⟨r, o0, o1, o2, o3, o4, h4, h5, nP, nF⟩ := op_visitor  hP hF (ss (i + 1)) (ss (i + 2))
  refine lv_aload_n hx hb dL_law_311 rfl (lv_at hl 2 rfl) ?_
  refine l_arg (k := 1) C0 G.2.2.2.1 hX hbl hbA hL hl (by omega) dL_law_312 dL_law_313 dL_law_314 (by decide) dL_law_315 dL_law_316 ?_
  refine l_arg (k := 2) C0 G.2.2.2.1 hX hbl hbA hL hl (by omega) dL_law_317 dL_law_318 dL_law_319 (by decide) dL_law_320 dL_law_321 ?_
  refine l_goi C0 G sSM (l_runV (tys' := tyC cI cB cG cS) (As := [.int (ss (i + 1)), .int (ss (i + 2))]) (rest := []) (n := 2) (q0 := 0) C0 G sSM xc_xs XS_ok [0, 1, 2, 3] rfl (c4_visitor XS_ok h4) q242 q49 q239 q240 q241 o4_visitor ⟨rfl, rfl⟩ ⟨Nat.le_of_ble_eq_true rfl, Nat.le_of_ble_eq_true rfl⟩ rfl rfl rfl hl.1 rfl (Nat.le_of_ble_eq_true rfl) dL_law_322 ⟨Nat.le_of_ble_eq_true rfl, Nat.le_of_ble_eq_true rfl⟩) (fun H locs G => ?_)
  refine lv_aload_n hx hb dL_law_325 rfl (lv_at hl 1 rfl) ?_
  refine l_arg (k := 1) C0 G.2.2.2.1 hX hbl hbA hL hl (by omega) dL_law_326 dL_law_327 dL_law_328 (by decide) dL_law_329 dL_law_330 ?_
  refine l_arg (k := 2) C0 G.2.2.2.1 hX hbl hbA hL hl (by omega) dL_law_331 dL_law_332 dL_law_333 (by decide) dL_law_334 dL_law_335 ?_
  refine l_goi C0 G sMS (l_runV (tys' := tyM cI cC) (As := [.int (ss (i + 1)), .int (ss (i + 2))]) (rest := [.int r]) (n := 2) (q0 := 0) C0 G sMS x_x0 X0_ok [0, 4] rfl (c5_visitor X0_ok h5) q809 q54 q806 q807 q808 o5_visitor ⟨rfl, rfl⟩ ⟨Nat.le_of_ble_eq_true rfl, Nat.le_of_ble_eq_true rfl⟩ rfl rfl rfl hl.1 rfl (Nat.le_of_ble_eq_true rfl) dL_law_336 ⟨Nat.le_of_ble_eq_true rfl, Nat.le_of_ble_eq_true rfl⟩) (fun H locs G => ?_)
  refine lv_icmp_eq (tgt := 1426) hx hb dL_law_339 (by decide) (fun _ => ?_) (fun h => absurd rfl h)
  exact kk H locs ⟨_, _, _, _, _, _, _, _, _, _, _, _, _, _, _, _, _, _, _, _, _, _, _, _, _, _, _, _, _, _, _, _, _, _, _, _, _, _, _, _, _, _, _, _, _, _, _, _, _, ⟨nP, hK, nF, rfl, hT, hS⟩, G⟩
set_option maxHeartbeats 4000000 in
set_option maxRecDepth 100000 in
theorem law_of {ta adK adV : Nat → Nat} {l : Launch} {D : va_G} {cI cB cG cS cC : ClassId} {ad am : Nat → Nat} {p : Program} {e : Env} {s : State} {m : MethodId} {args : Array Value} {below : List Frame} {meth : Method} {c : Code} {A : Nat → Prop} {Q : State → Prop} {H : Heap} {locs : List Loc} {ls : Array Slot} {b L i : Nat} {ss : Nat → Int32} (C0 : CX (XC ta adK adV) p s m args meth c code 4 ret RL A) (hX : va_X b L ss s s.heap) (hbl : b < s.heap.size) (hbA : ¬ A b) (hL : L ≤ 3072) (hi : i + 6 ≤ L) (hW : LW (XC ta adK adV) D cI cB cG cS cC ad am A s H locs) (hl : lv_has ls 4 [(3, .int (nI i)), (2, .ref (am 0)), (1, .ref (ad 0)), (0, .ref b)]) (kk : ∀ (H : Heap) (locs : List Loc), LW (XC ta adK adV) D cI cB cG cS cC ad am A s H locs → W p l e room_1 s m args below meth c H locs 600000 7302250 Q (F0 m 1426 ls [])) : W p l e room_1 s m args below meth c H locs 600000 7302250 Q (F0 m 344 ls []) := by
  have hx := C0.1
  have hb := C0.2.1
  obtain ⟨hp1, st1, tr1, sp1, vis1, day1, z1, hp2, st2, tr2, sp2, vis2, day2, z2, hp3, st3, tr3, sp3, vis3, day3, z3, tb, tl, rtok, rbg, ren, rvl, shn, shb, shz, fd, isK, xs, xkept, xaside, xisK, xfound, xgone, xover, xtape, xtaped, xtok, xbeg, xend, xval, xwid, xsiz, xcel, xcar, ⟨hP, hK, hF, rfl, hT, hS⟩, G⟩ := hW
  obtain ⟨r, o0, o1, h4, h5, nF⟩ := op_of  hP hF (ss (i + 1)) (ss (i + 2))
  refine lv_aload_n hx hb dL_law_344 rfl (lv_at hl 2 rfl) ?_
  refine l_arg (k := 1) C0 G.2.2.2.1 hX hbl hbA hL hl (by omega) dL_law_345 dL_law_346 dL_law_347 (by decide) dL_law_348 dL_law_349 ?_
  refine l_arg (k := 2) C0 G.2.2.2.1 hX hbl hbA hL hl (by omega) dL_law_350 dL_law_351 dL_law_352 (by decide) dL_law_353 dL_law_354 ?_
  refine l_goi C0 G sSM (l_runV (tys' := tyC cI cB cG cS) (As := [.int (ss (i + 1)), .int (ss (i + 2))]) (rest := []) (n := 2) (q0 := 0) C0 G sSM xc_xs XS_ok [0, 1, 2, 3] rfl (c4_of XS_ok h4) q257 q49 q254 q255 q256 o4_of ⟨rfl, rfl⟩ ⟨Nat.le_of_ble_eq_true rfl, Nat.le_of_ble_eq_true rfl⟩ rfl rfl rfl hl.1 rfl (Nat.le_of_ble_eq_true rfl) dL_law_355 ⟨Nat.le_of_ble_eq_true rfl, Nat.le_of_ble_eq_true rfl⟩) (fun H locs G => ?_)
  refine lv_aload_n hx hb dL_law_358 rfl (lv_at hl 1 rfl) ?_
  refine l_arg (k := 1) C0 G.2.2.2.1 hX hbl hbA hL hl (by omega) dL_law_359 dL_law_360 dL_law_361 (by decide) dL_law_362 dL_law_363 ?_
  refine l_arg (k := 2) C0 G.2.2.2.1 hX hbl hbA hL hl (by omega) dL_law_364 dL_law_365 dL_law_366 (by decide) dL_law_367 dL_law_368 ?_
  refine l_goi C0 G sMS (l_runV (tys' := tyM cI cC) (As := [.int (ss (i + 1)), .int (ss (i + 2))]) (rest := [.int r]) (n := 2) (q0 := 0) C0 G sMS x_x0 X0_ok [0, 4] rfl (c5_of X0_ok h5) q821 q54 q818 q819 q820 o5_of ⟨rfl, rfl⟩ ⟨Nat.le_of_ble_eq_true rfl, Nat.le_of_ble_eq_true rfl⟩ rfl rfl rfl hl.1 rfl (Nat.le_of_ble_eq_true rfl) dL_law_369 ⟨Nat.le_of_ble_eq_true rfl, Nat.le_of_ble_eq_true rfl⟩) (fun H locs G => ?_)
  refine lv_icmp_eq (tgt := 1426) hx hb dL_law_372 (by decide) (fun _ => ?_) (fun h => absurd rfl h)
  exact kk H locs ⟨_, _, _, _, _, _, _, _, _, _, _, _, _, _, _, _, _, _, _, _, _, _, _, _, _, _, _, _, _, _, _, _, _, _, _, _, _, _, _, _, _, _, _, _, _, _, _, _, _, ⟨hP, hK, nF, rfl, hT, hS⟩, G⟩
set_option maxHeartbeats 4000000 in
set_option maxRecDepth 100000 in
theorem law_change {ta adK adV : Nat → Nat} {l : Launch} {D : va_G} {cI cB cG cS cC : ClassId} {ad am : Nat → Nat} {p : Program} {e : Env} {s : State} {m : MethodId} {args : Array Value} {below : List Frame} {meth : Method} {c : Code} {A : Nat → Prop} {Q : State → Prop} {H : Heap} {locs : List Loc} {ls : Array Slot} {b L i : Nat} {ss : Nat → Int32} (C0 : CX (XC ta adK adV) p s m args meth c code 4 ret RL A) (hX : va_X b L ss s s.heap) (hbl : b < s.heap.size) (hbA : ¬ A b) (hL : L ≤ 3072) (hi : i + 6 ≤ L) (hW : LW (XC ta adK adV) D cI cB cG cS cC ad am A s H locs) (hl : lv_has ls 4 [(3, .int (nI i)), (2, .ref (am 0)), (1, .ref (ad 0)), (0, .ref b)]) (kk : ∀ (H : Heap) (locs : List Loc), LW (XC ta adK adV) D cI cB cG cS cC ad am A s H locs → W p l e room_1 s m args below meth c H locs 600000 7302250 Q (F0 m 1426 ls [])) : W p l e room_1 s m args below meth c H locs 600000 7302250 Q (F0 m 377 ls []) := by
  have hx := C0.1
  have hb := C0.2.1
  obtain ⟨hp1, st1, tr1, sp1, vis1, day1, z1, hp2, st2, tr2, sp2, vis2, day2, z2, hp3, st3, tr3, sp3, vis3, day3, z3, tb, tl, rtok, rbg, ren, rvl, shn, shb, shz, fd, isK, xs, xkept, xaside, xisK, xfound, xgone, xover, xtape, xtaped, xtok, xbeg, xend, xval, xwid, xsiz, xcel, xcar, ⟨hP, hK, hF, rfl, hT, hS⟩, G⟩ := hW
  obtain ⟨r, o0, o1, o2, o3, h4, h5, nP, nF⟩ := op_change  hP hF (ss (i + 1)) (ss (i + 2)) (ss (i + 3))
  refine lv_aload_n hx hb dL_law_377 rfl (lv_at hl 2 rfl) ?_
  refine l_arg (k := 1) C0 G.2.2.2.1 hX hbl hbA hL hl (by omega) dL_law_378 dL_law_379 dL_law_380 (by decide) dL_law_381 dL_law_382 ?_
  refine l_arg (k := 2) C0 G.2.2.2.1 hX hbl hbA hL hl (by omega) dL_law_383 dL_law_384 dL_law_385 (by decide) dL_law_386 dL_law_387 ?_
  refine l_arg (k := 3) C0 G.2.2.2.1 hX hbl hbA hL hl (by omega) dL_law_388 dL_law_389 dL_law_390 (by decide) dL_law_391 dL_law_392 ?_
  refine l_goi C0 G sSM (l_runV (tys' := tyC cI cB cG cS) (As := [.int (ss (i + 1)), .int (ss (i + 2)), .int (ss (i + 3))]) (rest := []) (n := 3) (q0 := 0) C0 G sSM xc_xs XS_ok [0, 1, 2, 3] rfl (c4_change XS_ok h4) q286 q49 q283 q284 q285 o4_change ⟨rfl, rfl⟩ ⟨Nat.le_of_ble_eq_true rfl, Nat.le_of_ble_eq_true rfl⟩ rfl rfl rfl hl.1 rfl (Nat.le_of_ble_eq_true rfl) dL_law_393 ⟨Nat.le_of_ble_eq_true rfl, Nat.le_of_ble_eq_true rfl⟩) (fun H locs G => ?_)
  refine lv_aload_n hx hb dL_law_396 rfl (lv_at hl 1 rfl) ?_
  refine l_arg (k := 1) C0 G.2.2.2.1 hX hbl hbA hL hl (by omega) dL_law_397 dL_law_398 dL_law_399 (by decide) dL_law_400 dL_law_401 ?_
  refine l_arg (k := 2) C0 G.2.2.2.1 hX hbl hbA hL hl (by omega) dL_law_402 dL_law_403 dL_law_404 (by decide) dL_law_405 dL_law_406 ?_
  refine l_arg (k := 3) C0 G.2.2.2.1 hX hbl hbA hL hl (by omega) dL_law_407 dL_law_408 dL_law_409 (by decide) dL_law_410 dL_law_411 ?_
  refine l_goi C0 G sMS (l_runV (tys' := tyM cI cC) (As := [.int (ss (i + 1)), .int (ss (i + 2)), .int (ss (i + 3))]) (rest := [.int r]) (n := 3) (q0 := 0) C0 G sMS x_x0 X0_ok [0, 4] rfl (c5_change X0_ok h5) q844 q54 q841 q842 q843 o5_change ⟨rfl, rfl⟩ ⟨Nat.le_of_ble_eq_true rfl, Nat.le_of_ble_eq_true rfl⟩ rfl rfl rfl hl.1 rfl (Nat.le_of_ble_eq_true rfl) dL_law_412 ⟨Nat.le_of_ble_eq_true rfl, Nat.le_of_ble_eq_true rfl⟩) (fun H locs G => ?_)
  refine lv_icmp_eq (tgt := 1426) hx hb dL_law_415 (by decide) (fun _ => ?_) (fun h => absurd rfl h)
  exact kk H locs ⟨_, _, _, _, _, _, _, _, _, _, _, _, _, _, _, _, _, _, _, _, _, _, _, _, _, _, _, _, _, _, _, _, _, _, _, _, _, _, _, _, _, _, _, _, _, _, _, _, _, ⟨nP, hK, nF, rfl, hT, hS⟩, G⟩
set_option maxHeartbeats 4000000 in
set_option maxRecDepth 100000 in
theorem law_come {ta adK adV : Nat → Nat} {l : Launch} {D : va_G} {cI cB cG cS cC : ClassId} {ad am : Nat → Nat} {p : Program} {e : Env} {s : State} {m : MethodId} {args : Array Value} {below : List Frame} {meth : Method} {c : Code} {A : Nat → Prop} {Q : State → Prop} {H : Heap} {locs : List Loc} {ls : Array Slot} {b L i : Nat} {ss : Nat → Int32} (C0 : CX (XC ta adK adV) p s m args meth c code 4 ret RL A) (hX : va_X b L ss s s.heap) (hbl : b < s.heap.size) (hbA : ¬ A b) (hL : L ≤ 3072) (hi : i + 6 ≤ L) (hW : LW (XC ta adK adV) D cI cB cG cS cC ad am A s H locs) (hl : lv_has ls 4 [(3, .int (nI i)), (2, .ref (am 0)), (1, .ref (ad 0)), (0, .ref b)]) (kk : ∀ (H : Heap) (locs : List Loc), LW (XC ta adK adV) D cI cB cG cS cC ad am A s H locs → W p l e room_1 s m args below meth c H locs 600000 7302250 Q (F0 m 1426 ls [])) : W p l e room_1 s m args below meth c H locs 600000 7302250 Q (F0 m 420 ls []) := by
  have hx := C0.1
  have hb := C0.2.1
  obtain ⟨hp1, st1, tr1, sp1, vis1, day1, z1, hp2, st2, tr2, sp2, vis2, day2, z2, hp3, st3, tr3, sp3, vis3, day3, z3, tb, tl, rtok, rbg, ren, rvl, shn, shb, shz, fd, isK, xs, xkept, xaside, xisK, xfound, xgone, xover, xtape, xtaped, xtok, xbeg, xend, xval, xwid, xsiz, xcel, xcar, ⟨hP, hK, hF, rfl, hT, hS⟩, G⟩ := hW
  obtain ⟨r, o0, o1, o2, o3, o4, o5, h4, h5, nP, nF⟩ := op_come  hP hF (ss (i + 1))
  refine lv_aload_n hx hb dL_law_420 rfl (lv_at hl 2 rfl) ?_
  refine l_arg (k := 1) C0 G.2.2.2.1 hX hbl hbA hL hl (by omega) dL_law_421 dL_law_422 dL_law_423 (by decide) dL_law_424 dL_law_425 ?_
  refine l_goi C0 G sSM (l_runV (tys' := tyC cI cB cG cS) (As := [.int (ss (i + 1))]) (rest := []) (n := 1) (q0 := 0) C0 G sSM xc_xs XS_ok [0, 1, 2, 3] rfl (c4_come XS_ok h4) q297 q49 q294 q295 q296 o4_come ⟨rfl, rfl⟩ ⟨Nat.le_of_ble_eq_true rfl, Nat.le_of_ble_eq_true rfl⟩ rfl rfl rfl hl.1 rfl (Nat.le_of_ble_eq_true rfl) dL_law_426 ⟨Nat.le_of_ble_eq_true rfl, Nat.le_of_ble_eq_true rfl⟩) (fun H locs G => ?_)
  refine lv_aload_n hx hb dL_law_429 rfl (lv_at hl 1 rfl) ?_
  refine l_arg (k := 1) C0 G.2.2.2.1 hX hbl hbA hL hl (by omega) dL_law_430 dL_law_431 dL_law_432 (by decide) dL_law_433 dL_law_434 ?_
  refine l_goi C0 G sMS (l_runV (tys' := tyM cI cC) (As := [.int (ss (i + 1))]) (rest := [.int r]) (n := 1) (q0 := 0) C0 G sMS x_x0 X0_ok [0, 4] rfl (c5_come X0_ok h5) q854 q54 q851 q852 q853 o5_come ⟨rfl, rfl⟩ ⟨Nat.le_of_ble_eq_true rfl, Nat.le_of_ble_eq_true rfl⟩ rfl rfl rfl hl.1 rfl (Nat.le_of_ble_eq_true rfl) dL_law_435 ⟨Nat.le_of_ble_eq_true rfl, Nat.le_of_ble_eq_true rfl⟩) (fun H locs G => ?_)
  refine lv_icmp_eq (tgt := 1426) hx hb dL_law_438 (by decide) (fun _ => ?_) (fun h => absurd rfl h)
  exact kk H locs ⟨_, _, _, _, _, _, _, _, _, _, _, _, _, _, _, _, _, _, _, _, _, _, _, _, _, _, _, _, _, _, _, _, _, _, _, _, _, _, _, _, _, _, _, _, _, _, _, _, _, ⟨nP, hK, nF, rfl, hT, hS⟩, G⟩
