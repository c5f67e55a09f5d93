/-! the constructor of SandLedgerModel: its tables of letters, its loops -/
theorem GX.renl {X : XP} {D : va_G} {tys : List (ClassId × FieldType)} {A : Nat → Prop} {s : State} {w : va_W} {a : Nat} {cA : ClassId} {n : Nat} {f g : Nat → Int32} {H : Heap} {locs : List Loc} (G : GX X D tys A s (w ++ [(a, .inl (cA, n, .inl f))]) H locs) (h : ∀ j, j < n → f j = g j) : GX X D tys A s (w ++ [(a, .inl (cA, n, .inl g))]) H locs := by
  have G1 : GX X D tys A s ((w ++ [(a, (.inl (cA, n, .inl f) : va_E))]).set w.length (a, .inl (cA, n, .inl f))) H locs := by rw [set_last]; exact G
  have G2 := GX.renm G1 h
  rw [set_last] at G2
  exact G2
set_option maxRecDepth 100000 in
theorem ch_q7 : ∀ j, j < 63 → (upd (upd (upd (upd (upd (upd (upd (upd (upd (upd (upd (upd (upd (upd (upd (upd (upd (upd (upd (upd (upd (upd (upd (upd (upd (upd (upd (upd (upd (upd (upd (upd (upd (upd (upd (upd (upd (upd (upd (upd (upd (upd (upd (upd (upd (upd (upd (upd (upd (upd (upd (upd (upd (upd (upd (upd (upd (upd (upd (upd (upd (upd (upd (fun _ => 0) 0 (vp_nar .char 118)) 1 (vp_nar .char 105)) 2 (vp_nar .char 115)) 3 (vp_nar .char 105)) 4 (vp_nar .char 116)) 5 (vp_nar .char 111)) 6 (vp_nar .char 114)) 7 (vp_nar .char 32)) 8 (vp_nar .char 32)) 9 (vp_nar .char 99)) 10 (vp_nar .char 104)) 11 (vp_nar .char 105)) 12 (vp_nar .char 108)) 13 (vp_nar .char 100)) 14 (vp_nar .char 32)) 15 (vp_nar .char 32)) 16 (vp_nar .char 32)) 17 (vp_nar .char 32)) 18 (vp_nar .char 108)) 19 (vp_nar .char 111)) 20 (vp_nar .char 118)) 21 (vp_nar .char 101)) 22 (vp_nar .char 114)) 23 (vp_nar .char 32)) 24 (vp_nar .char 32)) 25 (vp_nar .char 32)) 26 (vp_nar .char 32)) 27 (vp_nar .char 98)) 28 (vp_nar .char 111)) 29 (vp_nar .char 121)) 30 (vp_nar .char 32)) 31 (vp_nar .char 32)) 32 (vp_nar .char 32)) 33 (vp_nar .char 32)) 34 (vp_nar .char 32)) 35 (vp_nar .char 32)) 36 (vp_nar .char 100)) 37 (vp_nar .char 105)) 38 (vp_nar .char 103)) 39 (vp_nar .char 103)) 40 (vp_nar .char 101)) 41 (vp_nar .char 114)) 42 (vp_nar .char 32)) 43 (vp_nar .char 32)) 44 (vp_nar .char 32)) 45 (vp_nar .char 116)) 46 (vp_nar .char 114)) 47 (vp_nar .char 97)) 48 (vp_nar .char 118)) 49 (vp_nar .char 101)) 50 (vp_nar .char 108)) 51 (vp_nar .char 108)) 52 (vp_nar .char 101)) 53 (vp_nar .char 114)) 54 (vp_nar .char 98)) 55 (vp_nar .char 114)) 56 (vp_nar .char 105)) 57 (vp_nar .char 100)) 58 (vp_nar .char 101)) 59 (vp_nar .char 32)) 60 (vp_nar .char 32)) 61 (vp_nar .char 32)) 62 (vp_nar .char 32)) j = kLet j := by decide +kernel
set_option maxHeartbeats 4000000 in
set_option maxRecDepth 100000 in
theorem fill_q7 {X : XP} {D : va_G} {cI cC : ClassId} {p : Program} {l : Launch} {e : Env} {R : Room} {s : State} {m : MethodId} {args : Array Value} {below : List Frame} {meth : Method} {c : Code} {A : Nat → Prop} {Q : State → Prop} {kc ks a : Nat} {w : va_W} {H : Heap} {locs : List Loc} {ls : Array Slot} {rest : List Value} (C0 : CX X p s m args meth c cX5_init 2 none RX5 A) (G : GX X D (tyM cI cC) A s (w ++ [(a, .inl (cC, 63, .inl (fun _ => 0)))]) H locs) (kk : ∀ (H : Heap) (locs : List Loc), GX X D (tyM cI cC) A s (w ++ [(a, .inl (cC, 63, .inl kLet))]) H locs → W p l e R s m args below meth c H locs kc ks Q (F0 m 429 ls (.ref a :: rest))) : W p l e R s m args below meth c H locs kc ks Q (F0 m 57 ls (.ref a :: rest)) := by
  refine t_chc (k := 0) (i := 0) (x := 118) C0 G 1 rfl (nI_in (show 0 < 63 by decide) (by decide)) (by decide) dX5_init_57 dX5_init_58 dX5_init_59 dX5_init_61 (by decide) (by decide) (fun H locs G => ?_)
  refine t_chc (k := 1) (i := 1) (x := 105) C0 G 1 rfl (nI_in (show 1 < 63 by decide) (by decide)) (by decide) dX5_init_62 dX5_init_63 dX5_init_64 dX5_init_66 (by decide) (by decide) (fun H locs G => ?_)
  refine t_chc (k := 2) (i := 2) (x := 115) C0 G 1 rfl (nI_in (show 2 < 63 by decide) (by decide)) (by decide) dX5_init_67 dX5_init_68 dX5_init_69 dX5_init_71 (by decide) (by decide) (fun H locs G => ?_)
  refine t_chc (k := 3) (i := 3) (x := 105) C0 G 1 rfl (nI_in (show 3 < 63 by decide) (by decide)) (by decide) dX5_init_72 dX5_init_73 dX5_init_74 dX5_init_76 (by decide) (by decide) (fun H locs G => ?_)
  refine t_chc (k := 4) (i := 4) (x := 116) C0 G 1 rfl (nI_in (show 4 < 63 by decide) (by decide)) (by decide) dX5_init_77 dX5_init_78 dX5_init_79 dX5_init_81 (by decide) (by decide) (fun H locs G => ?_)
  refine t_chc (k := 5) (i := 5) (x := 111) C0 G 1 rfl (nI_in (show 5 < 63 by decide) (by decide)) (by decide) dX5_init_82 dX5_init_83 dX5_init_84 dX5_init_86 (by decide) (by decide) (fun H locs G => ?_)
  refine t_chb (k := 6) (i := 6) (x := 114) C0 G 1 rfl (nI_in (show 6 < 63 by decide) (by decide)) (by decide) dX5_init_87 dX5_init_88 dX5_init_90 dX5_init_92 (by decide) (by decide) (fun H locs G => ?_)
  refine t_chb (k := 7) (i := 7) (x := 32) C0 G 1 rfl (nI_in (show 7 < 63 by decide) (by decide)) (by decide) dX5_init_93 dX5_init_94 dX5_init_96 dX5_init_98 (by decide) (by decide) (fun H locs G => ?_)
  refine t_chb (k := 8) (i := 8) (x := 32) C0 G 1 rfl (nI_in (show 8 < 63 by decide) (by decide)) (by decide) dX5_init_99 dX5_init_100 dX5_init_102 dX5_init_104 (by decide) (by decide) (fun H locs G => ?_)
  refine t_chb (k := 9) (i := 9) (x := 99) C0 G 1 rfl (nI_in (show 9 < 63 by decide) (by decide)) (by decide) dX5_init_105 dX5_init_106 dX5_init_108 dX5_init_110 (by decide) (by decide) (fun H locs G => ?_)
  refine t_chb (k := 10) (i := 10) (x := 104) C0 G 1 rfl (nI_in (show 10 < 63 by decide) (by decide)) (by decide) dX5_init_111 dX5_init_112 dX5_init_114 dX5_init_116 (by decide) (by decide) (fun H locs G => ?_)
  refine t_chb (k := 11) (i := 11) (x := 105) C0 G 1 rfl (nI_in (show 11 < 63 by decide) (by decide)) (by decide) dX5_init_117 dX5_init_118 dX5_init_120 dX5_init_122 (by decide) (by decide) (fun H locs G => ?_)
  refine t_chb (k := 12) (i := 12) (x := 108) C0 G 1 rfl (nI_in (show 12 < 63 by decide) (by decide)) (by decide) dX5_init_123 dX5_init_124 dX5_init_126 dX5_init_128 (by decide) (by decide) (fun H locs G => ?_)
  refine t_chb (k := 13) (i := 13) (x := 100) C0 G 1 rfl (nI_in (show 13 < 63 by decide) (by decide)) (by decide) dX5_init_129 dX5_init_130 dX5_init_132 dX5_init_134 (by decide) (by decide) (fun H locs G => ?_)
  refine t_chb (k := 14) (i := 14) (x := 32) C0 G 1 rfl (nI_in (show 14 < 63 by decide) (by decide)) (by decide) dX5_init_135 dX5_init_136 dX5_init_138 dX5_init_140 (by decide) (by decide) (fun H locs G => ?_)
  refine t_chb (k := 15) (i := 15) (x := 32) C0 G 1 rfl (nI_in (show 15 < 63 by decide) (by decide)) (by decide) dX5_init_141 dX5_init_142 dX5_init_144 dX5_init_146 (by decide) (by decide) (fun H locs G => ?_)
  refine t_chb (k := 16) (i := 16) (x := 32) C0 G 1 rfl (nI_in (show 16 < 63 by decide) (by decide)) (by decide) dX5_init_147 dX5_init_148 dX5_init_150 dX5_init_152 (by decide) (by decide) (fun H locs G => ?_)
  refine t_chb (k := 17) (i := 17) (x := 32) C0 G 1 rfl (nI_in (show 17 < 63 by decide) (by decide)) (by decide) dX5_init_153 dX5_init_154 dX5_init_156 dX5_init_158 (by decide) (by decide) (fun H locs G => ?_)
  refine t_chb (k := 18) (i := 18) (x := 108) C0 G 1 rfl (nI_in (show 18 < 63 by decide) (by decide)) (by decide) dX5_init_159 dX5_init_160 dX5_init_162 dX5_init_164 (by decide) (by decide) (fun H locs G => ?_)
  refine t_chb (k := 19) (i := 19) (x := 111) C0 G 1 rfl (nI_in (show 19 < 63 by decide) (by decide)) (by decide) dX5_init_165 dX5_init_166 dX5_init_168 dX5_init_170 (by decide) (by decide) (fun H locs G => ?_)
  refine t_chb (k := 20) (i := 20) (x := 118) C0 G 1 rfl (nI_in (show 20 < 63 by decide) (by decide)) (by decide) dX5_init_171 dX5_init_172 dX5_init_174 dX5_init_176 (by decide) (by decide) (fun H locs G => ?_)
  refine t_chb (k := 21) (i := 21) (x := 101) C0 G 1 rfl (nI_in (show 21 < 63 by decide) (by decide)) (by decide) dX5_init_177 dX5_init_178 dX5_init_180 dX5_init_182 (by decide) (by decide) (fun H locs G => ?_)
  refine t_chb (k := 22) (i := 22) (x := 114) C0 G 1 rfl (nI_in (show 22 < 63 by decide) (by decide)) (by decide) dX5_init_183 dX5_init_184 dX5_init_186 dX5_init_188 (by decide) (by decide) (fun H locs G => ?_)
  refine t_chb (k := 23) (i := 23) (x := 32) C0 G 1 rfl (nI_in (show 23 < 63 by decide) (by decide)) (by decide) dX5_init_189 dX5_init_190 dX5_init_192 dX5_init_194 (by decide) (by decide) (fun H locs G => ?_)
  refine t_chb (k := 24) (i := 24) (x := 32) C0 G 1 rfl (nI_in (show 24 < 63 by decide) (by decide)) (by decide) dX5_init_195 dX5_init_196 dX5_init_198 dX5_init_200 (by decide) (by decide) (fun H locs G => ?_)
  refine t_chb (k := 25) (i := 25) (x := 32) C0 G 1 rfl (nI_in (show 25 < 63 by decide) (by decide)) (by decide) dX5_init_201 dX5_init_202 dX5_init_204 dX5_init_206 (by decide) (by decide) (fun H locs G => ?_)
  refine t_chb (k := 26) (i := 26) (x := 32) C0 G 1 rfl (nI_in (show 26 < 63 by decide) (by decide)) (by decide) dX5_init_207 dX5_init_208 dX5_init_210 dX5_init_212 (by decide) (by decide) (fun H locs G => ?_)
  refine t_chb (k := 27) (i := 27) (x := 98) C0 G 1 rfl (nI_in (show 27 < 63 by decide) (by decide)) (by decide) dX5_init_213 dX5_init_214 dX5_init_216 dX5_init_218 (by decide) (by decide) (fun H locs G => ?_)
  refine t_chb (k := 28) (i := 28) (x := 111) C0 G 1 rfl (nI_in (show 28 < 63 by decide) (by decide)) (by decide) dX5_init_219 dX5_init_220 dX5_init_222 dX5_init_224 (by decide) (by decide) (fun H locs G => ?_)
  refine t_chb (k := 29) (i := 29) (x := 121) C0 G 1 rfl (nI_in (show 29 < 63 by decide) (by decide)) (by decide) dX5_init_225 dX5_init_226 dX5_init_228 dX5_init_230 (by decide) (by decide) (fun H locs G => ?_)
  refine t_chb (k := 30) (i := 30) (x := 32) C0 G 1 rfl (nI_in (show 30 < 63 by decide) (by decide)) (by decide) dX5_init_231 dX5_init_232 dX5_init_234 dX5_init_236 (by decide) (by decide) (fun H locs G => ?_)
  refine t_chb (k := 31) (i := 31) (x := 32) C0 G 1 rfl (nI_in (show 31 < 63 by decide) (by decide)) (by decide) dX5_init_237 dX5_init_238 dX5_init_240 dX5_init_242 (by decide) (by decide) (fun H locs G => ?_)
  refine t_chb (k := 32) (i := 32) (x := 32) C0 G 1 rfl (nI_in (show 32 < 63 by decide) (by decide)) (by decide) dX5_init_243 dX5_init_244 dX5_init_246 dX5_init_248 (by decide) (by decide) (fun H locs G => ?_)
  refine t_chb (k := 33) (i := 33) (x := 32) C0 G 1 rfl (nI_in (show 33 < 63 by decide) (by decide)) (by decide) dX5_init_249 dX5_init_250 dX5_init_252 dX5_init_254 (by decide) (by decide) (fun H locs G => ?_)
  refine t_chb (k := 34) (i := 34) (x := 32) C0 G 1 rfl (nI_in (show 34 < 63 by decide) (by decide)) (by decide) dX5_init_255 dX5_init_256 dX5_init_258 dX5_init_260 (by decide) (by decide) (fun H locs G => ?_)
  refine t_chb (k := 35) (i := 35) (x := 32) C0 G 1 rfl (nI_in (show 35 < 63 by decide) (by decide)) (by decide) dX5_init_261 dX5_init_262 dX5_init_264 dX5_init_266 (by decide) (by decide) (fun H locs G => ?_)
  refine t_chb (k := 36) (i := 36) (x := 100) C0 G 1 rfl (nI_in (show 36 < 63 by decide) (by decide)) (by decide) dX5_init_267 dX5_init_268 dX5_init_270 dX5_init_272 (by decide) (by decide) (fun H locs G => ?_)
  refine t_chb (k := 37) (i := 37) (x := 105) C0 G 1 rfl (nI_in (show 37 < 63 by decide) (by decide)) (by decide) dX5_init_273 dX5_init_274 dX5_init_276 dX5_init_278 (by decide) (by decide) (fun H locs G => ?_)
  refine t_chb (k := 38) (i := 38) (x := 103) C0 G 1 rfl (nI_in (show 38 < 63 by decide) (by decide)) (by decide) dX5_init_279 dX5_init_280 dX5_init_282 dX5_init_284 (by decide) (by decide) (fun H locs G => ?_)
  refine t_chb (k := 39) (i := 39) (x := 103) C0 G 1 rfl (nI_in (show 39 < 63 by decide) (by decide)) (by decide) dX5_init_285 dX5_init_286 dX5_init_288 dX5_init_290 (by decide) (by decide) (fun H locs G => ?_)
  refine t_chb (k := 40) (i := 40) (x := 101) C0 G 1 rfl (nI_in (show 40 < 63 by decide) (by decide)) (by decide) dX5_init_291 dX5_init_292 dX5_init_294 dX5_init_296 (by decide) (by decide) (fun H locs G => ?_)
  refine t_chb (k := 41) (i := 41) (x := 114) C0 G 1 rfl (nI_in (show 41 < 63 by decide) (by decide)) (by decide) dX5_init_297 dX5_init_298 dX5_init_300 dX5_init_302 (by decide) (by decide) (fun H locs G => ?_)
  refine t_chb (k := 42) (i := 42) (x := 32) C0 G 1 rfl (nI_in (show 42 < 63 by decide) (by decide)) (by decide) dX5_init_303 dX5_init_304 dX5_init_306 dX5_init_308 (by decide) (by decide) (fun H locs G => ?_)
  refine t_chb (k := 43) (i := 43) (x := 32) C0 G 1 rfl (nI_in (show 43 < 63 by decide) (by decide)) (by decide) dX5_init_309 dX5_init_310 dX5_init_312 dX5_init_314 (by decide) (by decide) (fun H locs G => ?_)
  refine t_chb (k := 44) (i := 44) (x := 32) C0 G 1 rfl (nI_in (show 44 < 63 by decide) (by decide)) (by decide) dX5_init_315 dX5_init_316 dX5_init_318 dX5_init_320 (by decide) (by decide) (fun H locs G => ?_)
  refine t_chb (k := 45) (i := 45) (x := 116) C0 G 1 rfl (nI_in (show 45 < 63 by decide) (by decide)) (by decide) dX5_init_321 dX5_init_322 dX5_init_324 dX5_init_326 (by decide) (by decide) (fun H locs G => ?_)
  refine t_chb (k := 46) (i := 46) (x := 114) C0 G 1 rfl (nI_in (show 46 < 63 by decide) (by decide)) (by decide) dX5_init_327 dX5_init_328 dX5_init_330 dX5_init_332 (by decide) (by decide) (fun H locs G => ?_)
  refine t_chb (k := 47) (i := 47) (x := 97) C0 G 1 rfl (nI_in (show 47 < 63 by decide) (by decide)) (by decide) dX5_init_333 dX5_init_334 dX5_init_336 dX5_init_338 (by decide) (by decide) (fun H locs G => ?_)
  refine t_chb (k := 48) (i := 48) (x := 118) C0 G 1 rfl (nI_in (show 48 < 63 by decide) (by decide)) (by decide) dX5_init_339 dX5_init_340 dX5_init_342 dX5_init_344 (by decide) (by decide) (fun H locs G => ?_)
  refine t_chb (k := 49) (i := 49) (x := 101) C0 G 1 rfl (nI_in (show 49 < 63 by decide) (by decide)) (by decide) dX5_init_345 dX5_init_346 dX5_init_348 dX5_init_350 (by decide) (by decide) (fun H locs G => ?_)
  refine t_chb (k := 50) (i := 50) (x := 108) C0 G 1 rfl (nI_in (show 50 < 63 by decide) (by decide)) (by decide) dX5_init_351 dX5_init_352 dX5_init_354 dX5_init_356 (by decide) (by decide) (fun H locs G => ?_)
  refine t_chb (k := 51) (i := 51) (x := 108) C0 G 1 rfl (nI_in (show 51 < 63 by decide) (by decide)) (by decide) dX5_init_357 dX5_init_358 dX5_init_360 dX5_init_362 (by decide) (by decide) (fun H locs G => ?_)
  refine t_chb (k := 52) (i := 52) (x := 101) C0 G 1 rfl (nI_in (show 52 < 63 by decide) (by decide)) (by decide) dX5_init_363 dX5_init_364 dX5_init_366 dX5_init_368 (by decide) (by decide) (fun H locs G => ?_)
  refine t_chb (k := 53) (i := 53) (x := 114) C0 G 1 rfl (nI_in (show 53 < 63 by decide) (by decide)) (by decide) dX5_init_369 dX5_init_370 dX5_init_372 dX5_init_374 (by decide) (by decide) (fun H locs G => ?_)
  refine t_chb (k := 54) (i := 54) (x := 98) C0 G 1 rfl (nI_in (show 54 < 63 by decide) (by decide)) (by decide) dX5_init_375 dX5_init_376 dX5_init_378 dX5_init_380 (by decide) (by decide) (fun H locs G => ?_)
  refine t_chb (k := 55) (i := 55) (x := 114) C0 G 1 rfl (nI_in (show 55 < 63 by decide) (by decide)) (by decide) dX5_init_381 dX5_init_382 dX5_init_384 dX5_init_386 (by decide) (by decide) (fun H locs G => ?_)
  refine t_chb (k := 56) (i := 56) (x := 105) C0 G 1 rfl (nI_in (show 56 < 63 by decide) (by decide)) (by decide) dX5_init_387 dX5_init_388 dX5_init_390 dX5_init_392 (by decide) (by decide) (fun H locs G => ?_)
  refine t_chb (k := 57) (i := 57) (x := 100) C0 G 1 rfl (nI_in (show 57 < 63 by decide) (by decide)) (by decide) dX5_init_393 dX5_init_394 dX5_init_396 dX5_init_398 (by decide) (by decide) (fun H locs G => ?_)
  refine t_chb (k := 58) (i := 58) (x := 101) C0 G 1 rfl (nI_in (show 58 < 63 by decide) (by decide)) (by decide) dX5_init_399 dX5_init_400 dX5_init_402 dX5_init_404 (by decide) (by decide) (fun H locs G => ?_)
  refine t_chb (k := 59) (i := 59) (x := 32) C0 G 1 rfl (nI_in (show 59 < 63 by decide) (by decide)) (by decide) dX5_init_405 dX5_init_406 dX5_init_408 dX5_init_410 (by decide) (by decide) (fun H locs G => ?_)
  refine t_chb (k := 60) (i := 60) (x := 32) C0 G 1 rfl (nI_in (show 60 < 63 by decide) (by decide)) (by decide) dX5_init_411 dX5_init_412 dX5_init_414 dX5_init_416 (by decide) (by decide) (fun H locs G => ?_)
  refine t_chb (k := 61) (i := 61) (x := 32) C0 G 1 rfl (nI_in (show 61 < 63 by decide) (by decide)) (by decide) dX5_init_417 dX5_init_418 dX5_init_420 dX5_init_422 (by decide) (by decide) (fun H locs G => ?_)
  refine t_chb (k := 62) (i := 62) (x := 32) C0 G 1 rfl (nI_in (show 62 < 63 by decide) (by decide)) (by decide) dX5_init_423 dX5_init_424 dX5_init_426 dX5_init_428 (by decide) (by decide) (fun H locs G => ?_)
  refine kk H locs ?_
  exact GX.renl G ch_q7
set_option maxRecDepth 100000 in
theorem ch_q8 : ∀ j, j < 36 → (upd (upd (upd (upd (upd (upd (upd (upd (upd (upd (upd (upd (upd (upd (upd (upd (upd (upd (upd (upd (upd (upd (upd (upd (upd (upd (upd (upd (upd (upd (upd (upd (upd (upd (upd (upd (fun _ => 0) 0 (vp_nar .char 102)) 1 (vp_nar .char 114)) 2 (vp_nar .char 111)) 3 (vp_nar .char 109)) 4 (vp_nar .char 32)) 5 (vp_nar .char 32)) 6 (vp_nar .char 32)) 7 (vp_nar .char 32)) 8 (vp_nar .char 32)) 9 (vp_nar .char 119)) 10 (vp_nar .char 105)) 11 (vp_nar .char 100)) 12 (vp_nar .char 101)) 13 (vp_nar .char 32)) 14 (vp_nar .char 32)) 15 (vp_nar .char 32)) 16 (vp_nar .char 32)) 17 (vp_nar .char 32)) 18 (vp_nar .char 104)) 19 (vp_nar .char 105)) 20 (vp_nar .char 103)) 21 (vp_nar .char 104)) 22 (vp_nar .char 32)) 23 (vp_nar .char 32)) 24 (vp_nar .char 32)) 25 (vp_nar .char 32)) 26 (vp_nar .char 32)) 27 (vp_nar .char 101)) 28 (vp_nar .char 97)) 29 (vp_nar .char 99)) 30 (vp_nar .char 104)) 31 (vp_nar .char 32)) 32 (vp_nar .char 32)) 33 (vp_nar .char 32)) 34 (vp_nar .char 32)) 35 (vp_nar .char 32)) j = kMor j := by decide +kernel
set_option maxHeartbeats 4000000 in
set_option maxRecDepth 100000 in
theorem fill_q8 {X : XP} {D : va_G} {cI cC : ClassId} {p : Program} {l : Launch} {e : Env} {R : Room} {s : State} {m : MethodId} {args : Array Value} {below : List Frame} {meth : Method} {c : Code} {A : Nat → Prop} {Q : State → Prop} {kc ks a : Nat} {w : va_W} {H : Heap} {locs : List Loc} {ls : Array Slot} {rest : List Value} (C0 : CX X p s m args meth c cX5_init 2 none RX5 A) (G : GX X D (tyM cI cC) A s (w ++ [(a, .inl (cC, 36, .inl (fun _ => 0)))]) H locs) (kk : ∀ (H : Heap) (locs : List Loc), GX X D (tyM cI cC) A s (w ++ [(a, .inl (cC, 36, .inl kMor))]) H locs → W p l e R s m args below meth c H locs kc ks Q (F0 m 647 ls (.ref a :: rest))) : W p l e R s m args below meth c H locs kc ks Q (F0 m 437 ls (.ref a :: rest)) := by
  refine t_chc (k := 0) (i := 0) (x := 102) C0 G 1 rfl (nI_in (show 0 < 36 by decide) (by decide)) (by decide) dX5_init_437 dX5_init_438 dX5_init_439 dX5_init_441 (by decide) (by decide) (fun H locs G => ?_)
  refine t_chc (k := 1) (i := 1) (x := 114) C0 G 1 rfl (nI_in (show 1 < 36 by decide) (by decide)) (by decide) dX5_init_442 dX5_init_443 dX5_init_444 dX5_init_446 (by decide) (by decide) (fun H locs G => ?_)
  refine t_chc (k := 2) (i := 2) (x := 111) C0 G 1 rfl (nI_in (show 2 < 36 by decide) (by decide)) (by decide) dX5_init_447 dX5_init_448 dX5_init_449 dX5_init_451 (by decide) (by decide) (fun H locs G => ?_)
  refine t_chc (k := 3) (i := 3) (x := 109) C0 G 1 rfl (nI_in (show 3 < 36 by decide) (by decide)) (by decide) dX5_init_452 dX5_init_453 dX5_init_454 dX5_init_456 (by decide) (by decide) (fun H locs G => ?_)
  refine t_chc (k := 4) (i := 4) (x := 32) C0 G 1 rfl (nI_in (show 4 < 36 by decide) (by decide)) (by decide) dX5_init_457 dX5_init_458 dX5_init_459 dX5_init_461 (by decide) (by decide) (fun H locs G => ?_)
  refine t_chc (k := 5) (i := 5) (x := 32) C0 G 1 rfl (nI_in (show 5 < 36 by decide) (by decide)) (by decide) dX5_init_462 dX5_init_463 dX5_init_464 dX5_init_466 (by decide) (by decide) (fun H locs G => ?_)
  refine t_chb (k := 6) (i := 6) (x := 32) C0 G 1 rfl (nI_in (show 6 < 36 by decide) (by decide)) (by decide) dX5_init_467 dX5_init_468 dX5_init_470 dX5_init_472 (by decide) (by decide) (fun H locs G => ?_)
  refine t_chb (k := 7) (i := 7) (x := 32) C0 G 1 rfl (nI_in (show 7 < 36 by decide) (by decide)) (by decide) dX5_init_473 dX5_init_474 dX5_init_476 dX5_init_478 (by decide) (by decide) (fun H locs G => ?_)
  refine t_chb (k := 8) (i := 8) (x := 32) C0 G 1 rfl (nI_in (show 8 < 36 by decide) (by decide)) (by decide) dX5_init_479 dX5_init_480 dX5_init_482 dX5_init_484 (by decide) (by decide) (fun H locs G => ?_)
  refine t_chb (k := 9) (i := 9) (x := 119) C0 G 1 rfl (nI_in (show 9 < 36 by decide) (by decide)) (by decide) dX5_init_485 dX5_init_486 dX5_init_488 dX5_init_490 (by decide) (by decide) (fun H locs G => ?_)
  refine t_chb (k := 10) (i := 10) (x := 105) C0 G 1 rfl (nI_in (show 10 < 36 by decide) (by decide)) (by decide) dX5_init_491 dX5_init_492 dX5_init_494 dX5_init_496 (by decide) (by decide) (fun H locs G => ?_)
  refine t_chb (k := 11) (i := 11) (x := 100) C0 G 1 rfl (nI_in (show 11 < 36 by decide) (by decide)) (by decide) dX5_init_497 dX5_init_498 dX5_init_500 dX5_init_502 (by decide) (by decide) (fun H locs G => ?_)
  refine t_chb (k := 12) (i := 12) (x := 101) C0 G 1 rfl (nI_in (show 12 < 36 by decide) (by decide)) (by decide) dX5_init_503 dX5_init_504 dX5_init_506 dX5_init_508 (by decide) (by decide) (fun H locs G => ?_)
  refine t_chb (k := 13) (i := 13) (x := 32) C0 G 1 rfl (nI_in (show 13 < 36 by decide) (by decide)) (by decide) dX5_init_509 dX5_init_510 dX5_init_512 dX5_init_514 (by decide) (by decide) (fun H locs G => ?_)
  refine t_chb (k := 14) (i := 14) (x := 32) C0 G 1 rfl (nI_in (show 14 < 36 by decide) (by decide)) (by decide) dX5_init_515 dX5_init_516 dX5_init_518 dX5_init_520 (by decide) (by decide) (fun H locs G => ?_)
  refine t_chb (k := 15) (i := 15) (x := 32) C0 G 1 rfl (nI_in (show 15 < 36 by decide) (by decide)) (by decide) dX5_init_521 dX5_init_522 dX5_init_524 dX5_init_526 (by decide) (by decide) (fun H locs G => ?_)
  refine t_chb (k := 16) (i := 16) (x := 32) C0 G 1 rfl (nI_in (show 16 < 36 by decide) (by decide)) (by decide) dX5_init_527 dX5_init_528 dX5_init_530 dX5_init_532 (by decide) (by decide) (fun H locs G => ?_)
  refine t_chb (k := 17) (i := 17) (x := 32) C0 G 1 rfl (nI_in (show 17 < 36 by decide) (by decide)) (by decide) dX5_init_533 dX5_init_534 dX5_init_536 dX5_init_538 (by decide) (by decide) (fun H locs G => ?_)
  refine t_chb (k := 18) (i := 18) (x := 104) C0 G 1 rfl (nI_in (show 18 < 36 by decide) (by decide)) (by decide) dX5_init_539 dX5_init_540 dX5_init_542 dX5_init_544 (by decide) (by decide) (fun H locs G => ?_)
  refine t_chb (k := 19) (i := 19) (x := 105) C0 G 1 rfl (nI_in (show 19 < 36 by decide) (by decide)) (by decide) dX5_init_545 dX5_init_546 dX5_init_548 dX5_init_550 (by decide) (by decide) (fun H locs G => ?_)
  refine t_chb (k := 20) (i := 20) (x := 103) C0 G 1 rfl (nI_in (show 20 < 36 by decide) (by decide)) (by decide) dX5_init_551 dX5_init_552 dX5_init_554 dX5_init_556 (by decide) (by decide) (fun H locs G => ?_)
  refine t_chb (k := 21) (i := 21) (x := 104) C0 G 1 rfl (nI_in (show 21 < 36 by decide) (by decide)) (by decide) dX5_init_557 dX5_init_558 dX5_init_560 dX5_init_562 (by decide) (by decide) (fun H locs G => ?_)
  refine t_chb (k := 22) (i := 22) (x := 32) C0 G 1 rfl (nI_in (show 22 < 36 by decide) (by decide)) (by decide) dX5_init_563 dX5_init_564 dX5_init_566 dX5_init_568 (by decide) (by decide) (fun H locs G => ?_)
  refine t_chb (k := 23) (i := 23) (x := 32) C0 G 1 rfl (nI_in (show 23 < 36 by decide) (by decide)) (by decide) dX5_init_569 dX5_init_570 dX5_init_572 dX5_init_574 (by decide) (by decide) (fun H locs G => ?_)
  refine t_chb (k := 24) (i := 24) (x := 32) C0 G 1 rfl (nI_in (show 24 < 36 by decide) (by decide)) (by decide) dX5_init_575 dX5_init_576 dX5_init_578 dX5_init_580 (by decide) (by decide) (fun H locs G => ?_)
  refine t_chb (k := 25) (i := 25) (x := 32) C0 G 1 rfl (nI_in (show 25 < 36 by decide) (by decide)) (by decide) dX5_init_581 dX5_init_582 dX5_init_584 dX5_init_586 (by decide) (by decide) (fun H locs G => ?_)
  refine t_chb (k := 26) (i := 26) (x := 32) C0 G 1 rfl (nI_in (show 26 < 36 by decide) (by decide)) (by decide) dX5_init_587 dX5_init_588 dX5_init_590 dX5_init_592 (by decide) (by decide) (fun H locs G => ?_)
  refine t_chb (k := 27) (i := 27) (x := 101) C0 G 1 rfl (nI_in (show 27 < 36 by decide) (by decide)) (by decide) dX5_init_593 dX5_init_594 dX5_init_596 dX5_init_598 (by decide) (by decide) (fun H locs G => ?_)
  refine t_chb (k := 28) (i := 28) (x := 97) C0 G 1 rfl (nI_in (show 28 < 36 by decide) (by decide)) (by decide) dX5_init_599 dX5_init_600 dX5_init_602 dX5_init_604 (by decide) (by decide) (fun H locs G => ?_)
  refine t_chb (k := 29) (i := 29) (x := 99) C0 G 1 rfl (nI_in (show 29 < 36 by decide) (by decide)) (by decide) dX5_init_605 dX5_init_606 dX5_init_608 dX5_init_610 (by decide) (by decide) (fun H locs G => ?_)
  refine t_chb (k := 30) (i := 30) (x := 104) C0 G 1 rfl (nI_in (show 30 < 36 by decide) (by decide)) (by decide) dX5_init_611 dX5_init_612 dX5_init_614 dX5_init_616 (by decide) (by decide) (fun H locs G => ?_)
  refine t_chb (k := 31) (i := 31) (x := 32) C0 G 1 rfl (nI_in (show 31 < 36 by decide) (by decide)) (by decide) dX5_init_617 dX5_init_618 dX5_init_620 dX5_init_622 (by decide) (by decide) (fun H locs G => ?_)
  refine t_chb (k := 32) (i := 32) (x := 32) C0 G 1 rfl (nI_in (show 32 < 36 by decide) (by decide)) (by decide) dX5_init_623 dX5_init_624 dX5_init_626 dX5_init_628 (by decide) (by decide) (fun H locs G => ?_)
  refine t_chb (k := 33) (i := 33) (x := 32) C0 G 1 rfl (nI_in (show 33 < 36 by decide) (by decide)) (by decide) dX5_init_629 dX5_init_630 dX5_init_632 dX5_init_634 (by decide) (by decide) (fun H locs G => ?_)
  refine t_chb (k := 34) (i := 34) (x := 32) C0 G 1 rfl (nI_in (show 34 < 36 by decide) (by decide)) (by decide) dX5_init_635 dX5_init_636 dX5_init_638 dX5_init_640 (by decide) (by decide) (fun H locs G => ?_)
  refine t_chb (k := 35) (i := 35) (x := 32) C0 G 1 rfl (nI_in (show 35 < 36 by decide) (by decide)) (by decide) dX5_init_641 dX5_init_642 dX5_init_644 dX5_init_646 (by decide) (by decide) (fun H locs G => ?_)
  refine kk H locs ?_
  exact GX.renl G ch_q8
set_option maxRecDepth 100000 in
theorem ch_q9 : ∀ j, j < 36 → (upd (upd (upd (upd (upd (upd (upd (upd (upd (upd (upd (upd (upd (upd (upd (upd (upd (upd (upd (upd (upd (upd (upd (upd (upd (upd (upd (upd (upd (upd (upd (upd (upd (upd (upd (upd (fun _ => 0) 0 (vp_nar .char 115)) 1 (vp_nar .char 97)) 2 (vp_nar .char 110)) 3 (vp_nar .char 100)) 4 (vp_nar .char 32)) 5 (vp_nar .char 32)) 6 (vp_nar .char 32)) 7 (vp_nar .char 32)) 8 (vp_nar .char 32)) 9 (vp_nar .char 115)) 10 (vp_nar .char 116)) 11 (vp_nar .char 111)) 12 (vp_nar .char 114)) 13 (vp_nar .char 101)) 14 (vp_nar .char 32)) 15 (vp_nar .char 32)) 16 (vp_nar .char 32)) 17 (vp_nar .char 32)) 18 (vp_nar .char 119)) 19 (vp_nar .char 105)) 20 (vp_nar .char 110)) 21 (vp_nar .char 100)) 22 (vp_nar .char 32)) 23 (vp_nar .char 32)) 24 (vp_nar .char 32)) 25 (vp_nar .char 32)) 26 (vp_nar .char 32)) 27 (vp_nar .char 119)) 28 (vp_nar .char 101)) 29 (vp_nar .char 116)) 30 (vp_nar .char 32)) 31 (vp_nar .char 32)) 32 (vp_nar .char 32)) 33 (vp_nar .char 32)) 34 (vp_nar .char 32)) 35 (vp_nar .char 32)) j = kOth j := by decide +kernel
set_option maxHeartbeats 4000000 in
set_option maxRecDepth 100000 in
theorem fill_q9 {X : XP} {D : va_G} {cI cC : ClassId} {p : Program} {l : Launch} {e : Env} {R : Room} {s : State} {m : MethodId} {args : Array Value} {below : List Frame} {meth : Method} {c : Code} {A : Nat → Prop} {Q : State → Prop} {kc ks a : Nat} {w : va_W} {H : Heap} {locs : List Loc} {ls : Array Slot} {rest : List Value} (C0 : CX X p s m args meth c cX5_init 2 none RX5 A) (G : GX X D (tyM cI cC) A s (w ++ [(a, .inl (cC, 36, .inl (fun _ => 0)))]) H locs) (kk : ∀ (H : Heap) (locs : List Loc), GX X D (tyM cI cC) A s (w ++ [(a, .inl (cC, 36, .inl kOth))]) H locs → W p l e R s m args below meth c H locs kc ks Q (F0 m 865 ls (.ref a :: rest))) : W p l e R s m args below meth c H locs kc ks Q (F0 m 655 ls (.ref a :: rest)) := by
  refine t_chc (k := 0) (i := 0) (x := 115) C0 G 1 rfl (nI_in (show 0 < 36 by decide) (by decide)) (by decide) dX5_init_655 dX5_init_656 dX5_init_657 dX5_init_659 (by decide) (by decide) (fun H locs G => ?_)
  refine t_chc (k := 1) (i := 1) (x := 97) C0 G 1 rfl (nI_in (show 1 < 36 by decide) (by decide)) (by decide) dX5_init_660 dX5_init_661 dX5_init_662 dX5_init_664 (by decide) (by decide) (fun H locs G => ?_)
  refine t_chc (k := 2) (i := 2) (x := 110) C0 G 1 rfl (nI_in (show 2 < 36 by decide) (by decide)) (by decide) dX5_init_665 dX5_init_666 dX5_init_667 dX5_init_669 (by decide) (by decide) (fun H locs G => ?_)
  refine t_chc (k := 3) (i := 3) (x := 100) C0 G 1 rfl (nI_in (show 3 < 36 by decide) (by decide)) (by decide) dX5_init_670 dX5_init_671 dX5_init_672 dX5_init_674 (by decide) (by decide) (fun H locs G => ?_)
  refine t_chc (k := 4) (i := 4) (x := 32) C0 G 1 rfl (nI_in (show 4 < 36 by decide) (by decide)) (by decide) dX5_init_675 dX5_init_676 dX5_init_677 dX5_init_679 (by decide) (by decide) (fun H locs G => ?_)
  refine t_chc (k := 5) (i := 5) (x := 32) C0 G 1 rfl (nI_in (show 5 < 36 by decide) (by decide)) (by decide) dX5_init_680 dX5_init_681 dX5_init_682 dX5_init_684 (by decide) (by decide) (fun H locs G => ?_)
  refine t_chb (k := 6) (i := 6) (x := 32) C0 G 1 rfl (nI_in (show 6 < 36 by decide) (by decide)) (by decide) dX5_init_685 dX5_init_686 dX5_init_688 dX5_init_690 (by decide) (by decide) (fun H locs G => ?_)
  refine t_chb (k := 7) (i := 7) (x := 32) C0 G 1 rfl (nI_in (show 7 < 36 by decide) (by decide)) (by decide) dX5_init_691 dX5_init_692 dX5_init_694 dX5_init_696 (by decide) (by decide) (fun H locs G => ?_)
  refine t_chb (k := 8) (i := 8) (x := 32) C0 G 1 rfl (nI_in (show 8 < 36 by decide) (by decide)) (by decide) dX5_init_697 dX5_init_698 dX5_init_700 dX5_init_702 (by decide) (by decide) (fun H locs G => ?_)
  refine t_chb (k := 9) (i := 9) (x := 115) C0 G 1 rfl (nI_in (show 9 < 36 by decide) (by decide)) (by decide) dX5_init_703 dX5_init_704 dX5_init_706 dX5_init_708 (by decide) (by decide) (fun H locs G => ?_)
  refine t_chb (k := 10) (i := 10) (x := 116) C0 G 1 rfl (nI_in (show 10 < 36 by decide) (by decide)) (by decide) dX5_init_709 dX5_init_710 dX5_init_712 dX5_init_714 (by decide) (by decide) (fun H locs G => ?_)
  refine t_chb (k := 11) (i := 11) (x := 111) C0 G 1 rfl (nI_in (show 11 < 36 by decide) (by decide)) (by decide) dX5_init_715 dX5_init_716 dX5_init_718 dX5_init_720 (by decide) (by decide) (fun H locs G => ?_)
  refine t_chb (k := 12) (i := 12) (x := 114) C0 G 1 rfl (nI_in (show 12 < 36 by decide) (by decide)) (by decide) dX5_init_721 dX5_init_722 dX5_init_724 dX5_init_726 (by decide) (by decide) (fun H locs G => ?_)
  refine t_chb (k := 13) (i := 13) (x := 101) C0 G 1 rfl (nI_in (show 13 < 36 by decide) (by decide)) (by decide) dX5_init_727 dX5_init_728 dX5_init_730 dX5_init_732 (by decide) (by decide) (fun H locs G => ?_)
  refine t_chb (k := 14) (i := 14) (x := 32) C0 G 1 rfl (nI_in (show 14 < 36 by decide) (by decide)) (by decide) dX5_init_733 dX5_init_734 dX5_init_736 dX5_init_738 (by decide) (by decide) (fun H locs G => ?_)
  refine t_chb (k := 15) (i := 15) (x := 32) C0 G 1 rfl (nI_in (show 15 < 36 by decide) (by decide)) (by decide) dX5_init_739 dX5_init_740 dX5_init_742 dX5_init_744 (by decide) (by decide) (fun H locs G => ?_)
  refine t_chb (k := 16) (i := 16) (x := 32) C0 G 1 rfl (nI_in (show 16 < 36 by decide) (by decide)) (by decide) dX5_init_745 dX5_init_746 dX5_init_748 dX5_init_750 (by decide) (by decide) (fun H locs G => ?_)
  refine t_chb (k := 17) (i := 17) (x := 32) C0 G 1 rfl (nI_in (show 17 < 36 by decide) (by decide)) (by decide) dX5_init_751 dX5_init_752 dX5_init_754 dX5_init_756 (by decide) (by decide) (fun H locs G => ?_)
  refine t_chb (k := 18) (i := 18) (x := 119) C0 G 1 rfl (nI_in (show 18 < 36 by decide) (by decide)) (by decide) dX5_init_757 dX5_init_758 dX5_init_760 dX5_init_762 (by decide) (by decide) (fun H locs G => ?_)
  refine t_chb (k := 19) (i := 19) (x := 105) C0 G 1 rfl (nI_in (show 19 < 36 by decide) (by decide)) (by decide) dX5_init_763 dX5_init_764 dX5_init_766 dX5_init_768 (by decide) (by decide) (fun H locs G => ?_)
  refine t_chb (k := 20) (i := 20) (x := 110) C0 G 1 rfl (nI_in (show 20 < 36 by decide) (by decide)) (by decide) dX5_init_769 dX5_init_770 dX5_init_772 dX5_init_774 (by decide) (by decide) (fun H locs G => ?_)
  refine t_chb (k := 21) (i := 21) (x := 100) C0 G 1 rfl (nI_in (show 21 < 36 by decide) (by decide)) (by decide) dX5_init_775 dX5_init_776 dX5_init_778 dX5_init_780 (by decide) (by decide) (fun H locs G => ?_)
  refine t_chb (k := 22) (i := 22) (x := 32) C0 G 1 rfl (nI_in (show 22 < 36 by decide) (by decide)) (by decide) dX5_init_781 dX5_init_782 dX5_init_784 dX5_init_786 (by decide) (by decide) (fun H locs G => ?_)
  refine t_chb (k := 23) (i := 23) (x := 32) C0 G 1 rfl (nI_in (show 23 < 36 by decide) (by decide)) (by decide) dX5_init_787 dX5_init_788 dX5_init_790 dX5_init_792 (by decide) (by decide) (fun H locs G => ?_)
  refine t_chb (k := 24) (i := 24) (x := 32) C0 G 1 rfl (nI_in (show 24 < 36 by decide) (by decide)) (by decide) dX5_init_793 dX5_init_794 dX5_init_796 dX5_init_798 (by decide) (by decide) (fun H locs G => ?_)
  refine t_chb (k := 25) (i := 25) (x := 32) C0 G 1 rfl (nI_in (show 25 < 36 by decide) (by decide)) (by decide) dX5_init_799 dX5_init_800 dX5_init_802 dX5_init_804 (by decide) (by decide) (fun H locs G => ?_)
  refine t_chb (k := 26) (i := 26) (x := 32) C0 G 1 rfl (nI_in (show 26 < 36 by decide) (by decide)) (by decide) dX5_init_805 dX5_init_806 dX5_init_808 dX5_init_810 (by decide) (by decide) (fun H locs G => ?_)
  refine t_chb (k := 27) (i := 27) (x := 119) C0 G 1 rfl (nI_in (show 27 < 36 by decide) (by decide)) (by decide) dX5_init_811 dX5_init_812 dX5_init_814 dX5_init_816 (by decide) (by decide) (fun H locs G => ?_)
  refine t_chb (k := 28) (i := 28) (x := 101) C0 G 1 rfl (nI_in (show 28 < 36 by decide) (by decide)) (by decide) dX5_init_817 dX5_init_818 dX5_init_820 dX5_init_822 (by decide) (by decide) (fun H locs G => ?_)
  refine t_chb (k := 29) (i := 29) (x := 116) C0 G 1 rfl (nI_in (show 29 < 36 by decide) (by decide)) (by decide) dX5_init_823 dX5_init_824 dX5_init_826 dX5_init_828 (by decide) (by decide) (fun H locs G => ?_)
  refine t_chb (k := 30) (i := 30) (x := 32) C0 G 1 rfl (nI_in (show 30 < 36 by decide) (by decide)) (by decide) dX5_init_829 dX5_init_830 dX5_init_832 dX5_init_834 (by decide) (by decide) (fun H locs G => ?_)
  refine t_chb (k := 31) (i := 31) (x := 32) C0 G 1 rfl (nI_in (show 31 < 36 by decide) (by decide)) (by decide) dX5_init_835 dX5_init_836 dX5_init_838 dX5_init_840 (by decide) (by decide) (fun H locs G => ?_)
  refine t_chb (k := 32) (i := 32) (x := 32) C0 G 1 rfl (nI_in (show 32 < 36 by decide) (by decide)) (by decide) dX5_init_841 dX5_init_842 dX5_init_844 dX5_init_846 (by decide) (by decide) (fun H locs G => ?_)
  refine t_chb (k := 33) (i := 33) (x := 32) C0 G 1 rfl (nI_in (show 33 < 36 by decide) (by decide)) (by decide) dX5_init_847 dX5_init_848 dX5_init_850 dX5_init_852 (by decide) (by decide) (fun H locs G => ?_)
  refine t_chb (k := 34) (i := 34) (x := 32) C0 G 1 rfl (nI_in (show 34 < 36 by decide) (by decide)) (by decide) dX5_init_853 dX5_init_854 dX5_init_856 dX5_init_858 (by decide) (by decide) (fun H locs G => ?_)
  refine t_chb (k := 35) (i := 35) (x := 32) C0 G 1 rfl (nI_in (show 35 < 36 by decide) (by decide)) (by decide) dX5_init_859 dX5_init_860 dX5_init_862 dX5_init_864 (by decide) (by decide) (fun H locs G => ?_)
  refine kk H locs ?_
  exact GX.renl G ch_q9
set_option maxHeartbeats 4000000 in
set_option maxRecDepth 100000 in
theorem mod_l1 {X : XP} {l : Launch} {D : va_G} {cI cC : ClassId} {p : Program} {e : Env} {R : Room} {s : State} {m : MethodId} {args : Array Value} {below : List Frame} {meth : Method} {c : Code} {A : Nat → Prop} {Q : State → Prop} {kc ks : Nat} {ad : Nat → Nat} (C0 : CX X p s m args meth c cX5_init 2 none RX5 A) (f0 : Nat → Int32) (kk : ∀ (f : Nat → Int32) (H : Heap) (locs : List Loc) (ls : Array Slot), (∀ j, j < 16 → f (6 + j) = 5) → (∀ j, (j < 6 ∨ 22 ≤ j) → f j = f0 j) → GX X D (tyM cI cC) A s (wM cI cC ad f (fun _ => 0) (fun _ => 0) 0 (fun _ => 0) 0 (fun _ => 0) (fun _ => 0) 0 0 0 0 0 (fun _ => 0) (fun _ => 0) (fun _ => 0) (fun _ => 0)) H locs → lv_has ls 2 [(1, .int (nI 16)), (0, .ref (ad 0))] → W p l e R s m args below meth c H locs kc ks Q (F0 m 952 ls [])) : ∀ (n i : Nat) (f : Nat → Int32) (H : Heap) (locs : List Loc) (ls : Array Slot), i + n = 16 → (∀ j, j < i → f (6 + j) = 5) → (∀ j, (j < 6 ∨ 22 ≤ j) → f j = f0 j) → GX X D (tyM cI cC) A s (wM cI cC ad f (fun _ => 0) (fun _ => 0) 0 (fun _ => 0) 0 (fun _ => 0) (fun _ => 0) 0 0 0 0 0 (fun _ => 0) (fun _ => 0) (fun _ => 0) (fun _ => 0)) H locs → lv_has ls 2 [(1, .int (nI i)), (0, .ref (ad 0))] → W p l e R s m args below meth c H locs kc ks Q (F0 m 930 ls []) := by
  have hx := C0.1
  have hb := C0.2.1
  intro n
  induction n with
  | zero =>
    intro i f H locs ls hi hf hg G hl
    obtain rfl : i = 16 := by omega
    refine lv_iload_n hx hb dX5_init_930 rfl (lv_at hl 0 rfl) ?_
    refine lv_bipush (v := nI 16) hx hb dX5_init_931 (by decide) ?_
    refine lv_icmp_ge (tgt := 952) hx hb dX5_init_933 (by decide) (fun _ => ?_) (fun hc1 => absurd (nI_le (Nat.le_refl 16) (by decide)) hc1)
    exact kk f H locs ls hf hg G hl
  | succ n ih =>
    intro i f H locs ls hi hf hg G hl
    refine lv_iload_n hx hb dX5_init_930 rfl (lv_at hl 0 rfl) ?_
    refine lv_bipush (v := nI 16) hx hb dX5_init_931 (by decide) ?_
    refine lv_icmp_ge (tgt := 952) hx hb dX5_init_933 (by decide) (fun hc1 => absurd hc1 (nI_ge (by omega) (by decide))) (fun _ => ?_)
    refine lv_aload_n hx hb dX5_init_936 rfl (lv_at hl 1 rfl) ?_
    refine t_get (C := RX5) (T := TX5) (N := 20) C0 G i_X5 0 0 rfl rfl (by decide) q713 rfl dX5_init_937 ?_
    refine lv_bipush (v := nI 6) hx hb dX5_init_940 (by decide) ?_
    refine lv_iload_n hx hb dX5_init_942 rfl (lv_at hl 0 rfl) ?_
    refine lv_iadd hx hb dX5_init_943 ?_
    refine lv_iconst (v := 5) hx hb dX5_init_944 (by decide) ?_
    refine t_iast (k := 6 + i) (w' := (wM cI cC ad (upd f (6 + i) 5) (fun _ => 0) (fun _ => 0) 0 (fun _ => 0) 0 (fun _ => 0) (fun _ => 0) 0 0 0 0 0 (fun _ => 0) (fun _ => 0) (fun _ => 0) (fun _ => 0))) C0 G 1 0 rfl rfl (by rw [nI_add]; exact nI_in (show 6 + i < 88 by omega) (by decide)) (by rw [nI_add]; exact nI_clamp (by omega)) rfl dX5_init_945 (fun H locs G => ?_)
    refine lv_iinc (v := nI (i + 1)) (lv' := [(1, .int (nI (i + 1))), (0, .ref (ad 0))]) hx hb dX5_init_946 hl (k := 0) rfl (nI_1 i) (by decide) rfl (fun ls hl => ?_)
    refine lv_goto (tgt := 930) hx hb dX5_init_949 (by decide) ?_
    refine ih (i + 1) _ H locs ls (by omega) (fun j hj => ?_) (fun j hj => ?_) G hl
    · by_cases q : j = i
      · subst q; rw [upd_s]
      · rw [upd_n (by omega)]; exact hf j (by omega)
    · rw [upd_n (by omega)]; exact hg j hj
set_option maxHeartbeats 4000000 in
set_option maxRecDepth 100000 in
theorem mod_l2 {X : XP} {l : Launch} {D : va_G} {cI cC : ClassId} {p : Program} {e : Env} {R : Room} {s : State} {m : MethodId} {args : Array Value} {below : List Frame} {meth : Method} {c : Code} {A : Nat → Prop} {Q : State → Prop} {kc ks : Nat} {ad : Nat → Nat} (C0 : CX X p s m args meth c cX5_init 2 none RX5 A) (f0 : Nat → Int32) (kk : ∀ (f : Nat → Int32) (H : Heap) (locs : List Loc) (ls : Array Slot), (∀ j, j < 10 → f (78 + j) = (-1)) → (∀ j, (j < 78 ∨ 88 ≤ j) → f j = f0 j) → GX X D (tyM cI cC) A s (wM cI cC ad f (fun _ => 0) (fun _ => 0) 0 (fun _ => 0) 0 (fun _ => 0) (fun _ => 0) 0 0 0 0 0 (fun _ => 0) (fun _ => 0) (fun _ => 0) (fun _ => 0)) H locs → lv_has ls 2 [(1, .int (nI 10)), (0, .ref (ad 0))] → W p l e R s m args below meth c H locs kc ks Q (F0 m 976 ls [])) : ∀ (n i : Nat) (f : Nat → Int32) (H : Heap) (locs : List Loc) (ls : Array Slot), i + n = 10 → (∀ j, j < i → f (78 + j) = (-1)) → (∀ j, (j < 78 ∨ 88 ≤ j) → f j = f0 j) → GX X D (tyM cI cC) A s (wM cI cC ad f (fun _ => 0) (fun _ => 0) 0 (fun _ => 0) 0 (fun _ => 0) (fun _ => 0) 0 0 0 0 0 (fun _ => 0) (fun _ => 0) (fun _ => 0) (fun _ => 0)) H locs → lv_has ls 2 [(1, .int (nI i)), (0, .ref (ad 0))] → W p l e R s m args below meth c H locs kc ks Q (F0 m 954 ls []) := by
  have hx := C0.1
  have hb := C0.2.1
  intro n
  induction n with
  | zero =>
    intro i f H locs ls hi hf hg G hl
    obtain rfl : i = 10 := by omega
    refine lv_iload_n hx hb dX5_init_954 rfl (lv_at hl 0 rfl) ?_
    refine lv_bipush (v := nI 10) hx hb dX5_init_955 (by decide) ?_
    refine lv_icmp_ge (tgt := 976) hx hb dX5_init_957 (by decide) (fun _ => ?_) (fun hc1 => absurd (nI_le (Nat.le_refl 10) (by decide)) hc1)
    exact kk f H locs ls hf hg G hl
  | succ n ih =>
    intro i f H locs ls hi hf hg G hl
    refine lv_iload_n hx hb dX5_init_954 rfl (lv_at hl 0 rfl) ?_
    refine lv_bipush (v := nI 10) hx hb dX5_init_955 (by decide) ?_
    refine lv_icmp_ge (tgt := 976) hx hb dX5_init_957 (by decide) (fun hc1 => absurd hc1 (nI_ge (by omega) (by decide))) (fun _ => ?_)
    refine lv_aload_n hx hb dX5_init_960 rfl (lv_at hl 1 rfl) ?_
    refine t_get (C := RX5) (T := TX5) (N := 20) C0 G i_X5 0 0 rfl rfl (by decide) q713 rfl dX5_init_961 ?_
    refine lv_bipush (v := nI 78) hx hb dX5_init_964 (by decide) ?_
    refine lv_iload_n hx hb dX5_init_966 rfl (lv_at hl 0 rfl) ?_
    refine lv_iadd hx hb dX5_init_967 ?_
    refine lv_iconst (v := (-1)) hx hb dX5_init_968 (by decide) ?_
    refine t_iast (k := 78 + i) (w' := (wM cI cC ad (upd f (78 + i) (-1)) (fun _ => 0) (fun _ => 0) 0 (fun _ => 0) 0 (fun _ => 0) (fun _ => 0) 0 0 0 0 0 (fun _ => 0) (fun _ => 0) (fun _ => 0) (fun _ => 0))) C0 G 1 0 rfl rfl (by rw [nI_add]; exact nI_in (show 78 + i < 88 by omega) (by decide)) (by rw [nI_add]; exact nI_clamp (by omega)) rfl dX5_init_969 (fun H locs G => ?_)
    refine lv_iinc (v := nI (i + 1)) (lv' := [(1, .int (nI (i + 1))), (0, .ref (ad 0))]) hx hb dX5_init_970 hl (k := 0) rfl (nI_1 i) (by decide) rfl (fun ls hl => ?_)
    refine lv_goto (tgt := 954) hx hb dX5_init_973 (by decide) ?_
    refine ih (i + 1) _ H locs ls (by omega) (fun j hj => ?_) (fun j hj => ?_) G hl
    · by_cases q : j = i
      · subst q; rw [upd_s]
      · rw [upd_n (by omega)]; exact hf j (by omega)
    · rw [upd_n (by omega)]; exact hg j hj
