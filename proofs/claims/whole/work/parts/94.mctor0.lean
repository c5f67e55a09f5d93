/-! the constructor of SandLedgerModel: its instructions -/
theorem dX5_init_0 : decode cX5_init 0 = .ok (.aload_n 0, 1) := by decide +kernel
theorem dX5_init_1 : decode cX5_init 1 = .ok (.invokespecial 1, 3) := by decide +kernel
theorem dX5_init_4 : decode cX5_init 4 = .ok (.aload_n 0, 1) := by decide +kernel
theorem dX5_init_5 : decode cX5_init 5 = .ok (.bipush 88, 2) := by decide +kernel
theorem dX5_init_7 : decode cX5_init 7 = .ok (.newarray .int, 2) := by decide +kernel
theorem dX5_init_9 : decode cX5_init 9 = .ok (.putfield 9, 3) := by decide +kernel
theorem dX5_init_12 : decode cX5_init 12 = .ok (.aload_n 0, 1) := by decide +kernel
theorem dX5_init_13 : decode cX5_init 13 = .ok (.bipush 88, 2) := by decide +kernel
theorem dX5_init_15 : decode cX5_init 15 = .ok (.newarray .int, 2) := by decide +kernel
theorem dX5_init_17 : decode cX5_init 17 = .ok (.putfield 13, 3) := by decide +kernel
theorem dX5_init_20 : decode cX5_init 20 = .ok (.aload_n 0, 1) := by decide +kernel
theorem dX5_init_21 : decode cX5_init 21 = .ok (.bipush 88, 2) := by decide +kernel
theorem dX5_init_23 : decode cX5_init 23 = .ok (.newarray .int, 2) := by decide +kernel
theorem dX5_init_25 : decode cX5_init 25 = .ok (.putfield 16, 3) := by decide +kernel
theorem dX5_init_28 : decode cX5_init 28 = .ok (.aload_n 0, 1) := by decide +kernel
theorem dX5_init_29 : decode cX5_init 29 = .ok (.bipush 7, 2) := by decide +kernel
theorem dX5_init_31 : decode cX5_init 31 = .ok (.newarray .int, 2) := by decide +kernel
theorem dX5_init_33 : decode cX5_init 33 = .ok (.putfield 19, 3) := by decide +kernel
theorem dX5_init_36 : decode cX5_init 36 = .ok (.aload_n 0, 1) := by decide +kernel
theorem dX5_init_37 : decode cX5_init 37 = .ok (.bipush 16, 2) := by decide +kernel
theorem dX5_init_39 : decode cX5_init 39 = .ok (.newarray .int, 2) := by decide +kernel
theorem dX5_init_41 : decode cX5_init 41 = .ok (.putfield 22, 3) := by decide +kernel
theorem dX5_init_44 : decode cX5_init 44 = .ok (.aload_n 0, 1) := by decide +kernel
theorem dX5_init_45 : decode cX5_init 45 = .ok (.bipush 120, 2) := by decide +kernel
theorem dX5_init_47 : decode cX5_init 47 = .ok (.newarray .int, 2) := by decide +kernel
theorem dX5_init_49 : decode cX5_init 49 = .ok (.putfield 25, 3) := by decide +kernel
theorem dX5_init_52 : decode cX5_init 52 = .ok (.aload_n 0, 1) := by decide +kernel
theorem dX5_init_53 : decode cX5_init 53 = .ok (.bipush 63, 2) := by decide +kernel
theorem dX5_init_55 : decode cX5_init 55 = .ok (.newarray .char, 2) := by decide +kernel
theorem dX5_init_57 : decode cX5_init 57 = .ok (.dup, 1) := by decide +kernel
theorem dX5_init_58 : decode cX5_init 58 = .ok (.iconst 0, 1) := by decide +kernel
theorem dX5_init_59 : decode cX5_init 59 = .ok (.bipush 118, 2) := by decide +kernel
theorem dX5_init_61 : decode cX5_init 61 = .ok (.castore, 1) := by decide +kernel
theorem dX5_init_62 : decode cX5_init 62 = .ok (.dup, 1) := by decide +kernel
theorem dX5_init_63 : decode cX5_init 63 = .ok (.iconst 1, 1) := by decide +kernel
theorem dX5_init_64 : decode cX5_init 64 = .ok (.bipush 105, 2) := by decide +kernel
theorem dX5_init_66 : decode cX5_init 66 = .ok (.castore, 1) := by decide +kernel
theorem dX5_init_67 : decode cX5_init 67 = .ok (.dup, 1) := by decide +kernel
theorem dX5_init_68 : decode cX5_init 68 = .ok (.iconst 2, 1) := by decide +kernel
theorem dX5_init_69 : decode cX5_init 69 = .ok (.bipush 115, 2) := by decide +kernel
theorem dX5_init_71 : decode cX5_init 71 = .ok (.castore, 1) := by decide +kernel
theorem dX5_init_72 : decode cX5_init 72 = .ok (.dup, 1) := by decide +kernel
theorem dX5_init_73 : decode cX5_init 73 = .ok (.iconst 3, 1) := by decide +kernel
theorem dX5_init_74 : decode cX5_init 74 = .ok (.bipush 105, 2) := by decide +kernel
theorem dX5_init_76 : decode cX5_init 76 = .ok (.castore, 1) := by decide +kernel
theorem dX5_init_77 : decode cX5_init 77 = .ok (.dup, 1) := by decide +kernel
theorem dX5_init_78 : decode cX5_init 78 = .ok (.iconst 4, 1) := by decide +kernel
theorem dX5_init_79 : decode cX5_init 79 = .ok (.bipush 116, 2) := by decide +kernel
theorem dX5_init_81 : decode cX5_init 81 = .ok (.castore, 1) := by decide +kernel
theorem dX5_init_82 : decode cX5_init 82 = .ok (.dup, 1) := by decide +kernel
theorem dX5_init_83 : decode cX5_init 83 = .ok (.iconst 5, 1) := by decide +kernel
theorem dX5_init_84 : decode cX5_init 84 = .ok (.bipush 111, 2) := by decide +kernel
theorem dX5_init_86 : decode cX5_init 86 = .ok (.castore, 1) := by decide +kernel
theorem dX5_init_87 : decode cX5_init 87 = .ok (.dup, 1) := by decide +kernel
theorem dX5_init_88 : decode cX5_init 88 = .ok (.bipush 6, 2) := by decide +kernel
theorem dX5_init_90 : decode cX5_init 90 = .ok (.bipush 114, 2) := by decide +kernel
theorem dX5_init_92 : decode cX5_init 92 = .ok (.castore, 1) := by decide +kernel
theorem dX5_init_93 : decode cX5_init 93 = .ok (.dup, 1) := by decide +kernel
theorem dX5_init_94 : decode cX5_init 94 = .ok (.bipush 7, 2) := by decide +kernel
theorem dX5_init_96 : decode cX5_init 96 = .ok (.bipush 32, 2) := by decide +kernel
theorem dX5_init_98 : decode cX5_init 98 = .ok (.castore, 1) := by decide +kernel
theorem dX5_init_99 : decode cX5_init 99 = .ok (.dup, 1) := by decide +kernel
theorem dX5_init_100 : decode cX5_init 100 = .ok (.bipush 8, 2) := by decide +kernel
theorem dX5_init_102 : decode cX5_init 102 = .ok (.bipush 32, 2) := by decide +kernel
theorem dX5_init_104 : decode cX5_init 104 = .ok (.castore, 1) := by decide +kernel
theorem dX5_init_105 : decode cX5_init 105 = .ok (.dup, 1) := by decide +kernel
theorem dX5_init_106 : decode cX5_init 106 = .ok (.bipush 9, 2) := by decide +kernel
theorem dX5_init_108 : decode cX5_init 108 = .ok (.bipush 99, 2) := by decide +kernel
theorem dX5_init_110 : decode cX5_init 110 = .ok (.castore, 1) := by decide +kernel
theorem dX5_init_111 : decode cX5_init 111 = .ok (.dup, 1) := by decide +kernel
theorem dX5_init_112 : decode cX5_init 112 = .ok (.bipush 10, 2) := by decide +kernel
theorem dX5_init_114 : decode cX5_init 114 = .ok (.bipush 104, 2) := by decide +kernel
theorem dX5_init_116 : decode cX5_init 116 = .ok (.castore, 1) := by decide +kernel
theorem dX5_init_117 : decode cX5_init 117 = .ok (.dup, 1) := by decide +kernel
theorem dX5_init_118 : decode cX5_init 118 = .ok (.bipush 11, 2) := by decide +kernel
theorem dX5_init_120 : decode cX5_init 120 = .ok (.bipush 105, 2) := by decide +kernel
theorem dX5_init_122 : decode cX5_init 122 = .ok (.castore, 1) := by decide +kernel
theorem dX5_init_123 : decode cX5_init 123 = .ok (.dup, 1) := by decide +kernel
theorem dX5_init_124 : decode cX5_init 124 = .ok (.bipush 12, 2) := by decide +kernel
theorem dX5_init_126 : decode cX5_init 126 = .ok (.bipush 108, 2) := by decide +kernel
theorem dX5_init_128 : decode cX5_init 128 = .ok (.castore, 1) := by decide +kernel
theorem dX5_init_129 : decode cX5_init 129 = .ok (.dup, 1) := by decide +kernel
theorem dX5_init_130 : decode cX5_init 130 = .ok (.bipush 13, 2) := by decide +kernel
theorem dX5_init_132 : decode cX5_init 132 = .ok (.bipush 100, 2) := by decide +kernel
theorem dX5_init_134 : decode cX5_init 134 = .ok (.castore, 1) := by decide +kernel
theorem dX5_init_135 : decode cX5_init 135 = .ok (.dup, 1) := by decide +kernel
theorem dX5_init_136 : decode cX5_init 136 = .ok (.bipush 14, 2) := by decide +kernel
theorem dX5_init_138 : decode cX5_init 138 = .ok (.bipush 32, 2) := by decide +kernel
theorem dX5_init_140 : decode cX5_init 140 = .ok (.castore, 1) := by decide +kernel
theorem dX5_init_141 : decode cX5_init 141 = .ok (.dup, 1) := by decide +kernel
theorem dX5_init_142 : decode cX5_init 142 = .ok (.bipush 15, 2) := by decide +kernel
theorem dX5_init_144 : decode cX5_init 144 = .ok (.bipush 32, 2) := by decide +kernel
theorem dX5_init_146 : decode cX5_init 146 = .ok (.castore, 1) := by decide +kernel
theorem dX5_init_147 : decode cX5_init 147 = .ok (.dup, 1) := by decide +kernel
theorem dX5_init_148 : decode cX5_init 148 = .ok (.bipush 16, 2) := by decide +kernel
theorem dX5_init_150 : decode cX5_init 150 = .ok (.bipush 32, 2) := by decide +kernel
theorem dX5_init_152 : decode cX5_init 152 = .ok (.castore, 1) := by decide +kernel
theorem dX5_init_153 : decode cX5_init 153 = .ok (.dup, 1) := by decide +kernel
theorem dX5_init_154 : decode cX5_init 154 = .ok (.bipush 17, 2) := by decide +kernel
theorem dX5_init_156 : decode cX5_init 156 = .ok (.bipush 32, 2) := by decide +kernel
theorem dX5_init_158 : decode cX5_init 158 = .ok (.castore, 1) := by decide +kernel
theorem dX5_init_159 : decode cX5_init 159 = .ok (.dup, 1) := by decide +kernel
theorem dX5_init_160 : decode cX5_init 160 = .ok (.bipush 18, 2) := by decide +kernel
theorem dX5_init_162 : decode cX5_init 162 = .ok (.bipush 108, 2) := by decide +kernel
theorem dX5_init_164 : decode cX5_init 164 = .ok (.castore, 1) := by decide +kernel
theorem dX5_init_165 : decode cX5_init 165 = .ok (.dup, 1) := by decide +kernel
theorem dX5_init_166 : decode cX5_init 166 = .ok (.bipush 19, 2) := by decide +kernel
theorem dX5_init_168 : decode cX5_init 168 = .ok (.bipush 111, 2) := by decide +kernel
theorem dX5_init_170 : decode cX5_init 170 = .ok (.castore, 1) := by decide +kernel
theorem dX5_init_171 : decode cX5_init 171 = .ok (.dup, 1) := by decide +kernel
theorem dX5_init_172 : decode cX5_init 172 = .ok (.bipush 20, 2) := by decide +kernel
theorem dX5_init_174 : decode cX5_init 174 = .ok (.bipush 118, 2) := by decide +kernel
theorem dX5_init_176 : decode cX5_init 176 = .ok (.castore, 1) := by decide +kernel
theorem dX5_init_177 : decode cX5_init 177 = .ok (.dup, 1) := by decide +kernel
theorem dX5_init_178 : decode cX5_init 178 = .ok (.bipush 21, 2) := by decide +kernel
theorem dX5_init_180 : decode cX5_init 180 = .ok (.bipush 101, 2) := by decide +kernel
theorem dX5_init_182 : decode cX5_init 182 = .ok (.castore, 1) := by decide +kernel
theorem dX5_init_183 : decode cX5_init 183 = .ok (.dup, 1) := by decide +kernel
theorem dX5_init_184 : decode cX5_init 184 = .ok (.bipush 22, 2) := by decide +kernel
theorem dX5_init_186 : decode cX5_init 186 = .ok (.bipush 114, 2) := by decide +kernel
theorem dX5_init_188 : decode cX5_init 188 = .ok (.castore, 1) := by decide +kernel
theorem dX5_init_189 : decode cX5_init 189 = .ok (.dup, 1) := by decide +kernel
theorem dX5_init_190 : decode cX5_init 190 = .ok (.bipush 23, 2) := by decide +kernel
theorem dX5_init_192 : decode cX5_init 192 = .ok (.bipush 32, 2) := by decide +kernel
theorem dX5_init_194 : decode cX5_init 194 = .ok (.castore, 1) := by decide +kernel
theorem dX5_init_195 : decode cX5_init 195 = .ok (.dup, 1) := by decide +kernel
theorem dX5_init_196 : decode cX5_init 196 = .ok (.bipush 24, 2) := by decide +kernel
theorem dX5_init_198 : decode cX5_init 198 = .ok (.bipush 32, 2) := by decide +kernel
theorem dX5_init_200 : decode cX5_init 200 = .ok (.castore, 1) := by decide +kernel
theorem dX5_init_201 : decode cX5_init 201 = .ok (.dup, 1) := by decide +kernel
theorem dX5_init_202 : decode cX5_init 202 = .ok (.bipush 25, 2) := by decide +kernel
theorem dX5_init_204 : decode cX5_init 204 = .ok (.bipush 32, 2) := by decide +kernel
theorem dX5_init_206 : decode cX5_init 206 = .ok (.castore, 1) := by decide +kernel
theorem dX5_init_207 : decode cX5_init 207 = .ok (.dup, 1) := by decide +kernel
theorem dX5_init_208 : decode cX5_init 208 = .ok (.bipush 26, 2) := by decide +kernel
theorem dX5_init_210 : decode cX5_init 210 = .ok (.bipush 32, 2) := by decide +kernel
theorem dX5_init_212 : decode cX5_init 212 = .ok (.castore, 1) := by decide +kernel
theorem dX5_init_213 : decode cX5_init 213 = .ok (.dup, 1) := by decide +kernel
theorem dX5_init_214 : decode cX5_init 214 = .ok (.bipush 27, 2) := by decide +kernel
theorem dX5_init_216 : decode cX5_init 216 = .ok (.bipush 98, 2) := by decide +kernel
theorem dX5_init_218 : decode cX5_init 218 = .ok (.castore, 1) := by decide +kernel
theorem dX5_init_219 : decode cX5_init 219 = .ok (.dup, 1) := by decide +kernel
theorem dX5_init_220 : decode cX5_init 220 = .ok (.bipush 28, 2) := by decide +kernel
theorem dX5_init_222 : decode cX5_init 222 = .ok (.bipush 111, 2) := by decide +kernel
theorem dX5_init_224 : decode cX5_init 224 = .ok (.castore, 1) := by decide +kernel
theorem dX5_init_225 : decode cX5_init 225 = .ok (.dup, 1) := by decide +kernel
theorem dX5_init_226 : decode cX5_init 226 = .ok (.bipush 29, 2) := by decide +kernel
theorem dX5_init_228 : decode cX5_init 228 = .ok (.bipush 121, 2) := by decide +kernel
theorem dX5_init_230 : decode cX5_init 230 = .ok (.castore, 1) := by decide +kernel
theorem dX5_init_231 : decode cX5_init 231 = .ok (.dup, 1) := by decide +kernel
theorem dX5_init_232 : decode cX5_init 232 = .ok (.bipush 30, 2) := by decide +kernel
theorem dX5_init_234 : decode cX5_init 234 = .ok (.bipush 32, 2) := by decide +kernel
theorem dX5_init_236 : decode cX5_init 236 = .ok (.castore, 1) := by decide +kernel
theorem dX5_init_237 : decode cX5_init 237 = .ok (.dup, 1) := by decide +kernel
theorem dX5_init_238 : decode cX5_init 238 = .ok (.bipush 31, 2) := by decide +kernel
theorem dX5_init_240 : decode cX5_init 240 = .ok (.bipush 32, 2) := by decide +kernel
theorem dX5_init_242 : decode cX5_init 242 = .ok (.castore, 1) := by decide +kernel
theorem dX5_init_243 : decode cX5_init 243 = .ok (.dup, 1) := by decide +kernel
theorem dX5_init_244 : decode cX5_init 244 = .ok (.bipush 32, 2) := by decide +kernel
theorem dX5_init_246 : decode cX5_init 246 = .ok (.bipush 32, 2) := by decide +kernel
theorem dX5_init_248 : decode cX5_init 248 = .ok (.castore, 1) := by decide +kernel
theorem dX5_init_249 : decode cX5_init 249 = .ok (.dup, 1) := by decide +kernel
theorem dX5_init_250 : decode cX5_init 250 = .ok (.bipush 33, 2) := by decide +kernel
theorem dX5_init_252 : decode cX5_init 252 = .ok (.bipush 32, 2) := by decide +kernel
theorem dX5_init_254 : decode cX5_init 254 = .ok (.castore, 1) := by decide +kernel
theorem dX5_init_255 : decode cX5_init 255 = .ok (.dup, 1) := by decide +kernel
theorem dX5_init_256 : decode cX5_init 256 = .ok (.bipush 34, 2) := by decide +kernel
theorem dX5_init_258 : decode cX5_init 258 = .ok (.bipush 32, 2) := by decide +kernel
theorem dX5_init_260 : decode cX5_init 260 = .ok (.castore, 1) := by decide +kernel
theorem dX5_init_261 : decode cX5_init 261 = .ok (.dup, 1) := by decide +kernel
theorem dX5_init_262 : decode cX5_init 262 = .ok (.bipush 35, 2) := by decide +kernel
theorem dX5_init_264 : decode cX5_init 264 = .ok (.bipush 32, 2) := by decide +kernel
theorem dX5_init_266 : decode cX5_init 266 = .ok (.castore, 1) := by decide +kernel
theorem dX5_init_267 : decode cX5_init 267 = .ok (.dup, 1) := by decide +kernel
theorem dX5_init_268 : decode cX5_init 268 = .ok (.bipush 36, 2) := by decide +kernel
theorem dX5_init_270 : decode cX5_init 270 = .ok (.bipush 100, 2) := by decide +kernel
theorem dX5_init_272 : decode cX5_init 272 = .ok (.castore, 1) := by decide +kernel
theorem dX5_init_273 : decode cX5_init 273 = .ok (.dup, 1) := by decide +kernel
theorem dX5_init_274 : decode cX5_init 274 = .ok (.bipush 37, 2) := by decide +kernel
theorem dX5_init_276 : decode cX5_init 276 = .ok (.bipush 105, 2) := by decide +kernel
theorem dX5_init_278 : decode cX5_init 278 = .ok (.castore, 1) := by decide +kernel
theorem dX5_init_279 : decode cX5_init 279 = .ok (.dup, 1) := by decide +kernel
theorem dX5_init_280 : decode cX5_init 280 = .ok (.bipush 38, 2) := by decide +kernel
theorem dX5_init_282 : decode cX5_init 282 = .ok (.bipush 103, 2) := by decide +kernel
theorem dX5_init_284 : decode cX5_init 284 = .ok (.castore, 1) := by decide +kernel
theorem dX5_init_285 : decode cX5_init 285 = .ok (.dup, 1) := by decide +kernel
theorem dX5_init_286 : decode cX5_init 286 = .ok (.bipush 39, 2) := by decide +kernel
theorem dX5_init_288 : decode cX5_init 288 = .ok (.bipush 103, 2) := by decide +kernel
theorem dX5_init_290 : decode cX5_init 290 = .ok (.castore, 1) := by decide +kernel
theorem dX5_init_291 : decode cX5_init 291 = .ok (.dup, 1) := by decide +kernel
theorem dX5_init_292 : decode cX5_init 292 = .ok (.bipush 40, 2) := by decide +kernel
theorem dX5_init_294 : decode cX5_init 294 = .ok (.bipush 101, 2) := by decide +kernel
theorem dX5_init_296 : decode cX5_init 296 = .ok (.castore, 1) := by decide +kernel
theorem dX5_init_297 : decode cX5_init 297 = .ok (.dup, 1) := by decide +kernel
theorem dX5_init_298 : decode cX5_init 298 = .ok (.bipush 41, 2) := by decide +kernel
theorem dX5_init_300 : decode cX5_init 300 = .ok (.bipush 114, 2) := by decide +kernel
theorem dX5_init_302 : decode cX5_init 302 = .ok (.castore, 1) := by decide +kernel
theorem dX5_init_303 : decode cX5_init 303 = .ok (.dup, 1) := by decide +kernel
theorem dX5_init_304 : decode cX5_init 304 = .ok (.bipush 42, 2) := by decide +kernel
theorem dX5_init_306 : decode cX5_init 306 = .ok (.bipush 32, 2) := by decide +kernel
theorem dX5_init_308 : decode cX5_init 308 = .ok (.castore, 1) := by decide +kernel
theorem dX5_init_309 : decode cX5_init 309 = .ok (.dup, 1) := by decide +kernel
theorem dX5_init_310 : decode cX5_init 310 = .ok (.bipush 43, 2) := by decide +kernel
theorem dX5_init_312 : decode cX5_init 312 = .ok (.bipush 32, 2) := by decide +kernel
theorem dX5_init_314 : decode cX5_init 314 = .ok (.castore, 1) := by decide +kernel
theorem dX5_init_315 : decode cX5_init 315 = .ok (.dup, 1) := by decide +kernel
theorem dX5_init_316 : decode cX5_init 316 = .ok (.bipush 44, 2) := by decide +kernel
theorem dX5_init_318 : decode cX5_init 318 = .ok (.bipush 32, 2) := by decide +kernel
theorem dX5_init_320 : decode cX5_init 320 = .ok (.castore, 1) := by decide +kernel
theorem dX5_init_321 : decode cX5_init 321 = .ok (.dup, 1) := by decide +kernel
theorem dX5_init_322 : decode cX5_init 322 = .ok (.bipush 45, 2) := by decide +kernel
theorem dX5_init_324 : decode cX5_init 324 = .ok (.bipush 116, 2) := by decide +kernel
theorem dX5_init_326 : decode cX5_init 326 = .ok (.castore, 1) := by decide +kernel
theorem dX5_init_327 : decode cX5_init 327 = .ok (.dup, 1) := by decide +kernel
theorem dX5_init_328 : decode cX5_init 328 = .ok (.bipush 46, 2) := by decide +kernel
theorem dX5_init_330 : decode cX5_init 330 = .ok (.bipush 114, 2) := by decide +kernel
theorem dX5_init_332 : decode cX5_init 332 = .ok (.castore, 1) := by decide +kernel
theorem dX5_init_333 : decode cX5_init 333 = .ok (.dup, 1) := by decide +kernel
theorem dX5_init_334 : decode cX5_init 334 = .ok (.bipush 47, 2) := by decide +kernel
theorem dX5_init_336 : decode cX5_init 336 = .ok (.bipush 97, 2) := by decide +kernel
theorem dX5_init_338 : decode cX5_init 338 = .ok (.castore, 1) := by decide +kernel
theorem dX5_init_339 : decode cX5_init 339 = .ok (.dup, 1) := by decide +kernel
theorem dX5_init_340 : decode cX5_init 340 = .ok (.bipush 48, 2) := by decide +kernel
theorem dX5_init_342 : decode cX5_init 342 = .ok (.bipush 118, 2) := by decide +kernel
theorem dX5_init_344 : decode cX5_init 344 = .ok (.castore, 1) := by decide +kernel
theorem dX5_init_345 : decode cX5_init 345 = .ok (.dup, 1) := by decide +kernel
theorem dX5_init_346 : decode cX5_init 346 = .ok (.bipush 49, 2) := by decide +kernel
theorem dX5_init_348 : decode cX5_init 348 = .ok (.bipush 101, 2) := by decide +kernel
theorem dX5_init_350 : decode cX5_init 350 = .ok (.castore, 1) := by decide +kernel
theorem dX5_init_351 : decode cX5_init 351 = .ok (.dup, 1) := by decide +kernel
theorem dX5_init_352 : decode cX5_init 352 = .ok (.bipush 50, 2) := by decide +kernel
theorem dX5_init_354 : decode cX5_init 354 = .ok (.bipush 108, 2) := by decide +kernel
theorem dX5_init_356 : decode cX5_init 356 = .ok (.castore, 1) := by decide +kernel
theorem dX5_init_357 : decode cX5_init 357 = .ok (.dup, 1) := by decide +kernel
theorem dX5_init_358 : decode cX5_init 358 = .ok (.bipush 51, 2) := by decide +kernel
theorem dX5_init_360 : decode cX5_init 360 = .ok (.bipush 108, 2) := by decide +kernel
theorem dX5_init_362 : decode cX5_init 362 = .ok (.castore, 1) := by decide +kernel
theorem dX5_init_363 : decode cX5_init 363 = .ok (.dup, 1) := by decide +kernel
theorem dX5_init_364 : decode cX5_init 364 = .ok (.bipush 52, 2) := by decide +kernel
theorem dX5_init_366 : decode cX5_init 366 = .ok (.bipush 101, 2) := by decide +kernel
theorem dX5_init_368 : decode cX5_init 368 = .ok (.castore, 1) := by decide +kernel
theorem dX5_init_369 : decode cX5_init 369 = .ok (.dup, 1) := by decide +kernel
theorem dX5_init_370 : decode cX5_init 370 = .ok (.bipush 53, 2) := by decide +kernel
theorem dX5_init_372 : decode cX5_init 372 = .ok (.bipush 114, 2) := by decide +kernel
theorem dX5_init_374 : decode cX5_init 374 = .ok (.castore, 1) := by decide +kernel
theorem dX5_init_375 : decode cX5_init 375 = .ok (.dup, 1) := by decide +kernel
theorem dX5_init_376 : decode cX5_init 376 = .ok (.bipush 54, 2) := by decide +kernel
theorem dX5_init_378 : decode cX5_init 378 = .ok (.bipush 98, 2) := by decide +kernel
theorem dX5_init_380 : decode cX5_init 380 = .ok (.castore, 1) := by decide +kernel
theorem dX5_init_381 : decode cX5_init 381 = .ok (.dup, 1) := by decide +kernel
theorem dX5_init_382 : decode cX5_init 382 = .ok (.bipush 55, 2) := by decide +kernel
theorem dX5_init_384 : decode cX5_init 384 = .ok (.bipush 114, 2) := by decide +kernel
theorem dX5_init_386 : decode cX5_init 386 = .ok (.castore, 1) := by decide +kernel
theorem dX5_init_387 : decode cX5_init 387 = .ok (.dup, 1) := by decide +kernel
theorem dX5_init_388 : decode cX5_init 388 = .ok (.bipush 56, 2) := by decide +kernel
theorem dX5_init_390 : decode cX5_init 390 = .ok (.bipush 105, 2) := by decide +kernel
theorem dX5_init_392 : decode cX5_init 392 = .ok (.castore, 1) := by decide +kernel
theorem dX5_init_393 : decode cX5_init 393 = .ok (.dup, 1) := by decide +kernel
theorem dX5_init_394 : decode cX5_init 394 = .ok (.bipush 57, 2) := by decide +kernel
theorem dX5_init_396 : decode cX5_init 396 = .ok (.bipush 100, 2) := by decide +kernel
theorem dX5_init_398 : decode cX5_init 398 = .ok (.castore, 1) := by decide +kernel
theorem dX5_init_399 : decode cX5_init 399 = .ok (.dup, 1) := by decide +kernel
theorem dX5_init_400 : decode cX5_init 400 = .ok (.bipush 58, 2) := by decide +kernel
theorem dX5_init_402 : decode cX5_init 402 = .ok (.bipush 101, 2) := by decide +kernel
theorem dX5_init_404 : decode cX5_init 404 = .ok (.castore, 1) := by decide +kernel
theorem dX5_init_405 : decode cX5_init 405 = .ok (.dup, 1) := by decide +kernel
theorem dX5_init_406 : decode cX5_init 406 = .ok (.bipush 59, 2) := by decide +kernel
theorem dX5_init_408 : decode cX5_init 408 = .ok (.bipush 32, 2) := by decide +kernel
theorem dX5_init_410 : decode cX5_init 410 = .ok (.castore, 1) := by decide +kernel
theorem dX5_init_411 : decode cX5_init 411 = .ok (.dup, 1) := by decide +kernel
theorem dX5_init_412 : decode cX5_init 412 = .ok (.bipush 60, 2) := by decide +kernel
theorem dX5_init_414 : decode cX5_init 414 = .ok (.bipush 32, 2) := by decide +kernel
theorem dX5_init_416 : decode cX5_init 416 = .ok (.castore, 1) := by decide +kernel
theorem dX5_init_417 : decode cX5_init 417 = .ok (.dup, 1) := by decide +kernel
theorem dX5_init_418 : decode cX5_init 418 = .ok (.bipush 61, 2) := by decide +kernel
theorem dX5_init_420 : decode cX5_init 420 = .ok (.bipush 32, 2) := by decide +kernel
theorem dX5_init_422 : decode cX5_init 422 = .ok (.castore, 1) := by decide +kernel
theorem dX5_init_423 : decode cX5_init 423 = .ok (.dup, 1) := by decide +kernel
theorem dX5_init_424 : decode cX5_init 424 = .ok (.bipush 62, 2) := by decide +kernel
theorem dX5_init_426 : decode cX5_init 426 = .ok (.bipush 32, 2) := by decide +kernel
theorem dX5_init_428 : decode cX5_init 428 = .ok (.castore, 1) := by decide +kernel
theorem dX5_init_429 : decode cX5_init 429 = .ok (.putfield 28, 3) := by decide +kernel
