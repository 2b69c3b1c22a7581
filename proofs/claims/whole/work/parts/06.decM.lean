theorem dX8_init_0 : decode cX8_init 0 = .ok (.aload_n 0, 1) := by decide +kernel
theorem dX8_init_1 : decode cX8_init 1 = .ok (.invokespecial 1, 3) := by decide +kernel
theorem dX8_init_4 : decode cX8_init 4 = .ok (.aload_n 0, 1) := by decide +kernel
theorem dX8_init_5 : decode cX8_init 5 = .ok (.bipush 60, 2) := by decide +kernel
theorem dX8_init_7 : decode cX8_init 7 = .ok (.newarray .char, 2) := by decide +kernel
theorem dX8_init_9 : decode cX8_init 9 = .ok (.putfield 7, 3) := by decide +kernel
theorem dX8_init_12 : decode cX8_init 12 = .ok (.aload_n 0, 1) := by decide +kernel
theorem dX8_init_13 : decode cX8_init 13 = .ok (.bipush 6, 2) := by decide +kernel
theorem dX8_init_15 : decode cX8_init 15 = .ok (.newarray .char, 2) := by decide +kernel
theorem dX8_init_17 : decode cX8_init 17 = .ok (.dup, 1) := by decide +kernel
theorem dX8_init_18 : decode cX8_init 18 = .ok (.iconst 0, 1) := by decide +kernel
theorem dX8_init_19 : decode cX8_init 19 = .ok (.bipush 83, 2) := by decide +kernel
theorem dX8_init_21 : decode cX8_init 21 = .ok (.castore, 1) := by decide +kernel
theorem dX8_init_22 : decode cX8_init 22 = .ok (.dup, 1) := by decide +kernel
theorem dX8_init_23 : decode cX8_init 23 = .ok (.iconst 1, 1) := by decide +kernel
theorem dX8_init_24 : decode cX8_init 24 = .ok (.bipush 67, 2) := by decide +kernel
theorem dX8_init_26 : decode cX8_init 26 = .ok (.castore, 1) := by decide +kernel
theorem dX8_init_27 : decode cX8_init 27 = .ok (.dup, 1) := by decide +kernel
theorem dX8_init_28 : decode cX8_init 28 = .ok (.iconst 2, 1) := by decide +kernel
theorem dX8_init_29 : decode cX8_init 29 = .ok (.bipush 70, 2) := by decide +kernel
theorem dX8_init_31 : decode cX8_init 31 = .ok (.castore, 1) := by decide +kernel
theorem dX8_init_32 : decode cX8_init 32 = .ok (.dup, 1) := by decide +kernel
theorem dX8_init_33 : decode cX8_init 33 = .ok (.iconst 3, 1) := by decide +kernel
theorem dX8_init_34 : decode cX8_init 34 = .ok (.bipush 84, 2) := by decide +kernel
theorem dX8_init_36 : decode cX8_init 36 = .ok (.castore, 1) := by decide +kernel
theorem dX8_init_37 : decode cX8_init 37 = .ok (.dup, 1) := by decide +kernel
theorem dX8_init_38 : decode cX8_init 38 = .ok (.iconst 4, 1) := by decide +kernel
theorem dX8_init_39 : decode cX8_init 39 = .ok (.bipush 87, 2) := by decide +kernel
theorem dX8_init_41 : decode cX8_init 41 = .ok (.castore, 1) := by decide +kernel
theorem dX8_init_42 : decode cX8_init 42 = .ok (.dup, 1) := by decide +kernel
theorem dX8_init_43 : decode cX8_init 43 = .ok (.iconst 5, 1) := by decide +kernel
theorem dX8_init_44 : decode cX8_init 44 = .ok (.bipush 88, 2) := by decide +kernel
theorem dX8_init_46 : decode cX8_init 46 = .ok (.castore, 1) := by decide +kernel
theorem dX8_init_47 : decode cX8_init 47 = .ok (.putfield 13, 3) := by decide +kernel
theorem dX8_init_50 : decode cX8_init 50 = .ok (.aload_n 0, 1) := by decide +kernel
theorem dX8_init_51 : decode cX8_init 51 = .ok (.bipush 24, 2) := by decide +kernel
theorem dX8_init_53 : decode cX8_init 53 = .ok (.newarray .char, 2) := by decide +kernel
theorem dX8_init_55 : decode cX8_init 55 = .ok (.dup, 1) := by decide +kernel
theorem dX8_init_56 : decode cX8_init 56 = .ok (.iconst 0, 1) := by decide +kernel
theorem dX8_init_57 : decode cX8_init 57 = .ok (.bipush 85, 2) := by decide +kernel
theorem dX8_init_59 : decode cX8_init 59 = .ok (.castore, 1) := by decide +kernel
theorem dX8_init_60 : decode cX8_init 60 = .ok (.dup, 1) := by decide +kernel
theorem dX8_init_61 : decode cX8_init 61 = .ok (.iconst 1, 1) := by decide +kernel
theorem dX8_init_62 : decode cX8_init 62 = .ok (.bipush 78, 2) := by decide +kernel
theorem dX8_init_64 : decode cX8_init 64 = .ok (.castore, 1) := by decide +kernel
theorem dX8_init_65 : decode cX8_init 65 = .ok (.dup, 1) := by decide +kernel
theorem dX8_init_66 : decode cX8_init 66 = .ok (.iconst 2, 1) := by decide +kernel
theorem dX8_init_67 : decode cX8_init 67 = .ok (.bipush 75, 2) := by decide +kernel
theorem dX8_init_69 : decode cX8_init 69 = .ok (.castore, 1) := by decide +kernel
theorem dX8_init_70 : decode cX8_init 70 = .ok (.dup, 1) := by decide +kernel
theorem dX8_init_71 : decode cX8_init 71 = .ok (.iconst 3, 1) := by decide +kernel
theorem dX8_init_72 : decode cX8_init 72 = .ok (.bipush 78, 2) := by decide +kernel
theorem dX8_init_74 : decode cX8_init 74 = .ok (.castore, 1) := by decide +kernel
theorem dX8_init_75 : decode cX8_init 75 = .ok (.dup, 1) := by decide +kernel
theorem dX8_init_76 : decode cX8_init 76 = .ok (.iconst 4, 1) := by decide +kernel
theorem dX8_init_77 : decode cX8_init 77 = .ok (.bipush 79, 2) := by decide +kernel
theorem dX8_init_79 : decode cX8_init 79 = .ok (.castore, 1) := by decide +kernel
theorem dX8_init_80 : decode cX8_init 80 = .ok (.dup, 1) := by decide +kernel
theorem dX8_init_81 : decode cX8_init 81 = .ok (.iconst 5, 1) := by decide +kernel
theorem dX8_init_82 : decode cX8_init 82 = .ok (.bipush 87, 2) := by decide +kernel
theorem dX8_init_84 : decode cX8_init 84 = .ok (.castore, 1) := by decide +kernel
theorem dX8_init_85 : decode cX8_init 85 = .ok (.dup, 1) := by decide +kernel
theorem dX8_init_86 : decode cX8_init 86 = .ok (.bipush 6, 2) := by decide +kernel
theorem dX8_init_88 : decode cX8_init 88 = .ok (.bipush 78, 2) := by decide +kernel
theorem dX8_init_90 : decode cX8_init 90 = .ok (.castore, 1) := by decide +kernel
theorem dX8_init_91 : decode cX8_init 91 = .ok (.dup, 1) := by decide +kernel
theorem dX8_init_92 : decode cX8_init 92 = .ok (.bipush 7, 2) := by decide +kernel
theorem dX8_init_94 : decode cX8_init 94 = .ok (.bipush 68, 2) := by decide +kernel
theorem dX8_init_96 : decode cX8_init 96 = .ok (.castore, 1) := by decide +kernel
theorem dX8_init_97 : decode cX8_init 97 = .ok (.dup, 1) := by decide +kernel
theorem dX8_init_98 : decode cX8_init 98 = .ok (.bipush 8, 2) := by decide +kernel
theorem dX8_init_100 : decode cX8_init 100 = .ok (.bipush 79, 2) := by decide +kernel
theorem dX8_init_102 : decode cX8_init 102 = .ok (.castore, 1) := by decide +kernel
theorem dX8_init_103 : decode cX8_init 103 = .ok (.dup, 1) := by decide +kernel
theorem dX8_init_104 : decode cX8_init 104 = .ok (.bipush 9, 2) := by decide +kernel
theorem dX8_init_106 : decode cX8_init 106 = .ok (.bipush 85, 2) := by decide +kernel
theorem dX8_init_108 : decode cX8_init 108 = .ok (.castore, 1) := by decide +kernel
theorem dX8_init_109 : decode cX8_init 109 = .ok (.dup, 1) := by decide +kernel
theorem dX8_init_110 : decode cX8_init 110 = .ok (.bipush 10, 2) := by decide +kernel
theorem dX8_init_112 : decode cX8_init 112 = .ok (.bipush 66, 2) := by decide +kernel
theorem dX8_init_114 : decode cX8_init 114 = .ok (.castore, 1) := by decide +kernel
theorem dX8_init_115 : decode cX8_init 115 = .ok (.dup, 1) := by decide +kernel
theorem dX8_init_116 : decode cX8_init 116 = .ok (.bipush 11, 2) := by decide +kernel
theorem dX8_init_118 : decode cX8_init 118 = .ok (.bipush 76, 2) := by decide +kernel
theorem dX8_init_120 : decode cX8_init 120 = .ok (.castore, 1) := by decide +kernel
theorem dX8_init_121 : decode cX8_init 121 = .ok (.dup, 1) := by decide +kernel
theorem dX8_init_122 : decode cX8_init 122 = .ok (.bipush 12, 2) := by decide +kernel
theorem dX8_init_124 : decode cX8_init 124 = .ok (.bipush 69, 2) := by decide +kernel
theorem dX8_init_126 : decode cX8_init 126 = .ok (.castore, 1) := by decide +kernel
theorem dX8_init_127 : decode cX8_init 127 = .ok (.dup, 1) := by decide +kernel
theorem dX8_init_128 : decode cX8_init 128 = .ok (.bipush 13, 2) := by decide +kernel
theorem dX8_init_130 : decode cX8_init 130 = .ok (.bipush 68, 2) := by decide +kernel
theorem dX8_init_132 : decode cX8_init 132 = .ok (.castore, 1) := by decide +kernel
theorem dX8_init_133 : decode cX8_init 133 = .ok (.dup, 1) := by decide +kernel
theorem dX8_init_134 : decode cX8_init 134 = .ok (.bipush 14, 2) := by decide +kernel
theorem dX8_init_136 : decode cX8_init 136 = .ok (.bipush 66, 2) := by decide +kernel
theorem dX8_init_138 : decode cX8_init 138 = .ok (.castore, 1) := by decide +kernel
theorem dX8_init_139 : decode cX8_init 139 = .ok (.dup, 1) := by decide +kernel
theorem dX8_init_140 : decode cX8_init 140 = .ok (.bipush 15, 2) := by decide +kernel
theorem dX8_init_142 : decode cX8_init 142 = .ok (.bipush 65, 2) := by decide +kernel
theorem dX8_init_144 : decode cX8_init 144 = .ok (.castore, 1) := by decide +kernel
theorem dX8_init_145 : decode cX8_init 145 = .ok (.dup, 1) := by decide +kernel
theorem dX8_init_146 : decode cX8_init 146 = .ok (.bipush 16, 2) := by decide +kernel
theorem dX8_init_148 : decode cX8_init 148 = .ok (.bipush 68, 2) := by decide +kernel
theorem dX8_init_150 : decode cX8_init 150 = .ok (.castore, 1) := by decide +kernel
theorem dX8_init_151 : decode cX8_init 151 = .ok (.dup, 1) := by decide +kernel
theorem dX8_init_152 : decode cX8_init 152 = .ok (.bipush 17, 2) := by decide +kernel
theorem dX8_init_154 : decode cX8_init 154 = .ok (.bipush 77, 2) := by decide +kernel
theorem dX8_init_156 : decode cX8_init 156 = .ok (.castore, 1) := by decide +kernel
theorem dX8_init_157 : decode cX8_init 157 = .ok (.dup, 1) := by decide +kernel
theorem dX8_init_158 : decode cX8_init 158 = .ok (.bipush 18, 2) := by decide +kernel
theorem dX8_init_160 : decode cX8_init 160 = .ok (.bipush 73, 2) := by decide +kernel
theorem dX8_init_162 : decode cX8_init 162 = .ok (.castore, 1) := by decide +kernel
theorem dX8_init_163 : decode cX8_init 163 = .ok (.dup, 1) := by decide +kernel
theorem dX8_init_164 : decode cX8_init 164 = .ok (.bipush 19, 2) := by decide +kernel
theorem dX8_init_166 : decode cX8_init 166 = .ok (.bipush 83, 2) := by decide +kernel
theorem dX8_init_168 : decode cX8_init 168 = .ok (.castore, 1) := by decide +kernel
theorem dX8_init_169 : decode cX8_init 169 = .ok (.dup, 1) := by decide +kernel
theorem dX8_init_170 : decode cX8_init 170 = .ok (.bipush 20, 2) := by decide +kernel
theorem dX8_init_172 : decode cX8_init 172 = .ok (.bipush 83, 2) := by decide +kernel
theorem dX8_init_174 : decode cX8_init 174 = .ok (.castore, 1) := by decide +kernel
theorem dX8_init_175 : decode cX8_init 175 = .ok (.dup, 1) := by decide +kernel
theorem dX8_init_176 : decode cX8_init 176 = .ok (.bipush 21, 2) := by decide +kernel
theorem dX8_init_178 : decode cX8_init 178 = .ok (.bipush 73, 2) := by decide +kernel
theorem dX8_init_180 : decode cX8_init 180 = .ok (.castore, 1) := by decide +kernel
theorem dX8_init_181 : decode cX8_init 181 = .ok (.dup, 1) := by decide +kernel
theorem dX8_init_182 : decode cX8_init 182 = .ok (.bipush 22, 2) := by decide +kernel
theorem dX8_init_184 : decode cX8_init 184 = .ok (.bipush 78, 2) := by decide +kernel
theorem dX8_init_186 : decode cX8_init 186 = .ok (.castore, 1) := by decide +kernel
theorem dX8_init_187 : decode cX8_init 187 = .ok (.dup, 1) := by decide +kernel
theorem dX8_init_188 : decode cX8_init 188 = .ok (.bipush 23, 2) := by decide +kernel
theorem dX8_init_190 : decode cX8_init 190 = .ok (.bipush 71, 2) := by decide +kernel
theorem dX8_init_192 : decode cX8_init 192 = .ok (.castore, 1) := by decide +kernel
theorem dX8_init_193 : decode cX8_init 193 = .ok (.putfield 16, 3) := by decide +kernel
theorem dX8_init_196 : decode cX8_init 196 = .ok (.aload_n 0, 1) := by decide +kernel
theorem dX8_init_197 : decode cX8_init 197 = .ok (.bipush 6, 2) := by decide +kernel
theorem dX8_init_199 : decode cX8_init 199 = .ok (.newarray .int, 2) := by decide +kernel
theorem dX8_init_201 : decode cX8_init 201 = .ok (.putfield 19, 3) := by decide +kernel
theorem dX8_init_204 : decode cX8_init 204 = .ok (.aload_n 0, 1) := by decide +kernel
theorem dX8_init_205 : decode cX8_init 205 = .ok (.bipush 20, 2) := by decide +kernel
theorem dX8_init_207 : decode cX8_init 207 = .ok (.newarray .char, 2) := by decide +kernel
theorem dX8_init_209 : decode cX8_init 209 = .ok (.putfield 23, 3) := by decide +kernel
theorem dX8_init_212 : decode cX8_init 212 = .ok (.aload_n 0, 1) := by decide +kernel
theorem dX8_init_213 : decode cX8_init 213 = .ok (.bipush 6, 2) := by decide +kernel
theorem dX8_init_215 : decode cX8_init 215 = .ok (.newarray .int, 2) := by decide +kernel
theorem dX8_init_217 : decode cX8_init 217 = .ok (.putfield 26, 3) := by decide +kernel
theorem dX8_init_220 : decode cX8_init 220 = .ok (.aload_n 0, 1) := by decide +kernel
theorem dX8_init_221 : decode cX8_init 221 = .ok (.bipush 6, 2) := by decide +kernel
theorem dX8_init_223 : decode cX8_init 223 = .ok (.newarray .int, 2) := by decide +kernel
theorem dX8_init_225 : decode cX8_init 225 = .ok (.putfield 29, 3) := by decide +kernel
theorem dX8_init_228 : decode cX8_init 228 = .ok (.aload_n 0, 1) := by decide +kernel
theorem dX8_init_229 : decode cX8_init 229 = .ok (.iconst 4, 1) := by decide +kernel
theorem dX8_init_230 : decode cX8_init 230 = .ok (.newarray .boolean, 2) := by decide +kernel
theorem dX8_init_232 : decode cX8_init 232 = .ok (.putfield 32, 3) := by decide +kernel
theorem dX8_init_235 : decode cX8_init 235 = .ok (.aload_n 0, 1) := by decide +kernel
theorem dX8_init_236 : decode cX8_init 236 = .ok (.iconst 4, 1) := by decide +kernel
theorem dX8_init_237 : decode cX8_init 237 = .ok (.newarray .int, 2) := by decide +kernel
theorem dX8_init_239 : decode cX8_init 239 = .ok (.putfield 36, 3) := by decide +kernel
theorem dX8_init_242 : decode cX8_init 242 = .ok (.aload_n 0, 1) := by decide +kernel
theorem dX8_init_243 : decode cX8_init 243 = .ok (.iconst 4, 1) := by decide +kernel
theorem dX8_init_244 : decode cX8_init 244 = .ok (.newarray .int, 2) := by decide +kernel
theorem dX8_init_246 : decode cX8_init 246 = .ok (.putfield 39, 3) := by decide +kernel
theorem dX8_init_249 : decode cX8_init 249 = .ok (.aload_n 0, 1) := by decide +kernel
theorem dX8_init_250 : decode cX8_init 250 = .ok (.iconst 4, 1) := by decide +kernel
theorem dX8_init_251 : decode cX8_init 251 = .ok (.newarray .int, 2) := by decide +kernel
theorem dX8_init_253 : decode cX8_init 253 = .ok (.putfield 42, 3) := by decide +kernel
theorem dX8_init_256 : decode cX8_init 256 = .ok (.aload_n 0, 1) := by decide +kernel
theorem dX8_init_257 : decode cX8_init 257 = .ok (.iconst 4, 1) := by decide +kernel
theorem dX8_init_258 : decode cX8_init 258 = .ok (.newarray .boolean, 2) := by decide +kernel
theorem dX8_init_260 : decode cX8_init 260 = .ok (.putfield 45, 3) := by decide +kernel
theorem dX8_init_263 : decode cX8_init 263 = .ok (.aload_n 0, 1) := by decide +kernel
theorem dX8_init_264 : decode cX8_init 264 = .ok (.iconst 4, 1) := by decide +kernel
theorem dX8_init_265 : decode cX8_init 265 = .ok (.newarray .int, 2) := by decide +kernel
theorem dX8_init_267 : decode cX8_init 267 = .ok (.putfield 48, 3) := by decide +kernel
theorem dX8_init_270 : decode cX8_init 270 = .ok (.aload_n 0, 1) := by decide +kernel
theorem dX8_init_271 : decode cX8_init 271 = .ok (.iconst 4, 1) := by decide +kernel
theorem dX8_init_272 : decode cX8_init 272 = .ok (.newarray .int, 2) := by decide +kernel
theorem dX8_init_274 : decode cX8_init 274 = .ok (.putfield 51, 3) := by decide +kernel
theorem dX8_init_277 : decode cX8_init 277 = .ok (.aload_n 0, 1) := by decide +kernel
theorem dX8_init_278 : decode cX8_init 278 = .ok (.iconst 4, 1) := by decide +kernel
theorem dX8_init_279 : decode cX8_init 279 = .ok (.newarray .int, 2) := by decide +kernel
theorem dX8_init_281 : decode cX8_init 281 = .ok (.putfield 54, 3) := by decide +kernel
theorem dX8_init_284 : decode cX8_init 284 = .ok (.aload_n 0, 1) := by decide +kernel
theorem dX8_init_285 : decode cX8_init 285 = .ok (.iconst 4, 1) := by decide +kernel
theorem dX8_init_286 : decode cX8_init 286 = .ok (.newarray .int, 2) := by decide +kernel
theorem dX8_init_288 : decode cX8_init 288 = .ok (.putfield 57, 3) := by decide +kernel
theorem dX8_init_291 : decode cX8_init 291 = .ok (.aload_n 0, 1) := by decide +kernel
theorem dX8_init_292 : decode cX8_init 292 = .ok (.sipush 2000, 3) := by decide +kernel
theorem dX8_init_295 : decode cX8_init 295 = .ok (.newarray .int, 2) := by decide +kernel
theorem dX8_init_297 : decode cX8_init 297 = .ok (.putfield 60, 3) := by decide +kernel
theorem dX8_init_300 : decode cX8_init 300 = .ok (.aload_n 0, 1) := by decide +kernel
theorem dX8_init_301 : decode cX8_init 301 = .ok (.sipush 2000, 3) := by decide +kernel
theorem dX8_init_304 : decode cX8_init 304 = .ok (.newarray .int, 2) := by decide +kernel
theorem dX8_init_306 : decode cX8_init 306 = .ok (.putfield 63, 3) := by decide +kernel
theorem dX8_init_309 : decode cX8_init 309 = .ok (.aload_n 0, 1) := by decide +kernel
theorem dX8_init_310 : decode cX8_init 310 = .ok (.bipush 6, 2) := by decide +kernel
theorem dX8_init_312 : decode cX8_init 312 = .ok (.newarray .int, 2) := by decide +kernel
theorem dX8_init_314 : decode cX8_init 314 = .ok (.putfield 66, 3) := by decide +kernel
theorem dX8_init_317 : decode cX8_init 317 = .ok (.aload_n 0, 1) := by decide +kernel
theorem dX8_init_318 : decode cX8_init 318 = .ok (.bipush 6, 2) := by decide +kernel
theorem dX8_init_320 : decode cX8_init 320 = .ok (.newarray .int, 2) := by decide +kernel
theorem dX8_init_322 : decode cX8_init 322 = .ok (.putfield 69, 3) := by decide +kernel
theorem dX8_init_325 : decode cX8_init 325 = .ok (.aload_n 0, 1) := by decide +kernel
theorem dX8_init_326 : decode cX8_init 326 = .ok (.sipush 1536, 3) := by decide +kernel
theorem dX8_init_329 : decode cX8_init 329 = .ok (.newarray .int, 2) := by decide +kernel
theorem dX8_init_331 : decode cX8_init 331 = .ok (.putfield 72, 3) := by decide +kernel
theorem dX8_init_334 : decode cX8_init 334 = .ok (.aload_n 0, 1) := by decide +kernel
theorem dX8_init_335 : decode cX8_init 335 = .ok (.sipush 1536, 3) := by decide +kernel
theorem dX8_init_338 : decode cX8_init 338 = .ok (.newarray .int, 2) := by decide +kernel
theorem dX8_init_340 : decode cX8_init 340 = .ok (.putfield 75, 3) := by decide +kernel
theorem dX8_init_343 : decode cX8_init 343 = .ok (.aload_n 0, 1) := by decide +kernel
theorem dX8_init_344 : decode cX8_init 344 = .ok (.sipush 1536, 3) := by decide +kernel
theorem dX8_init_347 : decode cX8_init 347 = .ok (.newarray .int, 2) := by decide +kernel
theorem dX8_init_349 : decode cX8_init 349 = .ok (.putfield 78, 3) := by decide +kernel
theorem dX8_init_352 : decode cX8_init 352 = .ok (.aload_n 0, 1) := by decide +kernel
theorem dX8_init_353 : decode cX8_init 353 = .ok (.sipush 1536, 3) := by decide +kernel
theorem dX8_init_356 : decode cX8_init 356 = .ok (.newarray .int, 2) := by decide +kernel
theorem dX8_init_358 : decode cX8_init 358 = .ok (.putfield 81, 3) := by decide +kernel
theorem dX8_init_361 : decode cX8_init 361 = .ok (.aload_n 0, 1) := by decide +kernel
theorem dX8_init_362 : decode cX8_init 362 = .ok (.bipush 100, 2) := by decide +kernel
theorem dX8_init_364 : decode cX8_init 364 = .ok (.newarray .int, 2) := by decide +kernel
theorem dX8_init_366 : decode cX8_init 366 = .ok (.putfield 84, 3) := by decide +kernel
theorem dX8_init_369 : decode cX8_init 369 = .ok (.aload_n 0, 1) := by decide +kernel
theorem dX8_init_370 : decode cX8_init 370 = .ok (.bipush 100, 2) := by decide +kernel
theorem dX8_init_372 : decode cX8_init 372 = .ok (.newarray .int, 2) := by decide +kernel
theorem dX8_init_374 : decode cX8_init 374 = .ok (.putfield 87, 3) := by decide +kernel
theorem dX8_init_377 : decode cX8_init 377 = .ok (.aload_n 0, 1) := by decide +kernel
theorem dX8_init_378 : decode cX8_init 378 = .ok (.bipush 100, 2) := by decide +kernel
theorem dX8_init_380 : decode cX8_init 380 = .ok (.newarray .int, 2) := by decide +kernel
theorem dX8_init_382 : decode cX8_init 382 = .ok (.putfield 90, 3) := by decide +kernel
theorem dX8_init_385 : decode cX8_init 385 = .ok (.aload_n 0, 1) := by decide +kernel
theorem dX8_init_386 : decode cX8_init 386 = .ok (.bipush 100, 2) := by decide +kernel
theorem dX8_init_388 : decode cX8_init 388 = .ok (.newarray .int, 2) := by decide +kernel
theorem dX8_init_390 : decode cX8_init 390 = .ok (.putfield 93, 3) := by decide +kernel
theorem dX8_init_393 : decode cX8_init 393 = .ok (.aload_n 0, 1) := by decide +kernel
theorem dX8_init_394 : decode cX8_init 394 = .ok (.bipush 100, 2) := by decide +kernel
theorem dX8_init_396 : decode cX8_init 396 = .ok (.newarray .boolean, 2) := by decide +kernel
theorem dX8_init_398 : decode cX8_init 398 = .ok (.putfield 96, 3) := by decide +kernel
theorem dX8_init_401 : decode cX8_init 401 = .ok (.aload_n 0, 1) := by decide +kernel
theorem dX8_init_402 : decode cX8_init 402 = .ok (.bipush 100, 2) := by decide +kernel
theorem dX8_init_404 : decode cX8_init 404 = .ok (.newarray .int, 2) := by decide +kernel
theorem dX8_init_406 : decode cX8_init 406 = .ok (.putfield 99, 3) := by decide +kernel
theorem dX8_init_409 : decode cX8_init 409 = .ok (.aload_n 0, 1) := by decide +kernel
theorem dX8_init_410 : decode cX8_init 410 = .ok (.bipush 100, 2) := by decide +kernel
theorem dX8_init_412 : decode cX8_init 412 = .ok (.newarray .int, 2) := by decide +kernel
theorem dX8_init_414 : decode cX8_init 414 = .ok (.putfield 102, 3) := by decide +kernel
theorem dX8_init_417 : decode cX8_init 417 = .ok (.aload_n 0, 1) := by decide +kernel
theorem dX8_init_418 : decode cX8_init 418 = .ok (.bipush 100, 2) := by decide +kernel
theorem dX8_init_420 : decode cX8_init 420 = .ok (.newarray .int, 2) := by decide +kernel
theorem dX8_init_422 : decode cX8_init 422 = .ok (.putfield 105, 3) := by decide +kernel
theorem dX8_init_425 : decode cX8_init 425 = .ok (.aload_n 0, 1) := by decide +kernel
theorem dX8_init_426 : decode cX8_init 426 = .ok (.bipush 100, 2) := by decide +kernel
theorem dX8_init_428 : decode cX8_init 428 = .ok (.newarray .int, 2) := by decide +kernel
theorem dX8_init_430 : decode cX8_init 430 = .ok (.putfield 108, 3) := by decide +kernel
theorem dX8_init_433 : decode cX8_init 433 = .ok (.aload_n 0, 1) := by decide +kernel
theorem dX8_init_434 : decode cX8_init 434 = .ok (.bipush 50, 2) := by decide +kernel
theorem dX8_init_436 : decode cX8_init 436 = .ok (.newarray .int, 2) := by decide +kernel
theorem dX8_init_438 : decode cX8_init 438 = .ok (.putfield 111, 3) := by decide +kernel
theorem dX8_init_441 : decode cX8_init 441 = .ok (.aload_n 0, 1) := by decide +kernel
theorem dX8_init_442 : decode cX8_init 442 = .ok (.bipush 50, 2) := by decide +kernel
theorem dX8_init_444 : decode cX8_init 444 = .ok (.newarray .int, 2) := by decide +kernel
theorem dX8_init_446 : decode cX8_init 446 = .ok (.putfield 114, 3) := by decide +kernel
theorem dX8_init_449 : decode cX8_init 449 = .ok (.aload_n 0, 1) := by decide +kernel
theorem dX8_init_450 : decode cX8_init 450 = .ok (.bipush 50, 2) := by decide +kernel
theorem dX8_init_452 : decode cX8_init 452 = .ok (.newarray .int, 2) := by decide +kernel
theorem dX8_init_454 : decode cX8_init 454 = .ok (.putfield 117, 3) := by decide +kernel
theorem dX8_init_457 : decode cX8_init 457 = .ok (.aload_n 0, 1) := by decide +kernel
theorem dX8_init_458 : decode cX8_init 458 = .ok (.bipush 50, 2) := by decide +kernel
theorem dX8_init_460 : decode cX8_init 460 = .ok (.newarray .int, 2) := by decide +kernel
theorem dX8_init_462 : decode cX8_init 462 = .ok (.putfield 120, 3) := by decide +kernel
theorem dX8_init_465 : decode cX8_init 465 = .ok (.iconst 0, 1) := by decide +kernel
theorem dX8_init_466 : decode cX8_init 466 = .ok (.istore_n 1, 1) := by decide +kernel
theorem dX8_init_467 : decode cX8_init 467 = .ok (.iload_n 1, 1) := by decide +kernel
theorem dX8_init_468 : decode cX8_init 468 = .ok (.bipush 6, 2) := by decide +kernel
theorem dX8_init_470 : decode cX8_init 470 = .ok (.if_icmp .ge 25, 3) := by decide +kernel
theorem dX8_init_473 : decode cX8_init 473 = .ok (.aload_n 0, 1) := by decide +kernel
theorem dX8_init_474 : decode cX8_init 474 = .ok (.getfield 26, 3) := by decide +kernel
theorem dX8_init_477 : decode cX8_init 477 = .ok (.iload_n 1, 1) := by decide +kernel
theorem dX8_init_478 : decode cX8_init 478 = .ok (.bipush 10, 2) := by decide +kernel
theorem dX8_init_480 : decode cX8_init 480 = .ok (.iastore, 1) := by decide +kernel
theorem dX8_init_481 : decode cX8_init 481 = .ok (.aload_n 0, 1) := by decide +kernel
theorem dX8_init_482 : decode cX8_init 482 = .ok (.getfield 29, 3) := by decide +kernel
theorem dX8_init_485 : decode cX8_init 485 = .ok (.iload_n 1, 1) := by decide +kernel
theorem dX8_init_486 : decode cX8_init 486 = .ok (.bipush 60, 2) := by decide +kernel
theorem dX8_init_488 : decode cX8_init 488 = .ok (.iastore, 1) := by decide +kernel
theorem dX8_init_489 : decode cX8_init 489 = .ok (.iinc 1 1, 3) := by decide +kernel
theorem dX8_init_492 : decode cX8_init 492 = .ok (.goto (-25), 3) := by decide +kernel
theorem dX8_init_495 : decode cX8_init 495 = .ok (.iconst 0, 1) := by decide +kernel
theorem dX8_init_496 : decode cX8_init 496 = .ok (.istore_n 1, 1) := by decide +kernel
theorem dX8_init_497 : decode cX8_init 497 = .ok (.iload_n 1, 1) := by decide +kernel
theorem dX8_init_498 : decode cX8_init 498 = .ok (.iconst 4, 1) := by decide +kernel
theorem dX8_init_499 : decode cX8_init 499 = .ok (.if_icmp .ge 34, 3) := by decide +kernel
theorem dX8_init_502 : decode cX8_init 502 = .ok (.aload_n 0, 1) := by decide +kernel
theorem dX8_init_503 : decode cX8_init 503 = .ok (.getfield 51, 3) := by decide +kernel
theorem dX8_init_506 : decode cX8_init 506 = .ok (.iload_n 1, 1) := by decide +kernel
theorem dX8_init_507 : decode cX8_init 507 = .ok (.sipush 500, 3) := by decide +kernel
theorem dX8_init_510 : decode cX8_init 510 = .ok (.iastore, 1) := by decide +kernel
theorem dX8_init_511 : decode cX8_init 511 = .ok (.aload_n 0, 1) := by decide +kernel
theorem dX8_init_512 : decode cX8_init 512 = .ok (.getfield 54, 3) := by decide +kernel
theorem dX8_init_515 : decode cX8_init 515 = .ok (.iload_n 1, 1) := by decide +kernel
theorem dX8_init_516 : decode cX8_init 516 = .ok (.bipush 100, 2) := by decide +kernel
theorem dX8_init_518 : decode cX8_init 518 = .ok (.iastore, 1) := by decide +kernel
theorem dX8_init_519 : decode cX8_init 519 = .ok (.aload_n 0, 1) := by decide +kernel
theorem dX8_init_520 : decode cX8_init 520 = .ok (.getfield 57, 3) := by decide +kernel
theorem dX8_init_523 : decode cX8_init 523 = .ok (.iload_n 1, 1) := by decide +kernel
theorem dX8_init_524 : decode cX8_init 524 = .ok (.bipush 20, 2) := by decide +kernel
theorem dX8_init_526 : decode cX8_init 526 = .ok (.iastore, 1) := by decide +kernel
theorem dX8_init_527 : decode cX8_init 527 = .ok (.iinc 1 1, 3) := by decide +kernel
theorem dX8_init_530 : decode cX8_init 530 = .ok (.goto (-33), 3) := by decide +kernel
theorem dX8_init_533 : decode cX8_init 533 = .ok (.iconst 0, 1) := by decide +kernel
theorem dX8_init_534 : decode cX8_init 534 = .ok (.istore_n 1, 1) := by decide +kernel
theorem dX8_init_535 : decode cX8_init 535 = .ok (.iload_n 1, 1) := by decide +kernel
theorem dX8_init_536 : decode cX8_init 536 = .ok (.sipush 1536, 3) := by decide +kernel
theorem dX8_init_539 : decode cX8_init 539 = .ok (.if_icmp .ge 16, 3) := by decide +kernel
theorem dX8_init_542 : decode cX8_init 542 = .ok (.aload_n 0, 1) := by decide +kernel
theorem dX8_init_543 : decode cX8_init 543 = .ok (.getfield 72, 3) := by decide +kernel
theorem dX8_init_546 : decode cX8_init 546 = .ok (.iload_n 1, 1) := by decide +kernel
theorem dX8_init_547 : decode cX8_init 547 = .ok (.iconst (-1), 1) := by decide +kernel
theorem dX8_init_548 : decode cX8_init 548 = .ok (.iastore, 1) := by decide +kernel
theorem dX8_init_549 : decode cX8_init 549 = .ok (.iinc 1 1, 3) := by decide +kernel
theorem dX8_init_552 : decode cX8_init 552 = .ok (.goto (-17), 3) := by decide +kernel
theorem dX8_init_555 : decode cX8_init 555 = .ok (.return_, 1) := by decide +kernel
theorem dX8_thrown_0 : decode cX8_thrown 0 = .ok (.aload_n 0, 1) := by decide +kernel
theorem dX8_thrown_1 : decode cX8_thrown 1 = .ok (.getfield 123, 3) := by decide +kernel
theorem dX8_thrown_4 : decode cX8_thrown 4 = .ok (.ireturn, 1) := by decide +kernel
theorem dX8_isIn_0 : decode cX8_isIn 0 = .ok (.iload_n 0, 1) := by decide +kernel
theorem dX8_isIn_1 : decode cX8_isIn 1 = .ok (.iload_n 1, 1) := by decide +kernel
theorem dX8_isIn_2 : decode cX8_isIn 2 = .ok (.if_icmp .lt 12, 3) := by decide +kernel
theorem dX8_isIn_5 : decode cX8_isIn 5 = .ok (.iload_n 0, 1) := by decide +kernel
theorem dX8_isIn_6 : decode cX8_isIn 6 = .ok (.iload_n 2, 1) := by decide +kernel
theorem dX8_isIn_7 : decode cX8_isIn 7 = .ok (.if_icmp .gt 7, 3) := by decide +kernel
theorem dX8_isIn_10 : decode cX8_isIn 10 = .ok (.iconst 1, 1) := by decide +kernel
theorem dX8_isIn_11 : decode cX8_isIn 11 = .ok (.goto 4, 3) := by decide +kernel
theorem dX8_isIn_14 : decode cX8_isIn 14 = .ok (.iconst 0, 1) := by decide +kernel
theorem dX8_isIn_15 : decode cX8_isIn 15 = .ok (.ireturn, 1) := by decide +kernel
theorem dX8_type_0 : decode cX8_type 0 = .ok (.iload_n 1, 1) := by decide +kernel
theorem dX8_type_1 : decode cX8_type 1 = .ok (.bipush 65, 2) := by decide +kernel
theorem dX8_type_3 : decode cX8_type 3 = .ok (.bipush 90, 2) := by decide +kernel
theorem dX8_type_5 : decode cX8_type 5 = .ok (.invokestatic 127, 3) := by decide +kernel
theorem dX8_type_8 : decode cX8_type 8 = .ok (.ifCond .ne 26, 3) := by decide +kernel
theorem dX8_type_11 : decode cX8_type 11 = .ok (.iload_n 1, 1) := by decide +kernel
theorem dX8_type_12 : decode cX8_type 12 = .ok (.bipush 48, 2) := by decide +kernel
theorem dX8_type_14 : decode cX8_type 14 = .ok (.bipush 57, 2) := by decide +kernel
theorem dX8_type_16 : decode cX8_type 16 = .ok (.invokestatic 127, 3) := by decide +kernel
theorem dX8_type_19 : decode cX8_type 19 = .ok (.ifCond .ne 15, 3) := by decide +kernel
theorem dX8_type_22 : decode cX8_type 22 = .ok (.iload_n 1, 1) := by decide +kernel
theorem dX8_type_23 : decode cX8_type 23 = .ok (.bipush 61, 2) := by decide +kernel
theorem dX8_type_25 : decode cX8_type 25 = .ok (.if_icmp .eq 9, 3) := by decide +kernel
theorem dX8_type_28 : decode cX8_type 28 = .ok (.iload_n 1, 1) := by decide +kernel
theorem dX8_type_29 : decode cX8_type 29 = .ok (.bipush 59, 2) := by decide +kernel
theorem dX8_type_31 : decode cX8_type 31 = .ok (.if_icmp .ne 7, 3) := by decide +kernel
theorem dX8_type_34 : decode cX8_type 34 = .ok (.iconst 1, 1) := by decide +kernel
theorem dX8_type_35 : decode cX8_type 35 = .ok (.goto 4, 3) := by decide +kernel
theorem dX8_type_38 : decode cX8_type 38 = .ok (.iconst 0, 1) := by decide +kernel
theorem dX8_type_39 : decode cX8_type 39 = .ok (.istore_n 2, 1) := by decide +kernel
theorem dX8_type_40 : decode cX8_type 40 = .ok (.aload_n 0, 1) := by decide +kernel
theorem dX8_type_41 : decode cX8_type 41 = .ok (.iload_n 2, 1) := by decide +kernel
theorem dX8_type_42 : decode cX8_type 42 = .ok (.ifCond .ne 7, 3) := by decide +kernel
theorem dX8_type_45 : decode cX8_type 45 = .ok (.iconst 1, 1) := by decide +kernel
theorem dX8_type_46 : decode cX8_type 46 = .ok (.goto 17, 3) := by decide +kernel
theorem dX8_type_49 : decode cX8_type 49 = .ok (.aload_n 0, 1) := by decide +kernel
theorem dX8_type_50 : decode cX8_type 50 = .ok (.getfield 131, 3) := by decide +kernel
theorem dX8_type_53 : decode cX8_type 53 = .ok (.bipush 60, 2) := by decide +kernel
theorem dX8_type_55 : decode cX8_type 55 = .ok (.if_icmp .ne 7, 3) := by decide +kernel
theorem dX8_type_58 : decode cX8_type 58 = .ok (.iconst 2, 1) := by decide +kernel
theorem dX8_type_59 : decode cX8_type 59 = .ok (.goto 4, 3) := by decide +kernel
theorem dX8_type_62 : decode cX8_type 62 = .ok (.iconst 0, 1) := by decide +kernel
theorem dX8_type_63 : decode cX8_type 63 = .ok (.putfield 123, 3) := by decide +kernel
theorem dX8_type_66 : decode cX8_type 66 = .ok (.aload_n 0, 1) := by decide +kernel
theorem dX8_type_67 : decode cX8_type 67 = .ok (.getfield 123, 3) := by decide +kernel
theorem dX8_type_70 : decode cX8_type 70 = .ok (.ifCond .le 5, 3) := by decide +kernel
theorem dX8_type_73 : decode cX8_type 73 = .ok (.iconst 0, 1) := by decide +kernel
theorem dX8_type_74 : decode cX8_type 74 = .ok (.ireturn, 1) := by decide +kernel
theorem dX8_type_75 : decode cX8_type 75 = .ok (.aload_n 0, 1) := by decide +kernel
theorem dX8_type_76 : decode cX8_type 76 = .ok (.getfield 7, 3) := by decide +kernel
theorem dX8_type_79 : decode cX8_type 79 = .ok (.aload_n 0, 1) := by decide +kernel
theorem dX8_type_80 : decode cX8_type 80 = .ok (.getfield 131, 3) := by decide +kernel
theorem dX8_type_83 : decode cX8_type 83 = .ok (.iload_n 1, 1) := by decide +kernel
theorem dX8_type_84 : decode cX8_type 84 = .ok (.castore, 1) := by decide +kernel
theorem dX8_type_85 : decode cX8_type 85 = .ok (.aload_n 0, 1) := by decide +kernel
theorem dX8_type_86 : decode cX8_type 86 = .ok (.dup, 1) := by decide +kernel
theorem dX8_type_87 : decode cX8_type 87 = .ok (.getfield 131, 3) := by decide +kernel
theorem dX8_type_90 : decode cX8_type 90 = .ok (.iconst 1, 1) := by decide +kernel
theorem dX8_type_91 : decode cX8_type 91 = .ok (.iadd, 1) := by decide +kernel
theorem dX8_type_92 : decode cX8_type 92 = .ok (.putfield 131, 3) := by decide +kernel
theorem dX8_type_95 : decode cX8_type 95 = .ok (.aload_n 0, 1) := by decide +kernel
theorem dX8_type_96 : decode cX8_type 96 = .ok (.getfield 131, 3) := by decide +kernel
theorem dX8_type_99 : decode cX8_type 99 = .ok (.ireturn, 1) := by decide +kernel
theorem dX8_wipe_0 : decode cX8_wipe 0 = .ok (.aload_n 0, 1) := by decide +kernel
theorem dX8_wipe_1 : decode cX8_wipe 1 = .ok (.iconst 0, 1) := by decide +kernel
theorem dX8_wipe_2 : decode cX8_wipe 2 = .ok (.putfield 123, 3) := by decide +kernel
theorem dX8_wipe_5 : decode cX8_wipe 5 = .ok (.aload_n 0, 1) := by decide +kernel
theorem dX8_wipe_6 : decode cX8_wipe 6 = .ok (.getfield 131, 3) := by decide +kernel
theorem dX8_wipe_9 : decode cX8_wipe 9 = .ok (.istore_n 1, 1) := by decide +kernel
theorem dX8_wipe_10 : decode cX8_wipe 10 = .ok (.aload_n 0, 1) := by decide +kernel
theorem dX8_wipe_11 : decode cX8_wipe 11 = .ok (.iconst 0, 1) := by decide +kernel
theorem dX8_wipe_12 : decode cX8_wipe 12 = .ok (.putfield 131, 3) := by decide +kernel
theorem dX8_wipe_15 : decode cX8_wipe 15 = .ok (.iload_n 1, 1) := by decide +kernel
theorem dX8_wipe_16 : decode cX8_wipe 16 = .ok (.ireturn, 1) := by decide +kernel
theorem dX8_number_0 : decode cX8_number 0 = .ok (.iconst 0, 1) := by decide +kernel
theorem dX8_number_1 : decode cX8_number 1 = .ok (.istore 4, 2) := by decide +kernel
theorem dX8_number_3 : decode cX8_number 3 = .ok (.iload_n 2, 1) := by decide +kernel
theorem dX8_number_4 : decode cX8_number 4 = .ok (.iload_n 1, 1) := by decide +kernel
theorem dX8_number_5 : decode cX8_number 5 = .ok (.if_icmp .le 14, 3) := by decide +kernel
theorem dX8_number_8 : decode cX8_number 8 = .ok (.iload_n 2, 1) := by decide +kernel
theorem dX8_number_9 : decode cX8_number 9 = .ok (.iload_n 1, 1) := by decide +kernel
theorem dX8_number_10 : decode cX8_number 10 = .ok (.isub, 1) := by decide +kernel
theorem dX8_number_11 : decode cX8_number 11 = .ok (.iload_n 3, 1) := by decide +kernel
theorem dX8_number_12 : decode cX8_number 12 = .ok (.if_icmp .gt 7, 3) := by decide +kernel
theorem dX8_number_15 : decode cX8_number 15 = .ok (.iconst 1, 1) := by decide +kernel
theorem dX8_number_16 : decode cX8_number 16 = .ok (.goto 4, 3) := by decide +kernel
theorem dX8_number_19 : decode cX8_number 19 = .ok (.iconst 0, 1) := by decide +kernel
theorem dX8_number_20 : decode cX8_number 20 = .ok (.istore 5, 2) := by decide +kernel
theorem dX8_number_22 : decode cX8_number 22 = .ok (.iload_n 1, 1) := by decide +kernel
theorem dX8_number_23 : decode cX8_number 23 = .ok (.istore 6, 2) := by decide +kernel
theorem dX8_number_25 : decode cX8_number 25 = .ok (.iload 6, 2) := by decide +kernel
theorem dX8_number_27 : decode cX8_number 27 = .ok (.iload_n 2, 1) := by decide +kernel
theorem dX8_number_28 : decode cX8_number 28 = .ok (.if_icmp .ge 48, 3) := by decide +kernel
theorem dX8_number_31 : decode cX8_number 31 = .ok (.iload 5, 2) := by decide +kernel
theorem dX8_number_33 : decode cX8_number 33 = .ok (.ifCond .eq 43, 3) := by decide +kernel
theorem dX8_number_36 : decode cX8_number 36 = .ok (.aload_n 0, 1) := by decide +kernel
theorem dX8_number_37 : decode cX8_number 37 = .ok (.getfield 7, 3) := by decide +kernel
theorem dX8_number_40 : decode cX8_number 40 = .ok (.iload 6, 2) := by decide +kernel
theorem dX8_number_42 : decode cX8_number 42 = .ok (.caload, 1) := by decide +kernel
theorem dX8_number_43 : decode cX8_number 43 = .ok (.bipush 48, 2) := by decide +kernel
theorem dX8_number_45 : decode cX8_number 45 = .ok (.bipush 57, 2) := by decide +kernel
theorem dX8_number_47 : decode cX8_number 47 = .ok (.invokestatic 127, 3) := by decide +kernel
theorem dX8_number_50 : decode cX8_number 50 = .ok (.istore 5, 2) := by decide +kernel
theorem dX8_number_52 : decode cX8_number 52 = .ok (.bipush 10, 2) := by decide +kernel
theorem dX8_number_54 : decode cX8_number 54 = .ok (.iload 4, 2) := by decide +kernel
theorem dX8_number_56 : decode cX8_number 56 = .ok (.imul, 1) := by decide +kernel
theorem dX8_number_57 : decode cX8_number 57 = .ok (.aload_n 0, 1) := by decide +kernel
theorem dX8_number_58 : decode cX8_number 58 = .ok (.getfield 7, 3) := by decide +kernel
theorem dX8_number_61 : decode cX8_number 61 = .ok (.iload 6, 2) := by decide +kernel
theorem dX8_number_63 : decode cX8_number 63 = .ok (.caload, 1) := by decide +kernel
theorem dX8_number_64 : decode cX8_number 64 = .ok (.iadd, 1) := by decide +kernel
theorem dX8_number_65 : decode cX8_number 65 = .ok (.bipush 48, 2) := by decide +kernel
theorem dX8_number_67 : decode cX8_number 67 = .ok (.isub, 1) := by decide +kernel
theorem dX8_number_68 : decode cX8_number 68 = .ok (.istore 4, 2) := by decide +kernel
theorem dX8_number_70 : decode cX8_number 70 = .ok (.iinc 6 1, 3) := by decide +kernel
theorem dX8_number_73 : decode cX8_number 73 = .ok (.goto (-48), 3) := by decide +kernel
theorem dX8_number_76 : decode cX8_number 76 = .ok (.iload 5, 2) := by decide +kernel
theorem dX8_number_78 : decode cX8_number 78 = .ok (.ifCond .eq 8, 3) := by decide +kernel
theorem dX8_number_81 : decode cX8_number 81 = .ok (.iload 4, 2) := by decide +kernel
theorem dX8_number_83 : decode cX8_number 83 = .ok (.goto 4, 3) := by decide +kernel
theorem dX8_number_86 : decode cX8_number 86 = .ok (.iconst (-1), 1) := by decide +kernel
theorem dX8_number_87 : decode cX8_number 87 = .ok (.ireturn, 1) := by decide +kernel
theorem dX8_valueOf_0 : decode cX8_valueOf 0 = .ok (.iload_n 1, 1) := by decide +kernel
theorem dX8_valueOf_1 : decode cX8_valueOf 1 = .ok (.iconst 5, 1) := by decide +kernel
theorem dX8_valueOf_2 : decode cX8_valueOf 2 = .ok (.if_icmp .ne 65, 3) := by decide +kernel
theorem dX8_valueOf_5 : decode cX8_valueOf 5 = .ok (.iload_n 3, 1) := by decide +kernel
theorem dX8_valueOf_6 : decode cX8_valueOf 6 = .ok (.iload_n 2, 1) := by decide +kernel
theorem dX8_valueOf_7 : decode cX8_valueOf 7 = .ok (.isub, 1) := by decide +kernel
theorem dX8_valueOf_8 : decode cX8_valueOf 8 = .ok (.iconst 1, 1) := by decide +kernel
theorem dX8_valueOf_9 : decode cX8_valueOf 9 = .ok (.if_icmp .ne 29, 3) := by decide +kernel
theorem dX8_valueOf_12 : decode cX8_valueOf 12 = .ok (.aload_n 0, 1) := by decide +kernel
theorem dX8_valueOf_13 : decode cX8_valueOf 13 = .ok (.getfield 7, 3) := by decide +kernel
theorem dX8_valueOf_16 : decode cX8_valueOf 16 = .ok (.iload_n 2, 1) := by decide +kernel
theorem dX8_valueOf_17 : decode cX8_valueOf 17 = .ok (.caload, 1) := by decide +kernel
theorem dX8_valueOf_18 : decode cX8_valueOf 18 = .ok (.bipush 89, 2) := by decide +kernel
theorem dX8_valueOf_20 : decode cX8_valueOf 20 = .ok (.if_icmp .eq 14, 3) := by decide +kernel
theorem dX8_valueOf_23 : decode cX8_valueOf 23 = .ok (.aload_n 0, 1) := by decide +kernel
theorem dX8_valueOf_24 : decode cX8_valueOf 24 = .ok (.getfield 7, 3) := by decide +kernel
theorem dX8_valueOf_27 : decode cX8_valueOf 27 = .ok (.iload_n 2, 1) := by decide +kernel
theorem dX8_valueOf_28 : decode cX8_valueOf 28 = .ok (.caload, 1) := by decide +kernel
theorem dX8_valueOf_29 : decode cX8_valueOf 29 = .ok (.bipush 78, 2) := by decide +kernel
theorem dX8_valueOf_31 : decode cX8_valueOf 31 = .ok (.if_icmp .ne 7, 3) := by decide +kernel
theorem dX8_valueOf_34 : decode cX8_valueOf 34 = .ok (.iconst 1, 1) := by decide +kernel
theorem dX8_valueOf_35 : decode cX8_valueOf 35 = .ok (.goto 4, 3) := by decide +kernel
theorem dX8_valueOf_38 : decode cX8_valueOf 38 = .ok (.iconst 0, 1) := by decide +kernel
theorem dX8_valueOf_39 : decode cX8_valueOf 39 = .ok (.istore 4, 2) := by decide +kernel
theorem dX8_valueOf_41 : decode cX8_valueOf 41 = .ok (.iload 4, 2) := by decide +kernel
theorem dX8_valueOf_43 : decode cX8_valueOf 43 = .ok (.ifCond .ne 7, 3) := by decide +kernel
theorem dX8_valueOf_46 : decode cX8_valueOf 46 = .ok (.iconst (-1), 1) := by decide +kernel
theorem dX8_valueOf_47 : decode cX8_valueOf 47 = .ok (.goto 19, 3) := by decide +kernel
theorem dX8_valueOf_50 : decode cX8_valueOf 50 = .ok (.aload_n 0, 1) := by decide +kernel
theorem dX8_valueOf_51 : decode cX8_valueOf 51 = .ok (.getfield 7, 3) := by decide +kernel
theorem dX8_valueOf_54 : decode cX8_valueOf 54 = .ok (.iload_n 2, 1) := by decide +kernel
theorem dX8_valueOf_55 : decode cX8_valueOf 55 = .ok (.caload, 1) := by decide +kernel
theorem dX8_valueOf_56 : decode cX8_valueOf 56 = .ok (.bipush 89, 2) := by decide +kernel
theorem dX8_valueOf_58 : decode cX8_valueOf 58 = .ok (.if_icmp .ne 7, 3) := by decide +kernel
theorem dX8_valueOf_61 : decode cX8_valueOf 61 = .ok (.iconst 1, 1) := by decide +kernel
theorem dX8_valueOf_62 : decode cX8_valueOf 62 = .ok (.goto 4, 3) := by decide +kernel
theorem dX8_valueOf_65 : decode cX8_valueOf 65 = .ok (.iconst 0, 1) := by decide +kernel
theorem dX8_valueOf_66 : decode cX8_valueOf 66 = .ok (.ireturn, 1) := by decide +kernel
theorem dX8_valueOf_67 : decode cX8_valueOf 67 = .ok (.aload_n 0, 1) := by decide +kernel
theorem dX8_valueOf_68 : decode cX8_valueOf 68 = .ok (.iload_n 2, 1) := by decide +kernel
theorem dX8_valueOf_69 : decode cX8_valueOf 69 = .ok (.iload_n 3, 1) := by decide +kernel
theorem dX8_valueOf_70 : decode cX8_valueOf 70 = .ok (.iload_n 1, 1) := by decide +kernel
theorem dX8_valueOf_71 : decode cX8_valueOf 71 = .ok (.iconst 4, 1) := by decide +kernel
theorem dX8_valueOf_72 : decode cX8_valueOf 72 = .ok (.if_icmp .ne 7, 3) := by decide +kernel
theorem dX8_valueOf_75 : decode cX8_valueOf 75 = .ok (.iconst 5, 1) := by decide +kernel
theorem dX8_valueOf_76 : decode cX8_valueOf 76 = .ok (.goto 4, 3) := by decide +kernel
theorem dX8_valueOf_79 : decode cX8_valueOf 79 = .ok (.iconst 1, 1) := by decide +kernel
theorem dX8_valueOf_80 : decode cX8_valueOf 80 = .ok (.invokevirtual 134, 3) := by decide +kernel
theorem dX8_valueOf_83 : decode cX8_valueOf 83 = .ok (.istore 4, 2) := by decide +kernel
theorem dX8_valueOf_85 : decode cX8_valueOf 85 = .ok (.iload_n 1, 1) := by decide +kernel
theorem dX8_valueOf_86 : decode cX8_valueOf 86 = .ok (.iconst 4, 1) := by decide +kernel
theorem dX8_valueOf_87 : decode cX8_valueOf 87 = .ok (.if_icmp .ne 7, 3) := by decide +kernel
theorem dX8_valueOf_90 : decode cX8_valueOf 90 = .ok (.iconst 1, 1) := by decide +kernel
theorem dX8_valueOf_91 : decode cX8_valueOf 91 = .ok (.goto 4, 3) := by decide +kernel
theorem dX8_valueOf_94 : decode cX8_valueOf 94 = .ok (.iconst 0, 1) := by decide +kernel
theorem dX8_valueOf_95 : decode cX8_valueOf 95 = .ok (.istore 5, 2) := by decide +kernel
theorem dX8_valueOf_97 : decode cX8_valueOf 97 = .ok (.iload_n 1, 1) := by decide +kernel
theorem dX8_valueOf_98 : decode cX8_valueOf 98 = .ok (.ifCond .ne 7, 3) := by decide +kernel
theorem dX8_valueOf_101 : decode cX8_valueOf 101 = .ok (.iconst 5, 1) := by decide +kernel
theorem dX8_valueOf_102 : decode cX8_valueOf 102 = .ok (.goto 25, 3) := by decide +kernel
theorem dX8_valueOf_105 : decode cX8_valueOf 105 = .ok (.iload_n 1, 1) := by decide +kernel
theorem dX8_valueOf_106 : decode cX8_valueOf 106 = .ok (.iconst 1, 1) := by decide +kernel
theorem dX8_valueOf_107 : decode cX8_valueOf 107 = .ok (.if_icmp .ne 7, 3) := by decide +kernel
theorem dX8_valueOf_110 : decode cX8_valueOf 110 = .ok (.iconst 3, 1) := by decide +kernel
theorem dX8_valueOf_111 : decode cX8_valueOf 111 = .ok (.goto 16, 3) := by decide +kernel
theorem dX8_valueOf_114 : decode cX8_valueOf 114 = .ok (.iload_n 1, 1) := by decide +kernel
theorem dX8_valueOf_115 : decode cX8_valueOf 115 = .ok (.iconst 4, 1) := by decide +kernel
theorem dX8_valueOf_116 : decode cX8_valueOf 116 = .ok (.if_icmp .ne 9, 3) := by decide +kernel
theorem dX8_valueOf_119 : decode cX8_valueOf 119 = .ok (.sipush 30000, 3) := by decide +kernel
theorem dX8_valueOf_122 : decode cX8_valueOf 122 = .ok (.goto 5, 3) := by decide +kernel
theorem dX8_valueOf_125 : decode cX8_valueOf 125 = .ok (.bipush 7, 2) := by decide +kernel
theorem dX8_valueOf_127 : decode cX8_valueOf 127 = .ok (.istore 6, 2) := by decide +kernel
theorem dX8_valueOf_129 : decode cX8_valueOf 129 = .ok (.iload 4, 2) := by decide +kernel
theorem dX8_valueOf_131 : decode cX8_valueOf 131 = .ok (.iconst (-1), 1) := by decide +kernel
theorem dX8_valueOf_132 : decode cX8_valueOf 132 = .ok (.if_icmp .eq 20, 3) := by decide +kernel
theorem dX8_valueOf_135 : decode cX8_valueOf 135 = .ok (.iload 4, 2) := by decide +kernel
theorem dX8_valueOf_137 : decode cX8_valueOf 137 = .ok (.iload 5, 2) := by decide +kernel
theorem dX8_valueOf_139 : decode cX8_valueOf 139 = .ok (.iload 6, 2) := by decide +kernel
theorem dX8_valueOf_141 : decode cX8_valueOf 141 = .ok (.invokestatic 127, 3) := by decide +kernel
theorem dX8_valueOf_144 : decode cX8_valueOf 144 = .ok (.ifCond .eq 8, 3) := by decide +kernel
theorem dX8_valueOf_147 : decode cX8_valueOf 147 = .ok (.iload 4, 2) := by decide +kernel
theorem dX8_valueOf_149 : decode cX8_valueOf 149 = .ok (.goto 4, 3) := by decide +kernel
theorem dX8_valueOf_152 : decode cX8_valueOf 152 = .ok (.iconst (-1), 1) := by decide +kernel
theorem dX8_valueOf_153 : decode cX8_valueOf 153 = .ok (.ireturn, 1) := by decide +kernel
theorem dX8_keyOf_0 : decode cX8_keyOf 0 = .ok (.iconst (-1), 1) := by decide +kernel
theorem dX8_keyOf_1 : decode cX8_keyOf 1 = .ok (.istore_n 3, 1) := by decide +kernel
theorem dX8_keyOf_2 : decode cX8_keyOf 2 = .ok (.iconst 0, 1) := by decide +kernel
theorem dX8_keyOf_3 : decode cX8_keyOf 3 = .ok (.istore 4, 2) := by decide +kernel
theorem dX8_keyOf_5 : decode cX8_keyOf 5 = .ok (.iload 4, 2) := by decide +kernel
theorem dX8_keyOf_7 : decode cX8_keyOf 7 = .ok (.bipush 6, 2) := by decide +kernel
theorem dX8_keyOf_9 : decode cX8_keyOf 9 = .ok (.if_icmp .ge 52, 3) := by decide +kernel
theorem dX8_keyOf_12 : decode cX8_keyOf 12 = .ok (.iload_n 2, 1) := by decide +kernel
theorem dX8_keyOf_13 : decode cX8_keyOf 13 = .ok (.iload_n 1, 1) := by decide +kernel
theorem dX8_keyOf_14 : decode cX8_keyOf 14 = .ok (.isub, 1) := by decide +kernel
theorem dX8_keyOf_15 : decode cX8_keyOf 15 = .ok (.iconst 2, 1) := by decide +kernel
theorem dX8_keyOf_16 : decode cX8_keyOf 16 = .ok (.if_icmp .lt 37, 3) := by decide +kernel
theorem dX8_keyOf_19 : decode cX8_keyOf 19 = .ok (.aload_n 0, 1) := by decide +kernel
theorem dX8_keyOf_20 : decode cX8_keyOf 20 = .ok (.getfield 7, 3) := by decide +kernel
theorem dX8_keyOf_23 : decode cX8_keyOf 23 = .ok (.iload_n 1, 1) := by decide +kernel
theorem dX8_keyOf_24 : decode cX8_keyOf 24 = .ok (.caload, 1) := by decide +kernel
theorem dX8_keyOf_25 : decode cX8_keyOf 25 = .ok (.aload_n 0, 1) := by decide +kernel
theorem dX8_keyOf_26 : decode cX8_keyOf 26 = .ok (.getfield 13, 3) := by decide +kernel
theorem dX8_keyOf_29 : decode cX8_keyOf 29 = .ok (.iload 4, 2) := by decide +kernel
theorem dX8_keyOf_31 : decode cX8_keyOf 31 = .ok (.caload, 1) := by decide +kernel
theorem dX8_keyOf_32 : decode cX8_keyOf 32 = .ok (.if_icmp .ne 21, 3) := by decide +kernel
theorem dX8_keyOf_35 : decode cX8_keyOf 35 = .ok (.aload_n 0, 1) := by decide +kernel
theorem dX8_keyOf_36 : decode cX8_keyOf 36 = .ok (.getfield 7, 3) := by decide +kernel
theorem dX8_keyOf_39 : decode cX8_keyOf 39 = .ok (.iload_n 1, 1) := by decide +kernel
theorem dX8_keyOf_40 : decode cX8_keyOf 40 = .ok (.iconst 1, 1) := by decide +kernel
theorem dX8_keyOf_41 : decode cX8_keyOf 41 = .ok (.iadd, 1) := by decide +kernel
theorem dX8_keyOf_42 : decode cX8_keyOf 42 = .ok (.caload, 1) := by decide +kernel
theorem dX8_keyOf_43 : decode cX8_keyOf 43 = .ok (.bipush 61, 2) := by decide +kernel
theorem dX8_keyOf_45 : decode cX8_keyOf 45 = .ok (.if_icmp .ne 8, 3) := by decide +kernel
theorem dX8_keyOf_48 : decode cX8_keyOf 48 = .ok (.iload 4, 2) := by decide +kernel
theorem dX8_keyOf_50 : decode cX8_keyOf 50 = .ok (.goto 4, 3) := by decide +kernel
theorem dX8_keyOf_53 : decode cX8_keyOf 53 = .ok (.iload_n 3, 1) := by decide +kernel
theorem dX8_keyOf_54 : decode cX8_keyOf 54 = .ok (.istore_n 3, 1) := by decide +kernel
theorem dX8_keyOf_55 : decode cX8_keyOf 55 = .ok (.iinc 4 1, 3) := by decide +kernel
theorem dX8_keyOf_58 : decode cX8_keyOf 58 = .ok (.goto (-53), 3) := by decide +kernel
theorem dX8_keyOf_61 : decode cX8_keyOf 61 = .ok (.iload_n 3, 1) := by decide +kernel
theorem dX8_keyOf_62 : decode cX8_keyOf 62 = .ok (.ireturn, 1) := by decide +kernel
theorem dX8_fails_0 : decode cX8_fails 0 = .ok (.aload_n 0, 1) := by decide +kernel
theorem dX8_fails_1 : decode cX8_fails 1 = .ok (.getfield 138, 3) := by decide +kernel
theorem dX8_fails_4 : decode cX8_fails 4 = .ok (.ifCond .ne 13, 3) := by decide +kernel
theorem dX8_fails_7 : decode cX8_fails 7 = .ok (.aload_n 0, 1) := by decide +kernel
theorem dX8_fails_8 : decode cX8_fails 8 = .ok (.iload_n 1, 1) := by decide +kernel
theorem dX8_fails_9 : decode cX8_fails 9 = .ok (.putfield 138, 3) := by decide +kernel
theorem dX8_fails_12 : decode cX8_fails 12 = .ok (.aload_n 0, 1) := by decide +kernel
theorem dX8_fails_13 : decode cX8_fails 13 = .ok (.iload_n 2, 1) := by decide +kernel
theorem dX8_fails_14 : decode cX8_fails 14 = .ok (.putfield 141, 3) := by decide +kernel
theorem dX8_fails_17 : decode cX8_fails 17 = .ok (.return_, 1) := by decide +kernel
theorem dX8_readPart_0 : decode cX8_readPart 0 = .ok (.aload_n 0, 1) := by decide +kernel
theorem dX8_readPart_1 : decode cX8_readPart 1 = .ok (.iload_n 2, 1) := by decide +kernel
theorem dX8_readPart_2 : decode cX8_readPart 2 = .ok (.iload_n 3, 1) := by decide +kernel
theorem dX8_readPart_3 : decode cX8_readPart 3 = .ok (.invokevirtual 144, 3) := by decide +kernel
theorem dX8_readPart_6 : decode cX8_readPart 6 = .ok (.istore 4, 2) := by decide +kernel
theorem dX8_readPart_8 : decode cX8_readPart 8 = .ok (.iload 4, 2) := by decide +kernel
theorem dX8_readPart_10 : decode cX8_readPart 10 = .ok (.iconst (-1), 1) := by decide +kernel
theorem dX8_readPart_11 : decode cX8_readPart 11 = .ok (.if_icmp .ne 12, 3) := by decide +kernel
theorem dX8_readPart_14 : decode cX8_readPart 14 = .ok (.aload_n 0, 1) := by decide +kernel
theorem dX8_readPart_15 : decode cX8_readPart 15 = .ok (.iconst 1, 1) := by decide +kernel
theorem dX8_readPart_16 : decode cX8_readPart 16 = .ok (.iload_n 1, 1) := by decide +kernel
theorem dX8_readPart_17 : decode cX8_readPart 17 = .ok (.invokevirtual 148, 3) := by decide +kernel
theorem dX8_readPart_20 : decode cX8_readPart 20 = .ok (.goto 59, 3) := by decide +kernel
theorem dX8_readPart_23 : decode cX8_readPart 23 = .ok (.aload_n 0, 1) := by decide +kernel
theorem dX8_readPart_24 : decode cX8_readPart 24 = .ok (.getfield 19, 3) := by decide +kernel
theorem dX8_readPart_27 : decode cX8_readPart 27 = .ok (.iload 4, 2) := by decide +kernel
theorem dX8_readPart_29 : decode cX8_readPart 29 = .ok (.iaload, 1) := by decide +kernel
theorem dX8_readPart_30 : decode cX8_readPart 30 = .ok (.iconst (-1), 1) := by decide +kernel
theorem dX8_readPart_31 : decode cX8_readPart 31 = .ok (.if_icmp .eq 13, 3) := by decide +kernel
theorem dX8_readPart_34 : decode cX8_readPart 34 = .ok (.aload_n 0, 1) := by decide +kernel
theorem dX8_readPart_35 : decode cX8_readPart 35 = .ok (.iconst 2, 1) := by decide +kernel
theorem dX8_readPart_36 : decode cX8_readPart 36 = .ok (.iload 4, 2) := by decide +kernel
theorem dX8_readPart_38 : decode cX8_readPart 38 = .ok (.invokevirtual 148, 3) := by decide +kernel
theorem dX8_readPart_41 : decode cX8_readPart 41 = .ok (.goto 38, 3) := by decide +kernel
theorem dX8_readPart_44 : decode cX8_readPart 44 = .ok (.aload_n 0, 1) := by decide +kernel
theorem dX8_readPart_45 : decode cX8_readPart 45 = .ok (.getfield 19, 3) := by decide +kernel
theorem dX8_readPart_48 : decode cX8_readPart 48 = .ok (.iload 4, 2) := by decide +kernel
theorem dX8_readPart_50 : decode cX8_readPart 50 = .ok (.aload_n 0, 1) := by decide +kernel
theorem dX8_readPart_51 : decode cX8_readPart 51 = .ok (.iload 4, 2) := by decide +kernel
theorem dX8_readPart_53 : decode cX8_readPart 53 = .ok (.iload_n 2, 1) := by decide +kernel
theorem dX8_readPart_54 : decode cX8_readPart 54 = .ok (.iconst 2, 1) := by decide +kernel
theorem dX8_readPart_55 : decode cX8_readPart 55 = .ok (.iadd, 1) := by decide +kernel
theorem dX8_readPart_56 : decode cX8_readPart 56 = .ok (.iload_n 3, 1) := by decide +kernel
theorem dX8_readPart_57 : decode cX8_readPart 57 = .ok (.invokevirtual 151, 3) := by decide +kernel
theorem dX8_readPart_60 : decode cX8_readPart 60 = .ok (.iastore, 1) := by decide +kernel
theorem dX8_readPart_61 : decode cX8_readPart 61 = .ok (.aload_n 0, 1) := by decide +kernel
theorem dX8_readPart_62 : decode cX8_readPart 62 = .ok (.getfield 19, 3) := by decide +kernel
theorem dX8_readPart_65 : decode cX8_readPart 65 = .ok (.iload 4, 2) := by decide +kernel
theorem dX8_readPart_67 : decode cX8_readPart 67 = .ok (.iaload, 1) := by decide +kernel
theorem dX8_readPart_68 : decode cX8_readPart 68 = .ok (.iconst (-1), 1) := by decide +kernel
theorem dX8_readPart_69 : decode cX8_readPart 69 = .ok (.if_icmp .ne 10, 3) := by decide +kernel
theorem dX8_readPart_72 : decode cX8_readPart 72 = .ok (.aload_n 0, 1) := by decide +kernel
theorem dX8_readPart_73 : decode cX8_readPart 73 = .ok (.iconst 3, 1) := by decide +kernel
theorem dX8_readPart_74 : decode cX8_readPart 74 = .ok (.iload 4, 2) := by decide +kernel
theorem dX8_readPart_76 : decode cX8_readPart 76 = .ok (.invokevirtual 148, 3) := by decide +kernel
theorem dX8_readPart_79 : decode cX8_readPart 79 = .ok (.return_, 1) := by decide +kernel
theorem dX8_reads_0 : decode cX8_reads 0 = .ok (.aload_n 0, 1) := by decide +kernel
theorem dX8_reads_1 : decode cX8_reads 1 = .ok (.iconst 0, 1) := by decide +kernel
theorem dX8_reads_2 : decode cX8_reads 2 = .ok (.putfield 138, 3) := by decide +kernel
theorem dX8_reads_5 : decode cX8_reads 5 = .ok (.iconst 0, 1) := by decide +kernel
theorem dX8_reads_6 : decode cX8_reads 6 = .ok (.istore_n 1, 1) := by decide +kernel
theorem dX8_reads_7 : decode cX8_reads 7 = .ok (.iload_n 1, 1) := by decide +kernel
theorem dX8_reads_8 : decode cX8_reads 8 = .ok (.bipush 6, 2) := by decide +kernel
theorem dX8_reads_10 : decode cX8_reads 10 = .ok (.if_icmp .ge 16, 3) := by decide +kernel
theorem dX8_reads_13 : decode cX8_reads 13 = .ok (.aload_n 0, 1) := by decide +kernel
theorem dX8_reads_14 : decode cX8_reads 14 = .ok (.getfield 19, 3) := by decide +kernel
theorem dX8_reads_17 : decode cX8_reads 17 = .ok (.iload_n 1, 1) := by decide +kernel
theorem dX8_reads_18 : decode cX8_reads 18 = .ok (.iconst (-1), 1) := by decide +kernel
theorem dX8_reads_19 : decode cX8_reads 19 = .ok (.iastore, 1) := by decide +kernel
theorem dX8_reads_20 : decode cX8_reads 20 = .ok (.iinc 1 1, 3) := by decide +kernel
theorem dX8_reads_23 : decode cX8_reads 23 = .ok (.goto (-16), 3) := by decide +kernel
theorem dX8_reads_26 : decode cX8_reads 26 = .ok (.iconst 0, 1) := by decide +kernel
theorem dX8_reads_27 : decode cX8_reads 27 = .ok (.istore_n 1, 1) := by decide +kernel
theorem dX8_reads_28 : decode cX8_reads 28 = .ok (.iconst 0, 1) := by decide +kernel
theorem dX8_reads_29 : decode cX8_reads 29 = .ok (.istore_n 2, 1) := by decide +kernel
theorem dX8_reads_30 : decode cX8_reads 30 = .ok (.iload_n 2, 1) := by decide +kernel
theorem dX8_reads_31 : decode cX8_reads 31 = .ok (.aload_n 0, 1) := by decide +kernel
theorem dX8_reads_32 : decode cX8_reads 32 = .ok (.getfield 131, 3) := by decide +kernel
theorem dX8_reads_35 : decode cX8_reads 35 = .ok (.if_icmp .gt 54, 3) := by decide +kernel
theorem dX8_reads_38 : decode cX8_reads 38 = .ok (.aload_n 0, 1) := by decide +kernel
theorem dX8_reads_39 : decode cX8_reads 39 = .ok (.getfield 138, 3) := by decide +kernel
theorem dX8_reads_42 : decode cX8_reads 42 = .ok (.ifCond .ne 47, 3) := by decide +kernel
theorem dX8_reads_45 : decode cX8_reads 45 = .ok (.iload_n 2, 1) := by decide +kernel
theorem dX8_reads_46 : decode cX8_reads 46 = .ok (.istore_n 3, 1) := by decide +kernel
theorem dX8_reads_47 : decode cX8_reads 47 = .ok (.iload_n 3, 1) := by decide +kernel
theorem dX8_reads_48 : decode cX8_reads 48 = .ok (.aload_n 0, 1) := by decide +kernel
theorem dX8_reads_49 : decode cX8_reads 49 = .ok (.getfield 131, 3) := by decide +kernel
theorem dX8_reads_52 : decode cX8_reads 52 = .ok (.if_icmp .ge 20, 3) := by decide +kernel
theorem dX8_reads_55 : decode cX8_reads 55 = .ok (.aload_n 0, 1) := by decide +kernel
theorem dX8_reads_56 : decode cX8_reads 56 = .ok (.getfield 7, 3) := by decide +kernel
theorem dX8_reads_59 : decode cX8_reads 59 = .ok (.iload_n 3, 1) := by decide +kernel
theorem dX8_reads_60 : decode cX8_reads 60 = .ok (.caload, 1) := by decide +kernel
theorem dX8_reads_61 : decode cX8_reads 61 = .ok (.bipush 59, 2) := by decide +kernel
theorem dX8_reads_63 : decode cX8_reads 63 = .ok (.if_icmp .eq 9, 3) := by decide +kernel
theorem dX8_reads_66 : decode cX8_reads 66 = .ok (.iinc 3 1, 3) := by decide +kernel
theorem dX8_reads_69 : decode cX8_reads 69 = .ok (.goto (-22), 3) := by decide +kernel
theorem dX8_reads_72 : decode cX8_reads 72 = .ok (.aload_n 0, 1) := by decide +kernel
theorem dX8_reads_73 : decode cX8_reads 73 = .ok (.iload_n 1, 1) := by decide +kernel
theorem dX8_reads_74 : decode cX8_reads 74 = .ok (.iload_n 2, 1) := by decide +kernel
theorem dX8_reads_75 : decode cX8_reads 75 = .ok (.iload_n 3, 1) := by decide +kernel
theorem dX8_reads_76 : decode cX8_reads 76 = .ok (.invokevirtual 154, 3) := by decide +kernel
theorem dX8_reads_79 : decode cX8_reads 79 = .ok (.iinc 1 1, 3) := by decide +kernel
theorem dX8_reads_82 : decode cX8_reads 82 = .ok (.iload_n 3, 1) := by decide +kernel
theorem dX8_reads_83 : decode cX8_reads 83 = .ok (.iconst 1, 1) := by decide +kernel
theorem dX8_reads_84 : decode cX8_reads 84 = .ok (.iadd, 1) := by decide +kernel
theorem dX8_reads_85 : decode cX8_reads 85 = .ok (.istore_n 2, 1) := by decide +kernel
theorem dX8_reads_86 : decode cX8_reads 86 = .ok (.goto (-56), 3) := by decide +kernel
theorem dX8_reads_89 : decode cX8_reads 89 = .ok (.iconst 0, 1) := by decide +kernel
theorem dX8_reads_90 : decode cX8_reads 90 = .ok (.istore_n 3, 1) := by decide +kernel
theorem dX8_reads_91 : decode cX8_reads 91 = .ok (.iload_n 3, 1) := by decide +kernel
theorem dX8_reads_92 : decode cX8_reads 92 = .ok (.iconst 5, 1) := by decide +kernel
theorem dX8_reads_93 : decode cX8_reads 93 = .ok (.if_icmp .ge 25, 3) := by decide +kernel
theorem dX8_reads_96 : decode cX8_reads 96 = .ok (.aload_n 0, 1) := by decide +kernel
theorem dX8_reads_97 : decode cX8_reads 97 = .ok (.getfield 19, 3) := by decide +kernel
theorem dX8_reads_100 : decode cX8_reads 100 = .ok (.iload_n 3, 1) := by decide +kernel
theorem dX8_reads_101 : decode cX8_reads 101 = .ok (.iaload, 1) := by decide +kernel
theorem dX8_reads_102 : decode cX8_reads 102 = .ok (.iconst (-1), 1) := by decide +kernel
theorem dX8_reads_103 : decode cX8_reads 103 = .ok (.if_icmp .ne 9, 3) := by decide +kernel
theorem dX8_reads_106 : decode cX8_reads 106 = .ok (.aload_n 0, 1) := by decide +kernel
theorem dX8_reads_107 : decode cX8_reads 107 = .ok (.iconst 4, 1) := by decide +kernel
theorem dX8_reads_108 : decode cX8_reads 108 = .ok (.iload_n 3, 1) := by decide +kernel
theorem dX8_reads_109 : decode cX8_reads 109 = .ok (.invokevirtual 148, 3) := by decide +kernel
theorem dX8_reads_112 : decode cX8_reads 112 = .ok (.iinc 3 1, 3) := by decide +kernel
theorem dX8_reads_115 : decode cX8_reads 115 = .ok (.goto (-24), 3) := by decide +kernel
theorem dX8_reads_118 : decode cX8_reads 118 = .ok (.aload_n 0, 1) := by decide +kernel
theorem dX8_reads_119 : decode cX8_reads 119 = .ok (.getfield 138, 3) := by decide +kernel
theorem dX8_reads_122 : decode cX8_reads 122 = .ok (.ifCond .ne 7, 3) := by decide +kernel
theorem dX8_reads_125 : decode cX8_reads 125 = .ok (.iconst 1, 1) := by decide +kernel
theorem dX8_reads_126 : decode cX8_reads 126 = .ok (.goto 4, 3) := by decide +kernel
theorem dX8_reads_129 : decode cX8_reads 129 = .ok (.iconst 0, 1) := by decide +kernel
theorem dX8_reads_130 : decode cX8_reads 130 = .ok (.ireturn, 1) := by decide +kernel
theorem dX8_tells_0 : decode cX8_tells 0 = .ok (.aload_n 0, 1) := by decide +kernel
theorem dX8_tells_1 : decode cX8_tells 1 = .ok (.iconst 0, 1) := by decide +kernel
theorem dX8_tells_2 : decode cX8_tells 2 = .ok (.putfield 158, 3) := by decide +kernel
theorem dX8_tells_5 : decode cX8_tells 5 = .ok (.aload_n 0, 1) := by decide +kernel
theorem dX8_tells_6 : decode cX8_tells 6 = .ok (.invokevirtual 161, 3) := by decide +kernel
theorem dX8_tells_9 : decode cX8_tells 9 = .ok (.ifCond .eq 4, 3) := by decide +kernel
theorem dX8_tells_12 : decode cX8_tells 12 = .ok (.return_, 1) := by decide +kernel
theorem dX8_tells_13 : decode cX8_tells 13 = .ok (.aload_n 0, 1) := by decide +kernel
theorem dX8_tells_14 : decode cX8_tells 14 = .ok (.getfield 138, 3) := by decide +kernel
theorem dX8_tells_17 : decode cX8_tells 17 = .ok (.iconst 1, 1) := by decide +kernel
theorem dX8_tells_18 : decode cX8_tells 18 = .ok (.if_icmp .ne 7, 3) := by decide +kernel
theorem dX8_tells_21 : decode cX8_tells 21 = .ok (.iconst 0, 1) := by decide +kernel
theorem dX8_tells_22 : decode cX8_tells 22 = .ok (.goto 31, 3) := by decide +kernel
theorem dX8_tells_25 : decode cX8_tells 25 = .ok (.aload_n 0, 1) := by decide +kernel
theorem dX8_tells_26 : decode cX8_tells 26 = .ok (.getfield 138, 3) := by decide +kernel
theorem dX8_tells_29 : decode cX8_tells 29 = .ok (.iconst 2, 1) := by decide +kernel
theorem dX8_tells_30 : decode cX8_tells 30 = .ok (.if_icmp .ne 8, 3) := by decide +kernel
theorem dX8_tells_33 : decode cX8_tells 33 = .ok (.bipush 7, 2) := by decide +kernel
theorem dX8_tells_35 : decode cX8_tells 35 = .ok (.goto 18, 3) := by decide +kernel
theorem dX8_tells_38 : decode cX8_tells 38 = .ok (.aload_n 0, 1) := by decide +kernel
theorem dX8_tells_39 : decode cX8_tells 39 = .ok (.getfield 138, 3) := by decide +kernel
theorem dX8_tells_42 : decode cX8_tells 42 = .ok (.iconst 3, 1) := by decide +kernel
theorem dX8_tells_43 : decode cX8_tells 43 = .ok (.if_icmp .ne 8, 3) := by decide +kernel
theorem dX8_tells_46 : decode cX8_tells 46 = .ok (.bipush 14, 2) := by decide +kernel
theorem dX8_tells_48 : decode cX8_tells 48 = .ok (.goto 5, 3) := by decide +kernel
theorem dX8_tells_51 : decode cX8_tells 51 = .ok (.bipush 17, 2) := by decide +kernel
theorem dX8_tells_53 : decode cX8_tells 53 = .ok (.istore_n 1, 1) := by decide +kernel
theorem dX8_tells_54 : decode cX8_tells 54 = .ok (.aload_n 0, 1) := by decide +kernel
theorem dX8_tells_55 : decode cX8_tells 55 = .ok (.getfield 138, 3) := by decide +kernel
theorem dX8_tells_58 : decode cX8_tells 58 = .ok (.iconst 1, 1) := by decide +kernel
theorem dX8_tells_59 : decode cX8_tells 59 = .ok (.if_icmp .ne 8, 3) := by decide +kernel
theorem dX8_tells_62 : decode cX8_tells 62 = .ok (.bipush 7, 2) := by decide +kernel
theorem dX8_tells_64 : decode cX8_tells 64 = .ok (.goto 31, 3) := by decide +kernel
theorem dX8_tells_67 : decode cX8_tells 67 = .ok (.aload_n 0, 1) := by decide +kernel
theorem dX8_tells_68 : decode cX8_tells 68 = .ok (.getfield 138, 3) := by decide +kernel
theorem dX8_tells_71 : decode cX8_tells 71 = .ok (.iconst 2, 1) := by decide +kernel
theorem dX8_tells_72 : decode cX8_tells 72 = .ok (.if_icmp .ne 8, 3) := by decide +kernel
theorem dX8_tells_75 : decode cX8_tells 75 = .ok (.bipush 14, 2) := by decide +kernel
theorem dX8_tells_77 : decode cX8_tells 77 = .ok (.goto 18, 3) := by decide +kernel
theorem dX8_tells_80 : decode cX8_tells 80 = .ok (.aload_n 0, 1) := by decide +kernel
theorem dX8_tells_81 : decode cX8_tells 81 = .ok (.getfield 138, 3) := by decide +kernel
theorem dX8_tells_84 : decode cX8_tells 84 = .ok (.iconst 3, 1) := by decide +kernel
theorem dX8_tells_85 : decode cX8_tells 85 = .ok (.if_icmp .ne 8, 3) := by decide +kernel
theorem dX8_tells_88 : decode cX8_tells 88 = .ok (.bipush 17, 2) := by decide +kernel
theorem dX8_tells_90 : decode cX8_tells 90 = .ok (.goto 5, 3) := by decide +kernel
theorem dX8_tells_93 : decode cX8_tells 93 = .ok (.bipush 24, 2) := by decide +kernel
theorem dX8_tells_95 : decode cX8_tells 95 = .ok (.istore_n 2, 1) := by decide +kernel
theorem dX8_tells_96 : decode cX8_tells 96 = .ok (.iload_n 1, 1) := by decide +kernel
theorem dX8_tells_97 : decode cX8_tells 97 = .ok (.istore_n 3, 1) := by decide +kernel
theorem dX8_tells_98 : decode cX8_tells 98 = .ok (.iload_n 3, 1) := by decide +kernel
theorem dX8_tells_99 : decode cX8_tells 99 = .ok (.iload_n 2, 1) := by decide +kernel
theorem dX8_tells_100 : decode cX8_tells 100 = .ok (.if_icmp .ge 34, 3) := by decide +kernel
theorem dX8_tells_103 : decode cX8_tells 103 = .ok (.aload_n 0, 1) := by decide +kernel
theorem dX8_tells_104 : decode cX8_tells 104 = .ok (.getfield 23, 3) := by decide +kernel
theorem dX8_tells_107 : decode cX8_tells 107 = .ok (.aload_n 0, 1) := by decide +kernel
theorem dX8_tells_108 : decode cX8_tells 108 = .ok (.getfield 158, 3) := by decide +kernel
theorem dX8_tells_111 : decode cX8_tells 111 = .ok (.aload_n 0, 1) := by decide +kernel
theorem dX8_tells_112 : decode cX8_tells 112 = .ok (.getfield 16, 3) := by decide +kernel
theorem dX8_tells_115 : decode cX8_tells 115 = .ok (.iload_n 3, 1) := by decide +kernel
theorem dX8_tells_116 : decode cX8_tells 116 = .ok (.caload, 1) := by decide +kernel
theorem dX8_tells_117 : decode cX8_tells 117 = .ok (.castore, 1) := by decide +kernel
theorem dX8_tells_118 : decode cX8_tells 118 = .ok (.aload_n 0, 1) := by decide +kernel
theorem dX8_tells_119 : decode cX8_tells 119 = .ok (.dup, 1) := by decide +kernel
theorem dX8_tells_120 : decode cX8_tells 120 = .ok (.getfield 158, 3) := by decide +kernel
theorem dX8_tells_123 : decode cX8_tells 123 = .ok (.iconst 1, 1) := by decide +kernel
theorem dX8_tells_124 : decode cX8_tells 124 = .ok (.iadd, 1) := by decide +kernel
theorem dX8_tells_125 : decode cX8_tells 125 = .ok (.putfield 158, 3) := by decide +kernel
theorem dX8_tells_128 : decode cX8_tells 128 = .ok (.iinc 3 1, 3) := by decide +kernel
theorem dX8_tells_131 : decode cX8_tells 131 = .ok (.goto (-33), 3) := by decide +kernel
theorem dX8_tells_134 : decode cX8_tells 134 = .ok (.aload_n 0, 1) := by decide +kernel
theorem dX8_tells_135 : decode cX8_tells 135 = .ok (.getfield 23, 3) := by decide +kernel
theorem dX8_tells_138 : decode cX8_tells 138 = .ok (.aload_n 0, 1) := by decide +kernel
theorem dX8_tells_139 : decode cX8_tells 139 = .ok (.getfield 158, 3) := by decide +kernel
theorem dX8_tells_142 : decode cX8_tells 142 = .ok (.bipush 32, 2) := by decide +kernel
theorem dX8_tells_144 : decode cX8_tells 144 = .ok (.castore, 1) := by decide +kernel
theorem dX8_tells_145 : decode cX8_tells 145 = .ok (.aload_n 0, 1) := by decide +kernel
theorem dX8_tells_146 : decode cX8_tells 146 = .ok (.dup, 1) := by decide +kernel
theorem dX8_tells_147 : decode cX8_tells 147 = .ok (.getfield 158, 3) := by decide +kernel
theorem dX8_tells_150 : decode cX8_tells 150 = .ok (.iconst 1, 1) := by decide +kernel
theorem dX8_tells_151 : decode cX8_tells 151 = .ok (.iadd, 1) := by decide +kernel
theorem dX8_tells_152 : decode cX8_tells 152 = .ok (.putfield 158, 3) := by decide +kernel
theorem dX8_tells_155 : decode cX8_tells 155 = .ok (.aload_n 0, 1) := by decide +kernel
theorem dX8_tells_156 : decode cX8_tells 156 = .ok (.getfield 138, 3) := by decide +kernel
theorem dX8_tells_159 : decode cX8_tells 159 = .ok (.iconst 1, 1) := by decide +kernel
theorem dX8_tells_160 : decode cX8_tells 160 = .ok (.if_icmp .ne 42, 3) := by decide +kernel
theorem dX8_tells_163 : decode cX8_tells 163 = .ok (.aload_n 0, 1) := by decide +kernel
theorem dX8_tells_164 : decode cX8_tells 164 = .ok (.getfield 141, 3) := by decide +kernel
theorem dX8_tells_167 : decode cX8_tells 167 = .ok (.bipush 9, 2) := by decide +kernel
theorem dX8_tells_169 : decode cX8_tells 169 = .ok (.if_icmp .le 33, 3) := by decide +kernel
theorem dX8_tells_172 : decode cX8_tells 172 = .ok (.aload_n 0, 1) := by decide +kernel
theorem dX8_tells_173 : decode cX8_tells 173 = .ok (.getfield 23, 3) := by decide +kernel
theorem dX8_tells_176 : decode cX8_tells 176 = .ok (.aload_n 0, 1) := by decide +kernel
theorem dX8_tells_177 : decode cX8_tells 177 = .ok (.getfield 158, 3) := by decide +kernel
theorem dX8_tells_180 : decode cX8_tells 180 = .ok (.bipush 48, 2) := by decide +kernel
theorem dX8_tells_182 : decode cX8_tells 182 = .ok (.aload_n 0, 1) := by decide +kernel
theorem dX8_tells_183 : decode cX8_tells 183 = .ok (.getfield 141, 3) := by decide +kernel
theorem dX8_tells_186 : decode cX8_tells 186 = .ok (.bipush 10, 2) := by decide +kernel
theorem dX8_tells_188 : decode cX8_tells 188 = .ok (.idiv, 1) := by decide +kernel
theorem dX8_tells_189 : decode cX8_tells 189 = .ok (.iadd, 1) := by decide +kernel
theorem dX8_tells_190 : decode cX8_tells 190 = .ok (.i2c, 1) := by decide +kernel
theorem dX8_tells_191 : decode cX8_tells 191 = .ok (.castore, 1) := by decide +kernel
theorem dX8_tells_192 : decode cX8_tells 192 = .ok (.aload_n 0, 1) := by decide +kernel
theorem dX8_tells_193 : decode cX8_tells 193 = .ok (.dup, 1) := by decide +kernel
theorem dX8_tells_194 : decode cX8_tells 194 = .ok (.getfield 158, 3) := by decide +kernel
theorem dX8_tells_197 : decode cX8_tells 197 = .ok (.iconst 1, 1) := by decide +kernel
theorem dX8_tells_198 : decode cX8_tells 198 = .ok (.iadd, 1) := by decide +kernel
theorem dX8_tells_199 : decode cX8_tells 199 = .ok (.putfield 158, 3) := by decide +kernel
theorem dX8_tells_202 : decode cX8_tells 202 = .ok (.aload_n 0, 1) := by decide +kernel
theorem dX8_tells_203 : decode cX8_tells 203 = .ok (.getfield 23, 3) := by decide +kernel
theorem dX8_tells_206 : decode cX8_tells 206 = .ok (.aload_n 0, 1) := by decide +kernel
theorem dX8_tells_207 : decode cX8_tells 207 = .ok (.getfield 158, 3) := by decide +kernel
theorem dX8_tells_210 : decode cX8_tells 210 = .ok (.aload_n 0, 1) := by decide +kernel
theorem dX8_tells_211 : decode cX8_tells 211 = .ok (.getfield 138, 3) := by decide +kernel
theorem dX8_tells_214 : decode cX8_tells 214 = .ok (.iconst 1, 1) := by decide +kernel
theorem dX8_tells_215 : decode cX8_tells 215 = .ok (.if_icmp .ne 17, 3) := by decide +kernel
theorem dX8_tells_218 : decode cX8_tells 218 = .ok (.bipush 48, 2) := by decide +kernel
theorem dX8_tells_220 : decode cX8_tells 220 = .ok (.aload_n 0, 1) := by decide +kernel
theorem dX8_tells_221 : decode cX8_tells 221 = .ok (.getfield 141, 3) := by decide +kernel
theorem dX8_tells_224 : decode cX8_tells 224 = .ok (.bipush 10, 2) := by decide +kernel
theorem dX8_tells_226 : decode cX8_tells 226 = .ok (.irem, 1) := by decide +kernel
theorem dX8_tells_227 : decode cX8_tells 227 = .ok (.iadd, 1) := by decide +kernel
theorem dX8_tells_228 : decode cX8_tells 228 = .ok (.i2c, 1) := by decide +kernel
theorem dX8_tells_229 : decode cX8_tells 229 = .ok (.goto 12, 3) := by decide +kernel
theorem dX8_tells_232 : decode cX8_tells 232 = .ok (.aload_n 0, 1) := by decide +kernel
theorem dX8_tells_233 : decode cX8_tells 233 = .ok (.getfield 13, 3) := by decide +kernel
theorem dX8_tells_236 : decode cX8_tells 236 = .ok (.aload_n 0, 1) := by decide +kernel
theorem dX8_tells_237 : decode cX8_tells 237 = .ok (.getfield 141, 3) := by decide +kernel
theorem dX8_tells_240 : decode cX8_tells 240 = .ok (.caload, 1) := by decide +kernel
theorem dX8_tells_241 : decode cX8_tells 241 = .ok (.castore, 1) := by decide +kernel
theorem dX8_tells_242 : decode cX8_tells 242 = .ok (.aload_n 0, 1) := by decide +kernel
theorem dX8_tells_243 : decode cX8_tells 243 = .ok (.dup, 1) := by decide +kernel
theorem dX8_tells_244 : decode cX8_tells 244 = .ok (.getfield 158, 3) := by decide +kernel
theorem dX8_tells_247 : decode cX8_tells 247 = .ok (.iconst 1, 1) := by decide +kernel
theorem dX8_tells_248 : decode cX8_tells 248 = .ok (.iadd, 1) := by decide +kernel
theorem dX8_tells_249 : decode cX8_tells 249 = .ok (.putfield 158, 3) := by decide +kernel
theorem dX8_tells_252 : decode cX8_tells 252 = .ok (.return_, 1) := by decide +kernel
theorem dX8_isRight_0 : decode cX8_isRight 0 = .ok (.aload_n 0, 1) := by decide +kernel
theorem dX8_isRight_1 : decode cX8_isRight 1 = .ok (.iconst 0, 1) := by decide +kernel
theorem dX8_isRight_2 : decode cX8_isRight 2 = .ok (.putfield 123, 3) := by decide +kernel
theorem dX8_isRight_5 : decode cX8_isRight 5 = .ok (.aload_n 0, 1) := by decide +kernel
theorem dX8_isRight_6 : decode cX8_isRight 6 = .ok (.invokevirtual 161, 3) := by decide +kernel
theorem dX8_isRight_9 : decode cX8_isRight 9 = .ok (.ireturn, 1) := by decide +kernel
theorem dX8_faultLength_0 : decode cX8_faultLength 0 = .ok (.aload_n 0, 1) := by decide +kernel
theorem dX8_faultLength_1 : decode cX8_faultLength 1 = .ok (.iconst 0, 1) := by decide +kernel
theorem dX8_faultLength_2 : decode cX8_faultLength 2 = .ok (.putfield 123, 3) := by decide +kernel
theorem dX8_faultLength_5 : decode cX8_faultLength 5 = .ok (.aload_n 0, 1) := by decide +kernel
theorem dX8_faultLength_6 : decode cX8_faultLength 6 = .ok (.invokevirtual 165, 3) := by decide +kernel
theorem dX8_faultLength_9 : decode cX8_faultLength 9 = .ok (.aload_n 0, 1) := by decide +kernel
theorem dX8_faultLength_10 : decode cX8_faultLength 10 = .ok (.getfield 158, 3) := by decide +kernel
theorem dX8_faultLength_13 : decode cX8_faultLength 13 = .ok (.ireturn, 1) := by decide +kernel
theorem dX8_fault_0 : decode cX8_fault 0 = .ok (.aload_n 0, 1) := by decide +kernel
theorem dX8_fault_1 : decode cX8_fault 1 = .ok (.invokevirtual 165, 3) := by decide +kernel
theorem dX8_fault_4 : decode cX8_fault 4 = .ok (.aload_n 0, 1) := by decide +kernel
theorem dX8_fault_5 : decode cX8_fault 5 = .ok (.iload_n 1, 1) := by decide +kernel
theorem dX8_fault_6 : decode cX8_fault 6 = .ok (.iconst 0, 1) := by decide +kernel
theorem dX8_fault_7 : decode cX8_fault 7 = .ok (.aload_n 0, 1) := by decide +kernel
theorem dX8_fault_8 : decode cX8_fault 8 = .ok (.getfield 158, 3) := by decide +kernel
theorem dX8_fault_11 : decode cX8_fault 11 = .ok (.iconst 1, 1) := by decide +kernel
theorem dX8_fault_12 : decode cX8_fault 12 = .ok (.isub, 1) := by decide +kernel
theorem dX8_fault_13 : decode cX8_fault 13 = .ok (.invokestatic 127, 3) := by decide +kernel
theorem dX8_fault_16 : decode cX8_fault 16 = .ok (.ifCond .eq 7, 3) := by decide +kernel
theorem dX8_fault_19 : decode cX8_fault 19 = .ok (.iconst 0, 1) := by decide +kernel
theorem dX8_fault_20 : decode cX8_fault 20 = .ok (.goto 4, 3) := by decide +kernel
theorem dX8_fault_23 : decode cX8_fault 23 = .ok (.iconst 1, 1) := by decide +kernel
theorem dX8_fault_24 : decode cX8_fault 24 = .ok (.putfield 123, 3) := by decide +kernel
theorem dX8_fault_27 : decode cX8_fault 27 = .ok (.aload_n 0, 1) := by decide +kernel
theorem dX8_fault_28 : decode cX8_fault 28 = .ok (.getfield 123, 3) := by decide +kernel
theorem dX8_fault_31 : decode cX8_fault 31 = .ok (.ifCond .le 7, 3) := by decide +kernel
theorem dX8_fault_34 : decode cX8_fault 34 = .ok (.iconst 0, 1) := by decide +kernel
theorem dX8_fault_35 : decode cX8_fault 35 = .ok (.goto 9, 3) := by decide +kernel
theorem dX8_fault_38 : decode cX8_fault 38 = .ok (.aload_n 0, 1) := by decide +kernel
theorem dX8_fault_39 : decode cX8_fault 39 = .ok (.getfield 23, 3) := by decide +kernel
theorem dX8_fault_42 : decode cX8_fault 42 = .ok (.iload_n 1, 1) := by decide +kernel
theorem dX8_fault_43 : decode cX8_fault 43 = .ok (.caload, 1) := by decide +kernel
theorem dX8_fault_44 : decode cX8_fault 44 = .ok (.ireturn, 1) := by decide +kernel
theorem dX8_pass_0 : decode cX8_pass 0 = .ok (.aload_n 0, 1) := by decide +kernel
theorem dX8_pass_1 : decode cX8_pass 1 = .ok (.iload_n 1, 1) := by decide +kernel
theorem dX8_pass_2 : decode cX8_pass 2 = .ok (.iconst 1, 1) := by decide +kernel
theorem dX8_pass_3 : decode cX8_pass 3 = .ok (.sipush 500, 3) := by decide +kernel
theorem dX8_pass_6 : decode cX8_pass 6 = .ok (.invokestatic 127, 3) := by decide +kernel
theorem dX8_pass_9 : decode cX8_pass 9 = .ok (.ifCond .ne 7, 3) := by decide +kernel
theorem dX8_pass_12 : decode cX8_pass 12 = .ok (.iconst 1, 1) := by decide +kernel
theorem dX8_pass_13 : decode cX8_pass 13 = .ok (.goto 20, 3) := by decide +kernel
theorem dX8_pass_16 : decode cX8_pass 16 = .ok (.aload_n 0, 1) := by decide +kernel
theorem dX8_pass_17 : decode cX8_pass 17 = .ok (.getfield 168, 3) := by decide +kernel
theorem dX8_pass_20 : decode cX8_pass 20 = .ok (.iload_n 1, 1) := by decide +kernel
theorem dX8_pass_21 : decode cX8_pass 21 = .ok (.iadd, 1) := by decide +kernel
theorem dX8_pass_22 : decode cX8_pass 22 = .ok (.sipush 20000, 3) := by decide +kernel
theorem dX8_pass_25 : decode cX8_pass 25 = .ok (.if_icmp .le 7, 3) := by decide +kernel
theorem dX8_pass_28 : decode cX8_pass 28 = .ok (.iconst 2, 1) := by decide +kernel
theorem dX8_pass_29 : decode cX8_pass 29 = .ok (.goto 4, 3) := by decide +kernel
theorem dX8_pass_32 : decode cX8_pass 32 = .ok (.iconst 0, 1) := by decide +kernel
theorem dX8_pass_33 : decode cX8_pass 33 = .ok (.putfield 123, 3) := by decide +kernel
theorem dX8_pass_36 : decode cX8_pass 36 = .ok (.aload_n 0, 1) := by decide +kernel
theorem dX8_pass_37 : decode cX8_pass 37 = .ok (.dup, 1) := by decide +kernel
theorem dX8_pass_38 : decode cX8_pass 38 = .ok (.getfield 168, 3) := by decide +kernel
theorem dX8_pass_41 : decode cX8_pass 41 = .ok (.aload_n 0, 1) := by decide +kernel
theorem dX8_pass_42 : decode cX8_pass 42 = .ok (.getfield 123, 3) := by decide +kernel
theorem dX8_pass_45 : decode cX8_pass 45 = .ok (.ifCond .le 7, 3) := by decide +kernel
theorem dX8_pass_48 : decode cX8_pass 48 = .ok (.iconst 0, 1) := by decide +kernel
theorem dX8_pass_49 : decode cX8_pass 49 = .ok (.goto 4, 3) := by decide +kernel
theorem dX8_pass_52 : decode cX8_pass 52 = .ok (.iload_n 1, 1) := by decide +kernel
theorem dX8_pass_53 : decode cX8_pass 53 = .ok (.iadd, 1) := by decide +kernel
theorem dX8_pass_54 : decode cX8_pass 54 = .ok (.putfield 168, 3) := by decide +kernel
theorem dX8_pass_57 : decode cX8_pass 57 = .ok (.aload_n 0, 1) := by decide +kernel
theorem dX8_pass_58 : decode cX8_pass 58 = .ok (.getfield 168, 3) := by decide +kernel
theorem dX8_pass_61 : decode cX8_pass 61 = .ok (.ireturn, 1) := by decide +kernel
theorem dX8_isShipper_0 : decode cX8_isShipper 0 = .ok (.iload_n 0, 1) := by decide +kernel
theorem dX8_isShipper_1 : decode cX8_isShipper 1 = .ok (.iconst 0, 1) := by decide +kernel
theorem dX8_isShipper_2 : decode cX8_isShipper 2 = .ok (.iconst 5, 1) := by decide +kernel
theorem dX8_isShipper_3 : decode cX8_isShipper 3 = .ok (.invokestatic 127, 3) := by decide +kernel
theorem dX8_isShipper_6 : decode cX8_isShipper 6 = .ok (.ireturn, 1) := by decide +kernel
theorem dX8_isCarrier_0 : decode cX8_isCarrier 0 = .ok (.iload_n 0, 1) := by decide +kernel
theorem dX8_isCarrier_1 : decode cX8_isCarrier 1 = .ok (.iconst 0, 1) := by decide +kernel
theorem dX8_isCarrier_2 : decode cX8_isCarrier 2 = .ok (.iconst 3, 1) := by decide +kernel
theorem dX8_isCarrier_3 : decode cX8_isCarrier 3 = .ok (.invokestatic 127, 3) := by decide +kernel
theorem dX8_isCarrier_6 : decode cX8_isCarrier 6 = .ok (.ireturn, 1) := by decide +kernel
theorem dX8_quota_0 : decode cX8_quota 0 = .ok (.aload_n 0, 1) := by decide +kernel
theorem dX8_quota_1 : decode cX8_quota 1 = .ok (.iload_n 1, 1) := by decide +kernel
theorem dX8_quota_2 : decode cX8_quota 2 = .ok (.invokestatic 171, 3) := by decide +kernel
theorem dX8_quota_5 : decode cX8_quota 5 = .ok (.ifCond .ne 7, 3) := by decide +kernel
theorem dX8_quota_8 : decode cX8_quota 8 = .ok (.iconst 1, 1) := by decide +kernel
theorem dX8_quota_9 : decode cX8_quota 9 = .ok (.goto 29, 3) := by decide +kernel
theorem dX8_quota_12 : decode cX8_quota 12 = .ok (.iload_n 2, 1) := by decide +kernel
theorem dX8_quota_13 : decode cX8_quota 13 = .ok (.iconst 0, 1) := by decide +kernel
theorem dX8_quota_14 : decode cX8_quota 14 = .ok (.bipush 50, 2) := by decide +kernel
theorem dX8_quota_16 : decode cX8_quota 16 = .ok (.invokestatic 127, 3) := by decide +kernel
theorem dX8_quota_19 : decode cX8_quota 19 = .ok (.ifCond .eq 18, 3) := by decide +kernel
theorem dX8_quota_22 : decode cX8_quota 22 = .ok (.iload_n 3, 1) := by decide +kernel
theorem dX8_quota_23 : decode cX8_quota 23 = .ok (.iconst 1, 1) := by decide +kernel
theorem dX8_quota_24 : decode cX8_quota 24 = .ok (.sipush 1440, 3) := by decide +kernel
theorem dX8_quota_27 : decode cX8_quota 27 = .ok (.invokestatic 127, 3) := by decide +kernel
theorem dX8_quota_30 : decode cX8_quota 30 = .ok (.ifCond .eq 7, 3) := by decide +kernel
theorem dX8_quota_33 : decode cX8_quota 33 = .ok (.iconst 0, 1) := by decide +kernel
theorem dX8_quota_34 : decode cX8_quota 34 = .ok (.goto 4, 3) := by decide +kernel
theorem dX8_quota_37 : decode cX8_quota 37 = .ok (.iconst 2, 1) := by decide +kernel
theorem dX8_quota_38 : decode cX8_quota 38 = .ok (.putfield 123, 3) := by decide +kernel
theorem dX8_quota_41 : decode cX8_quota 41 = .ok (.aload_n 0, 1) := by decide +kernel
theorem dX8_quota_42 : decode cX8_quota 42 = .ok (.getfield 123, 3) := by decide +kernel
theorem dX8_quota_45 : decode cX8_quota 45 = .ok (.ifCond .le 5, 3) := by decide +kernel
theorem dX8_quota_48 : decode cX8_quota 48 = .ok (.iconst 0, 1) := by decide +kernel
theorem dX8_quota_49 : decode cX8_quota 49 = .ok (.ireturn, 1) := by decide +kernel
theorem dX8_quota_50 : decode cX8_quota 50 = .ok (.aload_n 0, 1) := by decide +kernel
theorem dX8_quota_51 : decode cX8_quota 51 = .ok (.getfield 26, 3) := by decide +kernel
theorem dX8_quota_54 : decode cX8_quota 54 = .ok (.iload_n 1, 1) := by decide +kernel
theorem dX8_quota_55 : decode cX8_quota 55 = .ok (.iaload, 1) := by decide +kernel
theorem dX8_quota_56 : decode cX8_quota 56 = .ok (.istore 4, 2) := by decide +kernel
theorem dX8_quota_58 : decode cX8_quota 58 = .ok (.aload_n 0, 1) := by decide +kernel
theorem dX8_quota_59 : decode cX8_quota 59 = .ok (.getfield 26, 3) := by decide +kernel
theorem dX8_quota_62 : decode cX8_quota 62 = .ok (.iload_n 1, 1) := by decide +kernel
theorem dX8_quota_63 : decode cX8_quota 63 = .ok (.iload_n 2, 1) := by decide +kernel
theorem dX8_quota_64 : decode cX8_quota 64 = .ok (.iastore, 1) := by decide +kernel
theorem dX8_quota_65 : decode cX8_quota 65 = .ok (.aload_n 0, 1) := by decide +kernel
theorem dX8_quota_66 : decode cX8_quota 66 = .ok (.getfield 29, 3) := by decide +kernel
theorem dX8_quota_69 : decode cX8_quota 69 = .ok (.iload_n 1, 1) := by decide +kernel
theorem dX8_quota_70 : decode cX8_quota 70 = .ok (.iload_n 3, 1) := by decide +kernel
theorem dX8_quota_71 : decode cX8_quota 71 = .ok (.iastore, 1) := by decide +kernel
theorem dX8_quota_72 : decode cX8_quota 72 = .ok (.iload 4, 2) := by decide +kernel
theorem dX8_quota_74 : decode cX8_quota 74 = .ok (.ireturn, 1) := by decide +kernel
theorem dX8_carrier_0 : decode cX8_carrier 0 = .ok (.aload_n 0, 1) := by decide +kernel
theorem dX8_carrier_1 : decode cX8_carrier 1 = .ok (.iload_n 1, 1) := by decide +kernel
theorem dX8_carrier_2 : decode cX8_carrier 2 = .ok (.invokestatic 175, 3) := by decide +kernel
theorem dX8_carrier_5 : decode cX8_carrier 5 = .ok (.ifCond .ne 7, 3) := by decide +kernel
theorem dX8_carrier_8 : decode cX8_carrier 8 = .ok (.iconst 1, 1) := by decide +kernel
theorem dX8_carrier_9 : decode cX8_carrier 9 = .ok (.goto 18, 3) := by decide +kernel
theorem dX8_carrier_12 : decode cX8_carrier 12 = .ok (.iload_n 3, 1) := by decide +kernel
theorem dX8_carrier_13 : decode cX8_carrier 13 = .ok (.iconst 0, 1) := by decide +kernel
theorem dX8_carrier_14 : decode cX8_carrier 14 = .ok (.bipush 10, 2) := by decide +kernel
theorem dX8_carrier_16 : decode cX8_carrier 16 = .ok (.invokestatic 127, 3) := by decide +kernel
theorem dX8_carrier_19 : decode cX8_carrier 19 = .ok (.ifCond .eq 7, 3) := by decide +kernel
theorem dX8_carrier_22 : decode cX8_carrier 22 = .ok (.iconst 0, 1) := by decide +kernel
theorem dX8_carrier_23 : decode cX8_carrier 23 = .ok (.goto 4, 3) := by decide +kernel
theorem dX8_carrier_26 : decode cX8_carrier 26 = .ok (.iconst 2, 1) := by decide +kernel
theorem dX8_carrier_27 : decode cX8_carrier 27 = .ok (.putfield 123, 3) := by decide +kernel
theorem dX8_carrier_30 : decode cX8_carrier 30 = .ok (.aload_n 0, 1) := by decide +kernel
theorem dX8_carrier_31 : decode cX8_carrier 31 = .ok (.getfield 123, 3) := by decide +kernel
theorem dX8_carrier_34 : decode cX8_carrier 34 = .ok (.ifCond .le 5, 3) := by decide +kernel
theorem dX8_carrier_37 : decode cX8_carrier 37 = .ok (.iconst 0, 1) := by decide +kernel
theorem dX8_carrier_38 : decode cX8_carrier 38 = .ok (.ireturn, 1) := by decide +kernel
theorem dX8_carrier_39 : decode cX8_carrier 39 = .ok (.aload_n 0, 1) := by decide +kernel
theorem dX8_carrier_40 : decode cX8_carrier 40 = .ok (.getfield 36, 3) := by decide +kernel
theorem dX8_carrier_43 : decode cX8_carrier 43 = .ok (.iload_n 1, 1) := by decide +kernel
theorem dX8_carrier_44 : decode cX8_carrier 44 = .ok (.iaload, 1) := by decide +kernel
theorem dX8_carrier_45 : decode cX8_carrier 45 = .ok (.istore 4, 2) := by decide +kernel
theorem dX8_carrier_47 : decode cX8_carrier 47 = .ok (.aload_n 0, 1) := by decide +kernel
theorem dX8_carrier_48 : decode cX8_carrier 48 = .ok (.getfield 32, 3) := by decide +kernel
theorem dX8_carrier_51 : decode cX8_carrier 51 = .ok (.iload_n 1, 1) := by decide +kernel
theorem dX8_carrier_52 : decode cX8_carrier 52 = .ok (.iload_n 2, 1) := by decide +kernel
theorem dX8_carrier_53 : decode cX8_carrier 53 = .ok (.ifCond .ne 7, 3) := by decide +kernel
theorem dX8_carrier_56 : decode cX8_carrier 56 = .ok (.iconst 1, 1) := by decide +kernel
theorem dX8_carrier_57 : decode cX8_carrier 57 = .ok (.goto 4, 3) := by decide +kernel
theorem dX8_carrier_60 : decode cX8_carrier 60 = .ok (.iconst 0, 1) := by decide +kernel
theorem dX8_carrier_61 : decode cX8_carrier 61 = .ok (.bastore, 1) := by decide +kernel
theorem dX8_carrier_62 : decode cX8_carrier 62 = .ok (.aload_n 0, 1) := by decide +kernel
theorem dX8_carrier_63 : decode cX8_carrier 63 = .ok (.getfield 36, 3) := by decide +kernel
theorem dX8_carrier_66 : decode cX8_carrier 66 = .ok (.iload_n 1, 1) := by decide +kernel
theorem dX8_carrier_67 : decode cX8_carrier 67 = .ok (.iload_n 3, 1) := by decide +kernel
theorem dX8_carrier_68 : decode cX8_carrier 68 = .ok (.iastore, 1) := by decide +kernel
theorem dX8_carrier_69 : decode cX8_carrier 69 = .ok (.iload 4, 2) := by decide +kernel
theorem dX8_carrier_71 : decode cX8_carrier 71 = .ok (.ireturn, 1) := by decide +kernel
theorem dX8_tariff_0 : decode cX8_tariff 0 = .ok (.iload_n 2, 1) := by decide +kernel
theorem dX8_tariff_1 : decode cX8_tariff 1 = .ok (.iconst 0, 1) := by decide +kernel
theorem dX8_tariff_2 : decode cX8_tariff 2 = .ok (.sipush 10000, 3) := by decide +kernel
theorem dX8_tariff_5 : decode cX8_tariff 5 = .ok (.invokestatic 127, 3) := by decide +kernel
theorem dX8_tariff_8 : decode cX8_tariff 8 = .ok (.ifCond .eq 30, 3) := by decide +kernel
theorem dX8_tariff_11 : decode cX8_tariff 11 = .ok (.iload_n 3, 1) := by decide +kernel
theorem dX8_tariff_12 : decode cX8_tariff 12 = .ok (.iconst 0, 1) := by decide +kernel
theorem dX8_tariff_13 : decode cX8_tariff 13 = .ok (.sipush 1000, 3) := by decide +kernel
theorem dX8_tariff_16 : decode cX8_tariff 16 = .ok (.invokestatic 127, 3) := by decide +kernel
theorem dX8_tariff_19 : decode cX8_tariff 19 = .ok (.ifCond .eq 19, 3) := by decide +kernel
theorem dX8_tariff_22 : decode cX8_tariff 22 = .ok (.iload 4, 2) := by decide +kernel
theorem dX8_tariff_24 : decode cX8_tariff 24 = .ok (.iconst 0, 1) := by decide +kernel
theorem dX8_tariff_25 : decode cX8_tariff 25 = .ok (.sipush 1000, 3) := by decide +kernel
theorem dX8_tariff_28 : decode cX8_tariff 28 = .ok (.invokestatic 127, 3) := by decide +kernel
theorem dX8_tariff_31 : decode cX8_tariff 31 = .ok (.ifCond .eq 7, 3) := by decide +kernel
theorem dX8_tariff_34 : decode cX8_tariff 34 = .ok (.iconst 1, 1) := by decide +kernel
theorem dX8_tariff_35 : decode cX8_tariff 35 = .ok (.goto 4, 3) := by decide +kernel
theorem dX8_tariff_38 : decode cX8_tariff 38 = .ok (.iconst 0, 1) := by decide +kernel
theorem dX8_tariff_39 : decode cX8_tariff 39 = .ok (.istore 5, 2) := by decide +kernel
theorem dX8_tariff_41 : decode cX8_tariff 41 = .ok (.aload_n 0, 1) := by decide +kernel
theorem dX8_tariff_42 : decode cX8_tariff 42 = .ok (.iload_n 1, 1) := by decide +kernel
theorem dX8_tariff_43 : decode cX8_tariff 43 = .ok (.invokestatic 175, 3) := by decide +kernel
theorem dX8_tariff_46 : decode cX8_tariff 46 = .ok (.ifCond .ne 7, 3) := by decide +kernel
theorem dX8_tariff_49 : decode cX8_tariff 49 = .ok (.iconst 1, 1) := by decide +kernel
theorem dX8_tariff_50 : decode cX8_tariff 50 = .ok (.goto 13, 3) := by decide +kernel
theorem dX8_tariff_53 : decode cX8_tariff 53 = .ok (.iload 5, 2) := by decide +kernel
theorem dX8_tariff_55 : decode cX8_tariff 55 = .ok (.ifCond .eq 7, 3) := by decide +kernel
theorem dX8_tariff_58 : decode cX8_tariff 58 = .ok (.iconst 0, 1) := by decide +kernel
theorem dX8_tariff_59 : decode cX8_tariff 59 = .ok (.goto 4, 3) := by decide +kernel
theorem dX8_tariff_62 : decode cX8_tariff 62 = .ok (.iconst 2, 1) := by decide +kernel
theorem dX8_tariff_63 : decode cX8_tariff 63 = .ok (.putfield 123, 3) := by decide +kernel
theorem dX8_tariff_66 : decode cX8_tariff 66 = .ok (.aload_n 0, 1) := by decide +kernel
theorem dX8_tariff_67 : decode cX8_tariff 67 = .ok (.getfield 123, 3) := by decide +kernel
theorem dX8_tariff_70 : decode cX8_tariff 70 = .ok (.ifCond .le 5, 3) := by decide +kernel
theorem dX8_tariff_73 : decode cX8_tariff 73 = .ok (.iconst 0, 1) := by decide +kernel
theorem dX8_tariff_74 : decode cX8_tariff 74 = .ok (.ireturn, 1) := by decide +kernel
theorem dX8_tariff_75 : decode cX8_tariff 75 = .ok (.aload_n 0, 1) := by decide +kernel
theorem dX8_tariff_76 : decode cX8_tariff 76 = .ok (.getfield 51, 3) := by decide +kernel
theorem dX8_tariff_79 : decode cX8_tariff 79 = .ok (.iload_n 1, 1) := by decide +kernel
theorem dX8_tariff_80 : decode cX8_tariff 80 = .ok (.iaload, 1) := by decide +kernel
theorem dX8_tariff_81 : decode cX8_tariff 81 = .ok (.istore 6, 2) := by decide +kernel
theorem dX8_tariff_83 : decode cX8_tariff 83 = .ok (.aload_n 0, 1) := by decide +kernel
theorem dX8_tariff_84 : decode cX8_tariff 84 = .ok (.getfield 51, 3) := by decide +kernel
theorem dX8_tariff_87 : decode cX8_tariff 87 = .ok (.iload_n 1, 1) := by decide +kernel
theorem dX8_tariff_88 : decode cX8_tariff 88 = .ok (.iload_n 2, 1) := by decide +kernel
theorem dX8_tariff_89 : decode cX8_tariff 89 = .ok (.iastore, 1) := by decide +kernel
theorem dX8_tariff_90 : decode cX8_tariff 90 = .ok (.aload_n 0, 1) := by decide +kernel
theorem dX8_tariff_91 : decode cX8_tariff 91 = .ok (.getfield 54, 3) := by decide +kernel
theorem dX8_tariff_94 : decode cX8_tariff 94 = .ok (.iload_n 1, 1) := by decide +kernel
theorem dX8_tariff_95 : decode cX8_tariff 95 = .ok (.iload_n 3, 1) := by decide +kernel
theorem dX8_tariff_96 : decode cX8_tariff 96 = .ok (.iastore, 1) := by decide +kernel
theorem dX8_tariff_97 : decode cX8_tariff 97 = .ok (.aload_n 0, 1) := by decide +kernel
theorem dX8_tariff_98 : decode cX8_tariff 98 = .ok (.getfield 57, 3) := by decide +kernel
theorem dX8_tariff_101 : decode cX8_tariff 101 = .ok (.iload_n 1, 1) := by decide +kernel
theorem dX8_tariff_102 : decode cX8_tariff 102 = .ok (.iload 4, 2) := by decide +kernel
theorem dX8_tariff_104 : decode cX8_tariff 104 = .ok (.iastore, 1) := by decide +kernel
theorem dX8_tariff_105 : decode cX8_tariff 105 = .ok (.iload 6, 2) := by decide +kernel
theorem dX8_tariff_107 : decode cX8_tariff 107 = .ok (.ireturn, 1) := by decide +kernel
theorem dX8_circuitOf_0 : decode cX8_circuitOf 0 = .ok (.aload_n 0, 1) := by decide +kernel
theorem dX8_circuitOf_1 : decode cX8_circuitOf 1 = .ok (.getfield 45, 3) := by decide +kernel
theorem dX8_circuitOf_4 : decode cX8_circuitOf 4 = .ok (.iload_n 1, 1) := by decide +kernel
theorem dX8_circuitOf_5 : decode cX8_circuitOf 5 = .ok (.baload, 1) := by decide +kernel
theorem dX8_circuitOf_6 : decode cX8_circuitOf 6 = .ok (.ifCond .ne 5, 3) := by decide +kernel
theorem dX8_circuitOf_9 : decode cX8_circuitOf 9 = .ok (.iconst 0, 1) := by decide +kernel
theorem dX8_circuitOf_10 : decode cX8_circuitOf 10 = .ok (.ireturn, 1) := by decide +kernel
theorem dX8_circuitOf_11 : decode cX8_circuitOf 11 = .ok (.aload_n 0, 1) := by decide +kernel
theorem dX8_circuitOf_12 : decode cX8_circuitOf 12 = .ok (.getfield 168, 3) := by decide +kernel
theorem dX8_circuitOf_15 : decode cX8_circuitOf 15 = .ok (.aload_n 0, 1) := by decide +kernel
theorem dX8_circuitOf_16 : decode cX8_circuitOf 16 = .ok (.getfield 48, 3) := by decide +kernel
theorem dX8_circuitOf_19 : decode cX8_circuitOf 19 = .ok (.iload_n 1, 1) := by decide +kernel
theorem dX8_circuitOf_20 : decode cX8_circuitOf 20 = .ok (.iaload, 1) := by decide +kernel
theorem dX8_circuitOf_21 : decode cX8_circuitOf 21 = .ok (.if_icmp .gt 7, 3) := by decide +kernel
theorem dX8_circuitOf_24 : decode cX8_circuitOf 24 = .ok (.iconst 1, 1) := by decide +kernel
theorem dX8_circuitOf_25 : decode cX8_circuitOf 25 = .ok (.goto 4, 3) := by decide +kernel
theorem dX8_circuitOf_28 : decode cX8_circuitOf 28 = .ok (.iconst 2, 1) := by decide +kernel
theorem dX8_circuitOf_29 : decode cX8_circuitOf 29 = .ok (.ireturn, 1) := by decide +kernel
theorem dX8_isFailed_0 : decode cX8_isFailed 0 = .ok (.aload_n 0, 1) := by decide +kernel
theorem dX8_isFailed_1 : decode cX8_isFailed 1 = .ok (.iload_n 1, 1) := by decide +kernel
theorem dX8_isFailed_2 : decode cX8_isFailed 2 = .ok (.invokevirtual 178, 3) := by decide +kernel
theorem dX8_isFailed_5 : decode cX8_isFailed 5 = .ok (.iconst 2, 1) := by decide +kernel
theorem dX8_isFailed_6 : decode cX8_isFailed 6 = .ok (.if_icmp .ne 7, 3) := by decide +kernel
theorem dX8_isFailed_9 : decode cX8_isFailed 9 = .ok (.iconst 1, 1) := by decide +kernel
theorem dX8_isFailed_10 : decode cX8_isFailed 10 = .ok (.goto 4, 3) := by decide +kernel
theorem dX8_isFailed_13 : decode cX8_isFailed 13 = .ok (.iconst 0, 1) := by decide +kernel
theorem dX8_isFailed_14 : decode cX8_isFailed 14 = .ok (.istore_n 2, 1) := by decide +kernel
theorem dX8_isFailed_15 : decode cX8_isFailed 15 = .ok (.aload_n 0, 1) := by decide +kernel
theorem dX8_isFailed_16 : decode cX8_isFailed 16 = .ok (.getfield 39, 3) := by decide +kernel
theorem dX8_isFailed_19 : decode cX8_isFailed 19 = .ok (.iload_n 1, 1) := by decide +kernel
theorem dX8_isFailed_20 : decode cX8_isFailed 20 = .ok (.dup2, 1) := by decide +kernel
theorem dX8_isFailed_21 : decode cX8_isFailed 21 = .ok (.iaload, 1) := by decide +kernel
theorem dX8_isFailed_22 : decode cX8_isFailed 22 = .ok (.iconst 1, 1) := by decide +kernel
theorem dX8_isFailed_23 : decode cX8_isFailed 23 = .ok (.iadd, 1) := by decide +kernel
theorem dX8_isFailed_24 : decode cX8_isFailed 24 = .ok (.iastore, 1) := by decide +kernel
theorem dX8_isFailed_25 : decode cX8_isFailed 25 = .ok (.aload_n 0, 1) := by decide +kernel
theorem dX8_isFailed_26 : decode cX8_isFailed 26 = .ok (.getfield 32, 3) := by decide +kernel
theorem dX8_isFailed_29 : decode cX8_isFailed 29 = .ok (.iload_n 1, 1) := by decide +kernel
theorem dX8_isFailed_30 : decode cX8_isFailed 30 = .ok (.baload, 1) := by decide +kernel
theorem dX8_isFailed_31 : decode cX8_isFailed 31 = .ok (.ifCond .ne 41, 3) := by decide +kernel
theorem dX8_isFailed_34 : decode cX8_isFailed 34 = .ok (.aload_n 0, 1) := by decide +kernel
theorem dX8_isFailed_35 : decode cX8_isFailed 35 = .ok (.getfield 36, 3) := by decide +kernel
theorem dX8_isFailed_38 : decode cX8_isFailed 38 = .ok (.iload_n 1, 1) := by decide +kernel
theorem dX8_isFailed_39 : decode cX8_isFailed 39 = .ok (.iaload, 1) := by decide +kernel
theorem dX8_isFailed_40 : decode cX8_isFailed 40 = .ok (.ifCond .le 36, 3) := by decide +kernel
theorem dX8_isFailed_43 : decode cX8_isFailed 43 = .ok (.aload_n 0, 1) := by decide +kernel
theorem dX8_isFailed_44 : decode cX8_isFailed 44 = .ok (.getfield 39, 3) := by decide +kernel
theorem dX8_isFailed_47 : decode cX8_isFailed 47 = .ok (.iload_n 1, 1) := by decide +kernel
theorem dX8_isFailed_48 : decode cX8_isFailed 48 = .ok (.iaload, 1) := by decide +kernel
theorem dX8_isFailed_49 : decode cX8_isFailed 49 = .ok (.aload_n 0, 1) := by decide +kernel
theorem dX8_isFailed_50 : decode cX8_isFailed 50 = .ok (.getfield 36, 3) := by decide +kernel
theorem dX8_isFailed_53 : decode cX8_isFailed 53 = .ok (.iload_n 1, 1) := by decide +kernel
theorem dX8_isFailed_54 : decode cX8_isFailed 54 = .ok (.iaload, 1) := by decide +kernel
theorem dX8_isFailed_55 : decode cX8_isFailed 55 = .ok (.ifCond .ne 7, 3) := by decide +kernel
theorem dX8_isFailed_58 : decode cX8_isFailed 58 = .ok (.iconst 1, 1) := by decide +kernel
theorem dX8_isFailed_59 : decode cX8_isFailed 59 = .ok (.goto 9, 3) := by decide +kernel
theorem dX8_isFailed_62 : decode cX8_isFailed 62 = .ok (.aload_n 0, 1) := by decide +kernel
theorem dX8_isFailed_63 : decode cX8_isFailed 63 = .ok (.getfield 36, 3) := by decide +kernel
theorem dX8_isFailed_66 : decode cX8_isFailed 66 = .ok (.iload_n 1, 1) := by decide +kernel
theorem dX8_isFailed_67 : decode cX8_isFailed 67 = .ok (.iaload, 1) := by decide +kernel
theorem dX8_isFailed_68 : decode cX8_isFailed 68 = .ok (.irem, 1) := by decide +kernel
theorem dX8_isFailed_69 : decode cX8_isFailed 69 = .ok (.ifCond .ne 7, 3) := by decide +kernel
theorem dX8_isFailed_72 : decode cX8_isFailed 72 = .ok (.iconst 1, 1) := by decide +kernel
theorem dX8_isFailed_73 : decode cX8_isFailed 73 = .ok (.goto 4, 3) := by decide +kernel
theorem dX8_isFailed_76 : decode cX8_isFailed 76 = .ok (.iconst 0, 1) := by decide +kernel
theorem dX8_isFailed_77 : decode cX8_isFailed 77 = .ok (.istore_n 3, 1) := by decide +kernel
theorem dX8_isFailed_78 : decode cX8_isFailed 78 = .ok (.iload_n 3, 1) := by decide +kernel
theorem dX8_isFailed_79 : decode cX8_isFailed 79 = .ok (.ifCond .eq 50, 3) := by decide +kernel
theorem dX8_isFailed_82 : decode cX8_isFailed 82 = .ok (.aload_n 0, 1) := by decide +kernel
theorem dX8_isFailed_83 : decode cX8_isFailed 83 = .ok (.getfield 42, 3) := by decide +kernel
theorem dX8_isFailed_86 : decode cX8_isFailed 86 = .ok (.iload_n 1, 1) := by decide +kernel
theorem dX8_isFailed_87 : decode cX8_isFailed 87 = .ok (.dup2, 1) := by decide +kernel
theorem dX8_isFailed_88 : decode cX8_isFailed 88 = .ok (.iaload, 1) := by decide +kernel
theorem dX8_isFailed_89 : decode cX8_isFailed 89 = .ok (.iconst 1, 1) := by decide +kernel
theorem dX8_isFailed_90 : decode cX8_isFailed 90 = .ok (.iadd, 1) := by decide +kernel
theorem dX8_isFailed_91 : decode cX8_isFailed 91 = .ok (.iastore, 1) := by decide +kernel
theorem dX8_isFailed_92 : decode cX8_isFailed 92 = .ok (.aload_n 0, 1) := by decide +kernel
theorem dX8_isFailed_93 : decode cX8_isFailed 93 = .ok (.getfield 42, 3) := by decide +kernel
theorem dX8_isFailed_96 : decode cX8_isFailed 96 = .ok (.iload_n 1, 1) := by decide +kernel
theorem dX8_isFailed_97 : decode cX8_isFailed 97 = .ok (.iaload, 1) := by decide +kernel
theorem dX8_isFailed_98 : decode cX8_isFailed 98 = .ok (.iconst 5, 1) := by decide +kernel
theorem dX8_isFailed_99 : decode cX8_isFailed 99 = .ok (.if_icmp .ge 7, 3) := by decide +kernel
theorem dX8_isFailed_102 : decode cX8_isFailed 102 = .ok (.iload_n 2, 1) := by decide +kernel
theorem dX8_isFailed_103 : decode cX8_isFailed 103 = .ok (.ifCond .eq 40, 3) := by decide +kernel
theorem dX8_isFailed_106 : decode cX8_isFailed 106 = .ok (.aload_n 0, 1) := by decide +kernel
theorem dX8_isFailed_107 : decode cX8_isFailed 107 = .ok (.getfield 45, 3) := by decide +kernel
theorem dX8_isFailed_110 : decode cX8_isFailed 110 = .ok (.iload_n 1, 1) := by decide +kernel
theorem dX8_isFailed_111 : decode cX8_isFailed 111 = .ok (.iconst 1, 1) := by decide +kernel
theorem dX8_isFailed_112 : decode cX8_isFailed 112 = .ok (.bastore, 1) := by decide +kernel
theorem dX8_isFailed_113 : decode cX8_isFailed 113 = .ok (.aload_n 0, 1) := by decide +kernel
theorem dX8_isFailed_114 : decode cX8_isFailed 114 = .ok (.getfield 48, 3) := by decide +kernel
theorem dX8_isFailed_117 : decode cX8_isFailed 117 = .ok (.iload_n 1, 1) := by decide +kernel
theorem dX8_isFailed_118 : decode cX8_isFailed 118 = .ok (.aload_n 0, 1) := by decide +kernel
theorem dX8_isFailed_119 : decode cX8_isFailed 119 = .ok (.getfield 168, 3) := by decide +kernel
theorem dX8_isFailed_122 : decode cX8_isFailed 122 = .ok (.bipush 9, 2) := by decide +kernel
theorem dX8_isFailed_124 : decode cX8_isFailed 124 = .ok (.iadd, 1) := by decide +kernel
theorem dX8_isFailed_125 : decode cX8_isFailed 125 = .ok (.iastore, 1) := by decide +kernel
theorem dX8_isFailed_126 : decode cX8_isFailed 126 = .ok (.goto 17, 3) := by decide +kernel
theorem dX8_isFailed_129 : decode cX8_isFailed 129 = .ok (.aload_n 0, 1) := by decide +kernel
theorem dX8_isFailed_130 : decode cX8_isFailed 130 = .ok (.getfield 42, 3) := by decide +kernel
theorem dX8_isFailed_133 : decode cX8_isFailed 133 = .ok (.iload_n 1, 1) := by decide +kernel
theorem dX8_isFailed_134 : decode cX8_isFailed 134 = .ok (.iconst 0, 1) := by decide +kernel
theorem dX8_isFailed_135 : decode cX8_isFailed 135 = .ok (.iastore, 1) := by decide +kernel
theorem dX8_isFailed_136 : decode cX8_isFailed 136 = .ok (.aload_n 0, 1) := by decide +kernel
theorem dX8_isFailed_137 : decode cX8_isFailed 137 = .ok (.getfield 45, 3) := by decide +kernel
theorem dX8_isFailed_140 : decode cX8_isFailed 140 = .ok (.iload_n 1, 1) := by decide +kernel
theorem dX8_isFailed_141 : decode cX8_isFailed 141 = .ok (.iconst 0, 1) := by decide +kernel
theorem dX8_isFailed_142 : decode cX8_isFailed 142 = .ok (.bastore, 1) := by decide +kernel
theorem dX8_isFailed_143 : decode cX8_isFailed 143 = .ok (.iload_n 3, 1) := by decide +kernel
theorem dX8_isFailed_144 : decode cX8_isFailed 144 = .ok (.ireturn, 1) := by decide +kernel
theorem dX8_asked_0 : decode cX8_asked 0 = .ok (.aload_n 0, 1) := by decide +kernel
theorem dX8_asked_1 : decode cX8_asked 1 = .ok (.iload_n 1, 1) := by decide +kernel
theorem dX8_asked_2 : decode cX8_asked 2 = .ok (.invokevirtual 178, 3) := by decide +kernel
theorem dX8_asked_5 : decode cX8_asked 5 = .ok (.istore_n 2, 1) := by decide +kernel
theorem dX8_asked_6 : decode cX8_asked 6 = .ok (.iload_n 2, 1) := by decide +kernel
theorem dX8_asked_7 : decode cX8_asked 7 = .ok (.iconst 1, 1) := by decide +kernel
theorem dX8_asked_8 : decode cX8_asked 8 = .ok (.if_icmp .ne 6, 3) := by decide +kernel
theorem dX8_asked_11 : decode cX8_asked 11 = .ok (.bipush (-3), 2) := by decide +kernel
theorem dX8_asked_13 : decode cX8_asked 13 = .ok (.ireturn, 1) := by decide +kernel
theorem dX8_asked_14 : decode cX8_asked 14 = .ok (.iload_n 2, 1) := by decide +kernel
theorem dX8_asked_15 : decode cX8_asked 15 = .ok (.iconst 2, 1) := by decide +kernel
theorem dX8_asked_16 : decode cX8_asked 16 = .ok (.if_icmp .ne 7, 3) := by decide +kernel
theorem dX8_asked_19 : decode cX8_asked 19 = .ok (.iconst 1, 1) := by decide +kernel
theorem dX8_asked_20 : decode cX8_asked 20 = .ok (.goto 4, 3) := by decide +kernel
theorem dX8_asked_23 : decode cX8_asked 23 = .ok (.iconst 3, 1) := by decide +kernel
theorem dX8_asked_24 : decode cX8_asked 24 = .ok (.istore_n 3, 1) := by decide +kernel
theorem dX8_asked_25 : decode cX8_asked 25 = .ok (.iload_n 3, 1) := by decide +kernel
theorem dX8_asked_26 : decode cX8_asked 26 = .ok (.ifCond .le 33, 3) := by decide +kernel
theorem dX8_asked_29 : decode cX8_asked 29 = .ok (.aload_n 0, 1) := by decide +kernel
theorem dX8_asked_30 : decode cX8_asked 30 = .ok (.iload_n 1, 1) := by decide +kernel
theorem dX8_asked_31 : decode cX8_asked 31 = .ok (.invokevirtual 182, 3) := by decide +kernel
theorem dX8_asked_34 : decode cX8_asked 34 = .ok (.ifCond .ne 5, 3) := by decide +kernel
theorem dX8_asked_37 : decode cX8_asked 37 = .ok (.iconst 0, 1) := by decide +kernel
theorem dX8_asked_38 : decode cX8_asked 38 = .ok (.ireturn, 1) := by decide +kernel
theorem dX8_asked_39 : decode cX8_asked 39 = .ok (.aload_n 0, 1) := by decide +kernel
theorem dX8_asked_40 : decode cX8_asked 40 = .ok (.iload_n 1, 1) := by decide +kernel
theorem dX8_asked_41 : decode cX8_asked 41 = .ok (.invokevirtual 178, 3) := by decide +kernel
theorem dX8_asked_44 : decode cX8_asked 44 = .ok (.iconst 1, 1) := by decide +kernel
theorem dX8_asked_45 : decode cX8_asked 45 = .ok (.if_icmp .ne 7, 3) := by decide +kernel
theorem dX8_asked_48 : decode cX8_asked 48 = .ok (.iconst 0, 1) := by decide +kernel
theorem dX8_asked_49 : decode cX8_asked 49 = .ok (.goto 6, 3) := by decide +kernel
theorem dX8_asked_52 : decode cX8_asked 52 = .ok (.iload_n 3, 1) := by decide +kernel
theorem dX8_asked_53 : decode cX8_asked 53 = .ok (.iconst 1, 1) := by decide +kernel
theorem dX8_asked_54 : decode cX8_asked 54 = .ok (.isub, 1) := by decide +kernel
theorem dX8_asked_55 : decode cX8_asked 55 = .ok (.istore_n 3, 1) := by decide +kernel
theorem dX8_asked_56 : decode cX8_asked 56 = .ok (.goto (-31), 3) := by decide +kernel
theorem dX8_asked_59 : decode cX8_asked 59 = .ok (.bipush (-4), 2) := by decide +kernel
theorem dX8_asked_61 : decode cX8_asked 61 = .ok (.ireturn, 1) := by decide +kernel
theorem dX8_inWindow_0 : decode cX8_inWindow 0 = .ok (.iconst 0, 1) := by decide +kernel
theorem dX8_inWindow_1 : decode cX8_inWindow 1 = .ok (.istore_n 2, 1) := by decide +kernel
theorem dX8_inWindow_2 : decode cX8_inWindow 2 = .ok (.iconst 0, 1) := by decide +kernel
theorem dX8_inWindow_3 : decode cX8_inWindow 3 = .ok (.istore_n 3, 1) := by decide +kernel
theorem dX8_inWindow_4 : decode cX8_inWindow 4 = .ok (.iload_n 3, 1) := by decide +kernel
theorem dX8_inWindow_5 : decode cX8_inWindow 5 = .ok (.aload_n 0, 1) := by decide +kernel
theorem dX8_inWindow_6 : decode cX8_inWindow 6 = .ok (.getfield 185, 3) := by decide +kernel
theorem dX8_inWindow_9 : decode cX8_inWindow 9 = .ok (.if_icmp .ge 47, 3) := by decide +kernel
theorem dX8_inWindow_12 : decode cX8_inWindow 12 = .ok (.iload_n 2, 1) := by decide +kernel
theorem dX8_inWindow_13 : decode cX8_inWindow 13 = .ok (.aload_n 0, 1) := by decide +kernel
theorem dX8_inWindow_14 : decode cX8_inWindow 14 = .ok (.getfield 63, 3) := by decide +kernel
theorem dX8_inWindow_17 : decode cX8_inWindow 17 = .ok (.iload_n 3, 1) := by decide +kernel
theorem dX8_inWindow_18 : decode cX8_inWindow 18 = .ok (.iaload, 1) := by decide +kernel
theorem dX8_inWindow_19 : decode cX8_inWindow 19 = .ok (.iload_n 1, 1) := by decide +kernel
theorem dX8_inWindow_20 : decode cX8_inWindow 20 = .ok (.if_icmp .ne 27, 3) := by decide +kernel
theorem dX8_inWindow_23 : decode cX8_inWindow 23 = .ok (.aload_n 0, 1) := by decide +kernel
theorem dX8_inWindow_24 : decode cX8_inWindow 24 = .ok (.getfield 168, 3) := by decide +kernel
theorem dX8_inWindow_27 : decode cX8_inWindow 27 = .ok (.aload_n 0, 1) := by decide +kernel
theorem dX8_inWindow_28 : decode cX8_inWindow 28 = .ok (.getfield 60, 3) := by decide +kernel
theorem dX8_inWindow_31 : decode cX8_inWindow 31 = .ok (.iload_n 3, 1) := by decide +kernel
theorem dX8_inWindow_32 : decode cX8_inWindow 32 = .ok (.iaload, 1) := by decide +kernel
theorem dX8_inWindow_33 : decode cX8_inWindow 33 = .ok (.isub, 1) := by decide +kernel
theorem dX8_inWindow_34 : decode cX8_inWindow 34 = .ok (.aload_n 0, 1) := by decide +kernel
theorem dX8_inWindow_35 : decode cX8_inWindow 35 = .ok (.getfield 29, 3) := by decide +kernel
theorem dX8_inWindow_38 : decode cX8_inWindow 38 = .ok (.iload_n 1, 1) := by decide +kernel
theorem dX8_inWindow_39 : decode cX8_inWindow 39 = .ok (.iaload, 1) := by decide +kernel
theorem dX8_inWindow_40 : decode cX8_inWindow 40 = .ok (.if_icmp .ge 7, 3) := by decide +kernel
theorem dX8_inWindow_43 : decode cX8_inWindow 43 = .ok (.iconst 1, 1) := by decide +kernel
theorem dX8_inWindow_44 : decode cX8_inWindow 44 = .ok (.goto 4, 3) := by decide +kernel
theorem dX8_inWindow_47 : decode cX8_inWindow 47 = .ok (.iconst 0, 1) := by decide +kernel
theorem dX8_inWindow_48 : decode cX8_inWindow 48 = .ok (.iadd, 1) := by decide +kernel
theorem dX8_inWindow_49 : decode cX8_inWindow 49 = .ok (.istore_n 2, 1) := by decide +kernel
theorem dX8_inWindow_50 : decode cX8_inWindow 50 = .ok (.iinc 3 1, 3) := by decide +kernel
theorem dX8_inWindow_53 : decode cX8_inWindow 53 = .ok (.goto (-49), 3) := by decide +kernel
theorem dX8_inWindow_56 : decode cX8_inWindow 56 = .ok (.iload_n 2, 1) := by decide +kernel
theorem dX8_inWindow_57 : decode cX8_inWindow 57 = .ok (.ireturn, 1) := by decide +kernel
theorem dX8_priceOf_0 : decode cX8_priceOf 0 = .ok (.iload_n 0, 1) := by decide +kernel
theorem dX8_priceOf_1 : decode cX8_priceOf 1 = .ok (.iload_n 1, 1) := by decide +kernel
theorem dX8_priceOf_2 : decode cX8_priceOf 2 = .ok (.iload_n 3, 1) := by decide +kernel
theorem dX8_priceOf_3 : decode cX8_priceOf 3 = .ok (.imul, 1) := by decide +kernel
theorem dX8_priceOf_4 : decode cX8_priceOf 4 = .ok (.iadd, 1) := by decide +kernel
theorem dX8_priceOf_5 : decode cX8_priceOf 5 = .ok (.iload_n 2, 1) := by decide +kernel
theorem dX8_priceOf_6 : decode cX8_priceOf 6 = .ok (.iload 4, 2) := by decide +kernel
theorem dX8_priceOf_8 : decode cX8_priceOf 8 = .ok (.bipush 99, 2) := by decide +kernel
theorem dX8_priceOf_10 : decode cX8_priceOf 10 = .ok (.iadd, 1) := by decide +kernel
theorem dX8_priceOf_11 : decode cX8_priceOf 11 = .ok (.bipush 100, 2) := by decide +kernel
theorem dX8_priceOf_13 : decode cX8_priceOf 13 = .ok (.idiv, 1) := by decide +kernel
theorem dX8_priceOf_14 : decode cX8_priceOf 14 = .ok (.imul, 1) := by decide +kernel
theorem dX8_priceOf_15 : decode cX8_priceOf 15 = .ok (.iadd, 1) := by decide +kernel
theorem dX8_priceOf_16 : decode cX8_priceOf 16 = .ok (.istore 6, 2) := by decide +kernel
theorem dX8_priceOf_18 : decode cX8_priceOf 18 = .ok (.iload 5, 2) := by decide +kernel
theorem dX8_priceOf_20 : decode cX8_priceOf 20 = .ok (.ifCond .eq 12, 3) := by decide +kernel
theorem dX8_priceOf_23 : decode cX8_priceOf 23 = .ok (.iload 6, 2) := by decide +kernel
theorem dX8_priceOf_25 : decode cX8_priceOf 25 = .ok (.iconst 3, 1) := by decide +kernel
theorem dX8_priceOf_26 : decode cX8_priceOf 26 = .ok (.imul, 1) := by decide +kernel
theorem dX8_priceOf_27 : decode cX8_priceOf 27 = .ok (.iconst 2, 1) := by decide +kernel
theorem dX8_priceOf_28 : decode cX8_priceOf 28 = .ok (.idiv, 1) := by decide +kernel
theorem dX8_priceOf_29 : decode cX8_priceOf 29 = .ok (.goto 5, 3) := by decide +kernel
theorem dX8_priceOf_32 : decode cX8_priceOf 32 = .ok (.iload 6, 2) := by decide +kernel
theorem dX8_priceOf_34 : decode cX8_priceOf 34 = .ok (.ireturn, 1) := by decide +kernel
theorem dX8_quoted_0 : decode cX8_quoted 0 = .ok (.aload_n 0, 1) := by decide +kernel
theorem dX8_quoted_1 : decode cX8_quoted 1 = .ok (.getfield 99, 3) := by decide +kernel
theorem dX8_quoted_4 : decode cX8_quoted 4 = .ok (.iload_n 1, 1) := by decide +kernel
theorem dX8_quoted_5 : decode cX8_quoted 5 = .ok (.iaload, 1) := by decide +kernel
theorem dX8_quoted_6 : decode cX8_quoted 6 = .ok (.aload_n 0, 1) := by decide +kernel
theorem dX8_quoted_7 : decode cX8_quoted 7 = .ok (.getfield 102, 3) := by decide +kernel
theorem dX8_quoted_10 : decode cX8_quoted 10 = .ok (.iload_n 1, 1) := by decide +kernel
theorem dX8_quoted_11 : decode cX8_quoted 11 = .ok (.iaload, 1) := by decide +kernel
theorem dX8_quoted_12 : decode cX8_quoted 12 = .ok (.aload_n 0, 1) := by decide +kernel
theorem dX8_quoted_13 : decode cX8_quoted 13 = .ok (.getfield 105, 3) := by decide +kernel
theorem dX8_quoted_16 : decode cX8_quoted 16 = .ok (.iload_n 1, 1) := by decide +kernel
theorem dX8_quoted_17 : decode cX8_quoted 17 = .ok (.iaload, 1) := by decide +kernel
theorem dX8_quoted_18 : decode cX8_quoted 18 = .ok (.aload_n 0, 1) := by decide +kernel
theorem dX8_quoted_19 : decode cX8_quoted 19 = .ok (.getfield 90, 3) := by decide +kernel
theorem dX8_quoted_22 : decode cX8_quoted 22 = .ok (.iload_n 1, 1) := by decide +kernel
theorem dX8_quoted_23 : decode cX8_quoted 23 = .ok (.iaload, 1) := by decide +kernel
theorem dX8_quoted_24 : decode cX8_quoted 24 = .ok (.iload_n 2, 1) := by decide +kernel
theorem dX8_quoted_25 : decode cX8_quoted 25 = .ok (.aload_n 0, 1) := by decide +kernel
theorem dX8_quoted_26 : decode cX8_quoted 26 = .ok (.getfield 96, 3) := by decide +kernel
theorem dX8_quoted_29 : decode cX8_quoted 29 = .ok (.iload_n 1, 1) := by decide +kernel
theorem dX8_quoted_30 : decode cX8_quoted 30 = .ok (.baload, 1) := by decide +kernel
theorem dX8_quoted_31 : decode cX8_quoted 31 = .ok (.invokestatic 188, 3) := by decide +kernel
theorem dX8_quoted_34 : decode cX8_quoted 34 = .ok (.ireturn, 1) := by decide +kernel
theorem dX8_quote_0 : decode cX8_quote 0 = .ok (.aload_n 0, 1) := by decide +kernel
theorem dX8_quote_1 : decode cX8_quote 1 = .ok (.getfield 84, 3) := by decide +kernel
theorem dX8_quote_4 : decode cX8_quote 4 = .ok (.aload_n 0, 1) := by decide +kernel
theorem dX8_quote_5 : decode cX8_quote 5 = .ok (.getfield 192, 3) := by decide +kernel
theorem dX8_quote_8 : decode cX8_quote 8 = .ok (.iload_n 1, 1) := by decide +kernel
theorem dX8_quote_9 : decode cX8_quote 9 = .ok (.iastore, 1) := by decide +kernel
theorem dX8_quote_10 : decode cX8_quote 10 = .ok (.aload_n 0, 1) := by decide +kernel
theorem dX8_quote_11 : decode cX8_quote 11 = .ok (.getfield 87, 3) := by decide +kernel
theorem dX8_quote_14 : decode cX8_quote 14 = .ok (.aload_n 0, 1) := by decide +kernel
theorem dX8_quote_15 : decode cX8_quote 15 = .ok (.getfield 192, 3) := by decide +kernel
theorem dX8_quote_18 : decode cX8_quote 18 = .ok (.iload_n 2, 1) := by decide +kernel
theorem dX8_quote_19 : decode cX8_quote 19 = .ok (.iastore, 1) := by decide +kernel
theorem dX8_quote_20 : decode cX8_quote 20 = .ok (.aload_n 0, 1) := by decide +kernel
theorem dX8_quote_21 : decode cX8_quote 21 = .ok (.getfield 90, 3) := by decide +kernel
theorem dX8_quote_24 : decode cX8_quote 24 = .ok (.aload_n 0, 1) := by decide +kernel
theorem dX8_quote_25 : decode cX8_quote 25 = .ok (.getfield 192, 3) := by decide +kernel
theorem dX8_quote_28 : decode cX8_quote 28 = .ok (.aload_n 0, 1) := by decide +kernel
theorem dX8_quote_29 : decode cX8_quote 29 = .ok (.getfield 19, 3) := by decide +kernel
theorem dX8_quote_32 : decode cX8_quote 32 = .ok (.iconst 2, 1) := by decide +kernel
theorem dX8_quote_33 : decode cX8_quote 33 = .ok (.iaload, 1) := by decide +kernel
theorem dX8_quote_34 : decode cX8_quote 34 = .ok (.aload_n 0, 1) := by decide +kernel
theorem dX8_quote_35 : decode cX8_quote 35 = .ok (.getfield 19, 3) := by decide +kernel
theorem dX8_quote_38 : decode cX8_quote 38 = .ok (.iconst 3, 1) := by decide +kernel
theorem dX8_quote_39 : decode cX8_quote 39 = .ok (.iaload, 1) := by decide +kernel
theorem dX8_quote_40 : decode cX8_quote 40 = .ok (.if_icmp .le 19, 3) := by decide +kernel
theorem dX8_quote_43 : decode cX8_quote 43 = .ok (.aload_n 0, 1) := by decide +kernel
theorem dX8_quote_44 : decode cX8_quote 44 = .ok (.getfield 19, 3) := by decide +kernel
theorem dX8_quote_47 : decode cX8_quote 47 = .ok (.iconst 2, 1) := by decide +kernel
theorem dX8_quote_48 : decode cX8_quote 48 = .ok (.iaload, 1) := by decide +kernel
theorem dX8_quote_49 : decode cX8_quote 49 = .ok (.aload_n 0, 1) := by decide +kernel
theorem dX8_quote_50 : decode cX8_quote 50 = .ok (.getfield 19, 3) := by decide +kernel
theorem dX8_quote_53 : decode cX8_quote 53 = .ok (.iconst 3, 1) := by decide +kernel
theorem dX8_quote_54 : decode cX8_quote 54 = .ok (.iaload, 1) := by decide +kernel
theorem dX8_quote_55 : decode cX8_quote 55 = .ok (.isub, 1) := by decide +kernel
theorem dX8_quote_56 : decode cX8_quote 56 = .ok (.goto 16, 3) := by decide +kernel
theorem dX8_quote_59 : decode cX8_quote 59 = .ok (.aload_n 0, 1) := by decide +kernel
theorem dX8_quote_60 : decode cX8_quote 60 = .ok (.getfield 19, 3) := by decide +kernel
theorem dX8_quote_63 : decode cX8_quote 63 = .ok (.iconst 3, 1) := by decide +kernel
theorem dX8_quote_64 : decode cX8_quote 64 = .ok (.iaload, 1) := by decide +kernel
theorem dX8_quote_65 : decode cX8_quote 65 = .ok (.aload_n 0, 1) := by decide +kernel
theorem dX8_quote_66 : decode cX8_quote 66 = .ok (.getfield 19, 3) := by decide +kernel
theorem dX8_quote_69 : decode cX8_quote 69 = .ok (.iconst 2, 1) := by decide +kernel
theorem dX8_quote_70 : decode cX8_quote 70 = .ok (.iaload, 1) := by decide +kernel
theorem dX8_quote_71 : decode cX8_quote 71 = .ok (.isub, 1) := by decide +kernel
theorem dX8_quote_72 : decode cX8_quote 72 = .ok (.iastore, 1) := by decide +kernel
theorem dX8_quote_73 : decode cX8_quote 73 = .ok (.aload_n 0, 1) := by decide +kernel
theorem dX8_quote_74 : decode cX8_quote 74 = .ok (.getfield 93, 3) := by decide +kernel
theorem dX8_quote_77 : decode cX8_quote 77 = .ok (.aload_n 0, 1) := by decide +kernel
theorem dX8_quote_78 : decode cX8_quote 78 = .ok (.getfield 192, 3) := by decide +kernel
theorem dX8_quote_81 : decode cX8_quote 81 = .ok (.aload_n 0, 1) := by decide +kernel
theorem dX8_quote_82 : decode cX8_quote 82 = .ok (.getfield 19, 3) := by decide +kernel
theorem dX8_quote_85 : decode cX8_quote 85 = .ok (.iconst 4, 1) := by decide +kernel
theorem dX8_quote_86 : decode cX8_quote 86 = .ok (.iaload, 1) := by decide +kernel
theorem dX8_quote_87 : decode cX8_quote 87 = .ok (.iastore, 1) := by decide +kernel
theorem dX8_quote_88 : decode cX8_quote 88 = .ok (.aload_n 0, 1) := by decide +kernel
theorem dX8_quote_89 : decode cX8_quote 89 = .ok (.getfield 96, 3) := by decide +kernel
theorem dX8_quote_92 : decode cX8_quote 92 = .ok (.aload_n 0, 1) := by decide +kernel
theorem dX8_quote_93 : decode cX8_quote 93 = .ok (.getfield 192, 3) := by decide +kernel
theorem dX8_quote_96 : decode cX8_quote 96 = .ok (.aload_n 0, 1) := by decide +kernel
theorem dX8_quote_97 : decode cX8_quote 97 = .ok (.getfield 19, 3) := by decide +kernel
theorem dX8_quote_100 : decode cX8_quote 100 = .ok (.iconst 5, 1) := by decide +kernel
theorem dX8_quote_101 : decode cX8_quote 101 = .ok (.iaload, 1) := by decide +kernel
theorem dX8_quote_102 : decode cX8_quote 102 = .ok (.iconst 1, 1) := by decide +kernel
theorem dX8_quote_103 : decode cX8_quote 103 = .ok (.if_icmp .ne 7, 3) := by decide +kernel
theorem dX8_quote_106 : decode cX8_quote 106 = .ok (.iconst 1, 1) := by decide +kernel
theorem dX8_quote_107 : decode cX8_quote 107 = .ok (.goto 4, 3) := by decide +kernel
theorem dX8_quote_110 : decode cX8_quote 110 = .ok (.iconst 0, 1) := by decide +kernel
theorem dX8_quote_111 : decode cX8_quote 111 = .ok (.bastore, 1) := by decide +kernel
theorem dX8_quote_112 : decode cX8_quote 112 = .ok (.aload_n 0, 1) := by decide +kernel
theorem dX8_quote_113 : decode cX8_quote 113 = .ok (.getfield 99, 3) := by decide +kernel
theorem dX8_quote_116 : decode cX8_quote 116 = .ok (.aload_n 0, 1) := by decide +kernel
theorem dX8_quote_117 : decode cX8_quote 117 = .ok (.getfield 192, 3) := by decide +kernel
theorem dX8_quote_120 : decode cX8_quote 120 = .ok (.aload_n 0, 1) := by decide +kernel
theorem dX8_quote_121 : decode cX8_quote 121 = .ok (.getfield 75, 3) := by decide +kernel
theorem dX8_quote_124 : decode cX8_quote 124 = .ok (.iload_n 3, 1) := by decide +kernel
theorem dX8_quote_125 : decode cX8_quote 125 = .ok (.iaload, 1) := by decide +kernel
theorem dX8_quote_126 : decode cX8_quote 126 = .ok (.iastore, 1) := by decide +kernel
theorem dX8_quote_127 : decode cX8_quote 127 = .ok (.aload_n 0, 1) := by decide +kernel
theorem dX8_quote_128 : decode cX8_quote 128 = .ok (.getfield 102, 3) := by decide +kernel
theorem dX8_quote_131 : decode cX8_quote 131 = .ok (.aload_n 0, 1) := by decide +kernel
theorem dX8_quote_132 : decode cX8_quote 132 = .ok (.getfield 192, 3) := by decide +kernel
theorem dX8_quote_135 : decode cX8_quote 135 = .ok (.aload_n 0, 1) := by decide +kernel
theorem dX8_quote_136 : decode cX8_quote 136 = .ok (.getfield 78, 3) := by decide +kernel
theorem dX8_quote_139 : decode cX8_quote 139 = .ok (.iload_n 3, 1) := by decide +kernel
theorem dX8_quote_140 : decode cX8_quote 140 = .ok (.iaload, 1) := by decide +kernel
theorem dX8_quote_141 : decode cX8_quote 141 = .ok (.iastore, 1) := by decide +kernel
theorem dX8_quote_142 : decode cX8_quote 142 = .ok (.aload_n 0, 1) := by decide +kernel
theorem dX8_quote_143 : decode cX8_quote 143 = .ok (.getfield 105, 3) := by decide +kernel
theorem dX8_quote_146 : decode cX8_quote 146 = .ok (.aload_n 0, 1) := by decide +kernel
theorem dX8_quote_147 : decode cX8_quote 147 = .ok (.getfield 192, 3) := by decide +kernel
theorem dX8_quote_150 : decode cX8_quote 150 = .ok (.aload_n 0, 1) := by decide +kernel
theorem dX8_quote_151 : decode cX8_quote 151 = .ok (.getfield 81, 3) := by decide +kernel
theorem dX8_quote_154 : decode cX8_quote 154 = .ok (.iload_n 3, 1) := by decide +kernel
theorem dX8_quote_155 : decode cX8_quote 155 = .ok (.iaload, 1) := by decide +kernel
theorem dX8_quote_156 : decode cX8_quote 156 = .ok (.iastore, 1) := by decide +kernel
theorem dX8_quote_157 : decode cX8_quote 157 = .ok (.aload_n 0, 1) := by decide +kernel
theorem dX8_quote_158 : decode cX8_quote 158 = .ok (.getfield 108, 3) := by decide +kernel
theorem dX8_quote_161 : decode cX8_quote 161 = .ok (.aload_n 0, 1) := by decide +kernel
theorem dX8_quote_162 : decode cX8_quote 162 = .ok (.getfield 192, 3) := by decide +kernel
theorem dX8_quote_165 : decode cX8_quote 165 = .ok (.aload_n 0, 1) := by decide +kernel
theorem dX8_quote_166 : decode cX8_quote 166 = .ok (.getfield 72, 3) := by decide +kernel
theorem dX8_quote_169 : decode cX8_quote 169 = .ok (.iload_n 3, 1) := by decide +kernel
theorem dX8_quote_170 : decode cX8_quote 170 = .ok (.iaload, 1) := by decide +kernel
theorem dX8_quote_171 : decode cX8_quote 171 = .ok (.iastore, 1) := by decide +kernel
theorem dX8_quote_172 : decode cX8_quote 172 = .ok (.aload_n 0, 1) := by decide +kernel
theorem dX8_quote_173 : decode cX8_quote 173 = .ok (.dup, 1) := by decide +kernel
theorem dX8_quote_174 : decode cX8_quote 174 = .ok (.getfield 192, 3) := by decide +kernel
theorem dX8_quote_177 : decode cX8_quote 177 = .ok (.iconst 1, 1) := by decide +kernel
theorem dX8_quote_178 : decode cX8_quote 178 = .ok (.iadd, 1) := by decide +kernel
theorem dX8_quote_179 : decode cX8_quote 179 = .ok (.putfield 192, 3) := by decide +kernel
theorem dX8_quote_182 : decode cX8_quote 182 = .ok (.aload_n 0, 1) := by decide +kernel
theorem dX8_quote_183 : decode cX8_quote 183 = .ok (.getfield 192, 3) := by decide +kernel
theorem dX8_quote_186 : decode cX8_quote 186 = .ok (.iconst 1, 1) := by decide +kernel
theorem dX8_quote_187 : decode cX8_quote 187 = .ok (.isub, 1) := by decide +kernel
theorem dX8_quote_188 : decode cX8_quote 188 = .ok (.ireturn, 1) := by decide +kernel
theorem dX8_call_0 : decode cX8_call 0 = .ok (.aload_n 0, 1) := by decide +kernel
theorem dX8_call_1 : decode cX8_call 1 = .ok (.aload_n 0, 1) := by decide +kernel
theorem dX8_call_2 : decode cX8_call 2 = .ok (.invokevirtual 161, 3) := by decide +kernel
theorem dX8_call_5 : decode cX8_call 5 = .ok (.ifCond .ne 7, 3) := by decide +kernel
theorem dX8_call_8 : decode cX8_call 8 = .ok (.iconst 1, 1) := by decide +kernel
theorem dX8_call_9 : decode cX8_call 9 = .ok (.goto 17, 3) := by decide +kernel
theorem dX8_call_12 : decode cX8_call 12 = .ok (.aload_n 0, 1) := by decide +kernel
theorem dX8_call_13 : decode cX8_call 13 = .ok (.getfield 192, 3) := by decide +kernel
theorem dX8_call_16 : decode cX8_call 16 = .ok (.bipush 100, 2) := by decide +kernel
theorem dX8_call_18 : decode cX8_call 18 = .ok (.if_icmp .ne 7, 3) := by decide +kernel
theorem dX8_call_21 : decode cX8_call 21 = .ok (.iconst 2, 1) := by decide +kernel
theorem dX8_call_22 : decode cX8_call 22 = .ok (.goto 4, 3) := by decide +kernel
theorem dX8_call_25 : decode cX8_call 25 = .ok (.iconst 0, 1) := by decide +kernel
theorem dX8_call_26 : decode cX8_call 26 = .ok (.putfield 123, 3) := by decide +kernel
theorem dX8_call_29 : decode cX8_call 29 = .ok (.aload_n 0, 1) := by decide +kernel
theorem dX8_call_30 : decode cX8_call 30 = .ok (.getfield 123, 3) := by decide +kernel
theorem dX8_call_33 : decode cX8_call 33 = .ok (.ifCond .le 5, 3) := by decide +kernel
theorem dX8_call_36 : decode cX8_call 36 = .ok (.iconst 0, 1) := by decide +kernel
theorem dX8_call_37 : decode cX8_call 37 = .ok (.ireturn, 1) := by decide +kernel
theorem dX8_call_38 : decode cX8_call 38 = .ok (.aload_n 0, 1) := by decide +kernel
theorem dX8_call_39 : decode cX8_call 39 = .ok (.iconst 0, 1) := by decide +kernel
theorem dX8_call_40 : decode cX8_call 40 = .ok (.putfield 131, 3) := by decide +kernel
theorem dX8_call_43 : decode cX8_call 43 = .ok (.aload_n 0, 1) := by decide +kernel
theorem dX8_call_44 : decode cX8_call 44 = .ok (.dup, 1) := by decide +kernel
theorem dX8_call_45 : decode cX8_call 45 = .ok (.getfield 195, 3) := by decide +kernel
theorem dX8_call_48 : decode cX8_call 48 = .ok (.iconst 1, 1) := by decide +kernel
theorem dX8_call_49 : decode cX8_call 49 = .ok (.iadd, 1) := by decide +kernel
theorem dX8_call_50 : decode cX8_call 50 = .ok (.putfield 195, 3) := by decide +kernel
theorem dX8_call_53 : decode cX8_call 53 = .ok (.aload_n 0, 1) := by decide +kernel
theorem dX8_call_54 : decode cX8_call 54 = .ok (.getfield 19, 3) := by decide +kernel
theorem dX8_call_57 : decode cX8_call 57 = .ok (.iconst 0, 1) := by decide +kernel
theorem dX8_call_58 : decode cX8_call 58 = .ok (.iaload, 1) := by decide +kernel
theorem dX8_call_59 : decode cX8_call 59 = .ok (.istore_n 1, 1) := by decide +kernel
theorem dX8_call_60 : decode cX8_call 60 = .ok (.aload_n 0, 1) := by decide +kernel
theorem dX8_call_61 : decode cX8_call 61 = .ok (.getfield 19, 3) := by decide +kernel
theorem dX8_call_64 : decode cX8_call 64 = .ok (.iconst 1, 1) := by decide +kernel
theorem dX8_call_65 : decode cX8_call 65 = .ok (.iaload, 1) := by decide +kernel
theorem dX8_call_66 : decode cX8_call 66 = .ok (.istore_n 2, 1) := by decide +kernel
theorem dX8_call_67 : decode cX8_call 67 = .ok (.aload_n 0, 1) := by decide +kernel
theorem dX8_call_68 : decode cX8_call 68 = .ok (.iload_n 1, 1) := by decide +kernel
theorem dX8_call_69 : decode cX8_call 69 = .ok (.invokevirtual 198, 3) := by decide +kernel
theorem dX8_call_72 : decode cX8_call 72 = .ok (.aload_n 0, 1) := by decide +kernel
theorem dX8_call_73 : decode cX8_call 73 = .ok (.getfield 26, 3) := by decide +kernel
theorem dX8_call_76 : decode cX8_call 76 = .ok (.iload_n 1, 1) := by decide +kernel
theorem dX8_call_77 : decode cX8_call 77 = .ok (.iaload, 1) := by decide +kernel
theorem dX8_call_78 : decode cX8_call 78 = .ok (.if_icmp .lt 6, 3) := by decide +kernel
theorem dX8_call_81 : decode cX8_call 81 = .ok (.bipush (-2), 2) := by decide +kernel
theorem dX8_call_83 : decode cX8_call 83 = .ok (.ireturn, 1) := by decide +kernel
theorem dX8_call_84 : decode cX8_call 84 = .ok (.aload_n 0, 1) := by decide +kernel
theorem dX8_call_85 : decode cX8_call 85 = .ok (.getfield 60, 3) := by decide +kernel
theorem dX8_call_88 : decode cX8_call 88 = .ok (.aload_n 0, 1) := by decide +kernel
theorem dX8_call_89 : decode cX8_call 89 = .ok (.getfield 185, 3) := by decide +kernel
theorem dX8_call_92 : decode cX8_call 92 = .ok (.aload_n 0, 1) := by decide +kernel
theorem dX8_call_93 : decode cX8_call 93 = .ok (.getfield 168, 3) := by decide +kernel
theorem dX8_call_96 : decode cX8_call 96 = .ok (.iastore, 1) := by decide +kernel
theorem dX8_call_97 : decode cX8_call 97 = .ok (.aload_n 0, 1) := by decide +kernel
theorem dX8_call_98 : decode cX8_call 98 = .ok (.getfield 63, 3) := by decide +kernel
theorem dX8_call_101 : decode cX8_call 101 = .ok (.aload_n 0, 1) := by decide +kernel
theorem dX8_call_102 : decode cX8_call 102 = .ok (.getfield 185, 3) := by decide +kernel
theorem dX8_call_105 : decode cX8_call 105 = .ok (.iload_n 1, 1) := by decide +kernel
theorem dX8_call_106 : decode cX8_call 106 = .ok (.iastore, 1) := by decide +kernel
theorem dX8_call_107 : decode cX8_call 107 = .ok (.aload_n 0, 1) := by decide +kernel
theorem dX8_call_108 : decode cX8_call 108 = .ok (.dup, 1) := by decide +kernel
theorem dX8_call_109 : decode cX8_call 109 = .ok (.getfield 185, 3) := by decide +kernel
theorem dX8_call_112 : decode cX8_call 112 = .ok (.iconst 1, 1) := by decide +kernel
theorem dX8_call_113 : decode cX8_call 113 = .ok (.iadd, 1) := by decide +kernel
theorem dX8_call_114 : decode cX8_call 114 = .ok (.putfield 185, 3) := by decide +kernel
theorem dX8_call_117 : decode cX8_call 117 = .ok (.iconst 4, 1) := by decide +kernel
theorem dX8_call_118 : decode cX8_call 118 = .ok (.iload_n 1, 1) := by decide +kernel
theorem dX8_call_119 : decode cX8_call 119 = .ok (.imul, 1) := by decide +kernel
theorem dX8_call_120 : decode cX8_call 120 = .ok (.iload_n 2, 1) := by decide +kernel
theorem dX8_call_121 : decode cX8_call 121 = .ok (.iadd, 1) := by decide +kernel
theorem dX8_call_122 : decode cX8_call 122 = .ok (.bipush 8, 2) := by decide +kernel
theorem dX8_call_124 : decode cX8_call 124 = .ok (.imul, 1) := by decide +kernel
theorem dX8_call_125 : decode cX8_call 125 = .ok (.aload_n 0, 1) := by decide +kernel
theorem dX8_call_126 : decode cX8_call 126 = .ok (.getfield 19, 3) := by decide +kernel
theorem dX8_call_129 : decode cX8_call 129 = .ok (.iconst 2, 1) := by decide +kernel
theorem dX8_call_130 : decode cX8_call 130 = .ok (.iaload, 1) := by decide +kernel
theorem dX8_call_131 : decode cX8_call 131 = .ok (.iadd, 1) := by decide +kernel
theorem dX8_call_132 : decode cX8_call 132 = .ok (.bipush 8, 2) := by decide +kernel
theorem dX8_call_134 : decode cX8_call 134 = .ok (.imul, 1) := by decide +kernel
theorem dX8_call_135 : decode cX8_call 135 = .ok (.aload_n 0, 1) := by decide +kernel
theorem dX8_call_136 : decode cX8_call 136 = .ok (.getfield 19, 3) := by decide +kernel
theorem dX8_call_139 : decode cX8_call 139 = .ok (.iconst 3, 1) := by decide +kernel
theorem dX8_call_140 : decode cX8_call 140 = .ok (.iaload, 1) := by decide +kernel
theorem dX8_call_141 : decode cX8_call 141 = .ok (.iadd, 1) := by decide +kernel
theorem dX8_call_142 : decode cX8_call 142 = .ok (.istore_n 3, 1) := by decide +kernel
theorem dX8_call_143 : decode cX8_call 143 = .ok (.aload_n 0, 1) := by decide +kernel
theorem dX8_call_144 : decode cX8_call 144 = .ok (.getfield 168, 3) := by decide +kernel
theorem dX8_call_147 : decode cX8_call 147 = .ok (.aload_n 0, 1) := by decide +kernel
theorem dX8_call_148 : decode cX8_call 148 = .ok (.getfield 72, 3) := by decide +kernel
theorem dX8_call_151 : decode cX8_call 151 = .ok (.iload_n 3, 1) := by decide +kernel
theorem dX8_call_152 : decode cX8_call 152 = .ok (.iaload, 1) := by decide +kernel
theorem dX8_call_153 : decode cX8_call 153 = .ok (.if_icmp .gt 21, 3) := by decide +kernel
theorem dX8_call_156 : decode cX8_call 156 = .ok (.aload_n 0, 1) := by decide +kernel
theorem dX8_call_157 : decode cX8_call 157 = .ok (.getfield 66, 3) := by decide +kernel
theorem dX8_call_160 : decode cX8_call 160 = .ok (.iload_n 1, 1) := by decide +kernel
theorem dX8_call_161 : decode cX8_call 161 = .ok (.dup2, 1) := by decide +kernel
theorem dX8_call_162 : decode cX8_call 162 = .ok (.iaload, 1) := by decide +kernel
theorem dX8_call_163 : decode cX8_call 163 = .ok (.iconst 1, 1) := by decide +kernel
theorem dX8_call_164 : decode cX8_call 164 = .ok (.iadd, 1) := by decide +kernel
theorem dX8_call_165 : decode cX8_call 165 = .ok (.iastore, 1) := by decide +kernel
theorem dX8_call_166 : decode cX8_call 166 = .ok (.aload_n 0, 1) := by decide +kernel
theorem dX8_call_167 : decode cX8_call 167 = .ok (.iload_n 1, 1) := by decide +kernel
theorem dX8_call_168 : decode cX8_call 168 = .ok (.iload_n 2, 1) := by decide +kernel
theorem dX8_call_169 : decode cX8_call 169 = .ok (.iload_n 3, 1) := by decide +kernel
theorem dX8_call_170 : decode cX8_call 170 = .ok (.invokevirtual 201, 3) := by decide +kernel
theorem dX8_call_173 : decode cX8_call 173 = .ok (.ireturn, 1) := by decide +kernel
theorem dX8_call_174 : decode cX8_call 174 = .ok (.aload_n 0, 1) := by decide +kernel
theorem dX8_call_175 : decode cX8_call 175 = .ok (.iload_n 2, 1) := by decide +kernel
theorem dX8_call_176 : decode cX8_call 176 = .ok (.invokevirtual 204, 3) := by decide +kernel
theorem dX8_call_179 : decode cX8_call 179 = .ok (.istore 4, 2) := by decide +kernel
theorem dX8_call_181 : decode cX8_call 181 = .ok (.aload_n 0, 1) := by decide +kernel
theorem dX8_call_182 : decode cX8_call 182 = .ok (.getfield 66, 3) := by decide +kernel
theorem dX8_call_185 : decode cX8_call 185 = .ok (.iload_n 1, 1) := by decide +kernel
theorem dX8_call_186 : decode cX8_call 186 = .ok (.dup2, 1) := by decide +kernel
theorem dX8_call_187 : decode cX8_call 187 = .ok (.iaload, 1) := by decide +kernel
theorem dX8_call_188 : decode cX8_call 188 = .ok (.iload 4, 2) := by decide +kernel
theorem dX8_call_190 : decode cX8_call 190 = .ok (.ifCond .ge 7, 3) := by decide +kernel
theorem dX8_call_193 : decode cX8_call 193 = .ok (.iconst 1, 1) := by decide +kernel
theorem dX8_call_194 : decode cX8_call 194 = .ok (.goto 4, 3) := by decide +kernel
theorem dX8_call_197 : decode cX8_call 197 = .ok (.iconst 3, 1) := by decide +kernel
theorem dX8_call_198 : decode cX8_call 198 = .ok (.iadd, 1) := by decide +kernel
theorem dX8_call_199 : decode cX8_call 199 = .ok (.iastore, 1) := by decide +kernel
theorem dX8_call_200 : decode cX8_call 200 = .ok (.iload 4, 2) := by decide +kernel
theorem dX8_call_202 : decode cX8_call 202 = .ok (.ifCond .ge 6, 3) := by decide +kernel
theorem dX8_call_205 : decode cX8_call 205 = .ok (.iload 4, 2) := by decide +kernel
theorem dX8_call_207 : decode cX8_call 207 = .ok (.ireturn, 1) := by decide +kernel
theorem dX8_call_208 : decode cX8_call 208 = .ok (.aload_n 0, 1) := by decide +kernel
theorem dX8_call_209 : decode cX8_call 209 = .ok (.getfield 72, 3) := by decide +kernel
theorem dX8_call_212 : decode cX8_call 212 = .ok (.iload_n 3, 1) := by decide +kernel
theorem dX8_call_213 : decode cX8_call 213 = .ok (.aload_n 0, 1) := by decide +kernel
theorem dX8_call_214 : decode cX8_call 214 = .ok (.getfield 168, 3) := by decide +kernel
theorem dX8_call_217 : decode cX8_call 217 = .ok (.bipush 59, 2) := by decide +kernel
theorem dX8_call_219 : decode cX8_call 219 = .ok (.iadd, 1) := by decide +kernel
theorem dX8_call_220 : decode cX8_call 220 = .ok (.iastore, 1) := by decide +kernel
theorem dX8_call_221 : decode cX8_call 221 = .ok (.aload_n 0, 1) := by decide +kernel
theorem dX8_call_222 : decode cX8_call 222 = .ok (.getfield 75, 3) := by decide +kernel
theorem dX8_call_225 : decode cX8_call 225 = .ok (.iload_n 3, 1) := by decide +kernel
theorem dX8_call_226 : decode cX8_call 226 = .ok (.aload_n 0, 1) := by decide +kernel
theorem dX8_call_227 : decode cX8_call 227 = .ok (.getfield 51, 3) := by decide +kernel
theorem dX8_call_230 : decode cX8_call 230 = .ok (.iload_n 2, 1) := by decide +kernel
theorem dX8_call_231 : decode cX8_call 231 = .ok (.iaload, 1) := by decide +kernel
theorem dX8_call_232 : decode cX8_call 232 = .ok (.iastore, 1) := by decide +kernel
theorem dX8_call_233 : decode cX8_call 233 = .ok (.aload_n 0, 1) := by decide +kernel
theorem dX8_call_234 : decode cX8_call 234 = .ok (.getfield 78, 3) := by decide +kernel
theorem dX8_call_237 : decode cX8_call 237 = .ok (.iload_n 3, 1) := by decide +kernel
theorem dX8_call_238 : decode cX8_call 238 = .ok (.aload_n 0, 1) := by decide +kernel
theorem dX8_call_239 : decode cX8_call 239 = .ok (.getfield 54, 3) := by decide +kernel
theorem dX8_call_242 : decode cX8_call 242 = .ok (.iload_n 2, 1) := by decide +kernel
theorem dX8_call_243 : decode cX8_call 243 = .ok (.iaload, 1) := by decide +kernel
theorem dX8_call_244 : decode cX8_call 244 = .ok (.iastore, 1) := by decide +kernel
theorem dX8_call_245 : decode cX8_call 245 = .ok (.aload_n 0, 1) := by decide +kernel
theorem dX8_call_246 : decode cX8_call 246 = .ok (.getfield 81, 3) := by decide +kernel
theorem dX8_call_249 : decode cX8_call 249 = .ok (.iload_n 3, 1) := by decide +kernel
theorem dX8_call_250 : decode cX8_call 250 = .ok (.aload_n 0, 1) := by decide +kernel
theorem dX8_call_251 : decode cX8_call 251 = .ok (.getfield 57, 3) := by decide +kernel
theorem dX8_call_254 : decode cX8_call 254 = .ok (.iload_n 2, 1) := by decide +kernel
theorem dX8_call_255 : decode cX8_call 255 = .ok (.iaload, 1) := by decide +kernel
theorem dX8_call_256 : decode cX8_call 256 = .ok (.iastore, 1) := by decide +kernel
theorem dX8_call_257 : decode cX8_call 257 = .ok (.aload_n 0, 1) := by decide +kernel
theorem dX8_call_258 : decode cX8_call 258 = .ok (.iload_n 1, 1) := by decide +kernel
theorem dX8_call_259 : decode cX8_call 259 = .ok (.iload_n 2, 1) := by decide +kernel
theorem dX8_call_260 : decode cX8_call 260 = .ok (.iload_n 3, 1) := by decide +kernel
theorem dX8_call_261 : decode cX8_call 261 = .ok (.invokevirtual 201, 3) := by decide +kernel
theorem dX8_call_264 : decode cX8_call 264 = .ok (.ireturn, 1) := by decide +kernel
theorem dX8_asksQuote_0 : decode cX8_asksQuote 0 = .ok (.aload_n 0, 1) := by decide +kernel
theorem dX8_asksQuote_1 : decode cX8_asksQuote 1 = .ok (.iload_n 1, 1) := by decide +kernel
theorem dX8_asksQuote_2 : decode cX8_asksQuote 2 = .ok (.iconst 0, 1) := by decide +kernel
theorem dX8_asksQuote_3 : decode cX8_asksQuote 3 = .ok (.aload_n 0, 1) := by decide +kernel
theorem dX8_asksQuote_4 : decode cX8_asksQuote 4 = .ok (.getfield 192, 3) := by decide +kernel
theorem dX8_asksQuote_7 : decode cX8_asksQuote 7 = .ok (.iconst 1, 1) := by decide +kernel
theorem dX8_asksQuote_8 : decode cX8_asksQuote 8 = .ok (.isub, 1) := by decide +kernel
theorem dX8_asksQuote_9 : decode cX8_asksQuote 9 = .ok (.invokestatic 127, 3) := by decide +kernel
theorem dX8_asksQuote_12 : decode cX8_asksQuote 12 = .ok (.ifCond .eq 7, 3) := by decide +kernel
theorem dX8_asksQuote_15 : decode cX8_asksQuote 15 = .ok (.iconst 0, 1) := by decide +kernel
theorem dX8_asksQuote_16 : decode cX8_asksQuote 16 = .ok (.goto 4, 3) := by decide +kernel
theorem dX8_asksQuote_19 : decode cX8_asksQuote 19 = .ok (.iconst 1, 1) := by decide +kernel
theorem dX8_asksQuote_20 : decode cX8_asksQuote 20 = .ok (.putfield 123, 3) := by decide +kernel
theorem dX8_asksQuote_23 : decode cX8_asksQuote 23 = .ok (.aload_n 0, 1) := by decide +kernel
theorem dX8_asksQuote_24 : decode cX8_asksQuote 24 = .ok (.getfield 123, 3) := by decide +kernel
theorem dX8_asksQuote_27 : decode cX8_asksQuote 27 = .ok (.ifCond .ne 7, 3) := by decide +kernel
theorem dX8_asksQuote_30 : decode cX8_asksQuote 30 = .ok (.iconst 1, 1) := by decide +kernel
theorem dX8_asksQuote_31 : decode cX8_asksQuote 31 = .ok (.goto 4, 3) := by decide +kernel
theorem dX8_asksQuote_34 : decode cX8_asksQuote 34 = .ok (.iconst 0, 1) := by decide +kernel
theorem dX8_asksQuote_35 : decode cX8_asksQuote 35 = .ok (.ireturn, 1) := by decide +kernel
theorem dX8_price_0 : decode cX8_price 0 = .ok (.aload_n 0, 1) := by decide +kernel
theorem dX8_price_1 : decode cX8_price 1 = .ok (.iload_n 1, 1) := by decide +kernel
theorem dX8_price_2 : decode cX8_price 2 = .ok (.invokevirtual 207, 3) := by decide +kernel
theorem dX8_price_5 : decode cX8_price 5 = .ok (.ifCond .eq 17, 3) := by decide +kernel
theorem dX8_price_8 : decode cX8_price 8 = .ok (.aload_n 0, 1) := by decide +kernel
theorem dX8_price_9 : decode cX8_price 9 = .ok (.iload_n 1, 1) := by decide +kernel
theorem dX8_price_10 : decode cX8_price 10 = .ok (.aload_n 0, 1) := by decide +kernel
theorem dX8_price_11 : decode cX8_price 11 = .ok (.getfield 93, 3) := by decide +kernel
theorem dX8_price_14 : decode cX8_price 14 = .ok (.iload_n 1, 1) := by decide +kernel
theorem dX8_price_15 : decode cX8_price 15 = .ok (.iaload, 1) := by decide +kernel
theorem dX8_price_16 : decode cX8_price 16 = .ok (.invokevirtual 210, 3) := by decide +kernel
theorem dX8_price_19 : decode cX8_price 19 = .ok (.goto 4, 3) := by decide +kernel
theorem dX8_price_22 : decode cX8_price 22 = .ok (.iconst 0, 1) := by decide +kernel
theorem dX8_price_23 : decode cX8_price 23 = .ok (.ireturn, 1) := by decide +kernel
theorem dX8_fixed_0 : decode cX8_fixed 0 = .ok (.aload_n 0, 1) := by decide +kernel
theorem dX8_fixed_1 : decode cX8_fixed 1 = .ok (.iload_n 1, 1) := by decide +kernel
theorem dX8_fixed_2 : decode cX8_fixed 2 = .ok (.invokevirtual 207, 3) := by decide +kernel
theorem dX8_fixed_5 : decode cX8_fixed 5 = .ok (.ifCond .eq 32, 3) := by decide +kernel
theorem dX8_fixed_8 : decode cX8_fixed 8 = .ok (.aload_n 0, 1) := by decide +kernel
theorem dX8_fixed_9 : decode cX8_fixed 9 = .ok (.getfield 168, 3) := by decide +kernel
theorem dX8_fixed_12 : decode cX8_fixed 12 = .ok (.aload_n 0, 1) := by decide +kernel
theorem dX8_fixed_13 : decode cX8_fixed 13 = .ok (.getfield 108, 3) := by decide +kernel
theorem dX8_fixed_16 : decode cX8_fixed 16 = .ok (.iload_n 1, 1) := by decide +kernel
theorem dX8_fixed_17 : decode cX8_fixed 17 = .ok (.iaload, 1) := by decide +kernel
theorem dX8_fixed_18 : decode cX8_fixed 18 = .ok (.if_icmp .gt 19, 3) := by decide +kernel
theorem dX8_fixed_21 : decode cX8_fixed 21 = .ok (.aload_n 0, 1) := by decide +kernel
theorem dX8_fixed_22 : decode cX8_fixed 22 = .ok (.getfield 108, 3) := by decide +kernel
theorem dX8_fixed_25 : decode cX8_fixed 25 = .ok (.iload_n 1, 1) := by decide +kernel
theorem dX8_fixed_26 : decode cX8_fixed 26 = .ok (.iaload, 1) := by decide +kernel
theorem dX8_fixed_27 : decode cX8_fixed 27 = .ok (.aload_n 0, 1) := by decide +kernel
theorem dX8_fixed_28 : decode cX8_fixed 28 = .ok (.getfield 168, 3) := by decide +kernel
theorem dX8_fixed_31 : decode cX8_fixed 31 = .ok (.isub, 1) := by decide +kernel
theorem dX8_fixed_32 : decode cX8_fixed 32 = .ok (.iconst 1, 1) := by decide +kernel
theorem dX8_fixed_33 : decode cX8_fixed 33 = .ok (.iadd, 1) := by decide +kernel
theorem dX8_fixed_34 : decode cX8_fixed 34 = .ok (.goto 4, 3) := by decide +kernel
theorem dX8_fixed_37 : decode cX8_fixed 37 = .ok (.iconst 0, 1) := by decide +kernel
theorem dX8_fixed_38 : decode cX8_fixed 38 = .ok (.ireturn, 1) := by decide +kernel
theorem dX8_leftOf_0 : decode cX8_leftOf 0 = .ok (.aload_n 0, 1) := by decide +kernel
theorem dX8_leftOf_1 : decode cX8_leftOf 1 = .ok (.getfield 26, 3) := by decide +kernel
theorem dX8_leftOf_4 : decode cX8_leftOf 4 = .ok (.iload_n 1, 1) := by decide +kernel
theorem dX8_leftOf_5 : decode cX8_leftOf 5 = .ok (.iaload, 1) := by decide +kernel
theorem dX8_leftOf_6 : decode cX8_leftOf 6 = .ok (.aload_n 0, 1) := by decide +kernel
theorem dX8_leftOf_7 : decode cX8_leftOf 7 = .ok (.iload_n 1, 1) := by decide +kernel
theorem dX8_leftOf_8 : decode cX8_leftOf 8 = .ok (.invokevirtual 198, 3) := by decide +kernel
theorem dX8_leftOf_11 : decode cX8_leftOf 11 = .ok (.isub, 1) := by decide +kernel
theorem dX8_leftOf_12 : decode cX8_leftOf 12 = .ok (.istore_n 2, 1) := by decide +kernel
theorem dX8_leftOf_13 : decode cX8_leftOf 13 = .ok (.iload_n 2, 1) := by decide +kernel
theorem dX8_leftOf_14 : decode cX8_leftOf 14 = .ok (.ifCond .ge 7, 3) := by decide +kernel
theorem dX8_leftOf_17 : decode cX8_leftOf 17 = .ok (.iconst 0, 1) := by decide +kernel
theorem dX8_leftOf_18 : decode cX8_leftOf 18 = .ok (.goto 4, 3) := by decide +kernel
theorem dX8_leftOf_21 : decode cX8_leftOf 21 = .ok (.iload_n 2, 1) := by decide +kernel
theorem dX8_leftOf_22 : decode cX8_leftOf 22 = .ok (.ireturn, 1) := by decide +kernel
theorem dX8_left_0 : decode cX8_left 0 = .ok (.aload_n 0, 1) := by decide +kernel
theorem dX8_left_1 : decode cX8_left 1 = .ok (.iload_n 1, 1) := by decide +kernel
theorem dX8_left_2 : decode cX8_left 2 = .ok (.invokestatic 171, 3) := by decide +kernel
theorem dX8_left_5 : decode cX8_left 5 = .ok (.ifCond .eq 7, 3) := by decide +kernel
theorem dX8_left_8 : decode cX8_left 8 = .ok (.iconst 0, 1) := by decide +kernel
theorem dX8_left_9 : decode cX8_left 9 = .ok (.goto 4, 3) := by decide +kernel
theorem dX8_left_12 : decode cX8_left 12 = .ok (.iconst 1, 1) := by decide +kernel
theorem dX8_left_13 : decode cX8_left 13 = .ok (.putfield 123, 3) := by decide +kernel
theorem dX8_left_16 : decode cX8_left 16 = .ok (.aload_n 0, 1) := by decide +kernel
theorem dX8_left_17 : decode cX8_left 17 = .ok (.getfield 123, 3) := by decide +kernel
theorem dX8_left_20 : decode cX8_left 20 = .ok (.ifCond .le 7, 3) := by decide +kernel
theorem dX8_left_23 : decode cX8_left 23 = .ok (.iconst 0, 1) := by decide +kernel
theorem dX8_left_24 : decode cX8_left 24 = .ok (.goto 8, 3) := by decide +kernel
theorem dX8_left_27 : decode cX8_left 27 = .ok (.aload_n 0, 1) := by decide +kernel
theorem dX8_left_28 : decode cX8_left 28 = .ok (.iload_n 1, 1) := by decide +kernel
theorem dX8_left_29 : decode cX8_left 29 = .ok (.invokevirtual 213, 3) := by decide +kernel
theorem dX8_left_32 : decode cX8_left 32 = .ok (.ireturn, 1) := by decide +kernel
theorem dX8_leftByLog_0 : decode cX8_leftByLog 0 = .ok (.aload_n 0, 1) := by decide +kernel
theorem dX8_leftByLog_1 : decode cX8_leftByLog 1 = .ok (.iload_n 1, 1) := by decide +kernel
theorem dX8_leftByLog_2 : decode cX8_leftByLog 2 = .ok (.invokestatic 171, 3) := by decide +kernel
theorem dX8_leftByLog_5 : decode cX8_leftByLog 5 = .ok (.ifCond .eq 7, 3) := by decide +kernel
theorem dX8_leftByLog_8 : decode cX8_leftByLog 8 = .ok (.iconst 0, 1) := by decide +kernel
theorem dX8_leftByLog_9 : decode cX8_leftByLog 9 = .ok (.goto 4, 3) := by decide +kernel
theorem dX8_leftByLog_12 : decode cX8_leftByLog 12 = .ok (.iconst 1, 1) := by decide +kernel
theorem dX8_leftByLog_13 : decode cX8_leftByLog 13 = .ok (.putfield 123, 3) := by decide +kernel
theorem dX8_leftByLog_16 : decode cX8_leftByLog 16 = .ok (.aload_n 0, 1) := by decide +kernel
theorem dX8_leftByLog_17 : decode cX8_leftByLog 17 = .ok (.getfield 123, 3) := by decide +kernel
theorem dX8_leftByLog_20 : decode cX8_leftByLog 20 = .ok (.ifCond .le 7, 3) := by decide +kernel
theorem dX8_leftByLog_23 : decode cX8_leftByLog 23 = .ok (.iconst 0, 1) := by decide +kernel
theorem dX8_leftByLog_24 : decode cX8_leftByLog 24 = .ok (.goto 8, 3) := by decide +kernel
theorem dX8_leftByLog_27 : decode cX8_leftByLog 27 = .ok (.aload_n 0, 1) := by decide +kernel
theorem dX8_leftByLog_28 : decode cX8_leftByLog 28 = .ok (.iload_n 1, 1) := by decide +kernel
theorem dX8_leftByLog_29 : decode cX8_leftByLog 29 = .ok (.invokevirtual 213, 3) := by decide +kernel
theorem dX8_leftByLog_32 : decode cX8_leftByLog 32 = .ok (.ireturn, 1) := by decide +kernel
theorem dX8_circuit_0 : decode cX8_circuit 0 = .ok (.aload_n 0, 1) := by decide +kernel
theorem dX8_circuit_1 : decode cX8_circuit 1 = .ok (.iload_n 1, 1) := by decide +kernel
theorem dX8_circuit_2 : decode cX8_circuit 2 = .ok (.invokestatic 175, 3) := by decide +kernel
theorem dX8_circuit_5 : decode cX8_circuit 5 = .ok (.ifCond .eq 7, 3) := by decide +kernel
theorem dX8_circuit_8 : decode cX8_circuit 8 = .ok (.iconst 0, 1) := by decide +kernel
theorem dX8_circuit_9 : decode cX8_circuit 9 = .ok (.goto 4, 3) := by decide +kernel
theorem dX8_circuit_12 : decode cX8_circuit 12 = .ok (.iconst 1, 1) := by decide +kernel
theorem dX8_circuit_13 : decode cX8_circuit 13 = .ok (.putfield 123, 3) := by decide +kernel
theorem dX8_circuit_16 : decode cX8_circuit 16 = .ok (.aload_n 0, 1) := by decide +kernel
theorem dX8_circuit_17 : decode cX8_circuit 17 = .ok (.getfield 123, 3) := by decide +kernel
theorem dX8_circuit_20 : decode cX8_circuit 20 = .ok (.ifCond .le 7, 3) := by decide +kernel
theorem dX8_circuit_23 : decode cX8_circuit 23 = .ok (.iconst 0, 1) := by decide +kernel
theorem dX8_circuit_24 : decode cX8_circuit 24 = .ok (.goto 8, 3) := by decide +kernel
theorem dX8_circuit_27 : decode cX8_circuit 27 = .ok (.aload_n 0, 1) := by decide +kernel
theorem dX8_circuit_28 : decode cX8_circuit 28 = .ok (.iload_n 1, 1) := by decide +kernel
theorem dX8_circuit_29 : decode cX8_circuit 29 = .ok (.invokevirtual 178, 3) := by decide +kernel
theorem dX8_circuit_32 : decode cX8_circuit 32 = .ok (.ireturn, 1) := by decide +kernel
theorem dX8_tries_0 : decode cX8_tries 0 = .ok (.aload_n 0, 1) := by decide +kernel
theorem dX8_tries_1 : decode cX8_tries 1 = .ok (.iload_n 1, 1) := by decide +kernel
theorem dX8_tries_2 : decode cX8_tries 2 = .ok (.invokestatic 175, 3) := by decide +kernel
theorem dX8_tries_5 : decode cX8_tries 5 = .ok (.ifCond .eq 7, 3) := by decide +kernel
theorem dX8_tries_8 : decode cX8_tries 8 = .ok (.iconst 0, 1) := by decide +kernel
theorem dX8_tries_9 : decode cX8_tries 9 = .ok (.goto 4, 3) := by decide +kernel
theorem dX8_tries_12 : decode cX8_tries 12 = .ok (.iconst 1, 1) := by decide +kernel
theorem dX8_tries_13 : decode cX8_tries 13 = .ok (.putfield 123, 3) := by decide +kernel
theorem dX8_tries_16 : decode cX8_tries 16 = .ok (.aload_n 0, 1) := by decide +kernel
theorem dX8_tries_17 : decode cX8_tries 17 = .ok (.getfield 123, 3) := by decide +kernel
theorem dX8_tries_20 : decode cX8_tries 20 = .ok (.ifCond .le 7, 3) := by decide +kernel
theorem dX8_tries_23 : decode cX8_tries 23 = .ok (.iconst 0, 1) := by decide +kernel
theorem dX8_tries_24 : decode cX8_tries 24 = .ok (.goto 9, 3) := by decide +kernel
theorem dX8_tries_27 : decode cX8_tries 27 = .ok (.aload_n 0, 1) := by decide +kernel
theorem dX8_tries_28 : decode cX8_tries 28 = .ok (.getfield 39, 3) := by decide +kernel
theorem dX8_tries_31 : decode cX8_tries 31 = .ok (.iload_n 1, 1) := by decide +kernel
theorem dX8_tries_32 : decode cX8_tries 32 = .ok (.iaload, 1) := by decide +kernel
theorem dX8_tries_33 : decode cX8_tries 33 = .ok (.ireturn, 1) := by decide +kernel
theorem dX8_calls_0 : decode cX8_calls 0 = .ok (.aload_n 0, 1) := by decide +kernel
theorem dX8_calls_1 : decode cX8_calls 1 = .ok (.iconst 0, 1) := by decide +kernel
theorem dX8_calls_2 : decode cX8_calls 2 = .ok (.putfield 123, 3) := by decide +kernel
theorem dX8_calls_5 : decode cX8_calls 5 = .ok (.aload_n 0, 1) := by decide +kernel
theorem dX8_calls_6 : decode cX8_calls 6 = .ok (.getfield 195, 3) := by decide +kernel
theorem dX8_calls_9 : decode cX8_calls 9 = .ok (.ireturn, 1) := by decide +kernel
theorem dX8_book_0 : decode cX8_book 0 = .ok (.aload_n 0, 1) := by decide +kernel
theorem dX8_book_1 : decode cX8_book 1 = .ok (.iload_n 1, 1) := by decide +kernel
theorem dX8_book_2 : decode cX8_book 2 = .ok (.invokevirtual 207, 3) := by decide +kernel
theorem dX8_book_5 : decode cX8_book 5 = .ok (.ifCond .ne 5, 3) := by decide +kernel
theorem dX8_book_8 : decode cX8_book 8 = .ok (.iconst 0, 1) := by decide +kernel
theorem dX8_book_9 : decode cX8_book 9 = .ok (.ireturn, 1) := by decide +kernel
theorem dX8_book_10 : decode cX8_book 10 = .ok (.aload_n 0, 1) := by decide +kernel
theorem dX8_book_11 : decode cX8_book 11 = .ok (.getfield 87, 3) := by decide +kernel
theorem dX8_book_14 : decode cX8_book 14 = .ok (.iload_n 1, 1) := by decide +kernel
theorem dX8_book_15 : decode cX8_book 15 = .ok (.iaload, 1) := by decide +kernel
theorem dX8_book_16 : decode cX8_book 16 = .ok (.istore_n 2, 1) := by decide +kernel
theorem dX8_book_17 : decode cX8_book 17 = .ok (.aload_n 0, 1) := by decide +kernel
theorem dX8_book_18 : decode cX8_book 18 = .ok (.iload_n 1, 1) := by decide +kernel
theorem dX8_book_19 : decode cX8_book 19 = .ok (.aload_n 0, 1) := by decide +kernel
theorem dX8_book_20 : decode cX8_book 20 = .ok (.getfield 93, 3) := by decide +kernel
theorem dX8_book_23 : decode cX8_book 23 = .ok (.iload_n 1, 1) := by decide +kernel
theorem dX8_book_24 : decode cX8_book 24 = .ok (.iaload, 1) := by decide +kernel
theorem dX8_book_25 : decode cX8_book 25 = .ok (.invokevirtual 210, 3) := by decide +kernel
theorem dX8_book_28 : decode cX8_book 28 = .ok (.istore_n 3, 1) := by decide +kernel
theorem dX8_book_29 : decode cX8_book 29 = .ok (.aload_n 0, 1) := by decide +kernel
theorem dX8_book_30 : decode cX8_book 30 = .ok (.getfield 51, 3) := by decide +kernel
theorem dX8_book_33 : decode cX8_book 33 = .ok (.iload_n 2, 1) := by decide +kernel
theorem dX8_book_34 : decode cX8_book 34 = .ok (.iaload, 1) := by decide +kernel
theorem dX8_book_35 : decode cX8_book 35 = .ok (.aload_n 0, 1) := by decide +kernel
theorem dX8_book_36 : decode cX8_book 36 = .ok (.getfield 54, 3) := by decide +kernel
theorem dX8_book_39 : decode cX8_book 39 = .ok (.iload_n 2, 1) := by decide +kernel
theorem dX8_book_40 : decode cX8_book 40 = .ok (.iaload, 1) := by decide +kernel
theorem dX8_book_41 : decode cX8_book 41 = .ok (.aload_n 0, 1) := by decide +kernel
theorem dX8_book_42 : decode cX8_book 42 = .ok (.getfield 57, 3) := by decide +kernel
theorem dX8_book_45 : decode cX8_book 45 = .ok (.iload_n 2, 1) := by decide +kernel
theorem dX8_book_46 : decode cX8_book 46 = .ok (.iaload, 1) := by decide +kernel
theorem dX8_book_47 : decode cX8_book 47 = .ok (.aload_n 0, 1) := by decide +kernel
theorem dX8_book_48 : decode cX8_book 48 = .ok (.getfield 90, 3) := by decide +kernel
theorem dX8_book_51 : decode cX8_book 51 = .ok (.iload_n 1, 1) := by decide +kernel
theorem dX8_book_52 : decode cX8_book 52 = .ok (.iaload, 1) := by decide +kernel
theorem dX8_book_53 : decode cX8_book 53 = .ok (.aload_n 0, 1) := by decide +kernel
theorem dX8_book_54 : decode cX8_book 54 = .ok (.getfield 93, 3) := by decide +kernel
theorem dX8_book_57 : decode cX8_book 57 = .ok (.iload_n 1, 1) := by decide +kernel
theorem dX8_book_58 : decode cX8_book 58 = .ok (.iaload, 1) := by decide +kernel
theorem dX8_book_59 : decode cX8_book 59 = .ok (.aload_n 0, 1) := by decide +kernel
theorem dX8_book_60 : decode cX8_book 60 = .ok (.getfield 96, 3) := by decide +kernel
theorem dX8_book_63 : decode cX8_book 63 = .ok (.iload_n 1, 1) := by decide +kernel
theorem dX8_book_64 : decode cX8_book 64 = .ok (.baload, 1) := by decide +kernel
theorem dX8_book_65 : decode cX8_book 65 = .ok (.invokestatic 188, 3) := by decide +kernel
theorem dX8_book_68 : decode cX8_book 68 = .ok (.istore 4, 2) := by decide +kernel
theorem dX8_book_70 : decode cX8_book 70 = .ok (.aload_n 0, 1) := by decide +kernel
theorem dX8_book_71 : decode cX8_book 71 = .ok (.aload_n 0, 1) := by decide +kernel
theorem dX8_book_72 : decode cX8_book 72 = .ok (.getfield 168, 3) := by decide +kernel
theorem dX8_book_75 : decode cX8_book 75 = .ok (.aload_n 0, 1) := by decide +kernel
theorem dX8_book_76 : decode cX8_book 76 = .ok (.getfield 108, 3) := by decide +kernel
theorem dX8_book_79 : decode cX8_book 79 = .ok (.iload_n 1, 1) := by decide +kernel
theorem dX8_book_80 : decode cX8_book 80 = .ok (.iaload, 1) := by decide +kernel
theorem dX8_book_81 : decode cX8_book 81 = .ok (.if_icmp .le 9, 3) := by decide +kernel
theorem dX8_book_84 : decode cX8_book 84 = .ok (.iload_n 3, 1) := by decide +kernel
theorem dX8_book_85 : decode cX8_book 85 = .ok (.iload 4, 2) := by decide +kernel
theorem dX8_book_87 : decode cX8_book 87 = .ok (.if_icmp .ne 12, 3) := by decide +kernel
theorem dX8_book_90 : decode cX8_book 90 = .ok (.aload_n 0, 1) := by decide +kernel
theorem dX8_book_91 : decode cX8_book 91 = .ok (.getfield 216, 3) := by decide +kernel
theorem dX8_book_94 : decode cX8_book 94 = .ok (.bipush 50, 2) := by decide +kernel
theorem dX8_book_96 : decode cX8_book 96 = .ok (.if_icmp .ne 7, 3) := by decide +kernel
theorem dX8_book_99 : decode cX8_book 99 = .ok (.iconst 2, 1) := by decide +kernel
theorem dX8_book_100 : decode cX8_book 100 = .ok (.goto 4, 3) := by decide +kernel
theorem dX8_book_103 : decode cX8_book 103 = .ok (.iconst 0, 1) := by decide +kernel
theorem dX8_book_104 : decode cX8_book 104 = .ok (.putfield 123, 3) := by decide +kernel
theorem dX8_book_107 : decode cX8_book 107 = .ok (.aload_n 0, 1) := by decide +kernel
theorem dX8_book_108 : decode cX8_book 108 = .ok (.getfield 123, 3) := by decide +kernel
theorem dX8_book_111 : decode cX8_book 111 = .ok (.ifCond .le 5, 3) := by decide +kernel
theorem dX8_book_114 : decode cX8_book 114 = .ok (.iconst 0, 1) := by decide +kernel
theorem dX8_book_115 : decode cX8_book 115 = .ok (.ireturn, 1) := by decide +kernel
theorem dX8_book_116 : decode cX8_book 116 = .ok (.aload_n 0, 1) := by decide +kernel
theorem dX8_book_117 : decode cX8_book 117 = .ok (.getfield 111, 3) := by decide +kernel
theorem dX8_book_120 : decode cX8_book 120 = .ok (.aload_n 0, 1) := by decide +kernel
theorem dX8_book_121 : decode cX8_book 121 = .ok (.getfield 216, 3) := by decide +kernel
theorem dX8_book_124 : decode cX8_book 124 = .ok (.iload_n 1, 1) := by decide +kernel
theorem dX8_book_125 : decode cX8_book 125 = .ok (.iastore, 1) := by decide +kernel
theorem dX8_book_126 : decode cX8_book 126 = .ok (.aload_n 0, 1) := by decide +kernel
theorem dX8_book_127 : decode cX8_book 127 = .ok (.getfield 114, 3) := by decide +kernel
theorem dX8_book_130 : decode cX8_book 130 = .ok (.aload_n 0, 1) := by decide +kernel
theorem dX8_book_131 : decode cX8_book 131 = .ok (.getfield 216, 3) := by decide +kernel
theorem dX8_book_134 : decode cX8_book 134 = .ok (.aload_n 0, 1) := by decide +kernel
theorem dX8_book_135 : decode cX8_book 135 = .ok (.getfield 168, 3) := by decide +kernel
theorem dX8_book_138 : decode cX8_book 138 = .ok (.iastore, 1) := by decide +kernel
theorem dX8_book_139 : decode cX8_book 139 = .ok (.aload_n 0, 1) := by decide +kernel
theorem dX8_book_140 : decode cX8_book 140 = .ok (.getfield 117, 3) := by decide +kernel
theorem dX8_book_143 : decode cX8_book 143 = .ok (.aload_n 0, 1) := by decide +kernel
theorem dX8_book_144 : decode cX8_book 144 = .ok (.getfield 216, 3) := by decide +kernel
theorem dX8_book_147 : decode cX8_book 147 = .ok (.iload_n 3, 1) := by decide +kernel
theorem dX8_book_148 : decode cX8_book 148 = .ok (.iastore, 1) := by decide +kernel
theorem dX8_book_149 : decode cX8_book 149 = .ok (.aload_n 0, 1) := by decide +kernel
theorem dX8_book_150 : decode cX8_book 150 = .ok (.dup, 1) := by decide +kernel
theorem dX8_book_151 : decode cX8_book 151 = .ok (.getfield 216, 3) := by decide +kernel
theorem dX8_book_154 : decode cX8_book 154 = .ok (.iconst 1, 1) := by decide +kernel
theorem dX8_book_155 : decode cX8_book 155 = .ok (.iadd, 1) := by decide +kernel
theorem dX8_book_156 : decode cX8_book 156 = .ok (.putfield 216, 3) := by decide +kernel
theorem dX8_book_159 : decode cX8_book 159 = .ok (.aload_n 0, 1) := by decide +kernel
theorem dX8_book_160 : decode cX8_book 160 = .ok (.getfield 216, 3) := by decide +kernel
theorem dX8_book_163 : decode cX8_book 163 = .ok (.iconst 1, 1) := by decide +kernel
theorem dX8_book_164 : decode cX8_book 164 = .ok (.isub, 1) := by decide +kernel
theorem dX8_book_165 : decode cX8_book 165 = .ok (.ireturn, 1) := by decide +kernel
theorem dX8_isParcel_0 : decode cX8_isParcel 0 = .ok (.iload_n 1, 1) := by decide +kernel
theorem dX8_isParcel_1 : decode cX8_isParcel 1 = .ok (.iconst 0, 1) := by decide +kernel
theorem dX8_isParcel_2 : decode cX8_isParcel 2 = .ok (.aload_n 0, 1) := by decide +kernel
theorem dX8_isParcel_3 : decode cX8_isParcel 3 = .ok (.getfield 216, 3) := by decide +kernel
theorem dX8_isParcel_6 : decode cX8_isParcel 6 = .ok (.iconst 1, 1) := by decide +kernel
theorem dX8_isParcel_7 : decode cX8_isParcel 7 = .ok (.isub, 1) := by decide +kernel
theorem dX8_isParcel_8 : decode cX8_isParcel 8 = .ok (.invokestatic 127, 3) := by decide +kernel
theorem dX8_isParcel_11 : decode cX8_isParcel 11 = .ok (.ireturn, 1) := by decide +kernel
theorem dX8_weigh_0 : decode cX8_weigh 0 = .ok (.aload_n 0, 1) := by decide +kernel
theorem dX8_weigh_1 : decode cX8_weigh 1 = .ok (.aload_n 0, 1) := by decide +kernel
theorem dX8_weigh_2 : decode cX8_weigh 2 = .ok (.iload_n 1, 1) := by decide +kernel
theorem dX8_weigh_3 : decode cX8_weigh 3 = .ok (.invokevirtual 219, 3) := by decide +kernel
theorem dX8_weigh_6 : decode cX8_weigh 6 = .ok (.ifCond .ne 7, 3) := by decide +kernel
theorem dX8_weigh_9 : decode cX8_weigh 9 = .ok (.iconst 1, 1) := by decide +kernel
theorem dX8_weigh_10 : decode cX8_weigh 10 = .ok (.goto 32, 3) := by decide +kernel
theorem dX8_weigh_13 : decode cX8_weigh 13 = .ok (.iload_n 2, 1) := by decide +kernel
theorem dX8_weigh_14 : decode cX8_weigh 14 = .ok (.iconst 1, 1) := by decide +kernel
theorem dX8_weigh_15 : decode cX8_weigh 15 = .ok (.sipush 30000, 3) := by decide +kernel
theorem dX8_weigh_18 : decode cX8_weigh 18 = .ok (.invokestatic 127, 3) := by decide +kernel
theorem dX8_weigh_21 : decode cX8_weigh 21 = .ok (.ifCond .ne 7, 3) := by decide +kernel
theorem dX8_weigh_24 : decode cX8_weigh 24 = .ok (.iconst 2, 1) := by decide +kernel
theorem dX8_weigh_25 : decode cX8_weigh 25 = .ok (.goto 17, 3) := by decide +kernel
theorem dX8_weigh_28 : decode cX8_weigh 28 = .ok (.aload_n 0, 1) := by decide +kernel
theorem dX8_weigh_29 : decode cX8_weigh 29 = .ok (.getfield 120, 3) := by decide +kernel
theorem dX8_weigh_32 : decode cX8_weigh 32 = .ok (.iload_n 1, 1) := by decide +kernel
theorem dX8_weigh_33 : decode cX8_weigh 33 = .ok (.iaload, 1) := by decide +kernel
theorem dX8_weigh_34 : decode cX8_weigh 34 = .ok (.ifCond .eq 7, 3) := by decide +kernel
theorem dX8_weigh_37 : decode cX8_weigh 37 = .ok (.iconst 3, 1) := by decide +kernel
theorem dX8_weigh_38 : decode cX8_weigh 38 = .ok (.goto 4, 3) := by decide +kernel
theorem dX8_weigh_41 : decode cX8_weigh 41 = .ok (.iconst 0, 1) := by decide +kernel
theorem dX8_weigh_42 : decode cX8_weigh 42 = .ok (.putfield 123, 3) := by decide +kernel
theorem dX8_weigh_45 : decode cX8_weigh 45 = .ok (.aload_n 0, 1) := by decide +kernel
theorem dX8_weigh_46 : decode cX8_weigh 46 = .ok (.getfield 123, 3) := by decide +kernel
theorem dX8_weigh_49 : decode cX8_weigh 49 = .ok (.ifCond .le 5, 3) := by decide +kernel
theorem dX8_weigh_52 : decode cX8_weigh 52 = .ok (.iconst 0, 1) := by decide +kernel
theorem dX8_weigh_53 : decode cX8_weigh 53 = .ok (.ireturn, 1) := by decide +kernel
theorem dX8_weigh_54 : decode cX8_weigh 54 = .ok (.aload_n 0, 1) := by decide +kernel
theorem dX8_weigh_55 : decode cX8_weigh 55 = .ok (.getfield 117, 3) := by decide +kernel
theorem dX8_weigh_58 : decode cX8_weigh 58 = .ok (.iload_n 1, 1) := by decide +kernel
theorem dX8_weigh_59 : decode cX8_weigh 59 = .ok (.iaload, 1) := by decide +kernel
theorem dX8_weigh_60 : decode cX8_weigh 60 = .ok (.istore_n 3, 1) := by decide +kernel
theorem dX8_weigh_61 : decode cX8_weigh 61 = .ok (.aload_n 0, 1) := by decide +kernel
theorem dX8_weigh_62 : decode cX8_weigh 62 = .ok (.getfield 117, 3) := by decide +kernel
theorem dX8_weigh_65 : decode cX8_weigh 65 = .ok (.iload_n 1, 1) := by decide +kernel
theorem dX8_weigh_66 : decode cX8_weigh 66 = .ok (.aload_n 0, 1) := by decide +kernel
theorem dX8_weigh_67 : decode cX8_weigh 67 = .ok (.aload_n 0, 1) := by decide +kernel
theorem dX8_weigh_68 : decode cX8_weigh 68 = .ok (.getfield 111, 3) := by decide +kernel
theorem dX8_weigh_71 : decode cX8_weigh 71 = .ok (.iload_n 1, 1) := by decide +kernel
theorem dX8_weigh_72 : decode cX8_weigh 72 = .ok (.iaload, 1) := by decide +kernel
theorem dX8_weigh_73 : decode cX8_weigh 73 = .ok (.iload_n 2, 1) := by decide +kernel
theorem dX8_weigh_74 : decode cX8_weigh 74 = .ok (.invokevirtual 210, 3) := by decide +kernel
theorem dX8_weigh_77 : decode cX8_weigh 77 = .ok (.iastore, 1) := by decide +kernel
theorem dX8_weigh_78 : decode cX8_weigh 78 = .ok (.aload_n 0, 1) := by decide +kernel
theorem dX8_weigh_79 : decode cX8_weigh 79 = .ok (.getfield 117, 3) := by decide +kernel
theorem dX8_weigh_82 : decode cX8_weigh 82 = .ok (.iload_n 1, 1) := by decide +kernel
theorem dX8_weigh_83 : decode cX8_weigh 83 = .ok (.iaload, 1) := by decide +kernel
theorem dX8_weigh_84 : decode cX8_weigh 84 = .ok (.iload_n 3, 1) := by decide +kernel
theorem dX8_weigh_85 : decode cX8_weigh 85 = .ok (.isub, 1) := by decide +kernel
theorem dX8_weigh_86 : decode cX8_weigh 86 = .ok (.ireturn, 1) := by decide +kernel
theorem dX8_cancel_0 : decode cX8_cancel 0 = .ok (.aload_n 0, 1) := by decide +kernel
theorem dX8_cancel_1 : decode cX8_cancel 1 = .ok (.aload_n 0, 1) := by decide +kernel
theorem dX8_cancel_2 : decode cX8_cancel 2 = .ok (.iload_n 1, 1) := by decide +kernel
theorem dX8_cancel_3 : decode cX8_cancel 3 = .ok (.invokevirtual 219, 3) := by decide +kernel
theorem dX8_cancel_6 : decode cX8_cancel 6 = .ok (.ifCond .eq 7, 3) := by decide +kernel
theorem dX8_cancel_9 : decode cX8_cancel 9 = .ok (.iconst 0, 1) := by decide +kernel
theorem dX8_cancel_10 : decode cX8_cancel 10 = .ok (.goto 4, 3) := by decide +kernel
theorem dX8_cancel_13 : decode cX8_cancel 13 = .ok (.iconst 1, 1) := by decide +kernel
theorem dX8_cancel_14 : decode cX8_cancel 14 = .ok (.putfield 123, 3) := by decide +kernel
theorem dX8_cancel_17 : decode cX8_cancel 17 = .ok (.aload_n 0, 1) := by decide +kernel
theorem dX8_cancel_18 : decode cX8_cancel 18 = .ok (.getfield 123, 3) := by decide +kernel
theorem dX8_cancel_21 : decode cX8_cancel 21 = .ok (.ifCond .le 5, 3) := by decide +kernel
theorem dX8_cancel_24 : decode cX8_cancel 24 = .ok (.iconst 0, 1) := by decide +kernel
theorem dX8_cancel_25 : decode cX8_cancel 25 = .ok (.ireturn, 1) := by decide +kernel
theorem dX8_cancel_26 : decode cX8_cancel 26 = .ok (.aload_n 0, 1) := by decide +kernel
theorem dX8_cancel_27 : decode cX8_cancel 27 = .ok (.aload_n 0, 1) := by decide +kernel
theorem dX8_cancel_28 : decode cX8_cancel 28 = .ok (.getfield 120, 3) := by decide +kernel
theorem dX8_cancel_31 : decode cX8_cancel 31 = .ok (.iload_n 1, 1) := by decide +kernel
theorem dX8_cancel_32 : decode cX8_cancel 32 = .ok (.iaload, 1) := by decide +kernel
theorem dX8_cancel_33 : decode cX8_cancel 33 = .ok (.ifCond .ne 19, 3) := by decide +kernel
theorem dX8_cancel_36 : decode cX8_cancel 36 = .ok (.aload_n 0, 1) := by decide +kernel
theorem dX8_cancel_37 : decode cX8_cancel 37 = .ok (.getfield 168, 3) := by decide +kernel
theorem dX8_cancel_40 : decode cX8_cancel 40 = .ok (.aload_n 0, 1) := by decide +kernel
theorem dX8_cancel_41 : decode cX8_cancel 41 = .ok (.getfield 114, 3) := by decide +kernel
theorem dX8_cancel_44 : decode cX8_cancel 44 = .ok (.iload_n 1, 1) := by decide +kernel
theorem dX8_cancel_45 : decode cX8_cancel 45 = .ok (.iaload, 1) := by decide +kernel
theorem dX8_cancel_46 : decode cX8_cancel 46 = .ok (.bipush 30, 2) := by decide +kernel
theorem dX8_cancel_48 : decode cX8_cancel 48 = .ok (.iadd, 1) := by decide +kernel
theorem dX8_cancel_49 : decode cX8_cancel 49 = .ok (.if_icmp .le 7, 3) := by decide +kernel
theorem dX8_cancel_52 : decode cX8_cancel 52 = .ok (.iconst 2, 1) := by decide +kernel
theorem dX8_cancel_53 : decode cX8_cancel 53 = .ok (.goto 4, 3) := by decide +kernel
theorem dX8_cancel_56 : decode cX8_cancel 56 = .ok (.iconst 0, 1) := by decide +kernel
theorem dX8_cancel_57 : decode cX8_cancel 57 = .ok (.putfield 123, 3) := by decide +kernel
theorem dX8_cancel_60 : decode cX8_cancel 60 = .ok (.aload_n 0, 1) := by decide +kernel
theorem dX8_cancel_61 : decode cX8_cancel 61 = .ok (.getfield 123, 3) := by decide +kernel
theorem dX8_cancel_64 : decode cX8_cancel 64 = .ok (.ifCond .le 5, 3) := by decide +kernel
theorem dX8_cancel_67 : decode cX8_cancel 67 = .ok (.iconst 0, 1) := by decide +kernel
theorem dX8_cancel_68 : decode cX8_cancel 68 = .ok (.ireturn, 1) := by decide +kernel
theorem dX8_cancel_69 : decode cX8_cancel 69 = .ok (.aload_n 0, 1) := by decide +kernel
theorem dX8_cancel_70 : decode cX8_cancel 70 = .ok (.getfield 120, 3) := by decide +kernel
theorem dX8_cancel_73 : decode cX8_cancel 73 = .ok (.iload_n 1, 1) := by decide +kernel
theorem dX8_cancel_74 : decode cX8_cancel 74 = .ok (.iconst 1, 1) := by decide +kernel
theorem dX8_cancel_75 : decode cX8_cancel 75 = .ok (.iastore, 1) := by decide +kernel
theorem dX8_cancel_76 : decode cX8_cancel 76 = .ok (.aload_n 0, 1) := by decide +kernel
theorem dX8_cancel_77 : decode cX8_cancel 77 = .ok (.getfield 117, 3) := by decide +kernel
theorem dX8_cancel_80 : decode cX8_cancel 80 = .ok (.iload_n 1, 1) := by decide +kernel
theorem dX8_cancel_81 : decode cX8_cancel 81 = .ok (.iaload, 1) := by decide +kernel
theorem dX8_cancel_82 : decode cX8_cancel 82 = .ok (.ireturn, 1) := by decide +kernel
theorem dX8_state_0 : decode cX8_state 0 = .ok (.aload_n 0, 1) := by decide +kernel
theorem dX8_state_1 : decode cX8_state 1 = .ok (.aload_n 0, 1) := by decide +kernel
theorem dX8_state_2 : decode cX8_state 2 = .ok (.iload_n 1, 1) := by decide +kernel
theorem dX8_state_3 : decode cX8_state 3 = .ok (.invokevirtual 219, 3) := by decide +kernel
theorem dX8_state_6 : decode cX8_state 6 = .ok (.ifCond .eq 7, 3) := by decide +kernel
theorem dX8_state_9 : decode cX8_state 9 = .ok (.iconst 0, 1) := by decide +kernel
theorem dX8_state_10 : decode cX8_state 10 = .ok (.goto 4, 3) := by decide +kernel
theorem dX8_state_13 : decode cX8_state 13 = .ok (.iconst 1, 1) := by decide +kernel
theorem dX8_state_14 : decode cX8_state 14 = .ok (.putfield 123, 3) := by decide +kernel
theorem dX8_state_17 : decode cX8_state 17 = .ok (.aload_n 0, 1) := by decide +kernel
theorem dX8_state_18 : decode cX8_state 18 = .ok (.getfield 123, 3) := by decide +kernel
theorem dX8_state_21 : decode cX8_state 21 = .ok (.ifCond .le 7, 3) := by decide +kernel
theorem dX8_state_24 : decode cX8_state 24 = .ok (.iconst 0, 1) := by decide +kernel
theorem dX8_state_25 : decode cX8_state 25 = .ok (.goto 9, 3) := by decide +kernel
theorem dX8_state_28 : decode cX8_state 28 = .ok (.aload_n 0, 1) := by decide +kernel
theorem dX8_state_29 : decode cX8_state 29 = .ok (.getfield 120, 3) := by decide +kernel
theorem dX8_state_32 : decode cX8_state 32 = .ok (.iload_n 1, 1) := by decide +kernel
theorem dX8_state_33 : decode cX8_state 33 = .ok (.iaload, 1) := by decide +kernel
theorem dX8_state_34 : decode cX8_state 34 = .ok (.ireturn, 1) := by decide +kernel
theorem dX8_cost_0 : decode cX8_cost 0 = .ok (.aload_n 0, 1) := by decide +kernel
theorem dX8_cost_1 : decode cX8_cost 1 = .ok (.aload_n 0, 1) := by decide +kernel
theorem dX8_cost_2 : decode cX8_cost 2 = .ok (.iload_n 1, 1) := by decide +kernel
theorem dX8_cost_3 : decode cX8_cost 3 = .ok (.invokevirtual 219, 3) := by decide +kernel
theorem dX8_cost_6 : decode cX8_cost 6 = .ok (.ifCond .eq 7, 3) := by decide +kernel
theorem dX8_cost_9 : decode cX8_cost 9 = .ok (.iconst 0, 1) := by decide +kernel
theorem dX8_cost_10 : decode cX8_cost 10 = .ok (.goto 4, 3) := by decide +kernel
theorem dX8_cost_13 : decode cX8_cost 13 = .ok (.iconst 1, 1) := by decide +kernel
theorem dX8_cost_14 : decode cX8_cost 14 = .ok (.putfield 123, 3) := by decide +kernel
theorem dX8_cost_17 : decode cX8_cost 17 = .ok (.aload_n 0, 1) := by decide +kernel
theorem dX8_cost_18 : decode cX8_cost 18 = .ok (.getfield 123, 3) := by decide +kernel
theorem dX8_cost_21 : decode cX8_cost 21 = .ok (.ifCond .le 7, 3) := by decide +kernel
theorem dX8_cost_24 : decode cX8_cost 24 = .ok (.iconst 0, 1) := by decide +kernel
theorem dX8_cost_25 : decode cX8_cost 25 = .ok (.goto 9, 3) := by decide +kernel
theorem dX8_cost_28 : decode cX8_cost 28 = .ok (.aload_n 0, 1) := by decide +kernel
theorem dX8_cost_29 : decode cX8_cost 29 = .ok (.getfield 117, 3) := by decide +kernel
theorem dX8_cost_32 : decode cX8_cost 32 = .ok (.iload_n 1, 1) := by decide +kernel
theorem dX8_cost_33 : decode cX8_cost 33 = .ok (.iaload, 1) := by decide +kernel
theorem dX8_cost_34 : decode cX8_cost 34 = .ok (.ireturn, 1) := by decide +kernel
theorem dX8_isDue_0 : decode cX8_isDue 0 = .ok (.aload_n 0, 1) := by decide +kernel
theorem dX8_isDue_1 : decode cX8_isDue 1 = .ok (.getfield 120, 3) := by decide +kernel
theorem dX8_isDue_4 : decode cX8_isDue 4 = .ok (.iload_n 1, 1) := by decide +kernel
theorem dX8_isDue_5 : decode cX8_isDue 5 = .ok (.iaload, 1) := by decide +kernel
theorem dX8_isDue_6 : decode cX8_isDue 6 = .ok (.ifCond .ne 38, 3) := by decide +kernel
theorem dX8_isDue_9 : decode cX8_isDue 9 = .ok (.aload_n 0, 1) := by decide +kernel
theorem dX8_isDue_10 : decode cX8_isDue 10 = .ok (.getfield 168, 3) := by decide +kernel
theorem dX8_isDue_13 : decode cX8_isDue 13 = .ok (.aload_n 0, 1) := by decide +kernel
theorem dX8_isDue_14 : decode cX8_isDue 14 = .ok (.getfield 114, 3) := by decide +kernel
theorem dX8_isDue_17 : decode cX8_isDue 17 = .ok (.iload_n 1, 1) := by decide +kernel
theorem dX8_isDue_18 : decode cX8_isDue 18 = .ok (.iaload, 1) := by decide +kernel
theorem dX8_isDue_19 : decode cX8_isDue 19 = .ok (.bipush 30, 2) := by decide +kernel
theorem dX8_isDue_21 : decode cX8_isDue 21 = .ok (.iadd, 1) := by decide +kernel
theorem dX8_isDue_22 : decode cX8_isDue 22 = .ok (.if_icmp .le 22, 3) := by decide +kernel
theorem dX8_isDue_25 : decode cX8_isDue 25 = .ok (.aload_n 0, 1) := by decide +kernel
theorem dX8_isDue_26 : decode cX8_isDue 26 = .ok (.getfield 84, 3) := by decide +kernel
theorem dX8_isDue_29 : decode cX8_isDue 29 = .ok (.aload_n 0, 1) := by decide +kernel
theorem dX8_isDue_30 : decode cX8_isDue 30 = .ok (.getfield 111, 3) := by decide +kernel
theorem dX8_isDue_33 : decode cX8_isDue 33 = .ok (.iload_n 1, 1) := by decide +kernel
theorem dX8_isDue_34 : decode cX8_isDue 34 = .ok (.iaload, 1) := by decide +kernel
theorem dX8_isDue_35 : decode cX8_isDue 35 = .ok (.iaload, 1) := by decide +kernel
theorem dX8_isDue_36 : decode cX8_isDue 36 = .ok (.iload_n 2, 1) := by decide +kernel
theorem dX8_isDue_37 : decode cX8_isDue 37 = .ok (.if_icmp .ne 7, 3) := by decide +kernel
theorem dX8_isDue_40 : decode cX8_isDue 40 = .ok (.iconst 1, 1) := by decide +kernel
theorem dX8_isDue_41 : decode cX8_isDue 41 = .ok (.goto 4, 3) := by decide +kernel
theorem dX8_isDue_44 : decode cX8_isDue 44 = .ok (.iconst 0, 1) := by decide +kernel
theorem dX8_isDue_45 : decode cX8_isDue 45 = .ok (.ireturn, 1) := by decide +kernel
theorem dX8_billOf_0 : decode cX8_billOf 0 = .ok (.aload_n 0, 1) := by decide +kernel
theorem dX8_billOf_1 : decode cX8_billOf 1 = .ok (.getfield 66, 3) := by decide +kernel
theorem dX8_billOf_4 : decode cX8_billOf 4 = .ok (.iload_n 1, 1) := by decide +kernel
theorem dX8_billOf_5 : decode cX8_billOf 5 = .ok (.iaload, 1) := by decide +kernel
theorem dX8_billOf_6 : decode cX8_billOf 6 = .ok (.istore_n 2, 1) := by decide +kernel
theorem dX8_billOf_7 : decode cX8_billOf 7 = .ok (.iconst 0, 1) := by decide +kernel
theorem dX8_billOf_8 : decode cX8_billOf 8 = .ok (.istore_n 3, 1) := by decide +kernel
theorem dX8_billOf_9 : decode cX8_billOf 9 = .ok (.iload_n 3, 1) := by decide +kernel
theorem dX8_billOf_10 : decode cX8_billOf 10 = .ok (.aload_n 0, 1) := by decide +kernel
theorem dX8_billOf_11 : decode cX8_billOf 11 = .ok (.getfield 216, 3) := by decide +kernel
theorem dX8_billOf_14 : decode cX8_billOf 14 = .ok (.if_icmp .ge 31, 3) := by decide +kernel
theorem dX8_billOf_17 : decode cX8_billOf 17 = .ok (.iload_n 2, 1) := by decide +kernel
theorem dX8_billOf_18 : decode cX8_billOf 18 = .ok (.aload_n 0, 1) := by decide +kernel
theorem dX8_billOf_19 : decode cX8_billOf 19 = .ok (.iload_n 3, 1) := by decide +kernel
theorem dX8_billOf_20 : decode cX8_billOf 20 = .ok (.iload_n 1, 1) := by decide +kernel
theorem dX8_billOf_21 : decode cX8_billOf 21 = .ok (.invokevirtual 222, 3) := by decide +kernel
theorem dX8_billOf_24 : decode cX8_billOf 24 = .ok (.ifCond .eq 12, 3) := by decide +kernel
theorem dX8_billOf_27 : decode cX8_billOf 27 = .ok (.aload_n 0, 1) := by decide +kernel
theorem dX8_billOf_28 : decode cX8_billOf 28 = .ok (.getfield 117, 3) := by decide +kernel
theorem dX8_billOf_31 : decode cX8_billOf 31 = .ok (.iload_n 3, 1) := by decide +kernel
theorem dX8_billOf_32 : decode cX8_billOf 32 = .ok (.iaload, 1) := by decide +kernel
theorem dX8_billOf_33 : decode cX8_billOf 33 = .ok (.goto 4, 3) := by decide +kernel
theorem dX8_billOf_36 : decode cX8_billOf 36 = .ok (.iconst 0, 1) := by decide +kernel
theorem dX8_billOf_37 : decode cX8_billOf 37 = .ok (.iadd, 1) := by decide +kernel
theorem dX8_billOf_38 : decode cX8_billOf 38 = .ok (.istore_n 2, 1) := by decide +kernel
theorem dX8_billOf_39 : decode cX8_billOf 39 = .ok (.iinc 3 1, 3) := by decide +kernel
theorem dX8_billOf_42 : decode cX8_billOf 42 = .ok (.goto (-33), 3) := by decide +kernel
theorem dX8_billOf_45 : decode cX8_billOf 45 = .ok (.iload_n 2, 1) := by decide +kernel
theorem dX8_billOf_46 : decode cX8_billOf 46 = .ok (.ireturn, 1) := by decide +kernel
theorem dX8_bill_0 : decode cX8_bill 0 = .ok (.aload_n 0, 1) := by decide +kernel
theorem dX8_bill_1 : decode cX8_bill 1 = .ok (.iload_n 1, 1) := by decide +kernel
theorem dX8_bill_2 : decode cX8_bill 2 = .ok (.invokestatic 171, 3) := by decide +kernel
theorem dX8_bill_5 : decode cX8_bill 5 = .ok (.ifCond .eq 7, 3) := by decide +kernel
theorem dX8_bill_8 : decode cX8_bill 8 = .ok (.iconst 0, 1) := by decide +kernel
theorem dX8_bill_9 : decode cX8_bill 9 = .ok (.goto 4, 3) := by decide +kernel
theorem dX8_bill_12 : decode cX8_bill 12 = .ok (.iconst 1, 1) := by decide +kernel
theorem dX8_bill_13 : decode cX8_bill 13 = .ok (.putfield 123, 3) := by decide +kernel
theorem dX8_bill_16 : decode cX8_bill 16 = .ok (.aload_n 0, 1) := by decide +kernel
theorem dX8_bill_17 : decode cX8_bill 17 = .ok (.getfield 123, 3) := by decide +kernel
theorem dX8_bill_20 : decode cX8_bill 20 = .ok (.ifCond .le 7, 3) := by decide +kernel
theorem dX8_bill_23 : decode cX8_bill 23 = .ok (.iconst 0, 1) := by decide +kernel
theorem dX8_bill_24 : decode cX8_bill 24 = .ok (.goto 8, 3) := by decide +kernel
theorem dX8_bill_27 : decode cX8_bill 27 = .ok (.aload_n 0, 1) := by decide +kernel
theorem dX8_bill_28 : decode cX8_bill 28 = .ok (.iload_n 1, 1) := by decide +kernel
theorem dX8_bill_29 : decode cX8_bill 29 = .ok (.invokevirtual 226, 3) := by decide +kernel
theorem dX8_bill_32 : decode cX8_bill 32 = .ok (.ireturn, 1) := by decide +kernel
theorem dX8_close_0 : decode cX8_close 0 = .ok (.aload_n 0, 1) := by decide +kernel
theorem dX8_close_1 : decode cX8_close 1 = .ok (.iload_n 1, 1) := by decide +kernel
theorem dX8_close_2 : decode cX8_close 2 = .ok (.invokestatic 171, 3) := by decide +kernel
theorem dX8_close_5 : decode cX8_close 5 = .ok (.ifCond .eq 7, 3) := by decide +kernel
theorem dX8_close_8 : decode cX8_close 8 = .ok (.iconst 0, 1) := by decide +kernel
theorem dX8_close_9 : decode cX8_close 9 = .ok (.goto 4, 3) := by decide +kernel
theorem dX8_close_12 : decode cX8_close 12 = .ok (.iconst 1, 1) := by decide +kernel
theorem dX8_close_13 : decode cX8_close 13 = .ok (.putfield 123, 3) := by decide +kernel
theorem dX8_close_16 : decode cX8_close 16 = .ok (.aload_n 0, 1) := by decide +kernel
theorem dX8_close_17 : decode cX8_close 17 = .ok (.getfield 123, 3) := by decide +kernel
theorem dX8_close_20 : decode cX8_close 20 = .ok (.ifCond .le 5, 3) := by decide +kernel
theorem dX8_close_23 : decode cX8_close 23 = .ok (.iconst 0, 1) := by decide +kernel
theorem dX8_close_24 : decode cX8_close 24 = .ok (.ireturn, 1) := by decide +kernel
theorem dX8_close_25 : decode cX8_close 25 = .ok (.aload_n 0, 1) := by decide +kernel
theorem dX8_close_26 : decode cX8_close 26 = .ok (.iload_n 1, 1) := by decide +kernel
theorem dX8_close_27 : decode cX8_close 27 = .ok (.invokevirtual 226, 3) := by decide +kernel
theorem dX8_close_30 : decode cX8_close 30 = .ok (.istore_n 2, 1) := by decide +kernel
theorem dX8_close_31 : decode cX8_close 31 = .ok (.iconst 0, 1) := by decide +kernel
theorem dX8_close_32 : decode cX8_close 32 = .ok (.istore_n 3, 1) := by decide +kernel
theorem dX8_close_33 : decode cX8_close 33 = .ok (.iload_n 3, 1) := by decide +kernel
theorem dX8_close_34 : decode cX8_close 34 = .ok (.aload_n 0, 1) := by decide +kernel
theorem dX8_close_35 : decode cX8_close 35 = .ok (.getfield 216, 3) := by decide +kernel
theorem dX8_close_38 : decode cX8_close 38 = .ok (.if_icmp .ge 34, 3) := by decide +kernel
theorem dX8_close_41 : decode cX8_close 41 = .ok (.aload_n 0, 1) := by decide +kernel
theorem dX8_close_42 : decode cX8_close 42 = .ok (.getfield 120, 3) := by decide +kernel
theorem dX8_close_45 : decode cX8_close 45 = .ok (.iload_n 3, 1) := by decide +kernel
theorem dX8_close_46 : decode cX8_close 46 = .ok (.aload_n 0, 1) := by decide +kernel
theorem dX8_close_47 : decode cX8_close 47 = .ok (.iload_n 3, 1) := by decide +kernel
theorem dX8_close_48 : decode cX8_close 48 = .ok (.iload_n 1, 1) := by decide +kernel
theorem dX8_close_49 : decode cX8_close 49 = .ok (.invokevirtual 222, 3) := by decide +kernel
theorem dX8_close_52 : decode cX8_close 52 = .ok (.ifCond .eq 7, 3) := by decide +kernel
theorem dX8_close_55 : decode cX8_close 55 = .ok (.iconst 2, 1) := by decide +kernel
theorem dX8_close_56 : decode cX8_close 56 = .ok (.goto 9, 3) := by decide +kernel
theorem dX8_close_59 : decode cX8_close 59 = .ok (.aload_n 0, 1) := by decide +kernel
theorem dX8_close_60 : decode cX8_close 60 = .ok (.getfield 120, 3) := by decide +kernel
theorem dX8_close_63 : decode cX8_close 63 = .ok (.iload_n 3, 1) := by decide +kernel
theorem dX8_close_64 : decode cX8_close 64 = .ok (.iaload, 1) := by decide +kernel
theorem dX8_close_65 : decode cX8_close 65 = .ok (.iastore, 1) := by decide +kernel
theorem dX8_close_66 : decode cX8_close 66 = .ok (.iinc 3 1, 3) := by decide +kernel
theorem dX8_close_69 : decode cX8_close 69 = .ok (.goto (-36), 3) := by decide +kernel
theorem dX8_close_72 : decode cX8_close 72 = .ok (.aload_n 0, 1) := by decide +kernel
theorem dX8_close_73 : decode cX8_close 73 = .ok (.getfield 66, 3) := by decide +kernel
theorem dX8_close_76 : decode cX8_close 76 = .ok (.iload_n 1, 1) := by decide +kernel
theorem dX8_close_77 : decode cX8_close 77 = .ok (.iconst 0, 1) := by decide +kernel
theorem dX8_close_78 : decode cX8_close 78 = .ok (.iastore, 1) := by decide +kernel
theorem dX8_close_79 : decode cX8_close 79 = .ok (.aload_n 0, 1) := by decide +kernel
theorem dX8_close_80 : decode cX8_close 80 = .ok (.getfield 69, 3) := by decide +kernel
theorem dX8_close_83 : decode cX8_close 83 = .ok (.iload_n 1, 1) := by decide +kernel
theorem dX8_close_84 : decode cX8_close 84 = .ok (.dup2, 1) := by decide +kernel
theorem dX8_close_85 : decode cX8_close 85 = .ok (.iaload, 1) := by decide +kernel
theorem dX8_close_86 : decode cX8_close 86 = .ok (.iload_n 2, 1) := by decide +kernel
theorem dX8_close_87 : decode cX8_close 87 = .ok (.iadd, 1) := by decide +kernel
theorem dX8_close_88 : decode cX8_close 88 = .ok (.iastore, 1) := by decide +kernel
theorem dX8_close_89 : decode cX8_close 89 = .ok (.iload_n 2, 1) := by decide +kernel
theorem dX8_close_90 : decode cX8_close 90 = .ok (.ireturn, 1) := by decide +kernel
theorem dX8_billed_0 : decode cX8_billed 0 = .ok (.aload_n 0, 1) := by decide +kernel
theorem dX8_billed_1 : decode cX8_billed 1 = .ok (.iload_n 1, 1) := by decide +kernel
theorem dX8_billed_2 : decode cX8_billed 2 = .ok (.invokestatic 171, 3) := by decide +kernel
theorem dX8_billed_5 : decode cX8_billed 5 = .ok (.ifCond .eq 7, 3) := by decide +kernel
theorem dX8_billed_8 : decode cX8_billed 8 = .ok (.iconst 0, 1) := by decide +kernel
theorem dX8_billed_9 : decode cX8_billed 9 = .ok (.goto 4, 3) := by decide +kernel
theorem dX8_billed_12 : decode cX8_billed 12 = .ok (.iconst 1, 1) := by decide +kernel
theorem dX8_billed_13 : decode cX8_billed 13 = .ok (.putfield 123, 3) := by decide +kernel
theorem dX8_billed_16 : decode cX8_billed 16 = .ok (.aload_n 0, 1) := by decide +kernel
theorem dX8_billed_17 : decode cX8_billed 17 = .ok (.getfield 123, 3) := by decide +kernel
theorem dX8_billed_20 : decode cX8_billed 20 = .ok (.ifCond .le 7, 3) := by decide +kernel
theorem dX8_billed_23 : decode cX8_billed 23 = .ok (.iconst 0, 1) := by decide +kernel
theorem dX8_billed_24 : decode cX8_billed 24 = .ok (.goto 9, 3) := by decide +kernel
theorem dX8_billed_27 : decode cX8_billed 27 = .ok (.aload_n 0, 1) := by decide +kernel
theorem dX8_billed_28 : decode cX8_billed 28 = .ok (.getfield 69, 3) := by decide +kernel
theorem dX8_billed_31 : decode cX8_billed 31 = .ok (.iload_n 1, 1) := by decide +kernel
theorem dX8_billed_32 : decode cX8_billed 32 = .ok (.iaload, 1) := by decide +kernel
theorem dX8_billed_33 : decode cX8_billed 33 = .ok (.ireturn, 1) := by decide +kernel
