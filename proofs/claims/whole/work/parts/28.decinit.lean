theorem dX7_init_0 : decode cX7_init 0 = .ok (.aload_n 0, 1) := by decide +kernel
theorem dX7_init_1 : decode cX7_init 1 = .ok (.invokespecial 1, 3) := by decide +kernel
theorem dX7_init_4 : decode cX7_init 4 = .ok (.aload_n 0, 1) := by decide +kernel
theorem dX7_init_5 : decode cX7_init 5 = .ok (.bipush 64, 2) := by decide +kernel
theorem dX7_init_7 : decode cX7_init 7 = .ok (.newarray .int, 2) := by decide +kernel
theorem dX7_init_9 : decode cX7_init 9 = .ok (.dup, 1) := by decide +kernel
theorem dX7_init_10 : decode cX7_init 10 = .ok (.iconst 0, 1) := by decide +kernel
theorem dX7_init_11 : decode cX7_init 11 = .ok (.bipush 39, 2) := by decide +kernel
theorem dX7_init_13 : decode cX7_init 13 = .ok (.iastore, 1) := by decide +kernel
theorem dX7_init_14 : decode cX7_init 14 = .ok (.dup, 1) := by decide +kernel
theorem dX7_init_15 : decode cX7_init 15 = .ok (.iconst 1, 1) := by decide +kernel
theorem dX7_init_16 : decode cX7_init 16 = .ok (.bipush 24, 2) := by decide +kernel
theorem dX7_init_18 : decode cX7_init 18 = .ok (.iastore, 1) := by decide +kernel
theorem dX7_init_19 : decode cX7_init 19 = .ok (.dup, 1) := by decide +kernel
theorem dX7_init_20 : decode cX7_init 20 = .ok (.iconst 2, 1) := by decide +kernel
theorem dX7_init_21 : decode cX7_init 21 = .ok (.bipush 29, 2) := by decide +kernel
theorem dX7_init_23 : decode cX7_init 23 = .ok (.iastore, 1) := by decide +kernel
theorem dX7_init_24 : decode cX7_init 24 = .ok (.dup, 1) := by decide +kernel
theorem dX7_init_25 : decode cX7_init 25 = .ok (.iconst 3, 1) := by decide +kernel
theorem dX7_init_26 : decode cX7_init 26 = .ok (.bipush 34, 2) := by decide +kernel
theorem dX7_init_28 : decode cX7_init 28 = .ok (.iastore, 1) := by decide +kernel
theorem dX7_init_29 : decode cX7_init 29 = .ok (.dup, 1) := by decide +kernel
theorem dX7_init_30 : decode cX7_init 30 = .ok (.iconst 4, 1) := by decide +kernel
theorem dX7_init_31 : decode cX7_init 31 = .ok (.bipush 45, 2) := by decide +kernel
theorem dX7_init_33 : decode cX7_init 33 = .ok (.iastore, 1) := by decide +kernel
theorem dX7_init_34 : decode cX7_init 34 = .ok (.dup, 1) := by decide +kernel
theorem dX7_init_35 : decode cX7_init 35 = .ok (.iconst 5, 1) := by decide +kernel
theorem dX7_init_36 : decode cX7_init 36 = .ok (.bipush 18, 2) := by decide +kernel
theorem dX7_init_38 : decode cX7_init 38 = .ok (.iastore, 1) := by decide +kernel
theorem dX7_init_39 : decode cX7_init 39 = .ok (.dup, 1) := by decide +kernel
theorem dX7_init_40 : decode cX7_init 40 = .ok (.bipush 6, 2) := by decide +kernel
theorem dX7_init_42 : decode cX7_init 42 = .ok (.bipush 49, 2) := by decide +kernel
theorem dX7_init_44 : decode cX7_init 44 = .ok (.iastore, 1) := by decide +kernel
theorem dX7_init_45 : decode cX7_init 45 = .ok (.dup, 1) := by decide +kernel
theorem dX7_init_46 : decode cX7_init 46 = .ok (.bipush 7, 2) := by decide +kernel
theorem dX7_init_48 : decode cX7_init 48 = .ok (.bipush 49, 2) := by decide +kernel
theorem dX7_init_50 : decode cX7_init 50 = .ok (.iastore, 1) := by decide +kernel
theorem dX7_init_51 : decode cX7_init 51 = .ok (.dup, 1) := by decide +kernel
theorem dX7_init_52 : decode cX7_init 52 = .ok (.bipush 8, 2) := by decide +kernel
theorem dX7_init_54 : decode cX7_init 54 = .ok (.bipush 53, 2) := by decide +kernel
theorem dX7_init_56 : decode cX7_init 56 = .ok (.iastore, 1) := by decide +kernel
theorem dX7_init_57 : decode cX7_init 57 = .ok (.dup, 1) := by decide +kernel
theorem dX7_init_58 : decode cX7_init 58 = .ok (.bipush 9, 2) := by decide +kernel
theorem dX7_init_60 : decode cX7_init 60 = .ok (.bipush 10, 2) := by decide +kernel
theorem dX7_init_62 : decode cX7_init 62 = .ok (.iastore, 1) := by decide +kernel
theorem dX7_init_63 : decode cX7_init 63 = .ok (.dup, 1) := by decide +kernel
theorem dX7_init_64 : decode cX7_init 64 = .ok (.bipush 10, 2) := by decide +kernel
theorem dX7_init_66 : decode cX7_init 66 = .ok (.bipush 41, 2) := by decide +kernel
theorem dX7_init_68 : decode cX7_init 68 = .ok (.iastore, 1) := by decide +kernel
theorem dX7_init_69 : decode cX7_init 69 = .ok (.dup, 1) := by decide +kernel
theorem dX7_init_70 : decode cX7_init 70 = .ok (.bipush 11, 2) := by decide +kernel
theorem dX7_init_72 : decode cX7_init 72 = .ok (.bipush 41, 2) := by decide +kernel
theorem dX7_init_74 : decode cX7_init 74 = .ok (.iastore, 1) := by decide +kernel
theorem dX7_init_75 : decode cX7_init 75 = .ok (.dup, 1) := by decide +kernel
theorem dX7_init_76 : decode cX7_init 76 = .ok (.bipush 12, 2) := by decide +kernel
theorem dX7_init_78 : decode cX7_init 78 = .ok (.bipush 25, 2) := by decide +kernel
theorem dX7_init_80 : decode cX7_init 80 = .ok (.iastore, 1) := by decide +kernel
theorem dX7_init_81 : decode cX7_init 81 = .ok (.dup, 1) := by decide +kernel
theorem dX7_init_82 : decode cX7_init 82 = .ok (.bipush 13, 2) := by decide +kernel
theorem dX7_init_84 : decode cX7_init 84 = .ok (.bipush 25, 2) := by decide +kernel
theorem dX7_init_86 : decode cX7_init 86 = .ok (.iastore, 1) := by decide +kernel
theorem dX7_init_87 : decode cX7_init 87 = .ok (.dup, 1) := by decide +kernel
theorem dX7_init_88 : decode cX7_init 88 = .ok (.bipush 14, 2) := by decide +kernel
theorem dX7_init_90 : decode cX7_init 90 = .ok (.bipush 56, 2) := by decide +kernel
theorem dX7_init_92 : decode cX7_init 92 = .ok (.iastore, 1) := by decide +kernel
theorem dX7_init_93 : decode cX7_init 93 = .ok (.dup, 1) := by decide +kernel
theorem dX7_init_94 : decode cX7_init 94 = .ok (.bipush 15, 2) := by decide +kernel
theorem dX7_init_96 : decode cX7_init 96 = .ok (.bipush 7, 2) := by decide +kernel
theorem dX7_init_98 : decode cX7_init 98 = .ok (.iastore, 1) := by decide +kernel
theorem dX7_init_99 : decode cX7_init 99 = .ok (.dup, 1) := by decide +kernel
theorem dX7_init_100 : decode cX7_init 100 = .ok (.bipush 16, 2) := by decide +kernel
theorem dX7_init_102 : decode cX7_init 102 = .ok (.bipush 57, 2) := by decide +kernel
theorem dX7_init_104 : decode cX7_init 104 = .ok (.iastore, 1) := by decide +kernel
theorem dX7_init_105 : decode cX7_init 105 = .ok (.dup, 1) := by decide +kernel
theorem dX7_init_106 : decode cX7_init 106 = .ok (.bipush 17, 2) := by decide +kernel
theorem dX7_init_108 : decode cX7_init 108 = .ok (.bipush 6, 2) := by decide +kernel
theorem dX7_init_110 : decode cX7_init 110 = .ok (.iastore, 1) := by decide +kernel
theorem dX7_init_111 : decode cX7_init 111 = .ok (.dup, 1) := by decide +kernel
theorem dX7_init_112 : decode cX7_init 112 = .ok (.bipush 18, 2) := by decide +kernel
theorem dX7_init_114 : decode cX7_init 114 = .ok (.bipush 37, 2) := by decide +kernel
theorem dX7_init_116 : decode cX7_init 116 = .ok (.iastore, 1) := by decide +kernel
theorem dX7_init_117 : decode cX7_init 117 = .ok (.dup, 1) := by decide +kernel
theorem dX7_init_118 : decode cX7_init 118 = .ok (.bipush 19, 2) := by decide +kernel
theorem dX7_init_120 : decode cX7_init 120 = .ok (.bipush 37, 2) := by decide +kernel
theorem dX7_init_122 : decode cX7_init 122 = .ok (.iastore, 1) := by decide +kernel
theorem dX7_init_123 : decode cX7_init 123 = .ok (.dup, 1) := by decide +kernel
theorem dX7_init_124 : decode cX7_init 124 = .ok (.bipush 20, 2) := by decide +kernel
theorem dX7_init_126 : decode cX7_init 126 = .ok (.bipush 21, 2) := by decide +kernel
theorem dX7_init_128 : decode cX7_init 128 = .ok (.iastore, 1) := by decide +kernel
theorem dX7_init_129 : decode cX7_init 129 = .ok (.dup, 1) := by decide +kernel
theorem dX7_init_130 : decode cX7_init 130 = .ok (.bipush 21, 2) := by decide +kernel
theorem dX7_init_132 : decode cX7_init 132 = .ok (.bipush 21, 2) := by decide +kernel
theorem dX7_init_134 : decode cX7_init 134 = .ok (.iastore, 1) := by decide +kernel
theorem dX7_init_135 : decode cX7_init 135 = .ok (.dup, 1) := by decide +kernel
theorem dX7_init_136 : decode cX7_init 136 = .ok (.bipush 22, 2) := by decide +kernel
theorem dX7_init_138 : decode cX7_init 138 = .ok (.bipush 52, 2) := by decide +kernel
theorem dX7_init_140 : decode cX7_init 140 = .ok (.iastore, 1) := by decide +kernel
theorem dX7_init_141 : decode cX7_init 141 = .ok (.dup, 1) := by decide +kernel
theorem dX7_init_142 : decode cX7_init 142 = .ok (.bipush 23, 2) := by decide +kernel
theorem dX7_init_144 : decode cX7_init 144 = .ok (.bipush 52, 2) := by decide +kernel
theorem dX7_init_146 : decode cX7_init 146 = .ok (.iastore, 1) := by decide +kernel
theorem dX7_init_147 : decode cX7_init 147 = .ok (.dup, 1) := by decide +kernel
theorem dX7_init_148 : decode cX7_init 148 = .ok (.bipush 24, 2) := by decide +kernel
theorem dX7_init_150 : decode cX7_init 150 = .ok (.bipush 13, 2) := by decide +kernel
theorem dX7_init_152 : decode cX7_init 152 = .ok (.iastore, 1) := by decide +kernel
theorem dX7_init_153 : decode cX7_init 153 = .ok (.dup, 1) := by decide +kernel
theorem dX7_init_154 : decode cX7_init 154 = .ok (.bipush 25, 2) := by decide +kernel
theorem dX7_init_156 : decode cX7_init 156 = .ok (.bipush 13, 2) := by decide +kernel
theorem dX7_init_158 : decode cX7_init 158 = .ok (.iastore, 1) := by decide +kernel
theorem dX7_init_159 : decode cX7_init 159 = .ok (.dup, 1) := by decide +kernel
theorem dX7_init_160 : decode cX7_init 160 = .ok (.bipush 26, 2) := by decide +kernel
theorem dX7_init_162 : decode cX7_init 162 = .ok (.bipush 44, 2) := by decide +kernel
theorem dX7_init_164 : decode cX7_init 164 = .ok (.iastore, 1) := by decide +kernel
theorem dX7_init_165 : decode cX7_init 165 = .ok (.dup, 1) := by decide +kernel
theorem dX7_init_166 : decode cX7_init 166 = .ok (.bipush 27, 2) := by decide +kernel
theorem dX7_init_168 : decode cX7_init 168 = .ok (.bipush 44, 2) := by decide +kernel
theorem dX7_init_170 : decode cX7_init 170 = .ok (.iastore, 1) := by decide +kernel
theorem dX7_init_171 : decode cX7_init 171 = .ok (.dup, 1) := by decide +kernel
theorem dX7_init_172 : decode cX7_init 172 = .ok (.bipush 28, 2) := by decide +kernel
theorem dX7_init_174 : decode cX7_init 174 = .ok (.bipush 28, 2) := by decide +kernel
theorem dX7_init_176 : decode cX7_init 176 = .ok (.iastore, 1) := by decide +kernel
theorem dX7_init_177 : decode cX7_init 177 = .ok (.dup, 1) := by decide +kernel
theorem dX7_init_178 : decode cX7_init 178 = .ok (.bipush 29, 2) := by decide +kernel
theorem dX7_init_180 : decode cX7_init 180 = .ok (.bipush 28, 2) := by decide +kernel
theorem dX7_init_182 : decode cX7_init 182 = .ok (.iastore, 1) := by decide +kernel
theorem dX7_init_183 : decode cX7_init 183 = .ok (.dup, 1) := by decide +kernel
theorem dX7_init_184 : decode cX7_init 184 = .ok (.bipush 30, 2) := by decide +kernel
theorem dX7_init_186 : decode cX7_init 186 = .ok (.bipush 23, 2) := by decide +kernel
theorem dX7_init_188 : decode cX7_init 188 = .ok (.iastore, 1) := by decide +kernel
theorem dX7_init_189 : decode cX7_init 189 = .ok (.dup, 1) := by decide +kernel
theorem dX7_init_190 : decode cX7_init 190 = .ok (.bipush 31, 2) := by decide +kernel
theorem dX7_init_192 : decode cX7_init 192 = .ok (.bipush 40, 2) := by decide +kernel
theorem dX7_init_194 : decode cX7_init 194 = .ok (.iastore, 1) := by decide +kernel
theorem dX7_init_195 : decode cX7_init 195 = .ok (.dup, 1) := by decide +kernel
theorem dX7_init_196 : decode cX7_init 196 = .ok (.bipush 32, 2) := by decide +kernel
theorem dX7_init_198 : decode cX7_init 198 = .ok (.bipush 27, 2) := by decide +kernel
theorem dX7_init_200 : decode cX7_init 200 = .ok (.iastore, 1) := by decide +kernel
theorem dX7_init_201 : decode cX7_init 201 = .ok (.dup, 1) := by decide +kernel
theorem dX7_init_202 : decode cX7_init 202 = .ok (.bipush 33, 2) := by decide +kernel
theorem dX7_init_204 : decode cX7_init 204 = .ok (.bipush 36, 2) := by decide +kernel
theorem dX7_init_206 : decode cX7_init 206 = .ok (.iastore, 1) := by decide +kernel
theorem dX7_init_207 : decode cX7_init 207 = .ok (.dup, 1) := by decide +kernel
theorem dX7_init_208 : decode cX7_init 208 = .ok (.bipush 34, 2) := by decide +kernel
theorem dX7_init_210 : decode cX7_init 210 = .ok (.bipush 35, 2) := by decide +kernel
theorem dX7_init_212 : decode cX7_init 212 = .ok (.iastore, 1) := by decide +kernel
theorem dX7_init_213 : decode cX7_init 213 = .ok (.dup, 1) := by decide +kernel
theorem dX7_init_214 : decode cX7_init 214 = .ok (.bipush 35, 2) := by decide +kernel
theorem dX7_init_216 : decode cX7_init 216 = .ok (.bipush 35, 2) := by decide +kernel
theorem dX7_init_218 : decode cX7_init 218 = .ok (.iastore, 1) := by decide +kernel
theorem dX7_init_219 : decode cX7_init 219 = .ok (.dup, 1) := by decide +kernel
theorem dX7_init_220 : decode cX7_init 220 = .ok (.bipush 36, 2) := by decide +kernel
theorem dX7_init_222 : decode cX7_init 222 = .ok (.bipush 19, 2) := by decide +kernel
theorem dX7_init_224 : decode cX7_init 224 = .ok (.iastore, 1) := by decide +kernel
theorem dX7_init_225 : decode cX7_init 225 = .ok (.dup, 1) := by decide +kernel
theorem dX7_init_226 : decode cX7_init 226 = .ok (.bipush 37, 2) := by decide +kernel
theorem dX7_init_228 : decode cX7_init 228 = .ok (.bipush 19, 2) := by decide +kernel
theorem dX7_init_230 : decode cX7_init 230 = .ok (.iastore, 1) := by decide +kernel
theorem dX7_init_231 : decode cX7_init 231 = .ok (.dup, 1) := by decide +kernel
theorem dX7_init_232 : decode cX7_init 232 = .ok (.bipush 38, 2) := by decide +kernel
theorem dX7_init_234 : decode cX7_init 234 = .ok (.bipush 50, 2) := by decide +kernel
theorem dX7_init_236 : decode cX7_init 236 = .ok (.iastore, 1) := by decide +kernel
theorem dX7_init_237 : decode cX7_init 237 = .ok (.dup, 1) := by decide +kernel
theorem dX7_init_238 : decode cX7_init 238 = .ok (.bipush 39, 2) := by decide +kernel
theorem dX7_init_240 : decode cX7_init 240 = .ok (.bipush 50, 2) := by decide +kernel
theorem dX7_init_242 : decode cX7_init 242 = .ok (.iastore, 1) := by decide +kernel
theorem dX7_init_243 : decode cX7_init 243 = .ok (.dup, 1) := by decide +kernel
theorem dX7_init_244 : decode cX7_init 244 = .ok (.bipush 40, 2) := by decide +kernel
theorem dX7_init_246 : decode cX7_init 246 = .ok (.bipush 11, 2) := by decide +kernel
theorem dX7_init_248 : decode cX7_init 248 = .ok (.iastore, 1) := by decide +kernel
theorem dX7_init_249 : decode cX7_init 249 = .ok (.dup, 1) := by decide +kernel
theorem dX7_init_250 : decode cX7_init 250 = .ok (.bipush 41, 2) := by decide +kernel
theorem dX7_init_252 : decode cX7_init 252 = .ok (.bipush 11, 2) := by decide +kernel
theorem dX7_init_254 : decode cX7_init 254 = .ok (.iastore, 1) := by decide +kernel
theorem dX7_init_255 : decode cX7_init 255 = .ok (.dup, 1) := by decide +kernel
theorem dX7_init_256 : decode cX7_init 256 = .ok (.bipush 42, 2) := by decide +kernel
theorem dX7_init_258 : decode cX7_init 258 = .ok (.bipush 42, 2) := by decide +kernel
theorem dX7_init_260 : decode cX7_init 260 = .ok (.iastore, 1) := by decide +kernel
theorem dX7_init_261 : decode cX7_init 261 = .ok (.dup, 1) := by decide +kernel
theorem dX7_init_262 : decode cX7_init 262 = .ok (.bipush 43, 2) := by decide +kernel
theorem dX7_init_264 : decode cX7_init 264 = .ok (.bipush 42, 2) := by decide +kernel
theorem dX7_init_266 : decode cX7_init 266 = .ok (.iastore, 1) := by decide +kernel
theorem dX7_init_267 : decode cX7_init 267 = .ok (.dup, 1) := by decide +kernel
theorem dX7_init_268 : decode cX7_init 268 = .ok (.bipush 44, 2) := by decide +kernel
theorem dX7_init_270 : decode cX7_init 270 = .ok (.bipush 26, 2) := by decide +kernel
theorem dX7_init_272 : decode cX7_init 272 = .ok (.iastore, 1) := by decide +kernel
theorem dX7_init_273 : decode cX7_init 273 = .ok (.dup, 1) := by decide +kernel
theorem dX7_init_274 : decode cX7_init 274 = .ok (.bipush 45, 2) := by decide +kernel
theorem dX7_init_276 : decode cX7_init 276 = .ok (.bipush 26, 2) := by decide +kernel
theorem dX7_init_278 : decode cX7_init 278 = .ok (.iastore, 1) := by decide +kernel
theorem dX7_init_279 : decode cX7_init 279 = .ok (.dup, 1) := by decide +kernel
theorem dX7_init_280 : decode cX7_init 280 = .ok (.bipush 46, 2) := by decide +kernel
theorem dX7_init_282 : decode cX7_init 282 = .ok (.bipush 58, 2) := by decide +kernel
theorem dX7_init_284 : decode cX7_init 284 = .ok (.iastore, 1) := by decide +kernel
theorem dX7_init_285 : decode cX7_init 285 = .ok (.dup, 1) := by decide +kernel
theorem dX7_init_286 : decode cX7_init 286 = .ok (.bipush 47, 2) := by decide +kernel
theorem dX7_init_288 : decode cX7_init 288 = .ok (.iconst 5, 1) := by decide +kernel
theorem dX7_init_289 : decode cX7_init 289 = .ok (.iastore, 1) := by decide +kernel
theorem dX7_init_290 : decode cX7_init 290 = .ok (.dup, 1) := by decide +kernel
theorem dX7_init_291 : decode cX7_init 291 = .ok (.bipush 48, 2) := by decide +kernel
theorem dX7_init_293 : decode cX7_init 293 = .ok (.bipush 51, 2) := by decide +kernel
theorem dX7_init_295 : decode cX7_init 295 = .ok (.iastore, 1) := by decide +kernel
theorem dX7_init_296 : decode cX7_init 296 = .ok (.dup, 1) := by decide +kernel
theorem dX7_init_297 : decode cX7_init 297 = .ok (.bipush 49, 2) := by decide +kernel
theorem dX7_init_299 : decode cX7_init 299 = .ok (.bipush 12, 2) := by decide +kernel
theorem dX7_init_301 : decode cX7_init 301 = .ok (.iastore, 1) := by decide +kernel
theorem dX7_init_302 : decode cX7_init 302 = .ok (.dup, 1) := by decide +kernel
theorem dX7_init_303 : decode cX7_init 303 = .ok (.bipush 50, 2) := by decide +kernel
theorem dX7_init_305 : decode cX7_init 305 = .ok (.bipush 38, 2) := by decide +kernel
theorem dX7_init_307 : decode cX7_init 307 = .ok (.iastore, 1) := by decide +kernel
theorem dX7_init_308 : decode cX7_init 308 = .ok (.dup, 1) := by decide +kernel
theorem dX7_init_309 : decode cX7_init 309 = .ok (.bipush 51, 2) := by decide +kernel
theorem dX7_init_311 : decode cX7_init 311 = .ok (.bipush 38, 2) := by decide +kernel
theorem dX7_init_313 : decode cX7_init 313 = .ok (.iastore, 1) := by decide +kernel
theorem dX7_init_314 : decode cX7_init 314 = .ok (.dup, 1) := by decide +kernel
theorem dX7_init_315 : decode cX7_init 315 = .ok (.bipush 52, 2) := by decide +kernel
theorem dX7_init_317 : decode cX7_init 317 = .ok (.bipush 22, 2) := by decide +kernel
theorem dX7_init_319 : decode cX7_init 319 = .ok (.iastore, 1) := by decide +kernel
theorem dX7_init_320 : decode cX7_init 320 = .ok (.dup, 1) := by decide +kernel
theorem dX7_init_321 : decode cX7_init 321 = .ok (.bipush 53, 2) := by decide +kernel
theorem dX7_init_323 : decode cX7_init 323 = .ok (.bipush 22, 2) := by decide +kernel
theorem dX7_init_325 : decode cX7_init 325 = .ok (.iastore, 1) := by decide +kernel
theorem dX7_init_326 : decode cX7_init 326 = .ok (.dup, 1) := by decide +kernel
theorem dX7_init_327 : decode cX7_init 327 = .ok (.bipush 54, 2) := by decide +kernel
theorem dX7_init_329 : decode cX7_init 329 = .ok (.bipush 54, 2) := by decide +kernel
theorem dX7_init_331 : decode cX7_init 331 = .ok (.iastore, 1) := by decide +kernel
theorem dX7_init_332 : decode cX7_init 332 = .ok (.dup, 1) := by decide +kernel
theorem dX7_init_333 : decode cX7_init 333 = .ok (.bipush 55, 2) := by decide +kernel
theorem dX7_init_335 : decode cX7_init 335 = .ok (.bipush 9, 2) := by decide +kernel
theorem dX7_init_337 : decode cX7_init 337 = .ok (.iastore, 1) := by decide +kernel
theorem dX7_init_338 : decode cX7_init 338 = .ok (.dup, 1) := by decide +kernel
theorem dX7_init_339 : decode cX7_init 339 = .ok (.bipush 56, 2) := by decide +kernel
theorem dX7_init_341 : decode cX7_init 341 = .ok (.bipush 14, 2) := by decide +kernel
theorem dX7_init_343 : decode cX7_init 343 = .ok (.iastore, 1) := by decide +kernel
theorem dX7_init_344 : decode cX7_init 344 = .ok (.dup, 1) := by decide +kernel
theorem dX7_init_345 : decode cX7_init 345 = .ok (.bipush 57, 2) := by decide +kernel
theorem dX7_init_347 : decode cX7_init 347 = .ok (.bipush 14, 2) := by decide +kernel
theorem dX7_init_349 : decode cX7_init 349 = .ok (.iastore, 1) := by decide +kernel
theorem dX7_init_350 : decode cX7_init 350 = .ok (.dup, 1) := by decide +kernel
theorem dX7_init_351 : decode cX7_init 351 = .ok (.bipush 58, 2) := by decide +kernel
theorem dX7_init_353 : decode cX7_init 353 = .ok (.bipush 46, 2) := by decide +kernel
theorem dX7_init_355 : decode cX7_init 355 = .ok (.iastore, 1) := by decide +kernel
theorem dX7_init_356 : decode cX7_init 356 = .ok (.dup, 1) := by decide +kernel
theorem dX7_init_357 : decode cX7_init 357 = .ok (.bipush 59, 2) := by decide +kernel
theorem dX7_init_359 : decode cX7_init 359 = .ok (.bipush 17, 2) := by decide +kernel
theorem dX7_init_361 : decode cX7_init 361 = .ok (.iastore, 1) := by decide +kernel
theorem dX7_init_362 : decode cX7_init 362 = .ok (.dup, 1) := by decide +kernel
theorem dX7_init_363 : decode cX7_init 363 = .ok (.bipush 60, 2) := by decide +kernel
theorem dX7_init_365 : decode cX7_init 365 = .ok (.bipush 30, 2) := by decide +kernel
theorem dX7_init_367 : decode cX7_init 367 = .ok (.iastore, 1) := by decide +kernel
theorem dX7_init_368 : decode cX7_init 368 = .ok (.dup, 1) := by decide +kernel
theorem dX7_init_369 : decode cX7_init 369 = .ok (.bipush 61, 2) := by decide +kernel
theorem dX7_init_371 : decode cX7_init 371 = .ok (.bipush 33, 2) := by decide +kernel
theorem dX7_init_373 : decode cX7_init 373 = .ok (.iastore, 1) := by decide +kernel
theorem dX7_init_374 : decode cX7_init 374 = .ok (.dup, 1) := by decide +kernel
theorem dX7_init_375 : decode cX7_init 375 = .ok (.bipush 62, 2) := by decide +kernel
theorem dX7_init_377 : decode cX7_init 377 = .ok (.bipush 43, 2) := by decide +kernel
theorem dX7_init_379 : decode cX7_init 379 = .ok (.iastore, 1) := by decide +kernel
theorem dX7_init_380 : decode cX7_init 380 = .ok (.dup, 1) := by decide +kernel
theorem dX7_init_381 : decode cX7_init 381 = .ok (.bipush 63, 2) := by decide +kernel
theorem dX7_init_383 : decode cX7_init 383 = .ok (.bipush 20, 2) := by decide +kernel
theorem dX7_init_385 : decode cX7_init 385 = .ok (.iastore, 1) := by decide +kernel
theorem dX7_init_386 : decode cX7_init 386 = .ok (.putfield 7, 3) := by decide +kernel
theorem dX7_init_389 : decode cX7_init 389 = .ok (.aload_n 0, 1) := by decide +kernel
theorem dX7_init_390 : decode cX7_init 390 = .ok (.bipush 16, 2) := by decide +kernel
theorem dX7_init_392 : decode cX7_init 392 = .ok (.newarray .int, 2) := by decide +kernel
theorem dX7_init_394 : decode cX7_init 394 = .ok (.dup, 1) := by decide +kernel
theorem dX7_init_395 : decode cX7_init 395 = .ok (.iconst 0, 1) := by decide +kernel
theorem dX7_init_396 : decode cX7_init 396 = .ok (.bipush 11, 2) := by decide +kernel
theorem dX7_init_398 : decode cX7_init 398 = .ok (.iastore, 1) := by decide +kernel
theorem dX7_init_399 : decode cX7_init 399 = .ok (.dup, 1) := by decide +kernel
theorem dX7_init_400 : decode cX7_init 400 = .ok (.iconst 1, 1) := by decide +kernel
theorem dX7_init_401 : decode cX7_init 401 = .ok (.iconst 4, 1) := by decide +kernel
theorem dX7_init_402 : decode cX7_init 402 = .ok (.iastore, 1) := by decide +kernel
theorem dX7_init_403 : decode cX7_init 403 = .ok (.dup, 1) := by decide +kernel
theorem dX7_init_404 : decode cX7_init 404 = .ok (.iconst 2, 1) := by decide +kernel
theorem dX7_init_405 : decode cX7_init 405 = .ok (.bipush 9, 2) := by decide +kernel
theorem dX7_init_407 : decode cX7_init 407 = .ok (.iastore, 1) := by decide +kernel
theorem dX7_init_408 : decode cX7_init 408 = .ok (.dup, 1) := by decide +kernel
theorem dX7_init_409 : decode cX7_init 409 = .ok (.iconst 3, 1) := by decide +kernel
theorem dX7_init_410 : decode cX7_init 410 = .ok (.bipush 9, 2) := by decide +kernel
theorem dX7_init_412 : decode cX7_init 412 = .ok (.iastore, 1) := by decide +kernel
theorem dX7_init_413 : decode cX7_init 413 = .ok (.dup, 1) := by decide +kernel
theorem dX7_init_414 : decode cX7_init 414 = .ok (.iconst 4, 1) := by decide +kernel
theorem dX7_init_415 : decode cX7_init 415 = .ok (.iconst 5, 1) := by decide +kernel
theorem dX7_init_416 : decode cX7_init 416 = .ok (.iastore, 1) := by decide +kernel
theorem dX7_init_417 : decode cX7_init 417 = .ok (.dup, 1) := by decide +kernel
theorem dX7_init_418 : decode cX7_init 418 = .ok (.iconst 5, 1) := by decide +kernel
theorem dX7_init_419 : decode cX7_init 419 = .ok (.iconst 5, 1) := by decide +kernel
theorem dX7_init_420 : decode cX7_init 420 = .ok (.iastore, 1) := by decide +kernel
theorem dX7_init_421 : decode cX7_init 421 = .ok (.dup, 1) := by decide +kernel
theorem dX7_init_422 : decode cX7_init 422 = .ok (.bipush 6, 2) := by decide +kernel
theorem dX7_init_424 : decode cX7_init 424 = .ok (.bipush 12, 2) := by decide +kernel
theorem dX7_init_426 : decode cX7_init 426 = .ok (.iastore, 1) := by decide +kernel
theorem dX7_init_427 : decode cX7_init 427 = .ok (.dup, 1) := by decide +kernel
theorem dX7_init_428 : decode cX7_init 428 = .ok (.bipush 7, 2) := by decide +kernel
theorem dX7_init_430 : decode cX7_init 430 = .ok (.iconst 3, 1) := by decide +kernel
theorem dX7_init_431 : decode cX7_init 431 = .ok (.iastore, 1) := by decide +kernel
theorem dX7_init_432 : decode cX7_init 432 = .ok (.dup, 1) := by decide +kernel
theorem dX7_init_433 : decode cX7_init 433 = .ok (.bipush 8, 2) := by decide +kernel
theorem dX7_init_435 : decode cX7_init 435 = .ok (.bipush 13, 2) := by decide +kernel
theorem dX7_init_437 : decode cX7_init 437 = .ok (.iastore, 1) := by decide +kernel
theorem dX7_init_438 : decode cX7_init 438 = .ok (.dup, 1) := by decide +kernel
theorem dX7_init_439 : decode cX7_init 439 = .ok (.bipush 9, 2) := by decide +kernel
theorem dX7_init_441 : decode cX7_init 441 = .ok (.iconst 2, 1) := by decide +kernel
theorem dX7_init_442 : decode cX7_init 442 = .ok (.iastore, 1) := by decide +kernel
theorem dX7_init_443 : decode cX7_init 443 = .ok (.dup, 1) := by decide +kernel
theorem dX7_init_444 : decode cX7_init 444 = .ok (.bipush 10, 2) := by decide +kernel
theorem dX7_init_446 : decode cX7_init 446 = .ok (.bipush 10, 2) := by decide +kernel
theorem dX7_init_448 : decode cX7_init 448 = .ok (.iastore, 1) := by decide +kernel
theorem dX7_init_449 : decode cX7_init 449 = .ok (.dup, 1) := by decide +kernel
theorem dX7_init_450 : decode cX7_init 450 = .ok (.bipush 11, 2) := by decide +kernel
theorem dX7_init_452 : decode cX7_init 452 = .ok (.bipush 10, 2) := by decide +kernel
theorem dX7_init_454 : decode cX7_init 454 = .ok (.iastore, 1) := by decide +kernel
theorem dX7_init_455 : decode cX7_init 455 = .ok (.dup, 1) := by decide +kernel
theorem dX7_init_456 : decode cX7_init 456 = .ok (.bipush 12, 2) := by decide +kernel
theorem dX7_init_458 : decode cX7_init 458 = .ok (.bipush 6, 2) := by decide +kernel
theorem dX7_init_460 : decode cX7_init 460 = .ok (.iastore, 1) := by decide +kernel
theorem dX7_init_461 : decode cX7_init 461 = .ok (.dup, 1) := by decide +kernel
theorem dX7_init_462 : decode cX7_init 462 = .ok (.bipush 13, 2) := by decide +kernel
theorem dX7_init_464 : decode cX7_init 464 = .ok (.bipush 6, 2) := by decide +kernel
theorem dX7_init_466 : decode cX7_init 466 = .ok (.iastore, 1) := by decide +kernel
theorem dX7_init_467 : decode cX7_init 467 = .ok (.dup, 1) := by decide +kernel
theorem dX7_init_468 : decode cX7_init 468 = .ok (.bipush 14, 2) := by decide +kernel
theorem dX7_init_470 : decode cX7_init 470 = .ok (.bipush 14, 2) := by decide +kernel
theorem dX7_init_472 : decode cX7_init 472 = .ok (.iastore, 1) := by decide +kernel
theorem dX7_init_473 : decode cX7_init 473 = .ok (.dup, 1) := by decide +kernel
theorem dX7_init_474 : decode cX7_init 474 = .ok (.bipush 15, 2) := by decide +kernel
theorem dX7_init_476 : decode cX7_init 476 = .ok (.iconst 1, 1) := by decide +kernel
theorem dX7_init_477 : decode cX7_init 477 = .ok (.iastore, 1) := by decide +kernel
theorem dX7_init_478 : decode cX7_init 478 = .ok (.putfield 13, 3) := by decide +kernel
theorem dX7_init_481 : decode cX7_init 481 = .ok (.aload_n 0, 1) := by decide +kernel
theorem dX7_init_482 : decode cX7_init 482 = .ok (.bipush 16, 2) := by decide +kernel
theorem dX7_init_484 : decode cX7_init 484 = .ok (.newarray .int, 2) := by decide +kernel
theorem dX7_init_486 : decode cX7_init 486 = .ok (.dup, 1) := by decide +kernel
theorem dX7_init_487 : decode cX7_init 487 = .ok (.iconst 0, 1) := by decide +kernel
theorem dX7_init_488 : decode cX7_init 488 = .ok (.bipush 11, 2) := by decide +kernel
theorem dX7_init_490 : decode cX7_init 490 = .ok (.iastore, 1) := by decide +kernel
theorem dX7_init_491 : decode cX7_init 491 = .ok (.dup, 1) := by decide +kernel
theorem dX7_init_492 : decode cX7_init 492 = .ok (.iconst 1, 1) := by decide +kernel
theorem dX7_init_493 : decode cX7_init 493 = .ok (.iconst 4, 1) := by decide +kernel
theorem dX7_init_494 : decode cX7_init 494 = .ok (.iastore, 1) := by decide +kernel
theorem dX7_init_495 : decode cX7_init 495 = .ok (.dup, 1) := by decide +kernel
theorem dX7_init_496 : decode cX7_init 496 = .ok (.iconst 2, 1) := by decide +kernel
theorem dX7_init_497 : decode cX7_init 497 = .ok (.bipush 6, 2) := by decide +kernel
theorem dX7_init_499 : decode cX7_init 499 = .ok (.iastore, 1) := by decide +kernel
theorem dX7_init_500 : decode cX7_init 500 = .ok (.dup, 1) := by decide +kernel
theorem dX7_init_501 : decode cX7_init 501 = .ok (.iconst 3, 1) := by decide +kernel
theorem dX7_init_502 : decode cX7_init 502 = .ok (.bipush 9, 2) := by decide +kernel
theorem dX7_init_504 : decode cX7_init 504 = .ok (.iastore, 1) := by decide +kernel
theorem dX7_init_505 : decode cX7_init 505 = .ok (.dup, 1) := by decide +kernel
theorem dX7_init_506 : decode cX7_init 506 = .ok (.iconst 4, 1) := by decide +kernel
theorem dX7_init_507 : decode cX7_init 507 = .ok (.bipush 10, 2) := by decide +kernel
theorem dX7_init_509 : decode cX7_init 509 = .ok (.iastore, 1) := by decide +kernel
theorem dX7_init_510 : decode cX7_init 510 = .ok (.dup, 1) := by decide +kernel
theorem dX7_init_511 : decode cX7_init 511 = .ok (.iconst 5, 1) := by decide +kernel
theorem dX7_init_512 : decode cX7_init 512 = .ok (.iconst 5, 1) := by decide +kernel
theorem dX7_init_513 : decode cX7_init 513 = .ok (.iastore, 1) := by decide +kernel
theorem dX7_init_514 : decode cX7_init 514 = .ok (.dup, 1) := by decide +kernel
theorem dX7_init_515 : decode cX7_init 515 = .ok (.bipush 6, 2) := by decide +kernel
theorem dX7_init_517 : decode cX7_init 517 = .ok (.bipush 12, 2) := by decide +kernel
theorem dX7_init_519 : decode cX7_init 519 = .ok (.iastore, 1) := by decide +kernel
theorem dX7_init_520 : decode cX7_init 520 = .ok (.dup, 1) := by decide +kernel
theorem dX7_init_521 : decode cX7_init 521 = .ok (.bipush 7, 2) := by decide +kernel
theorem dX7_init_523 : decode cX7_init 523 = .ok (.iconst 3, 1) := by decide +kernel
theorem dX7_init_524 : decode cX7_init 524 = .ok (.iastore, 1) := by decide +kernel
theorem dX7_init_525 : decode cX7_init 525 = .ok (.dup, 1) := by decide +kernel
theorem dX7_init_526 : decode cX7_init 526 = .ok (.bipush 8, 2) := by decide +kernel
theorem dX7_init_528 : decode cX7_init 528 = .ok (.bipush 13, 2) := by decide +kernel
theorem dX7_init_530 : decode cX7_init 530 = .ok (.iastore, 1) := by decide +kernel
theorem dX7_init_531 : decode cX7_init 531 = .ok (.dup, 1) := by decide +kernel
theorem dX7_init_532 : decode cX7_init 532 = .ok (.bipush 9, 2) := by decide +kernel
theorem dX7_init_534 : decode cX7_init 534 = .ok (.iconst 2, 1) := by decide +kernel
theorem dX7_init_535 : decode cX7_init 535 = .ok (.iastore, 1) := by decide +kernel
theorem dX7_init_536 : decode cX7_init 536 = .ok (.dup, 1) := by decide +kernel
theorem dX7_init_537 : decode cX7_init 537 = .ok (.bipush 10, 2) := by decide +kernel
theorem dX7_init_539 : decode cX7_init 539 = .ok (.iconst 5, 1) := by decide +kernel
theorem dX7_init_540 : decode cX7_init 540 = .ok (.iastore, 1) := by decide +kernel
theorem dX7_init_541 : decode cX7_init 541 = .ok (.dup, 1) := by decide +kernel
theorem dX7_init_542 : decode cX7_init 542 = .ok (.bipush 11, 2) := by decide +kernel
theorem dX7_init_544 : decode cX7_init 544 = .ok (.bipush 10, 2) := by decide +kernel
theorem dX7_init_546 : decode cX7_init 546 = .ok (.iastore, 1) := by decide +kernel
theorem dX7_init_547 : decode cX7_init 547 = .ok (.dup, 1) := by decide +kernel
theorem dX7_init_548 : decode cX7_init 548 = .ok (.bipush 12, 2) := by decide +kernel
theorem dX7_init_550 : decode cX7_init 550 = .ok (.bipush 9, 2) := by decide +kernel
theorem dX7_init_552 : decode cX7_init 552 = .ok (.iastore, 1) := by decide +kernel
theorem dX7_init_553 : decode cX7_init 553 = .ok (.dup, 1) := by decide +kernel
theorem dX7_init_554 : decode cX7_init 554 = .ok (.bipush 13, 2) := by decide +kernel
theorem dX7_init_556 : decode cX7_init 556 = .ok (.bipush 6, 2) := by decide +kernel
theorem dX7_init_558 : decode cX7_init 558 = .ok (.iastore, 1) := by decide +kernel
theorem dX7_init_559 : decode cX7_init 559 = .ok (.dup, 1) := by decide +kernel
theorem dX7_init_560 : decode cX7_init 560 = .ok (.bipush 14, 2) := by decide +kernel
theorem dX7_init_562 : decode cX7_init 562 = .ok (.bipush 7, 2) := by decide +kernel
theorem dX7_init_564 : decode cX7_init 564 = .ok (.iastore, 1) := by decide +kernel
theorem dX7_init_565 : decode cX7_init 565 = .ok (.dup, 1) := by decide +kernel
theorem dX7_init_566 : decode cX7_init 566 = .ok (.bipush 15, 2) := by decide +kernel
theorem dX7_init_568 : decode cX7_init 568 = .ok (.bipush 8, 2) := by decide +kernel
theorem dX7_init_570 : decode cX7_init 570 = .ok (.iastore, 1) := by decide +kernel
theorem dX7_init_571 : decode cX7_init 571 = .ok (.putfield 16, 3) := by decide +kernel
theorem dX7_init_574 : decode cX7_init 574 = .ok (.aload_n 0, 1) := by decide +kernel
theorem dX7_init_575 : decode cX7_init 575 = .ok (.sipush 8000, 3) := by decide +kernel
theorem dX7_init_578 : decode cX7_init 578 = .ok (.newarray .byte, 2) := by decide +kernel
theorem dX7_init_580 : decode cX7_init 580 = .ok (.putfield 19, 3) := by decide +kernel
theorem dX7_init_583 : decode cX7_init 583 = .ok (.aload_n 0, 1) := by decide +kernel
theorem dX7_init_584 : decode cX7_init 584 = .ok (.sipush 400, 3) := by decide +kernel
theorem dX7_init_587 : decode cX7_init 587 = .ok (.newarray .byte, 2) := by decide +kernel
theorem dX7_init_589 : decode cX7_init 589 = .ok (.putfield 23, 3) := by decide +kernel
theorem dX7_init_592 : decode cX7_init 592 = .ok (.aload_n 0, 1) := by decide +kernel
theorem dX7_init_593 : decode cX7_init 593 = .ok (.iconst (-1), 1) := by decide +kernel
theorem dX7_init_594 : decode cX7_init 594 = .ok (.putfield 26, 3) := by decide +kernel
theorem dX7_init_597 : decode cX7_init 597 = .ok (.aload_n 0, 1) := by decide +kernel
theorem dX7_init_598 : decode cX7_init 598 = .ok (.iconst (-1), 1) := by decide +kernel
theorem dX7_init_599 : decode cX7_init 599 = .ok (.putfield 30, 3) := by decide +kernel
theorem dX7_init_602 : decode cX7_init 602 = .ok (.aload_n 0, 1) := by decide +kernel
theorem dX7_init_603 : decode cX7_init 603 = .ok (.bipush 100, 2) := by decide +kernel
theorem dX7_init_605 : decode cX7_init 605 = .ok (.newarray .int, 2) := by decide +kernel
theorem dX7_init_607 : decode cX7_init 607 = .ok (.putfield 33, 3) := by decide +kernel
theorem dX7_init_610 : decode cX7_init 610 = .ok (.aload_n 0, 1) := by decide +kernel
theorem dX7_init_611 : decode cX7_init 611 = .ok (.sipush 300, 3) := by decide +kernel
theorem dX7_init_614 : decode cX7_init 614 = .ok (.newarray .byte, 2) := by decide +kernel
theorem dX7_init_616 : decode cX7_init 616 = .ok (.putfield 36, 3) := by decide +kernel
theorem dX7_init_619 : decode cX7_init 619 = .ok (.aload_n 0, 1) := by decide +kernel
theorem dX7_init_620 : decode cX7_init 620 = .ok (.bipush 40, 2) := by decide +kernel
theorem dX7_init_622 : decode cX7_init 622 = .ok (.newarray .int, 2) := by decide +kernel
theorem dX7_init_624 : decode cX7_init 624 = .ok (.putfield 39, 3) := by decide +kernel
theorem dX7_init_627 : decode cX7_init 627 = .ok (.aload_n 0, 1) := by decide +kernel
theorem dX7_init_628 : decode cX7_init 628 = .ok (.bipush 40, 2) := by decide +kernel
theorem dX7_init_630 : decode cX7_init 630 = .ok (.newarray .boolean, 2) := by decide +kernel
theorem dX7_init_632 : decode cX7_init 632 = .ok (.putfield 42, 3) := by decide +kernel
theorem dX7_init_635 : decode cX7_init 635 = .ok (.aload_n 0, 1) := by decide +kernel
theorem dX7_init_636 : decode cX7_init 636 = .ok (.sipush 12000, 3) := by decide +kernel
theorem dX7_init_639 : decode cX7_init 639 = .ok (.newarray .byte, 2) := by decide +kernel
theorem dX7_init_641 : decode cX7_init 641 = .ok (.putfield 46, 3) := by decide +kernel
theorem dX7_init_644 : decode cX7_init 644 = .ok (.aload_n 0, 1) := by decide +kernel
theorem dX7_init_645 : decode cX7_init 645 = .ok (.iconst 0, 1) := by decide +kernel
theorem dX7_init_646 : decode cX7_init 646 = .ok (.putfield 49, 3) := by decide +kernel
theorem dX7_init_649 : decode cX7_init 649 = .ok (.return_, 1) := by decide +kernel
