theorem dX8_in_0 : decode cX8_in 0 = .ok (.lload_n 0, 1) := by decide +kernel
theorem dX8_in_1 : decode cX8_in 1 = .ok (.lload_n 2, 1) := by decide +kernel
theorem dX8_in_2 : decode cX8_in 2 = .ok (.lcmp, 1) := by decide +kernel
theorem dX8_in_3 : decode cX8_in 3 = .ok (.ifCond .lt 14, 3) := by decide +kernel
theorem dX8_in_6 : decode cX8_in 6 = .ok (.lload_n 0, 1) := by decide +kernel
theorem dX8_in_7 : decode cX8_in 7 = .ok (.lload 4, 2) := by decide +kernel
theorem dX8_in_9 : decode cX8_in 9 = .ok (.lcmp, 1) := by decide +kernel
theorem dX8_in_10 : decode cX8_in 10 = .ok (.ifCond .gt 7, 3) := by decide +kernel
theorem dX8_in_13 : decode cX8_in 13 = .ok (.iconst 1, 1) := by decide +kernel
theorem dX8_in_14 : decode cX8_in 14 = .ok (.goto 4, 3) := by decide +kernel
theorem dX8_in_17 : decode cX8_in 17 = .ok (.iconst 0, 1) := by decide +kernel
theorem dX8_in_18 : decode cX8_in 18 = .ok (.ireturn, 1) := by decide +kernel
theorem dX8_init_0 : decode cX8_init 0 = .ok (.aload_n 0, 1) := by decide +kernel
theorem dX8_init_1 : decode cX8_init 1 = .ok (.invokespecial 3, 3) := by decide +kernel
theorem dX8_init_4 : decode cX8_init 4 = .ok (.aload_n 0, 1) := by decide +kernel
theorem dX8_init_5 : decode cX8_init 5 = .ok (.iconst 4, 1) := by decide +kernel
theorem dX8_init_6 : decode cX8_init 6 = .ok (.newarray .int, 2) := by decide +kernel
theorem dX8_init_8 : decode cX8_init 8 = .ok (.putfield 9, 3) := by decide +kernel
theorem dX8_init_11 : decode cX8_init 11 = .ok (.aload_n 0, 1) := by decide +kernel
theorem dX8_init_12 : decode cX8_init 12 = .ok (.iconst 4, 1) := by decide +kernel
theorem dX8_init_13 : decode cX8_init 13 = .ok (.newarray .int, 2) := by decide +kernel
theorem dX8_init_15 : decode cX8_init 15 = .ok (.putfield 13, 3) := by decide +kernel
theorem dX8_init_18 : decode cX8_init 18 = .ok (.aload_n 0, 1) := by decide +kernel
theorem dX8_init_19 : decode cX8_init 19 = .ok (.iconst 4, 1) := by decide +kernel
theorem dX8_init_20 : decode cX8_init 20 = .ok (.newarray .int, 2) := by decide +kernel
theorem dX8_init_22 : decode cX8_init 22 = .ok (.putfield 16, 3) := by decide +kernel
theorem dX8_init_25 : decode cX8_init 25 = .ok (.aload_n 0, 1) := by decide +kernel
theorem dX8_init_26 : decode cX8_init 26 = .ok (.iconst 4, 1) := by decide +kernel
theorem dX8_init_27 : decode cX8_init 27 = .ok (.newarray .int, 2) := by decide +kernel
theorem dX8_init_29 : decode cX8_init 29 = .ok (.putfield 19, 3) := by decide +kernel
theorem dX8_init_32 : decode cX8_init 32 = .ok (.aload_n 0, 1) := by decide +kernel
theorem dX8_init_33 : decode cX8_init 33 = .ok (.iconst 4, 1) := by decide +kernel
theorem dX8_init_34 : decode cX8_init 34 = .ok (.newarray .int, 2) := by decide +kernel
theorem dX8_init_36 : decode cX8_init 36 = .ok (.putfield 22, 3) := by decide +kernel
theorem dX8_init_39 : decode cX8_init 39 = .ok (.aload_n 0, 1) := by decide +kernel
theorem dX8_init_40 : decode cX8_init 40 = .ok (.iconst 4, 1) := by decide +kernel
theorem dX8_init_41 : decode cX8_init 41 = .ok (.newarray .int, 2) := by decide +kernel
theorem dX8_init_43 : decode cX8_init 43 = .ok (.putfield 25, 3) := by decide +kernel
theorem dX8_init_46 : decode cX8_init 46 = .ok (.aload_n 0, 1) := by decide +kernel
theorem dX8_init_47 : decode cX8_init 47 = .ok (.iconst 4, 1) := by decide +kernel
theorem dX8_init_48 : decode cX8_init 48 = .ok (.newarray .int, 2) := by decide +kernel
theorem dX8_init_50 : decode cX8_init 50 = .ok (.putfield 28, 3) := by decide +kernel
theorem dX8_init_53 : decode cX8_init 53 = .ok (.aload_n 0, 1) := by decide +kernel
theorem dX8_init_54 : decode cX8_init 54 = .ok (.iconst 4, 1) := by decide +kernel
theorem dX8_init_55 : decode cX8_init 55 = .ok (.newarray .int, 2) := by decide +kernel
theorem dX8_init_57 : decode cX8_init 57 = .ok (.putfield 31, 3) := by decide +kernel
theorem dX8_init_60 : decode cX8_init 60 = .ok (.aload_n 0, 1) := by decide +kernel
theorem dX8_init_61 : decode cX8_init 61 = .ok (.sipush 160, 3) := by decide +kernel
theorem dX8_init_64 : decode cX8_init 64 = .ok (.newarray .int, 2) := by decide +kernel
theorem dX8_init_66 : decode cX8_init 66 = .ok (.putfield 34, 3) := by decide +kernel
theorem dX8_init_69 : decode cX8_init 69 = .ok (.aload_n 0, 1) := by decide +kernel
theorem dX8_init_70 : decode cX8_init 70 = .ok (.sipush 3570, 3) := by decide +kernel
theorem dX8_init_73 : decode cX8_init 73 = .ok (.newarray .int, 2) := by decide +kernel
theorem dX8_init_75 : decode cX8_init 75 = .ok (.putfield 37, 3) := by decide +kernel
theorem dX8_init_78 : decode cX8_init 78 = .ok (.aload_n 0, 1) := by decide +kernel
theorem dX8_init_79 : decode cX8_init 79 = .ok (.bipush 21, 2) := by decide +kernel
theorem dX8_init_81 : decode cX8_init 81 = .ok (.newarray .int, 2) := by decide +kernel
theorem dX8_init_83 : decode cX8_init 83 = .ok (.putfield 40, 3) := by decide +kernel
theorem dX8_init_86 : decode cX8_init 86 = .ok (.aload_n 0, 1) := by decide +kernel
theorem dX8_init_87 : decode cX8_init 87 = .ok (.bipush 21, 2) := by decide +kernel
theorem dX8_init_89 : decode cX8_init 89 = .ok (.newarray .int, 2) := by decide +kernel
theorem dX8_init_91 : decode cX8_init 91 = .ok (.putfield 43, 3) := by decide +kernel
theorem dX8_init_94 : decode cX8_init 94 = .ok (.aload_n 0, 1) := by decide +kernel
theorem dX8_init_95 : decode cX8_init 95 = .ok (.bipush 57, 2) := by decide +kernel
theorem dX8_init_97 : decode cX8_init 97 = .ok (.newarray .char, 2) := by decide +kernel
theorem dX8_init_99 : decode cX8_init 99 = .ok (.dup, 1) := by decide +kernel
theorem dX8_init_100 : decode cX8_init 100 = .ok (.iconst 0, 1) := by decide +kernel
theorem dX8_init_101 : decode cX8_init 101 = .ok (.bipush 100, 2) := by decide +kernel
theorem dX8_init_103 : decode cX8_init 103 = .ok (.castore, 1) := by decide +kernel
theorem dX8_init_104 : decode cX8_init 104 = .ok (.dup, 1) := by decide +kernel
theorem dX8_init_105 : decode cX8_init 105 = .ok (.iconst 1, 1) := by decide +kernel
theorem dX8_init_106 : decode cX8_init 106 = .ok (.bipush 111, 2) := by decide +kernel
theorem dX8_init_108 : decode cX8_init 108 = .ok (.castore, 1) := by decide +kernel
theorem dX8_init_109 : decode cX8_init 109 = .ok (.dup, 1) := by decide +kernel
theorem dX8_init_110 : decode cX8_init 110 = .ok (.iconst 2, 1) := by decide +kernel
theorem dX8_init_111 : decode cX8_init 111 = .ok (.bipush 111, 2) := by decide +kernel
theorem dX8_init_113 : decode cX8_init 113 = .ok (.castore, 1) := by decide +kernel
theorem dX8_init_114 : decode cX8_init 114 = .ok (.dup, 1) := by decide +kernel
theorem dX8_init_115 : decode cX8_init 115 = .ok (.iconst 3, 1) := by decide +kernel
theorem dX8_init_116 : decode cX8_init 116 = .ok (.bipush 114, 2) := by decide +kernel
theorem dX8_init_118 : decode cX8_init 118 = .ok (.castore, 1) := by decide +kernel
theorem dX8_init_119 : decode cX8_init 119 = .ok (.dup, 1) := by decide +kernel
theorem dX8_init_120 : decode cX8_init 120 = .ok (.iconst 4, 1) := by decide +kernel
theorem dX8_init_121 : decode cX8_init 121 = .ok (.bipush 32, 2) := by decide +kernel
theorem dX8_init_123 : decode cX8_init 123 = .ok (.castore, 1) := by decide +kernel
theorem dX8_init_124 : decode cX8_init 124 = .ok (.dup, 1) := by decide +kernel
theorem dX8_init_125 : decode cX8_init 125 = .ok (.iconst 5, 1) := by decide +kernel
theorem dX8_init_126 : decode cX8_init 126 = .ok (.bipush 115, 2) := by decide +kernel
theorem dX8_init_128 : decode cX8_init 128 = .ok (.castore, 1) := by decide +kernel
theorem dX8_init_129 : decode cX8_init 129 = .ok (.dup, 1) := by decide +kernel
theorem dX8_init_130 : decode cX8_init 130 = .ok (.bipush 6, 2) := by decide +kernel
theorem dX8_init_132 : decode cX8_init 132 = .ok (.bipush 116, 2) := by decide +kernel
theorem dX8_init_134 : decode cX8_init 134 = .ok (.castore, 1) := by decide +kernel
theorem dX8_init_135 : decode cX8_init 135 = .ok (.dup, 1) := by decide +kernel
theorem dX8_init_136 : decode cX8_init 136 = .ok (.bipush 7, 2) := by decide +kernel
theorem dX8_init_138 : decode cX8_init 138 = .ok (.bipush 97, 2) := by decide +kernel
theorem dX8_init_140 : decode cX8_init 140 = .ok (.castore, 1) := by decide +kernel
theorem dX8_init_141 : decode cX8_init 141 = .ok (.dup, 1) := by decide +kernel
theorem dX8_init_142 : decode cX8_init 142 = .ok (.bipush 8, 2) := by decide +kernel
theorem dX8_init_144 : decode cX8_init 144 = .ok (.bipush 116, 2) := by decide +kernel
theorem dX8_init_146 : decode cX8_init 146 = .ok (.castore, 1) := by decide +kernel
theorem dX8_init_147 : decode cX8_init 147 = .ok (.dup, 1) := by decide +kernel
theorem dX8_init_148 : decode cX8_init 148 = .ok (.bipush 9, 2) := by decide +kernel
theorem dX8_init_150 : decode cX8_init 150 = .ok (.bipush 101, 2) := by decide +kernel
theorem dX8_init_152 : decode cX8_init 152 = .ok (.castore, 1) := by decide +kernel
theorem dX8_init_153 : decode cX8_init 153 = .ok (.dup, 1) := by decide +kernel
theorem dX8_init_154 : decode cX8_init 154 = .ok (.bipush 10, 2) := by decide +kernel
theorem dX8_init_156 : decode cX8_init 156 = .ok (.bipush 32, 2) := by decide +kernel
theorem dX8_init_158 : decode cX8_init 158 = .ok (.castore, 1) := by decide +kernel
theorem dX8_init_159 : decode cX8_init 159 = .ok (.dup, 1) := by decide +kernel
theorem dX8_init_160 : decode cX8_init 160 = .ok (.bipush 11, 2) := by decide +kernel
theorem dX8_init_162 : decode cX8_init 162 = .ok (.bipush 116, 2) := by decide +kernel
theorem dX8_init_164 : decode cX8_init 164 = .ok (.castore, 1) := by decide +kernel
theorem dX8_init_165 : decode cX8_init 165 = .ok (.dup, 1) := by decide +kernel
theorem dX8_init_166 : decode cX8_init 166 = .ok (.bipush 12, 2) := by decide +kernel
theorem dX8_init_168 : decode cX8_init 168 = .ok (.bipush 117, 2) := by decide +kernel
theorem dX8_init_170 : decode cX8_init 170 = .ok (.castore, 1) := by decide +kernel
theorem dX8_init_171 : decode cX8_init 171 = .ok (.dup, 1) := by decide +kernel
theorem dX8_init_172 : decode cX8_init 172 = .ok (.bipush 13, 2) := by decide +kernel
theorem dX8_init_174 : decode cX8_init 174 = .ok (.bipush 114, 2) := by decide +kernel
theorem dX8_init_176 : decode cX8_init 176 = .ok (.castore, 1) := by decide +kernel
theorem dX8_init_177 : decode cX8_init 177 = .ok (.dup, 1) := by decide +kernel
theorem dX8_init_178 : decode cX8_init 178 = .ok (.bipush 14, 2) := by decide +kernel
theorem dX8_init_180 : decode cX8_init 180 = .ok (.bipush 110, 2) := by decide +kernel
theorem dX8_init_182 : decode cX8_init 182 = .ok (.castore, 1) := by decide +kernel
theorem dX8_init_183 : decode cX8_init 183 = .ok (.dup, 1) := by decide +kernel
theorem dX8_init_184 : decode cX8_init 184 = .ok (.bipush 15, 2) := by decide +kernel
theorem dX8_init_186 : decode cX8_init 186 = .ok (.bipush 32, 2) := by decide +kernel
theorem dX8_init_188 : decode cX8_init 188 = .ok (.castore, 1) := by decide +kernel
theorem dX8_init_189 : decode cX8_init 189 = .ok (.dup, 1) := by decide +kernel
theorem dX8_init_190 : decode cX8_init 190 = .ok (.bipush 16, 2) := by decide +kernel
theorem dX8_init_192 : decode cX8_init 192 = .ok (.bipush 114, 2) := by decide +kernel
theorem dX8_init_194 : decode cX8_init 194 = .ok (.castore, 1) := by decide +kernel
theorem dX8_init_195 : decode cX8_init 195 = .ok (.dup, 1) := by decide +kernel
theorem dX8_init_196 : decode cX8_init 196 = .ok (.bipush 17, 2) := by decide +kernel
theorem dX8_init_198 : decode cX8_init 198 = .ok (.bipush 111, 2) := by decide +kernel
theorem dX8_init_200 : decode cX8_init 200 = .ok (.castore, 1) := by decide +kernel
theorem dX8_init_201 : decode cX8_init 201 = .ok (.dup, 1) := by decide +kernel
theorem dX8_init_202 : decode cX8_init 202 = .ok (.bipush 18, 2) := by decide +kernel
theorem dX8_init_204 : decode cX8_init 204 = .ok (.bipush 111, 2) := by decide +kernel
theorem dX8_init_206 : decode cX8_init 206 = .ok (.castore, 1) := by decide +kernel
theorem dX8_init_207 : decode cX8_init 207 = .ok (.dup, 1) := by decide +kernel
theorem dX8_init_208 : decode cX8_init 208 = .ok (.bipush 19, 2) := by decide +kernel
theorem dX8_init_210 : decode cX8_init 210 = .ok (.bipush 109, 2) := by decide +kernel
theorem dX8_init_212 : decode cX8_init 212 = .ok (.castore, 1) := by decide +kernel
theorem dX8_init_213 : decode cX8_init 213 = .ok (.dup, 1) := by decide +kernel
theorem dX8_init_214 : decode cX8_init 214 = .ok (.bipush 20, 2) := by decide +kernel
theorem dX8_init_216 : decode cX8_init 216 = .ok (.bipush 32, 2) := by decide +kernel
theorem dX8_init_218 : decode cX8_init 218 = .ok (.castore, 1) := by decide +kernel
theorem dX8_init_219 : decode cX8_init 219 = .ok (.dup, 1) := by decide +kernel
theorem dX8_init_220 : decode cX8_init 220 = .ok (.bipush 21, 2) := by decide +kernel
theorem dX8_init_222 : decode cX8_init 222 = .ok (.bipush 107, 2) := by decide +kernel
theorem dX8_init_224 : decode cX8_init 224 = .ok (.castore, 1) := by decide +kernel
theorem dX8_init_225 : decode cX8_init 225 = .ok (.dup, 1) := by decide +kernel
theorem dX8_init_226 : decode cX8_init 226 = .ok (.bipush 22, 2) := by decide +kernel
theorem dX8_init_228 : decode cX8_init 228 = .ok (.bipush 101, 2) := by decide +kernel
theorem dX8_init_230 : decode cX8_init 230 = .ok (.castore, 1) := by decide +kernel
theorem dX8_init_231 : decode cX8_init 231 = .ok (.dup, 1) := by decide +kernel
theorem dX8_init_232 : decode cX8_init 232 = .ok (.bipush 23, 2) := by decide +kernel
theorem dX8_init_234 : decode cX8_init 234 = .ok (.bipush 121, 2) := by decide +kernel
theorem dX8_init_236 : decode cX8_init 236 = .ok (.castore, 1) := by decide +kernel
theorem dX8_init_237 : decode cX8_init 237 = .ok (.dup, 1) := by decide +kernel
theorem dX8_init_238 : decode cX8_init 238 = .ok (.bipush 24, 2) := by decide +kernel
theorem dX8_init_240 : decode cX8_init 240 = .ok (.bipush 32, 2) := by decide +kernel
theorem dX8_init_242 : decode cX8_init 242 = .ok (.castore, 1) := by decide +kernel
theorem dX8_init_243 : decode cX8_init 243 = .ok (.dup, 1) := by decide +kernel
theorem dX8_init_244 : decode cX8_init 244 = .ok (.bipush 25, 2) := by decide +kernel
theorem dX8_init_246 : decode cX8_init 246 = .ok (.bipush 111, 2) := by decide +kernel
theorem dX8_init_248 : decode cX8_init 248 = .ok (.castore, 1) := by decide +kernel
theorem dX8_init_249 : decode cX8_init 249 = .ok (.dup, 1) := by decide +kernel
theorem dX8_init_250 : decode cX8_init 250 = .ok (.bipush 26, 2) := by decide +kernel
theorem dX8_init_252 : decode cX8_init 252 = .ok (.bipush 116, 2) := by decide +kernel
theorem dX8_init_254 : decode cX8_init 254 = .ok (.castore, 1) := by decide +kernel
theorem dX8_init_255 : decode cX8_init 255 = .ok (.dup, 1) := by decide +kernel
theorem dX8_init_256 : decode cX8_init 256 = .ok (.bipush 27, 2) := by decide +kernel
theorem dX8_init_258 : decode cX8_init 258 = .ok (.bipush 104, 2) := by decide +kernel
theorem dX8_init_260 : decode cX8_init 260 = .ok (.castore, 1) := by decide +kernel
theorem dX8_init_261 : decode cX8_init 261 = .ok (.dup, 1) := by decide +kernel
theorem dX8_init_262 : decode cX8_init 262 = .ok (.bipush 28, 2) := by decide +kernel
theorem dX8_init_264 : decode cX8_init 264 = .ok (.bipush 101, 2) := by decide +kernel
theorem dX8_init_266 : decode cX8_init 266 = .ok (.castore, 1) := by decide +kernel
theorem dX8_init_267 : decode cX8_init 267 = .ok (.dup, 1) := by decide +kernel
theorem dX8_init_268 : decode cX8_init 268 = .ok (.bipush 29, 2) := by decide +kernel
theorem dX8_init_270 : decode cX8_init 270 = .ok (.bipush 114, 2) := by decide +kernel
theorem dX8_init_272 : decode cX8_init 272 = .ok (.castore, 1) := by decide +kernel
theorem dX8_init_273 : decode cX8_init 273 = .ok (.dup, 1) := by decide +kernel
theorem dX8_init_274 : decode cX8_init 274 = .ok (.bipush 30, 2) := by decide +kernel
theorem dX8_init_276 : decode cX8_init 276 = .ok (.bipush 32, 2) := by decide +kernel
theorem dX8_init_278 : decode cX8_init 278 = .ok (.castore, 1) := by decide +kernel
theorem dX8_init_279 : decode cX8_init 279 = .ok (.dup, 1) := by decide +kernel
theorem dX8_init_280 : decode cX8_init 280 = .ok (.bipush 31, 2) := by decide +kernel
theorem dX8_init_282 : decode cX8_init 282 = .ok (.bipush 115, 2) := by decide +kernel
theorem dX8_init_284 : decode cX8_init 284 = .ok (.castore, 1) := by decide +kernel
theorem dX8_init_285 : decode cX8_init 285 = .ok (.dup, 1) := by decide +kernel
theorem dX8_init_286 : decode cX8_init 286 = .ok (.bipush 32, 2) := by decide +kernel
theorem dX8_init_288 : decode cX8_init 288 = .ok (.bipush 104, 2) := by decide +kernel
theorem dX8_init_290 : decode cX8_init 290 = .ok (.castore, 1) := by decide +kernel
theorem dX8_init_291 : decode cX8_init 291 = .ok (.dup, 1) := by decide +kernel
theorem dX8_init_292 : decode cX8_init 292 = .ok (.bipush 33, 2) := by decide +kernel
theorem dX8_init_294 : decode cX8_init 294 = .ok (.bipush 117, 2) := by decide +kernel
theorem dX8_init_296 : decode cX8_init 296 = .ok (.castore, 1) := by decide +kernel
theorem dX8_init_297 : decode cX8_init 297 = .ok (.dup, 1) := by decide +kernel
theorem dX8_init_298 : decode cX8_init 298 = .ok (.bipush 34, 2) := by decide +kernel
theorem dX8_init_300 : decode cX8_init 300 = .ok (.bipush 116, 2) := by decide +kernel
theorem dX8_init_302 : decode cX8_init 302 = .ok (.castore, 1) := by decide +kernel
theorem dX8_init_303 : decode cX8_init 303 = .ok (.dup, 1) := by decide +kernel
theorem dX8_init_304 : decode cX8_init 304 = .ok (.bipush 35, 2) := by decide +kernel
theorem dX8_init_306 : decode cX8_init 306 = .ok (.bipush 32, 2) := by decide +kernel
theorem dX8_init_308 : decode cX8_init 308 = .ok (.castore, 1) := by decide +kernel
theorem dX8_init_309 : decode cX8_init 309 = .ok (.dup, 1) := by decide +kernel
theorem dX8_init_310 : decode cX8_init 310 = .ok (.bipush 36, 2) := by decide +kernel
theorem dX8_init_312 : decode cX8_init 312 = .ok (.bipush 99, 2) := by decide +kernel
theorem dX8_init_314 : decode cX8_init 314 = .ok (.castore, 1) := by decide +kernel
theorem dX8_init_315 : decode cX8_init 315 = .ok (.dup, 1) := by decide +kernel
theorem dX8_init_316 : decode cX8_init 316 = .ok (.bipush 37, 2) := by decide +kernel
theorem dX8_init_318 : decode cX8_init 318 = .ok (.bipush 111, 2) := by decide +kernel
theorem dX8_init_320 : decode cX8_init 320 = .ok (.castore, 1) := by decide +kernel
theorem dX8_init_321 : decode cX8_init 321 = .ok (.dup, 1) := by decide +kernel
theorem dX8_init_322 : decode cX8_init 322 = .ok (.bipush 38, 2) := by decide +kernel
theorem dX8_init_324 : decode cX8_init 324 = .ok (.bipush 115, 2) := by decide +kernel
theorem dX8_init_326 : decode cX8_init 326 = .ok (.castore, 1) := by decide +kernel
theorem dX8_init_327 : decode cX8_init 327 = .ok (.dup, 1) := by decide +kernel
theorem dX8_init_328 : decode cX8_init 328 = .ok (.bipush 39, 2) := by decide +kernel
theorem dX8_init_330 : decode cX8_init 330 = .ok (.bipush 116, 2) := by decide +kernel
theorem dX8_init_332 : decode cX8_init 332 = .ok (.castore, 1) := by decide +kernel
theorem dX8_init_333 : decode cX8_init 333 = .ok (.dup, 1) := by decide +kernel
theorem dX8_init_334 : decode cX8_init 334 = .ok (.bipush 40, 2) := by decide +kernel
theorem dX8_init_336 : decode cX8_init 336 = .ok (.bipush 32, 2) := by decide +kernel
theorem dX8_init_338 : decode cX8_init 338 = .ok (.castore, 1) := by decide +kernel
theorem dX8_init_339 : decode cX8_init 339 = .ok (.dup, 1) := by decide +kernel
theorem dX8_init_340 : decode cX8_init 340 = .ok (.bipush 41, 2) := by decide +kernel
theorem dX8_init_342 : decode cX8_init 342 = .ok (.bipush 119, 2) := by decide +kernel
theorem dX8_init_344 : decode cX8_init 344 = .ok (.castore, 1) := by decide +kernel
theorem dX8_init_345 : decode cX8_init 345 = .ok (.dup, 1) := by decide +kernel
theorem dX8_init_346 : decode cX8_init 346 = .ok (.bipush 42, 2) := by decide +kernel
theorem dX8_init_348 : decode cX8_init 348 = .ok (.bipush 105, 2) := by decide +kernel
theorem dX8_init_350 : decode cX8_init 350 = .ok (.castore, 1) := by decide +kernel
theorem dX8_init_351 : decode cX8_init 351 = .ok (.dup, 1) := by decide +kernel
theorem dX8_init_352 : decode cX8_init 352 = .ok (.bipush 43, 2) := by decide +kernel
theorem dX8_init_354 : decode cX8_init 354 = .ok (.bipush 115, 2) := by decide +kernel
theorem dX8_init_356 : decode cX8_init 356 = .ok (.castore, 1) := by decide +kernel
theorem dX8_init_357 : decode cX8_init 357 = .ok (.dup, 1) := by decide +kernel
theorem dX8_init_358 : decode cX8_init 358 = .ok (.bipush 44, 2) := by decide +kernel
theorem dX8_init_360 : decode cX8_init 360 = .ok (.bipush 104, 2) := by decide +kernel
theorem dX8_init_362 : decode cX8_init 362 = .ok (.castore, 1) := by decide +kernel
theorem dX8_init_363 : decode cX8_init 363 = .ok (.dup, 1) := by decide +kernel
theorem dX8_init_364 : decode cX8_init 364 = .ok (.bipush 45, 2) := by decide +kernel
theorem dX8_init_366 : decode cX8_init 366 = .ok (.bipush 32, 2) := by decide +kernel
theorem dX8_init_368 : decode cX8_init 368 = .ok (.castore, 1) := by decide +kernel
theorem dX8_init_369 : decode cX8_init 369 = .ok (.dup, 1) := by decide +kernel
theorem dX8_init_370 : decode cX8_init 370 = .ok (.bipush 46, 2) := by decide +kernel
theorem dX8_init_372 : decode cX8_init 372 = .ok (.bipush 111, 2) := by decide +kernel
theorem dX8_init_374 : decode cX8_init 374 = .ok (.castore, 1) := by decide +kernel
theorem dX8_init_375 : decode cX8_init 375 = .ok (.dup, 1) := by decide +kernel
theorem dX8_init_376 : decode cX8_init 376 = .ok (.bipush 47, 2) := by decide +kernel
theorem dX8_init_378 : decode cX8_init 378 = .ok (.bipush 114, 2) := by decide +kernel
theorem dX8_init_380 : decode cX8_init 380 = .ok (.castore, 1) := by decide +kernel
theorem dX8_init_381 : decode cX8_init 381 = .ok (.dup, 1) := by decide +kernel
theorem dX8_init_382 : decode cX8_init 382 = .ok (.bipush 48, 2) := by decide +kernel
theorem dX8_init_384 : decode cX8_init 384 = .ok (.bipush 32, 2) := by decide +kernel
theorem dX8_init_386 : decode cX8_init 386 = .ok (.castore, 1) := by decide +kernel
theorem dX8_init_387 : decode cX8_init 387 = .ok (.dup, 1) := by decide +kernel
theorem dX8_init_388 : decode cX8_init 388 = .ok (.bipush 49, 2) := by decide +kernel
theorem dX8_init_390 : decode cX8_init 390 = .ok (.bipush 97, 2) := by decide +kernel
theorem dX8_init_392 : decode cX8_init 392 = .ok (.castore, 1) := by decide +kernel
theorem dX8_init_393 : decode cX8_init 393 = .ok (.dup, 1) := by decide +kernel
theorem dX8_init_394 : decode cX8_init 394 = .ok (.bipush 50, 2) := by decide +kernel
theorem dX8_init_396 : decode cX8_init 396 = .ok (.bipush 110, 2) := by decide +kernel
theorem dX8_init_398 : decode cX8_init 398 = .ok (.castore, 1) := by decide +kernel
theorem dX8_init_399 : decode cX8_init 399 = .ok (.dup, 1) := by decide +kernel
theorem dX8_init_400 : decode cX8_init 400 = .ok (.bipush 51, 2) := by decide +kernel
theorem dX8_init_402 : decode cX8_init 402 = .ok (.bipush 100, 2) := by decide +kernel
theorem dX8_init_404 : decode cX8_init 404 = .ok (.castore, 1) := by decide +kernel
theorem dX8_init_405 : decode cX8_init 405 = .ok (.dup, 1) := by decide +kernel
theorem dX8_init_406 : decode cX8_init 406 = .ok (.bipush 52, 2) := by decide +kernel
theorem dX8_init_408 : decode cX8_init 408 = .ok (.bipush 32, 2) := by decide +kernel
theorem dX8_init_410 : decode cX8_init 410 = .ok (.castore, 1) := by decide +kernel
theorem dX8_init_411 : decode cX8_init 411 = .ok (.dup, 1) := by decide +kernel
theorem dX8_init_412 : decode cX8_init 412 = .ok (.bipush 53, 2) := by decide +kernel
theorem dX8_init_414 : decode cX8_init 414 = .ok (.bipush 110, 2) := by decide +kernel
theorem dX8_init_416 : decode cX8_init 416 = .ok (.castore, 1) := by decide +kernel
theorem dX8_init_417 : decode cX8_init 417 = .ok (.dup, 1) := by decide +kernel
theorem dX8_init_418 : decode cX8_init 418 = .ok (.bipush 54, 2) := by decide +kernel
theorem dX8_init_420 : decode cX8_init 420 = .ok (.bipush 111, 2) := by decide +kernel
theorem dX8_init_422 : decode cX8_init 422 = .ok (.castore, 1) := by decide +kernel
theorem dX8_init_423 : decode cX8_init 423 = .ok (.dup, 1) := by decide +kernel
theorem dX8_init_424 : decode cX8_init 424 = .ok (.bipush 55, 2) := by decide +kernel
theorem dX8_init_426 : decode cX8_init 426 = .ok (.bipush 116, 2) := by decide +kernel
theorem dX8_init_428 : decode cX8_init 428 = .ok (.castore, 1) := by decide +kernel
theorem dX8_init_429 : decode cX8_init 429 = .ok (.dup, 1) := by decide +kernel
theorem dX8_init_430 : decode cX8_init 430 = .ok (.bipush 56, 2) := by decide +kernel
theorem dX8_init_432 : decode cX8_init 432 = .ok (.bipush 32, 2) := by decide +kernel
theorem dX8_init_434 : decode cX8_init 434 = .ok (.castore, 1) := by decide +kernel
theorem dX8_init_435 : decode cX8_init 435 = .ok (.putfield 46, 3) := by decide +kernel
theorem dX8_init_438 : decode cX8_init 438 = .ok (.aload_n 0, 1) := by decide +kernel
theorem dX8_init_439 : decode cX8_init 439 = .ok (.sipush 170, 3) := by decide +kernel
theorem dX8_init_442 : decode cX8_init 442 = .ok (.newarray .int, 2) := by decide +kernel
theorem dX8_init_444 : decode cX8_init 444 = .ok (.putfield 50, 3) := by decide +kernel
theorem dX8_init_447 : decode cX8_init 447 = .ok (.aload_n 0, 1) := by decide +kernel
theorem dX8_init_448 : decode cX8_init 448 = .ok (.bipush 6, 2) := by decide +kernel
theorem dX8_init_450 : decode cX8_init 450 = .ok (.newarray .int, 2) := by decide +kernel
theorem dX8_init_452 : decode cX8_init 452 = .ok (.putfield 53, 3) := by decide +kernel
theorem dX8_init_455 : decode cX8_init 455 = .ok (.aload_n 0, 1) := by decide +kernel
theorem dX8_init_456 : decode cX8_init 456 = .ok (.sipush 6144, 3) := by decide +kernel
theorem dX8_init_459 : decode cX8_init 459 = .ok (.newarray .int, 2) := by decide +kernel
theorem dX8_init_461 : decode cX8_init 461 = .ok (.putfield 56, 3) := by decide +kernel
theorem dX8_init_464 : decode cX8_init 464 = .ok (.aload_n 0, 1) := by decide +kernel
theorem dX8_init_465 : decode cX8_init 465 = .ok (.sipush 6144, 3) := by decide +kernel
theorem dX8_init_468 : decode cX8_init 468 = .ok (.newarray .int, 2) := by decide +kernel
theorem dX8_init_470 : decode cX8_init 470 = .ok (.putfield 59, 3) := by decide +kernel
theorem dX8_init_473 : decode cX8_init 473 = .ok (.aload_n 0, 1) := by decide +kernel
theorem dX8_init_474 : decode cX8_init 474 = .ok (.sipush 24576, 3) := by decide +kernel
theorem dX8_init_477 : decode cX8_init 477 = .ok (.newarray .int, 2) := by decide +kernel
theorem dX8_init_479 : decode cX8_init 479 = .ok (.putfield 62, 3) := by decide +kernel
theorem dX8_init_482 : decode cX8_init 482 = .ok (.aload_n 0, 1) := by decide +kernel
theorem dX8_init_483 : decode cX8_init 483 = .ok (.sipush 6144, 3) := by decide +kernel
theorem dX8_init_486 : decode cX8_init 486 = .ok (.newarray .int, 2) := by decide +kernel
theorem dX8_init_488 : decode cX8_init 488 = .ok (.putfield 65, 3) := by decide +kernel
theorem dX8_init_491 : decode cX8_init 491 = .ok (.aload_n 0, 1) := by decide +kernel
theorem dX8_init_492 : decode cX8_init 492 = .ok (.iconst 4, 1) := by decide +kernel
theorem dX8_init_493 : decode cX8_init 493 = .ok (.newarray .int, 2) := by decide +kernel
theorem dX8_init_495 : decode cX8_init 495 = .ok (.putfield 68, 3) := by decide +kernel
theorem dX8_init_498 : decode cX8_init 498 = .ok (.aload_n 0, 1) := by decide +kernel
theorem dX8_init_499 : decode cX8_init 499 = .ok (.iconst 4, 1) := by decide +kernel
theorem dX8_init_500 : decode cX8_init 500 = .ok (.newarray .int, 2) := by decide +kernel
theorem dX8_init_502 : decode cX8_init 502 = .ok (.putfield 71, 3) := by decide +kernel
theorem dX8_init_505 : decode cX8_init 505 = .ok (.aload_n 0, 1) := by decide +kernel
theorem dX8_init_506 : decode cX8_init 506 = .ok (.iconst 4, 1) := by decide +kernel
theorem dX8_init_507 : decode cX8_init 507 = .ok (.newarray .int, 2) := by decide +kernel
theorem dX8_init_509 : decode cX8_init 509 = .ok (.putfield 74, 3) := by decide +kernel
theorem dX8_init_512 : decode cX8_init 512 = .ok (.aload_n 0, 1) := by decide +kernel
theorem dX8_init_513 : decode cX8_init 513 = .ok (.sipush 160, 3) := by decide +kernel
theorem dX8_init_516 : decode cX8_init 516 = .ok (.newarray .int, 2) := by decide +kernel
theorem dX8_init_518 : decode cX8_init 518 = .ok (.putfield 77, 3) := by decide +kernel
theorem dX8_init_521 : decode cX8_init 521 = .ok (.aload_n 0, 1) := by decide +kernel
theorem dX8_init_522 : decode cX8_init 522 = .ok (.bipush 40, 2) := by decide +kernel
theorem dX8_init_524 : decode cX8_init 524 = .ok (.newarray .int, 2) := by decide +kernel
theorem dX8_init_526 : decode cX8_init 526 = .ok (.putfield 80, 3) := by decide +kernel
theorem dX8_init_529 : decode cX8_init 529 = .ok (.bipush 7, 2) := by decide +kernel
theorem dX8_init_531 : decode cX8_init 531 = .ok (.newarray .int, 2) := by decide +kernel
theorem dX8_init_533 : decode cX8_init 533 = .ok (.dup, 1) := by decide +kernel
theorem dX8_init_534 : decode cX8_init 534 = .ok (.iconst 0, 1) := by decide +kernel
theorem dX8_init_535 : decode cX8_init 535 = .ok (.iconst 0, 1) := by decide +kernel
theorem dX8_init_536 : decode cX8_init 536 = .ok (.iastore, 1) := by decide +kernel
theorem dX8_init_537 : decode cX8_init 537 = .ok (.dup, 1) := by decide +kernel
theorem dX8_init_538 : decode cX8_init 538 = .ok (.iconst 1, 1) := by decide +kernel
theorem dX8_init_539 : decode cX8_init 539 = .ok (.iconst 1, 1) := by decide +kernel
theorem dX8_init_540 : decode cX8_init 540 = .ok (.iastore, 1) := by decide +kernel
theorem dX8_init_541 : decode cX8_init 541 = .ok (.dup, 1) := by decide +kernel
theorem dX8_init_542 : decode cX8_init 542 = .ok (.iconst 2, 1) := by decide +kernel
theorem dX8_init_543 : decode cX8_init 543 = .ok (.bipush (-2), 2) := by decide +kernel
theorem dX8_init_545 : decode cX8_init 545 = .ok (.iastore, 1) := by decide +kernel
theorem dX8_init_546 : decode cX8_init 546 = .ok (.dup, 1) := by decide +kernel
theorem dX8_init_547 : decode cX8_init 547 = .ok (.iconst 3, 1) := by decide +kernel
theorem dX8_init_548 : decode cX8_init 548 = .ok (.sipush (-143), 3) := by decide +kernel
theorem dX8_init_551 : decode cX8_init 551 = .ok (.iastore, 1) := by decide +kernel
theorem dX8_init_552 : decode cX8_init 552 = .ok (.dup, 1) := by decide +kernel
theorem dX8_init_553 : decode cX8_init 553 = .ok (.iconst 4, 1) := by decide +kernel
theorem dX8_init_554 : decode cX8_init 554 = .ok (.bipush (-4), 2) := by decide +kernel
theorem dX8_init_556 : decode cX8_init 556 = .ok (.iastore, 1) := by decide +kernel
theorem dX8_init_557 : decode cX8_init 557 = .ok (.dup, 1) := by decide +kernel
theorem dX8_init_558 : decode cX8_init 558 = .ok (.iconst 5, 1) := by decide +kernel
theorem dX8_init_559 : decode cX8_init 559 = .ok (.iconst 2, 1) := by decide +kernel
theorem dX8_init_560 : decode cX8_init 560 = .ok (.iastore, 1) := by decide +kernel
theorem dX8_init_561 : decode cX8_init 561 = .ok (.dup, 1) := by decide +kernel
theorem dX8_init_562 : decode cX8_init 562 = .ok (.bipush 6, 2) := by decide +kernel
theorem dX8_init_564 : decode cX8_init 564 = .ok (.sipush (-161), 3) := by decide +kernel
theorem dX8_init_567 : decode cX8_init 567 = .ok (.iastore, 1) := by decide +kernel
theorem dX8_init_568 : decode cX8_init 568 = .ok (.astore_n 1, 1) := by decide +kernel
theorem dX8_init_569 : decode cX8_init 569 = .ok (.iconst 0, 1) := by decide +kernel
theorem dX8_init_570 : decode cX8_init 570 = .ok (.istore_n 2, 1) := by decide +kernel
theorem dX8_init_571 : decode cX8_init 571 = .ok (.iload_n 2, 1) := by decide +kernel
theorem dX8_init_572 : decode cX8_init 572 = .ok (.aload_n 1, 1) := by decide +kernel
theorem dX8_init_573 : decode cX8_init 573 = .ok (.arraylength, 1) := by decide +kernel
theorem dX8_init_574 : decode cX8_init 574 = .ok (.if_icmp .ge 18, 3) := by decide +kernel
theorem dX8_init_577 : decode cX8_init 577 = .ok (.aload_n 0, 1) := by decide +kernel
theorem dX8_init_578 : decode cX8_init 578 = .ok (.getfield 37, 3) := by decide +kernel
theorem dX8_init_581 : decode cX8_init 581 = .ok (.iload_n 2, 1) := by decide +kernel
theorem dX8_init_582 : decode cX8_init 582 = .ok (.aload_n 1, 1) := by decide +kernel
theorem dX8_init_583 : decode cX8_init 583 = .ok (.iload_n 2, 1) := by decide +kernel
theorem dX8_init_584 : decode cX8_init 584 = .ok (.iaload, 1) := by decide +kernel
theorem dX8_init_585 : decode cX8_init 585 = .ok (.iastore, 1) := by decide +kernel
theorem dX8_init_586 : decode cX8_init 586 = .ok (.iinc 2 1, 3) := by decide +kernel
theorem dX8_init_589 : decode cX8_init 589 = .ok (.goto (-18), 3) := by decide +kernel
theorem dX8_init_592 : decode cX8_init 592 = .ok (.aload_n 0, 1) := by decide +kernel
theorem dX8_init_593 : decode cX8_init 593 = .ok (.getfield 40, 3) := by decide +kernel
theorem dX8_init_596 : decode cX8_init 596 = .ok (.iconst 0, 1) := by decide +kernel
theorem dX8_init_597 : decode cX8_init 597 = .ok (.iconst 0, 1) := by decide +kernel
theorem dX8_init_598 : decode cX8_init 598 = .ok (.iastore, 1) := by decide +kernel
theorem dX8_init_599 : decode cX8_init 599 = .ok (.aload_n 0, 1) := by decide +kernel
theorem dX8_init_600 : decode cX8_init 600 = .ok (.getfield 43, 3) := by decide +kernel
theorem dX8_init_603 : decode cX8_init 603 = .ok (.iconst 0, 1) := by decide +kernel
theorem dX8_init_604 : decode cX8_init 604 = .ok (.iconst 1, 1) := by decide +kernel
theorem dX8_init_605 : decode cX8_init 605 = .ok (.iastore, 1) := by decide +kernel
theorem dX8_init_606 : decode cX8_init 606 = .ok (.aload_n 0, 1) := by decide +kernel
theorem dX8_init_607 : decode cX8_init 607 = .ok (.getfield 40, 3) := by decide +kernel
theorem dX8_init_610 : decode cX8_init 610 = .ok (.iconst 1, 1) := by decide +kernel
theorem dX8_init_611 : decode cX8_init 611 = .ok (.iconst 1, 1) := by decide +kernel
theorem dX8_init_612 : decode cX8_init 612 = .ok (.iastore, 1) := by decide +kernel
theorem dX8_init_613 : decode cX8_init 613 = .ok (.aload_n 0, 1) := by decide +kernel
theorem dX8_init_614 : decode cX8_init 614 = .ok (.getfield 43, 3) := by decide +kernel
theorem dX8_init_617 : decode cX8_init 617 = .ok (.iconst 1, 1) := by decide +kernel
theorem dX8_init_618 : decode cX8_init 618 = .ok (.iconst 4, 1) := by decide +kernel
theorem dX8_init_619 : decode cX8_init 619 = .ok (.iastore, 1) := by decide +kernel
theorem dX8_init_620 : decode cX8_init 620 = .ok (.aload_n 0, 1) := by decide +kernel
theorem dX8_init_621 : decode cX8_init 621 = .ok (.getfield 40, 3) := by decide +kernel
theorem dX8_init_624 : decode cX8_init 624 = .ok (.iconst 2, 1) := by decide +kernel
theorem dX8_init_625 : decode cX8_init 625 = .ok (.iconst 4, 1) := by decide +kernel
theorem dX8_init_626 : decode cX8_init 626 = .ok (.iastore, 1) := by decide +kernel
theorem dX8_init_627 : decode cX8_init 627 = .ok (.aload_n 0, 1) := by decide +kernel
theorem dX8_init_628 : decode cX8_init 628 = .ok (.getfield 43, 3) := by decide +kernel
theorem dX8_init_631 : decode cX8_init 631 = .ok (.iconst 2, 1) := by decide +kernel
theorem dX8_init_632 : decode cX8_init 632 = .ok (.bipush 7, 2) := by decide +kernel
theorem dX8_init_634 : decode cX8_init 634 = .ok (.iastore, 1) := by decide +kernel
theorem dX8_init_635 : decode cX8_init 635 = .ok (.aload_n 0, 1) := by decide +kernel
theorem dX8_init_636 : decode cX8_init 636 = .ok (.iconst 1, 1) := by decide +kernel
theorem dX8_init_637 : decode cX8_init 637 = .ok (.putfield 83, 3) := by decide +kernel
theorem dX8_init_640 : decode cX8_init 640 = .ok (.aload_n 0, 1) := by decide +kernel
theorem dX8_init_641 : decode cX8_init 641 = .ok (.iconst 3, 1) := by decide +kernel
theorem dX8_init_642 : decode cX8_init 642 = .ok (.putfield 87, 3) := by decide +kernel
theorem dX8_init_645 : decode cX8_init 645 = .ok (.iconst 0, 1) := by decide +kernel
theorem dX8_init_646 : decode cX8_init 646 = .ok (.istore_n 2, 1) := by decide +kernel
theorem dX8_init_647 : decode cX8_init 647 = .ok (.iload_n 2, 1) := by decide +kernel
theorem dX8_init_648 : decode cX8_init 648 = .ok (.iconst 4, 1) := by decide +kernel
theorem dX8_init_649 : decode cX8_init 649 = .ok (.if_icmp .ge 16, 3) := by decide +kernel
theorem dX8_init_652 : decode cX8_init 652 = .ok (.aload_n 0, 1) := by decide +kernel
theorem dX8_init_653 : decode cX8_init 653 = .ok (.getfield 71, 3) := by decide +kernel
theorem dX8_init_656 : decode cX8_init 656 = .ok (.iload_n 2, 1) := by decide +kernel
theorem dX8_init_657 : decode cX8_init 657 = .ok (.iconst (-1), 1) := by decide +kernel
theorem dX8_init_658 : decode cX8_init 658 = .ok (.iastore, 1) := by decide +kernel
theorem dX8_init_659 : decode cX8_init 659 = .ok (.iinc 2 1, 3) := by decide +kernel
theorem dX8_init_662 : decode cX8_init 662 = .ok (.goto (-15), 3) := by decide +kernel
theorem dX8_init_665 : decode cX8_init 665 = .ok (.return_, 1) := by decide +kernel
theorem dX8_isDoor_0 : decode cX8_isDoor 0 = .ok (.iload_n 1, 1) := by decide +kernel
theorem dX8_isDoor_1 : decode cX8_isDoor 1 = .ok (.i2l, 1) := by decide +kernel
theorem dX8_isDoor_2 : decode cX8_isDoor 2 = .ok (.lconst 0, 1) := by decide +kernel
theorem dX8_isDoor_3 : decode cX8_isDoor 3 = .ok (.aload_n 0, 1) := by decide +kernel
theorem dX8_isDoor_4 : decode cX8_isDoor 4 = .ok (.getfield 90, 3) := by decide +kernel
theorem dX8_isDoor_7 : decode cX8_isDoor 7 = .ok (.iconst 1, 1) := by decide +kernel
theorem dX8_isDoor_8 : decode cX8_isDoor 8 = .ok (.isub, 1) := by decide +kernel
theorem dX8_isDoor_9 : decode cX8_isDoor 9 = .ok (.i2l, 1) := by decide +kernel
theorem dX8_isDoor_10 : decode cX8_isDoor 10 = .ok (.invokestatic 93, 3) := by decide +kernel
theorem dX8_isDoor_13 : decode cX8_isDoor 13 = .ok (.ireturn, 1) := by decide +kernel
theorem dX8_isRoom_0 : decode cX8_isRoom 0 = .ok (.iload_n 1, 1) := by decide +kernel
theorem dX8_isRoom_1 : decode cX8_isRoom 1 = .ok (.i2l, 1) := by decide +kernel
theorem dX8_isRoom_2 : decode cX8_isRoom 2 = .ok (.lconst 0, 1) := by decide +kernel
theorem dX8_isRoom_3 : decode cX8_isRoom 3 = .ok (.aload_n 0, 1) := by decide +kernel
theorem dX8_isRoom_4 : decode cX8_isRoom 4 = .ok (.getfield 87, 3) := by decide +kernel
theorem dX8_isRoom_7 : decode cX8_isRoom 7 = .ok (.iconst 1, 1) := by decide +kernel
theorem dX8_isRoom_8 : decode cX8_isRoom 8 = .ok (.isub, 1) := by decide +kernel
theorem dX8_isRoom_9 : decode cX8_isRoom 9 = .ok (.i2l, 1) := by decide +kernel
theorem dX8_isRoom_10 : decode cX8_isRoom 10 = .ok (.invokestatic 93, 3) := by decide +kernel
theorem dX8_isRoom_13 : decode cX8_isRoom 13 = .ok (.ireturn, 1) := by decide +kernel
theorem dX8_door_0 : decode cX8_door 0 = .ok (.iload_n 1, 1) := by decide +kernel
theorem dX8_door_1 : decode cX8_door 1 = .ok (.i2l, 1) := by decide +kernel
theorem dX8_door_2 : decode cX8_door 2 = .ok (.lconst 0, 1) := by decide +kernel
theorem dX8_door_3 : decode cX8_door 3 = .ok (.ldc2_w 97, 3) := by decide +kernel
theorem dX8_door_6 : decode cX8_door 6 = .ok (.invokestatic 93, 3) := by decide +kernel
theorem dX8_door_9 : decode cX8_door 9 = .ok (.ifCond .eq 59, 3) := by decide +kernel
theorem dX8_door_12 : decode cX8_door 12 = .ok (.iload_n 2, 1) := by decide +kernel
theorem dX8_door_13 : decode cX8_door 13 = .ok (.ifCond .lt 55, 3) := by decide +kernel
theorem dX8_door_16 : decode cX8_door 16 = .ok (.aload_n 0, 1) := by decide +kernel
theorem dX8_door_17 : decode cX8_door 17 = .ok (.iload_n 2, 1) := by decide +kernel
theorem dX8_door_18 : decode cX8_door 18 = .ok (.bipush 100, 2) := by decide +kernel
theorem dX8_door_20 : decode cX8_door 20 = .ok (.idiv, 1) := by decide +kernel
theorem dX8_door_21 : decode cX8_door 21 = .ok (.invokevirtual 99, 3) := by decide +kernel
theorem dX8_door_24 : decode cX8_door 24 = .ok (.ifCond .eq 44, 3) := by decide +kernel
theorem dX8_door_27 : decode cX8_door 27 = .ok (.aload_n 0, 1) := by decide +kernel
theorem dX8_door_28 : decode cX8_door 28 = .ok (.iload_n 2, 1) := by decide +kernel
theorem dX8_door_29 : decode cX8_door 29 = .ok (.bipush 10, 2) := by decide +kernel
theorem dX8_door_31 : decode cX8_door 31 = .ok (.idiv, 1) := by decide +kernel
theorem dX8_door_32 : decode cX8_door 32 = .ok (.bipush 10, 2) := by decide +kernel
theorem dX8_door_34 : decode cX8_door 34 = .ok (.irem, 1) := by decide +kernel
theorem dX8_door_35 : decode cX8_door 35 = .ok (.invokevirtual 99, 3) := by decide +kernel
theorem dX8_door_38 : decode cX8_door 38 = .ok (.ifCond .eq 30, 3) := by decide +kernel
theorem dX8_door_41 : decode cX8_door 41 = .ok (.iload_n 2, 1) := by decide +kernel
theorem dX8_door_42 : decode cX8_door 42 = .ok (.bipush 10, 2) := by decide +kernel
theorem dX8_door_44 : decode cX8_door 44 = .ok (.irem, 1) := by decide +kernel
theorem dX8_door_45 : decode cX8_door 45 = .ok (.i2l, 1) := by decide +kernel
theorem dX8_door_46 : decode cX8_door 46 = .ok (.lconst 0, 1) := by decide +kernel
theorem dX8_door_47 : decode cX8_door 47 = .ok (.ldc2_w 103, 3) := by decide +kernel
theorem dX8_door_50 : decode cX8_door 50 = .ok (.invokestatic 93, 3) := by decide +kernel
theorem dX8_door_53 : decode cX8_door 53 = .ok (.ifCond .eq 15, 3) := by decide +kernel
theorem dX8_door_56 : decode cX8_door 56 = .ok (.iload_n 3, 1) := by decide +kernel
theorem dX8_door_57 : decode cX8_door 57 = .ok (.i2l, 1) := by decide +kernel
theorem dX8_door_58 : decode cX8_door 58 = .ok (.lconst 0, 1) := by decide +kernel
theorem dX8_door_59 : decode cX8_door 59 = .ok (.ldc2_w 105, 3) := by decide +kernel
theorem dX8_door_62 : decode cX8_door 62 = .ok (.invokestatic 93, 3) := by decide +kernel
theorem dX8_door_65 : decode cX8_door 65 = .ok (.ifCond .ne 6, 3) := by decide +kernel
theorem dX8_door_68 : decode cX8_door 68 = .ok (.bipush (-2), 2) := by decide +kernel
theorem dX8_door_70 : decode cX8_door 70 = .ok (.ireturn, 1) := by decide +kernel
theorem dX8_door_71 : decode cX8_door 71 = .ok (.aload_n 0, 1) := by decide +kernel
theorem dX8_door_72 : decode cX8_door 72 = .ok (.getfield 90, 3) := by decide +kernel
theorem dX8_door_75 : decode cX8_door 75 = .ok (.iconst 4, 1) := by decide +kernel
theorem dX8_door_76 : decode cX8_door 76 = .ok (.if_icmp .ne 6, 3) := by decide +kernel
theorem dX8_door_79 : decode cX8_door 79 = .ok (.bipush (-4), 2) := by decide +kernel
theorem dX8_door_81 : decode cX8_door 81 = .ok (.ireturn, 1) := by decide +kernel
theorem dX8_door_82 : decode cX8_door 82 = .ok (.aload_n 0, 1) := by decide +kernel
theorem dX8_door_83 : decode cX8_door 83 = .ok (.getfield 9, 3) := by decide +kernel
theorem dX8_door_86 : decode cX8_door 86 = .ok (.aload_n 0, 1) := by decide +kernel
theorem dX8_door_87 : decode cX8_door 87 = .ok (.getfield 90, 3) := by decide +kernel
theorem dX8_door_90 : decode cX8_door 90 = .ok (.iload_n 1, 1) := by decide +kernel
theorem dX8_door_91 : decode cX8_door 91 = .ok (.iastore, 1) := by decide +kernel
theorem dX8_door_92 : decode cX8_door 92 = .ok (.aload_n 0, 1) := by decide +kernel
theorem dX8_door_93 : decode cX8_door 93 = .ok (.getfield 13, 3) := by decide +kernel
theorem dX8_door_96 : decode cX8_door 96 = .ok (.aload_n 0, 1) := by decide +kernel
theorem dX8_door_97 : decode cX8_door 97 = .ok (.getfield 90, 3) := by decide +kernel
theorem dX8_door_100 : decode cX8_door 100 = .ok (.iload_n 2, 1) := by decide +kernel
theorem dX8_door_101 : decode cX8_door 101 = .ok (.bipush 100, 2) := by decide +kernel
theorem dX8_door_103 : decode cX8_door 103 = .ok (.idiv, 1) := by decide +kernel
theorem dX8_door_104 : decode cX8_door 104 = .ok (.iastore, 1) := by decide +kernel
theorem dX8_door_105 : decode cX8_door 105 = .ok (.aload_n 0, 1) := by decide +kernel
theorem dX8_door_106 : decode cX8_door 106 = .ok (.getfield 16, 3) := by decide +kernel
theorem dX8_door_109 : decode cX8_door 109 = .ok (.aload_n 0, 1) := by decide +kernel
theorem dX8_door_110 : decode cX8_door 110 = .ok (.getfield 90, 3) := by decide +kernel
theorem dX8_door_113 : decode cX8_door 113 = .ok (.iload_n 2, 1) := by decide +kernel
theorem dX8_door_114 : decode cX8_door 114 = .ok (.bipush 10, 2) := by decide +kernel
theorem dX8_door_116 : decode cX8_door 116 = .ok (.idiv, 1) := by decide +kernel
theorem dX8_door_117 : decode cX8_door 117 = .ok (.bipush 10, 2) := by decide +kernel
theorem dX8_door_119 : decode cX8_door 119 = .ok (.irem, 1) := by decide +kernel
theorem dX8_door_120 : decode cX8_door 120 = .ok (.iastore, 1) := by decide +kernel
theorem dX8_door_121 : decode cX8_door 121 = .ok (.aload_n 0, 1) := by decide +kernel
theorem dX8_door_122 : decode cX8_door 122 = .ok (.getfield 19, 3) := by decide +kernel
theorem dX8_door_125 : decode cX8_door 125 = .ok (.aload_n 0, 1) := by decide +kernel
theorem dX8_door_126 : decode cX8_door 126 = .ok (.getfield 90, 3) := by decide +kernel
theorem dX8_door_129 : decode cX8_door 129 = .ok (.iload_n 2, 1) := by decide +kernel
theorem dX8_door_130 : decode cX8_door 130 = .ok (.bipush 10, 2) := by decide +kernel
theorem dX8_door_132 : decode cX8_door 132 = .ok (.irem, 1) := by decide +kernel
theorem dX8_door_133 : decode cX8_door 133 = .ok (.iastore, 1) := by decide +kernel
theorem dX8_door_134 : decode cX8_door 134 = .ok (.aload_n 0, 1) := by decide +kernel
theorem dX8_door_135 : decode cX8_door 135 = .ok (.getfield 22, 3) := by decide +kernel
theorem dX8_door_138 : decode cX8_door 138 = .ok (.aload_n 0, 1) := by decide +kernel
theorem dX8_door_139 : decode cX8_door 139 = .ok (.getfield 90, 3) := by decide +kernel
theorem dX8_door_142 : decode cX8_door 142 = .ok (.iload_n 3, 1) := by decide +kernel
theorem dX8_door_143 : decode cX8_door 143 = .ok (.iastore, 1) := by decide +kernel
theorem dX8_door_144 : decode cX8_door 144 = .ok (.aload_n 0, 1) := by decide +kernel
theorem dX8_door_145 : decode cX8_door 145 = .ok (.getfield 25, 3) := by decide +kernel
theorem dX8_door_148 : decode cX8_door 148 = .ok (.aload_n 0, 1) := by decide +kernel
theorem dX8_door_149 : decode cX8_door 149 = .ok (.getfield 90, 3) := by decide +kernel
theorem dX8_door_152 : decode cX8_door 152 = .ok (.iconst 0, 1) := by decide +kernel
theorem dX8_door_153 : decode cX8_door 153 = .ok (.iastore, 1) := by decide +kernel
theorem dX8_door_154 : decode cX8_door 154 = .ok (.aload_n 0, 1) := by decide +kernel
theorem dX8_door_155 : decode cX8_door 155 = .ok (.dup, 1) := by decide +kernel
theorem dX8_door_156 : decode cX8_door 156 = .ok (.getfield 90, 3) := by decide +kernel
theorem dX8_door_159 : decode cX8_door 159 = .ok (.iconst 1, 1) := by decide +kernel
theorem dX8_door_160 : decode cX8_door 160 = .ok (.iadd, 1) := by decide +kernel
theorem dX8_door_161 : decode cX8_door 161 = .ok (.putfield 90, 3) := by decide +kernel
theorem dX8_door_164 : decode cX8_door 164 = .ok (.aload_n 0, 1) := by decide +kernel
theorem dX8_door_165 : decode cX8_door 165 = .ok (.getfield 90, 3) := by decide +kernel
theorem dX8_door_168 : decode cX8_door 168 = .ok (.iconst 1, 1) := by decide +kernel
theorem dX8_door_169 : decode cX8_door 169 = .ok (.isub, 1) := by decide +kernel
theorem dX8_door_170 : decode cX8_door 170 = .ok (.ireturn, 1) := by decide +kernel
theorem dX8_mayBeRooms_0 : decode cX8_mayBeRooms 0 = .ok (.iload_n 1, 1) := by decide +kernel
theorem dX8_mayBeRooms_1 : decode cX8_mayBeRooms 1 = .ok (.i2l, 1) := by decide +kernel
theorem dX8_mayBeRooms_2 : decode cX8_mayBeRooms 2 = .ok (.lconst 1, 1) := by decide +kernel
theorem dX8_mayBeRooms_3 : decode cX8_mayBeRooms 3 = .ok (.ldc2_w 107, 3) := by decide +kernel
theorem dX8_mayBeRooms_6 : decode cX8_mayBeRooms 6 = .ok (.invokestatic 93, 3) := by decide +kernel
theorem dX8_mayBeRooms_9 : decode cX8_mayBeRooms 9 = .ok (.ifCond .eq 11, 3) := by decide +kernel
theorem dX8_mayBeRooms_12 : decode cX8_mayBeRooms 12 = .ok (.aload_n 0, 1) := by decide +kernel
theorem dX8_mayBeRooms_13 : decode cX8_mayBeRooms 13 = .ok (.getfield 109, 3) := by decide +kernel
theorem dX8_mayBeRooms_16 : decode cX8_mayBeRooms 16 = .ok (.iload_n 1, 1) := by decide +kernel
theorem dX8_mayBeRooms_17 : decode cX8_mayBeRooms 17 = .ok (.if_icmp .lt 5, 3) := by decide +kernel
theorem dX8_mayBeRooms_20 : decode cX8_mayBeRooms 20 = .ok (.iconst 0, 1) := by decide +kernel
theorem dX8_mayBeRooms_21 : decode cX8_mayBeRooms 21 = .ok (.ireturn, 1) := by decide +kernel
theorem dX8_mayBeRooms_22 : decode cX8_mayBeRooms 22 = .ok (.iconst 0, 1) := by decide +kernel
theorem dX8_mayBeRooms_23 : decode cX8_mayBeRooms 23 = .ok (.istore_n 2, 1) := by decide +kernel
theorem dX8_mayBeRooms_24 : decode cX8_mayBeRooms 24 = .ok (.iload_n 2, 1) := by decide +kernel
theorem dX8_mayBeRooms_25 : decode cX8_mayBeRooms 25 = .ok (.aload_n 0, 1) := by decide +kernel
theorem dX8_mayBeRooms_26 : decode cX8_mayBeRooms 26 = .ok (.getfield 90, 3) := by decide +kernel
theorem dX8_mayBeRooms_29 : decode cX8_mayBeRooms 29 = .ok (.if_icmp .ge 31, 3) := by decide +kernel
theorem dX8_mayBeRooms_32 : decode cX8_mayBeRooms 32 = .ok (.aload_n 0, 1) := by decide +kernel
theorem dX8_mayBeRooms_33 : decode cX8_mayBeRooms 33 = .ok (.getfield 13, 3) := by decide +kernel
theorem dX8_mayBeRooms_36 : decode cX8_mayBeRooms 36 = .ok (.iload_n 2, 1) := by decide +kernel
theorem dX8_mayBeRooms_37 : decode cX8_mayBeRooms 37 = .ok (.iaload, 1) := by decide +kernel
theorem dX8_mayBeRooms_38 : decode cX8_mayBeRooms 38 = .ok (.iload_n 1, 1) := by decide +kernel
theorem dX8_mayBeRooms_39 : decode cX8_mayBeRooms 39 = .ok (.if_icmp .ge 13, 3) := by decide +kernel
theorem dX8_mayBeRooms_42 : decode cX8_mayBeRooms 42 = .ok (.aload_n 0, 1) := by decide +kernel
theorem dX8_mayBeRooms_43 : decode cX8_mayBeRooms 43 = .ok (.getfield 16, 3) := by decide +kernel
theorem dX8_mayBeRooms_46 : decode cX8_mayBeRooms 46 = .ok (.iload_n 2, 1) := by decide +kernel
theorem dX8_mayBeRooms_47 : decode cX8_mayBeRooms 47 = .ok (.iaload, 1) := by decide +kernel
theorem dX8_mayBeRooms_48 : decode cX8_mayBeRooms 48 = .ok (.iload_n 1, 1) := by decide +kernel
theorem dX8_mayBeRooms_49 : decode cX8_mayBeRooms 49 = .ok (.if_icmp .lt 5, 3) := by decide +kernel
theorem dX8_mayBeRooms_52 : decode cX8_mayBeRooms 52 = .ok (.iconst 0, 1) := by decide +kernel
theorem dX8_mayBeRooms_53 : decode cX8_mayBeRooms 53 = .ok (.ireturn, 1) := by decide +kernel
theorem dX8_mayBeRooms_54 : decode cX8_mayBeRooms 54 = .ok (.iinc 2 1, 3) := by decide +kernel
theorem dX8_mayBeRooms_57 : decode cX8_mayBeRooms 57 = .ok (.goto (-33), 3) := by decide +kernel
theorem dX8_mayBeRooms_60 : decode cX8_mayBeRooms 60 = .ok (.iconst 1, 1) := by decide +kernel
theorem dX8_mayBeRooms_61 : decode cX8_mayBeRooms 61 = .ok (.ireturn, 1) := by decide +kernel
theorem dX8_set_0 : decode cX8_set 0 = .ok (.bipush (-2), 2) := by decide +kernel
theorem dX8_set_2 : decode cX8_set 2 = .ok (.istore 4, 2) := by decide +kernel
theorem dX8_set_4 : decode cX8_set 4 = .ok (.iload_n 1, 1) := by decide +kernel
theorem dX8_set_5 : decode cX8_set 5 = .ok (.tableswitch 139 0 3 #[31, 69, 95, 117], 31) := by decide +kernel
theorem dX8_set_36 : decode cX8_set 36 = .ok (.aload_n 0, 1) := by decide +kernel
theorem dX8_set_37 : decode cX8_set 37 = .ok (.iload_n 2, 1) := by decide +kernel
theorem dX8_set_38 : decode cX8_set 38 = .ok (.invokevirtual 112, 3) := by decide +kernel
theorem dX8_set_41 : decode cX8_set 41 = .ok (.ifCond .eq 30, 3) := by decide +kernel
theorem dX8_set_44 : decode cX8_set 44 = .ok (.iload_n 3, 1) := by decide +kernel
theorem dX8_set_45 : decode cX8_set 45 = .ok (.i2l, 1) := by decide +kernel
theorem dX8_set_46 : decode cX8_set 46 = .ok (.lconst 0, 1) := by decide +kernel
theorem dX8_set_47 : decode cX8_set 47 = .ok (.ldc2_w 103, 3) := by decide +kernel
theorem dX8_set_50 : decode cX8_set 50 = .ok (.invokestatic 93, 3) := by decide +kernel
theorem dX8_set_53 : decode cX8_set 53 = .ok (.ifCond .eq 18, 3) := by decide +kernel
theorem dX8_set_56 : decode cX8_set 56 = .ok (.aload_n 0, 1) := by decide +kernel
theorem dX8_set_57 : decode cX8_set 57 = .ok (.getfield 25, 3) := by decide +kernel
theorem dX8_set_60 : decode cX8_set 60 = .ok (.iload_n 2, 1) := by decide +kernel
theorem dX8_set_61 : decode cX8_set 61 = .ok (.iaload, 1) := by decide +kernel
theorem dX8_set_62 : decode cX8_set 62 = .ok (.istore 4, 2) := by decide +kernel
theorem dX8_set_64 : decode cX8_set 64 = .ok (.aload_n 0, 1) := by decide +kernel
theorem dX8_set_65 : decode cX8_set 65 = .ok (.getfield 25, 3) := by decide +kernel
theorem dX8_set_68 : decode cX8_set 68 = .ok (.iload_n 2, 1) := by decide +kernel
theorem dX8_set_69 : decode cX8_set 69 = .ok (.iload_n 3, 1) := by decide +kernel
theorem dX8_set_70 : decode cX8_set 70 = .ok (.iastore, 1) := by decide +kernel
theorem dX8_set_71 : decode cX8_set 71 = .ok (.iload 4, 2) := by decide +kernel
theorem dX8_set_73 : decode cX8_set 73 = .ok (.ireturn, 1) := by decide +kernel
theorem dX8_set_74 : decode cX8_set 74 = .ok (.iload_n 3, 1) := by decide +kernel
theorem dX8_set_75 : decode cX8_set 75 = .ok (.i2l, 1) := by decide +kernel
theorem dX8_set_76 : decode cX8_set 76 = .ok (.lconst 0, 1) := by decide +kernel
theorem dX8_set_77 : decode cX8_set 77 = .ok (.ldc2_w 103, 3) := by decide +kernel
theorem dX8_set_80 : decode cX8_set 80 = .ok (.invokestatic 93, 3) := by decide +kernel
theorem dX8_set_83 : decode cX8_set 83 = .ok (.ifCond .eq 14, 3) := by decide +kernel
theorem dX8_set_86 : decode cX8_set 86 = .ok (.aload_n 0, 1) := by decide +kernel
theorem dX8_set_87 : decode cX8_set 87 = .ok (.getfield 115, 3) := by decide +kernel
theorem dX8_set_90 : decode cX8_set 90 = .ok (.istore 4, 2) := by decide +kernel
theorem dX8_set_92 : decode cX8_set 92 = .ok (.aload_n 0, 1) := by decide +kernel
theorem dX8_set_93 : decode cX8_set 93 = .ok (.iload_n 3, 1) := by decide +kernel
theorem dX8_set_94 : decode cX8_set 94 = .ok (.putfield 115, 3) := by decide +kernel
theorem dX8_set_97 : decode cX8_set 97 = .ok (.iload 4, 2) := by decide +kernel
theorem dX8_set_99 : decode cX8_set 99 = .ok (.ireturn, 1) := by decide +kernel
theorem dX8_set_100 : decode cX8_set 100 = .ok (.aload_n 0, 1) := by decide +kernel
theorem dX8_set_101 : decode cX8_set 101 = .ok (.iload_n 3, 1) := by decide +kernel
theorem dX8_set_102 : decode cX8_set 102 = .ok (.invokevirtual 99, 3) := by decide +kernel
theorem dX8_set_105 : decode cX8_set 105 = .ok (.ifCond .eq 14, 3) := by decide +kernel
theorem dX8_set_108 : decode cX8_set 108 = .ok (.aload_n 0, 1) := by decide +kernel
theorem dX8_set_109 : decode cX8_set 109 = .ok (.getfield 109, 3) := by decide +kernel
theorem dX8_set_112 : decode cX8_set 112 = .ok (.istore 4, 2) := by decide +kernel
theorem dX8_set_114 : decode cX8_set 114 = .ok (.aload_n 0, 1) := by decide +kernel
theorem dX8_set_115 : decode cX8_set 115 = .ok (.iload_n 3, 1) := by decide +kernel
theorem dX8_set_116 : decode cX8_set 116 = .ok (.putfield 109, 3) := by decide +kernel
theorem dX8_set_119 : decode cX8_set 119 = .ok (.iload 4, 2) := by decide +kernel
theorem dX8_set_121 : decode cX8_set 121 = .ok (.ireturn, 1) := by decide +kernel
theorem dX8_set_122 : decode cX8_set 122 = .ok (.aload_n 0, 1) := by decide +kernel
theorem dX8_set_123 : decode cX8_set 123 = .ok (.iload_n 3, 1) := by decide +kernel
theorem dX8_set_124 : decode cX8_set 124 = .ok (.invokevirtual 118, 3) := by decide +kernel
theorem dX8_set_127 : decode cX8_set 127 = .ok (.ifCond .eq 14, 3) := by decide +kernel
theorem dX8_set_130 : decode cX8_set 130 = .ok (.aload_n 0, 1) := by decide +kernel
theorem dX8_set_131 : decode cX8_set 131 = .ok (.getfield 87, 3) := by decide +kernel
theorem dX8_set_134 : decode cX8_set 134 = .ok (.istore 4, 2) := by decide +kernel
theorem dX8_set_136 : decode cX8_set 136 = .ok (.aload_n 0, 1) := by decide +kernel
theorem dX8_set_137 : decode cX8_set 137 = .ok (.iload_n 3, 1) := by decide +kernel
theorem dX8_set_138 : decode cX8_set 138 = .ok (.putfield 87, 3) := by decide +kernel
theorem dX8_set_141 : decode cX8_set 141 = .ok (.iload 4, 2) := by decide +kernel
theorem dX8_set_143 : decode cX8_set 143 = .ok (.ireturn, 1) := by decide +kernel
theorem dX8_set_144 : decode cX8_set 144 = .ok (.bipush (-2), 2) := by decide +kernel
theorem dX8_set_146 : decode cX8_set 146 = .ok (.ireturn, 1) := by decide +kernel
theorem dX8_asIs_0 : decode cX8_asIs 0 = .ok (.iconst 0, 1) := by decide +kernel
theorem dX8_asIs_1 : decode cX8_asIs 1 = .ok (.istore_n 1, 1) := by decide +kernel
theorem dX8_asIs_2 : decode cX8_asIs 2 = .ok (.iload_n 1, 1) := by decide +kernel
theorem dX8_asIs_3 : decode cX8_asIs 3 = .ok (.aload_n 0, 1) := by decide +kernel
theorem dX8_asIs_4 : decode cX8_asIs 4 = .ok (.getfield 90, 3) := by decide +kernel
theorem dX8_asIs_7 : decode cX8_asIs 7 = .ok (.if_icmp .ge 33, 3) := by decide +kernel
theorem dX8_asIs_10 : decode cX8_asIs 10 = .ok (.aload_n 0, 1) := by decide +kernel
theorem dX8_asIs_11 : decode cX8_asIs 11 = .ok (.getfield 28, 3) := by decide +kernel
theorem dX8_asIs_14 : decode cX8_asIs 14 = .ok (.iload_n 1, 1) := by decide +kernel
theorem dX8_asIs_15 : decode cX8_asIs 15 = .ok (.aload_n 0, 1) := by decide +kernel
theorem dX8_asIs_16 : decode cX8_asIs 16 = .ok (.getfield 25, 3) := by decide +kernel
theorem dX8_asIs_19 : decode cX8_asIs 19 = .ok (.iload_n 1, 1) := by decide +kernel
theorem dX8_asIs_20 : decode cX8_asIs 20 = .ok (.iaload, 1) := by decide +kernel
theorem dX8_asIs_21 : decode cX8_asIs 21 = .ok (.iastore, 1) := by decide +kernel
theorem dX8_asIs_22 : decode cX8_asIs 22 = .ok (.aload_n 0, 1) := by decide +kernel
theorem dX8_asIs_23 : decode cX8_asIs 23 = .ok (.getfield 31, 3) := by decide +kernel
theorem dX8_asIs_26 : decode cX8_asIs 26 = .ok (.iload_n 1, 1) := by decide +kernel
theorem dX8_asIs_27 : decode cX8_asIs 27 = .ok (.aload_n 0, 1) := by decide +kernel
theorem dX8_asIs_28 : decode cX8_asIs 28 = .ok (.getfield 9, 3) := by decide +kernel
theorem dX8_asIs_31 : decode cX8_asIs 31 = .ok (.iload_n 1, 1) := by decide +kernel
theorem dX8_asIs_32 : decode cX8_asIs 32 = .ok (.iaload, 1) := by decide +kernel
theorem dX8_asIs_33 : decode cX8_asIs 33 = .ok (.iastore, 1) := by decide +kernel
theorem dX8_asIs_34 : decode cX8_asIs 34 = .ok (.iinc 1 1, 3) := by decide +kernel
theorem dX8_asIs_37 : decode cX8_asIs 37 = .ok (.goto (-35), 3) := by decide +kernel
theorem dX8_asIs_40 : decode cX8_asIs 40 = .ok (.aload_n 0, 1) := by decide +kernel
theorem dX8_asIs_41 : decode cX8_asIs 41 = .ok (.aload_n 0, 1) := by decide +kernel
theorem dX8_asIs_42 : decode cX8_asIs 42 = .ok (.getfield 115, 3) := by decide +kernel
theorem dX8_asIs_45 : decode cX8_asIs 45 = .ok (.putfield 121, 3) := by decide +kernel
theorem dX8_asIs_48 : decode cX8_asIs 48 = .ok (.aload_n 0, 1) := by decide +kernel
theorem dX8_asIs_49 : decode cX8_asIs 49 = .ok (.aload_n 0, 1) := by decide +kernel
theorem dX8_asIs_50 : decode cX8_asIs 50 = .ok (.getfield 109, 3) := by decide +kernel
theorem dX8_asIs_53 : decode cX8_asIs 53 = .ok (.putfield 124, 3) := by decide +kernel
theorem dX8_asIs_56 : decode cX8_asIs 56 = .ok (.return_, 1) := by decide +kernel
theorem dX8_keyState_0 : decode cX8_keyState 0 = .ok (.aload_n 0, 1) := by decide +kernel
theorem dX8_keyState_1 : decode cX8_keyState 1 = .ok (.getfield 19, 3) := by decide +kernel
theorem dX8_keyState_4 : decode cX8_keyState 4 = .ok (.iload_n 1, 1) := by decide +kernel
theorem dX8_keyState_5 : decode cX8_keyState 5 = .ok (.iaload, 1) := by decide +kernel
theorem dX8_keyState_6 : decode cX8_keyState 6 = .ok (.aload_n 0, 1) := by decide +kernel
theorem dX8_keyState_7 : decode cX8_keyState 7 = .ok (.getfield 90, 3) := by decide +kernel
theorem dX8_keyState_10 : decode cX8_keyState 10 = .ok (.if_icmp .ge 17, 3) := by decide +kernel
theorem dX8_keyState_13 : decode cX8_keyState 13 = .ok (.aload_n 0, 1) := by decide +kernel
theorem dX8_keyState_14 : decode cX8_keyState 14 = .ok (.getfield 28, 3) := by decide +kernel
theorem dX8_keyState_17 : decode cX8_keyState 17 = .ok (.aload_n 0, 1) := by decide +kernel
theorem dX8_keyState_18 : decode cX8_keyState 18 = .ok (.getfield 19, 3) := by decide +kernel
theorem dX8_keyState_21 : decode cX8_keyState 21 = .ok (.iload_n 1, 1) := by decide +kernel
theorem dX8_keyState_22 : decode cX8_keyState 22 = .ok (.iaload, 1) := by decide +kernel
theorem dX8_keyState_23 : decode cX8_keyState 23 = .ok (.iaload, 1) := by decide +kernel
theorem dX8_keyState_24 : decode cX8_keyState 24 = .ok (.goto 4, 3) := by decide +kernel
theorem dX8_keyState_27 : decode cX8_keyState 27 = .ok (.iconst 0, 1) := by decide +kernel
theorem dX8_keyState_28 : decode cX8_keyState 28 = .ok (.ireturn, 1) := by decide +kernel
theorem dX8_opensByKind_0 : decode cX8_opensByKind 0 = .ok (.aload_n 0, 1) := by decide +kernel
theorem dX8_opensByKind_1 : decode cX8_opensByKind 1 = .ok (.getfield 121, 3) := by decide +kernel
theorem dX8_opensByKind_4 : decode cX8_opensByKind 4 = .ok (.aload_n 0, 1) := by decide +kernel
theorem dX8_opensByKind_5 : decode cX8_opensByKind 5 = .ok (.getfield 22, 3) := by decide +kernel
theorem dX8_opensByKind_8 : decode cX8_opensByKind 8 = .ok (.iload_n 1, 1) := by decide +kernel
theorem dX8_opensByKind_9 : decode cX8_opensByKind 9 = .ok (.iaload, 1) := by decide +kernel
theorem dX8_opensByKind_10 : decode cX8_opensByKind 10 = .ok (.iconst 4, 1) := by decide +kernel
theorem dX8_opensByKind_11 : decode cX8_opensByKind 11 = .ok (.irem, 1) := by decide +kernel
theorem dX8_opensByKind_12 : decode cX8_opensByKind 12 = .ok (.if_icmp .ne 7, 3) := by decide +kernel
theorem dX8_opensByKind_15 : decode cX8_opensByKind 15 = .ok (.iconst 1, 1) := by decide +kernel
theorem dX8_opensByKind_16 : decode cX8_opensByKind 16 = .ok (.goto 4, 3) := by decide +kernel
theorem dX8_opensByKind_19 : decode cX8_opensByKind 19 = .ok (.iconst 0, 1) := by decide +kernel
theorem dX8_opensByKind_20 : decode cX8_opensByKind 20 = .ok (.istore_n 2, 1) := by decide +kernel
theorem dX8_opensByKind_21 : decode cX8_opensByKind 21 = .ok (.aload_n 0, 1) := by decide +kernel
theorem dX8_opensByKind_22 : decode cX8_opensByKind 22 = .ok (.getfield 31, 3) := by decide +kernel
theorem dX8_opensByKind_25 : decode cX8_opensByKind 25 = .ok (.iload_n 1, 1) := by decide +kernel
theorem dX8_opensByKind_26 : decode cX8_opensByKind 26 = .ok (.iaload, 1) := by decide +kernel
theorem dX8_opensByKind_27 : decode cX8_opensByKind 27 = .ok (.tableswitch 98 1 5 #[33, 47, 49, 64, 78], 33) := by decide +kernel
theorem dX8_opensByKind_60 : decode cX8_opensByKind 60 = .ok (.aload_n 0, 1) := by decide +kernel
theorem dX8_opensByKind_61 : decode cX8_opensByKind 61 = .ok (.iload_n 1, 1) := by decide +kernel
theorem dX8_opensByKind_62 : decode cX8_opensByKind 62 = .ok (.invokevirtual 127, 3) := by decide +kernel
theorem dX8_opensByKind_65 : decode cX8_opensByKind 65 = .ok (.ifCond .le 7, 3) := by decide +kernel
theorem dX8_opensByKind_68 : decode cX8_opensByKind 68 = .ok (.iconst 1, 1) := by decide +kernel
theorem dX8_opensByKind_69 : decode cX8_opensByKind 69 = .ok (.goto 4, 3) := by decide +kernel
theorem dX8_opensByKind_72 : decode cX8_opensByKind 72 = .ok (.iconst 0, 1) := by decide +kernel
theorem dX8_opensByKind_73 : decode cX8_opensByKind 73 = .ok (.ireturn, 1) := by decide +kernel
theorem dX8_opensByKind_74 : decode cX8_opensByKind 74 = .ok (.iload_n 2, 1) := by decide +kernel
theorem dX8_opensByKind_75 : decode cX8_opensByKind 75 = .ok (.ireturn, 1) := by decide +kernel
theorem dX8_opensByKind_76 : decode cX8_opensByKind 76 = .ok (.aload_n 0, 1) := by decide +kernel
theorem dX8_opensByKind_77 : decode cX8_opensByKind 77 = .ok (.getfield 28, 3) := by decide +kernel
theorem dX8_opensByKind_80 : decode cX8_opensByKind 80 = .ok (.iload_n 1, 1) := by decide +kernel
theorem dX8_opensByKind_81 : decode cX8_opensByKind 81 = .ok (.iaload, 1) := by decide +kernel
theorem dX8_opensByKind_82 : decode cX8_opensByKind 82 = .ok (.ifCond .ne 7, 3) := by decide +kernel
theorem dX8_opensByKind_85 : decode cX8_opensByKind 85 = .ok (.iconst 1, 1) := by decide +kernel
theorem dX8_opensByKind_86 : decode cX8_opensByKind 86 = .ok (.goto 4, 3) := by decide +kernel
theorem dX8_opensByKind_89 : decode cX8_opensByKind 89 = .ok (.iconst 0, 1) := by decide +kernel
theorem dX8_opensByKind_90 : decode cX8_opensByKind 90 = .ok (.ireturn, 1) := by decide +kernel
theorem dX8_opensByKind_91 : decode cX8_opensByKind 91 = .ok (.aload_n 0, 1) := by decide +kernel
theorem dX8_opensByKind_92 : decode cX8_opensByKind 92 = .ok (.iload_n 1, 1) := by decide +kernel
theorem dX8_opensByKind_93 : decode cX8_opensByKind 93 = .ok (.invokevirtual 127, 3) := by decide +kernel
theorem dX8_opensByKind_96 : decode cX8_opensByKind 96 = .ok (.ifCond .ne 7, 3) := by decide +kernel
theorem dX8_opensByKind_99 : decode cX8_opensByKind 99 = .ok (.iconst 1, 1) := by decide +kernel
theorem dX8_opensByKind_100 : decode cX8_opensByKind 100 = .ok (.goto 4, 3) := by decide +kernel
theorem dX8_opensByKind_103 : decode cX8_opensByKind 103 = .ok (.iconst 0, 1) := by decide +kernel
theorem dX8_opensByKind_104 : decode cX8_opensByKind 104 = .ok (.ireturn, 1) := by decide +kernel
theorem dX8_opensByKind_105 : decode cX8_opensByKind 105 = .ok (.iload_n 2, 1) := by decide +kernel
theorem dX8_opensByKind_106 : decode cX8_opensByKind 106 = .ok (.ifCond .eq 17, 3) := by decide +kernel
theorem dX8_opensByKind_109 : decode cX8_opensByKind 109 = .ok (.aload_n 0, 1) := by decide +kernel
theorem dX8_opensByKind_110 : decode cX8_opensByKind 110 = .ok (.getfield 28, 3) := by decide +kernel
theorem dX8_opensByKind_113 : decode cX8_opensByKind 113 = .ok (.iload_n 1, 1) := by decide +kernel
theorem dX8_opensByKind_114 : decode cX8_opensByKind 114 = .ok (.iaload, 1) := by decide +kernel
theorem dX8_opensByKind_115 : decode cX8_opensByKind 115 = .ok (.iconst 2, 1) := by decide +kernel
theorem dX8_opensByKind_116 : decode cX8_opensByKind 116 = .ok (.if_icmp .ge 7, 3) := by decide +kernel
theorem dX8_opensByKind_119 : decode cX8_opensByKind 119 = .ok (.iconst 1, 1) := by decide +kernel
theorem dX8_opensByKind_120 : decode cX8_opensByKind 120 = .ok (.goto 4, 3) := by decide +kernel
theorem dX8_opensByKind_123 : decode cX8_opensByKind 123 = .ok (.iconst 0, 1) := by decide +kernel
theorem dX8_opensByKind_124 : decode cX8_opensByKind 124 = .ok (.ireturn, 1) := by decide +kernel
theorem dX8_opensByKind_125 : decode cX8_opensByKind 125 = .ok (.iconst 1, 1) := by decide +kernel
theorem dX8_opensByKind_126 : decode cX8_opensByKind 126 = .ok (.ireturn, 1) := by decide +kernel
theorem dX8_nextState_0 : decode cX8_nextState 0 = .ok (.aload_n 0, 1) := by decide +kernel
theorem dX8_nextState_1 : decode cX8_nextState 1 = .ok (.getfield 28, 3) := by decide +kernel
theorem dX8_nextState_4 : decode cX8_nextState 4 = .ok (.iload_n 1, 1) := by decide +kernel
theorem dX8_nextState_5 : decode cX8_nextState 5 = .ok (.iaload, 1) := by decide +kernel
theorem dX8_nextState_6 : decode cX8_nextState 6 = .ok (.iconst 3, 1) := by decide +kernel
theorem dX8_nextState_7 : decode cX8_nextState 7 = .ok (.if_icmp .ne 7, 3) := by decide +kernel
theorem dX8_nextState_10 : decode cX8_nextState 10 = .ok (.iconst 3, 1) := by decide +kernel
theorem dX8_nextState_11 : decode cX8_nextState 11 = .ok (.goto 11, 3) := by decide +kernel
theorem dX8_nextState_14 : decode cX8_nextState 14 = .ok (.aload_n 0, 1) := by decide +kernel
theorem dX8_nextState_15 : decode cX8_nextState 15 = .ok (.getfield 28, 3) := by decide +kernel
theorem dX8_nextState_18 : decode cX8_nextState 18 = .ok (.iload_n 1, 1) := by decide +kernel
theorem dX8_nextState_19 : decode cX8_nextState 19 = .ok (.iaload, 1) := by decide +kernel
theorem dX8_nextState_20 : decode cX8_nextState 20 = .ok (.iconst 1, 1) := by decide +kernel
theorem dX8_nextState_21 : decode cX8_nextState 21 = .ok (.iadd, 1) := by decide +kernel
theorem dX8_nextState_22 : decode cX8_nextState 22 = .ok (.istore_n 2, 1) := by decide +kernel
theorem dX8_nextState_23 : decode cX8_nextState 23 = .ok (.aload_n 0, 1) := by decide +kernel
theorem dX8_nextState_24 : decode cX8_nextState 24 = .ok (.getfield 28, 3) := by decide +kernel
theorem dX8_nextState_27 : decode cX8_nextState 27 = .ok (.iload_n 1, 1) := by decide +kernel
theorem dX8_nextState_28 : decode cX8_nextState 28 = .ok (.iaload, 1) := by decide +kernel
theorem dX8_nextState_29 : decode cX8_nextState 29 = .ok (.iconst 3, 1) := by decide +kernel
theorem dX8_nextState_30 : decode cX8_nextState 30 = .ok (.if_icmp .ne 7, 3) := by decide +kernel
theorem dX8_nextState_33 : decode cX8_nextState 33 = .ok (.iconst 0, 1) := by decide +kernel
theorem dX8_nextState_34 : decode cX8_nextState 34 = .ok (.goto 11, 3) := by decide +kernel
theorem dX8_nextState_37 : decode cX8_nextState 37 = .ok (.aload_n 0, 1) := by decide +kernel
theorem dX8_nextState_38 : decode cX8_nextState 38 = .ok (.getfield 28, 3) := by decide +kernel
theorem dX8_nextState_41 : decode cX8_nextState 41 = .ok (.iload_n 1, 1) := by decide +kernel
theorem dX8_nextState_42 : decode cX8_nextState 42 = .ok (.iaload, 1) := by decide +kernel
theorem dX8_nextState_43 : decode cX8_nextState 43 = .ok (.iconst 1, 1) := by decide +kernel
theorem dX8_nextState_44 : decode cX8_nextState 44 = .ok (.iadd, 1) := by decide +kernel
theorem dX8_nextState_45 : decode cX8_nextState 45 = .ok (.istore_n 3, 1) := by decide +kernel
theorem dX8_nextState_46 : decode cX8_nextState 46 = .ok (.aload_n 0, 1) := by decide +kernel
theorem dX8_nextState_47 : decode cX8_nextState 47 = .ok (.getfield 31, 3) := by decide +kernel
theorem dX8_nextState_50 : decode cX8_nextState 50 = .ok (.iload_n 1, 1) := by decide +kernel
theorem dX8_nextState_51 : decode cX8_nextState 51 = .ok (.iaload, 1) := by decide +kernel
theorem dX8_nextState_52 : decode cX8_nextState 52 = .ok (.tableswitch 58 2 5 #[32, 34, 36, 47], 32) := by decide +kernel
theorem dX8_nextState_84 : decode cX8_nextState 84 = .ok (.iload_n 3, 1) := by decide +kernel
theorem dX8_nextState_85 : decode cX8_nextState 85 = .ok (.ireturn, 1) := by decide +kernel
theorem dX8_nextState_86 : decode cX8_nextState 86 = .ok (.iconst 3, 1) := by decide +kernel
theorem dX8_nextState_87 : decode cX8_nextState 87 = .ok (.ireturn, 1) := by decide +kernel
theorem dX8_nextState_88 : decode cX8_nextState 88 = .ok (.iload_n 2, 1) := by decide +kernel
theorem dX8_nextState_89 : decode cX8_nextState 89 = .ok (.iconst 3, 1) := by decide +kernel
theorem dX8_nextState_90 : decode cX8_nextState 90 = .ok (.if_icmp .ne 7, 3) := by decide +kernel
theorem dX8_nextState_93 : decode cX8_nextState 93 = .ok (.iconst 0, 1) := by decide +kernel
theorem dX8_nextState_94 : decode cX8_nextState 94 = .ok (.goto 4, 3) := by decide +kernel
theorem dX8_nextState_97 : decode cX8_nextState 97 = .ok (.iload_n 2, 1) := by decide +kernel
theorem dX8_nextState_98 : decode cX8_nextState 98 = .ok (.ireturn, 1) := by decide +kernel
theorem dX8_nextState_99 : decode cX8_nextState 99 = .ok (.iload_n 3, 1) := by decide +kernel
theorem dX8_nextState_100 : decode cX8_nextState 100 = .ok (.iconst 2, 1) := by decide +kernel
theorem dX8_nextState_101 : decode cX8_nextState 101 = .ok (.if_icmp .le 7, 3) := by decide +kernel
theorem dX8_nextState_104 : decode cX8_nextState 104 = .ok (.iconst 2, 1) := by decide +kernel
theorem dX8_nextState_105 : decode cX8_nextState 105 = .ok (.goto 4, 3) := by decide +kernel
theorem dX8_nextState_108 : decode cX8_nextState 108 = .ok (.iload_n 3, 1) := by decide +kernel
theorem dX8_nextState_109 : decode cX8_nextState 109 = .ok (.ireturn, 1) := by decide +kernel
theorem dX8_nextState_110 : decode cX8_nextState 110 = .ok (.iload_n 2, 1) := by decide +kernel
theorem dX8_nextState_111 : decode cX8_nextState 111 = .ok (.ireturn, 1) := by decide +kernel
theorem dX8_isOpen_0 : decode cX8_isOpen 0 = .ok (.aload_n 0, 1) := by decide +kernel
theorem dX8_isOpen_1 : decode cX8_isOpen 1 = .ok (.iload_n 1, 1) := by decide +kernel
theorem dX8_isOpen_2 : decode cX8_isOpen 2 = .ok (.invokevirtual 131, 3) := by decide +kernel
theorem dX8_isOpen_5 : decode cX8_isOpen 5 = .ok (.ifCond .eq 17, 3) := by decide +kernel
theorem dX8_isOpen_8 : decode cX8_isOpen 8 = .ok (.aload_n 0, 1) := by decide +kernel
theorem dX8_isOpen_9 : decode cX8_isOpen 9 = .ok (.iconst 0, 1) := by decide +kernel
theorem dX8_isOpen_10 : decode cX8_isOpen 10 = .ok (.iload_n 1, 1) := by decide +kernel
theorem dX8_isOpen_11 : decode cX8_isOpen 11 = .ok (.iload_n 2, 1) := by decide +kernel
theorem dX8_isOpen_12 : decode cX8_isOpen 12 = .ok (.invokevirtual 134, 3) := by decide +kernel
theorem dX8_isOpen_15 : decode cX8_isOpen 15 = .ok (.ifCond .ne 7, 3) := by decide +kernel
theorem dX8_isOpen_18 : decode cX8_isOpen 18 = .ok (.iconst 1, 1) := by decide +kernel
theorem dX8_isOpen_19 : decode cX8_isOpen 19 = .ok (.goto 4, 3) := by decide +kernel
theorem dX8_isOpen_22 : decode cX8_isOpen 22 = .ok (.iconst 0, 1) := by decide +kernel
theorem dX8_isOpen_23 : decode cX8_isOpen 23 = .ok (.ireturn, 1) := by decide +kernel
theorem dX8_isHere_0 : decode cX8_isHere 0 = .ok (.aload_n 0, 1) := by decide +kernel
theorem dX8_isHere_1 : decode cX8_isHere 1 = .ok (.getfield 13, 3) := by decide +kernel
theorem dX8_isHere_4 : decode cX8_isHere 4 = .ok (.iload_n 1, 1) := by decide +kernel
theorem dX8_isHere_5 : decode cX8_isHere 5 = .ok (.iaload, 1) := by decide +kernel
theorem dX8_isHere_6 : decode cX8_isHere 6 = .ok (.aload_n 0, 1) := by decide +kernel
theorem dX8_isHere_7 : decode cX8_isHere 7 = .ok (.getfield 124, 3) := by decide +kernel
theorem dX8_isHere_10 : decode cX8_isHere 10 = .ok (.if_icmp .eq 16, 3) := by decide +kernel
theorem dX8_isHere_13 : decode cX8_isHere 13 = .ok (.aload_n 0, 1) := by decide +kernel
theorem dX8_isHere_14 : decode cX8_isHere 14 = .ok (.getfield 16, 3) := by decide +kernel
theorem dX8_isHere_17 : decode cX8_isHere 17 = .ok (.iload_n 1, 1) := by decide +kernel
theorem dX8_isHere_18 : decode cX8_isHere 18 = .ok (.iaload, 1) := by decide +kernel
theorem dX8_isHere_19 : decode cX8_isHere 19 = .ok (.aload_n 0, 1) := by decide +kernel
theorem dX8_isHere_20 : decode cX8_isHere 20 = .ok (.getfield 124, 3) := by decide +kernel
theorem dX8_isHere_23 : decode cX8_isHere 23 = .ok (.if_icmp .ne 7, 3) := by decide +kernel
theorem dX8_isHere_26 : decode cX8_isHere 26 = .ok (.iconst 1, 1) := by decide +kernel
theorem dX8_isHere_27 : decode cX8_isHere 27 = .ok (.goto 4, 3) := by decide +kernel
theorem dX8_isHere_30 : decode cX8_isHere 30 = .ok (.iconst 0, 1) := by decide +kernel
theorem dX8_isHere_31 : decode cX8_isHere 31 = .ok (.ireturn, 1) := by decide +kernel
theorem dX8_beyond_0 : decode cX8_beyond 0 = .ok (.aload_n 0, 1) := by decide +kernel
theorem dX8_beyond_1 : decode cX8_beyond 1 = .ok (.getfield 13, 3) := by decide +kernel
theorem dX8_beyond_4 : decode cX8_beyond 4 = .ok (.iload_n 1, 1) := by decide +kernel
theorem dX8_beyond_5 : decode cX8_beyond 5 = .ok (.iaload, 1) := by decide +kernel
theorem dX8_beyond_6 : decode cX8_beyond 6 = .ok (.iload_n 2, 1) := by decide +kernel
theorem dX8_beyond_7 : decode cX8_beyond 7 = .ok (.if_icmp .ne 12, 3) := by decide +kernel
theorem dX8_beyond_10 : decode cX8_beyond 10 = .ok (.aload_n 0, 1) := by decide +kernel
theorem dX8_beyond_11 : decode cX8_beyond 11 = .ok (.getfield 16, 3) := by decide +kernel
theorem dX8_beyond_14 : decode cX8_beyond 14 = .ok (.iload_n 1, 1) := by decide +kernel
theorem dX8_beyond_15 : decode cX8_beyond 15 = .ok (.iaload, 1) := by decide +kernel
theorem dX8_beyond_16 : decode cX8_beyond 16 = .ok (.goto 9, 3) := by decide +kernel
theorem dX8_beyond_19 : decode cX8_beyond 19 = .ok (.aload_n 0, 1) := by decide +kernel
theorem dX8_beyond_20 : decode cX8_beyond 20 = .ok (.getfield 13, 3) := by decide +kernel
theorem dX8_beyond_23 : decode cX8_beyond 23 = .ok (.iload_n 1, 1) := by decide +kernel
theorem dX8_beyond_24 : decode cX8_beyond 24 = .ok (.iaload, 1) := by decide +kernel
theorem dX8_beyond_25 : decode cX8_beyond 25 = .ok (.ireturn, 1) := by decide +kernel
theorem dX8_canGo_0 : decode cX8_canGo 0 = .ok (.aload_n 0, 1) := by decide +kernel
theorem dX8_canGo_1 : decode cX8_canGo 1 = .ok (.iload_n 1, 1) := by decide +kernel
theorem dX8_canGo_2 : decode cX8_canGo 2 = .ok (.invokevirtual 112, 3) := by decide +kernel
theorem dX8_canGo_5 : decode cX8_canGo 5 = .ok (.ifCond .eq 27, 3) := by decide +kernel
theorem dX8_canGo_8 : decode cX8_canGo 8 = .ok (.aload_n 0, 1) := by decide +kernel
theorem dX8_canGo_9 : decode cX8_canGo 9 = .ok (.iload_n 1, 1) := by decide +kernel
theorem dX8_canGo_10 : decode cX8_canGo 10 = .ok (.invokevirtual 138, 3) := by decide +kernel
theorem dX8_canGo_13 : decode cX8_canGo 13 = .ok (.ifCond .eq 19, 3) := by decide +kernel
theorem dX8_canGo_16 : decode cX8_canGo 16 = .ok (.aload_n 0, 1) := by decide +kernel
theorem dX8_canGo_17 : decode cX8_canGo 17 = .ok (.iload_n 1, 1) := by decide +kernel
theorem dX8_canGo_18 : decode cX8_canGo 18 = .ok (.aload_n 0, 1) := by decide +kernel
theorem dX8_canGo_19 : decode cX8_canGo 19 = .ok (.getfield 124, 3) := by decide +kernel
theorem dX8_canGo_22 : decode cX8_canGo 22 = .ok (.invokevirtual 141, 3) := by decide +kernel
theorem dX8_canGo_25 : decode cX8_canGo 25 = .ok (.ifCond .eq 7, 3) := by decide +kernel
theorem dX8_canGo_28 : decode cX8_canGo 28 = .ok (.iconst 1, 1) := by decide +kernel
theorem dX8_canGo_29 : decode cX8_canGo 29 = .ok (.goto 4, 3) := by decide +kernel
theorem dX8_canGo_32 : decode cX8_canGo 32 = .ok (.iconst 0, 1) := by decide +kernel
theorem dX8_canGo_33 : decode cX8_canGo 33 = .ok (.ireturn, 1) := by decide +kernel
theorem dX8_goes_0 : decode cX8_goes 0 = .ok (.aload_n 0, 1) := by decide +kernel
theorem dX8_goes_1 : decode cX8_goes 1 = .ok (.iload_n 1, 1) := by decide +kernel
theorem dX8_goes_2 : decode cX8_goes 2 = .ok (.aload_n 0, 1) := by decide +kernel
theorem dX8_goes_3 : decode cX8_goes 3 = .ok (.getfield 124, 3) := by decide +kernel
theorem dX8_goes_6 : decode cX8_goes 6 = .ok (.invokevirtual 145, 3) := by decide +kernel
theorem dX8_goes_9 : decode cX8_goes 9 = .ok (.istore_n 2, 1) := by decide +kernel
theorem dX8_goes_10 : decode cX8_goes 10 = .ok (.aload_n 0, 1) := by decide +kernel
theorem dX8_goes_11 : decode cX8_goes 11 = .ok (.getfield 28, 3) := by decide +kernel
theorem dX8_goes_14 : decode cX8_goes 14 = .ok (.iload_n 1, 1) := by decide +kernel
theorem dX8_goes_15 : decode cX8_goes 15 = .ok (.aload_n 0, 1) := by decide +kernel
theorem dX8_goes_16 : decode cX8_goes 16 = .ok (.iload_n 1, 1) := by decide +kernel
theorem dX8_goes_17 : decode cX8_goes 17 = .ok (.invokevirtual 149, 3) := by decide +kernel
theorem dX8_goes_20 : decode cX8_goes 20 = .ok (.iastore, 1) := by decide +kernel
theorem dX8_goes_21 : decode cX8_goes 21 = .ok (.aload_n 0, 1) := by decide +kernel
theorem dX8_goes_22 : decode cX8_goes 22 = .ok (.aload_n 0, 1) := by decide +kernel
theorem dX8_goes_23 : decode cX8_goes 23 = .ok (.getfield 121, 3) := by decide +kernel
theorem dX8_goes_26 : decode cX8_goes 26 = .ok (.iconst 3, 1) := by decide +kernel
theorem dX8_goes_27 : decode cX8_goes 27 = .ok (.if_icmp .ne 7, 3) := by decide +kernel
theorem dX8_goes_30 : decode cX8_goes 30 = .ok (.iconst 0, 1) := by decide +kernel
theorem dX8_goes_31 : decode cX8_goes 31 = .ok (.goto 9, 3) := by decide +kernel
theorem dX8_goes_34 : decode cX8_goes 34 = .ok (.aload_n 0, 1) := by decide +kernel
theorem dX8_goes_35 : decode cX8_goes 35 = .ok (.getfield 121, 3) := by decide +kernel
theorem dX8_goes_38 : decode cX8_goes 38 = .ok (.iconst 1, 1) := by decide +kernel
theorem dX8_goes_39 : decode cX8_goes 39 = .ok (.iadd, 1) := by decide +kernel
theorem dX8_goes_40 : decode cX8_goes 40 = .ok (.putfield 121, 3) := by decide +kernel
theorem dX8_goes_43 : decode cX8_goes 43 = .ok (.aload_n 0, 1) := by decide +kernel
theorem dX8_goes_44 : decode cX8_goes 44 = .ok (.iload_n 2, 1) := by decide +kernel
theorem dX8_goes_45 : decode cX8_goes 45 = .ok (.putfield 124, 3) := by decide +kernel
theorem dX8_goes_48 : decode cX8_goes 48 = .ok (.return_, 1) := by decide +kernel
theorem dX8_told_0 : decode cX8_told 0 = .ok (.aload_n 0, 1) := by decide +kernel
theorem dX8_told_1 : decode cX8_told 1 = .ok (.iload_n 1, 1) := by decide +kernel
theorem dX8_told_2 : decode cX8_told 2 = .ok (.invokevirtual 112, 3) := by decide +kernel
theorem dX8_told_5 : decode cX8_told 5 = .ok (.ifCond .ne 6, 3) := by decide +kernel
theorem dX8_told_8 : decode cX8_told 8 = .ok (.bipush (-2), 2) := by decide +kernel
theorem dX8_told_10 : decode cX8_told 10 = .ok (.ireturn, 1) := by decide +kernel
theorem dX8_told_11 : decode cX8_told 11 = .ok (.aload_n 0, 1) := by decide +kernel
theorem dX8_told_12 : decode cX8_told 12 = .ok (.invokevirtual 152, 3) := by decide +kernel
theorem dX8_told_15 : decode cX8_told 15 = .ok (.iload_n 2, 1) := by decide +kernel
theorem dX8_told_16 : decode cX8_told 16 = .ok (.tableswitch 116 0 7 #[48, 55, 62, 69, 76, 83, 103, 109], 48) := by decide +kernel
theorem dX8_told_64 : decode cX8_told 64 = .ok (.aload_n 0, 1) := by decide +kernel
theorem dX8_told_65 : decode cX8_told 65 = .ok (.getfield 9, 3) := by decide +kernel
theorem dX8_told_68 : decode cX8_told 68 = .ok (.iload_n 1, 1) := by decide +kernel
theorem dX8_told_69 : decode cX8_told 69 = .ok (.iaload, 1) := by decide +kernel
theorem dX8_told_70 : decode cX8_told 70 = .ok (.ireturn, 1) := by decide +kernel
theorem dX8_told_71 : decode cX8_told 71 = .ok (.aload_n 0, 1) := by decide +kernel
theorem dX8_told_72 : decode cX8_told 72 = .ok (.getfield 13, 3) := by decide +kernel
theorem dX8_told_75 : decode cX8_told 75 = .ok (.iload_n 1, 1) := by decide +kernel
theorem dX8_told_76 : decode cX8_told 76 = .ok (.iaload, 1) := by decide +kernel
theorem dX8_told_77 : decode cX8_told 77 = .ok (.ireturn, 1) := by decide +kernel
theorem dX8_told_78 : decode cX8_told 78 = .ok (.aload_n 0, 1) := by decide +kernel
theorem dX8_told_79 : decode cX8_told 79 = .ok (.getfield 16, 3) := by decide +kernel
theorem dX8_told_82 : decode cX8_told 82 = .ok (.iload_n 1, 1) := by decide +kernel
theorem dX8_told_83 : decode cX8_told 83 = .ok (.iaload, 1) := by decide +kernel
theorem dX8_told_84 : decode cX8_told 84 = .ok (.ireturn, 1) := by decide +kernel
theorem dX8_told_85 : decode cX8_told 85 = .ok (.aload_n 0, 1) := by decide +kernel
theorem dX8_told_86 : decode cX8_told 86 = .ok (.getfield 19, 3) := by decide +kernel
theorem dX8_told_89 : decode cX8_told 89 = .ok (.iload_n 1, 1) := by decide +kernel
theorem dX8_told_90 : decode cX8_told 90 = .ok (.iaload, 1) := by decide +kernel
theorem dX8_told_91 : decode cX8_told 91 = .ok (.ireturn, 1) := by decide +kernel
theorem dX8_told_92 : decode cX8_told 92 = .ok (.aload_n 0, 1) := by decide +kernel
theorem dX8_told_93 : decode cX8_told 93 = .ok (.getfield 25, 3) := by decide +kernel
theorem dX8_told_96 : decode cX8_told 96 = .ok (.iload_n 1, 1) := by decide +kernel
theorem dX8_told_97 : decode cX8_told 97 = .ok (.iaload, 1) := by decide +kernel
theorem dX8_told_98 : decode cX8_told 98 = .ok (.ireturn, 1) := by decide +kernel
theorem dX8_told_99 : decode cX8_told 99 = .ok (.aload_n 0, 1) := by decide +kernel
theorem dX8_told_100 : decode cX8_told 100 = .ok (.iload_n 1, 1) := by decide +kernel
theorem dX8_told_101 : decode cX8_told 101 = .ok (.aload_n 0, 1) := by decide +kernel
theorem dX8_told_102 : decode cX8_told 102 = .ok (.getfield 13, 3) := by decide +kernel
theorem dX8_told_105 : decode cX8_told 105 = .ok (.iload_n 1, 1) := by decide +kernel
theorem dX8_told_106 : decode cX8_told 106 = .ok (.iaload, 1) := by decide +kernel
theorem dX8_told_107 : decode cX8_told 107 = .ok (.invokevirtual 141, 3) := by decide +kernel
theorem dX8_told_110 : decode cX8_told 110 = .ok (.ifCond .eq 7, 3) := by decide +kernel
theorem dX8_told_113 : decode cX8_told 113 = .ok (.iconst 1, 1) := by decide +kernel
theorem dX8_told_114 : decode cX8_told 114 = .ok (.goto 4, 3) := by decide +kernel
theorem dX8_told_117 : decode cX8_told 117 = .ok (.iconst 0, 1) := by decide +kernel
theorem dX8_told_118 : decode cX8_told 118 = .ok (.ireturn, 1) := by decide +kernel
theorem dX8_told_119 : decode cX8_told 119 = .ok (.aload_n 0, 1) := by decide +kernel
theorem dX8_told_120 : decode cX8_told 120 = .ok (.iload_n 1, 1) := by decide +kernel
theorem dX8_told_121 : decode cX8_told 121 = .ok (.invokevirtual 149, 3) := by decide +kernel
theorem dX8_told_124 : decode cX8_told 124 = .ok (.ireturn, 1) := by decide +kernel
theorem dX8_told_125 : decode cX8_told 125 = .ok (.aload_n 0, 1) := by decide +kernel
theorem dX8_told_126 : decode cX8_told 126 = .ok (.getfield 22, 3) := by decide +kernel
theorem dX8_told_129 : decode cX8_told 129 = .ok (.iload_n 1, 1) := by decide +kernel
theorem dX8_told_130 : decode cX8_told 130 = .ok (.iaload, 1) := by decide +kernel
theorem dX8_told_131 : decode cX8_told 131 = .ok (.ireturn, 1) := by decide +kernel
theorem dX8_told_132 : decode cX8_told 132 = .ok (.bipush (-2), 2) := by decide +kernel
theorem dX8_told_134 : decode cX8_told 134 = .ok (.ireturn, 1) := by decide +kernel
theorem dX8_open_0 : decode cX8_open 0 = .ok (.aload_n 0, 1) := by decide +kernel
theorem dX8_open_1 : decode cX8_open 1 = .ok (.invokevirtual 152, 3) := by decide +kernel
theorem dX8_open_4 : decode cX8_open 4 = .ok (.iconst 0, 1) := by decide +kernel
theorem dX8_open_5 : decode cX8_open 5 = .ok (.istore_n 1, 1) := by decide +kernel
theorem dX8_open_6 : decode cX8_open 6 = .ok (.iconst 0, 1) := by decide +kernel
theorem dX8_open_7 : decode cX8_open 7 = .ok (.istore_n 2, 1) := by decide +kernel
theorem dX8_open_8 : decode cX8_open 8 = .ok (.iload_n 2, 1) := by decide +kernel
theorem dX8_open_9 : decode cX8_open 9 = .ok (.aload_n 0, 1) := by decide +kernel
theorem dX8_open_10 : decode cX8_open 10 = .ok (.getfield 90, 3) := by decide +kernel
theorem dX8_open_13 : decode cX8_open 13 = .ok (.if_icmp .ge 27, 3) := by decide +kernel
theorem dX8_open_16 : decode cX8_open 16 = .ok (.iload_n 1, 1) := by decide +kernel
theorem dX8_open_17 : decode cX8_open 17 = .ok (.aload_n 0, 1) := by decide +kernel
theorem dX8_open_18 : decode cX8_open 18 = .ok (.iload_n 2, 1) := by decide +kernel
theorem dX8_open_19 : decode cX8_open 19 = .ok (.invokevirtual 155, 3) := by decide +kernel
theorem dX8_open_22 : decode cX8_open 22 = .ok (.ifCond .eq 9, 3) := by decide +kernel
theorem dX8_open_25 : decode cX8_open 25 = .ok (.iconst 1, 1) := by decide +kernel
theorem dX8_open_26 : decode cX8_open 26 = .ok (.iload_n 2, 1) := by decide +kernel
theorem dX8_open_27 : decode cX8_open 27 = .ok (.ishl, 1) := by decide +kernel
theorem dX8_open_28 : decode cX8_open 28 = .ok (.goto 4, 3) := by decide +kernel
theorem dX8_open_31 : decode cX8_open 31 = .ok (.iconst 0, 1) := by decide +kernel
theorem dX8_open_32 : decode cX8_open 32 = .ok (.ior, 1) := by decide +kernel
theorem dX8_open_33 : decode cX8_open 33 = .ok (.istore_n 1, 1) := by decide +kernel
theorem dX8_open_34 : decode cX8_open 34 = .ok (.iinc 2 1, 3) := by decide +kernel
theorem dX8_open_37 : decode cX8_open 37 = .ok (.goto (-29), 3) := by decide +kernel
theorem dX8_open_40 : decode cX8_open 40 = .ok (.iload_n 1, 1) := by decide +kernel
theorem dX8_open_41 : decode cX8_open 41 = .ok (.ireturn, 1) := by decide +kernel
theorem dX8_feed_0 : decode cX8_feed 0 = .ok (.iload_n 1, 1) := by decide +kernel
theorem dX8_feed_1 : decode cX8_feed 1 = .ok (.i2l, 1) := by decide +kernel
theorem dX8_feed_2 : decode cX8_feed 2 = .ok (.lconst 1, 1) := by decide +kernel
theorem dX8_feed_3 : decode cX8_feed 3 = .ok (.ldc2_w 158, 3) := by decide +kernel
theorem dX8_feed_6 : decode cX8_feed 6 = .ok (.invokestatic 93, 3) := by decide +kernel
theorem dX8_feed_9 : decode cX8_feed 9 = .ok (.ifCond .ne 6, 3) := by decide +kernel
theorem dX8_feed_12 : decode cX8_feed 12 = .ok (.bipush (-2), 2) := by decide +kernel
theorem dX8_feed_14 : decode cX8_feed 14 = .ok (.ireturn, 1) := by decide +kernel
theorem dX8_feed_15 : decode cX8_feed 15 = .ok (.aload_n 0, 1) := by decide +kernel
theorem dX8_feed_16 : decode cX8_feed 16 = .ok (.getfield 160, 3) := by decide +kernel
theorem dX8_feed_19 : decode cX8_feed 19 = .ok (.iload_n 1, 1) := by decide +kernel
theorem dX8_feed_20 : decode cX8_feed 20 = .ok (.iadd, 1) := by decide +kernel
theorem dX8_feed_21 : decode cX8_feed 21 = .ok (.sipush 160, 3) := by decide +kernel
theorem dX8_feed_24 : decode cX8_feed 24 = .ok (.if_icmp .le 6, 3) := by decide +kernel
theorem dX8_feed_27 : decode cX8_feed 27 = .ok (.bipush (-4), 2) := by decide +kernel
theorem dX8_feed_29 : decode cX8_feed 29 = .ok (.ireturn, 1) := by decide +kernel
theorem dX8_feed_30 : decode cX8_feed 30 = .ok (.iconst 0, 1) := by decide +kernel
theorem dX8_feed_31 : decode cX8_feed 31 = .ok (.istore 4, 2) := by decide +kernel
theorem dX8_feed_33 : decode cX8_feed 33 = .ok (.iload 4, 2) := by decide +kernel
theorem dX8_feed_35 : decode cX8_feed 35 = .ok (.iload_n 1, 1) := by decide +kernel
theorem dX8_feed_36 : decode cX8_feed 36 = .ok (.if_icmp .ge 40, 3) := by decide +kernel
theorem dX8_feed_39 : decode cX8_feed 39 = .ok (.aload_n 0, 1) := by decide +kernel
theorem dX8_feed_40 : decode cX8_feed 40 = .ok (.getfield 34, 3) := by decide +kernel
theorem dX8_feed_43 : decode cX8_feed 43 = .ok (.aload_n 0, 1) := by decide +kernel
theorem dX8_feed_44 : decode cX8_feed 44 = .ok (.getfield 160, 3) := by decide +kernel
theorem dX8_feed_47 : decode cX8_feed 47 = .ok (.lload_n 2, 1) := by decide +kernel
theorem dX8_feed_48 : decode cX8_feed 48 = .ok (.bipush 8, 2) := by decide +kernel
theorem dX8_feed_50 : decode cX8_feed 50 = .ok (.iload 4, 2) := by decide +kernel
theorem dX8_feed_52 : decode cX8_feed 52 = .ok (.imul, 1) := by decide +kernel
theorem dX8_feed_53 : decode cX8_feed 53 = .ok (.lshr, 1) := by decide +kernel
theorem dX8_feed_54 : decode cX8_feed 54 = .ok (.ldc2_w 163, 3) := by decide +kernel
theorem dX8_feed_57 : decode cX8_feed 57 = .ok (.land, 1) := by decide +kernel
theorem dX8_feed_58 : decode cX8_feed 58 = .ok (.l2i, 1) := by decide +kernel
theorem dX8_feed_59 : decode cX8_feed 59 = .ok (.iastore, 1) := by decide +kernel
theorem dX8_feed_60 : decode cX8_feed 60 = .ok (.aload_n 0, 1) := by decide +kernel
theorem dX8_feed_61 : decode cX8_feed 61 = .ok (.dup, 1) := by decide +kernel
theorem dX8_feed_62 : decode cX8_feed 62 = .ok (.getfield 160, 3) := by decide +kernel
theorem dX8_feed_65 : decode cX8_feed 65 = .ok (.iconst 1, 1) := by decide +kernel
theorem dX8_feed_66 : decode cX8_feed 66 = .ok (.iadd, 1) := by decide +kernel
theorem dX8_feed_67 : decode cX8_feed 67 = .ok (.putfield 160, 3) := by decide +kernel
theorem dX8_feed_70 : decode cX8_feed 70 = .ok (.iinc 4 1, 3) := by decide +kernel
theorem dX8_feed_73 : decode cX8_feed 73 = .ok (.goto (-40), 3) := by decide +kernel
theorem dX8_feed_76 : decode cX8_feed 76 = .ok (.aload_n 0, 1) := by decide +kernel
theorem dX8_feed_77 : decode cX8_feed 77 = .ok (.getfield 160, 3) := by decide +kernel
theorem dX8_feed_80 : decode cX8_feed 80 = .ok (.ireturn, 1) := by decide +kernel
theorem dX8_byteAt_0 : decode cX8_byteAt 0 = .ok (.iload_n 1, 1) := by decide +kernel
theorem dX8_byteAt_1 : decode cX8_byteAt 1 = .ok (.aload_n 0, 1) := by decide +kernel
theorem dX8_byteAt_2 : decode cX8_byteAt 2 = .ok (.getfield 160, 3) := by decide +kernel
theorem dX8_byteAt_5 : decode cX8_byteAt 5 = .ok (.if_icmp .ge 12, 3) := by decide +kernel
theorem dX8_byteAt_8 : decode cX8_byteAt 8 = .ok (.aload_n 0, 1) := by decide +kernel
theorem dX8_byteAt_9 : decode cX8_byteAt 9 = .ok (.getfield 34, 3) := by decide +kernel
theorem dX8_byteAt_12 : decode cX8_byteAt 12 = .ok (.iload_n 1, 1) := by decide +kernel
theorem dX8_byteAt_13 : decode cX8_byteAt 13 = .ok (.iaload, 1) := by decide +kernel
theorem dX8_byteAt_14 : decode cX8_byteAt 14 = .ok (.goto 4, 3) := by decide +kernel
theorem dX8_byteAt_17 : decode cX8_byteAt 17 = .ok (.iconst (-1), 1) := by decide +kernel
theorem dX8_byteAt_18 : decode cX8_byteAt 18 = .ok (.ireturn, 1) := by decide +kernel
theorem dX8_wordOf_0 : decode cX8_wordOf 0 = .ok (.iconst 0, 1) := by decide +kernel
theorem dX8_wordOf_1 : decode cX8_wordOf 1 = .ok (.istore_n 1, 1) := by decide +kernel
theorem dX8_wordOf_2 : decode cX8_wordOf 2 = .ok (.iconst 0, 1) := by decide +kernel
theorem dX8_wordOf_3 : decode cX8_wordOf 3 = .ok (.istore_n 2, 1) := by decide +kernel
theorem dX8_wordOf_4 : decode cX8_wordOf 4 = .ok (.iload_n 1, 1) := by decide +kernel
theorem dX8_wordOf_5 : decode cX8_wordOf 5 = .ok (.aload_n 0, 1) := by decide +kernel
theorem dX8_wordOf_6 : decode cX8_wordOf 6 = .ok (.getfield 46, 3) := by decide +kernel
theorem dX8_wordOf_9 : decode cX8_wordOf 9 = .ok (.arraylength, 1) := by decide +kernel
theorem dX8_wordOf_10 : decode cX8_wordOf 10 = .ok (.if_icmp .ge 106, 3) := by decide +kernel
theorem dX8_wordOf_13 : decode cX8_wordOf 13 = .ok (.iconst 0, 1) := by decide +kernel
theorem dX8_wordOf_14 : decode cX8_wordOf 14 = .ok (.istore_n 3, 1) := by decide +kernel
theorem dX8_wordOf_15 : decode cX8_wordOf 15 = .ok (.iconst 1, 1) := by decide +kernel
theorem dX8_wordOf_16 : decode cX8_wordOf 16 = .ok (.istore 4, 2) := by decide +kernel
theorem dX8_wordOf_18 : decode cX8_wordOf 18 = .ok (.aload_n 0, 1) := by decide +kernel
theorem dX8_wordOf_19 : decode cX8_wordOf 19 = .ok (.getfield 46, 3) := by decide +kernel
theorem dX8_wordOf_22 : decode cX8_wordOf 22 = .ok (.iload_n 1, 1) := by decide +kernel
theorem dX8_wordOf_23 : decode cX8_wordOf 23 = .ok (.iload_n 3, 1) := by decide +kernel
theorem dX8_wordOf_24 : decode cX8_wordOf 24 = .ok (.iadd, 1) := by decide +kernel
theorem dX8_wordOf_25 : decode cX8_wordOf 25 = .ok (.caload, 1) := by decide +kernel
theorem dX8_wordOf_26 : decode cX8_wordOf 26 = .ok (.bipush 32, 2) := by decide +kernel
theorem dX8_wordOf_28 : decode cX8_wordOf 28 = .ok (.if_icmp .eq 56, 3) := by decide +kernel
theorem dX8_wordOf_31 : decode cX8_wordOf 31 = .ok (.iload 4, 2) := by decide +kernel
theorem dX8_wordOf_33 : decode cX8_wordOf 33 = .ok (.ifCond .eq 42, 3) := by decide +kernel
theorem dX8_wordOf_36 : decode cX8_wordOf 36 = .ok (.aload_n 0, 1) := by decide +kernel
theorem dX8_wordOf_37 : decode cX8_wordOf 37 = .ok (.getfield 165, 3) := by decide +kernel
theorem dX8_wordOf_40 : decode cX8_wordOf 40 = .ok (.iload_n 3, 1) := by decide +kernel
theorem dX8_wordOf_41 : decode cX8_wordOf 41 = .ok (.iadd, 1) := by decide +kernel
theorem dX8_wordOf_42 : decode cX8_wordOf 42 = .ok (.aload_n 0, 1) := by decide +kernel
theorem dX8_wordOf_43 : decode cX8_wordOf 43 = .ok (.getfield 168, 3) := by decide +kernel
theorem dX8_wordOf_46 : decode cX8_wordOf 46 = .ok (.if_icmp .ge 29, 3) := by decide +kernel
theorem dX8_wordOf_49 : decode cX8_wordOf 49 = .ok (.aload_n 0, 1) := by decide +kernel
theorem dX8_wordOf_50 : decode cX8_wordOf 50 = .ok (.getfield 34, 3) := by decide +kernel
theorem dX8_wordOf_53 : decode cX8_wordOf 53 = .ok (.aload_n 0, 1) := by decide +kernel
theorem dX8_wordOf_54 : decode cX8_wordOf 54 = .ok (.getfield 165, 3) := by decide +kernel
theorem dX8_wordOf_57 : decode cX8_wordOf 57 = .ok (.iload_n 3, 1) := by decide +kernel
theorem dX8_wordOf_58 : decode cX8_wordOf 58 = .ok (.iadd, 1) := by decide +kernel
theorem dX8_wordOf_59 : decode cX8_wordOf 59 = .ok (.iaload, 1) := by decide +kernel
theorem dX8_wordOf_60 : decode cX8_wordOf 60 = .ok (.aload_n 0, 1) := by decide +kernel
theorem dX8_wordOf_61 : decode cX8_wordOf 61 = .ok (.getfield 46, 3) := by decide +kernel
theorem dX8_wordOf_64 : decode cX8_wordOf 64 = .ok (.iload_n 1, 1) := by decide +kernel
theorem dX8_wordOf_65 : decode cX8_wordOf 65 = .ok (.iload_n 3, 1) := by decide +kernel
theorem dX8_wordOf_66 : decode cX8_wordOf 66 = .ok (.iadd, 1) := by decide +kernel
theorem dX8_wordOf_67 : decode cX8_wordOf 67 = .ok (.caload, 1) := by decide +kernel
theorem dX8_wordOf_68 : decode cX8_wordOf 68 = .ok (.if_icmp .ne 7, 3) := by decide +kernel
theorem dX8_wordOf_71 : decode cX8_wordOf 71 = .ok (.iconst 1, 1) := by decide +kernel
theorem dX8_wordOf_72 : decode cX8_wordOf 72 = .ok (.goto 4, 3) := by decide +kernel
theorem dX8_wordOf_75 : decode cX8_wordOf 75 = .ok (.iconst 0, 1) := by decide +kernel
theorem dX8_wordOf_76 : decode cX8_wordOf 76 = .ok (.istore 4, 2) := by decide +kernel
theorem dX8_wordOf_78 : decode cX8_wordOf 78 = .ok (.iinc 3 1, 3) := by decide +kernel
theorem dX8_wordOf_81 : decode cX8_wordOf 81 = .ok (.goto (-63), 3) := by decide +kernel
theorem dX8_wordOf_84 : decode cX8_wordOf 84 = .ok (.iload 4, 2) := by decide +kernel
theorem dX8_wordOf_86 : decode cX8_wordOf 86 = .ok (.ifCond .eq 18, 3) := by decide +kernel
theorem dX8_wordOf_89 : decode cX8_wordOf 89 = .ok (.iload_n 3, 1) := by decide +kernel
theorem dX8_wordOf_90 : decode cX8_wordOf 90 = .ok (.aload_n 0, 1) := by decide +kernel
theorem dX8_wordOf_91 : decode cX8_wordOf 91 = .ok (.getfield 168, 3) := by decide +kernel
theorem dX8_wordOf_94 : decode cX8_wordOf 94 = .ok (.aload_n 0, 1) := by decide +kernel
theorem dX8_wordOf_95 : decode cX8_wordOf 95 = .ok (.getfield 165, 3) := by decide +kernel
theorem dX8_wordOf_98 : decode cX8_wordOf 98 = .ok (.isub, 1) := by decide +kernel
theorem dX8_wordOf_99 : decode cX8_wordOf 99 = .ok (.if_icmp .ne 5, 3) := by decide +kernel
theorem dX8_wordOf_102 : decode cX8_wordOf 102 = .ok (.iload_n 2, 1) := by decide +kernel
theorem dX8_wordOf_103 : decode cX8_wordOf 103 = .ok (.ireturn, 1) := by decide +kernel
theorem dX8_wordOf_104 : decode cX8_wordOf 104 = .ok (.iload_n 1, 1) := by decide +kernel
theorem dX8_wordOf_105 : decode cX8_wordOf 105 = .ok (.iload_n 3, 1) := by decide +kernel
theorem dX8_wordOf_106 : decode cX8_wordOf 106 = .ok (.iconst 1, 1) := by decide +kernel
theorem dX8_wordOf_107 : decode cX8_wordOf 107 = .ok (.iadd, 1) := by decide +kernel
theorem dX8_wordOf_108 : decode cX8_wordOf 108 = .ok (.iadd, 1) := by decide +kernel
theorem dX8_wordOf_109 : decode cX8_wordOf 109 = .ok (.istore_n 1, 1) := by decide +kernel
theorem dX8_wordOf_110 : decode cX8_wordOf 110 = .ok (.iinc 2 1, 3) := by decide +kernel
theorem dX8_wordOf_113 : decode cX8_wordOf 113 = .ok (.goto (-109), 3) := by decide +kernel
theorem dX8_wordOf_116 : decode cX8_wordOf 116 = .ok (.iconst (-1), 1) := by decide +kernel
theorem dX8_wordOf_117 : decode cX8_wordOf 117 = .ok (.ireturn, 1) := by decide +kernel
theorem dX8_isLetter_0 : decode cX8_isLetter 0 = .ok (.iload_n 0, 1) := by decide +kernel
theorem dX8_isLetter_1 : decode cX8_isLetter 1 = .ok (.i2l, 1) := by decide +kernel
theorem dX8_isLetter_2 : decode cX8_isLetter 2 = .ok (.ldc2_w 171, 3) := by decide +kernel
theorem dX8_isLetter_5 : decode cX8_isLetter 5 = .ok (.ldc2_w 173, 3) := by decide +kernel
theorem dX8_isLetter_8 : decode cX8_isLetter 8 = .ok (.invokestatic 93, 3) := by decide +kernel
theorem dX8_isLetter_11 : decode cX8_isLetter 11 = .ok (.ireturn, 1) := by decide +kernel
theorem dX8_isDigit_0 : decode cX8_isDigit 0 = .ok (.iload_n 0, 1) := by decide +kernel
theorem dX8_isDigit_1 : decode cX8_isDigit 1 = .ok (.i2l, 1) := by decide +kernel
theorem dX8_isDigit_2 : decode cX8_isDigit 2 = .ok (.ldc2_w 175, 3) := by decide +kernel
theorem dX8_isDigit_5 : decode cX8_isDigit 5 = .ok (.ldc2_w 177, 3) := by decide +kernel
theorem dX8_isDigit_8 : decode cX8_isDigit 8 = .ok (.invokestatic 93, 3) := by decide +kernel
theorem dX8_isDigit_11 : decode cX8_isDigit 11 = .ok (.ireturn, 1) := by decide +kernel
theorem dX8_isSignByte_0 : decode cX8_isSignByte 0 = .ok (.iload_n 0, 1) := by decide +kernel
theorem dX8_isSignByte_1 : decode cX8_isSignByte 1 = .ok (.bipush 40, 2) := by decide +kernel
theorem dX8_isSignByte_3 : decode cX8_isSignByte 3 = .ok (.if_icmp .eq 45, 3) := by decide +kernel
theorem dX8_isSignByte_6 : decode cX8_isSignByte 6 = .ok (.iload_n 0, 1) := by decide +kernel
theorem dX8_isSignByte_7 : decode cX8_isSignByte 7 = .ok (.bipush 41, 2) := by decide +kernel
theorem dX8_isSignByte_9 : decode cX8_isSignByte 9 = .ok (.if_icmp .eq 39, 3) := by decide +kernel
theorem dX8_isSignByte_12 : decode cX8_isSignByte 12 = .ok (.iload_n 0, 1) := by decide +kernel
theorem dX8_isSignByte_13 : decode cX8_isSignByte 13 = .ok (.bipush 59, 2) := by decide +kernel
theorem dX8_isSignByte_15 : decode cX8_isSignByte 15 = .ok (.if_icmp .eq 33, 3) := by decide +kernel
theorem dX8_isSignByte_18 : decode cX8_isSignByte 18 = .ok (.iload_n 0, 1) := by decide +kernel
theorem dX8_isSignByte_19 : decode cX8_isSignByte 19 = .ok (.bipush 43, 2) := by decide +kernel
theorem dX8_isSignByte_21 : decode cX8_isSignByte 21 = .ok (.if_icmp .eq 27, 3) := by decide +kernel
theorem dX8_isSignByte_24 : decode cX8_isSignByte 24 = .ok (.iload_n 0, 1) := by decide +kernel
theorem dX8_isSignByte_25 : decode cX8_isSignByte 25 = .ok (.bipush 45, 2) := by decide +kernel
theorem dX8_isSignByte_27 : decode cX8_isSignByte 27 = .ok (.if_icmp .eq 21, 3) := by decide +kernel
theorem dX8_isSignByte_30 : decode cX8_isSignByte 30 = .ok (.iload_n 0, 1) := by decide +kernel
theorem dX8_isSignByte_31 : decode cX8_isSignByte 31 = .ok (.bipush 42, 2) := by decide +kernel
theorem dX8_isSignByte_33 : decode cX8_isSignByte 33 = .ok (.if_icmp .eq 15, 3) := by decide +kernel
theorem dX8_isSignByte_36 : decode cX8_isSignByte 36 = .ok (.iload_n 0, 1) := by decide +kernel
theorem dX8_isSignByte_37 : decode cX8_isSignByte 37 = .ok (.bipush 60, 2) := by decide +kernel
theorem dX8_isSignByte_39 : decode cX8_isSignByte 39 = .ok (.if_icmp .eq 9, 3) := by decide +kernel
theorem dX8_isSignByte_42 : decode cX8_isSignByte 42 = .ok (.iload_n 0, 1) := by decide +kernel
theorem dX8_isSignByte_43 : decode cX8_isSignByte 43 = .ok (.bipush 61, 2) := by decide +kernel
theorem dX8_isSignByte_45 : decode cX8_isSignByte 45 = .ok (.if_icmp .ne 7, 3) := by decide +kernel
theorem dX8_isSignByte_48 : decode cX8_isSignByte 48 = .ok (.iconst 1, 1) := by decide +kernel
theorem dX8_isSignByte_49 : decode cX8_isSignByte 49 = .ok (.goto 4, 3) := by decide +kernel
theorem dX8_isSignByte_52 : decode cX8_isSignByte 52 = .ok (.iconst 0, 1) := by decide +kernel
theorem dX8_isSignByte_53 : decode cX8_isSignByte 53 = .ok (.ireturn, 1) := by decide +kernel
theorem dX8_next_0 : decode cX8_next 0 = .ok (.aload_n 0, 1) := by decide +kernel
theorem dX8_next_1 : decode cX8_next 1 = .ok (.aload_n 0, 1) := by decide +kernel
theorem dX8_next_2 : decode cX8_next 2 = .ok (.getfield 168, 3) := by decide +kernel
theorem dX8_next_5 : decode cX8_next 5 = .ok (.invokevirtual 179, 3) := by decide +kernel
theorem dX8_next_8 : decode cX8_next 8 = .ok (.bipush 32, 2) := by decide +kernel
theorem dX8_next_10 : decode cX8_next 10 = .ok (.if_icmp .eq 16, 3) := by decide +kernel
theorem dX8_next_13 : decode cX8_next 13 = .ok (.aload_n 0, 1) := by decide +kernel
theorem dX8_next_14 : decode cX8_next 14 = .ok (.aload_n 0, 1) := by decide +kernel
theorem dX8_next_15 : decode cX8_next 15 = .ok (.getfield 168, 3) := by decide +kernel
theorem dX8_next_18 : decode cX8_next 18 = .ok (.invokevirtual 179, 3) := by decide +kernel
theorem dX8_next_21 : decode cX8_next 21 = .ok (.bipush 10, 2) := by decide +kernel
theorem dX8_next_23 : decode cX8_next 23 = .ok (.if_icmp .ne 16, 3) := by decide +kernel
theorem dX8_next_26 : decode cX8_next 26 = .ok (.aload_n 0, 1) := by decide +kernel
theorem dX8_next_27 : decode cX8_next 27 = .ok (.dup, 1) := by decide +kernel
theorem dX8_next_28 : decode cX8_next 28 = .ok (.getfield 168, 3) := by decide +kernel
theorem dX8_next_31 : decode cX8_next 31 = .ok (.iconst 1, 1) := by decide +kernel
theorem dX8_next_32 : decode cX8_next 32 = .ok (.iadd, 1) := by decide +kernel
theorem dX8_next_33 : decode cX8_next 33 = .ok (.putfield 168, 3) := by decide +kernel
theorem dX8_next_36 : decode cX8_next 36 = .ok (.goto (-36), 3) := by decide +kernel
theorem dX8_next_39 : decode cX8_next 39 = .ok (.aload_n 0, 1) := by decide +kernel
theorem dX8_next_40 : decode cX8_next 40 = .ok (.aload_n 0, 1) := by decide +kernel
theorem dX8_next_41 : decode cX8_next 41 = .ok (.getfield 168, 3) := by decide +kernel
theorem dX8_next_44 : decode cX8_next 44 = .ok (.putfield 165, 3) := by decide +kernel
theorem dX8_next_47 : decode cX8_next 47 = .ok (.aload_n 0, 1) := by decide +kernel
theorem dX8_next_48 : decode cX8_next 48 = .ok (.aload_n 0, 1) := by decide +kernel
theorem dX8_next_49 : decode cX8_next 49 = .ok (.getfield 168, 3) := by decide +kernel
theorem dX8_next_52 : decode cX8_next 52 = .ok (.invokevirtual 179, 3) := by decide +kernel
theorem dX8_next_55 : decode cX8_next 55 = .ok (.istore_n 1, 1) := by decide +kernel
theorem dX8_next_56 : decode cX8_next 56 = .ok (.iload_n 1, 1) := by decide +kernel
theorem dX8_next_57 : decode cX8_next 57 = .ok (.ifCond .ge 9, 3) := by decide +kernel
theorem dX8_next_60 : decode cX8_next 60 = .ok (.aload_n 0, 1) := by decide +kernel
theorem dX8_next_61 : decode cX8_next 61 = .ok (.iconst 0, 1) := by decide +kernel
theorem dX8_next_62 : decode cX8_next 62 = .ok (.putfield 182, 3) := by decide +kernel
theorem dX8_next_65 : decode cX8_next 65 = .ok (.return_, 1) := by decide +kernel
theorem dX8_next_66 : decode cX8_next 66 = .ok (.iload_n 1, 1) := by decide +kernel
theorem dX8_next_67 : decode cX8_next 67 = .ok (.invokestatic 185, 3) := by decide +kernel
theorem dX8_next_70 : decode cX8_next 70 = .ok (.ifCond .eq 77, 3) := by decide +kernel
theorem dX8_next_73 : decode cX8_next 73 = .ok (.aload_n 0, 1) := by decide +kernel
theorem dX8_next_74 : decode cX8_next 74 = .ok (.aload_n 0, 1) := by decide +kernel
theorem dX8_next_75 : decode cX8_next 75 = .ok (.getfield 168, 3) := by decide +kernel
theorem dX8_next_78 : decode cX8_next 78 = .ok (.invokevirtual 179, 3) := by decide +kernel
theorem dX8_next_81 : decode cX8_next 81 = .ok (.invokestatic 185, 3) := by decide +kernel
theorem dX8_next_84 : decode cX8_next 84 = .ok (.ifCond .eq 16, 3) := by decide +kernel
theorem dX8_next_87 : decode cX8_next 87 = .ok (.aload_n 0, 1) := by decide +kernel
theorem dX8_next_88 : decode cX8_next 88 = .ok (.dup, 1) := by decide +kernel
theorem dX8_next_89 : decode cX8_next 89 = .ok (.getfield 168, 3) := by decide +kernel
theorem dX8_next_92 : decode cX8_next 92 = .ok (.iconst 1, 1) := by decide +kernel
theorem dX8_next_93 : decode cX8_next 93 = .ok (.iadd, 1) := by decide +kernel
theorem dX8_next_94 : decode cX8_next 94 = .ok (.putfield 168, 3) := by decide +kernel
theorem dX8_next_97 : decode cX8_next 97 = .ok (.goto (-24), 3) := by decide +kernel
theorem dX8_next_100 : decode cX8_next 100 = .ok (.aload_n 0, 1) := by decide +kernel
theorem dX8_next_101 : decode cX8_next 101 = .ok (.invokevirtual 188, 3) := by decide +kernel
theorem dX8_next_104 : decode cX8_next 104 = .ok (.istore_n 2, 1) := by decide +kernel
theorem dX8_next_105 : decode cX8_next 105 = .ok (.aload_n 0, 1) := by decide +kernel
theorem dX8_next_106 : decode cX8_next 106 = .ok (.iload_n 2, 1) := by decide +kernel
theorem dX8_next_107 : decode cX8_next 107 = .ok (.ifCond .ge 7, 3) := by decide +kernel
theorem dX8_next_110 : decode cX8_next 110 = .ok (.iconst 5, 1) := by decide +kernel
theorem dX8_next_111 : decode cX8_next 111 = .ok (.goto 14, 3) := by decide +kernel
theorem dX8_next_114 : decode cX8_next 114 = .ok (.iload_n 2, 1) := by decide +kernel
theorem dX8_next_115 : decode cX8_next 115 = .ok (.bipush 6, 2) := by decide +kernel
theorem dX8_next_117 : decode cX8_next 117 = .ok (.if_icmp .ge 7, 3) := by decide +kernel
theorem dX8_next_120 : decode cX8_next 120 = .ok (.iconst 2, 1) := by decide +kernel
theorem dX8_next_121 : decode cX8_next 121 = .ok (.goto 4, 3) := by decide +kernel
theorem dX8_next_124 : decode cX8_next 124 = .ok (.iconst 3, 1) := by decide +kernel
theorem dX8_next_125 : decode cX8_next 125 = .ok (.putfield 182, 3) := by decide +kernel
theorem dX8_next_128 : decode cX8_next 128 = .ok (.aload_n 0, 1) := by decide +kernel
theorem dX8_next_129 : decode cX8_next 129 = .ok (.iload_n 2, 1) := by decide +kernel
theorem dX8_next_130 : decode cX8_next 130 = .ok (.bipush 6, 2) := by decide +kernel
theorem dX8_next_132 : decode cX8_next 132 = .ok (.if_icmp .ge 7, 3) := by decide +kernel
theorem dX8_next_135 : decode cX8_next 135 = .ok (.iload_n 2, 1) := by decide +kernel
theorem dX8_next_136 : decode cX8_next 136 = .ok (.goto 7, 3) := by decide +kernel
theorem dX8_next_139 : decode cX8_next 139 = .ok (.iload_n 2, 1) := by decide +kernel
theorem dX8_next_140 : decode cX8_next 140 = .ok (.bipush 6, 2) := by decide +kernel
theorem dX8_next_142 : decode cX8_next 142 = .ok (.isub, 1) := by decide +kernel
theorem dX8_next_143 : decode cX8_next 143 = .ok (.putfield 192, 3) := by decide +kernel
theorem dX8_next_146 : decode cX8_next 146 = .ok (.return_, 1) := by decide +kernel
theorem dX8_next_147 : decode cX8_next 147 = .ok (.iload_n 1, 1) := by decide +kernel
theorem dX8_next_148 : decode cX8_next 148 = .ok (.invokestatic 195, 3) := by decide +kernel
theorem dX8_next_151 : decode cX8_next 151 = .ok (.ifCond .eq 101, 3) := by decide +kernel
theorem dX8_next_154 : decode cX8_next 154 = .ok (.aload_n 0, 1) := by decide +kernel
theorem dX8_next_155 : decode cX8_next 155 = .ok (.iconst 0, 1) := by decide +kernel
theorem dX8_next_156 : decode cX8_next 156 = .ok (.putfield 192, 3) := by decide +kernel
theorem dX8_next_159 : decode cX8_next 159 = .ok (.aload_n 0, 1) := by decide +kernel
theorem dX8_next_160 : decode cX8_next 160 = .ok (.aload_n 0, 1) := by decide +kernel
theorem dX8_next_161 : decode cX8_next 161 = .ok (.getfield 168, 3) := by decide +kernel
theorem dX8_next_164 : decode cX8_next 164 = .ok (.invokevirtual 179, 3) := by decide +kernel
theorem dX8_next_167 : decode cX8_next 167 = .ok (.invokestatic 195, 3) := by decide +kernel
theorem dX8_next_170 : decode cX8_next 170 = .ok (.ifCond .eq 59, 3) := by decide +kernel
theorem dX8_next_173 : decode cX8_next 173 = .ok (.aload_n 0, 1) := by decide +kernel
theorem dX8_next_174 : decode cX8_next 174 = .ok (.aload_n 0, 1) := by decide +kernel
theorem dX8_next_175 : decode cX8_next 175 = .ok (.getfield 168, 3) := by decide +kernel
theorem dX8_next_178 : decode cX8_next 178 = .ok (.aload_n 0, 1) := by decide +kernel
theorem dX8_next_179 : decode cX8_next 179 = .ok (.getfield 165, 3) := by decide +kernel
theorem dX8_next_182 : decode cX8_next 182 = .ok (.isub, 1) := by decide +kernel
theorem dX8_next_183 : decode cX8_next 183 = .ok (.iconst 4, 1) := by decide +kernel
theorem dX8_next_184 : decode cX8_next 184 = .ok (.if_icmp .ge 25, 3) := by decide +kernel
theorem dX8_next_187 : decode cX8_next 187 = .ok (.bipush 10, 2) := by decide +kernel
theorem dX8_next_189 : decode cX8_next 189 = .ok (.aload_n 0, 1) := by decide +kernel
theorem dX8_next_190 : decode cX8_next 190 = .ok (.getfield 192, 3) := by decide +kernel
theorem dX8_next_193 : decode cX8_next 193 = .ok (.imul, 1) := by decide +kernel
theorem dX8_next_194 : decode cX8_next 194 = .ok (.aload_n 0, 1) := by decide +kernel
theorem dX8_next_195 : decode cX8_next 195 = .ok (.aload_n 0, 1) := by decide +kernel
theorem dX8_next_196 : decode cX8_next 196 = .ok (.getfield 168, 3) := by decide +kernel
theorem dX8_next_199 : decode cX8_next 199 = .ok (.invokevirtual 179, 3) := by decide +kernel
theorem dX8_next_202 : decode cX8_next 202 = .ok (.iadd, 1) := by decide +kernel
theorem dX8_next_203 : decode cX8_next 203 = .ok (.bipush 48, 2) := by decide +kernel
theorem dX8_next_205 : decode cX8_next 205 = .ok (.isub, 1) := by decide +kernel
theorem dX8_next_206 : decode cX8_next 206 = .ok (.goto 7, 3) := by decide +kernel
theorem dX8_next_209 : decode cX8_next 209 = .ok (.aload_n 0, 1) := by decide +kernel
theorem dX8_next_210 : decode cX8_next 210 = .ok (.getfield 192, 3) := by decide +kernel
theorem dX8_next_213 : decode cX8_next 213 = .ok (.putfield 192, 3) := by decide +kernel
theorem dX8_next_216 : decode cX8_next 216 = .ok (.aload_n 0, 1) := by decide +kernel
theorem dX8_next_217 : decode cX8_next 217 = .ok (.dup, 1) := by decide +kernel
theorem dX8_next_218 : decode cX8_next 218 = .ok (.getfield 168, 3) := by decide +kernel
theorem dX8_next_221 : decode cX8_next 221 = .ok (.iconst 1, 1) := by decide +kernel
theorem dX8_next_222 : decode cX8_next 222 = .ok (.iadd, 1) := by decide +kernel
theorem dX8_next_223 : decode cX8_next 223 = .ok (.putfield 168, 3) := by decide +kernel
theorem dX8_next_226 : decode cX8_next 226 = .ok (.goto (-67), 3) := by decide +kernel
theorem dX8_next_229 : decode cX8_next 229 = .ok (.aload_n 0, 1) := by decide +kernel
theorem dX8_next_230 : decode cX8_next 230 = .ok (.aload_n 0, 1) := by decide +kernel
theorem dX8_next_231 : decode cX8_next 231 = .ok (.getfield 168, 3) := by decide +kernel
theorem dX8_next_234 : decode cX8_next 234 = .ok (.aload_n 0, 1) := by decide +kernel
theorem dX8_next_235 : decode cX8_next 235 = .ok (.getfield 165, 3) := by decide +kernel
theorem dX8_next_238 : decode cX8_next 238 = .ok (.isub, 1) := by decide +kernel
theorem dX8_next_239 : decode cX8_next 239 = .ok (.iconst 4, 1) := by decide +kernel
theorem dX8_next_240 : decode cX8_next 240 = .ok (.if_icmp .le 7, 3) := by decide +kernel
theorem dX8_next_243 : decode cX8_next 243 = .ok (.iconst 5, 1) := by decide +kernel
theorem dX8_next_244 : decode cX8_next 244 = .ok (.goto 4, 3) := by decide +kernel
theorem dX8_next_247 : decode cX8_next 247 = .ok (.iconst 1, 1) := by decide +kernel
theorem dX8_next_248 : decode cX8_next 248 = .ok (.putfield 182, 3) := by decide +kernel
theorem dX8_next_251 : decode cX8_next 251 = .ok (.return_, 1) := by decide +kernel
theorem dX8_next_252 : decode cX8_next 252 = .ok (.aload_n 0, 1) := by decide +kernel
theorem dX8_next_253 : decode cX8_next 253 = .ok (.iload_n 1, 1) := by decide +kernel
theorem dX8_next_254 : decode cX8_next 254 = .ok (.invokestatic 198, 3) := by decide +kernel
theorem dX8_next_257 : decode cX8_next 257 = .ok (.ifCond .eq 7, 3) := by decide +kernel
theorem dX8_next_260 : decode cX8_next 260 = .ok (.iconst 4, 1) := by decide +kernel
theorem dX8_next_261 : decode cX8_next 261 = .ok (.goto 4, 3) := by decide +kernel
theorem dX8_next_264 : decode cX8_next 264 = .ok (.iconst 5, 1) := by decide +kernel
theorem dX8_next_265 : decode cX8_next 265 = .ok (.putfield 182, 3) := by decide +kernel
theorem dX8_next_268 : decode cX8_next 268 = .ok (.aload_n 0, 1) := by decide +kernel
theorem dX8_next_269 : decode cX8_next 269 = .ok (.iload_n 1, 1) := by decide +kernel
theorem dX8_next_270 : decode cX8_next 270 = .ok (.putfield 192, 3) := by decide +kernel
theorem dX8_next_273 : decode cX8_next 273 = .ok (.aload_n 0, 1) := by decide +kernel
theorem dX8_next_274 : decode cX8_next 274 = .ok (.dup, 1) := by decide +kernel
theorem dX8_next_275 : decode cX8_next 275 = .ok (.getfield 168, 3) := by decide +kernel
theorem dX8_next_278 : decode cX8_next 278 = .ok (.iconst 1, 1) := by decide +kernel
theorem dX8_next_279 : decode cX8_next 279 = .ok (.iadd, 1) := by decide +kernel
theorem dX8_next_280 : decode cX8_next 280 = .ok (.putfield 168, 3) := by decide +kernel
theorem dX8_next_283 : decode cX8_next 283 = .ok (.return_, 1) := by decide +kernel
theorem dX8_wrong_0 : decode cX8_wrong 0 = .ok (.aload_n 0, 1) := by decide +kernel
theorem dX8_wrong_1 : decode cX8_wrong 1 = .ok (.getfield 201, 3) := by decide +kernel
theorem dX8_wrong_4 : decode cX8_wrong 4 = .ok (.ifCond .ne 16, 3) := by decide +kernel
theorem dX8_wrong_7 : decode cX8_wrong 7 = .ok (.aload_n 0, 1) := by decide +kernel
theorem dX8_wrong_8 : decode cX8_wrong 8 = .ok (.iconst 1, 1) := by decide +kernel
theorem dX8_wrong_9 : decode cX8_wrong 9 = .ok (.putfield 201, 3) := by decide +kernel
theorem dX8_wrong_12 : decode cX8_wrong 12 = .ok (.aload_n 0, 1) := by decide +kernel
theorem dX8_wrong_13 : decode cX8_wrong 13 = .ok (.aload_n 0, 1) := by decide +kernel
theorem dX8_wrong_14 : decode cX8_wrong 14 = .ok (.getfield 165, 3) := by decide +kernel
theorem dX8_wrong_17 : decode cX8_wrong 17 = .ok (.putfield 205, 3) := by decide +kernel
theorem dX8_wrong_20 : decode cX8_wrong 20 = .ok (.return_, 1) := by decide +kernel
theorem dX8_isSign_0 : decode cX8_isSign 0 = .ok (.aload_n 0, 1) := by decide +kernel
theorem dX8_isSign_1 : decode cX8_isSign 1 = .ok (.getfield 201, 3) := by decide +kernel
theorem dX8_isSign_4 : decode cX8_isSign 4 = .ok (.ifCond .ne 23, 3) := by decide +kernel
theorem dX8_isSign_7 : decode cX8_isSign 7 = .ok (.aload_n 0, 1) := by decide +kernel
theorem dX8_isSign_8 : decode cX8_isSign 8 = .ok (.getfield 182, 3) := by decide +kernel
theorem dX8_isSign_11 : decode cX8_isSign 11 = .ok (.iconst 4, 1) := by decide +kernel
theorem dX8_isSign_12 : decode cX8_isSign 12 = .ok (.if_icmp .ne 15, 3) := by decide +kernel
theorem dX8_isSign_15 : decode cX8_isSign 15 = .ok (.aload_n 0, 1) := by decide +kernel
theorem dX8_isSign_16 : decode cX8_isSign 16 = .ok (.getfield 192, 3) := by decide +kernel
theorem dX8_isSign_19 : decode cX8_isSign 19 = .ok (.iload_n 1, 1) := by decide +kernel
theorem dX8_isSign_20 : decode cX8_isSign 20 = .ok (.if_icmp .ne 7, 3) := by decide +kernel
theorem dX8_isSign_23 : decode cX8_isSign 23 = .ok (.iconst 1, 1) := by decide +kernel
theorem dX8_isSign_24 : decode cX8_isSign 24 = .ok (.goto 4, 3) := by decide +kernel
theorem dX8_isSign_27 : decode cX8_isSign 27 = .ok (.iconst 0, 1) := by decide +kernel
theorem dX8_isSign_28 : decode cX8_isSign 28 = .ok (.ireturn, 1) := by decide +kernel
theorem dX8_isKey_0 : decode cX8_isKey 0 = .ok (.aload_n 0, 1) := by decide +kernel
theorem dX8_isKey_1 : decode cX8_isKey 1 = .ok (.getfield 201, 3) := by decide +kernel
theorem dX8_isKey_4 : decode cX8_isKey 4 = .ok (.ifCond .ne 23, 3) := by decide +kernel
theorem dX8_isKey_7 : decode cX8_isKey 7 = .ok (.aload_n 0, 1) := by decide +kernel
theorem dX8_isKey_8 : decode cX8_isKey 8 = .ok (.getfield 182, 3) := by decide +kernel
theorem dX8_isKey_11 : decode cX8_isKey 11 = .ok (.iconst 3, 1) := by decide +kernel
theorem dX8_isKey_12 : decode cX8_isKey 12 = .ok (.if_icmp .ne 15, 3) := by decide +kernel
theorem dX8_isKey_15 : decode cX8_isKey 15 = .ok (.aload_n 0, 1) := by decide +kernel
theorem dX8_isKey_16 : decode cX8_isKey 16 = .ok (.getfield 192, 3) := by decide +kernel
theorem dX8_isKey_19 : decode cX8_isKey 19 = .ok (.iload_n 1, 1) := by decide +kernel
theorem dX8_isKey_20 : decode cX8_isKey 20 = .ok (.if_icmp .ne 7, 3) := by decide +kernel
theorem dX8_isKey_23 : decode cX8_isKey 23 = .ok (.iconst 1, 1) := by decide +kernel
theorem dX8_isKey_24 : decode cX8_isKey 24 = .ok (.goto 4, 3) := by decide +kernel
theorem dX8_isKey_27 : decode cX8_isKey 27 = .ok (.iconst 0, 1) := by decide +kernel
theorem dX8_isKey_28 : decode cX8_isKey 28 = .ok (.ireturn, 1) := by decide +kernel
theorem dX8_adds_0 : decode cX8_adds 0 = .ok (.aload_n 0, 1) := by decide +kernel
theorem dX8_adds_1 : decode cX8_adds 1 = .ok (.getfield 37, 3) := by decide +kernel
theorem dX8_adds_4 : decode cX8_adds 4 = .ok (.aload_n 0, 1) := by decide +kernel
theorem dX8_adds_5 : decode cX8_adds 5 = .ok (.getfield 208, 3) := by decide +kernel
theorem dX8_adds_8 : decode cX8_adds 8 = .ok (.iload_n 1, 1) := by decide +kernel
theorem dX8_adds_9 : decode cX8_adds 9 = .ok (.iastore, 1) := by decide +kernel
theorem dX8_adds_10 : decode cX8_adds 10 = .ok (.aload_n 0, 1) := by decide +kernel
theorem dX8_adds_11 : decode cX8_adds 11 = .ok (.dup, 1) := by decide +kernel
theorem dX8_adds_12 : decode cX8_adds 12 = .ok (.getfield 208, 3) := by decide +kernel
theorem dX8_adds_15 : decode cX8_adds 15 = .ok (.iconst 1, 1) := by decide +kernel
theorem dX8_adds_16 : decode cX8_adds 16 = .ok (.iadd, 1) := by decide +kernel
theorem dX8_adds_17 : decode cX8_adds 17 = .ok (.putfield 208, 3) := by decide +kernel
theorem dX8_adds_20 : decode cX8_adds 20 = .ok (.return_, 1) := by decide +kernel
theorem dX8_opens_0 : decode cX8_opens 0 = .ok (.aload_n 0, 1) := by decide +kernel
theorem dX8_opens_1 : decode cX8_opens 1 = .ok (.getfield 211, 3) := by decide +kernel
theorem dX8_opens_4 : decode cX8_opens 4 = .ok (.iconst 5, 1) := by decide +kernel
theorem dX8_opens_5 : decode cX8_opens 5 = .ok (.if_icmp .ne 9, 3) := by decide +kernel
theorem dX8_opens_8 : decode cX8_opens 8 = .ok (.aload_n 0, 1) := by decide +kernel
theorem dX8_opens_9 : decode cX8_opens 9 = .ok (.invokevirtual 214, 3) := by decide +kernel
theorem dX8_opens_12 : decode cX8_opens 12 = .ok (.iconst 0, 1) := by decide +kernel
theorem dX8_opens_13 : decode cX8_opens 13 = .ok (.ireturn, 1) := by decide +kernel
theorem dX8_opens_14 : decode cX8_opens 14 = .ok (.aload_n 0, 1) := by decide +kernel
theorem dX8_opens_15 : decode cX8_opens 15 = .ok (.dup, 1) := by decide +kernel
theorem dX8_opens_16 : decode cX8_opens 16 = .ok (.getfield 211, 3) := by decide +kernel
theorem dX8_opens_19 : decode cX8_opens 19 = .ok (.iconst 1, 1) := by decide +kernel
theorem dX8_opens_20 : decode cX8_opens 20 = .ok (.iadd, 1) := by decide +kernel
theorem dX8_opens_21 : decode cX8_opens 21 = .ok (.putfield 211, 3) := by decide +kernel
theorem dX8_opens_24 : decode cX8_opens 24 = .ok (.aload_n 0, 1) := by decide +kernel
theorem dX8_opens_25 : decode cX8_opens 25 = .ok (.invokevirtual 217, 3) := by decide +kernel
theorem dX8_opens_28 : decode cX8_opens 28 = .ok (.iconst 1, 1) := by decide +kernel
theorem dX8_opens_29 : decode cX8_opens 29 = .ok (.ireturn, 1) := by decide +kernel
theorem dX8_one_0 : decode cX8_one 0 = .ok (.aload_n 0, 1) := by decide +kernel
theorem dX8_one_1 : decode cX8_one 1 = .ok (.getfield 201, 3) := by decide +kernel
theorem dX8_one_4 : decode cX8_one 4 = .ok (.ifCond .eq 4, 3) := by decide +kernel
theorem dX8_one_7 : decode cX8_one 7 = .ok (.return_, 1) := by decide +kernel
theorem dX8_one_8 : decode cX8_one 8 = .ok (.aload_n 0, 1) := by decide +kernel
theorem dX8_one_9 : decode cX8_one 9 = .ok (.getfield 182, 3) := by decide +kernel
theorem dX8_one_12 : decode cX8_one 12 = .ok (.iconst 1, 1) := by decide +kernel
theorem dX8_one_13 : decode cX8_one 13 = .ok (.if_icmp .eq 11, 3) := by decide +kernel
theorem dX8_one_16 : decode cX8_one 16 = .ok (.aload_n 0, 1) := by decide +kernel
theorem dX8_one_17 : decode cX8_one 17 = .ok (.getfield 182, 3) := by decide +kernel
theorem dX8_one_20 : decode cX8_one 20 = .ok (.iconst 2, 1) := by decide +kernel
theorem dX8_one_21 : decode cX8_one 21 = .ok (.if_icmp .ne 33, 3) := by decide +kernel
theorem dX8_one_24 : decode cX8_one 24 = .ok (.aload_n 0, 1) := by decide +kernel
theorem dX8_one_25 : decode cX8_one 25 = .ok (.aload_n 0, 1) := by decide +kernel
theorem dX8_one_26 : decode cX8_one 26 = .ok (.getfield 182, 3) := by decide +kernel
theorem dX8_one_29 : decode cX8_one 29 = .ok (.iconst 1, 1) := by decide +kernel
theorem dX8_one_30 : decode cX8_one 30 = .ok (.if_icmp .ne 10, 3) := by decide +kernel
theorem dX8_one_33 : decode cX8_one 33 = .ok (.aload_n 0, 1) := by decide +kernel
theorem dX8_one_34 : decode cX8_one 34 = .ok (.getfield 192, 3) := by decide +kernel
theorem dX8_one_37 : decode cX8_one 37 = .ok (.goto 9, 3) := by decide +kernel
theorem dX8_one_40 : decode cX8_one 40 = .ok (.iconst (-1), 1) := by decide +kernel
theorem dX8_one_41 : decode cX8_one 41 = .ok (.aload_n 0, 1) := by decide +kernel
theorem dX8_one_42 : decode cX8_one 42 = .ok (.getfield 192, 3) := by decide +kernel
theorem dX8_one_45 : decode cX8_one 45 = .ok (.isub, 1) := by decide +kernel
theorem dX8_one_46 : decode cX8_one 46 = .ok (.invokevirtual 220, 3) := by decide +kernel
theorem dX8_one_49 : decode cX8_one 49 = .ok (.aload_n 0, 1) := by decide +kernel
theorem dX8_one_50 : decode cX8_one 50 = .ok (.invokevirtual 217, 3) := by decide +kernel
theorem dX8_one_53 : decode cX8_one 53 = .ok (.return_, 1) := by decide +kernel
theorem dX8_one_54 : decode cX8_one 54 = .ok (.aload_n 0, 1) := by decide +kernel
theorem dX8_one_55 : decode cX8_one 55 = .ok (.bipush 45, 2) := by decide +kernel
theorem dX8_one_57 : decode cX8_one 57 = .ok (.invokevirtual 224, 3) := by decide +kernel
theorem dX8_one_60 : decode cX8_one 60 = .ok (.istore_n 1, 1) := by decide +kernel
theorem dX8_one_61 : decode cX8_one 61 = .ok (.iload_n 1, 1) := by decide +kernel
theorem dX8_one_62 : decode cX8_one 62 = .ok (.ifCond .ne 17, 3) := by decide +kernel
theorem dX8_one_65 : decode cX8_one 65 = .ok (.aload_n 0, 1) := by decide +kernel
theorem dX8_one_66 : decode cX8_one 66 = .ok (.bipush 40, 2) := by decide +kernel
theorem dX8_one_68 : decode cX8_one 68 = .ok (.invokevirtual 224, 3) := by decide +kernel
theorem dX8_one_71 : decode cX8_one 71 = .ok (.ifCond .ne 8, 3) := by decide +kernel
theorem dX8_one_74 : decode cX8_one 74 = .ok (.aload_n 0, 1) := by decide +kernel
theorem dX8_one_75 : decode cX8_one 75 = .ok (.invokevirtual 214, 3) := by decide +kernel
theorem dX8_one_78 : decode cX8_one 78 = .ok (.return_, 1) := by decide +kernel
theorem dX8_one_79 : decode cX8_one 79 = .ok (.aload_n 0, 1) := by decide +kernel
theorem dX8_one_80 : decode cX8_one 80 = .ok (.invokevirtual 227, 3) := by decide +kernel
theorem dX8_one_83 : decode cX8_one 83 = .ok (.ifCond .ne 4, 3) := by decide +kernel
theorem dX8_one_86 : decode cX8_one 86 = .ok (.return_, 1) := by decide +kernel
theorem dX8_one_87 : decode cX8_one 87 = .ok (.iload_n 1, 1) := by decide +kernel
theorem dX8_one_88 : decode cX8_one 88 = .ok (.ifCond .eq 24, 3) := by decide +kernel
theorem dX8_one_91 : decode cX8_one 91 = .ok (.aload_n 0, 1) := by decide +kernel
theorem dX8_one_92 : decode cX8_one 92 = .ok (.invokevirtual 231, 3) := by decide +kernel
theorem dX8_one_95 : decode cX8_one 95 = .ok (.aload_n 0, 1) := by decide +kernel
theorem dX8_one_96 : decode cX8_one 96 = .ok (.bipush (-100), 2) := by decide +kernel
theorem dX8_one_98 : decode cX8_one 98 = .ok (.invokevirtual 220, 3) := by decide +kernel
theorem dX8_one_101 : decode cX8_one 101 = .ok (.aload_n 0, 1) := by decide +kernel
theorem dX8_one_102 : decode cX8_one 102 = .ok (.dup, 1) := by decide +kernel
theorem dX8_one_103 : decode cX8_one 103 = .ok (.getfield 211, 3) := by decide +kernel
theorem dX8_one_106 : decode cX8_one 106 = .ok (.iconst 1, 1) := by decide +kernel
theorem dX8_one_107 : decode cX8_one 107 = .ok (.isub, 1) := by decide +kernel
theorem dX8_one_108 : decode cX8_one 108 = .ok (.putfield 211, 3) := by decide +kernel
theorem dX8_one_111 : decode cX8_one 111 = .ok (.return_, 1) := by decide +kernel
theorem dX8_one_112 : decode cX8_one 112 = .ok (.aload_n 0, 1) := by decide +kernel
theorem dX8_one_113 : decode cX8_one 113 = .ok (.invokevirtual 234, 3) := by decide +kernel
theorem dX8_one_116 : decode cX8_one 116 = .ok (.aload_n 0, 1) := by decide +kernel
theorem dX8_one_117 : decode cX8_one 117 = .ok (.bipush 41, 2) := by decide +kernel
theorem dX8_one_119 : decode cX8_one 119 = .ok (.invokevirtual 224, 3) := by decide +kernel
theorem dX8_one_122 : decode cX8_one 122 = .ok (.ifCond .ne 8, 3) := by decide +kernel
theorem dX8_one_125 : decode cX8_one 125 = .ok (.aload_n 0, 1) := by decide +kernel
theorem dX8_one_126 : decode cX8_one 126 = .ok (.invokevirtual 214, 3) := by decide +kernel
theorem dX8_one_129 : decode cX8_one 129 = .ok (.return_, 1) := by decide +kernel
theorem dX8_one_130 : decode cX8_one 130 = .ok (.aload_n 0, 1) := by decide +kernel
theorem dX8_one_131 : decode cX8_one 131 = .ok (.dup, 1) := by decide +kernel
theorem dX8_one_132 : decode cX8_one 132 = .ok (.getfield 211, 3) := by decide +kernel
theorem dX8_one_135 : decode cX8_one 135 = .ok (.iconst 1, 1) := by decide +kernel
theorem dX8_one_136 : decode cX8_one 136 = .ok (.isub, 1) := by decide +kernel
theorem dX8_one_137 : decode cX8_one 137 = .ok (.putfield 211, 3) := by decide +kernel
theorem dX8_one_140 : decode cX8_one 140 = .ok (.aload_n 0, 1) := by decide +kernel
theorem dX8_one_141 : decode cX8_one 141 = .ok (.invokevirtual 217, 3) := by decide +kernel
theorem dX8_one_144 : decode cX8_one 144 = .ok (.return_, 1) := by decide +kernel
theorem dX8_term_0 : decode cX8_term 0 = .ok (.aload_n 0, 1) := by decide +kernel
theorem dX8_term_1 : decode cX8_term 1 = .ok (.invokevirtual 231, 3) := by decide +kernel
theorem dX8_term_4 : decode cX8_term 4 = .ok (.aload_n 0, 1) := by decide +kernel
theorem dX8_term_5 : decode cX8_term 5 = .ok (.bipush 42, 2) := by decide +kernel
theorem dX8_term_7 : decode cX8_term 7 = .ok (.invokevirtual 224, 3) := by decide +kernel
theorem dX8_term_10 : decode cX8_term 10 = .ok (.ifCond .eq 21, 3) := by decide +kernel
theorem dX8_term_13 : decode cX8_term 13 = .ok (.aload_n 0, 1) := by decide +kernel
theorem dX8_term_14 : decode cX8_term 14 = .ok (.invokevirtual 217, 3) := by decide +kernel
theorem dX8_term_17 : decode cX8_term 17 = .ok (.aload_n 0, 1) := by decide +kernel
theorem dX8_term_18 : decode cX8_term 18 = .ok (.invokevirtual 231, 3) := by decide +kernel
theorem dX8_term_21 : decode cX8_term 21 = .ok (.aload_n 0, 1) := by decide +kernel
theorem dX8_term_22 : decode cX8_term 22 = .ok (.sipush (-142), 3) := by decide +kernel
theorem dX8_term_25 : decode cX8_term 25 = .ok (.invokevirtual 220, 3) := by decide +kernel
theorem dX8_term_28 : decode cX8_term 28 = .ok (.goto (-24), 3) := by decide +kernel
theorem dX8_term_31 : decode cX8_term 31 = .ok (.return_, 1) := by decide +kernel
theorem dX8_sum_0 : decode cX8_sum 0 = .ok (.aload_n 0, 1) := by decide +kernel
theorem dX8_sum_1 : decode cX8_sum 1 = .ok (.invokevirtual 237, 3) := by decide +kernel
theorem dX8_sum_4 : decode cX8_sum 4 = .ok (.aload_n 0, 1) := by decide +kernel
theorem dX8_sum_5 : decode cX8_sum 5 = .ok (.bipush 43, 2) := by decide +kernel
theorem dX8_sum_7 : decode cX8_sum 7 = .ok (.invokevirtual 224, 3) := by decide +kernel
theorem dX8_sum_10 : decode cX8_sum 10 = .ok (.ifCond .ne 12, 3) := by decide +kernel
theorem dX8_sum_13 : decode cX8_sum 13 = .ok (.aload_n 0, 1) := by decide +kernel
theorem dX8_sum_14 : decode cX8_sum 14 = .ok (.bipush 45, 2) := by decide +kernel
theorem dX8_sum_16 : decode cX8_sum 16 = .ok (.invokevirtual 224, 3) := by decide +kernel
theorem dX8_sum_19 : decode cX8_sum 19 = .ok (.ifCond .eq 27, 3) := by decide +kernel
theorem dX8_sum_22 : decode cX8_sum 22 = .ok (.aload_n 0, 1) := by decide +kernel
theorem dX8_sum_23 : decode cX8_sum 23 = .ok (.getfield 192, 3) := by decide +kernel
theorem dX8_sum_26 : decode cX8_sum 26 = .ok (.istore_n 1, 1) := by decide +kernel
theorem dX8_sum_27 : decode cX8_sum 27 = .ok (.aload_n 0, 1) := by decide +kernel
theorem dX8_sum_28 : decode cX8_sum 28 = .ok (.invokevirtual 217, 3) := by decide +kernel
theorem dX8_sum_31 : decode cX8_sum 31 = .ok (.aload_n 0, 1) := by decide +kernel
theorem dX8_sum_32 : decode cX8_sum 32 = .ok (.invokevirtual 237, 3) := by decide +kernel
theorem dX8_sum_35 : decode cX8_sum 35 = .ok (.aload_n 0, 1) := by decide +kernel
theorem dX8_sum_36 : decode cX8_sum 36 = .ok (.bipush (-100), 2) := by decide +kernel
theorem dX8_sum_38 : decode cX8_sum 38 = .ok (.iload_n 1, 1) := by decide +kernel
theorem dX8_sum_39 : decode cX8_sum 39 = .ok (.isub, 1) := by decide +kernel
theorem dX8_sum_40 : decode cX8_sum 40 = .ok (.invokevirtual 220, 3) := by decide +kernel
theorem dX8_sum_43 : decode cX8_sum 43 = .ok (.goto (-39), 3) := by decide +kernel
theorem dX8_sum_46 : decode cX8_sum 46 = .ok (.return_, 1) := by decide +kernel
theorem dX8_not_0 : decode cX8_not 0 = .ok (.aload_n 0, 1) := by decide +kernel
theorem dX8_not_1 : decode cX8_not 1 = .ok (.iconst 5, 1) := by decide +kernel
theorem dX8_not_2 : decode cX8_not 2 = .ok (.invokevirtual 240, 3) := by decide +kernel
theorem dX8_not_5 : decode cX8_not 5 = .ok (.ifCond .eq 31, 3) := by decide +kernel
theorem dX8_not_8 : decode cX8_not 8 = .ok (.aload_n 0, 1) := by decide +kernel
theorem dX8_not_9 : decode cX8_not 9 = .ok (.invokevirtual 227, 3) := by decide +kernel
theorem dX8_not_12 : decode cX8_not 12 = .ok (.ifCond .eq 23, 3) := by decide +kernel
theorem dX8_not_15 : decode cX8_not 15 = .ok (.aload_n 0, 1) := by decide +kernel
theorem dX8_not_16 : decode cX8_not 16 = .ok (.invokevirtual 243, 3) := by decide +kernel
theorem dX8_not_19 : decode cX8_not 19 = .ok (.aload_n 0, 1) := by decide +kernel
theorem dX8_not_20 : decode cX8_not 20 = .ok (.bipush (-101), 2) := by decide +kernel
theorem dX8_not_22 : decode cX8_not 22 = .ok (.invokevirtual 220, 3) := by decide +kernel
theorem dX8_not_25 : decode cX8_not 25 = .ok (.aload_n 0, 1) := by decide +kernel
theorem dX8_not_26 : decode cX8_not 26 = .ok (.dup, 1) := by decide +kernel
theorem dX8_not_27 : decode cX8_not 27 = .ok (.getfield 211, 3) := by decide +kernel
theorem dX8_not_30 : decode cX8_not 30 = .ok (.iconst 1, 1) := by decide +kernel
theorem dX8_not_31 : decode cX8_not 31 = .ok (.isub, 1) := by decide +kernel
theorem dX8_not_32 : decode cX8_not 32 = .ok (.putfield 211, 3) := by decide +kernel
theorem dX8_not_35 : decode cX8_not 35 = .ok (.return_, 1) := by decide +kernel
theorem dX8_not_36 : decode cX8_not 36 = .ok (.aload_n 0, 1) := by decide +kernel
theorem dX8_not_37 : decode cX8_not 37 = .ok (.invokevirtual 246, 3) := by decide +kernel
theorem dX8_not_40 : decode cX8_not 40 = .ok (.aload_n 0, 1) := by decide +kernel
theorem dX8_not_41 : decode cX8_not 41 = .ok (.bipush 60, 2) := by decide +kernel
theorem dX8_not_43 : decode cX8_not 43 = .ok (.invokevirtual 224, 3) := by decide +kernel
theorem dX8_not_46 : decode cX8_not 46 = .ok (.ifCond .ne 12, 3) := by decide +kernel
theorem dX8_not_49 : decode cX8_not 49 = .ok (.aload_n 0, 1) := by decide +kernel
theorem dX8_not_50 : decode cX8_not 50 = .ok (.bipush 61, 2) := by decide +kernel
theorem dX8_not_52 : decode cX8_not 52 = .ok (.invokevirtual 224, 3) := by decide +kernel
theorem dX8_not_55 : decode cX8_not 55 = .ok (.ifCond .eq 24, 3) := by decide +kernel
theorem dX8_not_58 : decode cX8_not 58 = .ok (.aload_n 0, 1) := by decide +kernel
theorem dX8_not_59 : decode cX8_not 59 = .ok (.getfield 192, 3) := by decide +kernel
theorem dX8_not_62 : decode cX8_not 62 = .ok (.istore_n 1, 1) := by decide +kernel
theorem dX8_not_63 : decode cX8_not 63 = .ok (.aload_n 0, 1) := by decide +kernel
theorem dX8_not_64 : decode cX8_not 64 = .ok (.invokevirtual 217, 3) := by decide +kernel
theorem dX8_not_67 : decode cX8_not 67 = .ok (.aload_n 0, 1) := by decide +kernel
theorem dX8_not_68 : decode cX8_not 68 = .ok (.invokevirtual 246, 3) := by decide +kernel
theorem dX8_not_71 : decode cX8_not 71 = .ok (.aload_n 0, 1) := by decide +kernel
theorem dX8_not_72 : decode cX8_not 72 = .ok (.bipush (-100), 2) := by decide +kernel
theorem dX8_not_74 : decode cX8_not 74 = .ok (.iload_n 1, 1) := by decide +kernel
theorem dX8_not_75 : decode cX8_not 75 = .ok (.isub, 1) := by decide +kernel
theorem dX8_not_76 : decode cX8_not 76 = .ok (.invokevirtual 220, 3) := by decide +kernel
theorem dX8_not_79 : decode cX8_not 79 = .ok (.return_, 1) := by decide +kernel
theorem dX8_both_0 : decode cX8_both 0 = .ok (.aload_n 0, 1) := by decide +kernel
theorem dX8_both_1 : decode cX8_both 1 = .ok (.invokevirtual 243, 3) := by decide +kernel
theorem dX8_both_4 : decode cX8_both 4 = .ok (.aload_n 0, 1) := by decide +kernel
theorem dX8_both_5 : decode cX8_both 5 = .ok (.iconst 4, 1) := by decide +kernel
theorem dX8_both_6 : decode cX8_both 6 = .ok (.invokevirtual 240, 3) := by decide +kernel
theorem dX8_both_9 : decode cX8_both 9 = .ok (.ifCond .eq 20, 3) := by decide +kernel
theorem dX8_both_12 : decode cX8_both 12 = .ok (.aload_n 0, 1) := by decide +kernel
theorem dX8_both_13 : decode cX8_both 13 = .ok (.invokevirtual 217, 3) := by decide +kernel
theorem dX8_both_16 : decode cX8_both 16 = .ok (.aload_n 0, 1) := by decide +kernel
theorem dX8_both_17 : decode cX8_both 17 = .ok (.invokevirtual 243, 3) := by decide +kernel
theorem dX8_both_20 : decode cX8_both 20 = .ok (.aload_n 0, 1) := by decide +kernel
theorem dX8_both_21 : decode cX8_both 21 = .ok (.bipush (-102), 2) := by decide +kernel
theorem dX8_both_23 : decode cX8_both 23 = .ok (.invokevirtual 220, 3) := by decide +kernel
theorem dX8_both_26 : decode cX8_both 26 = .ok (.goto (-22), 3) := by decide +kernel
theorem dX8_both_29 : decode cX8_both 29 = .ok (.return_, 1) := by decide +kernel
theorem dX8_either_0 : decode cX8_either 0 = .ok (.aload_n 0, 1) := by decide +kernel
theorem dX8_either_1 : decode cX8_either 1 = .ok (.invokevirtual 249, 3) := by decide +kernel
theorem dX8_either_4 : decode cX8_either 4 = .ok (.aload_n 0, 1) := by decide +kernel
theorem dX8_either_5 : decode cX8_either 5 = .ok (.iconst 3, 1) := by decide +kernel
theorem dX8_either_6 : decode cX8_either 6 = .ok (.invokevirtual 240, 3) := by decide +kernel
theorem dX8_either_9 : decode cX8_either 9 = .ok (.ifCond .eq 20, 3) := by decide +kernel
theorem dX8_either_12 : decode cX8_either 12 = .ok (.aload_n 0, 1) := by decide +kernel
theorem dX8_either_13 : decode cX8_either 13 = .ok (.invokevirtual 217, 3) := by decide +kernel
theorem dX8_either_16 : decode cX8_either 16 = .ok (.aload_n 0, 1) := by decide +kernel
theorem dX8_either_17 : decode cX8_either 17 = .ok (.invokevirtual 249, 3) := by decide +kernel
theorem dX8_either_20 : decode cX8_either 20 = .ok (.aload_n 0, 1) := by decide +kernel
theorem dX8_either_21 : decode cX8_either 21 = .ok (.bipush (-103), 2) := by decide +kernel
theorem dX8_either_23 : decode cX8_either 23 = .ok (.invokevirtual 220, 3) := by decide +kernel
theorem dX8_either_26 : decode cX8_either 26 = .ok (.goto (-22), 3) := by decide +kernel
theorem dX8_either_29 : decode cX8_either 29 = .ok (.return_, 1) := by decide +kernel
theorem dX8_text_0 : decode cX8_text 0 = .ok (.aload_n 0, 1) := by decide +kernel
theorem dX8_text_1 : decode cX8_text 1 = .ok (.getfield 83, 3) := by decide +kernel
theorem dX8_text_4 : decode cX8_text 4 = .ok (.bipush 6, 2) := by decide +kernel
theorem dX8_text_6 : decode cX8_text 6 = .ok (.if_icmp .ne 6, 3) := by decide +kernel
theorem dX8_text_9 : decode cX8_text 9 = .ok (.bipush (-4), 2) := by decide +kernel
theorem dX8_text_11 : decode cX8_text 11 = .ok (.ireturn, 1) := by decide +kernel
theorem dX8_text_12 : decode cX8_text 12 = .ok (.aload_n 0, 1) := by decide +kernel
theorem dX8_text_13 : decode cX8_text 13 = .ok (.iconst 0, 1) := by decide +kernel
theorem dX8_text_14 : decode cX8_text 14 = .ok (.putfield 168, 3) := by decide +kernel
theorem dX8_text_17 : decode cX8_text 17 = .ok (.aload_n 0, 1) := by decide +kernel
theorem dX8_text_18 : decode cX8_text 18 = .ok (.iconst 0, 1) := by decide +kernel
theorem dX8_text_19 : decode cX8_text 19 = .ok (.putfield 211, 3) := by decide +kernel
theorem dX8_text_22 : decode cX8_text 22 = .ok (.aload_n 0, 1) := by decide +kernel
theorem dX8_text_23 : decode cX8_text 23 = .ok (.iconst 0, 1) := by decide +kernel
theorem dX8_text_24 : decode cX8_text 24 = .ok (.putfield 201, 3) := by decide +kernel
theorem dX8_text_27 : decode cX8_text 27 = .ok (.aload_n 0, 1) := by decide +kernel
theorem dX8_text_28 : decode cX8_text 28 = .ok (.sipush 510, 3) := by decide +kernel
theorem dX8_text_31 : decode cX8_text 31 = .ok (.aload_n 0, 1) := by decide +kernel
theorem dX8_text_32 : decode cX8_text 32 = .ok (.getfield 83, 3) := by decide +kernel
theorem dX8_text_35 : decode cX8_text 35 = .ok (.imul, 1) := by decide +kernel
theorem dX8_text_36 : decode cX8_text 36 = .ok (.putfield 208, 3) := by decide +kernel
theorem dX8_text_39 : decode cX8_text 39 = .ok (.aload_n 0, 1) := by decide +kernel
theorem dX8_text_40 : decode cX8_text 40 = .ok (.invokevirtual 217, 3) := by decide +kernel
theorem dX8_text_43 : decode cX8_text 43 = .ok (.iconst 0, 1) := by decide +kernel
theorem dX8_text_44 : decode cX8_text 44 = .ok (.istore_n 1, 1) := by decide +kernel
theorem dX8_text_45 : decode cX8_text 45 = .ok (.iload_n 1, 1) := by decide +kernel
theorem dX8_text_46 : decode cX8_text 46 = .ok (.iconst 3, 1) := by decide +kernel
theorem dX8_text_47 : decode cX8_text 47 = .ok (.if_icmp .ge 93, 3) := by decide +kernel
theorem dX8_text_50 : decode cX8_text 50 = .ok (.aload_n 0, 1) := by decide +kernel
theorem dX8_text_51 : decode cX8_text 51 = .ok (.getfield 201, 3) := by decide +kernel
theorem dX8_text_54 : decode cX8_text 54 = .ok (.ifCond .ne 86, 3) := by decide +kernel
theorem dX8_text_57 : decode cX8_text 57 = .ok (.aload_n 0, 1) := by decide +kernel
theorem dX8_text_58 : decode cX8_text 58 = .ok (.iload_n 1, 1) := by decide +kernel
theorem dX8_text_59 : decode cX8_text 59 = .ok (.invokevirtual 240, 3) := by decide +kernel
theorem dX8_text_62 : decode cX8_text 62 = .ok (.ifCond .ne 10, 3) := by decide +kernel
theorem dX8_text_65 : decode cX8_text 65 = .ok (.aload_n 0, 1) := by decide +kernel
theorem dX8_text_66 : decode cX8_text 66 = .ok (.invokevirtual 214, 3) := by decide +kernel
theorem dX8_text_69 : decode cX8_text 69 = .ok (.goto 71, 3) := by decide +kernel
theorem dX8_text_72 : decode cX8_text 72 = .ok (.aload_n 0, 1) := by decide +kernel
theorem dX8_text_73 : decode cX8_text 73 = .ok (.invokevirtual 217, 3) := by decide +kernel
theorem dX8_text_76 : decode cX8_text 76 = .ok (.aload_n 0, 1) := by decide +kernel
theorem dX8_text_77 : decode cX8_text 77 = .ok (.getfield 40, 3) := by decide +kernel
theorem dX8_text_80 : decode cX8_text 80 = .ok (.iconst 3, 1) := by decide +kernel
theorem dX8_text_81 : decode cX8_text 81 = .ok (.aload_n 0, 1) := by decide +kernel
theorem dX8_text_82 : decode cX8_text 82 = .ok (.getfield 83, 3) := by decide +kernel
theorem dX8_text_85 : decode cX8_text 85 = .ok (.imul, 1) := by decide +kernel
theorem dX8_text_86 : decode cX8_text 86 = .ok (.iload_n 1, 1) := by decide +kernel
theorem dX8_text_87 : decode cX8_text 87 = .ok (.iadd, 1) := by decide +kernel
theorem dX8_text_88 : decode cX8_text 88 = .ok (.aload_n 0, 1) := by decide +kernel
theorem dX8_text_89 : decode cX8_text 89 = .ok (.getfield 208, 3) := by decide +kernel
theorem dX8_text_92 : decode cX8_text 92 = .ok (.iastore, 1) := by decide +kernel
theorem dX8_text_93 : decode cX8_text 93 = .ok (.aload_n 0, 1) := by decide +kernel
theorem dX8_text_94 : decode cX8_text 94 = .ok (.invokevirtual 234, 3) := by decide +kernel
theorem dX8_text_97 : decode cX8_text 97 = .ok (.aload_n 0, 1) := by decide +kernel
theorem dX8_text_98 : decode cX8_text 98 = .ok (.getfield 43, 3) := by decide +kernel
theorem dX8_text_101 : decode cX8_text 101 = .ok (.iconst 3, 1) := by decide +kernel
theorem dX8_text_102 : decode cX8_text 102 = .ok (.aload_n 0, 1) := by decide +kernel
theorem dX8_text_103 : decode cX8_text 103 = .ok (.getfield 83, 3) := by decide +kernel
theorem dX8_text_106 : decode cX8_text 106 = .ok (.imul, 1) := by decide +kernel
theorem dX8_text_107 : decode cX8_text 107 = .ok (.iload_n 1, 1) := by decide +kernel
theorem dX8_text_108 : decode cX8_text 108 = .ok (.iadd, 1) := by decide +kernel
theorem dX8_text_109 : decode cX8_text 109 = .ok (.aload_n 0, 1) := by decide +kernel
theorem dX8_text_110 : decode cX8_text 110 = .ok (.getfield 208, 3) := by decide +kernel
theorem dX8_text_113 : decode cX8_text 113 = .ok (.iastore, 1) := by decide +kernel
theorem dX8_text_114 : decode cX8_text 114 = .ok (.aload_n 0, 1) := by decide +kernel
theorem dX8_text_115 : decode cX8_text 115 = .ok (.bipush 59, 2) := by decide +kernel
theorem dX8_text_117 : decode cX8_text 117 = .ok (.invokevirtual 224, 3) := by decide +kernel
theorem dX8_text_120 : decode cX8_text 120 = .ok (.ifCond .eq 10, 3) := by decide +kernel
theorem dX8_text_123 : decode cX8_text 123 = .ok (.aload_n 0, 1) := by decide +kernel
theorem dX8_text_124 : decode cX8_text 124 = .ok (.invokevirtual 217, 3) := by decide +kernel
theorem dX8_text_127 : decode cX8_text 127 = .ok (.goto 7, 3) := by decide +kernel
theorem dX8_text_130 : decode cX8_text 130 = .ok (.aload_n 0, 1) := by decide +kernel
theorem dX8_text_131 : decode cX8_text 131 = .ok (.invokevirtual 214, 3) := by decide +kernel
theorem dX8_text_134 : decode cX8_text 134 = .ok (.iinc 1 1, 3) := by decide +kernel
theorem dX8_text_137 : decode cX8_text 137 = .ok (.goto (-92), 3) := by decide +kernel
theorem dX8_text_140 : decode cX8_text 140 = .ok (.aload_n 0, 1) := by decide +kernel
theorem dX8_text_141 : decode cX8_text 141 = .ok (.getfield 201, 3) := by decide +kernel
theorem dX8_text_144 : decode cX8_text 144 = .ok (.ifCond .ne 14, 3) := by decide +kernel
theorem dX8_text_147 : decode cX8_text 147 = .ok (.aload_n 0, 1) := by decide +kernel
theorem dX8_text_148 : decode cX8_text 148 = .ok (.getfield 182, 3) := by decide +kernel
theorem dX8_text_151 : decode cX8_text 151 = .ok (.ifCond .eq 7, 3) := by decide +kernel
theorem dX8_text_154 : decode cX8_text 154 = .ok (.aload_n 0, 1) := by decide +kernel
theorem dX8_text_155 : decode cX8_text 155 = .ok (.invokevirtual 214, 3) := by decide +kernel
theorem dX8_text_158 : decode cX8_text 158 = .ok (.aload_n 0, 1) := by decide +kernel
theorem dX8_text_159 : decode cX8_text 159 = .ok (.iconst 0, 1) := by decide +kernel
theorem dX8_text_160 : decode cX8_text 160 = .ok (.putfield 160, 3) := by decide +kernel
theorem dX8_text_163 : decode cX8_text 163 = .ok (.aload_n 0, 1) := by decide +kernel
theorem dX8_text_164 : decode cX8_text 164 = .ok (.getfield 201, 3) := by decide +kernel
theorem dX8_text_167 : decode cX8_text 167 = .ok (.ifCond .eq 11, 3) := by decide +kernel
theorem dX8_text_170 : decode cX8_text 170 = .ok (.bipush (-100), 2) := by decide +kernel
theorem dX8_text_172 : decode cX8_text 172 = .ok (.aload_n 0, 1) := by decide +kernel
theorem dX8_text_173 : decode cX8_text 173 = .ok (.getfield 205, 3) := by decide +kernel
theorem dX8_text_176 : decode cX8_text 176 = .ok (.isub, 1) := by decide +kernel
theorem dX8_text_177 : decode cX8_text 177 = .ok (.ireturn, 1) := by decide +kernel
theorem dX8_text_178 : decode cX8_text 178 = .ok (.aload_n 0, 1) := by decide +kernel
theorem dX8_text_179 : decode cX8_text 179 = .ok (.dup, 1) := by decide +kernel
theorem dX8_text_180 : decode cX8_text 180 = .ok (.getfield 83, 3) := by decide +kernel
theorem dX8_text_183 : decode cX8_text 183 = .ok (.iconst 1, 1) := by decide +kernel
theorem dX8_text_184 : decode cX8_text 184 = .ok (.iadd, 1) := by decide +kernel
theorem dX8_text_185 : decode cX8_text 185 = .ok (.putfield 83, 3) := by decide +kernel
theorem dX8_text_188 : decode cX8_text 188 = .ok (.aload_n 0, 1) := by decide +kernel
theorem dX8_text_189 : decode cX8_text 189 = .ok (.getfield 83, 3) := by decide +kernel
theorem dX8_text_192 : decode cX8_text 192 = .ok (.iconst 1, 1) := by decide +kernel
theorem dX8_text_193 : decode cX8_text 193 = .ok (.isub, 1) := by decide +kernel
theorem dX8_text_194 : decode cX8_text 194 = .ok (.ireturn, 1) := by decide +kernel
theorem dX8_force_0 : decode cX8_force 0 = .ok (.iload_n 1, 1) := by decide +kernel
theorem dX8_force_1 : decode cX8_force 1 = .ok (.i2l, 1) := by decide +kernel
theorem dX8_force_2 : decode cX8_force 2 = .ok (.lconst 0, 1) := by decide +kernel
theorem dX8_force_3 : decode cX8_force 3 = .ok (.aload_n 0, 1) := by decide +kernel
theorem dX8_force_4 : decode cX8_force 4 = .ok (.getfield 83, 3) := by decide +kernel
theorem dX8_force_7 : decode cX8_force 7 = .ok (.iconst 1, 1) := by decide +kernel
theorem dX8_force_8 : decode cX8_force 8 = .ok (.isub, 1) := by decide +kernel
theorem dX8_force_9 : decode cX8_force 9 = .ok (.i2l, 1) := by decide +kernel
theorem dX8_force_10 : decode cX8_force 10 = .ok (.invokestatic 93, 3) := by decide +kernel
theorem dX8_force_13 : decode cX8_force 13 = .ok (.ifCond .ne 6, 3) := by decide +kernel
theorem dX8_force_16 : decode cX8_force 16 = .ok (.bipush (-2), 2) := by decide +kernel
theorem dX8_force_18 : decode cX8_force 18 = .ok (.ireturn, 1) := by decide +kernel
theorem dX8_force_19 : decode cX8_force 19 = .ok (.aload_n 0, 1) := by decide +kernel
theorem dX8_force_20 : decode cX8_force 20 = .ok (.getfield 252, 3) := by decide +kernel
theorem dX8_force_23 : decode cX8_force 23 = .ok (.istore_n 2, 1) := by decide +kernel
theorem dX8_force_24 : decode cX8_force 24 = .ok (.aload_n 0, 1) := by decide +kernel
theorem dX8_force_25 : decode cX8_force 25 = .ok (.iload_n 1, 1) := by decide +kernel
theorem dX8_force_26 : decode cX8_force 26 = .ok (.putfield 252, 3) := by decide +kernel
theorem dX8_force_29 : decode cX8_force 29 = .ok (.iload_n 2, 1) := by decide +kernel
theorem dX8_force_30 : decode cX8_force 30 = .ok (.ireturn, 1) := by decide +kernel
theorem dX8_reckon_0 : decode cX8_reckon 0 = .ok (.iload_n 0, 1) := by decide +kernel
theorem dX8_reckon_1 : decode cX8_reckon 1 = .ok (.lookupswitch 107 #[(2, 93), (42, 67), (43, 59), (45, 63), (60, 71), (61, 82)], 59) := by decide +kernel
theorem dX8_reckon_60 : decode cX8_reckon 60 = .ok (.iload_n 1, 1) := by decide +kernel
theorem dX8_reckon_61 : decode cX8_reckon 61 = .ok (.iload_n 2, 1) := by decide +kernel
theorem dX8_reckon_62 : decode cX8_reckon 62 = .ok (.iadd, 1) := by decide +kernel
theorem dX8_reckon_63 : decode cX8_reckon 63 = .ok (.ireturn, 1) := by decide +kernel
theorem dX8_reckon_64 : decode cX8_reckon 64 = .ok (.iload_n 1, 1) := by decide +kernel
theorem dX8_reckon_65 : decode cX8_reckon 65 = .ok (.iload_n 2, 1) := by decide +kernel
theorem dX8_reckon_66 : decode cX8_reckon 66 = .ok (.isub, 1) := by decide +kernel
theorem dX8_reckon_67 : decode cX8_reckon 67 = .ok (.ireturn, 1) := by decide +kernel
theorem dX8_reckon_68 : decode cX8_reckon 68 = .ok (.iload_n 1, 1) := by decide +kernel
theorem dX8_reckon_69 : decode cX8_reckon 69 = .ok (.iload_n 2, 1) := by decide +kernel
theorem dX8_reckon_70 : decode cX8_reckon 70 = .ok (.imul, 1) := by decide +kernel
theorem dX8_reckon_71 : decode cX8_reckon 71 = .ok (.ireturn, 1) := by decide +kernel
theorem dX8_reckon_72 : decode cX8_reckon 72 = .ok (.iload_n 1, 1) := by decide +kernel
theorem dX8_reckon_73 : decode cX8_reckon 73 = .ok (.iload_n 2, 1) := by decide +kernel
theorem dX8_reckon_74 : decode cX8_reckon 74 = .ok (.if_icmp .ge 7, 3) := by decide +kernel
theorem dX8_reckon_77 : decode cX8_reckon 77 = .ok (.iconst 1, 1) := by decide +kernel
theorem dX8_reckon_78 : decode cX8_reckon 78 = .ok (.goto 4, 3) := by decide +kernel
theorem dX8_reckon_81 : decode cX8_reckon 81 = .ok (.iconst 0, 1) := by decide +kernel
theorem dX8_reckon_82 : decode cX8_reckon 82 = .ok (.ireturn, 1) := by decide +kernel
theorem dX8_reckon_83 : decode cX8_reckon 83 = .ok (.iload_n 1, 1) := by decide +kernel
theorem dX8_reckon_84 : decode cX8_reckon 84 = .ok (.iload_n 2, 1) := by decide +kernel
theorem dX8_reckon_85 : decode cX8_reckon 85 = .ok (.if_icmp .ne 7, 3) := by decide +kernel
theorem dX8_reckon_88 : decode cX8_reckon 88 = .ok (.iconst 1, 1) := by decide +kernel
theorem dX8_reckon_89 : decode cX8_reckon 89 = .ok (.goto 4, 3) := by decide +kernel
theorem dX8_reckon_92 : decode cX8_reckon 92 = .ok (.iconst 0, 1) := by decide +kernel
theorem dX8_reckon_93 : decode cX8_reckon 93 = .ok (.ireturn, 1) := by decide +kernel
theorem dX8_reckon_94 : decode cX8_reckon 94 = .ok (.iload_n 1, 1) := by decide +kernel
theorem dX8_reckon_95 : decode cX8_reckon 95 = .ok (.ifCond .eq 11, 3) := by decide +kernel
theorem dX8_reckon_98 : decode cX8_reckon 98 = .ok (.iload_n 2, 1) := by decide +kernel
theorem dX8_reckon_99 : decode cX8_reckon 99 = .ok (.ifCond .eq 7, 3) := by decide +kernel
theorem dX8_reckon_102 : decode cX8_reckon 102 = .ok (.iconst 1, 1) := by decide +kernel
theorem dX8_reckon_103 : decode cX8_reckon 103 = .ok (.goto 4, 3) := by decide +kernel
theorem dX8_reckon_106 : decode cX8_reckon 106 = .ok (.iconst 0, 1) := by decide +kernel
theorem dX8_reckon_107 : decode cX8_reckon 107 = .ok (.ireturn, 1) := by decide +kernel
theorem dX8_reckon_108 : decode cX8_reckon 108 = .ok (.iload_n 1, 1) := by decide +kernel
theorem dX8_reckon_109 : decode cX8_reckon 109 = .ok (.ifCond .ne 7, 3) := by decide +kernel
theorem dX8_reckon_112 : decode cX8_reckon 112 = .ok (.iload_n 2, 1) := by decide +kernel
theorem dX8_reckon_113 : decode cX8_reckon 113 = .ok (.ifCond .eq 7, 3) := by decide +kernel
theorem dX8_reckon_116 : decode cX8_reckon 116 = .ok (.iconst 1, 1) := by decide +kernel
theorem dX8_reckon_117 : decode cX8_reckon 117 = .ok (.goto 4, 3) := by decide +kernel
theorem dX8_reckon_120 : decode cX8_reckon 120 = .ok (.iconst 0, 1) := by decide +kernel
theorem dX8_reckon_121 : decode cX8_reckon 121 = .ok (.ireturn, 1) := by decide +kernel
theorem dX8_sumOf_0 : decode cX8_sumOf 0 = .ok (.iconst 0, 1) := by decide +kernel
theorem dX8_sumOf_1 : decode cX8_sumOf 1 = .ok (.istore_n 1, 1) := by decide +kernel
theorem dX8_sumOf_2 : decode cX8_sumOf 2 = .ok (.iconst 0, 1) := by decide +kernel
theorem dX8_sumOf_3 : decode cX8_sumOf 3 = .ok (.istore_n 2, 1) := by decide +kernel
theorem dX8_sumOf_4 : decode cX8_sumOf 4 = .ok (.iload_n 2, 1) := by decide +kernel
theorem dX8_sumOf_5 : decode cX8_sumOf 5 = .ok (.aload_n 0, 1) := by decide +kernel
theorem dX8_sumOf_6 : decode cX8_sumOf 6 = .ok (.getfield 90, 3) := by decide +kernel
theorem dX8_sumOf_9 : decode cX8_sumOf 9 = .ok (.if_icmp .ge 18, 3) := by decide +kernel
theorem dX8_sumOf_12 : decode cX8_sumOf 12 = .ok (.iload_n 1, 1) := by decide +kernel
theorem dX8_sumOf_13 : decode cX8_sumOf 13 = .ok (.aload_n 0, 1) := by decide +kernel
theorem dX8_sumOf_14 : decode cX8_sumOf 14 = .ok (.getfield 28, 3) := by decide +kernel
theorem dX8_sumOf_17 : decode cX8_sumOf 17 = .ok (.iload_n 2, 1) := by decide +kernel
theorem dX8_sumOf_18 : decode cX8_sumOf 18 = .ok (.iaload, 1) := by decide +kernel
theorem dX8_sumOf_19 : decode cX8_sumOf 19 = .ok (.iadd, 1) := by decide +kernel
theorem dX8_sumOf_20 : decode cX8_sumOf 20 = .ok (.istore_n 1, 1) := by decide +kernel
theorem dX8_sumOf_21 : decode cX8_sumOf 21 = .ok (.iinc 2 1, 3) := by decide +kernel
theorem dX8_sumOf_24 : decode cX8_sumOf 24 = .ok (.goto (-20), 3) := by decide +kernel
theorem dX8_sumOf_27 : decode cX8_sumOf 27 = .ok (.iload_n 1, 1) := by decide +kernel
theorem dX8_sumOf_28 : decode cX8_sumOf 28 = .ok (.ireturn, 1) := by decide +kernel
theorem dX8_work_0 : decode cX8_work 0 = .ok (.aload_n 0, 1) := by decide +kernel
theorem dX8_work_1 : decode cX8_work 1 = .ok (.getfield 53, 3) := by decide +kernel
theorem dX8_work_4 : decode cX8_work 4 = .ok (.iconst 0, 1) := by decide +kernel
theorem dX8_work_5 : decode cX8_work 5 = .ok (.iload_n 1, 1) := by decide +kernel
theorem dX8_work_6 : decode cX8_work 6 = .ok (.iconst 2, 1) := by decide +kernel
theorem dX8_work_7 : decode cX8_work 7 = .ok (.if_icmp .ne 7, 3) := by decide +kernel
theorem dX8_work_10 : decode cX8_work 10 = .ok (.iconst 0, 1) := by decide +kernel
theorem dX8_work_11 : decode cX8_work 11 = .ok (.goto 4, 3) := by decide +kernel
theorem dX8_work_14 : decode cX8_work 14 = .ok (.iload_n 2, 1) := by decide +kernel
theorem dX8_work_15 : decode cX8_work 15 = .ok (.iastore, 1) := by decide +kernel
theorem dX8_work_16 : decode cX8_work 16 = .ok (.aload_n 0, 1) := by decide +kernel
theorem dX8_work_17 : decode cX8_work 17 = .ok (.getfield 53, 3) := by decide +kernel
theorem dX8_work_20 : decode cX8_work 20 = .ok (.iconst 1, 1) := by decide +kernel
theorem dX8_work_21 : decode cX8_work 21 = .ok (.iload_n 1, 1) := by decide +kernel
theorem dX8_work_22 : decode cX8_work 22 = .ok (.iconst 2, 1) := by decide +kernel
theorem dX8_work_23 : decode cX8_work 23 = .ok (.if_icmp .ne 10, 3) := by decide +kernel
theorem dX8_work_26 : decode cX8_work 26 = .ok (.aload_n 0, 1) := by decide +kernel
theorem dX8_work_27 : decode cX8_work 27 = .ok (.invokevirtual 255, 3) := by decide +kernel
theorem dX8_work_30 : decode cX8_work 30 = .ok (.goto 9, 3) := by decide +kernel
theorem dX8_work_33 : decode cX8_work 33 = .ok (.aload_n 0, 1) := by decide +kernel
theorem dX8_work_34 : decode cX8_work 34 = .ok (.getfield 28, 3) := by decide +kernel
theorem dX8_work_37 : decode cX8_work 37 = .ok (.iload_n 2, 1) := by decide +kernel
theorem dX8_work_38 : decode cX8_work 38 = .ok (.iaload, 1) := by decide +kernel
theorem dX8_work_39 : decode cX8_work 39 = .ok (.iastore, 1) := by decide +kernel
theorem dX8_work_40 : decode cX8_work 40 = .ok (.aload_n 0, 1) := by decide +kernel
theorem dX8_work_41 : decode cX8_work 41 = .ok (.getfield 53, 3) := by decide +kernel
theorem dX8_work_44 : decode cX8_work 44 = .ok (.iconst 2, 1) := by decide +kernel
theorem dX8_work_45 : decode cX8_work 45 = .ok (.aload_n 0, 1) := by decide +kernel
theorem dX8_work_46 : decode cX8_work 46 = .ok (.getfield 121, 3) := by decide +kernel
theorem dX8_work_49 : decode cX8_work 49 = .ok (.iastore, 1) := by decide +kernel
theorem dX8_work_50 : decode cX8_work 50 = .ok (.aload_n 0, 1) := by decide +kernel
theorem dX8_work_51 : decode cX8_work 51 = .ok (.getfield 53, 3) := by decide +kernel
theorem dX8_work_54 : decode cX8_work 54 = .ok (.iconst 3, 1) := by decide +kernel
theorem dX8_work_55 : decode cX8_work 55 = .ok (.iload_n 3, 1) := by decide +kernel
theorem dX8_work_56 : decode cX8_work 56 = .ok (.iastore, 1) := by decide +kernel
theorem dX8_work_57 : decode cX8_work 57 = .ok (.aload_n 0, 1) := by decide +kernel
theorem dX8_work_58 : decode cX8_work 58 = .ok (.getfield 53, 3) := by decide +kernel
theorem dX8_work_61 : decode cX8_work 61 = .ok (.iconst 4, 1) := by decide +kernel
theorem dX8_work_62 : decode cX8_work 62 = .ok (.iload_n 1, 1) := by decide +kernel
theorem dX8_work_63 : decode cX8_work 63 = .ok (.iconst 2, 1) := by decide +kernel
theorem dX8_work_64 : decode cX8_work 64 = .ok (.if_icmp .ne 7, 3) := by decide +kernel
theorem dX8_work_67 : decode cX8_work 67 = .ok (.iconst 0, 1) := by decide +kernel
theorem dX8_work_68 : decode cX8_work 68 = .ok (.goto 8, 3) := by decide +kernel
theorem dX8_work_71 : decode cX8_work 71 = .ok (.aload_n 0, 1) := by decide +kernel
theorem dX8_work_72 : decode cX8_work 72 = .ok (.iload_n 2, 1) := by decide +kernel
theorem dX8_work_73 : decode cX8_work 73 = .ok (.invokevirtual 127, 3) := by decide +kernel
theorem dX8_work_76 : decode cX8_work 76 = .ok (.iastore, 1) := by decide +kernel
theorem dX8_work_77 : decode cX8_work 77 = .ok (.aload_n 0, 1) := by decide +kernel
theorem dX8_work_78 : decode cX8_work 78 = .ok (.getfield 53, 3) := by decide +kernel
theorem dX8_work_81 : decode cX8_work 81 = .ok (.iconst 5, 1) := by decide +kernel
theorem dX8_work_82 : decode cX8_work 82 = .ok (.iload_n 1, 1) := by decide +kernel
theorem dX8_work_83 : decode cX8_work 83 = .ok (.iconst 2, 1) := by decide +kernel
theorem dX8_work_84 : decode cX8_work 84 = .ok (.if_icmp .ne 7, 3) := by decide +kernel
theorem dX8_work_87 : decode cX8_work 87 = .ok (.iconst 0, 1) := by decide +kernel
theorem dX8_work_88 : decode cX8_work 88 = .ok (.goto 9, 3) := by decide +kernel
theorem dX8_work_91 : decode cX8_work 91 = .ok (.aload_n 0, 1) := by decide +kernel
theorem dX8_work_92 : decode cX8_work 92 = .ok (.iload_n 2, 1) := by decide +kernel
theorem dX8_work_93 : decode cX8_work 93 = .ok (.iload_n 3, 1) := by decide +kernel
theorem dX8_work_94 : decode cX8_work 94 = .ok (.invokevirtual 145, 3) := by decide +kernel
theorem dX8_work_97 : decode cX8_work 97 = .ok (.iastore, 1) := by decide +kernel
theorem dX8_work_98 : decode cX8_work 98 = .ok (.iconst 0, 1) := by decide +kernel
theorem dX8_work_99 : decode cX8_work 99 = .ok (.istore 4, 2) := by decide +kernel
theorem dX8_work_101 : decode cX8_work 101 = .ok (.aload_n 0, 1) := by decide +kernel
theorem dX8_work_102 : decode cX8_work 102 = .ok (.getfield 40, 3) := by decide +kernel
theorem dX8_work_105 : decode cX8_work 105 = .ok (.iconst 3, 1) := by decide +kernel
theorem dX8_work_106 : decode cX8_work 106 = .ok (.aload_n 0, 1) := by decide +kernel
theorem dX8_work_107 : decode cX8_work 107 = .ok (.getfield 252, 3) := by decide +kernel
theorem dX8_work_110 : decode cX8_work 110 = .ok (.imul, 1) := by decide +kernel
theorem dX8_work_111 : decode cX8_work 111 = .ok (.iload_n 1, 1) := by decide +kernel
theorem dX8_work_112 : decode cX8_work 112 = .ok (.iadd, 1) := by decide +kernel
theorem dX8_work_113 : decode cX8_work 113 = .ok (.iaload, 1) := by decide +kernel
theorem dX8_work_114 : decode cX8_work 114 = .ok (.istore 5, 2) := by decide +kernel
theorem dX8_work_116 : decode cX8_work 116 = .ok (.iload 5, 2) := by decide +kernel
theorem dX8_work_118 : decode cX8_work 118 = .ok (.aload_n 0, 1) := by decide +kernel
theorem dX8_work_119 : decode cX8_work 119 = .ok (.getfield 43, 3) := by decide +kernel
theorem dX8_work_122 : decode cX8_work 122 = .ok (.iconst 3, 1) := by decide +kernel
theorem dX8_work_123 : decode cX8_work 123 = .ok (.aload_n 0, 1) := by decide +kernel
theorem dX8_work_124 : decode cX8_work 124 = .ok (.getfield 252, 3) := by decide +kernel
theorem dX8_work_127 : decode cX8_work 127 = .ok (.imul, 1) := by decide +kernel
theorem dX8_work_128 : decode cX8_work 128 = .ok (.iload_n 1, 1) := by decide +kernel
theorem dX8_work_129 : decode cX8_work 129 = .ok (.iadd, 1) := by decide +kernel
theorem dX8_work_130 : decode cX8_work 130 = .ok (.iaload, 1) := by decide +kernel
theorem dX8_work_131 : decode cX8_work 131 = .ok (.if_icmp .ge 158, 3) := by decide +kernel
theorem dX8_work_134 : decode cX8_work 134 = .ok (.aload_n 0, 1) := by decide +kernel
theorem dX8_work_135 : decode cX8_work 135 = .ok (.getfield 37, 3) := by decide +kernel
theorem dX8_work_138 : decode cX8_work 138 = .ok (.iload 5, 2) := by decide +kernel
theorem dX8_work_140 : decode cX8_work 140 = .ok (.iaload, 1) := by decide +kernel
theorem dX8_work_141 : decode cX8_work 141 = .ok (.istore 6, 2) := by decide +kernel
theorem dX8_work_143 : decode cX8_work 143 = .ok (.iload 6, 2) := by decide +kernel
theorem dX8_work_145 : decode cX8_work 145 = .ok (.bipush (-100), 2) := by decide +kernel
theorem dX8_work_147 : decode cX8_work 147 = .ok (.if_icmp .le 35, 3) := by decide +kernel
theorem dX8_work_150 : decode cX8_work 150 = .ok (.aload_n 0, 1) := by decide +kernel
theorem dX8_work_151 : decode cX8_work 151 = .ok (.getfield 50, 3) := by decide +kernel
theorem dX8_work_154 : decode cX8_work 154 = .ok (.iload 4, 2) := by decide +kernel
theorem dX8_work_156 : decode cX8_work 156 = .ok (.iload 6, 2) := by decide +kernel
theorem dX8_work_158 : decode cX8_work 158 = .ok (.ifCond .ge 15, 3) := by decide +kernel
theorem dX8_work_161 : decode cX8_work 161 = .ok (.aload_n 0, 1) := by decide +kernel
theorem dX8_work_162 : decode cX8_work 162 = .ok (.getfield 53, 3) := by decide +kernel
theorem dX8_work_165 : decode cX8_work 165 = .ok (.iconst (-1), 1) := by decide +kernel
theorem dX8_work_166 : decode cX8_work 166 = .ok (.iload 6, 2) := by decide +kernel
theorem dX8_work_168 : decode cX8_work 168 = .ok (.isub, 1) := by decide +kernel
theorem dX8_work_169 : decode cX8_work 169 = .ok (.iaload, 1) := by decide +kernel
theorem dX8_work_170 : decode cX8_work 170 = .ok (.goto 5, 3) := by decide +kernel
theorem dX8_work_173 : decode cX8_work 173 = .ok (.iload 6, 2) := by decide +kernel
theorem dX8_work_175 : decode cX8_work 175 = .ok (.iastore, 1) := by decide +kernel
theorem dX8_work_176 : decode cX8_work 176 = .ok (.iinc 4 1, 3) := by decide +kernel
theorem dX8_work_179 : decode cX8_work 179 = .ok (.goto 104, 3) := by decide +kernel
theorem dX8_work_182 : decode cX8_work 182 = .ok (.iload 6, 2) := by decide +kernel
theorem dX8_work_184 : decode cX8_work 184 = .ok (.bipush (-100), 2) := by decide +kernel
theorem dX8_work_186 : decode cX8_work 186 = .ok (.if_icmp .ne 25, 3) := by decide +kernel
theorem dX8_work_189 : decode cX8_work 189 = .ok (.aload_n 0, 1) := by decide +kernel
theorem dX8_work_190 : decode cX8_work 190 = .ok (.getfield 50, 3) := by decide +kernel
theorem dX8_work_193 : decode cX8_work 193 = .ok (.iload 4, 2) := by decide +kernel
theorem dX8_work_195 : decode cX8_work 195 = .ok (.iconst 1, 1) := by decide +kernel
theorem dX8_work_196 : decode cX8_work 196 = .ok (.isub, 1) := by decide +kernel
theorem dX8_work_197 : decode cX8_work 197 = .ok (.aload_n 0, 1) := by decide +kernel
theorem dX8_work_198 : decode cX8_work 198 = .ok (.getfield 50, 3) := by decide +kernel
theorem dX8_work_201 : decode cX8_work 201 = .ok (.iload 4, 2) := by decide +kernel
theorem dX8_work_203 : decode cX8_work 203 = .ok (.iconst 1, 1) := by decide +kernel
theorem dX8_work_204 : decode cX8_work 204 = .ok (.isub, 1) := by decide +kernel
theorem dX8_work_205 : decode cX8_work 205 = .ok (.iaload, 1) := by decide +kernel
theorem dX8_work_206 : decode cX8_work 206 = .ok (.ineg, 1) := by decide +kernel
theorem dX8_work_207 : decode cX8_work 207 = .ok (.iastore, 1) := by decide +kernel
theorem dX8_work_208 : decode cX8_work 208 = .ok (.goto 75, 3) := by decide +kernel
theorem dX8_work_211 : decode cX8_work 211 = .ok (.iload 6, 2) := by decide +kernel
theorem dX8_work_213 : decode cX8_work 213 = .ok (.bipush (-101), 2) := by decide +kernel
theorem dX8_work_215 : decode cX8_work 215 = .ok (.if_icmp .ne 32, 3) := by decide +kernel
theorem dX8_work_218 : decode cX8_work 218 = .ok (.aload_n 0, 1) := by decide +kernel
theorem dX8_work_219 : decode cX8_work 219 = .ok (.getfield 50, 3) := by decide +kernel
theorem dX8_work_222 : decode cX8_work 222 = .ok (.iload 4, 2) := by decide +kernel
theorem dX8_work_224 : decode cX8_work 224 = .ok (.iconst 1, 1) := by decide +kernel
theorem dX8_work_225 : decode cX8_work 225 = .ok (.isub, 1) := by decide +kernel
theorem dX8_work_226 : decode cX8_work 226 = .ok (.aload_n 0, 1) := by decide +kernel
theorem dX8_work_227 : decode cX8_work 227 = .ok (.getfield 50, 3) := by decide +kernel
theorem dX8_work_230 : decode cX8_work 230 = .ok (.iload 4, 2) := by decide +kernel
theorem dX8_work_232 : decode cX8_work 232 = .ok (.iconst 1, 1) := by decide +kernel
theorem dX8_work_233 : decode cX8_work 233 = .ok (.isub, 1) := by decide +kernel
theorem dX8_work_234 : decode cX8_work 234 = .ok (.iaload, 1) := by decide +kernel
theorem dX8_work_235 : decode cX8_work 235 = .ok (.ifCond .ne 7, 3) := by decide +kernel
theorem dX8_work_238 : decode cX8_work 238 = .ok (.iconst 1, 1) := by decide +kernel
theorem dX8_work_239 : decode cX8_work 239 = .ok (.goto 4, 3) := by decide +kernel
theorem dX8_work_242 : decode cX8_work 242 = .ok (.iconst 0, 1) := by decide +kernel
theorem dX8_work_243 : decode cX8_work 243 = .ok (.iastore, 1) := by decide +kernel
theorem dX8_work_244 : decode cX8_work 244 = .ok (.goto 39, 3) := by decide +kernel
theorem dX8_work_247 : decode cX8_work 247 = .ok (.iinc 4 (-1), 3) := by decide +kernel
theorem dX8_work_250 : decode cX8_work 250 = .ok (.aload_n 0, 1) := by decide +kernel
theorem dX8_work_251 : decode cX8_work 251 = .ok (.getfield 50, 3) := by decide +kernel
theorem dX8_work_254 : decode cX8_work 254 = .ok (.iload 4, 2) := by decide +kernel
theorem dX8_work_256 : decode cX8_work 256 = .ok (.iconst 1, 1) := by decide +kernel
theorem dX8_work_257 : decode cX8_work 257 = .ok (.isub, 1) := by decide +kernel
theorem dX8_work_258 : decode cX8_work 258 = .ok (.bipush (-100), 2) := by decide +kernel
theorem dX8_work_260 : decode cX8_work 260 = .ok (.iload 6, 2) := by decide +kernel
theorem dX8_work_262 : decode cX8_work 262 = .ok (.isub, 1) := by decide +kernel
theorem dX8_work_263 : decode cX8_work 263 = .ok (.aload_n 0, 1) := by decide +kernel
theorem dX8_work_264 : decode cX8_work 264 = .ok (.getfield 50, 3) := by decide +kernel
theorem dX8_work_267 : decode cX8_work 267 = .ok (.iload 4, 2) := by decide +kernel
theorem dX8_work_269 : decode cX8_work 269 = .ok (.iconst 1, 1) := by decide +kernel
theorem dX8_work_270 : decode cX8_work 270 = .ok (.isub, 1) := by decide +kernel
theorem dX8_work_271 : decode cX8_work 271 = .ok (.iaload, 1) := by decide +kernel
theorem dX8_work_272 : decode cX8_work 272 = .ok (.aload_n 0, 1) := by decide +kernel
theorem dX8_work_273 : decode cX8_work 273 = .ok (.getfield 50, 3) := by decide +kernel
theorem dX8_work_276 : decode cX8_work 276 = .ok (.iload 4, 2) := by decide +kernel
theorem dX8_work_278 : decode cX8_work 278 = .ok (.iaload, 1) := by decide +kernel
theorem dX8_work_279 : decode cX8_work 279 = .ok (.invokestatic 258, 3) := by decide +kernel
theorem dX8_work_282 : decode cX8_work 282 = .ok (.iastore, 1) := by decide +kernel
theorem dX8_work_283 : decode cX8_work 283 = .ok (.iinc 5 1, 3) := by decide +kernel
theorem dX8_work_286 : decode cX8_work 286 = .ok (.goto (-170), 3) := by decide +kernel
theorem dX8_work_289 : decode cX8_work 289 = .ok (.aload_n 0, 1) := by decide +kernel
theorem dX8_work_290 : decode cX8_work 290 = .ok (.getfield 50, 3) := by decide +kernel
theorem dX8_work_293 : decode cX8_work 293 = .ok (.iconst 0, 1) := by decide +kernel
theorem dX8_work_294 : decode cX8_work 294 = .ok (.iaload, 1) := by decide +kernel
theorem dX8_work_295 : decode cX8_work 295 = .ok (.ireturn, 1) := by decide +kernel
theorem dX8_isWell_0 : decode cX8_isWell 0 = .ok (.aload_n 0, 1) := by decide +kernel
theorem dX8_isWell_1 : decode cX8_isWell 1 = .ok (.iconst 2, 1) := by decide +kernel
theorem dX8_isWell_2 : decode cX8_isWell 2 = .ok (.iconst 0, 1) := by decide +kernel
theorem dX8_isWell_3 : decode cX8_isWell 3 = .ok (.aload_n 0, 1) := by decide +kernel
theorem dX8_isWell_4 : decode cX8_isWell 4 = .ok (.getfield 124, 3) := by decide +kernel
theorem dX8_isWell_7 : decode cX8_isWell 7 = .ok (.invokevirtual 134, 3) := by decide +kernel
theorem dX8_isWell_10 : decode cX8_isWell 10 = .ok (.ifCond .eq 7, 3) := by decide +kernel
theorem dX8_isWell_13 : decode cX8_isWell 13 = .ok (.iconst 1, 1) := by decide +kernel
theorem dX8_isWell_14 : decode cX8_isWell 14 = .ok (.goto 4, 3) := by decide +kernel
theorem dX8_isWell_17 : decode cX8_isWell 17 = .ok (.iconst 0, 1) := by decide +kernel
theorem dX8_isWell_18 : decode cX8_isWell 18 = .ok (.ireturn, 1) := by decide +kernel
theorem dX8_well_0 : decode cX8_well 0 = .ok (.aload_n 0, 1) := by decide +kernel
theorem dX8_well_1 : decode cX8_well 1 = .ok (.invokevirtual 152, 3) := by decide +kernel
theorem dX8_well_4 : decode cX8_well 4 = .ok (.aload_n 0, 1) := by decide +kernel
theorem dX8_well_5 : decode cX8_well 5 = .ok (.invokevirtual 261, 3) := by decide +kernel
theorem dX8_well_8 : decode cX8_well 8 = .ok (.ifCond .eq 7, 3) := by decide +kernel
theorem dX8_well_11 : decode cX8_well 11 = .ok (.iconst 1, 1) := by decide +kernel
theorem dX8_well_12 : decode cX8_well 12 = .ok (.goto 4, 3) := by decide +kernel
theorem dX8_well_15 : decode cX8_well 15 = .ok (.iconst 0, 1) := by decide +kernel
theorem dX8_well_16 : decode cX8_well 16 = .ok (.ireturn, 1) := by decide +kernel
theorem dX8_go_0 : decode cX8_go 0 = .ok (.aload_n 0, 1) := by decide +kernel
theorem dX8_go_1 : decode cX8_go 1 = .ok (.iload_n 1, 1) := by decide +kernel
theorem dX8_go_2 : decode cX8_go 2 = .ok (.invokevirtual 112, 3) := by decide +kernel
theorem dX8_go_5 : decode cX8_go 5 = .ok (.ifCond .ne 6, 3) := by decide +kernel
theorem dX8_go_8 : decode cX8_go 8 = .ok (.bipush (-2), 2) := by decide +kernel
theorem dX8_go_10 : decode cX8_go 10 = .ok (.ireturn, 1) := by decide +kernel
theorem dX8_go_11 : decode cX8_go 11 = .ok (.aload_n 0, 1) := by decide +kernel
theorem dX8_go_12 : decode cX8_go 12 = .ok (.invokevirtual 152, 3) := by decide +kernel
theorem dX8_go_15 : decode cX8_go 15 = .ok (.aload_n 0, 1) := by decide +kernel
theorem dX8_go_16 : decode cX8_go 16 = .ok (.iload_n 1, 1) := by decide +kernel
theorem dX8_go_17 : decode cX8_go 17 = .ok (.invokevirtual 155, 3) := by decide +kernel
theorem dX8_go_20 : decode cX8_go 20 = .ok (.ifCond .ne 6, 3) := by decide +kernel
theorem dX8_go_23 : decode cX8_go 23 = .ok (.bipush (-3), 2) := by decide +kernel
theorem dX8_go_25 : decode cX8_go 25 = .ok (.ireturn, 1) := by decide +kernel
theorem dX8_go_26 : decode cX8_go 26 = .ok (.aload_n 0, 1) := by decide +kernel
theorem dX8_go_27 : decode cX8_go 27 = .ok (.iload_n 1, 1) := by decide +kernel
theorem dX8_go_28 : decode cX8_go 28 = .ok (.invokevirtual 264, 3) := by decide +kernel
theorem dX8_go_31 : decode cX8_go 31 = .ok (.aload_n 0, 1) := by decide +kernel
theorem dX8_go_32 : decode cX8_go 32 = .ok (.getfield 25, 3) := by decide +kernel
theorem dX8_go_35 : decode cX8_go 35 = .ok (.iload_n 1, 1) := by decide +kernel
theorem dX8_go_36 : decode cX8_go 36 = .ok (.aload_n 0, 1) := by decide +kernel
theorem dX8_go_37 : decode cX8_go 37 = .ok (.getfield 28, 3) := by decide +kernel
theorem dX8_go_40 : decode cX8_go 40 = .ok (.iload_n 1, 1) := by decide +kernel
theorem dX8_go_41 : decode cX8_go 41 = .ok (.iaload, 1) := by decide +kernel
theorem dX8_go_42 : decode cX8_go 42 = .ok (.iastore, 1) := by decide +kernel
theorem dX8_go_43 : decode cX8_go 43 = .ok (.aload_n 0, 1) := by decide +kernel
theorem dX8_go_44 : decode cX8_go 44 = .ok (.aload_n 0, 1) := by decide +kernel
theorem dX8_go_45 : decode cX8_go 45 = .ok (.getfield 121, 3) := by decide +kernel
theorem dX8_go_48 : decode cX8_go 48 = .ok (.putfield 115, 3) := by decide +kernel
theorem dX8_go_51 : decode cX8_go 51 = .ok (.aload_n 0, 1) := by decide +kernel
theorem dX8_go_52 : decode cX8_go 52 = .ok (.aload_n 0, 1) := by decide +kernel
theorem dX8_go_53 : decode cX8_go 53 = .ok (.getfield 124, 3) := by decide +kernel
theorem dX8_go_56 : decode cX8_go 56 = .ok (.putfield 109, 3) := by decide +kernel
theorem dX8_go_59 : decode cX8_go 59 = .ok (.aload_n 0, 1) := by decide +kernel
theorem dX8_go_60 : decode cX8_go 60 = .ok (.getfield 109, 3) := by decide +kernel
theorem dX8_go_63 : decode cX8_go 63 = .ok (.ireturn, 1) := by decide +kernel
theorem dX8_code_0 : decode cX8_code 0 = .ok (.aload_n 0, 1) := by decide +kernel
theorem dX8_code_1 : decode cX8_code 1 = .ok (.getfield 124, 3) := by decide +kernel
theorem dX8_code_4 : decode cX8_code 4 = .ok (.iconst 4, 1) := by decide +kernel
theorem dX8_code_5 : decode cX8_code 5 = .ok (.imul, 1) := by decide +kernel
theorem dX8_code_6 : decode cX8_code 6 = .ok (.aload_n 0, 1) := by decide +kernel
theorem dX8_code_7 : decode cX8_code 7 = .ok (.getfield 121, 3) := by decide +kernel
theorem dX8_code_10 : decode cX8_code 10 = .ok (.iadd, 1) := by decide +kernel
theorem dX8_code_11 : decode cX8_code 11 = .ok (.istore_n 1, 1) := by decide +kernel
theorem dX8_code_12 : decode cX8_code 12 = .ok (.iconst 3, 1) := by decide +kernel
theorem dX8_code_13 : decode cX8_code 13 = .ok (.istore_n 2, 1) := by decide +kernel
theorem dX8_code_14 : decode cX8_code 14 = .ok (.iload_n 2, 1) := by decide +kernel
theorem dX8_code_15 : decode cX8_code 15 = .ok (.ifCond .lt 32, 3) := by decide +kernel
theorem dX8_code_18 : decode cX8_code 18 = .ok (.iconst 4, 1) := by decide +kernel
theorem dX8_code_19 : decode cX8_code 19 = .ok (.iload_n 1, 1) := by decide +kernel
theorem dX8_code_20 : decode cX8_code 20 = .ok (.imul, 1) := by decide +kernel
theorem dX8_code_21 : decode cX8_code 21 = .ok (.iload_n 2, 1) := by decide +kernel
theorem dX8_code_22 : decode cX8_code 22 = .ok (.aload_n 0, 1) := by decide +kernel
theorem dX8_code_23 : decode cX8_code 23 = .ok (.getfield 90, 3) := by decide +kernel
theorem dX8_code_26 : decode cX8_code 26 = .ok (.if_icmp .ge 12, 3) := by decide +kernel
theorem dX8_code_29 : decode cX8_code 29 = .ok (.aload_n 0, 1) := by decide +kernel
theorem dX8_code_30 : decode cX8_code 30 = .ok (.getfield 28, 3) := by decide +kernel
theorem dX8_code_33 : decode cX8_code 33 = .ok (.iload_n 2, 1) := by decide +kernel
theorem dX8_code_34 : decode cX8_code 34 = .ok (.iaload, 1) := by decide +kernel
theorem dX8_code_35 : decode cX8_code 35 = .ok (.goto 4, 3) := by decide +kernel
theorem dX8_code_38 : decode cX8_code 38 = .ok (.iconst 0, 1) := by decide +kernel
theorem dX8_code_39 : decode cX8_code 39 = .ok (.iadd, 1) := by decide +kernel
theorem dX8_code_40 : decode cX8_code 40 = .ok (.istore_n 1, 1) := by decide +kernel
theorem dX8_code_41 : decode cX8_code 41 = .ok (.iinc 2 (-1), 3) := by decide +kernel
theorem dX8_code_44 : decode cX8_code 44 = .ok (.goto (-30), 3) := by decide +kernel
theorem dX8_code_47 : decode cX8_code 47 = .ok (.iload_n 1, 1) := by decide +kernel
theorem dX8_code_48 : decode cX8_code 48 = .ok (.ireturn, 1) := by decide +kernel
theorem dX8_takes_0 : decode cX8_takes 0 = .ok (.iload_n 1, 1) := by decide +kernel
theorem dX8_takes_1 : decode cX8_takes 1 = .ok (.istore_n 2, 1) := by decide +kernel
theorem dX8_takes_2 : decode cX8_takes 2 = .ok (.iconst 0, 1) := by decide +kernel
theorem dX8_takes_3 : decode cX8_takes 3 = .ok (.istore_n 3, 1) := by decide +kernel
theorem dX8_takes_4 : decode cX8_takes 4 = .ok (.iload_n 3, 1) := by decide +kernel
theorem dX8_takes_5 : decode cX8_takes 5 = .ok (.iconst 4, 1) := by decide +kernel
theorem dX8_takes_6 : decode cX8_takes 6 = .ok (.if_icmp .ge 22, 3) := by decide +kernel
theorem dX8_takes_9 : decode cX8_takes 9 = .ok (.aload_n 0, 1) := by decide +kernel
theorem dX8_takes_10 : decode cX8_takes 10 = .ok (.getfield 28, 3) := by decide +kernel
theorem dX8_takes_13 : decode cX8_takes 13 = .ok (.iload_n 3, 1) := by decide +kernel
theorem dX8_takes_14 : decode cX8_takes 14 = .ok (.iload_n 2, 1) := by decide +kernel
theorem dX8_takes_15 : decode cX8_takes 15 = .ok (.iconst 4, 1) := by decide +kernel
theorem dX8_takes_16 : decode cX8_takes 16 = .ok (.irem, 1) := by decide +kernel
theorem dX8_takes_17 : decode cX8_takes 17 = .ok (.iastore, 1) := by decide +kernel
theorem dX8_takes_18 : decode cX8_takes 18 = .ok (.iload_n 2, 1) := by decide +kernel
theorem dX8_takes_19 : decode cX8_takes 19 = .ok (.iconst 4, 1) := by decide +kernel
theorem dX8_takes_20 : decode cX8_takes 20 = .ok (.idiv, 1) := by decide +kernel
theorem dX8_takes_21 : decode cX8_takes 21 = .ok (.istore_n 2, 1) := by decide +kernel
theorem dX8_takes_22 : decode cX8_takes 22 = .ok (.iinc 3 1, 3) := by decide +kernel
theorem dX8_takes_25 : decode cX8_takes 25 = .ok (.goto (-21), 3) := by decide +kernel
theorem dX8_takes_28 : decode cX8_takes 28 = .ok (.aload_n 0, 1) := by decide +kernel
theorem dX8_takes_29 : decode cX8_takes 29 = .ok (.iload_n 2, 1) := by decide +kernel
theorem dX8_takes_30 : decode cX8_takes 30 = .ok (.iconst 4, 1) := by decide +kernel
theorem dX8_takes_31 : decode cX8_takes 31 = .ok (.irem, 1) := by decide +kernel
theorem dX8_takes_32 : decode cX8_takes 32 = .ok (.putfield 121, 3) := by decide +kernel
theorem dX8_takes_35 : decode cX8_takes 35 = .ok (.aload_n 0, 1) := by decide +kernel
theorem dX8_takes_36 : decode cX8_takes 36 = .ok (.iload_n 2, 1) := by decide +kernel
theorem dX8_takes_37 : decode cX8_takes 37 = .ok (.iconst 4, 1) := by decide +kernel
theorem dX8_takes_38 : decode cX8_takes 38 = .ok (.idiv, 1) := by decide +kernel
theorem dX8_takes_39 : decode cX8_takes 39 = .ok (.putfield 124, 3) := by decide +kernel
theorem dX8_takes_42 : decode cX8_takes 42 = .ok (.return_, 1) := by decide +kernel
theorem dX8_findAll_0 : decode cX8_findAll 0 = .ok (.iconst 0, 1) := by decide +kernel
theorem dX8_findAll_1 : decode cX8_findAll 1 = .ok (.istore_n 1, 1) := by decide +kernel
theorem dX8_findAll_2 : decode cX8_findAll 2 = .ok (.iload_n 1, 1) := by decide +kernel
theorem dX8_findAll_3 : decode cX8_findAll 3 = .ok (.sipush 6144, 3) := by decide +kernel
theorem dX8_findAll_6 : decode cX8_findAll 6 = .ok (.if_icmp .ge 18, 3) := by decide +kernel
theorem dX8_findAll_9 : decode cX8_findAll 9 = .ok (.aload_n 0, 1) := by decide +kernel
theorem dX8_findAll_10 : decode cX8_findAll 10 = .ok (.getfield 59, 3) := by decide +kernel
theorem dX8_findAll_13 : decode cX8_findAll 13 = .ok (.iload_n 1, 1) := by decide +kernel
theorem dX8_findAll_14 : decode cX8_findAll 14 = .ok (.ldc_w 267, 3) := by decide +kernel
theorem dX8_findAll_17 : decode cX8_findAll 17 = .ok (.iastore, 1) := by decide +kernel
theorem dX8_findAll_18 : decode cX8_findAll 18 = .ok (.iinc 1 1, 3) := by decide +kernel
theorem dX8_findAll_21 : decode cX8_findAll 21 = .ok (.goto (-19), 3) := by decide +kernel
theorem dX8_findAll_24 : decode cX8_findAll 24 = .ok (.aload_n 0, 1) := by decide +kernel
theorem dX8_findAll_25 : decode cX8_findAll 25 = .ok (.getfield 56, 3) := by decide +kernel
theorem dX8_findAll_28 : decode cX8_findAll 28 = .ok (.iconst 0, 1) := by decide +kernel
theorem dX8_findAll_29 : decode cX8_findAll 29 = .ok (.aload_n 0, 1) := by decide +kernel
theorem dX8_findAll_30 : decode cX8_findAll 30 = .ok (.invokevirtual 268, 3) := by decide +kernel
theorem dX8_findAll_33 : decode cX8_findAll 33 = .ok (.iastore, 1) := by decide +kernel
theorem dX8_findAll_34 : decode cX8_findAll 34 = .ok (.aload_n 0, 1) := by decide +kernel
theorem dX8_findAll_35 : decode cX8_findAll 35 = .ok (.getfield 59, 3) := by decide +kernel
theorem dX8_findAll_38 : decode cX8_findAll 38 = .ok (.aload_n 0, 1) := by decide +kernel
theorem dX8_findAll_39 : decode cX8_findAll 39 = .ok (.getfield 56, 3) := by decide +kernel
theorem dX8_findAll_42 : decode cX8_findAll 42 = .ok (.iconst 0, 1) := by decide +kernel
theorem dX8_findAll_43 : decode cX8_findAll 43 = .ok (.iaload, 1) := by decide +kernel
theorem dX8_findAll_44 : decode cX8_findAll 44 = .ok (.iconst 0, 1) := by decide +kernel
theorem dX8_findAll_45 : decode cX8_findAll 45 = .ok (.iastore, 1) := by decide +kernel
theorem dX8_findAll_46 : decode cX8_findAll 46 = .ok (.aload_n 0, 1) := by decide +kernel
theorem dX8_findAll_47 : decode cX8_findAll 47 = .ok (.iconst 1, 1) := by decide +kernel
theorem dX8_findAll_48 : decode cX8_findAll 48 = .ok (.putfield 271, 3) := by decide +kernel
theorem dX8_findAll_51 : decode cX8_findAll 51 = .ok (.iconst 0, 1) := by decide +kernel
theorem dX8_findAll_52 : decode cX8_findAll 52 = .ok (.istore_n 1, 1) := by decide +kernel
theorem dX8_findAll_53 : decode cX8_findAll 53 = .ok (.iload_n 1, 1) := by decide +kernel
theorem dX8_findAll_54 : decode cX8_findAll 54 = .ok (.aload_n 0, 1) := by decide +kernel
theorem dX8_findAll_55 : decode cX8_findAll 55 = .ok (.getfield 271, 3) := by decide +kernel
theorem dX8_findAll_58 : decode cX8_findAll 58 = .ok (.if_icmp .ge 128, 3) := by decide +kernel
theorem dX8_findAll_61 : decode cX8_findAll 61 = .ok (.aload_n 0, 1) := by decide +kernel
theorem dX8_findAll_62 : decode cX8_findAll 62 = .ok (.getfield 56, 3) := by decide +kernel
theorem dX8_findAll_65 : decode cX8_findAll 65 = .ok (.iload_n 1, 1) := by decide +kernel
theorem dX8_findAll_66 : decode cX8_findAll 66 = .ok (.iaload, 1) := by decide +kernel
theorem dX8_findAll_67 : decode cX8_findAll 67 = .ok (.istore_n 2, 1) := by decide +kernel
theorem dX8_findAll_68 : decode cX8_findAll 68 = .ok (.iconst 0, 1) := by decide +kernel
theorem dX8_findAll_69 : decode cX8_findAll 69 = .ok (.istore_n 3, 1) := by decide +kernel
theorem dX8_findAll_70 : decode cX8_findAll 70 = .ok (.iload_n 3, 1) := by decide +kernel
theorem dX8_findAll_71 : decode cX8_findAll 71 = .ok (.aload_n 0, 1) := by decide +kernel
theorem dX8_findAll_72 : decode cX8_findAll 72 = .ok (.getfield 90, 3) := by decide +kernel
theorem dX8_findAll_75 : decode cX8_findAll 75 = .ok (.if_icmp .ge 105, 3) := by decide +kernel
theorem dX8_findAll_78 : decode cX8_findAll 78 = .ok (.aload_n 0, 1) := by decide +kernel
theorem dX8_findAll_79 : decode cX8_findAll 79 = .ok (.iload_n 2, 1) := by decide +kernel
theorem dX8_findAll_80 : decode cX8_findAll 80 = .ok (.invokevirtual 274, 3) := by decide +kernel
theorem dX8_findAll_83 : decode cX8_findAll 83 = .ok (.aload_n 0, 1) := by decide +kernel
theorem dX8_findAll_84 : decode cX8_findAll 84 = .ok (.getfield 62, 3) := by decide +kernel
theorem dX8_findAll_87 : decode cX8_findAll 87 = .ok (.iconst 4, 1) := by decide +kernel
theorem dX8_findAll_88 : decode cX8_findAll 88 = .ok (.iload_n 2, 1) := by decide +kernel
theorem dX8_findAll_89 : decode cX8_findAll 89 = .ok (.imul, 1) := by decide +kernel
theorem dX8_findAll_90 : decode cX8_findAll 90 = .ok (.iload_n 3, 1) := by decide +kernel
theorem dX8_findAll_91 : decode cX8_findAll 91 = .ok (.iadd, 1) := by decide +kernel
theorem dX8_findAll_92 : decode cX8_findAll 92 = .ok (.iconst (-1), 1) := by decide +kernel
theorem dX8_findAll_93 : decode cX8_findAll 93 = .ok (.iastore, 1) := by decide +kernel
theorem dX8_findAll_94 : decode cX8_findAll 94 = .ok (.aload_n 0, 1) := by decide +kernel
theorem dX8_findAll_95 : decode cX8_findAll 95 = .ok (.iload_n 3, 1) := by decide +kernel
theorem dX8_findAll_96 : decode cX8_findAll 96 = .ok (.invokevirtual 155, 3) := by decide +kernel
theorem dX8_findAll_99 : decode cX8_findAll 99 = .ok (.ifCond .eq 75, 3) := by decide +kernel
theorem dX8_findAll_102 : decode cX8_findAll 102 = .ok (.aload_n 0, 1) := by decide +kernel
theorem dX8_findAll_103 : decode cX8_findAll 103 = .ok (.iload_n 3, 1) := by decide +kernel
theorem dX8_findAll_104 : decode cX8_findAll 104 = .ok (.invokevirtual 264, 3) := by decide +kernel
theorem dX8_findAll_107 : decode cX8_findAll 107 = .ok (.aload_n 0, 1) := by decide +kernel
theorem dX8_findAll_108 : decode cX8_findAll 108 = .ok (.invokevirtual 268, 3) := by decide +kernel
theorem dX8_findAll_111 : decode cX8_findAll 111 = .ok (.istore 4, 2) := by decide +kernel
theorem dX8_findAll_113 : decode cX8_findAll 113 = .ok (.aload_n 0, 1) := by decide +kernel
theorem dX8_findAll_114 : decode cX8_findAll 114 = .ok (.getfield 62, 3) := by decide +kernel
theorem dX8_findAll_117 : decode cX8_findAll 117 = .ok (.iconst 4, 1) := by decide +kernel
theorem dX8_findAll_118 : decode cX8_findAll 118 = .ok (.iload_n 2, 1) := by decide +kernel
theorem dX8_findAll_119 : decode cX8_findAll 119 = .ok (.imul, 1) := by decide +kernel
theorem dX8_findAll_120 : decode cX8_findAll 120 = .ok (.iload_n 3, 1) := by decide +kernel
theorem dX8_findAll_121 : decode cX8_findAll 121 = .ok (.iadd, 1) := by decide +kernel
theorem dX8_findAll_122 : decode cX8_findAll 122 = .ok (.iload 4, 2) := by decide +kernel
theorem dX8_findAll_124 : decode cX8_findAll 124 = .ok (.iastore, 1) := by decide +kernel
theorem dX8_findAll_125 : decode cX8_findAll 125 = .ok (.aload_n 0, 1) := by decide +kernel
theorem dX8_findAll_126 : decode cX8_findAll 126 = .ok (.getfield 59, 3) := by decide +kernel
theorem dX8_findAll_129 : decode cX8_findAll 129 = .ok (.iload 4, 2) := by decide +kernel
theorem dX8_findAll_131 : decode cX8_findAll 131 = .ok (.iaload, 1) := by decide +kernel
theorem dX8_findAll_132 : decode cX8_findAll 132 = .ok (.ldc_w 267, 3) := by decide +kernel
theorem dX8_findAll_135 : decode cX8_findAll 135 = .ok (.if_icmp .ne 39, 3) := by decide +kernel
theorem dX8_findAll_138 : decode cX8_findAll 138 = .ok (.aload_n 0, 1) := by decide +kernel
theorem dX8_findAll_139 : decode cX8_findAll 139 = .ok (.getfield 59, 3) := by decide +kernel
theorem dX8_findAll_142 : decode cX8_findAll 142 = .ok (.iload 4, 2) := by decide +kernel
theorem dX8_findAll_144 : decode cX8_findAll 144 = .ok (.aload_n 0, 1) := by decide +kernel
theorem dX8_findAll_145 : decode cX8_findAll 145 = .ok (.getfield 59, 3) := by decide +kernel
theorem dX8_findAll_148 : decode cX8_findAll 148 = .ok (.iload_n 2, 1) := by decide +kernel
theorem dX8_findAll_149 : decode cX8_findAll 149 = .ok (.iaload, 1) := by decide +kernel
theorem dX8_findAll_150 : decode cX8_findAll 150 = .ok (.iconst 1, 1) := by decide +kernel
theorem dX8_findAll_151 : decode cX8_findAll 151 = .ok (.iadd, 1) := by decide +kernel
theorem dX8_findAll_152 : decode cX8_findAll 152 = .ok (.iastore, 1) := by decide +kernel
theorem dX8_findAll_153 : decode cX8_findAll 153 = .ok (.aload_n 0, 1) := by decide +kernel
theorem dX8_findAll_154 : decode cX8_findAll 154 = .ok (.getfield 56, 3) := by decide +kernel
theorem dX8_findAll_157 : decode cX8_findAll 157 = .ok (.aload_n 0, 1) := by decide +kernel
theorem dX8_findAll_158 : decode cX8_findAll 158 = .ok (.getfield 271, 3) := by decide +kernel
theorem dX8_findAll_161 : decode cX8_findAll 161 = .ok (.iload 4, 2) := by decide +kernel
theorem dX8_findAll_163 : decode cX8_findAll 163 = .ok (.iastore, 1) := by decide +kernel
theorem dX8_findAll_164 : decode cX8_findAll 164 = .ok (.aload_n 0, 1) := by decide +kernel
theorem dX8_findAll_165 : decode cX8_findAll 165 = .ok (.dup, 1) := by decide +kernel
theorem dX8_findAll_166 : decode cX8_findAll 166 = .ok (.getfield 271, 3) := by decide +kernel
theorem dX8_findAll_169 : decode cX8_findAll 169 = .ok (.iconst 1, 1) := by decide +kernel
theorem dX8_findAll_170 : decode cX8_findAll 170 = .ok (.iadd, 1) := by decide +kernel
theorem dX8_findAll_171 : decode cX8_findAll 171 = .ok (.putfield 271, 3) := by decide +kernel
theorem dX8_findAll_174 : decode cX8_findAll 174 = .ok (.iinc 3 1, 3) := by decide +kernel
theorem dX8_findAll_177 : decode cX8_findAll 177 = .ok (.goto (-107), 3) := by decide +kernel
theorem dX8_findAll_180 : decode cX8_findAll 180 = .ok (.iinc 1 1, 3) := by decide +kernel
theorem dX8_findAll_183 : decode cX8_findAll 183 = .ok (.goto (-130), 3) := by decide +kernel
theorem dX8_findAll_186 : decode cX8_findAll 186 = .ok (.return_, 1) := by decide +kernel
theorem dX8_roomOf_0 : decode cX8_roomOf 0 = .ok (.iload_n 0, 1) := by decide +kernel
theorem dX8_roomOf_1 : decode cX8_roomOf 1 = .ok (.sipush 1024, 3) := by decide +kernel
theorem dX8_roomOf_4 : decode cX8_roomOf 4 = .ok (.idiv, 1) := by decide +kernel
theorem dX8_roomOf_5 : decode cX8_roomOf 5 = .ok (.ireturn, 1) := by decide +kernel
theorem dX8_roomsCome_0 : decode cX8_roomsCome 0 = .ok (.iconst 0, 1) := by decide +kernel
theorem dX8_roomsCome_1 : decode cX8_roomsCome 1 = .ok (.istore_n 1, 1) := by decide +kernel
theorem dX8_roomsCome_2 : decode cX8_roomsCome 2 = .ok (.iconst 0, 1) := by decide +kernel
theorem dX8_roomsCome_3 : decode cX8_roomsCome 3 = .ok (.istore_n 2, 1) := by decide +kernel
theorem dX8_roomsCome_4 : decode cX8_roomsCome 4 = .ok (.iload_n 2, 1) := by decide +kernel
theorem dX8_roomsCome_5 : decode cX8_roomsCome 5 = .ok (.aload_n 0, 1) := by decide +kernel
theorem dX8_roomsCome_6 : decode cX8_roomsCome 6 = .ok (.getfield 271, 3) := by decide +kernel
theorem dX8_roomsCome_9 : decode cX8_roomsCome 9 = .ok (.if_icmp .ge 23, 3) := by decide +kernel
theorem dX8_roomsCome_12 : decode cX8_roomsCome 12 = .ok (.iload_n 1, 1) := by decide +kernel
theorem dX8_roomsCome_13 : decode cX8_roomsCome 13 = .ok (.iconst 1, 1) := by decide +kernel
theorem dX8_roomsCome_14 : decode cX8_roomsCome 14 = .ok (.aload_n 0, 1) := by decide +kernel
theorem dX8_roomsCome_15 : decode cX8_roomsCome 15 = .ok (.getfield 56, 3) := by decide +kernel
theorem dX8_roomsCome_18 : decode cX8_roomsCome 18 = .ok (.iload_n 2, 1) := by decide +kernel
theorem dX8_roomsCome_19 : decode cX8_roomsCome 19 = .ok (.iaload, 1) := by decide +kernel
theorem dX8_roomsCome_20 : decode cX8_roomsCome 20 = .ok (.invokestatic 277, 3) := by decide +kernel
theorem dX8_roomsCome_23 : decode cX8_roomsCome 23 = .ok (.ishl, 1) := by decide +kernel
theorem dX8_roomsCome_24 : decode cX8_roomsCome 24 = .ok (.ior, 1) := by decide +kernel
theorem dX8_roomsCome_25 : decode cX8_roomsCome 25 = .ok (.istore_n 1, 1) := by decide +kernel
theorem dX8_roomsCome_26 : decode cX8_roomsCome 26 = .ok (.iinc 2 1, 3) := by decide +kernel
theorem dX8_roomsCome_29 : decode cX8_roomsCome 29 = .ok (.goto (-25), 3) := by decide +kernel
theorem dX8_roomsCome_32 : decode cX8_roomsCome 32 = .ok (.iload_n 1, 1) := by decide +kernel
theorem dX8_roomsCome_33 : decode cX8_roomsCome 33 = .ok (.ireturn, 1) := by decide +kernel
theorem dX8_isLast_0 : decode cX8_isLast 0 = .ok (.iconst 0, 1) := by decide +kernel
theorem dX8_isLast_1 : decode cX8_isLast 1 = .ok (.istore_n 2, 1) := by decide +kernel
theorem dX8_isLast_2 : decode cX8_isLast 2 = .ok (.iload_n 2, 1) := by decide +kernel
theorem dX8_isLast_3 : decode cX8_isLast 3 = .ok (.aload_n 0, 1) := by decide +kernel
theorem dX8_isLast_4 : decode cX8_isLast 4 = .ok (.getfield 90, 3) := by decide +kernel
theorem dX8_isLast_7 : decode cX8_isLast 7 = .ok (.if_icmp .ge 24, 3) := by decide +kernel
theorem dX8_isLast_10 : decode cX8_isLast 10 = .ok (.aload_n 0, 1) := by decide +kernel
theorem dX8_isLast_11 : decode cX8_isLast 11 = .ok (.getfield 62, 3) := by decide +kernel
theorem dX8_isLast_14 : decode cX8_isLast 14 = .ok (.iconst 4, 1) := by decide +kernel
theorem dX8_isLast_15 : decode cX8_isLast 15 = .ok (.iload_n 1, 1) := by decide +kernel
theorem dX8_isLast_16 : decode cX8_isLast 16 = .ok (.imul, 1) := by decide +kernel
theorem dX8_isLast_17 : decode cX8_isLast 17 = .ok (.iload_n 2, 1) := by decide +kernel
theorem dX8_isLast_18 : decode cX8_isLast 18 = .ok (.iadd, 1) := by decide +kernel
theorem dX8_isLast_19 : decode cX8_isLast 19 = .ok (.iaload, 1) := by decide +kernel
theorem dX8_isLast_20 : decode cX8_isLast 20 = .ok (.ifCond .lt 5, 3) := by decide +kernel
theorem dX8_isLast_23 : decode cX8_isLast 23 = .ok (.iconst 0, 1) := by decide +kernel
theorem dX8_isLast_24 : decode cX8_isLast 24 = .ok (.ireturn, 1) := by decide +kernel
theorem dX8_isLast_25 : decode cX8_isLast 25 = .ok (.iinc 2 1, 3) := by decide +kernel
theorem dX8_isLast_28 : decode cX8_isLast 28 = .ok (.goto (-26), 3) := by decide +kernel
theorem dX8_isLast_31 : decode cX8_isLast 31 = .ok (.iconst 1, 1) := by decide +kernel
theorem dX8_isLast_32 : decode cX8_isLast 32 = .ok (.ireturn, 1) := by decide +kernel
theorem dX8_come_0 : decode cX8_come 0 = .ok (.iload_n 1, 1) := by decide +kernel
theorem dX8_come_1 : decode cX8_come 1 = .ok (.i2l, 1) := by decide +kernel
theorem dX8_come_2 : decode cX8_come 2 = .ok (.lconst 0, 1) := by decide +kernel
theorem dX8_come_3 : decode cX8_come 3 = .ok (.ldc2_w 103, 3) := by decide +kernel
theorem dX8_come_6 : decode cX8_come 6 = .ok (.invokestatic 93, 3) := by decide +kernel
theorem dX8_come_9 : decode cX8_come 9 = .ok (.ifCond .ne 6, 3) := by decide +kernel
theorem dX8_come_12 : decode cX8_come 12 = .ok (.bipush (-2), 2) := by decide +kernel
theorem dX8_come_14 : decode cX8_come 14 = .ok (.ireturn, 1) := by decide +kernel
theorem dX8_come_15 : decode cX8_come 15 = .ok (.aload_n 0, 1) := by decide +kernel
theorem dX8_come_16 : decode cX8_come 16 = .ok (.invokevirtual 152, 3) := by decide +kernel
theorem dX8_come_19 : decode cX8_come 19 = .ok (.aload_n 0, 1) := by decide +kernel
theorem dX8_come_20 : decode cX8_come 20 = .ok (.invokevirtual 280, 3) := by decide +kernel
theorem dX8_come_23 : decode cX8_come 23 = .ok (.iload_n 1, 1) := by decide +kernel
theorem dX8_come_24 : decode cX8_come 24 = .ok (.ifCond .ne 8, 3) := by decide +kernel
theorem dX8_come_27 : decode cX8_come 27 = .ok (.aload_n 0, 1) := by decide +kernel
theorem dX8_come_28 : decode cX8_come 28 = .ok (.invokevirtual 283, 3) := by decide +kernel
theorem dX8_come_31 : decode cX8_come 31 = .ok (.ireturn, 1) := by decide +kernel
theorem dX8_come_32 : decode cX8_come 32 = .ok (.iload_n 1, 1) := by decide +kernel
theorem dX8_come_33 : decode cX8_come 33 = .ok (.iconst 1, 1) := by decide +kernel
theorem dX8_come_34 : decode cX8_come 34 = .ok (.if_icmp .ne 8, 3) := by decide +kernel
theorem dX8_come_37 : decode cX8_come 37 = .ok (.aload_n 0, 1) := by decide +kernel
theorem dX8_come_38 : decode cX8_come 38 = .ok (.getfield 271, 3) := by decide +kernel
theorem dX8_come_41 : decode cX8_come 41 = .ok (.ireturn, 1) := by decide +kernel
theorem dX8_come_42 : decode cX8_come 42 = .ok (.iload_n 1, 1) := by decide +kernel
theorem dX8_come_43 : decode cX8_come 43 = .ok (.iconst 2, 1) := by decide +kernel
theorem dX8_come_44 : decode cX8_come 44 = .ok (.if_icmp .ne 20, 3) := by decide +kernel
theorem dX8_come_47 : decode cX8_come 47 = .ok (.aload_n 0, 1) := by decide +kernel
theorem dX8_come_48 : decode cX8_come 48 = .ok (.getfield 59, 3) := by decide +kernel
theorem dX8_come_51 : decode cX8_come 51 = .ok (.aload_n 0, 1) := by decide +kernel
theorem dX8_come_52 : decode cX8_come 52 = .ok (.getfield 56, 3) := by decide +kernel
theorem dX8_come_55 : decode cX8_come 55 = .ok (.aload_n 0, 1) := by decide +kernel
theorem dX8_come_56 : decode cX8_come 56 = .ok (.getfield 271, 3) := by decide +kernel
theorem dX8_come_59 : decode cX8_come 59 = .ok (.iconst 1, 1) := by decide +kernel
theorem dX8_come_60 : decode cX8_come 60 = .ok (.isub, 1) := by decide +kernel
theorem dX8_come_61 : decode cX8_come 61 = .ok (.iaload, 1) := by decide +kernel
theorem dX8_come_62 : decode cX8_come 62 = .ok (.iaload, 1) := by decide +kernel
theorem dX8_come_63 : decode cX8_come 63 = .ok (.ireturn, 1) := by decide +kernel
theorem dX8_come_64 : decode cX8_come 64 = .ok (.iconst 0, 1) := by decide +kernel
theorem dX8_come_65 : decode cX8_come 65 = .ok (.istore_n 2, 1) := by decide +kernel
theorem dX8_come_66 : decode cX8_come 66 = .ok (.iconst 0, 1) := by decide +kernel
theorem dX8_come_67 : decode cX8_come 67 = .ok (.istore_n 3, 1) := by decide +kernel
theorem dX8_come_68 : decode cX8_come 68 = .ok (.iload_n 3, 1) := by decide +kernel
theorem dX8_come_69 : decode cX8_come 69 = .ok (.aload_n 0, 1) := by decide +kernel
theorem dX8_come_70 : decode cX8_come 70 = .ok (.getfield 271, 3) := by decide +kernel
theorem dX8_come_73 : decode cX8_come 73 = .ok (.if_icmp .ge 30, 3) := by decide +kernel
theorem dX8_come_76 : decode cX8_come 76 = .ok (.iload_n 2, 1) := by decide +kernel
theorem dX8_come_77 : decode cX8_come 77 = .ok (.aload_n 0, 1) := by decide +kernel
theorem dX8_come_78 : decode cX8_come 78 = .ok (.aload_n 0, 1) := by decide +kernel
theorem dX8_come_79 : decode cX8_come 79 = .ok (.getfield 56, 3) := by decide +kernel
theorem dX8_come_82 : decode cX8_come 82 = .ok (.iload_n 3, 1) := by decide +kernel
theorem dX8_come_83 : decode cX8_come 83 = .ok (.iaload, 1) := by decide +kernel
theorem dX8_come_84 : decode cX8_come 84 = .ok (.invokevirtual 286, 3) := by decide +kernel
theorem dX8_come_87 : decode cX8_come 87 = .ok (.ifCond .eq 7, 3) := by decide +kernel
theorem dX8_come_90 : decode cX8_come 90 = .ok (.iconst 1, 1) := by decide +kernel
theorem dX8_come_91 : decode cX8_come 91 = .ok (.goto 4, 3) := by decide +kernel
theorem dX8_come_94 : decode cX8_come 94 = .ok (.iconst 0, 1) := by decide +kernel
theorem dX8_come_95 : decode cX8_come 95 = .ok (.iadd, 1) := by decide +kernel
theorem dX8_come_96 : decode cX8_come 96 = .ok (.istore_n 2, 1) := by decide +kernel
theorem dX8_come_97 : decode cX8_come 97 = .ok (.iinc 3 1, 3) := by decide +kernel
theorem dX8_come_100 : decode cX8_come 100 = .ok (.goto (-32), 3) := by decide +kernel
theorem dX8_come_103 : decode cX8_come 103 = .ok (.iload_n 2, 1) := by decide +kernel
theorem dX8_come_104 : decode cX8_come 104 = .ok (.ireturn, 1) := by decide +kernel
theorem dX8_shortestTo_0 : decode cX8_shortestTo 0 = .ok (.iconst 0, 1) := by decide +kernel
theorem dX8_shortestTo_1 : decode cX8_shortestTo 1 = .ok (.istore_n 2, 1) := by decide +kernel
theorem dX8_shortestTo_2 : decode cX8_shortestTo 2 = .ok (.iload_n 2, 1) := by decide +kernel
theorem dX8_shortestTo_3 : decode cX8_shortestTo 3 = .ok (.aload_n 0, 1) := by decide +kernel
theorem dX8_shortestTo_4 : decode cX8_shortestTo 4 = .ok (.getfield 271, 3) := by decide +kernel
theorem dX8_shortestTo_7 : decode cX8_shortestTo 7 = .ok (.if_icmp .ge 34, 3) := by decide +kernel
theorem dX8_shortestTo_10 : decode cX8_shortestTo 10 = .ok (.aload_n 0, 1) := by decide +kernel
theorem dX8_shortestTo_11 : decode cX8_shortestTo 11 = .ok (.getfield 56, 3) := by decide +kernel
theorem dX8_shortestTo_14 : decode cX8_shortestTo 14 = .ok (.iload_n 2, 1) := by decide +kernel
theorem dX8_shortestTo_15 : decode cX8_shortestTo 15 = .ok (.iaload, 1) := by decide +kernel
theorem dX8_shortestTo_16 : decode cX8_shortestTo 16 = .ok (.invokestatic 277, 3) := by decide +kernel
theorem dX8_shortestTo_19 : decode cX8_shortestTo 19 = .ok (.iload_n 1, 1) := by decide +kernel
theorem dX8_shortestTo_20 : decode cX8_shortestTo 20 = .ok (.if_icmp .ne 15, 3) := by decide +kernel
theorem dX8_shortestTo_23 : decode cX8_shortestTo 23 = .ok (.aload_n 0, 1) := by decide +kernel
theorem dX8_shortestTo_24 : decode cX8_shortestTo 24 = .ok (.getfield 59, 3) := by decide +kernel
theorem dX8_shortestTo_27 : decode cX8_shortestTo 27 = .ok (.aload_n 0, 1) := by decide +kernel
theorem dX8_shortestTo_28 : decode cX8_shortestTo 28 = .ok (.getfield 56, 3) := by decide +kernel
theorem dX8_shortestTo_31 : decode cX8_shortestTo 31 = .ok (.iload_n 2, 1) := by decide +kernel
theorem dX8_shortestTo_32 : decode cX8_shortestTo 32 = .ok (.iaload, 1) := by decide +kernel
theorem dX8_shortestTo_33 : decode cX8_shortestTo 33 = .ok (.iaload, 1) := by decide +kernel
theorem dX8_shortestTo_34 : decode cX8_shortestTo 34 = .ok (.ireturn, 1) := by decide +kernel
theorem dX8_shortestTo_35 : decode cX8_shortestTo 35 = .ok (.iinc 2 1, 3) := by decide +kernel
theorem dX8_shortestTo_38 : decode cX8_shortestTo 38 = .ok (.goto (-36), 3) := by decide +kernel
theorem dX8_shortestTo_41 : decode cX8_shortestTo 41 = .ok (.iconst (-1), 1) := by decide +kernel
theorem dX8_shortestTo_42 : decode cX8_shortestTo 42 = .ok (.ireturn, 1) := by decide +kernel
theorem dX8_shortest_0 : decode cX8_shortest 0 = .ok (.aload_n 0, 1) := by decide +kernel
theorem dX8_shortest_1 : decode cX8_shortest 1 = .ok (.iload_n 1, 1) := by decide +kernel
theorem dX8_shortest_2 : decode cX8_shortest 2 = .ok (.invokevirtual 99, 3) := by decide +kernel
theorem dX8_shortest_5 : decode cX8_shortest 5 = .ok (.ifCond .ne 6, 3) := by decide +kernel
theorem dX8_shortest_8 : decode cX8_shortest 8 = .ok (.bipush (-2), 2) := by decide +kernel
theorem dX8_shortest_10 : decode cX8_shortest 10 = .ok (.ireturn, 1) := by decide +kernel
theorem dX8_shortest_11 : decode cX8_shortest 11 = .ok (.aload_n 0, 1) := by decide +kernel
theorem dX8_shortest_12 : decode cX8_shortest 12 = .ok (.invokevirtual 152, 3) := by decide +kernel
theorem dX8_shortest_15 : decode cX8_shortest 15 = .ok (.aload_n 0, 1) := by decide +kernel
theorem dX8_shortest_16 : decode cX8_shortest 16 = .ok (.invokevirtual 280, 3) := by decide +kernel
theorem dX8_shortest_19 : decode cX8_shortest 19 = .ok (.aload_n 0, 1) := by decide +kernel
theorem dX8_shortest_20 : decode cX8_shortest 20 = .ok (.iload_n 1, 1) := by decide +kernel
theorem dX8_shortest_21 : decode cX8_shortest 21 = .ok (.invokevirtual 289, 3) := by decide +kernel
theorem dX8_shortest_24 : decode cX8_shortest 24 = .ok (.ireturn, 1) := by decide +kernel
theorem dX8_findStill_0 : decode cX8_findStill 0 = .ok (.iconst 0, 1) := by decide +kernel
theorem dX8_findStill_1 : decode cX8_findStill 1 = .ok (.istore_n 2, 1) := by decide +kernel
theorem dX8_findStill_2 : decode cX8_findStill 2 = .ok (.iload_n 2, 1) := by decide +kernel
theorem dX8_findStill_3 : decode cX8_findStill 3 = .ok (.aload_n 0, 1) := by decide +kernel
theorem dX8_findStill_4 : decode cX8_findStill 4 = .ok (.getfield 271, 3) := by decide +kernel
theorem dX8_findStill_7 : decode cX8_findStill 7 = .ok (.if_icmp .ge 40, 3) := by decide +kernel
theorem dX8_findStill_10 : decode cX8_findStill 10 = .ok (.aload_n 0, 1) := by decide +kernel
theorem dX8_findStill_11 : decode cX8_findStill 11 = .ok (.getfield 65, 3) := by decide +kernel
theorem dX8_findStill_14 : decode cX8_findStill 14 = .ok (.aload_n 0, 1) := by decide +kernel
theorem dX8_findStill_15 : decode cX8_findStill 15 = .ok (.getfield 56, 3) := by decide +kernel
theorem dX8_findStill_18 : decode cX8_findStill 18 = .ok (.iload_n 2, 1) := by decide +kernel
theorem dX8_findStill_19 : decode cX8_findStill 19 = .ok (.iaload, 1) := by decide +kernel
theorem dX8_findStill_20 : decode cX8_findStill 20 = .ok (.aload_n 0, 1) := by decide +kernel
theorem dX8_findStill_21 : decode cX8_findStill 21 = .ok (.getfield 56, 3) := by decide +kernel
theorem dX8_findStill_24 : decode cX8_findStill 24 = .ok (.iload_n 2, 1) := by decide +kernel
theorem dX8_findStill_25 : decode cX8_findStill 25 = .ok (.iaload, 1) := by decide +kernel
theorem dX8_findStill_26 : decode cX8_findStill 26 = .ok (.invokestatic 277, 3) := by decide +kernel
theorem dX8_findStill_29 : decode cX8_findStill 29 = .ok (.iload_n 1, 1) := by decide +kernel
theorem dX8_findStill_30 : decode cX8_findStill 30 = .ok (.if_icmp .ne 7, 3) := by decide +kernel
theorem dX8_findStill_33 : decode cX8_findStill 33 = .ok (.iconst 0, 1) := by decide +kernel
theorem dX8_findStill_34 : decode cX8_findStill 34 = .ok (.goto 6, 3) := by decide +kernel
theorem dX8_findStill_37 : decode cX8_findStill 37 = .ok (.ldc_w 267, 3) := by decide +kernel
theorem dX8_findStill_40 : decode cX8_findStill 40 = .ok (.iastore, 1) := by decide +kernel
theorem dX8_findStill_41 : decode cX8_findStill 41 = .ok (.iinc 2 1, 3) := by decide +kernel
theorem dX8_findStill_44 : decode cX8_findStill 44 = .ok (.goto (-42), 3) := by decide +kernel
theorem dX8_findStill_47 : decode cX8_findStill 47 = .ok (.iconst 1, 1) := by decide +kernel
theorem dX8_findStill_48 : decode cX8_findStill 48 = .ok (.istore_n 2, 1) := by decide +kernel
theorem dX8_findStill_49 : decode cX8_findStill 49 = .ok (.iload_n 2, 1) := by decide +kernel
theorem dX8_findStill_50 : decode cX8_findStill 50 = .ok (.ifCond .eq 107, 3) := by decide +kernel
theorem dX8_findStill_53 : decode cX8_findStill 53 = .ok (.iconst 0, 1) := by decide +kernel
theorem dX8_findStill_54 : decode cX8_findStill 54 = .ok (.istore_n 2, 1) := by decide +kernel
theorem dX8_findStill_55 : decode cX8_findStill 55 = .ok (.aload_n 0, 1) := by decide +kernel
theorem dX8_findStill_56 : decode cX8_findStill 56 = .ok (.getfield 271, 3) := by decide +kernel
theorem dX8_findStill_59 : decode cX8_findStill 59 = .ok (.iconst 1, 1) := by decide +kernel
theorem dX8_findStill_60 : decode cX8_findStill 60 = .ok (.isub, 1) := by decide +kernel
theorem dX8_findStill_61 : decode cX8_findStill 61 = .ok (.istore_n 3, 1) := by decide +kernel
theorem dX8_findStill_62 : decode cX8_findStill 62 = .ok (.iload_n 3, 1) := by decide +kernel
theorem dX8_findStill_63 : decode cX8_findStill 63 = .ok (.ifCond .lt 91, 3) := by decide +kernel
theorem dX8_findStill_66 : decode cX8_findStill 66 = .ok (.aload_n 0, 1) := by decide +kernel
theorem dX8_findStill_67 : decode cX8_findStill 67 = .ok (.getfield 56, 3) := by decide +kernel
theorem dX8_findStill_70 : decode cX8_findStill 70 = .ok (.iload_n 3, 1) := by decide +kernel
theorem dX8_findStill_71 : decode cX8_findStill 71 = .ok (.iaload, 1) := by decide +kernel
theorem dX8_findStill_72 : decode cX8_findStill 72 = .ok (.istore 4, 2) := by decide +kernel
theorem dX8_findStill_74 : decode cX8_findStill 74 = .ok (.iconst 0, 1) := by decide +kernel
theorem dX8_findStill_75 : decode cX8_findStill 75 = .ok (.istore 5, 2) := by decide +kernel
theorem dX8_findStill_77 : decode cX8_findStill 77 = .ok (.iload 5, 2) := by decide +kernel
theorem dX8_findStill_79 : decode cX8_findStill 79 = .ok (.aload_n 0, 1) := by decide +kernel
theorem dX8_findStill_80 : decode cX8_findStill 80 = .ok (.getfield 90, 3) := by decide +kernel
theorem dX8_findStill_83 : decode cX8_findStill 83 = .ok (.if_icmp .ge 65, 3) := by decide +kernel
theorem dX8_findStill_86 : decode cX8_findStill 86 = .ok (.aload_n 0, 1) := by decide +kernel
theorem dX8_findStill_87 : decode cX8_findStill 87 = .ok (.getfield 62, 3) := by decide +kernel
theorem dX8_findStill_90 : decode cX8_findStill 90 = .ok (.iconst 4, 1) := by decide +kernel
theorem dX8_findStill_91 : decode cX8_findStill 91 = .ok (.iload 4, 2) := by decide +kernel
theorem dX8_findStill_93 : decode cX8_findStill 93 = .ok (.imul, 1) := by decide +kernel
theorem dX8_findStill_94 : decode cX8_findStill 94 = .ok (.iload 5, 2) := by decide +kernel
theorem dX8_findStill_96 : decode cX8_findStill 96 = .ok (.iadd, 1) := by decide +kernel
theorem dX8_findStill_97 : decode cX8_findStill 97 = .ok (.iaload, 1) := by decide +kernel
theorem dX8_findStill_98 : decode cX8_findStill 98 = .ok (.istore 6, 2) := by decide +kernel
theorem dX8_findStill_100 : decode cX8_findStill 100 = .ok (.iload 6, 2) := by decide +kernel
theorem dX8_findStill_102 : decode cX8_findStill 102 = .ok (.ifCond .lt 40, 3) := by decide +kernel
theorem dX8_findStill_105 : decode cX8_findStill 105 = .ok (.aload_n 0, 1) := by decide +kernel
theorem dX8_findStill_106 : decode cX8_findStill 106 = .ok (.getfield 65, 3) := by decide +kernel
theorem dX8_findStill_109 : decode cX8_findStill 109 = .ok (.iload 6, 2) := by decide +kernel
theorem dX8_findStill_111 : decode cX8_findStill 111 = .ok (.iaload, 1) := by decide +kernel
theorem dX8_findStill_112 : decode cX8_findStill 112 = .ok (.iconst 1, 1) := by decide +kernel
theorem dX8_findStill_113 : decode cX8_findStill 113 = .ok (.iadd, 1) := by decide +kernel
theorem dX8_findStill_114 : decode cX8_findStill 114 = .ok (.aload_n 0, 1) := by decide +kernel
theorem dX8_findStill_115 : decode cX8_findStill 115 = .ok (.getfield 65, 3) := by decide +kernel
theorem dX8_findStill_118 : decode cX8_findStill 118 = .ok (.iload 4, 2) := by decide +kernel
theorem dX8_findStill_120 : decode cX8_findStill 120 = .ok (.iaload, 1) := by decide +kernel
theorem dX8_findStill_121 : decode cX8_findStill 121 = .ok (.if_icmp .ge 21, 3) := by decide +kernel
theorem dX8_findStill_124 : decode cX8_findStill 124 = .ok (.aload_n 0, 1) := by decide +kernel
theorem dX8_findStill_125 : decode cX8_findStill 125 = .ok (.getfield 65, 3) := by decide +kernel
theorem dX8_findStill_128 : decode cX8_findStill 128 = .ok (.iload 4, 2) := by decide +kernel
theorem dX8_findStill_130 : decode cX8_findStill 130 = .ok (.aload_n 0, 1) := by decide +kernel
theorem dX8_findStill_131 : decode cX8_findStill 131 = .ok (.getfield 65, 3) := by decide +kernel
theorem dX8_findStill_134 : decode cX8_findStill 134 = .ok (.iload 6, 2) := by decide +kernel
theorem dX8_findStill_136 : decode cX8_findStill 136 = .ok (.iaload, 1) := by decide +kernel
theorem dX8_findStill_137 : decode cX8_findStill 137 = .ok (.iconst 1, 1) := by decide +kernel
theorem dX8_findStill_138 : decode cX8_findStill 138 = .ok (.iadd, 1) := by decide +kernel
theorem dX8_findStill_139 : decode cX8_findStill 139 = .ok (.iastore, 1) := by decide +kernel
theorem dX8_findStill_140 : decode cX8_findStill 140 = .ok (.iconst 1, 1) := by decide +kernel
theorem dX8_findStill_141 : decode cX8_findStill 141 = .ok (.istore_n 2, 1) := by decide +kernel
theorem dX8_findStill_142 : decode cX8_findStill 142 = .ok (.iinc 5 1, 3) := by decide +kernel
theorem dX8_findStill_145 : decode cX8_findStill 145 = .ok (.goto (-68), 3) := by decide +kernel
theorem dX8_findStill_148 : decode cX8_findStill 148 = .ok (.iinc 3 (-1), 3) := by decide +kernel
theorem dX8_findStill_151 : decode cX8_findStill 151 = .ok (.goto (-89), 3) := by decide +kernel
theorem dX8_findStill_154 : decode cX8_findStill 154 = .ok (.goto (-105), 3) := by decide +kernel
theorem dX8_findStill_157 : decode cX8_findStill 157 = .ok (.return_, 1) := by decide +kernel
theorem dX8_first_0 : decode cX8_first 0 = .ok (.aload_n 0, 1) := by decide +kernel
theorem dX8_first_1 : decode cX8_first 1 = .ok (.iload_n 1, 1) := by decide +kernel
theorem dX8_first_2 : decode cX8_first 2 = .ok (.invokevirtual 99, 3) := by decide +kernel
theorem dX8_first_5 : decode cX8_first 5 = .ok (.ifCond .ne 6, 3) := by decide +kernel
theorem dX8_first_8 : decode cX8_first 8 = .ok (.bipush (-2), 2) := by decide +kernel
theorem dX8_first_10 : decode cX8_first 10 = .ok (.ireturn, 1) := by decide +kernel
theorem dX8_first_11 : decode cX8_first 11 = .ok (.aload_n 0, 1) := by decide +kernel
theorem dX8_first_12 : decode cX8_first 12 = .ok (.invokevirtual 152, 3) := by decide +kernel
theorem dX8_first_15 : decode cX8_first 15 = .ok (.aload_n 0, 1) := by decide +kernel
theorem dX8_first_16 : decode cX8_first 16 = .ok (.invokevirtual 280, 3) := by decide +kernel
theorem dX8_first_19 : decode cX8_first 19 = .ok (.aload_n 0, 1) := by decide +kernel
theorem dX8_first_20 : decode cX8_first 20 = .ok (.iload_n 1, 1) := by decide +kernel
theorem dX8_first_21 : decode cX8_first 21 = .ok (.invokevirtual 292, 3) := by decide +kernel
theorem dX8_first_24 : decode cX8_first 24 = .ok (.aload_n 0, 1) := by decide +kernel
theorem dX8_first_25 : decode cX8_first 25 = .ok (.getfield 56, 3) := by decide +kernel
theorem dX8_first_28 : decode cX8_first 28 = .ok (.iconst 0, 1) := by decide +kernel
theorem dX8_first_29 : decode cX8_first 29 = .ok (.iaload, 1) := by decide +kernel
theorem dX8_first_30 : decode cX8_first 30 = .ok (.istore_n 3, 1) := by decide +kernel
theorem dX8_first_31 : decode cX8_first 31 = .ok (.iload_n 2, 1) := by decide +kernel
theorem dX8_first_32 : decode cX8_first 32 = .ok (.ifCond .lt 25, 3) := by decide +kernel
theorem dX8_first_35 : decode cX8_first 35 = .ok (.aload_n 0, 1) := by decide +kernel
theorem dX8_first_36 : decode cX8_first 36 = .ok (.getfield 65, 3) := by decide +kernel
theorem dX8_first_39 : decode cX8_first 39 = .ok (.iload_n 3, 1) := by decide +kernel
theorem dX8_first_40 : decode cX8_first 40 = .ok (.iaload, 1) := by decide +kernel
theorem dX8_first_41 : decode cX8_first 41 = .ok (.ldc_w 267, 3) := by decide +kernel
theorem dX8_first_44 : decode cX8_first 44 = .ok (.if_icmp .ge 13, 3) := by decide +kernel
theorem dX8_first_47 : decode cX8_first 47 = .ok (.iload_n 2, 1) := by decide +kernel
theorem dX8_first_48 : decode cX8_first 48 = .ok (.aload_n 0, 1) := by decide +kernel
theorem dX8_first_49 : decode cX8_first 49 = .ok (.getfield 65, 3) := by decide +kernel
theorem dX8_first_52 : decode cX8_first 52 = .ok (.iload_n 3, 1) := by decide +kernel
theorem dX8_first_53 : decode cX8_first 53 = .ok (.iaload, 1) := by decide +kernel
theorem dX8_first_54 : decode cX8_first 54 = .ok (.if_icmp .lt 5, 3) := by decide +kernel
theorem dX8_first_57 : decode cX8_first 57 = .ok (.iconst (-1), 1) := by decide +kernel
theorem dX8_first_58 : decode cX8_first 58 = .ok (.ireturn, 1) := by decide +kernel
theorem dX8_first_59 : decode cX8_first 59 = .ok (.iconst 0, 1) := by decide +kernel
theorem dX8_first_60 : decode cX8_first 60 = .ok (.istore 4, 2) := by decide +kernel
theorem dX8_first_62 : decode cX8_first 62 = .ok (.iconst 0, 1) := by decide +kernel
theorem dX8_first_63 : decode cX8_first 63 = .ok (.istore 5, 2) := by decide +kernel
theorem dX8_first_65 : decode cX8_first 65 = .ok (.iload 5, 2) := by decide +kernel
theorem dX8_first_67 : decode cX8_first 67 = .ok (.iload_n 2, 1) := by decide +kernel
theorem dX8_first_68 : decode cX8_first 68 = .ok (.if_icmp .gt 71, 3) := by decide +kernel
theorem dX8_first_71 : decode cX8_first 71 = .ok (.iconst 0, 1) := by decide +kernel
theorem dX8_first_72 : decode cX8_first 72 = .ok (.istore 4, 2) := by decide +kernel
theorem dX8_first_74 : decode cX8_first 74 = .ok (.aload_n 0, 1) := by decide +kernel
theorem dX8_first_75 : decode cX8_first 75 = .ok (.getfield 62, 3) := by decide +kernel
theorem dX8_first_78 : decode cX8_first 78 = .ok (.iconst 4, 1) := by decide +kernel
theorem dX8_first_79 : decode cX8_first 79 = .ok (.iload_n 3, 1) := by decide +kernel
theorem dX8_first_80 : decode cX8_first 80 = .ok (.imul, 1) := by decide +kernel
theorem dX8_first_81 : decode cX8_first 81 = .ok (.iload 4, 2) := by decide +kernel
theorem dX8_first_83 : decode cX8_first 83 = .ok (.iadd, 1) := by decide +kernel
theorem dX8_first_84 : decode cX8_first 84 = .ok (.iaload, 1) := by decide +kernel
theorem dX8_first_85 : decode cX8_first 85 = .ok (.ifCond .lt 30, 3) := by decide +kernel
theorem dX8_first_88 : decode cX8_first 88 = .ok (.aload_n 0, 1) := by decide +kernel
theorem dX8_first_89 : decode cX8_first 89 = .ok (.getfield 65, 3) := by decide +kernel
theorem dX8_first_92 : decode cX8_first 92 = .ok (.aload_n 0, 1) := by decide +kernel
theorem dX8_first_93 : decode cX8_first 93 = .ok (.getfield 62, 3) := by decide +kernel
theorem dX8_first_96 : decode cX8_first 96 = .ok (.iconst 4, 1) := by decide +kernel
theorem dX8_first_97 : decode cX8_first 97 = .ok (.iload_n 3, 1) := by decide +kernel
theorem dX8_first_98 : decode cX8_first 98 = .ok (.imul, 1) := by decide +kernel
theorem dX8_first_99 : decode cX8_first 99 = .ok (.iload 4, 2) := by decide +kernel
theorem dX8_first_101 : decode cX8_first 101 = .ok (.iadd, 1) := by decide +kernel
theorem dX8_first_102 : decode cX8_first 102 = .ok (.iaload, 1) := by decide +kernel
theorem dX8_first_103 : decode cX8_first 103 = .ok (.iaload, 1) := by decide +kernel
theorem dX8_first_104 : decode cX8_first 104 = .ok (.aload_n 0, 1) := by decide +kernel
theorem dX8_first_105 : decode cX8_first 105 = .ok (.getfield 65, 3) := by decide +kernel
theorem dX8_first_108 : decode cX8_first 108 = .ok (.iload_n 3, 1) := by decide +kernel
theorem dX8_first_109 : decode cX8_first 109 = .ok (.iaload, 1) := by decide +kernel
theorem dX8_first_110 : decode cX8_first 110 = .ok (.iconst 1, 1) := by decide +kernel
theorem dX8_first_111 : decode cX8_first 111 = .ok (.isub, 1) := by decide +kernel
theorem dX8_first_112 : decode cX8_first 112 = .ok (.if_icmp .eq 9, 3) := by decide +kernel
theorem dX8_first_115 : decode cX8_first 115 = .ok (.iinc 4 1, 3) := by decide +kernel
theorem dX8_first_118 : decode cX8_first 118 = .ok (.goto (-44), 3) := by decide +kernel
theorem dX8_first_121 : decode cX8_first 121 = .ok (.aload_n 0, 1) := by decide +kernel
theorem dX8_first_122 : decode cX8_first 122 = .ok (.getfield 62, 3) := by decide +kernel
theorem dX8_first_125 : decode cX8_first 125 = .ok (.iconst 4, 1) := by decide +kernel
theorem dX8_first_126 : decode cX8_first 126 = .ok (.iload_n 3, 1) := by decide +kernel
theorem dX8_first_127 : decode cX8_first 127 = .ok (.imul, 1) := by decide +kernel
theorem dX8_first_128 : decode cX8_first 128 = .ok (.iload 4, 2) := by decide +kernel
theorem dX8_first_130 : decode cX8_first 130 = .ok (.iadd, 1) := by decide +kernel
theorem dX8_first_131 : decode cX8_first 131 = .ok (.iaload, 1) := by decide +kernel
theorem dX8_first_132 : decode cX8_first 132 = .ok (.istore_n 3, 1) := by decide +kernel
theorem dX8_first_133 : decode cX8_first 133 = .ok (.iinc 5 1, 3) := by decide +kernel
theorem dX8_first_136 : decode cX8_first 136 = .ok (.goto (-71), 3) := by decide +kernel
theorem dX8_first_139 : decode cX8_first 139 = .ok (.iload 4, 2) := by decide +kernel
theorem dX8_first_141 : decode cX8_first 141 = .ok (.ireturn, 1) := by decide +kernel
theorem dX8_shutIn_0 : decode cX8_shutIn 0 = .ok (.aload_n 0, 1) := by decide +kernel
theorem dX8_shutIn_1 : decode cX8_shutIn 1 = .ok (.iload_n 1, 1) := by decide +kernel
theorem dX8_shutIn_2 : decode cX8_shutIn 2 = .ok (.invokevirtual 99, 3) := by decide +kernel
theorem dX8_shutIn_5 : decode cX8_shutIn 5 = .ok (.ifCond .ne 6, 3) := by decide +kernel
theorem dX8_shutIn_8 : decode cX8_shutIn 8 = .ok (.bipush (-2), 2) := by decide +kernel
theorem dX8_shutIn_10 : decode cX8_shutIn 10 = .ok (.ireturn, 1) := by decide +kernel
theorem dX8_shutIn_11 : decode cX8_shutIn 11 = .ok (.aload_n 0, 1) := by decide +kernel
theorem dX8_shutIn_12 : decode cX8_shutIn 12 = .ok (.invokevirtual 152, 3) := by decide +kernel
theorem dX8_shutIn_15 : decode cX8_shutIn 15 = .ok (.aload_n 0, 1) := by decide +kernel
theorem dX8_shutIn_16 : decode cX8_shutIn 16 = .ok (.invokevirtual 280, 3) := by decide +kernel
theorem dX8_shutIn_19 : decode cX8_shutIn 19 = .ok (.aload_n 0, 1) := by decide +kernel
theorem dX8_shutIn_20 : decode cX8_shutIn 20 = .ok (.iload_n 1, 1) := by decide +kernel
theorem dX8_shutIn_21 : decode cX8_shutIn 21 = .ok (.invokevirtual 292, 3) := by decide +kernel
theorem dX8_shutIn_24 : decode cX8_shutIn 24 = .ok (.iconst 0, 1) := by decide +kernel
theorem dX8_shutIn_25 : decode cX8_shutIn 25 = .ok (.istore_n 2, 1) := by decide +kernel
theorem dX8_shutIn_26 : decode cX8_shutIn 26 = .ok (.iconst 0, 1) := by decide +kernel
theorem dX8_shutIn_27 : decode cX8_shutIn 27 = .ok (.istore_n 3, 1) := by decide +kernel
theorem dX8_shutIn_28 : decode cX8_shutIn 28 = .ok (.iload_n 3, 1) := by decide +kernel
theorem dX8_shutIn_29 : decode cX8_shutIn 29 = .ok (.aload_n 0, 1) := by decide +kernel
theorem dX8_shutIn_30 : decode cX8_shutIn 30 = .ok (.getfield 271, 3) := by decide +kernel
theorem dX8_shutIn_33 : decode cX8_shutIn 33 = .ok (.if_icmp .ge 44, 3) := by decide +kernel
theorem dX8_shutIn_36 : decode cX8_shutIn 36 = .ok (.iload_n 2, 1) := by decide +kernel
theorem dX8_shutIn_37 : decode cX8_shutIn 37 = .ok (.aload_n 0, 1) := by decide +kernel
theorem dX8_shutIn_38 : decode cX8_shutIn 38 = .ok (.getfield 65, 3) := by decide +kernel
theorem dX8_shutIn_41 : decode cX8_shutIn 41 = .ok (.aload_n 0, 1) := by decide +kernel
theorem dX8_shutIn_42 : decode cX8_shutIn 42 = .ok (.getfield 56, 3) := by decide +kernel
theorem dX8_shutIn_45 : decode cX8_shutIn 45 = .ok (.iload_n 3, 1) := by decide +kernel
theorem dX8_shutIn_46 : decode cX8_shutIn 46 = .ok (.iaload, 1) := by decide +kernel
theorem dX8_shutIn_47 : decode cX8_shutIn 47 = .ok (.iaload, 1) := by decide +kernel
theorem dX8_shutIn_48 : decode cX8_shutIn 48 = .ok (.ldc_w 267, 3) := by decide +kernel
theorem dX8_shutIn_51 : decode cX8_shutIn 51 = .ok (.if_icmp .lt 17, 3) := by decide +kernel
theorem dX8_shutIn_54 : decode cX8_shutIn 54 = .ok (.iconst 1, 1) := by decide +kernel
theorem dX8_shutIn_55 : decode cX8_shutIn 55 = .ok (.aload_n 0, 1) := by decide +kernel
theorem dX8_shutIn_56 : decode cX8_shutIn 56 = .ok (.getfield 56, 3) := by decide +kernel
theorem dX8_shutIn_59 : decode cX8_shutIn 59 = .ok (.iload_n 3, 1) := by decide +kernel
theorem dX8_shutIn_60 : decode cX8_shutIn 60 = .ok (.iaload, 1) := by decide +kernel
theorem dX8_shutIn_61 : decode cX8_shutIn 61 = .ok (.invokestatic 277, 3) := by decide +kernel
theorem dX8_shutIn_64 : decode cX8_shutIn 64 = .ok (.ishl, 1) := by decide +kernel
theorem dX8_shutIn_65 : decode cX8_shutIn 65 = .ok (.goto 4, 3) := by decide +kernel
theorem dX8_shutIn_68 : decode cX8_shutIn 68 = .ok (.iconst 0, 1) := by decide +kernel
theorem dX8_shutIn_69 : decode cX8_shutIn 69 = .ok (.ior, 1) := by decide +kernel
theorem dX8_shutIn_70 : decode cX8_shutIn 70 = .ok (.istore_n 2, 1) := by decide +kernel
theorem dX8_shutIn_71 : decode cX8_shutIn 71 = .ok (.iinc 3 1, 3) := by decide +kernel
theorem dX8_shutIn_74 : decode cX8_shutIn 74 = .ok (.goto (-46), 3) := by decide +kernel
theorem dX8_shutIn_77 : decode cX8_shutIn 77 = .ok (.iload_n 2, 1) := by decide +kernel
theorem dX8_shutIn_78 : decode cX8_shutIn 78 = .ok (.ireturn, 1) := by decide +kernel
theorem dX8_wished_0 : decode cX8_wished 0 = .ok (.aload_n 0, 1) := by decide +kernel
theorem dX8_wished_1 : decode cX8_wished 1 = .ok (.invokevirtual 152, 3) := by decide +kernel
theorem dX8_wished_4 : decode cX8_wished 4 = .ok (.aload_n 0, 1) := by decide +kernel
theorem dX8_wished_5 : decode cX8_wished 5 = .ok (.invokevirtual 280, 3) := by decide +kernel
theorem dX8_wished_8 : decode cX8_wished 8 = .ok (.iconst 0, 1) := by decide +kernel
theorem dX8_wished_9 : decode cX8_wished 9 = .ok (.istore_n 1, 1) := by decide +kernel
theorem dX8_wished_10 : decode cX8_wished 10 = .ok (.iload_n 1, 1) := by decide +kernel
theorem dX8_wished_11 : decode cX8_wished 11 = .ok (.aload_n 0, 1) := by decide +kernel
theorem dX8_wished_12 : decode cX8_wished 12 = .ok (.getfield 271, 3) := by decide +kernel
theorem dX8_wished_15 : decode cX8_wished 15 = .ok (.if_icmp .ge 38, 3) := by decide +kernel
theorem dX8_wished_18 : decode cX8_wished 18 = .ok (.aload_n 0, 1) := by decide +kernel
theorem dX8_wished_19 : decode cX8_wished 19 = .ok (.aload_n 0, 1) := by decide +kernel
theorem dX8_wished_20 : decode cX8_wished 20 = .ok (.getfield 56, 3) := by decide +kernel
theorem dX8_wished_23 : decode cX8_wished 23 = .ok (.iload_n 1, 1) := by decide +kernel
theorem dX8_wished_24 : decode cX8_wished 24 = .ok (.iaload, 1) := by decide +kernel
theorem dX8_wished_25 : decode cX8_wished 25 = .ok (.invokevirtual 274, 3) := by decide +kernel
theorem dX8_wished_28 : decode cX8_wished 28 = .ok (.aload_n 0, 1) := by decide +kernel
theorem dX8_wished_29 : decode cX8_wished 29 = .ok (.invokevirtual 261, 3) := by decide +kernel
theorem dX8_wished_32 : decode cX8_wished 32 = .ok (.ifCond .eq 15, 3) := by decide +kernel
theorem dX8_wished_35 : decode cX8_wished 35 = .ok (.aload_n 0, 1) := by decide +kernel
theorem dX8_wished_36 : decode cX8_wished 36 = .ok (.getfield 59, 3) := by decide +kernel
theorem dX8_wished_39 : decode cX8_wished 39 = .ok (.aload_n 0, 1) := by decide +kernel
theorem dX8_wished_40 : decode cX8_wished 40 = .ok (.getfield 56, 3) := by decide +kernel
theorem dX8_wished_43 : decode cX8_wished 43 = .ok (.iload_n 1, 1) := by decide +kernel
theorem dX8_wished_44 : decode cX8_wished 44 = .ok (.iaload, 1) := by decide +kernel
theorem dX8_wished_45 : decode cX8_wished 45 = .ok (.iaload, 1) := by decide +kernel
theorem dX8_wished_46 : decode cX8_wished 46 = .ok (.ireturn, 1) := by decide +kernel
theorem dX8_wished_47 : decode cX8_wished 47 = .ok (.iinc 1 1, 3) := by decide +kernel
theorem dX8_wished_50 : decode cX8_wished 50 = .ok (.goto (-40), 3) := by decide +kernel
theorem dX8_wished_53 : decode cX8_wished 53 = .ok (.iconst (-1), 1) := by decide +kernel
theorem dX8_wished_54 : decode cX8_wished 54 = .ok (.ireturn, 1) := by decide +kernel
theorem dX8_found_0 : decode cX8_found 0 = .ok (.aload_n 0, 1) := by decide +kernel
theorem dX8_found_1 : decode cX8_found 1 = .ok (.invokevirtual 152, 3) := by decide +kernel
theorem dX8_found_4 : decode cX8_found 4 = .ok (.aload_n 0, 1) := by decide +kernel
theorem dX8_found_5 : decode cX8_found 5 = .ok (.invokevirtual 280, 3) := by decide +kernel
theorem dX8_found_8 : decode cX8_found 8 = .ok (.iconst (-1), 1) := by decide +kernel
theorem dX8_found_9 : decode cX8_found 9 = .ok (.istore_n 1, 1) := by decide +kernel
theorem dX8_found_10 : decode cX8_found 10 = .ok (.iconst 0, 1) := by decide +kernel
theorem dX8_found_11 : decode cX8_found 11 = .ok (.istore_n 2, 1) := by decide +kernel
theorem dX8_found_12 : decode cX8_found 12 = .ok (.iload_n 2, 1) := by decide +kernel
theorem dX8_found_13 : decode cX8_found 13 = .ok (.aload_n 0, 1) := by decide +kernel
theorem dX8_found_14 : decode cX8_found 14 = .ok (.getfield 271, 3) := by decide +kernel
theorem dX8_found_17 : decode cX8_found 17 = .ok (.if_icmp .ge 100, 3) := by decide +kernel
theorem dX8_found_20 : decode cX8_found 20 = .ok (.iconst 0, 1) := by decide +kernel
theorem dX8_found_21 : decode cX8_found 21 = .ok (.istore_n 3, 1) := by decide +kernel
theorem dX8_found_22 : decode cX8_found 22 = .ok (.iload_n 3, 1) := by decide +kernel
theorem dX8_found_23 : decode cX8_found 23 = .ok (.aload_n 0, 1) := by decide +kernel
theorem dX8_found_24 : decode cX8_found 24 = .ok (.getfield 90, 3) := by decide +kernel
theorem dX8_found_27 : decode cX8_found 27 = .ok (.if_icmp .ge 84, 3) := by decide +kernel
theorem dX8_found_30 : decode cX8_found 30 = .ok (.aload_n 0, 1) := by decide +kernel
theorem dX8_found_31 : decode cX8_found 31 = .ok (.getfield 62, 3) := by decide +kernel
theorem dX8_found_34 : decode cX8_found 34 = .ok (.iconst 4, 1) := by decide +kernel
theorem dX8_found_35 : decode cX8_found 35 = .ok (.aload_n 0, 1) := by decide +kernel
theorem dX8_found_36 : decode cX8_found 36 = .ok (.getfield 56, 3) := by decide +kernel
theorem dX8_found_39 : decode cX8_found 39 = .ok (.iload_n 2, 1) := by decide +kernel
theorem dX8_found_40 : decode cX8_found 40 = .ok (.iaload, 1) := by decide +kernel
theorem dX8_found_41 : decode cX8_found 41 = .ok (.imul, 1) := by decide +kernel
theorem dX8_found_42 : decode cX8_found 42 = .ok (.iload_n 3, 1) := by decide +kernel
theorem dX8_found_43 : decode cX8_found 43 = .ok (.iadd, 1) := by decide +kernel
theorem dX8_found_44 : decode cX8_found 44 = .ok (.iaload, 1) := by decide +kernel
theorem dX8_found_45 : decode cX8_found 45 = .ok (.aload_n 0, 1) := by decide +kernel
theorem dX8_found_46 : decode cX8_found 46 = .ok (.getfield 56, 3) := by decide +kernel
theorem dX8_found_49 : decode cX8_found 49 = .ok (.iconst 0, 1) := by decide +kernel
theorem dX8_found_50 : decode cX8_found 50 = .ok (.iaload, 1) := by decide +kernel
theorem dX8_found_51 : decode cX8_found 51 = .ok (.if_icmp .ne 7, 3) := by decide +kernel
theorem dX8_found_54 : decode cX8_found 54 = .ok (.iconst 1, 1) := by decide +kernel
theorem dX8_found_55 : decode cX8_found 55 = .ok (.goto 4, 3) := by decide +kernel
theorem dX8_found_58 : decode cX8_found 58 = .ok (.iconst 0, 1) := by decide +kernel
theorem dX8_found_59 : decode cX8_found 59 = .ok (.istore 4, 2) := by decide +kernel
theorem dX8_found_61 : decode cX8_found 61 = .ok (.iload 4, 2) := by decide +kernel
theorem dX8_found_63 : decode cX8_found 63 = .ok (.ifCond .eq 40, 3) := by decide +kernel
theorem dX8_found_66 : decode cX8_found 66 = .ok (.iload_n 1, 1) := by decide +kernel
theorem dX8_found_67 : decode cX8_found 67 = .ok (.ifCond .lt 20, 3) := by decide +kernel
theorem dX8_found_70 : decode cX8_found 70 = .ok (.aload_n 0, 1) := by decide +kernel
theorem dX8_found_71 : decode cX8_found 71 = .ok (.getfield 59, 3) := by decide +kernel
theorem dX8_found_74 : decode cX8_found 74 = .ok (.aload_n 0, 1) := by decide +kernel
theorem dX8_found_75 : decode cX8_found 75 = .ok (.getfield 56, 3) := by decide +kernel
theorem dX8_found_78 : decode cX8_found 78 = .ok (.iload_n 2, 1) := by decide +kernel
theorem dX8_found_79 : decode cX8_found 79 = .ok (.iaload, 1) := by decide +kernel
theorem dX8_found_80 : decode cX8_found 80 = .ok (.iaload, 1) := by decide +kernel
theorem dX8_found_81 : decode cX8_found 81 = .ok (.iconst 1, 1) := by decide +kernel
theorem dX8_found_82 : decode cX8_found 82 = .ok (.iadd, 1) := by decide +kernel
theorem dX8_found_83 : decode cX8_found 83 = .ok (.iload_n 1, 1) := by decide +kernel
theorem dX8_found_84 : decode cX8_found 84 = .ok (.if_icmp .ge 19, 3) := by decide +kernel
theorem dX8_found_87 : decode cX8_found 87 = .ok (.aload_n 0, 1) := by decide +kernel
theorem dX8_found_88 : decode cX8_found 88 = .ok (.getfield 59, 3) := by decide +kernel
theorem dX8_found_91 : decode cX8_found 91 = .ok (.aload_n 0, 1) := by decide +kernel
theorem dX8_found_92 : decode cX8_found 92 = .ok (.getfield 56, 3) := by decide +kernel
theorem dX8_found_95 : decode cX8_found 95 = .ok (.iload_n 2, 1) := by decide +kernel
theorem dX8_found_96 : decode cX8_found 96 = .ok (.iaload, 1) := by decide +kernel
theorem dX8_found_97 : decode cX8_found 97 = .ok (.iaload, 1) := by decide +kernel
theorem dX8_found_98 : decode cX8_found 98 = .ok (.iconst 1, 1) := by decide +kernel
theorem dX8_found_99 : decode cX8_found 99 = .ok (.iadd, 1) := by decide +kernel
theorem dX8_found_100 : decode cX8_found 100 = .ok (.goto 4, 3) := by decide +kernel
theorem dX8_found_103 : decode cX8_found 103 = .ok (.iload_n 1, 1) := by decide +kernel
theorem dX8_found_104 : decode cX8_found 104 = .ok (.istore_n 1, 1) := by decide +kernel
theorem dX8_found_105 : decode cX8_found 105 = .ok (.iinc 3 1, 3) := by decide +kernel
theorem dX8_found_108 : decode cX8_found 108 = .ok (.goto (-86), 3) := by decide +kernel
theorem dX8_found_111 : decode cX8_found 111 = .ok (.iinc 2 1, 3) := by decide +kernel
theorem dX8_found_114 : decode cX8_found 114 = .ok (.goto (-102), 3) := by decide +kernel
theorem dX8_found_117 : decode cX8_found 117 = .ok (.iload_n 1, 1) := by decide +kernel
theorem dX8_found_118 : decode cX8_found 118 = .ok (.ireturn, 1) := by decide +kernel
theorem dX8_costOf_0 : decode cX8_costOf 0 = .ok (.aload_n 0, 1) := by decide +kernel
theorem dX8_costOf_1 : decode cX8_costOf 1 = .ok (.iconst 1, 1) := by decide +kernel
theorem dX8_costOf_2 : decode cX8_costOf 2 = .ok (.iload_n 1, 1) := by decide +kernel
theorem dX8_costOf_3 : decode cX8_costOf 3 = .ok (.aload_n 0, 1) := by decide +kernel
theorem dX8_costOf_4 : decode cX8_costOf 4 = .ok (.getfield 124, 3) := by decide +kernel
theorem dX8_costOf_7 : decode cX8_costOf 7 = .ok (.invokevirtual 134, 3) := by decide +kernel
theorem dX8_costOf_10 : decode cX8_costOf 10 = .ok (.istore_n 2, 1) := by decide +kernel
theorem dX8_costOf_11 : decode cX8_costOf 11 = .ok (.iload_n 2, 1) := by decide +kernel
theorem dX8_costOf_12 : decode cX8_costOf 12 = .ok (.ifCond .ge 7, 3) := by decide +kernel
theorem dX8_costOf_15 : decode cX8_costOf 15 = .ok (.iconst 0, 1) := by decide +kernel
theorem dX8_costOf_16 : decode cX8_costOf 16 = .ok (.goto 15, 3) := by decide +kernel
theorem dX8_costOf_19 : decode cX8_costOf 19 = .ok (.iload_n 2, 1) := by decide +kernel
theorem dX8_costOf_20 : decode cX8_costOf 20 = .ok (.bipush 99, 2) := by decide +kernel
theorem dX8_costOf_22 : decode cX8_costOf 22 = .ok (.if_icmp .le 8, 3) := by decide +kernel
theorem dX8_costOf_25 : decode cX8_costOf 25 = .ok (.bipush 99, 2) := by decide +kernel
theorem dX8_costOf_27 : decode cX8_costOf 27 = .ok (.goto 4, 3) := by decide +kernel
theorem dX8_costOf_30 : decode cX8_costOf 30 = .ok (.iload_n 2, 1) := by decide +kernel
theorem dX8_costOf_31 : decode cX8_costOf 31 = .ok (.ireturn, 1) := by decide +kernel
theorem dX8_goesRow_0 : decode cX8_goesRow 0 = .ok (.aload_n 0, 1) := by decide +kernel
theorem dX8_goesRow_1 : decode cX8_goesRow 1 = .ok (.iconst 0, 1) := by decide +kernel
theorem dX8_goesRow_2 : decode cX8_goesRow 2 = .ok (.putfield 295, 3) := by decide +kernel
theorem dX8_goesRow_5 : decode cX8_goesRow 5 = .ok (.iconst 0, 1) := by decide +kernel
theorem dX8_goesRow_6 : decode cX8_goesRow 6 = .ok (.istore_n 2, 1) := by decide +kernel
theorem dX8_goesRow_7 : decode cX8_goesRow 7 = .ok (.iload_n 2, 1) := by decide +kernel
theorem dX8_goesRow_8 : decode cX8_goesRow 8 = .ok (.aload_n 0, 1) := by decide +kernel
theorem dX8_goesRow_9 : decode cX8_goesRow 9 = .ok (.getfield 74, 3) := by decide +kernel
theorem dX8_goesRow_12 : decode cX8_goesRow 12 = .ok (.iload_n 1, 1) := by decide +kernel
theorem dX8_goesRow_13 : decode cX8_goesRow 13 = .ok (.iaload, 1) := by decide +kernel
theorem dX8_goesRow_14 : decode cX8_goesRow 14 = .ok (.if_icmp .ge 50, 3) := by decide +kernel
theorem dX8_goesRow_17 : decode cX8_goesRow 17 = .ok (.aload_n 0, 1) := by decide +kernel
theorem dX8_goesRow_18 : decode cX8_goesRow 18 = .ok (.getfield 77, 3) := by decide +kernel
theorem dX8_goesRow_21 : decode cX8_goesRow 21 = .ok (.bipush 40, 2) := by decide +kernel
theorem dX8_goesRow_23 : decode cX8_goesRow 23 = .ok (.iload_n 1, 1) := by decide +kernel
theorem dX8_goesRow_24 : decode cX8_goesRow 24 = .ok (.imul, 1) := by decide +kernel
theorem dX8_goesRow_25 : decode cX8_goesRow 25 = .ok (.iload_n 2, 1) := by decide +kernel
theorem dX8_goesRow_26 : decode cX8_goesRow 26 = .ok (.iadd, 1) := by decide +kernel
theorem dX8_goesRow_27 : decode cX8_goesRow 27 = .ok (.iaload, 1) := by decide +kernel
theorem dX8_goesRow_28 : decode cX8_goesRow 28 = .ok (.istore_n 3, 1) := by decide +kernel
theorem dX8_goesRow_29 : decode cX8_goesRow 29 = .ok (.aload_n 0, 1) := by decide +kernel
theorem dX8_goesRow_30 : decode cX8_goesRow 30 = .ok (.iload_n 3, 1) := by decide +kernel
theorem dX8_goesRow_31 : decode cX8_goesRow 31 = .ok (.invokevirtual 155, 3) := by decide +kernel
theorem dX8_goesRow_34 : decode cX8_goesRow 34 = .ok (.ifCond .ne 5, 3) := by decide +kernel
theorem dX8_goesRow_37 : decode cX8_goesRow 37 = .ok (.iload_n 2, 1) := by decide +kernel
theorem dX8_goesRow_38 : decode cX8_goesRow 38 = .ok (.ireturn, 1) := by decide +kernel
theorem dX8_goesRow_39 : decode cX8_goesRow 39 = .ok (.aload_n 0, 1) := by decide +kernel
theorem dX8_goesRow_40 : decode cX8_goesRow 40 = .ok (.dup, 1) := by decide +kernel
theorem dX8_goesRow_41 : decode cX8_goesRow 41 = .ok (.getfield 295, 3) := by decide +kernel
theorem dX8_goesRow_44 : decode cX8_goesRow 44 = .ok (.aload_n 0, 1) := by decide +kernel
theorem dX8_goesRow_45 : decode cX8_goesRow 45 = .ok (.iload_n 3, 1) := by decide +kernel
theorem dX8_goesRow_46 : decode cX8_goesRow 46 = .ok (.invokevirtual 298, 3) := by decide +kernel
theorem dX8_goesRow_49 : decode cX8_goesRow 49 = .ok (.iadd, 1) := by decide +kernel
theorem dX8_goesRow_50 : decode cX8_goesRow 50 = .ok (.putfield 295, 3) := by decide +kernel
theorem dX8_goesRow_53 : decode cX8_goesRow 53 = .ok (.aload_n 0, 1) := by decide +kernel
theorem dX8_goesRow_54 : decode cX8_goesRow 54 = .ok (.iload_n 3, 1) := by decide +kernel
theorem dX8_goesRow_55 : decode cX8_goesRow 55 = .ok (.invokevirtual 264, 3) := by decide +kernel
theorem dX8_goesRow_58 : decode cX8_goesRow 58 = .ok (.iinc 2 1, 3) := by decide +kernel
theorem dX8_goesRow_61 : decode cX8_goesRow 61 = .ok (.goto (-54), 3) := by decide +kernel
theorem dX8_goesRow_64 : decode cX8_goesRow 64 = .ok (.aload_n 0, 1) := by decide +kernel
theorem dX8_goesRow_65 : decode cX8_goesRow 65 = .ok (.getfield 74, 3) := by decide +kernel
theorem dX8_goesRow_68 : decode cX8_goesRow 68 = .ok (.iload_n 1, 1) := by decide +kernel
theorem dX8_goesRow_69 : decode cX8_goesRow 69 = .ok (.iaload, 1) := by decide +kernel
theorem dX8_goesRow_70 : decode cX8_goesRow 70 = .ok (.ireturn, 1) := by decide +kernel
theorem dX8_judge_0 : decode cX8_judge 0 = .ok (.iload_n 1, 1) := by decide +kernel
theorem dX8_judge_1 : decode cX8_judge 1 = .ok (.invokestatic 301, 3) := by decide +kernel
theorem dX8_judge_4 : decode cX8_judge 4 = .ok (.ifCond .ne 6, 3) := by decide +kernel
theorem dX8_judge_7 : decode cX8_judge 7 = .ok (.bipush (-2), 2) := by decide +kernel
theorem dX8_judge_9 : decode cX8_judge 9 = .ok (.ireturn, 1) := by decide +kernel
theorem dX8_judge_10 : decode cX8_judge 10 = .ok (.aload_n 0, 1) := by decide +kernel
theorem dX8_judge_11 : decode cX8_judge 11 = .ok (.getfield 71, 3) := by decide +kernel
theorem dX8_judge_14 : decode cX8_judge 14 = .ok (.iload_n 1, 1) := by decide +kernel
theorem dX8_judge_15 : decode cX8_judge 15 = .ok (.iaload, 1) := by decide +kernel
theorem dX8_judge_16 : decode cX8_judge 16 = .ok (.ifCond .ge 6, 3) := by decide +kernel
theorem dX8_judge_19 : decode cX8_judge 19 = .ok (.bipush (-11), 2) := by decide +kernel
theorem dX8_judge_21 : decode cX8_judge 21 = .ok (.ireturn, 1) := by decide +kernel
theorem dX8_judge_22 : decode cX8_judge 22 = .ok (.aload_n 0, 1) := by decide +kernel
theorem dX8_judge_23 : decode cX8_judge 23 = .ok (.invokevirtual 152, 3) := by decide +kernel
theorem dX8_judge_26 : decode cX8_judge 26 = .ok (.aload_n 0, 1) := by decide +kernel
theorem dX8_judge_27 : decode cX8_judge 27 = .ok (.iload_n 1, 1) := by decide +kernel
theorem dX8_judge_28 : decode cX8_judge 28 = .ok (.invokevirtual 304, 3) := by decide +kernel
theorem dX8_judge_31 : decode cX8_judge 31 = .ok (.istore_n 2, 1) := by decide +kernel
theorem dX8_judge_32 : decode cX8_judge 32 = .ok (.iload_n 2, 1) := by decide +kernel
theorem dX8_judge_33 : decode cX8_judge 33 = .ok (.aload_n 0, 1) := by decide +kernel
theorem dX8_judge_34 : decode cX8_judge 34 = .ok (.getfield 74, 3) := by decide +kernel
theorem dX8_judge_37 : decode cX8_judge 37 = .ok (.iload_n 1, 1) := by decide +kernel
theorem dX8_judge_38 : decode cX8_judge 38 = .ok (.iaload, 1) := by decide +kernel
theorem dX8_judge_39 : decode cX8_judge 39 = .ok (.if_icmp .ne 7, 3) := by decide +kernel
theorem dX8_judge_42 : decode cX8_judge 42 = .ok (.iconst (-1), 1) := by decide +kernel
theorem dX8_judge_43 : decode cX8_judge 43 = .ok (.goto 4, 3) := by decide +kernel
theorem dX8_judge_46 : decode cX8_judge 46 = .ok (.iload_n 2, 1) := by decide +kernel
theorem dX8_judge_47 : decode cX8_judge 47 = .ok (.ireturn, 1) := by decide +kernel
theorem dX8_row_0 : decode cX8_row 0 = .ok (.iload_n 1, 1) := by decide +kernel
theorem dX8_row_1 : decode cX8_row 1 = .ok (.invokestatic 301, 3) := by decide +kernel
theorem dX8_row_4 : decode cX8_row 4 = .ok (.ifCond .eq 13, 3) := by decide +kernel
theorem dX8_row_7 : decode cX8_row 7 = .ok (.iload_n 2, 1) := by decide +kernel
theorem dX8_row_8 : decode cX8_row 8 = .ok (.i2l, 1) := by decide +kernel
theorem dX8_row_9 : decode cX8_row 9 = .ok (.lconst 0, 1) := by decide +kernel
theorem dX8_row_10 : decode cX8_row 10 = .ok (.lconst 1, 1) := by decide +kernel
theorem dX8_row_11 : decode cX8_row 11 = .ok (.invokestatic 93, 3) := by decide +kernel
theorem dX8_row_14 : decode cX8_row 14 = .ok (.ifCond .ne 6, 3) := by decide +kernel
theorem dX8_row_17 : decode cX8_row 17 = .ok (.bipush (-2), 2) := by decide +kernel
theorem dX8_row_19 : decode cX8_row 19 = .ok (.ireturn, 1) := by decide +kernel
theorem dX8_row_20 : decode cX8_row 20 = .ok (.aload_n 0, 1) := by decide +kernel
theorem dX8_row_21 : decode cX8_row 21 = .ok (.getfield 71, 3) := by decide +kernel
theorem dX8_row_24 : decode cX8_row 24 = .ok (.iload_n 1, 1) := by decide +kernel
theorem dX8_row_25 : decode cX8_row 25 = .ok (.iaload, 1) := by decide +kernel
theorem dX8_row_26 : decode cX8_row 26 = .ok (.ifCond .ge 6, 3) := by decide +kernel
theorem dX8_row_29 : decode cX8_row 29 = .ok (.bipush (-11), 2) := by decide +kernel
theorem dX8_row_31 : decode cX8_row 31 = .ok (.ireturn, 1) := by decide +kernel
theorem dX8_row_32 : decode cX8_row 32 = .ok (.aload_n 0, 1) := by decide +kernel
theorem dX8_row_33 : decode cX8_row 33 = .ok (.invokevirtual 152, 3) := by decide +kernel
theorem dX8_row_36 : decode cX8_row 36 = .ok (.aload_n 0, 1) := by decide +kernel
theorem dX8_row_37 : decode cX8_row 37 = .ok (.iload_n 1, 1) := by decide +kernel
theorem dX8_row_38 : decode cX8_row 38 = .ok (.invokevirtual 304, 3) := by decide +kernel
theorem dX8_row_41 : decode cX8_row 41 = .ok (.istore_n 3, 1) := by decide +kernel
theorem dX8_row_42 : decode cX8_row 42 = .ok (.iload_n 2, 1) := by decide +kernel
theorem dX8_row_43 : decode cX8_row 43 = .ok (.ifCond .ne 10, 3) := by decide +kernel
theorem dX8_row_46 : decode cX8_row 46 = .ok (.aload_n 0, 1) := by decide +kernel
theorem dX8_row_47 : decode cX8_row 47 = .ok (.getfield 295, 3) := by decide +kernel
theorem dX8_row_50 : decode cX8_row 50 = .ok (.goto 7, 3) := by decide +kernel
theorem dX8_row_53 : decode cX8_row 53 = .ok (.aload_n 0, 1) := by decide +kernel
theorem dX8_row_54 : decode cX8_row 54 = .ok (.getfield 124, 3) := by decide +kernel
theorem dX8_row_57 : decode cX8_row 57 = .ok (.ireturn, 1) := by decide +kernel
theorem dX8_heardRooms_0 : decode cX8_heardRooms 0 = .ok (.iconst 0, 1) := by decide +kernel
theorem dX8_heardRooms_1 : decode cX8_heardRooms 1 = .ok (.istore_n 2, 1) := by decide +kernel
theorem dX8_heardRooms_2 : decode cX8_heardRooms 2 = .ok (.iconst 0, 1) := by decide +kernel
theorem dX8_heardRooms_3 : decode cX8_heardRooms 3 = .ok (.istore_n 3, 1) := by decide +kernel
theorem dX8_heardRooms_4 : decode cX8_heardRooms 4 = .ok (.iload_n 3, 1) := by decide +kernel
theorem dX8_heardRooms_5 : decode cX8_heardRooms 5 = .ok (.aload_n 0, 1) := by decide +kernel
theorem dX8_heardRooms_6 : decode cX8_heardRooms 6 = .ok (.getfield 87, 3) := by decide +kernel
theorem dX8_heardRooms_9 : decode cX8_heardRooms 9 = .ok (.if_icmp .ge 42, 3) := by decide +kernel
theorem dX8_heardRooms_12 : decode cX8_heardRooms 12 = .ok (.aload_n 0, 1) := by decide +kernel
theorem dX8_heardRooms_13 : decode cX8_heardRooms 13 = .ok (.invokevirtual 152, 3) := by decide +kernel
theorem dX8_heardRooms_16 : decode cX8_heardRooms 16 = .ok (.aload_n 0, 1) := by decide +kernel
theorem dX8_heardRooms_17 : decode cX8_heardRooms 17 = .ok (.iload_n 3, 1) := by decide +kernel
theorem dX8_heardRooms_18 : decode cX8_heardRooms 18 = .ok (.putfield 124, 3) := by decide +kernel
theorem dX8_heardRooms_21 : decode cX8_heardRooms 21 = .ok (.iload_n 2, 1) := by decide +kernel
theorem dX8_heardRooms_22 : decode cX8_heardRooms 22 = .ok (.aload_n 0, 1) := by decide +kernel
theorem dX8_heardRooms_23 : decode cX8_heardRooms 23 = .ok (.iload_n 1, 1) := by decide +kernel
theorem dX8_heardRooms_24 : decode cX8_heardRooms 24 = .ok (.invokevirtual 304, 3) := by decide +kernel
theorem dX8_heardRooms_27 : decode cX8_heardRooms 27 = .ok (.aload_n 0, 1) := by decide +kernel
theorem dX8_heardRooms_28 : decode cX8_heardRooms 28 = .ok (.getfield 74, 3) := by decide +kernel
theorem dX8_heardRooms_31 : decode cX8_heardRooms 31 = .ok (.iload_n 1, 1) := by decide +kernel
theorem dX8_heardRooms_32 : decode cX8_heardRooms 32 = .ok (.iaload, 1) := by decide +kernel
theorem dX8_heardRooms_33 : decode cX8_heardRooms 33 = .ok (.if_icmp .ne 9, 3) := by decide +kernel
theorem dX8_heardRooms_36 : decode cX8_heardRooms 36 = .ok (.iconst 1, 1) := by decide +kernel
theorem dX8_heardRooms_37 : decode cX8_heardRooms 37 = .ok (.iload_n 3, 1) := by decide +kernel
theorem dX8_heardRooms_38 : decode cX8_heardRooms 38 = .ok (.ishl, 1) := by decide +kernel
theorem dX8_heardRooms_39 : decode cX8_heardRooms 39 = .ok (.goto 4, 3) := by decide +kernel
theorem dX8_heardRooms_42 : decode cX8_heardRooms 42 = .ok (.iconst 0, 1) := by decide +kernel
theorem dX8_heardRooms_43 : decode cX8_heardRooms 43 = .ok (.ior, 1) := by decide +kernel
theorem dX8_heardRooms_44 : decode cX8_heardRooms 44 = .ok (.istore_n 2, 1) := by decide +kernel
theorem dX8_heardRooms_45 : decode cX8_heardRooms 45 = .ok (.iinc 3 1, 3) := by decide +kernel
theorem dX8_heardRooms_48 : decode cX8_heardRooms 48 = .ok (.goto (-44), 3) := by decide +kernel
theorem dX8_heardRooms_51 : decode cX8_heardRooms 51 = .ok (.iload_n 2, 1) := by decide +kernel
theorem dX8_heardRooms_52 : decode cX8_heardRooms 52 = .ok (.ireturn, 1) := by decide +kernel
theorem dX8_heardMany_0 : decode cX8_heardMany 0 = .ok (.iconst 1, 1) := by decide +kernel
theorem dX8_heardMany_1 : decode cX8_heardMany 1 = .ok (.iconst 2, 1) := by decide +kernel
theorem dX8_heardMany_2 : decode cX8_heardMany 2 = .ok (.aload_n 0, 1) := by decide +kernel
theorem dX8_heardMany_3 : decode cX8_heardMany 3 = .ok (.getfield 90, 3) := by decide +kernel
theorem dX8_heardMany_6 : decode cX8_heardMany 6 = .ok (.imul, 1) := by decide +kernel
theorem dX8_heardMany_7 : decode cX8_heardMany 7 = .ok (.ishl, 1) := by decide +kernel
theorem dX8_heardMany_8 : decode cX8_heardMany 8 = .ok (.istore_n 2, 1) := by decide +kernel
theorem dX8_heardMany_9 : decode cX8_heardMany 9 = .ok (.iconst 0, 1) := by decide +kernel
theorem dX8_heardMany_10 : decode cX8_heardMany 10 = .ok (.istore_n 3, 1) := by decide +kernel
theorem dX8_heardMany_11 : decode cX8_heardMany 11 = .ok (.aload_n 0, 1) := by decide +kernel
theorem dX8_heardMany_12 : decode cX8_heardMany 12 = .ok (.invokevirtual 152, 3) := by decide +kernel
theorem dX8_heardMany_15 : decode cX8_heardMany 15 = .ok (.iconst 0, 1) := by decide +kernel
theorem dX8_heardMany_16 : decode cX8_heardMany 16 = .ok (.istore 4, 2) := by decide +kernel
theorem dX8_heardMany_18 : decode cX8_heardMany 18 = .ok (.iload 4, 2) := by decide +kernel
theorem dX8_heardMany_20 : decode cX8_heardMany 20 = .ok (.aload_n 0, 1) := by decide +kernel
theorem dX8_heardMany_21 : decode cX8_heardMany 21 = .ok (.getfield 87, 3) := by decide +kernel
theorem dX8_heardMany_24 : decode cX8_heardMany 24 = .ok (.iconst 4, 1) := by decide +kernel
theorem dX8_heardMany_25 : decode cX8_heardMany 25 = .ok (.imul, 1) := by decide +kernel
theorem dX8_heardMany_26 : decode cX8_heardMany 26 = .ok (.if_icmp .ge 59, 3) := by decide +kernel
theorem dX8_heardMany_29 : decode cX8_heardMany 29 = .ok (.iconst 0, 1) := by decide +kernel
theorem dX8_heardMany_30 : decode cX8_heardMany 30 = .ok (.istore 5, 2) := by decide +kernel
theorem dX8_heardMany_32 : decode cX8_heardMany 32 = .ok (.iload 5, 2) := by decide +kernel
theorem dX8_heardMany_34 : decode cX8_heardMany 34 = .ok (.iload_n 2, 1) := by decide +kernel
theorem dX8_heardMany_35 : decode cX8_heardMany 35 = .ok (.if_icmp .ge 44, 3) := by decide +kernel
theorem dX8_heardMany_38 : decode cX8_heardMany 38 = .ok (.aload_n 0, 1) := by decide +kernel
theorem dX8_heardMany_39 : decode cX8_heardMany 39 = .ok (.sipush 256, 3) := by decide +kernel
theorem dX8_heardMany_42 : decode cX8_heardMany 42 = .ok (.iload 4, 2) := by decide +kernel
theorem dX8_heardMany_44 : decode cX8_heardMany 44 = .ok (.imul, 1) := by decide +kernel
theorem dX8_heardMany_45 : decode cX8_heardMany 45 = .ok (.iload 5, 2) := by decide +kernel
theorem dX8_heardMany_47 : decode cX8_heardMany 47 = .ok (.iadd, 1) := by decide +kernel
theorem dX8_heardMany_48 : decode cX8_heardMany 48 = .ok (.invokevirtual 274, 3) := by decide +kernel
theorem dX8_heardMany_51 : decode cX8_heardMany 51 = .ok (.iload_n 3, 1) := by decide +kernel
theorem dX8_heardMany_52 : decode cX8_heardMany 52 = .ok (.aload_n 0, 1) := by decide +kernel
theorem dX8_heardMany_53 : decode cX8_heardMany 53 = .ok (.iload_n 1, 1) := by decide +kernel
theorem dX8_heardMany_54 : decode cX8_heardMany 54 = .ok (.invokevirtual 304, 3) := by decide +kernel
theorem dX8_heardMany_57 : decode cX8_heardMany 57 = .ok (.aload_n 0, 1) := by decide +kernel
theorem dX8_heardMany_58 : decode cX8_heardMany 58 = .ok (.getfield 74, 3) := by decide +kernel
theorem dX8_heardMany_61 : decode cX8_heardMany 61 = .ok (.iload_n 1, 1) := by decide +kernel
theorem dX8_heardMany_62 : decode cX8_heardMany 62 = .ok (.iaload, 1) := by decide +kernel
theorem dX8_heardMany_63 : decode cX8_heardMany 63 = .ok (.if_icmp .ne 7, 3) := by decide +kernel
theorem dX8_heardMany_66 : decode cX8_heardMany 66 = .ok (.iconst 1, 1) := by decide +kernel
theorem dX8_heardMany_67 : decode cX8_heardMany 67 = .ok (.goto 4, 3) := by decide +kernel
theorem dX8_heardMany_70 : decode cX8_heardMany 70 = .ok (.iconst 0, 1) := by decide +kernel
theorem dX8_heardMany_71 : decode cX8_heardMany 71 = .ok (.iadd, 1) := by decide +kernel
theorem dX8_heardMany_72 : decode cX8_heardMany 72 = .ok (.istore_n 3, 1) := by decide +kernel
theorem dX8_heardMany_73 : decode cX8_heardMany 73 = .ok (.iinc 5 1, 3) := by decide +kernel
theorem dX8_heardMany_76 : decode cX8_heardMany 76 = .ok (.goto (-44), 3) := by decide +kernel
theorem dX8_heardMany_79 : decode cX8_heardMany 79 = .ok (.iinc 4 1, 3) := by decide +kernel
theorem dX8_heardMany_82 : decode cX8_heardMany 82 = .ok (.goto (-64), 3) := by decide +kernel
theorem dX8_heardMany_85 : decode cX8_heardMany 85 = .ok (.iload_n 3, 1) := by decide +kernel
theorem dX8_heardMany_86 : decode cX8_heardMany 86 = .ok (.ireturn, 1) := by decide +kernel
theorem dX8_heard_0 : decode cX8_heard 0 = .ok (.iload_n 1, 1) := by decide +kernel
theorem dX8_heard_1 : decode cX8_heard 1 = .ok (.invokestatic 301, 3) := by decide +kernel
theorem dX8_heard_4 : decode cX8_heard 4 = .ok (.ifCond .eq 13, 3) := by decide +kernel
theorem dX8_heard_7 : decode cX8_heard 7 = .ok (.iload_n 2, 1) := by decide +kernel
theorem dX8_heard_8 : decode cX8_heard 8 = .ok (.i2l, 1) := by decide +kernel
theorem dX8_heard_9 : decode cX8_heard 9 = .ok (.lconst 0, 1) := by decide +kernel
theorem dX8_heard_10 : decode cX8_heard 10 = .ok (.lconst 1, 1) := by decide +kernel
theorem dX8_heard_11 : decode cX8_heard 11 = .ok (.invokestatic 93, 3) := by decide +kernel
theorem dX8_heard_14 : decode cX8_heard 14 = .ok (.ifCond .ne 6, 3) := by decide +kernel
theorem dX8_heard_17 : decode cX8_heard 17 = .ok (.bipush (-2), 2) := by decide +kernel
theorem dX8_heard_19 : decode cX8_heard 19 = .ok (.ireturn, 1) := by decide +kernel
theorem dX8_heard_20 : decode cX8_heard 20 = .ok (.aload_n 0, 1) := by decide +kernel
theorem dX8_heard_21 : decode cX8_heard 21 = .ok (.getfield 71, 3) := by decide +kernel
theorem dX8_heard_24 : decode cX8_heard 24 = .ok (.iload_n 1, 1) := by decide +kernel
theorem dX8_heard_25 : decode cX8_heard 25 = .ok (.iaload, 1) := by decide +kernel
theorem dX8_heard_26 : decode cX8_heard 26 = .ok (.ifCond .ge 6, 3) := by decide +kernel
theorem dX8_heard_29 : decode cX8_heard 29 = .ok (.bipush (-11), 2) := by decide +kernel
theorem dX8_heard_31 : decode cX8_heard 31 = .ok (.ireturn, 1) := by decide +kernel
theorem dX8_heard_32 : decode cX8_heard 32 = .ok (.iload_n 2, 1) := by decide +kernel
theorem dX8_heard_33 : decode cX8_heard 33 = .ok (.ifCond .ne 11, 3) := by decide +kernel
theorem dX8_heard_36 : decode cX8_heard 36 = .ok (.aload_n 0, 1) := by decide +kernel
theorem dX8_heard_37 : decode cX8_heard 37 = .ok (.iload_n 1, 1) := by decide +kernel
theorem dX8_heard_38 : decode cX8_heard 38 = .ok (.invokevirtual 307, 3) := by decide +kernel
theorem dX8_heard_41 : decode cX8_heard 41 = .ok (.goto 8, 3) := by decide +kernel
theorem dX8_heard_44 : decode cX8_heard 44 = .ok (.aload_n 0, 1) := by decide +kernel
theorem dX8_heard_45 : decode cX8_heard 45 = .ok (.iload_n 1, 1) := by decide +kernel
theorem dX8_heard_46 : decode cX8_heard 46 = .ok (.invokevirtual 310, 3) := by decide +kernel
theorem dX8_heard_49 : decode cX8_heard 49 = .ok (.ireturn, 1) := by decide +kernel
theorem dX8_bitsOf_0 : decode cX8_bitsOf 0 = .ok (.iconst 0, 1) := by decide +kernel
theorem dX8_bitsOf_1 : decode cX8_bitsOf 1 = .ok (.istore_n 1, 1) := by decide +kernel
theorem dX8_bitsOf_2 : decode cX8_bitsOf 2 = .ok (.iload_n 0, 1) := by decide +kernel
theorem dX8_bitsOf_3 : decode cX8_bitsOf 3 = .ok (.istore_n 2, 1) := by decide +kernel
theorem dX8_bitsOf_4 : decode cX8_bitsOf 4 = .ok (.iload_n 2, 1) := by decide +kernel
theorem dX8_bitsOf_5 : decode cX8_bitsOf 5 = .ok (.ifCond .eq 15, 3) := by decide +kernel
theorem dX8_bitsOf_8 : decode cX8_bitsOf 8 = .ok (.iinc 1 1, 3) := by decide +kernel
theorem dX8_bitsOf_11 : decode cX8_bitsOf 11 = .ok (.iload_n 2, 1) := by decide +kernel
theorem dX8_bitsOf_12 : decode cX8_bitsOf 12 = .ok (.iload_n 2, 1) := by decide +kernel
theorem dX8_bitsOf_13 : decode cX8_bitsOf 13 = .ok (.iconst 1, 1) := by decide +kernel
theorem dX8_bitsOf_14 : decode cX8_bitsOf 14 = .ok (.isub, 1) := by decide +kernel
theorem dX8_bitsOf_15 : decode cX8_bitsOf 15 = .ok (.iand, 1) := by decide +kernel
theorem dX8_bitsOf_16 : decode cX8_bitsOf 16 = .ok (.istore_n 2, 1) := by decide +kernel
theorem dX8_bitsOf_17 : decode cX8_bitsOf 17 = .ok (.goto (-13), 3) := by decide +kernel
theorem dX8_bitsOf_20 : decode cX8_bitsOf 20 = .ok (.iload_n 1, 1) := by decide +kernel
theorem dX8_bitsOf_21 : decode cX8_bitsOf 21 = .ok (.ireturn, 1) := by decide +kernel
theorem dX8_oil_0 : decode cX8_oil 0 = .ok (.iconst (-1), 1) := by decide +kernel
theorem dX8_oil_1 : decode cX8_oil 1 = .ok (.istore_n 1, 1) := by decide +kernel
theorem dX8_oil_2 : decode cX8_oil 2 = .ok (.iconst 0, 1) := by decide +kernel
theorem dX8_oil_3 : decode cX8_oil 3 = .ok (.istore_n 2, 1) := by decide +kernel
theorem dX8_oil_4 : decode cX8_oil 4 = .ok (.iconst 0, 1) := by decide +kernel
theorem dX8_oil_5 : decode cX8_oil 5 = .ok (.istore_n 3, 1) := by decide +kernel
theorem dX8_oil_6 : decode cX8_oil 6 = .ok (.iload_n 3, 1) := by decide +kernel
theorem dX8_oil_7 : decode cX8_oil 7 = .ok (.aload_n 0, 1) := by decide +kernel
theorem dX8_oil_8 : decode cX8_oil 8 = .ok (.getfield 90, 3) := by decide +kernel
theorem dX8_oil_11 : decode cX8_oil 11 = .ok (.if_icmp .ge 48, 3) := by decide +kernel
theorem dX8_oil_14 : decode cX8_oil 14 = .ok (.aload_n 0, 1) := by decide +kernel
theorem dX8_oil_15 : decode cX8_oil 15 = .ok (.invokevirtual 152, 3) := by decide +kernel
theorem dX8_oil_18 : decode cX8_oil 18 = .ok (.aload_n 0, 1) := by decide +kernel
theorem dX8_oil_19 : decode cX8_oil 19 = .ok (.getfield 31, 3) := by decide +kernel
theorem dX8_oil_22 : decode cX8_oil 22 = .ok (.iload_n 3, 1) := by decide +kernel
theorem dX8_oil_23 : decode cX8_oil 23 = .ok (.iconst 0, 1) := by decide +kernel
theorem dX8_oil_24 : decode cX8_oil 24 = .ok (.iastore, 1) := by decide +kernel
theorem dX8_oil_25 : decode cX8_oil 25 = .ok (.aload_n 0, 1) := by decide +kernel
theorem dX8_oil_26 : decode cX8_oil 26 = .ok (.invokevirtual 280, 3) := by decide +kernel
theorem dX8_oil_29 : decode cX8_oil 29 = .ok (.aload_n 0, 1) := by decide +kernel
theorem dX8_oil_30 : decode cX8_oil 30 = .ok (.invokevirtual 283, 3) := by decide +kernel
theorem dX8_oil_33 : decode cX8_oil 33 = .ok (.invokestatic 313, 3) := by decide +kernel
theorem dX8_oil_36 : decode cX8_oil 36 = .ok (.istore 4, 2) := by decide +kernel
theorem dX8_oil_38 : decode cX8_oil 38 = .ok (.iload_n 1, 1) := by decide +kernel
theorem dX8_oil_39 : decode cX8_oil 39 = .ok (.ifCond .lt 9, 3) := by decide +kernel
theorem dX8_oil_42 : decode cX8_oil 42 = .ok (.iload 4, 2) := by decide +kernel
theorem dX8_oil_44 : decode cX8_oil 44 = .ok (.iload_n 2, 1) := by decide +kernel
theorem dX8_oil_45 : decode cX8_oil 45 = .ok (.if_icmp .le 8, 3) := by decide +kernel
theorem dX8_oil_48 : decode cX8_oil 48 = .ok (.iload_n 3, 1) := by decide +kernel
theorem dX8_oil_49 : decode cX8_oil 49 = .ok (.istore_n 1, 1) := by decide +kernel
theorem dX8_oil_50 : decode cX8_oil 50 = .ok (.iload 4, 2) := by decide +kernel
theorem dX8_oil_52 : decode cX8_oil 52 = .ok (.istore_n 2, 1) := by decide +kernel
theorem dX8_oil_53 : decode cX8_oil 53 = .ok (.iinc 3 1, 3) := by decide +kernel
theorem dX8_oil_56 : decode cX8_oil 56 = .ok (.goto (-50), 3) := by decide +kernel
theorem dX8_oil_59 : decode cX8_oil 59 = .ok (.iload_n 1, 1) := by decide +kernel
theorem dX8_oil_60 : decode cX8_oil 60 = .ok (.ireturn, 1) := by decide +kernel
theorem dX8_thief_0 : decode cX8_thief 0 = .ok (.aload_n 0, 1) := by decide +kernel
theorem dX8_thief_1 : decode cX8_thief 1 = .ok (.iload_n 1, 1) := by decide +kernel
theorem dX8_thief_2 : decode cX8_thief 2 = .ok (.invokevirtual 112, 3) := by decide +kernel
theorem dX8_thief_5 : decode cX8_thief 5 = .ok (.ifCond .eq 15, 3) := by decide +kernel
theorem dX8_thief_8 : decode cX8_thief 8 = .ok (.iload_n 2, 1) := by decide +kernel
theorem dX8_thief_9 : decode cX8_thief 9 = .ok (.i2l, 1) := by decide +kernel
theorem dX8_thief_10 : decode cX8_thief 10 = .ok (.lconst 0, 1) := by decide +kernel
theorem dX8_thief_11 : decode cX8_thief 11 = .ok (.ldc2_w 103, 3) := by decide +kernel
theorem dX8_thief_14 : decode cX8_thief 14 = .ok (.invokestatic 93, 3) := by decide +kernel
theorem dX8_thief_17 : decode cX8_thief 17 = .ok (.ifCond .ne 6, 3) := by decide +kernel
theorem dX8_thief_20 : decode cX8_thief 20 = .ok (.bipush (-2), 2) := by decide +kernel
theorem dX8_thief_22 : decode cX8_thief 22 = .ok (.ireturn, 1) := by decide +kernel
theorem dX8_thief_23 : decode cX8_thief 23 = .ok (.aload_n 0, 1) := by decide +kernel
theorem dX8_thief_24 : decode cX8_thief 24 = .ok (.invokevirtual 152, 3) := by decide +kernel
theorem dX8_thief_27 : decode cX8_thief 27 = .ok (.aload_n 0, 1) := by decide +kernel
theorem dX8_thief_28 : decode cX8_thief 28 = .ok (.getfield 28, 3) := by decide +kernel
theorem dX8_thief_31 : decode cX8_thief 31 = .ok (.iload_n 1, 1) := by decide +kernel
theorem dX8_thief_32 : decode cX8_thief 32 = .ok (.iload_n 2, 1) := by decide +kernel
theorem dX8_thief_33 : decode cX8_thief 33 = .ok (.iastore, 1) := by decide +kernel
theorem dX8_thief_34 : decode cX8_thief 34 = .ok (.aload_n 0, 1) := by decide +kernel
theorem dX8_thief_35 : decode cX8_thief 35 = .ok (.invokevirtual 280, 3) := by decide +kernel
theorem dX8_thief_38 : decode cX8_thief 38 = .ok (.aload_n 0, 1) := by decide +kernel
theorem dX8_thief_39 : decode cX8_thief 39 = .ok (.invokevirtual 283, 3) := by decide +kernel
theorem dX8_thief_42 : decode cX8_thief 42 = .ok (.invokestatic 313, 3) := by decide +kernel
theorem dX8_thief_45 : decode cX8_thief 45 = .ok (.ireturn, 1) := by decide +kernel
theorem dX8_image_0 : decode cX8_image 0 = .ok (.aload_n 0, 1) := by decide +kernel
theorem dX8_image_1 : decode cX8_image 1 = .ok (.iconst 1, 1) := by decide +kernel
theorem dX8_image_2 : decode cX8_image 2 = .ok (.putfield 316, 3) := by decide +kernel
theorem dX8_image_5 : decode cX8_image 5 = .ok (.aload_n 0, 1) := by decide +kernel
theorem dX8_image_6 : decode cX8_image 6 = .ok (.aload_n 0, 1) := by decide +kernel
theorem dX8_image_7 : decode cX8_image 7 = .ok (.getfield 90, 3) := by decide +kernel
theorem dX8_image_10 : decode cX8_image 10 = .ok (.putfield 319, 3) := by decide +kernel
theorem dX8_image_13 : decode cX8_image 13 = .ok (.aload_n 0, 1) := by decide +kernel
theorem dX8_image_14 : decode cX8_image 14 = .ok (.aload_n 0, 1) := by decide +kernel
theorem dX8_image_15 : decode cX8_image 15 = .ok (.getfield 115, 3) := by decide +kernel
theorem dX8_image_18 : decode cX8_image 18 = .ok (.putfield 322, 3) := by decide +kernel
theorem dX8_image_21 : decode cX8_image 21 = .ok (.aload_n 0, 1) := by decide +kernel
theorem dX8_image_22 : decode cX8_image 22 = .ok (.aload_n 0, 1) := by decide +kernel
theorem dX8_image_23 : decode cX8_image 23 = .ok (.getfield 109, 3) := by decide +kernel
theorem dX8_image_26 : decode cX8_image 26 = .ok (.putfield 325, 3) := by decide +kernel
theorem dX8_image_29 : decode cX8_image 29 = .ok (.aload_n 0, 1) := by decide +kernel
theorem dX8_image_30 : decode cX8_image 30 = .ok (.aload_n 0, 1) := by decide +kernel
theorem dX8_image_31 : decode cX8_image 31 = .ok (.getfield 252, 3) := by decide +kernel
theorem dX8_image_34 : decode cX8_image 34 = .ok (.putfield 328, 3) := by decide +kernel
theorem dX8_image_37 : decode cX8_image 37 = .ok (.iconst 0, 1) := by decide +kernel
theorem dX8_image_38 : decode cX8_image 38 = .ok (.istore_n 1, 1) := by decide +kernel
theorem dX8_image_39 : decode cX8_image 39 = .ok (.iload_n 1, 1) := by decide +kernel
theorem dX8_image_40 : decode cX8_image 40 = .ok (.aload_n 0, 1) := by decide +kernel
theorem dX8_image_41 : decode cX8_image 41 = .ok (.getfield 90, 3) := by decide +kernel
theorem dX8_image_44 : decode cX8_image 44 = .ok (.if_icmp .ge 21, 3) := by decide +kernel
theorem dX8_image_47 : decode cX8_image 47 = .ok (.aload_n 0, 1) := by decide +kernel
theorem dX8_image_48 : decode cX8_image 48 = .ok (.getfield 68, 3) := by decide +kernel
theorem dX8_image_51 : decode cX8_image 51 = .ok (.iload_n 1, 1) := by decide +kernel
theorem dX8_image_52 : decode cX8_image 52 = .ok (.aload_n 0, 1) := by decide +kernel
theorem dX8_image_53 : decode cX8_image 53 = .ok (.getfield 25, 3) := by decide +kernel
theorem dX8_image_56 : decode cX8_image 56 = .ok (.iload_n 1, 1) := by decide +kernel
theorem dX8_image_57 : decode cX8_image 57 = .ok (.iaload, 1) := by decide +kernel
theorem dX8_image_58 : decode cX8_image 58 = .ok (.iastore, 1) := by decide +kernel
theorem dX8_image_59 : decode cX8_image 59 = .ok (.iinc 1 1, 3) := by decide +kernel
theorem dX8_image_62 : decode cX8_image 62 = .ok (.goto (-23), 3) := by decide +kernel
theorem dX8_image_65 : decode cX8_image 65 = .ok (.aload_n 0, 1) := by decide +kernel
theorem dX8_image_66 : decode cX8_image 66 = .ok (.getfield 109, 3) := by decide +kernel
theorem dX8_image_69 : decode cX8_image 69 = .ok (.ireturn, 1) := by decide +kernel
theorem dX8_back_0 : decode cX8_back 0 = .ok (.aload_n 0, 1) := by decide +kernel
theorem dX8_back_1 : decode cX8_back 1 = .ok (.getfield 316, 3) := by decide +kernel
theorem dX8_back_4 : decode cX8_back 4 = .ok (.ifCond .eq 14, 3) := by decide +kernel
theorem dX8_back_7 : decode cX8_back 7 = .ok (.aload_n 0, 1) := by decide +kernel
theorem dX8_back_8 : decode cX8_back 8 = .ok (.aload_n 0, 1) := by decide +kernel
theorem dX8_back_9 : decode cX8_back 9 = .ok (.getfield 325, 3) := by decide +kernel
theorem dX8_back_12 : decode cX8_back 12 = .ok (.invokevirtual 99, 3) := by decide +kernel
theorem dX8_back_15 : decode cX8_back 15 = .ok (.ifCond .ne 6, 3) := by decide +kernel
theorem dX8_back_18 : decode cX8_back 18 = .ok (.bipush (-3), 2) := by decide +kernel
theorem dX8_back_20 : decode cX8_back 20 = .ok (.ireturn, 1) := by decide +kernel
theorem dX8_back_21 : decode cX8_back 21 = .ok (.aload_n 0, 1) := by decide +kernel
theorem dX8_back_22 : decode cX8_back 22 = .ok (.aload_n 0, 1) := by decide +kernel
theorem dX8_back_23 : decode cX8_back 23 = .ok (.getfield 322, 3) := by decide +kernel
theorem dX8_back_26 : decode cX8_back 26 = .ok (.putfield 115, 3) := by decide +kernel
theorem dX8_back_29 : decode cX8_back 29 = .ok (.aload_n 0, 1) := by decide +kernel
theorem dX8_back_30 : decode cX8_back 30 = .ok (.aload_n 0, 1) := by decide +kernel
theorem dX8_back_31 : decode cX8_back 31 = .ok (.getfield 325, 3) := by decide +kernel
theorem dX8_back_34 : decode cX8_back 34 = .ok (.putfield 109, 3) := by decide +kernel
theorem dX8_back_37 : decode cX8_back 37 = .ok (.aload_n 0, 1) := by decide +kernel
theorem dX8_back_38 : decode cX8_back 38 = .ok (.aload_n 0, 1) := by decide +kernel
theorem dX8_back_39 : decode cX8_back 39 = .ok (.getfield 328, 3) := by decide +kernel
theorem dX8_back_42 : decode cX8_back 42 = .ok (.putfield 252, 3) := by decide +kernel
theorem dX8_back_45 : decode cX8_back 45 = .ok (.iconst 0, 1) := by decide +kernel
theorem dX8_back_46 : decode cX8_back 46 = .ok (.istore_n 1, 1) := by decide +kernel
theorem dX8_back_47 : decode cX8_back 47 = .ok (.iload_n 1, 1) := by decide +kernel
theorem dX8_back_48 : decode cX8_back 48 = .ok (.aload_n 0, 1) := by decide +kernel
theorem dX8_back_49 : decode cX8_back 49 = .ok (.getfield 319, 3) := by decide +kernel
theorem dX8_back_52 : decode cX8_back 52 = .ok (.if_icmp .ge 21, 3) := by decide +kernel
theorem dX8_back_55 : decode cX8_back 55 = .ok (.aload_n 0, 1) := by decide +kernel
theorem dX8_back_56 : decode cX8_back 56 = .ok (.getfield 25, 3) := by decide +kernel
theorem dX8_back_59 : decode cX8_back 59 = .ok (.iload_n 1, 1) := by decide +kernel
theorem dX8_back_60 : decode cX8_back 60 = .ok (.aload_n 0, 1) := by decide +kernel
theorem dX8_back_61 : decode cX8_back 61 = .ok (.getfield 68, 3) := by decide +kernel
theorem dX8_back_64 : decode cX8_back 64 = .ok (.iload_n 1, 1) := by decide +kernel
theorem dX8_back_65 : decode cX8_back 65 = .ok (.iaload, 1) := by decide +kernel
theorem dX8_back_66 : decode cX8_back 66 = .ok (.iastore, 1) := by decide +kernel
theorem dX8_back_67 : decode cX8_back 67 = .ok (.iinc 1 1, 3) := by decide +kernel
theorem dX8_back_70 : decode cX8_back 70 = .ok (.goto (-23), 3) := by decide +kernel
theorem dX8_back_73 : decode cX8_back 73 = .ok (.aload_n 0, 1) := by decide +kernel
theorem dX8_back_74 : decode cX8_back 74 = .ok (.getfield 109, 3) := by decide +kernel
theorem dX8_back_77 : decode cX8_back 77 = .ok (.ireturn, 1) := by decide +kernel
theorem dX8_count_0 : decode cX8_count 0 = .ok (.iload_n 1, 1) := by decide +kernel
theorem dX8_count_1 : decode cX8_count 1 = .ok (.tableswitch 91 0 7 #[47, 52, 57, 62, 67, 72, 77, 82], 47) := by decide +kernel
theorem dX8_count_48 : decode cX8_count 48 = .ok (.aload_n 0, 1) := by decide +kernel
theorem dX8_count_49 : decode cX8_count 49 = .ok (.getfield 87, 3) := by decide +kernel
theorem dX8_count_52 : decode cX8_count 52 = .ok (.ireturn, 1) := by decide +kernel
theorem dX8_count_53 : decode cX8_count 53 = .ok (.aload_n 0, 1) := by decide +kernel
theorem dX8_count_54 : decode cX8_count 54 = .ok (.getfield 90, 3) := by decide +kernel
theorem dX8_count_57 : decode cX8_count 57 = .ok (.ireturn, 1) := by decide +kernel
theorem dX8_count_58 : decode cX8_count 58 = .ok (.aload_n 0, 1) := by decide +kernel
theorem dX8_count_59 : decode cX8_count 59 = .ok (.getfield 115, 3) := by decide +kernel
theorem dX8_count_62 : decode cX8_count 62 = .ok (.ireturn, 1) := by decide +kernel
theorem dX8_count_63 : decode cX8_count 63 = .ok (.aload_n 0, 1) := by decide +kernel
theorem dX8_count_64 : decode cX8_count 64 = .ok (.getfield 109, 3) := by decide +kernel
theorem dX8_count_67 : decode cX8_count 67 = .ok (.ireturn, 1) := by decide +kernel
theorem dX8_count_68 : decode cX8_count 68 = .ok (.aload_n 0, 1) := by decide +kernel
theorem dX8_count_69 : decode cX8_count 69 = .ok (.getfield 83, 3) := by decide +kernel
theorem dX8_count_72 : decode cX8_count 72 = .ok (.ireturn, 1) := by decide +kernel
theorem dX8_count_73 : decode cX8_count 73 = .ok (.aload_n 0, 1) := by decide +kernel
theorem dX8_count_74 : decode cX8_count 74 = .ok (.getfield 160, 3) := by decide +kernel
theorem dX8_count_77 : decode cX8_count 77 = .ok (.ireturn, 1) := by decide +kernel
theorem dX8_count_78 : decode cX8_count 78 = .ok (.aload_n 0, 1) := by decide +kernel
theorem dX8_count_79 : decode cX8_count 79 = .ok (.getfield 252, 3) := by decide +kernel
theorem dX8_count_82 : decode cX8_count 82 = .ok (.ireturn, 1) := by decide +kernel
theorem dX8_count_83 : decode cX8_count 83 = .ok (.aload_n 0, 1) := by decide +kernel
theorem dX8_count_84 : decode cX8_count 84 = .ok (.invokevirtual 152, 3) := by decide +kernel
theorem dX8_count_87 : decode cX8_count 87 = .ok (.aload_n 0, 1) := by decide +kernel
theorem dX8_count_88 : decode cX8_count 88 = .ok (.invokevirtual 255, 3) := by decide +kernel
theorem dX8_count_91 : decode cX8_count 91 = .ok (.ireturn, 1) := by decide +kernel
theorem dX8_count_92 : decode cX8_count 92 = .ok (.bipush (-2), 2) := by decide +kernel
theorem dX8_count_94 : decode cX8_count 94 = .ok (.ireturn, 1) := by decide +kernel
theorem dX8_isSheet_0 : decode cX8_isSheet 0 = .ok (.iload_n 0, 1) := by decide +kernel
theorem dX8_isSheet_1 : decode cX8_isSheet 1 = .ok (.i2l, 1) := by decide +kernel
theorem dX8_isSheet_2 : decode cX8_isSheet 2 = .ok (.lconst 0, 1) := by decide +kernel
theorem dX8_isSheet_3 : decode cX8_isSheet 3 = .ok (.ldc2_w 103, 3) := by decide +kernel
theorem dX8_isSheet_6 : decode cX8_isSheet 6 = .ok (.invokestatic 93, 3) := by decide +kernel
theorem dX8_isSheet_9 : decode cX8_isSheet 9 = .ok (.ireturn, 1) := by decide +kernel
theorem dX8_sheet_0 : decode cX8_sheet 0 = .ok (.iload_n 1, 1) := by decide +kernel
theorem dX8_sheet_1 : decode cX8_sheet 1 = .ok (.invokestatic 301, 3) := by decide +kernel
theorem dX8_sheet_4 : decode cX8_sheet 4 = .ok (.ifCond .eq 27, 3) := by decide +kernel
theorem dX8_sheet_7 : decode cX8_sheet 7 = .ok (.iload_n 2, 1) := by decide +kernel
theorem dX8_sheet_8 : decode cX8_sheet 8 = .ok (.i2l, 1) := by decide +kernel
theorem dX8_sheet_9 : decode cX8_sheet 9 = .ok (.ldc2_w 331, 3) := by decide +kernel
theorem dX8_sheet_12 : decode cX8_sheet 12 = .ok (.ldc2_w 333, 3) := by decide +kernel
theorem dX8_sheet_15 : decode cX8_sheet 15 = .ok (.invokestatic 93, 3) := by decide +kernel
theorem dX8_sheet_18 : decode cX8_sheet 18 = .ok (.ifCond .eq 13, 3) := by decide +kernel
theorem dX8_sheet_21 : decode cX8_sheet 21 = .ok (.iload_n 2, 1) := by decide +kernel
theorem dX8_sheet_22 : decode cX8_sheet 22 = .ok (.ifCond .lt 12, 3) := by decide +kernel
theorem dX8_sheet_25 : decode cX8_sheet 25 = .ok (.iload_n 3, 1) := by decide +kernel
theorem dX8_sheet_26 : decode cX8_sheet 26 = .ok (.bipush 40, 2) := by decide +kernel
theorem dX8_sheet_28 : decode cX8_sheet 28 = .ok (.if_icmp .le 6, 3) := by decide +kernel
theorem dX8_sheet_31 : decode cX8_sheet 31 = .ok (.bipush (-2), 2) := by decide +kernel
theorem dX8_sheet_33 : decode cX8_sheet 33 = .ok (.ireturn, 1) := by decide +kernel
theorem dX8_sheet_34 : decode cX8_sheet 34 = .ok (.iload_n 2, 1) := by decide +kernel
theorem dX8_sheet_35 : decode cX8_sheet 35 = .ok (.ifCond .lt 10, 3) := by decide +kernel
theorem dX8_sheet_38 : decode cX8_sheet 38 = .ok (.iload_n 3, 1) := by decide +kernel
theorem dX8_sheet_39 : decode cX8_sheet 39 = .ok (.ifCond .ge 6, 3) := by decide +kernel
theorem dX8_sheet_42 : decode cX8_sheet 42 = .ok (.bipush (-14), 2) := by decide +kernel
theorem dX8_sheet_44 : decode cX8_sheet 44 = .ok (.ireturn, 1) := by decide +kernel
theorem dX8_sheet_45 : decode cX8_sheet 45 = .ok (.aload_n 0, 1) := by decide +kernel
theorem dX8_sheet_46 : decode cX8_sheet 46 = .ok (.getfield 71, 3) := by decide +kernel
theorem dX8_sheet_49 : decode cX8_sheet 49 = .ok (.iload_n 1, 1) := by decide +kernel
theorem dX8_sheet_50 : decode cX8_sheet 50 = .ok (.iload_n 2, 1) := by decide +kernel
theorem dX8_sheet_51 : decode cX8_sheet 51 = .ok (.iastore, 1) := by decide +kernel
theorem dX8_sheet_52 : decode cX8_sheet 52 = .ok (.aload_n 0, 1) := by decide +kernel
theorem dX8_sheet_53 : decode cX8_sheet 53 = .ok (.getfield 74, 3) := by decide +kernel
theorem dX8_sheet_56 : decode cX8_sheet 56 = .ok (.iload_n 1, 1) := by decide +kernel
theorem dX8_sheet_57 : decode cX8_sheet 57 = .ok (.iload_n 2, 1) := by decide +kernel
theorem dX8_sheet_58 : decode cX8_sheet 58 = .ok (.ifCond .ge 7, 3) := by decide +kernel
theorem dX8_sheet_61 : decode cX8_sheet 61 = .ok (.iconst 0, 1) := by decide +kernel
theorem dX8_sheet_62 : decode cX8_sheet 62 = .ok (.goto 4, 3) := by decide +kernel
theorem dX8_sheet_65 : decode cX8_sheet 65 = .ok (.iload_n 3, 1) := by decide +kernel
theorem dX8_sheet_66 : decode cX8_sheet 66 = .ok (.iastore, 1) := by decide +kernel
theorem dX8_sheet_67 : decode cX8_sheet 67 = .ok (.bipush 40, 2) := by decide +kernel
theorem dX8_sheet_69 : decode cX8_sheet 69 = .ok (.iload_n 1, 1) := by decide +kernel
theorem dX8_sheet_70 : decode cX8_sheet 70 = .ok (.imul, 1) := by decide +kernel
theorem dX8_sheet_71 : decode cX8_sheet 71 = .ok (.istore 4, 2) := by decide +kernel
theorem dX8_sheet_73 : decode cX8_sheet 73 = .ok (.iload 4, 2) := by decide +kernel
theorem dX8_sheet_75 : decode cX8_sheet 75 = .ok (.bipush 40, 2) := by decide +kernel
theorem dX8_sheet_77 : decode cX8_sheet 77 = .ok (.iload_n 1, 1) := by decide +kernel
theorem dX8_sheet_78 : decode cX8_sheet 78 = .ok (.imul, 1) := by decide +kernel
theorem dX8_sheet_79 : decode cX8_sheet 79 = .ok (.bipush 40, 2) := by decide +kernel
theorem dX8_sheet_81 : decode cX8_sheet 81 = .ok (.iadd, 1) := by decide +kernel
theorem dX8_sheet_82 : decode cX8_sheet 82 = .ok (.if_icmp .ge 17, 3) := by decide +kernel
theorem dX8_sheet_85 : decode cX8_sheet 85 = .ok (.aload_n 0, 1) := by decide +kernel
theorem dX8_sheet_86 : decode cX8_sheet 86 = .ok (.getfield 77, 3) := by decide +kernel
theorem dX8_sheet_89 : decode cX8_sheet 89 = .ok (.iload 4, 2) := by decide +kernel
theorem dX8_sheet_91 : decode cX8_sheet 91 = .ok (.iconst 0, 1) := by decide +kernel
theorem dX8_sheet_92 : decode cX8_sheet 92 = .ok (.iastore, 1) := by decide +kernel
theorem dX8_sheet_93 : decode cX8_sheet 93 = .ok (.iinc 4 1, 3) := by decide +kernel
theorem dX8_sheet_96 : decode cX8_sheet 96 = .ok (.goto (-23), 3) := by decide +kernel
theorem dX8_sheet_99 : decode cX8_sheet 99 = .ok (.iconst 1, 1) := by decide +kernel
theorem dX8_sheet_100 : decode cX8_sheet 100 = .ok (.ireturn, 1) := by decide +kernel
theorem dX8_cell_0 : decode cX8_cell 0 = .ok (.iload_n 1, 1) := by decide +kernel
theorem dX8_cell_1 : decode cX8_cell 1 = .ok (.invokestatic 301, 3) := by decide +kernel
theorem dX8_cell_4 : decode cX8_cell 4 = .ok (.ifCond .ne 6, 3) := by decide +kernel
theorem dX8_cell_7 : decode cX8_cell 7 = .ok (.bipush (-2), 2) := by decide +kernel
theorem dX8_cell_9 : decode cX8_cell 9 = .ok (.ireturn, 1) := by decide +kernel
theorem dX8_cell_10 : decode cX8_cell 10 = .ok (.aload_n 0, 1) := by decide +kernel
theorem dX8_cell_11 : decode cX8_cell 11 = .ok (.getfield 71, 3) := by decide +kernel
theorem dX8_cell_14 : decode cX8_cell 14 = .ok (.iload_n 1, 1) := by decide +kernel
theorem dX8_cell_15 : decode cX8_cell 15 = .ok (.iaload, 1) := by decide +kernel
theorem dX8_cell_16 : decode cX8_cell 16 = .ok (.ifCond .ge 6, 3) := by decide +kernel
theorem dX8_cell_19 : decode cX8_cell 19 = .ok (.bipush (-11), 2) := by decide +kernel
theorem dX8_cell_21 : decode cX8_cell 21 = .ok (.ireturn, 1) := by decide +kernel
theorem dX8_cell_22 : decode cX8_cell 22 = .ok (.iload_n 2, 1) := by decide +kernel
theorem dX8_cell_23 : decode cX8_cell 23 = .ok (.i2l, 1) := by decide +kernel
theorem dX8_cell_24 : decode cX8_cell 24 = .ok (.lconst 0, 1) := by decide +kernel
theorem dX8_cell_25 : decode cX8_cell 25 = .ok (.aload_n 0, 1) := by decide +kernel
theorem dX8_cell_26 : decode cX8_cell 26 = .ok (.getfield 74, 3) := by decide +kernel
theorem dX8_cell_29 : decode cX8_cell 29 = .ok (.iload_n 1, 1) := by decide +kernel
theorem dX8_cell_30 : decode cX8_cell 30 = .ok (.iaload, 1) := by decide +kernel
theorem dX8_cell_31 : decode cX8_cell 31 = .ok (.iconst 1, 1) := by decide +kernel
theorem dX8_cell_32 : decode cX8_cell 32 = .ok (.isub, 1) := by decide +kernel
theorem dX8_cell_33 : decode cX8_cell 33 = .ok (.i2l, 1) := by decide +kernel
theorem dX8_cell_34 : decode cX8_cell 34 = .ok (.invokestatic 93, 3) := by decide +kernel
theorem dX8_cell_37 : decode cX8_cell 37 = .ok (.ifCond .ne 6, 3) := by decide +kernel
theorem dX8_cell_40 : decode cX8_cell 40 = .ok (.bipush (-12), 2) := by decide +kernel
theorem dX8_cell_42 : decode cX8_cell 42 = .ok (.ireturn, 1) := by decide +kernel
theorem dX8_cell_43 : decode cX8_cell 43 = .ok (.aload_n 0, 1) := by decide +kernel
theorem dX8_cell_44 : decode cX8_cell 44 = .ok (.getfield 77, 3) := by decide +kernel
theorem dX8_cell_47 : decode cX8_cell 47 = .ok (.bipush 40, 2) := by decide +kernel
theorem dX8_cell_49 : decode cX8_cell 49 = .ok (.iload_n 1, 1) := by decide +kernel
theorem dX8_cell_50 : decode cX8_cell 50 = .ok (.imul, 1) := by decide +kernel
theorem dX8_cell_51 : decode cX8_cell 51 = .ok (.iload_n 2, 1) := by decide +kernel
theorem dX8_cell_52 : decode cX8_cell 52 = .ok (.iadd, 1) := by decide +kernel
theorem dX8_cell_53 : decode cX8_cell 53 = .ok (.aload_n 0, 1) := by decide +kernel
theorem dX8_cell_54 : decode cX8_cell 54 = .ok (.getfield 71, 3) := by decide +kernel
theorem dX8_cell_57 : decode cX8_cell 57 = .ok (.iload_n 1, 1) := by decide +kernel
theorem dX8_cell_58 : decode cX8_cell 58 = .ok (.iaload, 1) := by decide +kernel
theorem dX8_cell_59 : decode cX8_cell 59 = .ok (.ifCond .ne 8, 3) := by decide +kernel
theorem dX8_cell_62 : decode cX8_cell 62 = .ok (.iload_n 3, 1) := by decide +kernel
theorem dX8_cell_63 : decode cX8_cell 63 = .ok (.i2b, 1) := by decide +kernel
theorem dX8_cell_64 : decode cX8_cell 64 = .ok (.goto 19, 3) := by decide +kernel
theorem dX8_cell_67 : decode cX8_cell 67 = .ok (.aload_n 0, 1) := by decide +kernel
theorem dX8_cell_68 : decode cX8_cell 68 = .ok (.getfield 71, 3) := by decide +kernel
theorem dX8_cell_71 : decode cX8_cell 71 = .ok (.iload_n 1, 1) := by decide +kernel
theorem dX8_cell_72 : decode cX8_cell 72 = .ok (.iaload, 1) := by decide +kernel
theorem dX8_cell_73 : decode cX8_cell 73 = .ok (.iconst 1, 1) := by decide +kernel
theorem dX8_cell_74 : decode cX8_cell 74 = .ok (.if_icmp .ne 8, 3) := by decide +kernel
theorem dX8_cell_77 : decode cX8_cell 77 = .ok (.iload_n 3, 1) := by decide +kernel
theorem dX8_cell_78 : decode cX8_cell 78 = .ok (.i2s, 1) := by decide +kernel
theorem dX8_cell_79 : decode cX8_cell 79 = .ok (.goto 4, 3) := by decide +kernel
theorem dX8_cell_82 : decode cX8_cell 82 = .ok (.iload_n 3, 1) := by decide +kernel
theorem dX8_cell_83 : decode cX8_cell 83 = .ok (.iastore, 1) := by decide +kernel
theorem dX8_cell_84 : decode cX8_cell 84 = .ok (.iconst 1, 1) := by decide +kernel
theorem dX8_cell_85 : decode cX8_cell 85 = .ok (.ireturn, 1) := by decide +kernel
theorem dX8_copy_0 : decode cX8_copy 0 = .ok (.iload_n 1, 1) := by decide +kernel
theorem dX8_copy_1 : decode cX8_copy 1 = .ok (.invokestatic 301, 3) := by decide +kernel
theorem dX8_copy_4 : decode cX8_copy 4 = .ok (.ifCond .eq 10, 3) := by decide +kernel
theorem dX8_copy_7 : decode cX8_copy 7 = .ok (.iload_n 3, 1) := by decide +kernel
theorem dX8_copy_8 : decode cX8_copy 8 = .ok (.invokestatic 301, 3) := by decide +kernel
theorem dX8_copy_11 : decode cX8_copy 11 = .ok (.ifCond .ne 6, 3) := by decide +kernel
theorem dX8_copy_14 : decode cX8_copy 14 = .ok (.bipush (-2), 2) := by decide +kernel
theorem dX8_copy_16 : decode cX8_copy 16 = .ok (.ireturn, 1) := by decide +kernel
theorem dX8_copy_17 : decode cX8_copy 17 = .ok (.aload_n 0, 1) := by decide +kernel
theorem dX8_copy_18 : decode cX8_copy 18 = .ok (.getfield 71, 3) := by decide +kernel
theorem dX8_copy_21 : decode cX8_copy 21 = .ok (.iload_n 1, 1) := by decide +kernel
theorem dX8_copy_22 : decode cX8_copy 22 = .ok (.iaload, 1) := by decide +kernel
theorem dX8_copy_23 : decode cX8_copy 23 = .ok (.ifCond .lt 12, 3) := by decide +kernel
theorem dX8_copy_26 : decode cX8_copy 26 = .ok (.aload_n 0, 1) := by decide +kernel
theorem dX8_copy_27 : decode cX8_copy 27 = .ok (.getfield 71, 3) := by decide +kernel
theorem dX8_copy_30 : decode cX8_copy 30 = .ok (.iload_n 3, 1) := by decide +kernel
theorem dX8_copy_31 : decode cX8_copy 31 = .ok (.iaload, 1) := by decide +kernel
theorem dX8_copy_32 : decode cX8_copy 32 = .ok (.ifCond .ge 6, 3) := by decide +kernel
theorem dX8_copy_35 : decode cX8_copy 35 = .ok (.bipush (-11), 2) := by decide +kernel
theorem dX8_copy_37 : decode cX8_copy 37 = .ok (.ireturn, 1) := by decide +kernel
theorem dX8_copy_38 : decode cX8_copy 38 = .ok (.aload_n 0, 1) := by decide +kernel
theorem dX8_copy_39 : decode cX8_copy 39 = .ok (.getfield 71, 3) := by decide +kernel
theorem dX8_copy_42 : decode cX8_copy 42 = .ok (.iload_n 1, 1) := by decide +kernel
theorem dX8_copy_43 : decode cX8_copy 43 = .ok (.iaload, 1) := by decide +kernel
theorem dX8_copy_44 : decode cX8_copy 44 = .ok (.aload_n 0, 1) := by decide +kernel
theorem dX8_copy_45 : decode cX8_copy 45 = .ok (.getfield 71, 3) := by decide +kernel
theorem dX8_copy_48 : decode cX8_copy 48 = .ok (.iload_n 3, 1) := by decide +kernel
theorem dX8_copy_49 : decode cX8_copy 49 = .ok (.iaload, 1) := by decide +kernel
theorem dX8_copy_50 : decode cX8_copy 50 = .ok (.if_icmp .eq 6, 3) := by decide +kernel
theorem dX8_copy_53 : decode cX8_copy 53 = .ok (.bipush (-13), 2) := by decide +kernel
theorem dX8_copy_55 : decode cX8_copy 55 = .ok (.ireturn, 1) := by decide +kernel
theorem dX8_copy_56 : decode cX8_copy 56 = .ok (.iload 5, 2) := by decide +kernel
theorem dX8_copy_58 : decode cX8_copy 58 = .ok (.ifCond .lt 39, 3) := by decide +kernel
theorem dX8_copy_61 : decode cX8_copy 61 = .ok (.iload_n 2, 1) := by decide +kernel
theorem dX8_copy_62 : decode cX8_copy 62 = .ok (.ifCond .lt 35, 3) := by decide +kernel
theorem dX8_copy_65 : decode cX8_copy 65 = .ok (.iload 4, 2) := by decide +kernel
theorem dX8_copy_67 : decode cX8_copy 67 = .ok (.ifCond .lt 30, 3) := by decide +kernel
theorem dX8_copy_70 : decode cX8_copy 70 = .ok (.iload_n 2, 1) := by decide +kernel
theorem dX8_copy_71 : decode cX8_copy 71 = .ok (.aload_n 0, 1) := by decide +kernel
theorem dX8_copy_72 : decode cX8_copy 72 = .ok (.getfield 74, 3) := by decide +kernel
theorem dX8_copy_75 : decode cX8_copy 75 = .ok (.iload_n 1, 1) := by decide +kernel
theorem dX8_copy_76 : decode cX8_copy 76 = .ok (.iaload, 1) := by decide +kernel
theorem dX8_copy_77 : decode cX8_copy 77 = .ok (.iload 5, 2) := by decide +kernel
theorem dX8_copy_79 : decode cX8_copy 79 = .ok (.isub, 1) := by decide +kernel
theorem dX8_copy_80 : decode cX8_copy 80 = .ok (.if_icmp .gt 17, 3) := by decide +kernel
theorem dX8_copy_83 : decode cX8_copy 83 = .ok (.iload 4, 2) := by decide +kernel
theorem dX8_copy_85 : decode cX8_copy 85 = .ok (.aload_n 0, 1) := by decide +kernel
theorem dX8_copy_86 : decode cX8_copy 86 = .ok (.getfield 74, 3) := by decide +kernel
theorem dX8_copy_89 : decode cX8_copy 89 = .ok (.iload_n 3, 1) := by decide +kernel
theorem dX8_copy_90 : decode cX8_copy 90 = .ok (.iaload, 1) := by decide +kernel
theorem dX8_copy_91 : decode cX8_copy 91 = .ok (.iload 5, 2) := by decide +kernel
theorem dX8_copy_93 : decode cX8_copy 93 = .ok (.isub, 1) := by decide +kernel
theorem dX8_copy_94 : decode cX8_copy 94 = .ok (.if_icmp .le 6, 3) := by decide +kernel
theorem dX8_copy_97 : decode cX8_copy 97 = .ok (.bipush (-12), 2) := by decide +kernel
theorem dX8_copy_99 : decode cX8_copy 99 = .ok (.ireturn, 1) := by decide +kernel
theorem dX8_copy_100 : decode cX8_copy 100 = .ok (.iconst 0, 1) := by decide +kernel
theorem dX8_copy_101 : decode cX8_copy 101 = .ok (.istore 6, 2) := by decide +kernel
theorem dX8_copy_103 : decode cX8_copy 103 = .ok (.iload 6, 2) := by decide +kernel
theorem dX8_copy_105 : decode cX8_copy 105 = .ok (.iload 5, 2) := by decide +kernel
theorem dX8_copy_107 : decode cX8_copy 107 = .ok (.if_icmp .ge 30, 3) := by decide +kernel
theorem dX8_copy_110 : decode cX8_copy 110 = .ok (.aload_n 0, 1) := by decide +kernel
theorem dX8_copy_111 : decode cX8_copy 111 = .ok (.getfield 80, 3) := by decide +kernel
theorem dX8_copy_114 : decode cX8_copy 114 = .ok (.iload 6, 2) := by decide +kernel
theorem dX8_copy_116 : decode cX8_copy 116 = .ok (.aload_n 0, 1) := by decide +kernel
theorem dX8_copy_117 : decode cX8_copy 117 = .ok (.getfield 77, 3) := by decide +kernel
theorem dX8_copy_120 : decode cX8_copy 120 = .ok (.bipush 40, 2) := by decide +kernel
theorem dX8_copy_122 : decode cX8_copy 122 = .ok (.iload_n 1, 1) := by decide +kernel
theorem dX8_copy_123 : decode cX8_copy 123 = .ok (.imul, 1) := by decide +kernel
theorem dX8_copy_124 : decode cX8_copy 124 = .ok (.iload_n 2, 1) := by decide +kernel
theorem dX8_copy_125 : decode cX8_copy 125 = .ok (.iadd, 1) := by decide +kernel
theorem dX8_copy_126 : decode cX8_copy 126 = .ok (.iload 6, 2) := by decide +kernel
theorem dX8_copy_128 : decode cX8_copy 128 = .ok (.iadd, 1) := by decide +kernel
theorem dX8_copy_129 : decode cX8_copy 129 = .ok (.iaload, 1) := by decide +kernel
theorem dX8_copy_130 : decode cX8_copy 130 = .ok (.iastore, 1) := by decide +kernel
theorem dX8_copy_131 : decode cX8_copy 131 = .ok (.iinc 6 1, 3) := by decide +kernel
theorem dX8_copy_134 : decode cX8_copy 134 = .ok (.goto (-31), 3) := by decide +kernel
theorem dX8_copy_137 : decode cX8_copy 137 = .ok (.iconst 0, 1) := by decide +kernel
theorem dX8_copy_138 : decode cX8_copy 138 = .ok (.istore 6, 2) := by decide +kernel
theorem dX8_copy_140 : decode cX8_copy 140 = .ok (.iload 6, 2) := by decide +kernel
theorem dX8_copy_142 : decode cX8_copy 142 = .ok (.iload 5, 2) := by decide +kernel
theorem dX8_copy_144 : decode cX8_copy 144 = .ok (.if_icmp .ge 31, 3) := by decide +kernel
theorem dX8_copy_147 : decode cX8_copy 147 = .ok (.aload_n 0, 1) := by decide +kernel
theorem dX8_copy_148 : decode cX8_copy 148 = .ok (.getfield 77, 3) := by decide +kernel
theorem dX8_copy_151 : decode cX8_copy 151 = .ok (.bipush 40, 2) := by decide +kernel
theorem dX8_copy_153 : decode cX8_copy 153 = .ok (.iload_n 3, 1) := by decide +kernel
theorem dX8_copy_154 : decode cX8_copy 154 = .ok (.imul, 1) := by decide +kernel
theorem dX8_copy_155 : decode cX8_copy 155 = .ok (.iload 4, 2) := by decide +kernel
theorem dX8_copy_157 : decode cX8_copy 157 = .ok (.iadd, 1) := by decide +kernel
theorem dX8_copy_158 : decode cX8_copy 158 = .ok (.iload 6, 2) := by decide +kernel
theorem dX8_copy_160 : decode cX8_copy 160 = .ok (.iadd, 1) := by decide +kernel
theorem dX8_copy_161 : decode cX8_copy 161 = .ok (.aload_n 0, 1) := by decide +kernel
theorem dX8_copy_162 : decode cX8_copy 162 = .ok (.getfield 80, 3) := by decide +kernel
theorem dX8_copy_165 : decode cX8_copy 165 = .ok (.iload 6, 2) := by decide +kernel
theorem dX8_copy_167 : decode cX8_copy 167 = .ok (.iaload, 1) := by decide +kernel
theorem dX8_copy_168 : decode cX8_copy 168 = .ok (.iastore, 1) := by decide +kernel
theorem dX8_copy_169 : decode cX8_copy 169 = .ok (.iinc 6 1, 3) := by decide +kernel
theorem dX8_copy_172 : decode cX8_copy 172 = .ok (.goto (-32), 3) := by decide +kernel
theorem dX8_copy_175 : decode cX8_copy 175 = .ok (.iload 5, 2) := by decide +kernel
theorem dX8_copy_177 : decode cX8_copy 177 = .ok (.ireturn, 1) := by decide +kernel
theorem dX8_doors_0 : decode cX8_doors 0 = .ok (.iload_n 1, 1) := by decide +kernel
theorem dX8_doors_1 : decode cX8_doors 1 = .ok (.invokestatic 301, 3) := by decide +kernel
theorem dX8_doors_4 : decode cX8_doors 4 = .ok (.ifCond .eq 28, 3) := by decide +kernel
theorem dX8_doors_7 : decode cX8_doors 7 = .ok (.iload_n 2, 1) := by decide +kernel
theorem dX8_doors_8 : decode cX8_doors 8 = .ok (.i2l, 1) := by decide +kernel
theorem dX8_doors_9 : decode cX8_doors 9 = .ok (.lconst 0, 1) := by decide +kernel
theorem dX8_doors_10 : decode cX8_doors 10 = .ok (.ldc2_w 333, 3) := by decide +kernel
theorem dX8_doors_13 : decode cX8_doors 13 = .ok (.invokestatic 93, 3) := by decide +kernel
theorem dX8_doors_16 : decode cX8_doors 16 = .ok (.ifCond .eq 16, 3) := by decide +kernel
theorem dX8_doors_19 : decode cX8_doors 19 = .ok (.iload 4, 2) := by decide +kernel
theorem dX8_doors_21 : decode cX8_doors 21 = .ok (.i2l, 1) := by decide +kernel
theorem dX8_doors_22 : decode cX8_doors 22 = .ok (.lconst 0, 1) := by decide +kernel
theorem dX8_doors_23 : decode cX8_doors 23 = .ok (.ldc2_w 335, 3) := by decide +kernel
theorem dX8_doors_26 : decode cX8_doors 26 = .ok (.invokestatic 93, 3) := by decide +kernel
theorem dX8_doors_29 : decode cX8_doors 29 = .ok (.ifCond .ne 6, 3) := by decide +kernel
theorem dX8_doors_32 : decode cX8_doors 32 = .ok (.bipush (-2), 2) := by decide +kernel
theorem dX8_doors_34 : decode cX8_doors 34 = .ok (.ireturn, 1) := by decide +kernel
theorem dX8_doors_35 : decode cX8_doors 35 = .ok (.aload_n 0, 1) := by decide +kernel
theorem dX8_doors_36 : decode cX8_doors 36 = .ok (.getfield 71, 3) := by decide +kernel
theorem dX8_doors_39 : decode cX8_doors 39 = .ok (.iload_n 1, 1) := by decide +kernel
theorem dX8_doors_40 : decode cX8_doors 40 = .ok (.iaload, 1) := by decide +kernel
theorem dX8_doors_41 : decode cX8_doors 41 = .ok (.ifCond .lt 16, 3) := by decide +kernel
theorem dX8_doors_44 : decode cX8_doors 44 = .ok (.aload_n 0, 1) := by decide +kernel
theorem dX8_doors_45 : decode cX8_doors 45 = .ok (.getfield 71, 3) := by decide +kernel
theorem dX8_doors_48 : decode cX8_doors 48 = .ok (.iload_n 1, 1) := by decide +kernel
theorem dX8_doors_49 : decode cX8_doors 49 = .ok (.iaload, 1) := by decide +kernel
theorem dX8_doors_50 : decode cX8_doors 50 = .ok (.iload_n 2, 1) := by decide +kernel
theorem dX8_doors_51 : decode cX8_doors 51 = .ok (.if_icmp .eq 6, 3) := by decide +kernel
theorem dX8_doors_54 : decode cX8_doors 54 = .ok (.bipush (-13), 2) := by decide +kernel
theorem dX8_doors_56 : decode cX8_doors 56 = .ok (.ireturn, 1) := by decide +kernel
theorem dX8_doors_57 : decode cX8_doors 57 = .ok (.aload_n 0, 1) := by decide +kernel
theorem dX8_doors_58 : decode cX8_doors 58 = .ok (.getfield 71, 3) := by decide +kernel
theorem dX8_doors_61 : decode cX8_doors 61 = .ok (.iload_n 1, 1) := by decide +kernel
theorem dX8_doors_62 : decode cX8_doors 62 = .ok (.iaload, 1) := by decide +kernel
theorem dX8_doors_63 : decode cX8_doors 63 = .ok (.ifCond .ge 6, 3) := by decide +kernel
theorem dX8_doors_66 : decode cX8_doors 66 = .ok (.bipush (-11), 2) := by decide +kernel
theorem dX8_doors_68 : decode cX8_doors 68 = .ok (.ireturn, 1) := by decide +kernel
theorem dX8_doors_69 : decode cX8_doors 69 = .ok (.iconst 0, 1) := by decide +kernel
theorem dX8_doors_70 : decode cX8_doors 70 = .ok (.istore 5, 2) := by decide +kernel
theorem dX8_doors_72 : decode cX8_doors 72 = .ok (.iconst 0, 1) := by decide +kernel
theorem dX8_doors_73 : decode cX8_doors 73 = .ok (.istore 6, 2) := by decide +kernel
theorem dX8_doors_75 : decode cX8_doors 75 = .ok (.iload 6, 2) := by decide +kernel
theorem dX8_doors_77 : decode cX8_doors 77 = .ok (.iload 4, 2) := by decide +kernel
theorem dX8_doors_79 : decode cX8_doors 79 = .ok (.if_icmp .ge 88, 3) := by decide +kernel
theorem dX8_doors_82 : decode cX8_doors 82 = .ok (.iload_n 3, 1) := by decide +kernel
theorem dX8_doors_83 : decode cX8_doors 83 = .ok (.ifCond .lt 20, 3) := by decide +kernel
theorem dX8_doors_86 : decode cX8_doors 86 = .ok (.iload_n 3, 1) := by decide +kernel
theorem dX8_doors_87 : decode cX8_doors 87 = .ok (.aload_n 0, 1) := by decide +kernel
theorem dX8_doors_88 : decode cX8_doors 88 = .ok (.getfield 74, 3) := by decide +kernel
theorem dX8_doors_91 : decode cX8_doors 91 = .ok (.iload_n 1, 1) := by decide +kernel
theorem dX8_doors_92 : decode cX8_doors 92 = .ok (.iaload, 1) := by decide +kernel
theorem dX8_doors_93 : decode cX8_doors 93 = .ok (.iconst 3, 1) := by decide +kernel
theorem dX8_doors_94 : decode cX8_doors 94 = .ok (.isub, 1) := by decide +kernel
theorem dX8_doors_95 : decode cX8_doors 95 = .ok (.iconst 3, 1) := by decide +kernel
theorem dX8_doors_96 : decode cX8_doors 96 = .ok (.iload 6, 2) := by decide +kernel
theorem dX8_doors_98 : decode cX8_doors 98 = .ok (.imul, 1) := by decide +kernel
theorem dX8_doors_99 : decode cX8_doors 99 = .ok (.isub, 1) := by decide +kernel
theorem dX8_doors_100 : decode cX8_doors 100 = .ok (.if_icmp .le 6, 3) := by decide +kernel
theorem dX8_doors_103 : decode cX8_doors 103 = .ok (.bipush (-12), 2) := by decide +kernel
theorem dX8_doors_105 : decode cX8_doors 105 = .ok (.ireturn, 1) := by decide +kernel
theorem dX8_doors_106 : decode cX8_doors 106 = .ok (.bipush 40, 2) := by decide +kernel
theorem dX8_doors_108 : decode cX8_doors 108 = .ok (.iload_n 1, 1) := by decide +kernel
theorem dX8_doors_109 : decode cX8_doors 109 = .ok (.imul, 1) := by decide +kernel
theorem dX8_doors_110 : decode cX8_doors 110 = .ok (.iload_n 3, 1) := by decide +kernel
theorem dX8_doors_111 : decode cX8_doors 111 = .ok (.iadd, 1) := by decide +kernel
theorem dX8_doors_112 : decode cX8_doors 112 = .ok (.iconst 3, 1) := by decide +kernel
theorem dX8_doors_113 : decode cX8_doors 113 = .ok (.iload 6, 2) := by decide +kernel
theorem dX8_doors_115 : decode cX8_doors 115 = .ok (.imul, 1) := by decide +kernel
theorem dX8_doors_116 : decode cX8_doors 116 = .ok (.iadd, 1) := by decide +kernel
theorem dX8_doors_117 : decode cX8_doors 117 = .ok (.istore 7, 2) := by decide +kernel
theorem dX8_doors_119 : decode cX8_doors 119 = .ok (.iload 5, 2) := by decide +kernel
theorem dX8_doors_121 : decode cX8_doors 121 = .ok (.aload_n 0, 1) := by decide +kernel
theorem dX8_doors_122 : decode cX8_doors 122 = .ok (.aload_n 0, 1) := by decide +kernel
theorem dX8_doors_123 : decode cX8_doors 123 = .ok (.getfield 77, 3) := by decide +kernel
theorem dX8_doors_126 : decode cX8_doors 126 = .ok (.iload 7, 2) := by decide +kernel
theorem dX8_doors_128 : decode cX8_doors 128 = .ok (.iaload, 1) := by decide +kernel
theorem dX8_doors_129 : decode cX8_doors 129 = .ok (.aload_n 0, 1) := by decide +kernel
theorem dX8_doors_130 : decode cX8_doors 130 = .ok (.getfield 77, 3) := by decide +kernel
theorem dX8_doors_133 : decode cX8_doors 133 = .ok (.iload 7, 2) := by decide +kernel
theorem dX8_doors_135 : decode cX8_doors 135 = .ok (.iconst 1, 1) := by decide +kernel
theorem dX8_doors_136 : decode cX8_doors 136 = .ok (.iadd, 1) := by decide +kernel
theorem dX8_doors_137 : decode cX8_doors 137 = .ok (.iaload, 1) := by decide +kernel
theorem dX8_doors_138 : decode cX8_doors 138 = .ok (.aload_n 0, 1) := by decide +kernel
theorem dX8_doors_139 : decode cX8_doors 139 = .ok (.getfield 77, 3) := by decide +kernel
theorem dX8_doors_142 : decode cX8_doors 142 = .ok (.iload 7, 2) := by decide +kernel
theorem dX8_doors_144 : decode cX8_doors 144 = .ok (.iconst 2, 1) := by decide +kernel
theorem dX8_doors_145 : decode cX8_doors 145 = .ok (.iadd, 1) := by decide +kernel
theorem dX8_doors_146 : decode cX8_doors 146 = .ok (.iaload, 1) := by decide +kernel
theorem dX8_doors_147 : decode cX8_doors 147 = .ok (.invokevirtual 337, 3) := by decide +kernel
theorem dX8_doors_150 : decode cX8_doors 150 = .ok (.ifCond .lt 7, 3) := by decide +kernel
theorem dX8_doors_153 : decode cX8_doors 153 = .ok (.iconst 1, 1) := by decide +kernel
theorem dX8_doors_154 : decode cX8_doors 154 = .ok (.goto 4, 3) := by decide +kernel
theorem dX8_doors_157 : decode cX8_doors 157 = .ok (.iconst 0, 1) := by decide +kernel
theorem dX8_doors_158 : decode cX8_doors 158 = .ok (.iadd, 1) := by decide +kernel
theorem dX8_doors_159 : decode cX8_doors 159 = .ok (.istore 5, 2) := by decide +kernel
theorem dX8_doors_161 : decode cX8_doors 161 = .ok (.iinc 6 1, 3) := by decide +kernel
theorem dX8_doors_164 : decode cX8_doors 164 = .ok (.goto (-89), 3) := by decide +kernel
theorem dX8_doors_167 : decode cX8_doors 167 = .ok (.iload 5, 2) := by decide +kernel
theorem dX8_doors_169 : decode cX8_doors 169 = .ok (.ireturn, 1) := by decide +kernel
theorem dX8_over_0 : decode cX8_over 0 = .ok (.iload_n 0, 1) := by decide +kernel
theorem dX8_over_1 : decode cX8_over 1 = .ok (.iconst 4, 1) := by decide +kernel
theorem dX8_over_2 : decode cX8_over 2 = .ok (.if_icmp .ne 7, 3) := by decide +kernel
theorem dX8_over_5 : decode cX8_over 5 = .ok (.iconst 1, 1) := by decide +kernel
theorem dX8_over_6 : decode cX8_over 6 = .ok (.goto 13, 3) := by decide +kernel
theorem dX8_over_9 : decode cX8_over 9 = .ok (.iload_n 0, 1) := by decide +kernel
theorem dX8_over_10 : decode cX8_over 10 = .ok (.iconst 5, 1) := by decide +kernel
theorem dX8_over_11 : decode cX8_over 11 = .ok (.if_icmp .ne 7, 3) := by decide +kernel
theorem dX8_over_14 : decode cX8_over 14 = .ok (.iconst 2, 1) := by decide +kernel
theorem dX8_over_15 : decode cX8_over 15 = .ok (.goto 4, 3) := by decide +kernel
theorem dX8_over_18 : decode cX8_over 18 = .ok (.iconst 0, 1) := by decide +kernel
theorem dX8_over_19 : decode cX8_over 19 = .ok (.ireturn, 1) := by decide +kernel
theorem dX8_taken_0 : decode cX8_taken 0 = .ok (.iload_n 2, 1) := by decide +kernel
theorem dX8_taken_1 : decode cX8_taken 1 = .ok (.i2l, 1) := by decide +kernel
theorem dX8_taken_2 : decode cX8_taken 2 = .ok (.lconst 0, 1) := by decide +kernel
theorem dX8_taken_3 : decode cX8_taken 3 = .ok (.ldc2_w 97, 3) := by decide +kernel
theorem dX8_taken_6 : decode cX8_taken 6 = .ok (.invokestatic 93, 3) := by decide +kernel
theorem dX8_taken_9 : decode cX8_taken 9 = .ok (.ifCond .ne 6, 3) := by decide +kernel
theorem dX8_taken_12 : decode cX8_taken 12 = .ok (.bipush (-2), 2) := by decide +kernel
theorem dX8_taken_14 : decode cX8_taken 14 = .ok (.ireturn, 1) := by decide +kernel
theorem dX8_taken_15 : decode cX8_taken 15 = .ok (.aload_n 0, 1) := by decide +kernel
theorem dX8_taken_16 : decode cX8_taken 16 = .ok (.iload_n 1, 1) := by decide +kernel
theorem dX8_taken_17 : decode cX8_taken 17 = .ok (.invokevirtual 112, 3) := by decide +kernel
theorem dX8_taken_20 : decode cX8_taken 20 = .ok (.ifCond .ne 6, 3) := by decide +kernel
theorem dX8_taken_23 : decode cX8_taken 23 = .ok (.bipush (-11), 2) := by decide +kernel
theorem dX8_taken_25 : decode cX8_taken 25 = .ok (.ireturn, 1) := by decide +kernel
theorem dX8_taken_26 : decode cX8_taken 26 = .ok (.aload_n 0, 1) := by decide +kernel
theorem dX8_taken_27 : decode cX8_taken 27 = .ok (.getfield 9, 3) := by decide +kernel
theorem dX8_taken_30 : decode cX8_taken 30 = .ok (.iload_n 1, 1) := by decide +kernel
theorem dX8_taken_31 : decode cX8_taken 31 = .ok (.iaload, 1) := by decide +kernel
theorem dX8_taken_32 : decode cX8_taken 32 = .ok (.istore_n 3, 1) := by decide +kernel
theorem dX8_taken_33 : decode cX8_taken 33 = .ok (.iload_n 3, 1) := by decide +kernel
theorem dX8_taken_34 : decode cX8_taken 34 = .ok (.iload_n 2, 1) := by decide +kernel
theorem dX8_taken_35 : decode cX8_taken 35 = .ok (.if_icmp .eq 15, 3) := by decide +kernel
theorem dX8_taken_38 : decode cX8_taken 38 = .ok (.iload_n 3, 1) := by decide +kernel
theorem dX8_taken_39 : decode cX8_taken 39 = .ok (.ifCond .le 11, 3) := by decide +kernel
theorem dX8_taken_42 : decode cX8_taken 42 = .ok (.iload_n 3, 1) := by decide +kernel
theorem dX8_taken_43 : decode cX8_taken 43 = .ok (.invokestatic 340, 3) := by decide +kernel
theorem dX8_taken_46 : decode cX8_taken 46 = .ok (.istore_n 3, 1) := by decide +kernel
theorem dX8_taken_47 : decode cX8_taken 47 = .ok (.goto (-14), 3) := by decide +kernel
theorem dX8_taken_50 : decode cX8_taken 50 = .ok (.iload_n 3, 1) := by decide +kernel
theorem dX8_taken_51 : decode cX8_taken 51 = .ok (.iload_n 2, 1) := by decide +kernel
theorem dX8_taken_52 : decode cX8_taken 52 = .ok (.if_icmp .ne 12, 3) := by decide +kernel
theorem dX8_taken_55 : decode cX8_taken 55 = .ok (.aload_n 0, 1) := by decide +kernel
theorem dX8_taken_56 : decode cX8_taken 56 = .ok (.getfield 22, 3) := by decide +kernel
theorem dX8_taken_59 : decode cX8_taken 59 = .ok (.iload_n 1, 1) := by decide +kernel
theorem dX8_taken_60 : decode cX8_taken 60 = .ok (.iaload, 1) := by decide +kernel
theorem dX8_taken_61 : decode cX8_taken 61 = .ok (.goto 5, 3) := by decide +kernel
theorem dX8_taken_64 : decode cX8_taken 64 = .ok (.bipush (-13), 2) := by decide +kernel
theorem dX8_taken_66 : decode cX8_taken 66 = .ok (.ireturn, 1) := by decide +kernel
