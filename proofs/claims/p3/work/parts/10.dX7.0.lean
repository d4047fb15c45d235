theorem dX7_init_0 : decode cX7_init 0 = .ok (.aload_n 0, 1) := by decide +kernel
theorem dX7_init_1 : decode cX7_init 1 = .ok (.invokespecial 1, 3) := by decide +kernel
theorem dX7_init_4 : decode cX7_init 4 = .ok (.aload_n 0, 1) := by decide +kernel
theorem dX7_init_5 : decode cX7_init 5 = .ok (.bipush 10, 2) := by decide +kernel
theorem dX7_init_7 : decode cX7_init 7 = .ok (.putfield 7, 3) := by decide +kernel
theorem dX7_init_10 : decode cX7_init 10 = .ok (.aload_n 0, 1) := by decide +kernel
theorem dX7_init_11 : decode cX7_init 11 = .ok (.iconst 1, 1) := by decide +kernel
theorem dX7_init_12 : decode cX7_init 12 = .ok (.putfield 13, 3) := by decide +kernel
theorem dX7_init_15 : decode cX7_init 15 = .ok (.aload_n 0, 1) := by decide +kernel
theorem dX7_init_16 : decode cX7_init 16 = .ok (.iconst 5, 1) := by decide +kernel
theorem dX7_init_17 : decode cX7_init 17 = .ok (.newarray .int, 2) := by decide +kernel
theorem dX7_init_19 : decode cX7_init 19 = .ok (.putfield 16, 3) := by decide +kernel
theorem dX7_init_22 : decode cX7_init 22 = .ok (.aload_n 0, 1) := by decide +kernel
theorem dX7_init_23 : decode cX7_init 23 = .ok (.iconst 5, 1) := by decide +kernel
theorem dX7_init_24 : decode cX7_init 24 = .ok (.newarray .int, 2) := by decide +kernel
theorem dX7_init_26 : decode cX7_init 26 = .ok (.putfield 20, 3) := by decide +kernel
theorem dX7_init_29 : decode cX7_init 29 = .ok (.aload_n 0, 1) := by decide +kernel
theorem dX7_init_30 : decode cX7_init 30 = .ok (.bipush 36, 2) := by decide +kernel
theorem dX7_init_32 : decode cX7_init 32 = .ok (.newarray .int, 2) := by decide +kernel
theorem dX7_init_34 : decode cX7_init 34 = .ok (.putfield 23, 3) := by decide +kernel
theorem dX7_init_37 : decode cX7_init 37 = .ok (.aload_n 0, 1) := by decide +kernel
theorem dX7_init_38 : decode cX7_init 38 = .ok (.sipush 160, 3) := by decide +kernel
theorem dX7_init_41 : decode cX7_init 41 = .ok (.newarray .int, 2) := by decide +kernel
theorem dX7_init_43 : decode cX7_init 43 = .ok (.putfield 26, 3) := by decide +kernel
theorem dX7_init_46 : decode cX7_init 46 = .ok (.aload_n 0, 1) := by decide +kernel
theorem dX7_init_47 : decode cX7_init 47 = .ok (.sipush 1200, 3) := by decide +kernel
theorem dX7_init_50 : decode cX7_init 50 = .ok (.newarray .int, 2) := by decide +kernel
theorem dX7_init_52 : decode cX7_init 52 = .ok (.putfield 29, 3) := by decide +kernel
theorem dX7_init_55 : decode cX7_init 55 = .ok (.aload_n 0, 1) := by decide +kernel
theorem dX7_init_56 : decode cX7_init 56 = .ok (.bipush 24, 2) := by decide +kernel
theorem dX7_init_58 : decode cX7_init 58 = .ok (.newarray .int, 2) := by decide +kernel
theorem dX7_init_60 : decode cX7_init 60 = .ok (.putfield 32, 3) := by decide +kernel
theorem dX7_init_63 : decode cX7_init 63 = .ok (.aload_n 0, 1) := by decide +kernel
theorem dX7_init_64 : decode cX7_init 64 = .ok (.bipush 36, 2) := by decide +kernel
theorem dX7_init_66 : decode cX7_init 66 = .ok (.newarray .int, 2) := by decide +kernel
theorem dX7_init_68 : decode cX7_init 68 = .ok (.putfield 35, 3) := by decide +kernel
theorem dX7_init_71 : decode cX7_init 71 = .ok (.aload_n 0, 1) := by decide +kernel
theorem dX7_init_72 : decode cX7_init 72 = .ok (.iconst 4, 1) := by decide +kernel
theorem dX7_init_73 : decode cX7_init 73 = .ok (.newarray .int, 2) := by decide +kernel
theorem dX7_init_75 : decode cX7_init 75 = .ok (.dup, 1) := by decide +kernel
theorem dX7_init_76 : decode cX7_init 76 = .ok (.iconst 0, 1) := by decide +kernel
theorem dX7_init_77 : decode cX7_init 77 = .ok (.iconst (-1), 1) := by decide +kernel
theorem dX7_init_78 : decode cX7_init 78 = .ok (.iastore, 1) := by decide +kernel
theorem dX7_init_79 : decode cX7_init 79 = .ok (.dup, 1) := by decide +kernel
theorem dX7_init_80 : decode cX7_init 80 = .ok (.iconst 1, 1) := by decide +kernel
theorem dX7_init_81 : decode cX7_init 81 = .ok (.iconst (-1), 1) := by decide +kernel
theorem dX7_init_82 : decode cX7_init 82 = .ok (.iastore, 1) := by decide +kernel
theorem dX7_init_83 : decode cX7_init 83 = .ok (.dup, 1) := by decide +kernel
theorem dX7_init_84 : decode cX7_init 84 = .ok (.iconst 2, 1) := by decide +kernel
theorem dX7_init_85 : decode cX7_init 85 = .ok (.iconst (-1), 1) := by decide +kernel
theorem dX7_init_86 : decode cX7_init 86 = .ok (.iastore, 1) := by decide +kernel
theorem dX7_init_87 : decode cX7_init 87 = .ok (.dup, 1) := by decide +kernel
theorem dX7_init_88 : decode cX7_init 88 = .ok (.iconst 3, 1) := by decide +kernel
theorem dX7_init_89 : decode cX7_init 89 = .ok (.iconst (-1), 1) := by decide +kernel
theorem dX7_init_90 : decode cX7_init 90 = .ok (.iastore, 1) := by decide +kernel
theorem dX7_init_91 : decode cX7_init 91 = .ok (.putfield 38, 3) := by decide +kernel
theorem dX7_init_94 : decode cX7_init 94 = .ok (.aload_n 0, 1) := by decide +kernel
theorem dX7_init_95 : decode cX7_init 95 = .ok (.iconst 4, 1) := by decide +kernel
theorem dX7_init_96 : decode cX7_init 96 = .ok (.newarray .int, 2) := by decide +kernel
theorem dX7_init_98 : decode cX7_init 98 = .ok (.putfield 41, 3) := by decide +kernel
theorem dX7_init_101 : decode cX7_init 101 = .ok (.aload_n 0, 1) := by decide +kernel
theorem dX7_init_102 : decode cX7_init 102 = .ok (.sipush 160, 3) := by decide +kernel
theorem dX7_init_105 : decode cX7_init 105 = .ok (.newarray .int, 2) := by decide +kernel
theorem dX7_init_107 : decode cX7_init 107 = .ok (.putfield 44, 3) := by decide +kernel
theorem dX7_init_110 : decode cX7_init 110 = .ok (.aload_n 0, 1) := by decide +kernel
theorem dX7_init_111 : decode cX7_init 111 = .ok (.bipush 32, 2) := by decide +kernel
theorem dX7_init_113 : decode cX7_init 113 = .ok (.newarray .int, 2) := by decide +kernel
theorem dX7_init_115 : decode cX7_init 115 = .ok (.dup, 1) := by decide +kernel
theorem dX7_init_116 : decode cX7_init 116 = .ok (.iconst 0, 1) := by decide +kernel
theorem dX7_init_117 : decode cX7_init 117 = .ok (.bipush 110, 2) := by decide +kernel
theorem dX7_init_119 : decode cX7_init 119 = .ok (.iastore, 1) := by decide +kernel
theorem dX7_init_120 : decode cX7_init 120 = .ok (.dup, 1) := by decide +kernel
theorem dX7_init_121 : decode cX7_init 121 = .ok (.iconst 1, 1) := by decide +kernel
theorem dX7_init_122 : decode cX7_init 122 = .ok (.bipush 111, 2) := by decide +kernel
theorem dX7_init_124 : decode cX7_init 124 = .ok (.iastore, 1) := by decide +kernel
theorem dX7_init_125 : decode cX7_init 125 = .ok (.dup, 1) := by decide +kernel
theorem dX7_init_126 : decode cX7_init 126 = .ok (.iconst 2, 1) := by decide +kernel
theorem dX7_init_127 : decode cX7_init 127 = .ok (.bipush 117, 2) := by decide +kernel
theorem dX7_init_129 : decode cX7_init 129 = .ok (.iastore, 1) := by decide +kernel
theorem dX7_init_130 : decode cX7_init 130 = .ok (.dup, 1) := by decide +kernel
theorem dX7_init_131 : decode cX7_init 131 = .ok (.iconst 3, 1) := by decide +kernel
theorem dX7_init_132 : decode cX7_init 132 = .ok (.bipush 103, 2) := by decide +kernel
theorem dX7_init_134 : decode cX7_init 134 = .ok (.iastore, 1) := by decide +kernel
theorem dX7_init_135 : decode cX7_init 135 = .ok (.dup, 1) := by decide +kernel
theorem dX7_init_136 : decode cX7_init 136 = .ok (.iconst 4, 1) := by decide +kernel
theorem dX7_init_137 : decode cX7_init 137 = .ok (.bipush 104, 2) := by decide +kernel
theorem dX7_init_139 : decode cX7_init 139 = .ok (.iastore, 1) := by decide +kernel
theorem dX7_init_140 : decode cX7_init 140 = .ok (.dup, 1) := by decide +kernel
theorem dX7_init_141 : decode cX7_init 141 = .ok (.iconst 5, 1) := by decide +kernel
theorem dX7_init_142 : decode cX7_init 142 = .ok (.bipush 116, 2) := by decide +kernel
theorem dX7_init_144 : decode cX7_init 144 = .ok (.iastore, 1) := by decide +kernel
theorem dX7_init_145 : decode cX7_init 145 = .ok (.dup, 1) := by decide +kernel
theorem dX7_init_146 : decode cX7_init 146 = .ok (.bipush 6, 2) := by decide +kernel
theorem dX7_init_148 : decode cX7_init 148 = .ok (.bipush 32, 2) := by decide +kernel
theorem dX7_init_150 : decode cX7_init 150 = .ok (.iastore, 1) := by decide +kernel
theorem dX7_init_151 : decode cX7_init 151 = .ok (.dup, 1) := by decide +kernel
theorem dX7_init_152 : decode cX7_init 152 = .ok (.bipush 7, 2) := by decide +kernel
theorem dX7_init_154 : decode cX7_init 154 = .ok (.bipush 49, 2) := by decide +kernel
theorem dX7_init_156 : decode cX7_init 156 = .ok (.iastore, 1) := by decide +kernel
theorem dX7_init_157 : decode cX7_init 157 = .ok (.dup, 1) := by decide +kernel
theorem dX7_init_158 : decode cX7_init 158 = .ok (.bipush 8, 2) := by decide +kernel
theorem dX7_init_160 : decode cX7_init 160 = .ok (.bipush 32, 2) := by decide +kernel
theorem dX7_init_162 : decode cX7_init 162 = .ok (.iastore, 1) := by decide +kernel
theorem dX7_init_163 : decode cX7_init 163 = .ok (.dup, 1) := by decide +kernel
theorem dX7_init_164 : decode cX7_init 164 = .ok (.bipush 9, 2) := by decide +kernel
theorem dX7_init_166 : decode cX7_init 166 = .ok (.bipush 59, 2) := by decide +kernel
theorem dX7_init_168 : decode cX7_init 168 = .ok (.iastore, 1) := by decide +kernel
theorem dX7_init_169 : decode cX7_init 169 = .ok (.dup, 1) := by decide +kernel
theorem dX7_init_170 : decode cX7_init 170 = .ok (.bipush 10, 2) := by decide +kernel
theorem dX7_init_172 : decode cX7_init 172 = .ok (.bipush 32, 2) := by decide +kernel
theorem dX7_init_174 : decode cX7_init 174 = .ok (.iastore, 1) := by decide +kernel
theorem dX7_init_175 : decode cX7_init 175 = .ok (.dup, 1) := by decide +kernel
theorem dX7_init_176 : decode cX7_init 176 = .ok (.bipush 11, 2) := by decide +kernel
theorem dX7_init_178 : decode cX7_init 178 = .ok (.bipush 115, 2) := by decide +kernel
theorem dX7_init_180 : decode cX7_init 180 = .ok (.iastore, 1) := by decide +kernel
theorem dX7_init_181 : decode cX7_init 181 = .ok (.dup, 1) := by decide +kernel
theorem dX7_init_182 : decode cX7_init 182 = .ok (.bipush 12, 2) := by decide +kernel
theorem dX7_init_184 : decode cX7_init 184 = .ok (.bipush 108, 2) := by decide +kernel
theorem dX7_init_186 : decode cX7_init 186 = .ok (.iastore, 1) := by decide +kernel
theorem dX7_init_187 : decode cX7_init 187 = .ok (.dup, 1) := by decide +kernel
theorem dX7_init_188 : decode cX7_init 188 = .ok (.bipush 13, 2) := by decide +kernel
theorem dX7_init_190 : decode cX7_init 190 = .ok (.bipush 105, 2) := by decide +kernel
theorem dX7_init_192 : decode cX7_init 192 = .ok (.iastore, 1) := by decide +kernel
theorem dX7_init_193 : decode cX7_init 193 = .ok (.dup, 1) := by decide +kernel
theorem dX7_init_194 : decode cX7_init 194 = .ok (.bipush 14, 2) := by decide +kernel
theorem dX7_init_196 : decode cX7_init 196 = .ok (.bipush 112, 2) := by decide +kernel
theorem dX7_init_198 : decode cX7_init 198 = .ok (.iastore, 1) := by decide +kernel
theorem dX7_init_199 : decode cX7_init 199 = .ok (.dup, 1) := by decide +kernel
theorem dX7_init_200 : decode cX7_init 200 = .ok (.bipush 15, 2) := by decide +kernel
theorem dX7_init_202 : decode cX7_init 202 = .ok (.bipush 115, 2) := by decide +kernel
theorem dX7_init_204 : decode cX7_init 204 = .ok (.iastore, 1) := by decide +kernel
theorem dX7_init_205 : decode cX7_init 205 = .ok (.dup, 1) := by decide +kernel
theorem dX7_init_206 : decode cX7_init 206 = .ok (.bipush 16, 2) := by decide +kernel
theorem dX7_init_208 : decode cX7_init 208 = .ok (.bipush 32, 2) := by decide +kernel
theorem dX7_init_210 : decode cX7_init 210 = .ok (.iastore, 1) := by decide +kernel
theorem dX7_init_211 : decode cX7_init 211 = .ok (.dup, 1) := by decide +kernel
theorem dX7_init_212 : decode cX7_init 212 = .ok (.bipush 17, 2) := by decide +kernel
theorem dX7_init_214 : decode cX7_init 214 = .ok (.bipush 51, 2) := by decide +kernel
theorem dX7_init_216 : decode cX7_init 216 = .ok (.iastore, 1) := by decide +kernel
theorem dX7_init_217 : decode cX7_init 217 = .ok (.dup, 1) := by decide +kernel
theorem dX7_init_218 : decode cX7_init 218 = .ok (.bipush 18, 2) := by decide +kernel
theorem dX7_init_220 : decode cX7_init 220 = .ok (.bipush 32, 2) := by decide +kernel
theorem dX7_init_222 : decode cX7_init 222 = .ok (.iastore, 1) := by decide +kernel
theorem dX7_init_223 : decode cX7_init 223 = .ok (.dup, 1) := by decide +kernel
theorem dX7_init_224 : decode cX7_init 224 = .ok (.bipush 19, 2) := by decide +kernel
theorem dX7_init_226 : decode cX7_init 226 = .ok (.bipush 59, 2) := by decide +kernel
theorem dX7_init_228 : decode cX7_init 228 = .ok (.iastore, 1) := by decide +kernel
theorem dX7_init_229 : decode cX7_init 229 = .ok (.dup, 1) := by decide +kernel
theorem dX7_init_230 : decode cX7_init 230 = .ok (.bipush 20, 2) := by decide +kernel
theorem dX7_init_232 : decode cX7_init 232 = .ok (.bipush 32, 2) := by decide +kernel
theorem dX7_init_234 : decode cX7_init 234 = .ok (.iastore, 1) := by decide +kernel
theorem dX7_init_235 : decode cX7_init 235 = .ok (.dup, 1) := by decide +kernel
theorem dX7_init_236 : decode cX7_init 236 = .ok (.bipush 21, 2) := by decide +kernel
theorem dX7_init_238 : decode cX7_init 238 = .ok (.bipush 99, 2) := by decide +kernel
theorem dX7_init_240 : decode cX7_init 240 = .ok (.iastore, 1) := by decide +kernel
theorem dX7_init_241 : decode cX7_init 241 = .ok (.dup, 1) := by decide +kernel
theorem dX7_init_242 : decode cX7_init 242 = .ok (.bipush 22, 2) := by decide +kernel
theorem dX7_init_244 : decode cX7_init 244 = .ok (.bipush 111, 2) := by decide +kernel
theorem dX7_init_246 : decode cX7_init 246 = .ok (.iastore, 1) := by decide +kernel
theorem dX7_init_247 : decode cX7_init 247 = .ok (.dup, 1) := by decide +kernel
theorem dX7_init_248 : decode cX7_init 248 = .ok (.bipush 23, 2) := by decide +kernel
theorem dX7_init_250 : decode cX7_init 250 = .ok (.bipush 115, 2) := by decide +kernel
theorem dX7_init_252 : decode cX7_init 252 = .ok (.iastore, 1) := by decide +kernel
theorem dX7_init_253 : decode cX7_init 253 = .ok (.dup, 1) := by decide +kernel
theorem dX7_init_254 : decode cX7_init 254 = .ok (.bipush 24, 2) := by decide +kernel
theorem dX7_init_256 : decode cX7_init 256 = .ok (.bipush 116, 2) := by decide +kernel
theorem dX7_init_258 : decode cX7_init 258 = .ok (.iastore, 1) := by decide +kernel
theorem dX7_init_259 : decode cX7_init 259 = .ok (.dup, 1) := by decide +kernel
theorem dX7_init_260 : decode cX7_init 260 = .ok (.bipush 25, 2) := by decide +kernel
theorem dX7_init_262 : decode cX7_init 262 = .ok (.bipush 115, 2) := by decide +kernel
theorem dX7_init_264 : decode cX7_init 264 = .ok (.iastore, 1) := by decide +kernel
theorem dX7_init_265 : decode cX7_init 265 = .ok (.dup, 1) := by decide +kernel
theorem dX7_init_266 : decode cX7_init 266 = .ok (.bipush 26, 2) := by decide +kernel
theorem dX7_init_268 : decode cX7_init 268 = .ok (.bipush 32, 2) := by decide +kernel
theorem dX7_init_270 : decode cX7_init 270 = .ok (.iastore, 1) := by decide +kernel
theorem dX7_init_271 : decode cX7_init 271 = .ok (.dup, 1) := by decide +kernel
theorem dX7_init_272 : decode cX7_init 272 = .ok (.bipush 27, 2) := by decide +kernel
theorem dX7_init_274 : decode cX7_init 274 = .ok (.bipush 111, 2) := by decide +kernel
theorem dX7_init_276 : decode cX7_init 276 = .ok (.iastore, 1) := by decide +kernel
theorem dX7_init_277 : decode cX7_init 277 = .ok (.dup, 1) := by decide +kernel
theorem dX7_init_278 : decode cX7_init 278 = .ok (.bipush 28, 2) := by decide +kernel
theorem dX7_init_280 : decode cX7_init 280 = .ok (.bipush 102, 2) := by decide +kernel
theorem dX7_init_282 : decode cX7_init 282 = .ok (.iastore, 1) := by decide +kernel
theorem dX7_init_283 : decode cX7_init 283 = .ok (.dup, 1) := by decide +kernel
theorem dX7_init_284 : decode cX7_init 284 = .ok (.bipush 29, 2) := by decide +kernel
theorem dX7_init_286 : decode cX7_init 286 = .ok (.bipush 102, 2) := by decide +kernel
theorem dX7_init_288 : decode cX7_init 288 = .ok (.iastore, 1) := by decide +kernel
theorem dX7_init_289 : decode cX7_init 289 = .ok (.dup, 1) := by decide +kernel
theorem dX7_init_290 : decode cX7_init 290 = .ok (.bipush 30, 2) := by decide +kernel
theorem dX7_init_292 : decode cX7_init 292 = .ok (.bipush 32, 2) := by decide +kernel
theorem dX7_init_294 : decode cX7_init 294 = .ok (.iastore, 1) := by decide +kernel
theorem dX7_init_295 : decode cX7_init 295 = .ok (.dup, 1) := by decide +kernel
theorem dX7_init_296 : decode cX7_init 296 = .ok (.bipush 31, 2) := by decide +kernel
theorem dX7_init_298 : decode cX7_init 298 = .ok (.bipush 59, 2) := by decide +kernel
theorem dX7_init_300 : decode cX7_init 300 = .ok (.iastore, 1) := by decide +kernel
theorem dX7_init_301 : decode cX7_init 301 = .ok (.putfield 47, 3) := by decide +kernel
theorem dX7_init_304 : decode cX7_init 304 = .ok (.aload_n 0, 1) := by decide +kernel
theorem dX7_init_305 : decode cX7_init 305 = .ok (.bipush 96, 2) := by decide +kernel
theorem dX7_init_307 : decode cX7_init 307 = .ok (.newarray .int, 2) := by decide +kernel
theorem dX7_init_309 : decode cX7_init 309 = .ok (.dup, 1) := by decide +kernel
theorem dX7_init_310 : decode cX7_init 310 = .ok (.iconst 0, 1) := by decide +kernel
theorem dX7_init_311 : decode cX7_init 311 = .ok (.bipush 110, 2) := by decide +kernel
theorem dX7_init_313 : decode cX7_init 313 = .ok (.iastore, 1) := by decide +kernel
theorem dX7_init_314 : decode cX7_init 314 = .ok (.dup, 1) := by decide +kernel
theorem dX7_init_315 : decode cX7_init 315 = .ok (.iconst 1, 1) := by decide +kernel
theorem dX7_init_316 : decode cX7_init 316 = .ok (.bipush 111, 2) := by decide +kernel
theorem dX7_init_318 : decode cX7_init 318 = .ok (.iastore, 1) := by decide +kernel
theorem dX7_init_319 : decode cX7_init 319 = .ok (.dup, 1) := by decide +kernel
theorem dX7_init_320 : decode cX7_init 320 = .ok (.iconst 2, 1) := by decide +kernel
theorem dX7_init_321 : decode cX7_init 321 = .ok (.bipush 117, 2) := by decide +kernel
theorem dX7_init_323 : decode cX7_init 323 = .ok (.iastore, 1) := by decide +kernel
theorem dX7_init_324 : decode cX7_init 324 = .ok (.dup, 1) := by decide +kernel
theorem dX7_init_325 : decode cX7_init 325 = .ok (.iconst 3, 1) := by decide +kernel
theorem dX7_init_326 : decode cX7_init 326 = .ok (.bipush 103, 2) := by decide +kernel
theorem dX7_init_328 : decode cX7_init 328 = .ok (.iastore, 1) := by decide +kernel
theorem dX7_init_329 : decode cX7_init 329 = .ok (.dup, 1) := by decide +kernel
theorem dX7_init_330 : decode cX7_init 330 = .ok (.iconst 4, 1) := by decide +kernel
theorem dX7_init_331 : decode cX7_init 331 = .ok (.bipush 104, 2) := by decide +kernel
theorem dX7_init_333 : decode cX7_init 333 = .ok (.iastore, 1) := by decide +kernel
theorem dX7_init_334 : decode cX7_init 334 = .ok (.dup, 1) := by decide +kernel
theorem dX7_init_335 : decode cX7_init 335 = .ok (.iconst 5, 1) := by decide +kernel
theorem dX7_init_336 : decode cX7_init 336 = .ok (.bipush 116, 2) := by decide +kernel
theorem dX7_init_338 : decode cX7_init 338 = .ok (.iastore, 1) := by decide +kernel
theorem dX7_init_339 : decode cX7_init 339 = .ok (.dup, 1) := by decide +kernel
theorem dX7_init_340 : decode cX7_init 340 = .ok (.bipush 6, 2) := by decide +kernel
theorem dX7_init_342 : decode cX7_init 342 = .ok (.bipush 32, 2) := by decide +kernel
theorem dX7_init_344 : decode cX7_init 344 = .ok (.iastore, 1) := by decide +kernel
theorem dX7_init_345 : decode cX7_init 345 = .ok (.dup, 1) := by decide +kernel
theorem dX7_init_346 : decode cX7_init 346 = .ok (.bipush 7, 2) := by decide +kernel
theorem dX7_init_348 : decode cX7_init 348 = .ok (.bipush 32, 2) := by decide +kernel
theorem dX7_init_350 : decode cX7_init 350 = .ok (.iastore, 1) := by decide +kernel
theorem dX7_init_351 : decode cX7_init 351 = .ok (.dup, 1) := by decide +kernel
theorem dX7_init_352 : decode cX7_init 352 = .ok (.bipush 8, 2) := by decide +kernel
theorem dX7_init_354 : decode cX7_init 354 = .ok (.bipush 115, 2) := by decide +kernel
theorem dX7_init_356 : decode cX7_init 356 = .ok (.iastore, 1) := by decide +kernel
theorem dX7_init_357 : decode cX7_init 357 = .ok (.dup, 1) := by decide +kernel
theorem dX7_init_358 : decode cX7_init 358 = .ok (.bipush 9, 2) := by decide +kernel
theorem dX7_init_360 : decode cX7_init 360 = .ok (.bipush 108, 2) := by decide +kernel
theorem dX7_init_362 : decode cX7_init 362 = .ok (.iastore, 1) := by decide +kernel
theorem dX7_init_363 : decode cX7_init 363 = .ok (.dup, 1) := by decide +kernel
theorem dX7_init_364 : decode cX7_init 364 = .ok (.bipush 10, 2) := by decide +kernel
theorem dX7_init_366 : decode cX7_init 366 = .ok (.bipush 105, 2) := by decide +kernel
theorem dX7_init_368 : decode cX7_init 368 = .ok (.iastore, 1) := by decide +kernel
theorem dX7_init_369 : decode cX7_init 369 = .ok (.dup, 1) := by decide +kernel
theorem dX7_init_370 : decode cX7_init 370 = .ok (.bipush 11, 2) := by decide +kernel
theorem dX7_init_372 : decode cX7_init 372 = .ok (.bipush 112, 2) := by decide +kernel
theorem dX7_init_374 : decode cX7_init 374 = .ok (.iastore, 1) := by decide +kernel
theorem dX7_init_375 : decode cX7_init 375 = .ok (.dup, 1) := by decide +kernel
theorem dX7_init_376 : decode cX7_init 376 = .ok (.bipush 12, 2) := by decide +kernel
theorem dX7_init_378 : decode cX7_init 378 = .ok (.bipush 115, 2) := by decide +kernel
theorem dX7_init_380 : decode cX7_init 380 = .ok (.iastore, 1) := by decide +kernel
theorem dX7_init_381 : decode cX7_init 381 = .ok (.dup, 1) := by decide +kernel
theorem dX7_init_382 : decode cX7_init 382 = .ok (.bipush 13, 2) := by decide +kernel
theorem dX7_init_384 : decode cX7_init 384 = .ok (.bipush 32, 2) := by decide +kernel
theorem dX7_init_386 : decode cX7_init 386 = .ok (.iastore, 1) := by decide +kernel
theorem dX7_init_387 : decode cX7_init 387 = .ok (.dup, 1) := by decide +kernel
theorem dX7_init_388 : decode cX7_init 388 = .ok (.bipush 14, 2) := by decide +kernel
theorem dX7_init_390 : decode cX7_init 390 = .ok (.bipush 32, 2) := by decide +kernel
theorem dX7_init_392 : decode cX7_init 392 = .ok (.iastore, 1) := by decide +kernel
theorem dX7_init_393 : decode cX7_init 393 = .ok (.dup, 1) := by decide +kernel
theorem dX7_init_394 : decode cX7_init 394 = .ok (.bipush 15, 2) := by decide +kernel
theorem dX7_init_396 : decode cX7_init 396 = .ok (.bipush 32, 2) := by decide +kernel
theorem dX7_init_398 : decode cX7_init 398 = .ok (.iastore, 1) := by decide +kernel
theorem dX7_init_399 : decode cX7_init 399 = .ok (.dup, 1) := by decide +kernel
theorem dX7_init_400 : decode cX7_init 400 = .ok (.bipush 16, 2) := by decide +kernel
theorem dX7_init_402 : decode cX7_init 402 = .ok (.bipush 99, 2) := by decide +kernel
theorem dX7_init_404 : decode cX7_init 404 = .ok (.iastore, 1) := by decide +kernel
theorem dX7_init_405 : decode cX7_init 405 = .ok (.dup, 1) := by decide +kernel
theorem dX7_init_406 : decode cX7_init 406 = .ok (.bipush 17, 2) := by decide +kernel
theorem dX7_init_408 : decode cX7_init 408 = .ok (.bipush 111, 2) := by decide +kernel
theorem dX7_init_410 : decode cX7_init 410 = .ok (.iastore, 1) := by decide +kernel
theorem dX7_init_411 : decode cX7_init 411 = .ok (.dup, 1) := by decide +kernel
theorem dX7_init_412 : decode cX7_init 412 = .ok (.bipush 18, 2) := by decide +kernel
theorem dX7_init_414 : decode cX7_init 414 = .ok (.bipush 115, 2) := by decide +kernel
theorem dX7_init_416 : decode cX7_init 416 = .ok (.iastore, 1) := by decide +kernel
theorem dX7_init_417 : decode cX7_init 417 = .ok (.dup, 1) := by decide +kernel
theorem dX7_init_418 : decode cX7_init 418 = .ok (.bipush 19, 2) := by decide +kernel
theorem dX7_init_420 : decode cX7_init 420 = .ok (.bipush 116, 2) := by decide +kernel
theorem dX7_init_422 : decode cX7_init 422 = .ok (.iastore, 1) := by decide +kernel
theorem dX7_init_423 : decode cX7_init 423 = .ok (.dup, 1) := by decide +kernel
theorem dX7_init_424 : decode cX7_init 424 = .ok (.bipush 20, 2) := by decide +kernel
theorem dX7_init_426 : decode cX7_init 426 = .ok (.bipush 115, 2) := by decide +kernel
theorem dX7_init_428 : decode cX7_init 428 = .ok (.iastore, 1) := by decide +kernel
theorem dX7_init_429 : decode cX7_init 429 = .ok (.dup, 1) := by decide +kernel
theorem dX7_init_430 : decode cX7_init 430 = .ok (.bipush 21, 2) := by decide +kernel
theorem dX7_init_432 : decode cX7_init 432 = .ok (.bipush 32, 2) := by decide +kernel
theorem dX7_init_434 : decode cX7_init 434 = .ok (.iastore, 1) := by decide +kernel
theorem dX7_init_435 : decode cX7_init 435 = .ok (.dup, 1) := by decide +kernel
theorem dX7_init_436 : decode cX7_init 436 = .ok (.bipush 22, 2) := by decide +kernel
theorem dX7_init_438 : decode cX7_init 438 = .ok (.bipush 32, 2) := by decide +kernel
theorem dX7_init_440 : decode cX7_init 440 = .ok (.iastore, 1) := by decide +kernel
theorem dX7_init_441 : decode cX7_init 441 = .ok (.dup, 1) := by decide +kernel
theorem dX7_init_442 : decode cX7_init 442 = .ok (.bipush 23, 2) := by decide +kernel
theorem dX7_init_444 : decode cX7_init 444 = .ok (.bipush 32, 2) := by decide +kernel
theorem dX7_init_446 : decode cX7_init 446 = .ok (.iastore, 1) := by decide +kernel
theorem dX7_init_447 : decode cX7_init 447 = .ok (.dup, 1) := by decide +kernel
theorem dX7_init_448 : decode cX7_init 448 = .ok (.bipush 24, 2) := by decide +kernel
theorem dX7_init_450 : decode cX7_init 450 = .ok (.bipush 109, 2) := by decide +kernel
theorem dX7_init_452 : decode cX7_init 452 = .ok (.iastore, 1) := by decide +kernel
theorem dX7_init_453 : decode cX7_init 453 = .ok (.dup, 1) := by decide +kernel
theorem dX7_init_454 : decode cX7_init 454 = .ok (.bipush 25, 2) := by decide +kernel
theorem dX7_init_456 : decode cX7_init 456 = .ok (.bipush 111, 2) := by decide +kernel
theorem dX7_init_458 : decode cX7_init 458 = .ok (.iastore, 1) := by decide +kernel
theorem dX7_init_459 : decode cX7_init 459 = .ok (.dup, 1) := by decide +kernel
theorem dX7_init_460 : decode cX7_init 460 = .ok (.bipush 26, 2) := by decide +kernel
theorem dX7_init_462 : decode cX7_init 462 = .ok (.bipush 114, 2) := by decide +kernel
theorem dX7_init_464 : decode cX7_init 464 = .ok (.iastore, 1) := by decide +kernel
theorem dX7_init_465 : decode cX7_init 465 = .ok (.dup, 1) := by decide +kernel
theorem dX7_init_466 : decode cX7_init 466 = .ok (.bipush 27, 2) := by decide +kernel
theorem dX7_init_468 : decode cX7_init 468 = .ok (.bipush 101, 2) := by decide +kernel
theorem dX7_init_470 : decode cX7_init 470 = .ok (.iastore, 1) := by decide +kernel
theorem dX7_init_471 : decode cX7_init 471 = .ok (.dup, 1) := by decide +kernel
theorem dX7_init_472 : decode cX7_init 472 = .ok (.bipush 28, 2) := by decide +kernel
theorem dX7_init_474 : decode cX7_init 474 = .ok (.bipush 32, 2) := by decide +kernel
theorem dX7_init_476 : decode cX7_init 476 = .ok (.iastore, 1) := by decide +kernel
theorem dX7_init_477 : decode cX7_init 477 = .ok (.dup, 1) := by decide +kernel
theorem dX7_init_478 : decode cX7_init 478 = .ok (.bipush 29, 2) := by decide +kernel
theorem dX7_init_480 : decode cX7_init 480 = .ok (.bipush 32, 2) := by decide +kernel
theorem dX7_init_482 : decode cX7_init 482 = .ok (.iastore, 1) := by decide +kernel
theorem dX7_init_483 : decode cX7_init 483 = .ok (.dup, 1) := by decide +kernel
theorem dX7_init_484 : decode cX7_init 484 = .ok (.bipush 30, 2) := by decide +kernel
theorem dX7_init_486 : decode cX7_init 486 = .ok (.bipush 32, 2) := by decide +kernel
theorem dX7_init_488 : decode cX7_init 488 = .ok (.iastore, 1) := by decide +kernel
theorem dX7_init_489 : decode cX7_init 489 = .ok (.dup, 1) := by decide +kernel
theorem dX7_init_490 : decode cX7_init 490 = .ok (.bipush 31, 2) := by decide +kernel
theorem dX7_init_492 : decode cX7_init 492 = .ok (.bipush 32, 2) := by decide +kernel
theorem dX7_init_494 : decode cX7_init 494 = .ok (.iastore, 1) := by decide +kernel
theorem dX7_init_495 : decode cX7_init 495 = .ok (.dup, 1) := by decide +kernel
theorem dX7_init_496 : decode cX7_init 496 = .ok (.bipush 32, 2) := by decide +kernel
theorem dX7_init_498 : decode cX7_init 498 = .ok (.bipush 99, 2) := by decide +kernel
theorem dX7_init_500 : decode cX7_init 500 = .ok (.iastore, 1) := by decide +kernel
theorem dX7_init_501 : decode cX7_init 501 = .ok (.dup, 1) := by decide +kernel
theorem dX7_init_502 : decode cX7_init 502 = .ok (.bipush 33, 2) := by decide +kernel
theorem dX7_init_504 : decode cX7_init 504 = .ok (.bipush 108, 2) := by decide +kernel
theorem dX7_init_506 : decode cX7_init 506 = .ok (.iastore, 1) := by decide +kernel
theorem dX7_init_507 : decode cX7_init 507 = .ok (.dup, 1) := by decide +kernel
theorem dX7_init_508 : decode cX7_init 508 = .ok (.bipush 34, 2) := by decide +kernel
theorem dX7_init_510 : decode cX7_init 510 = .ok (.bipush 101, 2) := by decide +kernel
theorem dX7_init_512 : decode cX7_init 512 = .ok (.iastore, 1) := by decide +kernel
theorem dX7_init_513 : decode cX7_init 513 = .ok (.dup, 1) := by decide +kernel
theorem dX7_init_514 : decode cX7_init 514 = .ok (.bipush 35, 2) := by decide +kernel
theorem dX7_init_516 : decode cX7_init 516 = .ok (.bipush 114, 2) := by decide +kernel
theorem dX7_init_518 : decode cX7_init 518 = .ok (.iastore, 1) := by decide +kernel
theorem dX7_init_519 : decode cX7_init 519 = .ok (.dup, 1) := by decide +kernel
theorem dX7_init_520 : decode cX7_init 520 = .ok (.bipush 36, 2) := by decide +kernel
theorem dX7_init_522 : decode cX7_init 522 = .ok (.bipush 107, 2) := by decide +kernel
theorem dX7_init_524 : decode cX7_init 524 = .ok (.iastore, 1) := by decide +kernel
theorem dX7_init_525 : decode cX7_init 525 = .ok (.dup, 1) := by decide +kernel
theorem dX7_init_526 : decode cX7_init 526 = .ok (.bipush 37, 2) := by decide +kernel
theorem dX7_init_528 : decode cX7_init 528 = .ok (.bipush 32, 2) := by decide +kernel
theorem dX7_init_530 : decode cX7_init 530 = .ok (.iastore, 1) := by decide +kernel
theorem dX7_init_531 : decode cX7_init 531 = .ok (.dup, 1) := by decide +kernel
theorem dX7_init_532 : decode cX7_init 532 = .ok (.bipush 38, 2) := by decide +kernel
theorem dX7_init_534 : decode cX7_init 534 = .ok (.bipush 32, 2) := by decide +kernel
theorem dX7_init_536 : decode cX7_init 536 = .ok (.iastore, 1) := by decide +kernel
theorem dX7_init_537 : decode cX7_init 537 = .ok (.dup, 1) := by decide +kernel
theorem dX7_init_538 : decode cX7_init 538 = .ok (.bipush 39, 2) := by decide +kernel
theorem dX7_init_540 : decode cX7_init 540 = .ok (.bipush 32, 2) := by decide +kernel
theorem dX7_init_542 : decode cX7_init 542 = .ok (.iastore, 1) := by decide +kernel
theorem dX7_init_543 : decode cX7_init 543 = .ok (.dup, 1) := by decide +kernel
theorem dX7_init_544 : decode cX7_init 544 = .ok (.bipush 40, 2) := by decide +kernel
theorem dX7_init_546 : decode cX7_init 546 = .ok (.bipush 118, 2) := by decide +kernel
theorem dX7_init_548 : decode cX7_init 548 = .ok (.iastore, 1) := by decide +kernel
theorem dX7_init_549 : decode cX7_init 549 = .ok (.dup, 1) := by decide +kernel
theorem dX7_init_550 : decode cX7_init 550 = .ok (.bipush 41, 2) := by decide +kernel
theorem dX7_init_552 : decode cX7_init 552 = .ok (.bipush 32, 2) := by decide +kernel
theorem dX7_init_554 : decode cX7_init 554 = .ok (.iastore, 1) := by decide +kernel
theorem dX7_init_555 : decode cX7_init 555 = .ok (.dup, 1) := by decide +kernel
theorem dX7_init_556 : decode cX7_init 556 = .ok (.bipush 42, 2) := by decide +kernel
theorem dX7_init_558 : decode cX7_init 558 = .ok (.bipush 32, 2) := by decide +kernel
theorem dX7_init_560 : decode cX7_init 560 = .ok (.iastore, 1) := by decide +kernel
theorem dX7_init_561 : decode cX7_init 561 = .ok (.dup, 1) := by decide +kernel
theorem dX7_init_562 : decode cX7_init 562 = .ok (.bipush 43, 2) := by decide +kernel
theorem dX7_init_564 : decode cX7_init 564 = .ok (.bipush 32, 2) := by decide +kernel
theorem dX7_init_566 : decode cX7_init 566 = .ok (.iastore, 1) := by decide +kernel
theorem dX7_init_567 : decode cX7_init 567 = .ok (.dup, 1) := by decide +kernel
theorem dX7_init_568 : decode cX7_init 568 = .ok (.bipush 44, 2) := by decide +kernel
theorem dX7_init_570 : decode cX7_init 570 = .ok (.bipush 32, 2) := by decide +kernel
theorem dX7_init_572 : decode cX7_init 572 = .ok (.iastore, 1) := by decide +kernel
theorem dX7_init_573 : decode cX7_init 573 = .ok (.dup, 1) := by decide +kernel
theorem dX7_init_574 : decode cX7_init 574 = .ok (.bipush 45, 2) := by decide +kernel
theorem dX7_init_576 : decode cX7_init 576 = .ok (.bipush 32, 2) := by decide +kernel
theorem dX7_init_578 : decode cX7_init 578 = .ok (.iastore, 1) := by decide +kernel
theorem dX7_init_579 : decode cX7_init 579 = .ok (.dup, 1) := by decide +kernel
theorem dX7_init_580 : decode cX7_init 580 = .ok (.bipush 46, 2) := by decide +kernel
theorem dX7_init_582 : decode cX7_init 582 = .ok (.bipush 32, 2) := by decide +kernel
theorem dX7_init_584 : decode cX7_init 584 = .ok (.iastore, 1) := by decide +kernel
theorem dX7_init_585 : decode cX7_init 585 = .ok (.dup, 1) := by decide +kernel
theorem dX7_init_586 : decode cX7_init 586 = .ok (.bipush 47, 2) := by decide +kernel
theorem dX7_init_588 : decode cX7_init 588 = .ok (.bipush 32, 2) := by decide +kernel
theorem dX7_init_590 : decode cX7_init 590 = .ok (.iastore, 1) := by decide +kernel
theorem dX7_init_591 : decode cX7_init 591 = .ok (.dup, 1) := by decide +kernel
theorem dX7_init_592 : decode cX7_init 592 = .ok (.bipush 48, 2) := by decide +kernel
theorem dX7_init_594 : decode cX7_init 594 = .ok (.bipush 111, 2) := by decide +kernel
theorem dX7_init_596 : decode cX7_init 596 = .ok (.iastore, 1) := by decide +kernel
theorem dX7_init_597 : decode cX7_init 597 = .ok (.dup, 1) := by decide +kernel
theorem dX7_init_598 : decode cX7_init 598 = .ok (.bipush 49, 2) := by decide +kernel
theorem dX7_init_600 : decode cX7_init 600 = .ok (.bipush 102, 2) := by decide +kernel
theorem dX7_init_602 : decode cX7_init 602 = .ok (.iastore, 1) := by decide +kernel
theorem dX7_init_603 : decode cX7_init 603 = .ok (.dup, 1) := by decide +kernel
theorem dX7_init_604 : decode cX7_init 604 = .ok (.bipush 50, 2) := by decide +kernel
theorem dX7_init_606 : decode cX7_init 606 = .ok (.bipush 102, 2) := by decide +kernel
theorem dX7_init_608 : decode cX7_init 608 = .ok (.iastore, 1) := by decide +kernel
theorem dX7_init_609 : decode cX7_init 609 = .ok (.dup, 1) := by decide +kernel
theorem dX7_init_610 : decode cX7_init 610 = .ok (.bipush 51, 2) := by decide +kernel
theorem dX7_init_612 : decode cX7_init 612 = .ok (.bipush 32, 2) := by decide +kernel
theorem dX7_init_614 : decode cX7_init 614 = .ok (.iastore, 1) := by decide +kernel
theorem dX7_init_615 : decode cX7_init 615 = .ok (.dup, 1) := by decide +kernel
theorem dX7_init_616 : decode cX7_init 616 = .ok (.bipush 52, 2) := by decide +kernel
theorem dX7_init_618 : decode cX7_init 618 = .ok (.bipush 32, 2) := by decide +kernel
theorem dX7_init_620 : decode cX7_init 620 = .ok (.iastore, 1) := by decide +kernel
theorem dX7_init_621 : decode cX7_init 621 = .ok (.dup, 1) := by decide +kernel
theorem dX7_init_622 : decode cX7_init 622 = .ok (.bipush 53, 2) := by decide +kernel
theorem dX7_init_624 : decode cX7_init 624 = .ok (.bipush 32, 2) := by decide +kernel
theorem dX7_init_626 : decode cX7_init 626 = .ok (.iastore, 1) := by decide +kernel
theorem dX7_init_627 : decode cX7_init 627 = .ok (.dup, 1) := by decide +kernel
theorem dX7_init_628 : decode cX7_init 628 = .ok (.bipush 54, 2) := by decide +kernel
theorem dX7_init_630 : decode cX7_init 630 = .ok (.bipush 32, 2) := by decide +kernel
theorem dX7_init_632 : decode cX7_init 632 = .ok (.iastore, 1) := by decide +kernel
theorem dX7_init_633 : decode cX7_init 633 = .ok (.dup, 1) := by decide +kernel
theorem dX7_init_634 : decode cX7_init 634 = .ok (.bipush 55, 2) := by decide +kernel
theorem dX7_init_636 : decode cX7_init 636 = .ok (.bipush 32, 2) := by decide +kernel
theorem dX7_init_638 : decode cX7_init 638 = .ok (.iastore, 1) := by decide +kernel
theorem dX7_init_639 : decode cX7_init 639 = .ok (.dup, 1) := by decide +kernel
theorem dX7_init_640 : decode cX7_init 640 = .ok (.bipush 56, 2) := by decide +kernel
theorem dX7_init_642 : decode cX7_init 642 = .ok (.bipush 98, 2) := by decide +kernel
theorem dX7_init_644 : decode cX7_init 644 = .ok (.iastore, 1) := by decide +kernel
theorem dX7_init_645 : decode cX7_init 645 = .ok (.dup, 1) := by decide +kernel
theorem dX7_init_646 : decode cX7_init 646 = .ok (.bipush 57, 2) := by decide +kernel
theorem dX7_init_648 : decode cX7_init 648 = .ok (.bipush 97, 2) := by decide +kernel
theorem dX7_init_650 : decode cX7_init 650 = .ok (.iastore, 1) := by decide +kernel
theorem dX7_init_651 : decode cX7_init 651 = .ok (.dup, 1) := by decide +kernel
theorem dX7_init_652 : decode cX7_init 652 = .ok (.bipush 58, 2) := by decide +kernel
theorem dX7_init_654 : decode cX7_init 654 = .ok (.bipush 115, 2) := by decide +kernel
theorem dX7_init_656 : decode cX7_init 656 = .ok (.iastore, 1) := by decide +kernel
theorem dX7_init_657 : decode cX7_init 657 = .ok (.dup, 1) := by decide +kernel
theorem dX7_init_658 : decode cX7_init 658 = .ok (.bipush 59, 2) := by decide +kernel
theorem dX7_init_660 : decode cX7_init 660 = .ok (.bipush 101, 2) := by decide +kernel
theorem dX7_init_662 : decode cX7_init 662 = .ok (.iastore, 1) := by decide +kernel
theorem dX7_init_663 : decode cX7_init 663 = .ok (.dup, 1) := by decide +kernel
theorem dX7_init_664 : decode cX7_init 664 = .ok (.bipush 60, 2) := by decide +kernel
theorem dX7_init_666 : decode cX7_init 666 = .ok (.bipush 32, 2) := by decide +kernel
theorem dX7_init_668 : decode cX7_init 668 = .ok (.iastore, 1) := by decide +kernel
theorem dX7_init_669 : decode cX7_init 669 = .ok (.dup, 1) := by decide +kernel
theorem dX7_init_670 : decode cX7_init 670 = .ok (.bipush 61, 2) := by decide +kernel
theorem dX7_init_672 : decode cX7_init 672 = .ok (.bipush 32, 2) := by decide +kernel
theorem dX7_init_674 : decode cX7_init 674 = .ok (.iastore, 1) := by decide +kernel
theorem dX7_init_675 : decode cX7_init 675 = .ok (.dup, 1) := by decide +kernel
theorem dX7_init_676 : decode cX7_init 676 = .ok (.bipush 62, 2) := by decide +kernel
theorem dX7_init_678 : decode cX7_init 678 = .ok (.bipush 32, 2) := by decide +kernel
theorem dX7_init_680 : decode cX7_init 680 = .ok (.iastore, 1) := by decide +kernel
theorem dX7_init_681 : decode cX7_init 681 = .ok (.dup, 1) := by decide +kernel
theorem dX7_init_682 : decode cX7_init 682 = .ok (.bipush 63, 2) := by decide +kernel
theorem dX7_init_684 : decode cX7_init 684 = .ok (.bipush 32, 2) := by decide +kernel
theorem dX7_init_686 : decode cX7_init 686 = .ok (.iastore, 1) := by decide +kernel
theorem dX7_init_687 : decode cX7_init 687 = .ok (.dup, 1) := by decide +kernel
theorem dX7_init_688 : decode cX7_init 688 = .ok (.bipush 64, 2) := by decide +kernel
theorem dX7_init_690 : decode cX7_init 690 = .ok (.bipush 121, 2) := by decide +kernel
theorem dX7_init_692 : decode cX7_init 692 = .ok (.iastore, 1) := by decide +kernel
theorem dX7_init_693 : decode cX7_init 693 = .ok (.dup, 1) := by decide +kernel
theorem dX7_init_694 : decode cX7_init 694 = .ok (.bipush 65, 2) := by decide +kernel
theorem dX7_init_696 : decode cX7_init 696 = .ok (.bipush 101, 2) := by decide +kernel
theorem dX7_init_698 : decode cX7_init 698 = .ok (.iastore, 1) := by decide +kernel
theorem dX7_init_699 : decode cX7_init 699 = .ok (.dup, 1) := by decide +kernel
theorem dX7_init_700 : decode cX7_init 700 = .ok (.bipush 66, 2) := by decide +kernel
theorem dX7_init_702 : decode cX7_init 702 = .ok (.bipush 97, 2) := by decide +kernel
theorem dX7_init_704 : decode cX7_init 704 = .ok (.iastore, 1) := by decide +kernel
theorem dX7_init_705 : decode cX7_init 705 = .ok (.dup, 1) := by decide +kernel
theorem dX7_init_706 : decode cX7_init 706 = .ok (.bipush 67, 2) := by decide +kernel
theorem dX7_init_708 : decode cX7_init 708 = .ok (.bipush 114, 2) := by decide +kernel
theorem dX7_init_710 : decode cX7_init 710 = .ok (.iastore, 1) := by decide +kernel
theorem dX7_init_711 : decode cX7_init 711 = .ok (.dup, 1) := by decide +kernel
theorem dX7_init_712 : decode cX7_init 712 = .ok (.bipush 68, 2) := by decide +kernel
theorem dX7_init_714 : decode cX7_init 714 = .ok (.bipush 32, 2) := by decide +kernel
theorem dX7_init_716 : decode cX7_init 716 = .ok (.iastore, 1) := by decide +kernel
theorem dX7_init_717 : decode cX7_init 717 = .ok (.dup, 1) := by decide +kernel
theorem dX7_init_718 : decode cX7_init 718 = .ok (.bipush 69, 2) := by decide +kernel
theorem dX7_init_720 : decode cX7_init 720 = .ok (.bipush 32, 2) := by decide +kernel
theorem dX7_init_722 : decode cX7_init 722 = .ok (.iastore, 1) := by decide +kernel
theorem dX7_init_723 : decode cX7_init 723 = .ok (.dup, 1) := by decide +kernel
theorem dX7_init_724 : decode cX7_init 724 = .ok (.bipush 70, 2) := by decide +kernel
theorem dX7_init_726 : decode cX7_init 726 = .ok (.bipush 32, 2) := by decide +kernel
theorem dX7_init_728 : decode cX7_init 728 = .ok (.iastore, 1) := by decide +kernel
theorem dX7_init_729 : decode cX7_init 729 = .ok (.dup, 1) := by decide +kernel
theorem dX7_init_730 : decode cX7_init 730 = .ok (.bipush 71, 2) := by decide +kernel
theorem dX7_init_732 : decode cX7_init 732 = .ok (.bipush 32, 2) := by decide +kernel
theorem dX7_init_734 : decode cX7_init 734 = .ok (.iastore, 1) := by decide +kernel
theorem dX7_init_735 : decode cX7_init 735 = .ok (.dup, 1) := by decide +kernel
theorem dX7_init_736 : decode cX7_init 736 = .ok (.bipush 72, 2) := by decide +kernel
theorem dX7_init_738 : decode cX7_init 738 = .ok (.bipush 111, 2) := by decide +kernel
theorem dX7_init_740 : decode cX7_init 740 = .ok (.iastore, 1) := by decide +kernel
theorem dX7_init_741 : decode cX7_init 741 = .ok (.dup, 1) := by decide +kernel
theorem dX7_init_742 : decode cX7_init 742 = .ok (.bipush 73, 2) := by decide +kernel
theorem dX7_init_744 : decode cX7_init 744 = .ok (.bipush 114, 2) := by decide +kernel
theorem dX7_init_746 : decode cX7_init 746 = .ok (.iastore, 1) := by decide +kernel
theorem dX7_init_747 : decode cX7_init 747 = .ok (.dup, 1) := by decide +kernel
theorem dX7_init_748 : decode cX7_init 748 = .ok (.bipush 74, 2) := by decide +kernel
theorem dX7_init_750 : decode cX7_init 750 = .ok (.bipush 32, 2) := by decide +kernel
theorem dX7_init_752 : decode cX7_init 752 = .ok (.iastore, 1) := by decide +kernel
theorem dX7_init_753 : decode cX7_init 753 = .ok (.dup, 1) := by decide +kernel
theorem dX7_init_754 : decode cX7_init 754 = .ok (.bipush 75, 2) := by decide +kernel
theorem dX7_init_756 : decode cX7_init 756 = .ok (.bipush 32, 2) := by decide +kernel
theorem dX7_init_758 : decode cX7_init 758 = .ok (.iastore, 1) := by decide +kernel
theorem dX7_init_759 : decode cX7_init 759 = .ok (.dup, 1) := by decide +kernel
theorem dX7_init_760 : decode cX7_init 760 = .ok (.bipush 76, 2) := by decide +kernel
theorem dX7_init_762 : decode cX7_init 762 = .ok (.bipush 32, 2) := by decide +kernel
theorem dX7_init_764 : decode cX7_init 764 = .ok (.iastore, 1) := by decide +kernel
theorem dX7_init_765 : decode cX7_init 765 = .ok (.dup, 1) := by decide +kernel
theorem dX7_init_766 : decode cX7_init 766 = .ok (.bipush 77, 2) := by decide +kernel
theorem dX7_init_768 : decode cX7_init 768 = .ok (.bipush 32, 2) := by decide +kernel
theorem dX7_init_770 : decode cX7_init 770 = .ok (.iastore, 1) := by decide +kernel
theorem dX7_init_771 : decode cX7_init 771 = .ok (.dup, 1) := by decide +kernel
theorem dX7_init_772 : decode cX7_init 772 = .ok (.bipush 78, 2) := by decide +kernel
theorem dX7_init_774 : decode cX7_init 774 = .ok (.bipush 32, 2) := by decide +kernel
theorem dX7_init_776 : decode cX7_init 776 = .ok (.iastore, 1) := by decide +kernel
theorem dX7_init_777 : decode cX7_init 777 = .ok (.dup, 1) := by decide +kernel
theorem dX7_init_778 : decode cX7_init 778 = .ok (.bipush 79, 2) := by decide +kernel
theorem dX7_init_780 : decode cX7_init 780 = .ok (.bipush 32, 2) := by decide +kernel
theorem dX7_init_782 : decode cX7_init 782 = .ok (.iastore, 1) := by decide +kernel
theorem dX7_init_783 : decode cX7_init 783 = .ok (.dup, 1) := by decide +kernel
theorem dX7_init_784 : decode cX7_init 784 = .ok (.bipush 80, 2) := by decide +kernel
theorem dX7_init_786 : decode cX7_init 786 = .ok (.bipush 97, 2) := by decide +kernel
theorem dX7_init_788 : decode cX7_init 788 = .ok (.iastore, 1) := by decide +kernel
theorem dX7_init_789 : decode cX7_init 789 = .ok (.dup, 1) := by decide +kernel
theorem dX7_init_790 : decode cX7_init 790 = .ok (.bipush 81, 2) := by decide +kernel
theorem dX7_init_792 : decode cX7_init 792 = .ok (.bipush 110, 2) := by decide +kernel
theorem dX7_init_794 : decode cX7_init 794 = .ok (.iastore, 1) := by decide +kernel
theorem dX7_init_795 : decode cX7_init 795 = .ok (.dup, 1) := by decide +kernel
theorem dX7_init_796 : decode cX7_init 796 = .ok (.bipush 82, 2) := by decide +kernel
theorem dX7_init_798 : decode cX7_init 798 = .ok (.bipush 100, 2) := by decide +kernel
theorem dX7_init_800 : decode cX7_init 800 = .ok (.iastore, 1) := by decide +kernel
theorem dX7_init_801 : decode cX7_init 801 = .ok (.dup, 1) := by decide +kernel
theorem dX7_init_802 : decode cX7_init 802 = .ok (.bipush 83, 2) := by decide +kernel
theorem dX7_init_804 : decode cX7_init 804 = .ok (.bipush 32, 2) := by decide +kernel
theorem dX7_init_806 : decode cX7_init 806 = .ok (.iastore, 1) := by decide +kernel
theorem dX7_init_807 : decode cX7_init 807 = .ok (.dup, 1) := by decide +kernel
theorem dX7_init_808 : decode cX7_init 808 = .ok (.bipush 84, 2) := by decide +kernel
theorem dX7_init_810 : decode cX7_init 810 = .ok (.bipush 32, 2) := by decide +kernel
theorem dX7_init_812 : decode cX7_init 812 = .ok (.iastore, 1) := by decide +kernel
theorem dX7_init_813 : decode cX7_init 813 = .ok (.dup, 1) := by decide +kernel
theorem dX7_init_814 : decode cX7_init 814 = .ok (.bipush 85, 2) := by decide +kernel
theorem dX7_init_816 : decode cX7_init 816 = .ok (.bipush 32, 2) := by decide +kernel
theorem dX7_init_818 : decode cX7_init 818 = .ok (.iastore, 1) := by decide +kernel
theorem dX7_init_819 : decode cX7_init 819 = .ok (.dup, 1) := by decide +kernel
theorem dX7_init_820 : decode cX7_init 820 = .ok (.bipush 86, 2) := by decide +kernel
theorem dX7_init_822 : decode cX7_init 822 = .ok (.bipush 32, 2) := by decide +kernel
theorem dX7_init_824 : decode cX7_init 824 = .ok (.iastore, 1) := by decide +kernel
theorem dX7_init_825 : decode cX7_init 825 = .ok (.dup, 1) := by decide +kernel
theorem dX7_init_826 : decode cX7_init 826 = .ok (.bipush 87, 2) := by decide +kernel
theorem dX7_init_828 : decode cX7_init 828 = .ok (.bipush 32, 2) := by decide +kernel
theorem dX7_init_830 : decode cX7_init 830 = .ok (.iastore, 1) := by decide +kernel
theorem dX7_init_831 : decode cX7_init 831 = .ok (.dup, 1) := by decide +kernel
theorem dX7_init_832 : decode cX7_init 832 = .ok (.bipush 88, 2) := by decide +kernel
theorem dX7_init_834 : decode cX7_init 834 = .ok (.bipush 110, 2) := by decide +kernel
theorem dX7_init_836 : decode cX7_init 836 = .ok (.iastore, 1) := by decide +kernel
theorem dX7_init_837 : decode cX7_init 837 = .ok (.dup, 1) := by decide +kernel
theorem dX7_init_838 : decode cX7_init 838 = .ok (.bipush 89, 2) := by decide +kernel
theorem dX7_init_840 : decode cX7_init 840 = .ok (.bipush 111, 2) := by decide +kernel
theorem dX7_init_842 : decode cX7_init 842 = .ok (.iastore, 1) := by decide +kernel
theorem dX7_init_843 : decode cX7_init 843 = .ok (.dup, 1) := by decide +kernel
theorem dX7_init_844 : decode cX7_init 844 = .ok (.bipush 90, 2) := by decide +kernel
theorem dX7_init_846 : decode cX7_init 846 = .ok (.bipush 116, 2) := by decide +kernel
theorem dX7_init_848 : decode cX7_init 848 = .ok (.iastore, 1) := by decide +kernel
theorem dX7_init_849 : decode cX7_init 849 = .ok (.dup, 1) := by decide +kernel
theorem dX7_init_850 : decode cX7_init 850 = .ok (.bipush 91, 2) := by decide +kernel
theorem dX7_init_852 : decode cX7_init 852 = .ok (.bipush 32, 2) := by decide +kernel
theorem dX7_init_854 : decode cX7_init 854 = .ok (.iastore, 1) := by decide +kernel
theorem dX7_init_855 : decode cX7_init 855 = .ok (.dup, 1) := by decide +kernel
theorem dX7_init_856 : decode cX7_init 856 = .ok (.bipush 92, 2) := by decide +kernel
theorem dX7_init_858 : decode cX7_init 858 = .ok (.bipush 32, 2) := by decide +kernel
theorem dX7_init_860 : decode cX7_init 860 = .ok (.iastore, 1) := by decide +kernel
theorem dX7_init_861 : decode cX7_init 861 = .ok (.dup, 1) := by decide +kernel
theorem dX7_init_862 : decode cX7_init 862 = .ok (.bipush 93, 2) := by decide +kernel
theorem dX7_init_864 : decode cX7_init 864 = .ok (.bipush 32, 2) := by decide +kernel
theorem dX7_init_866 : decode cX7_init 866 = .ok (.iastore, 1) := by decide +kernel
theorem dX7_init_867 : decode cX7_init 867 = .ok (.dup, 1) := by decide +kernel
theorem dX7_init_868 : decode cX7_init 868 = .ok (.bipush 94, 2) := by decide +kernel
theorem dX7_init_870 : decode cX7_init 870 = .ok (.bipush 32, 2) := by decide +kernel
theorem dX7_init_872 : decode cX7_init 872 = .ok (.iastore, 1) := by decide +kernel
theorem dX7_init_873 : decode cX7_init 873 = .ok (.dup, 1) := by decide +kernel
theorem dX7_init_874 : decode cX7_init 874 = .ok (.bipush 95, 2) := by decide +kernel
theorem dX7_init_876 : decode cX7_init 876 = .ok (.bipush 32, 2) := by decide +kernel
theorem dX7_init_878 : decode cX7_init 878 = .ok (.iastore, 1) := by decide +kernel
theorem dX7_init_879 : decode cX7_init 879 = .ok (.putfield 50, 3) := by decide +kernel
theorem dX7_init_882 : decode cX7_init 882 = .ok (.aload_n 0, 1) := by decide +kernel
theorem dX7_init_883 : decode cX7_init 883 = .ok (.sipush 200, 3) := by decide +kernel
theorem dX7_init_886 : decode cX7_init 886 = .ok (.newarray .int, 2) := by decide +kernel
theorem dX7_init_888 : decode cX7_init 888 = .ok (.putfield 53, 3) := by decide +kernel
theorem dX7_init_891 : decode cX7_init 891 = .ok (.aload_n 0, 1) := by decide +kernel
theorem dX7_init_892 : decode cX7_init 892 = .ok (.sipush 200, 3) := by decide +kernel
theorem dX7_init_895 : decode cX7_init 895 = .ok (.newarray .int, 2) := by decide +kernel
theorem dX7_init_897 : decode cX7_init 897 = .ok (.putfield 56, 3) := by decide +kernel
theorem dX7_init_900 : decode cX7_init 900 = .ok (.aload_n 0, 1) := by decide +kernel
theorem dX7_init_901 : decode cX7_init 901 = .ok (.bipush 6, 2) := by decide +kernel
theorem dX7_init_903 : decode cX7_init 903 = .ok (.newarray .int, 2) := by decide +kernel
theorem dX7_init_905 : decode cX7_init 905 = .ok (.putfield 59, 3) := by decide +kernel
theorem dX7_init_908 : decode cX7_init 908 = .ok (.aload_n 0, 1) := by decide +kernel
theorem dX7_init_909 : decode cX7_init 909 = .ok (.bipush 40, 2) := by decide +kernel
theorem dX7_init_911 : decode cX7_init 911 = .ok (.newarray .int, 2) := by decide +kernel
theorem dX7_init_913 : decode cX7_init 913 = .ok (.putfield 62, 3) := by decide +kernel
theorem dX7_init_916 : decode cX7_init 916 = .ok (.iconst 0, 1) := by decide +kernel
theorem dX7_init_917 : decode cX7_init 917 = .ok (.istore_n 1, 1) := by decide +kernel
theorem dX7_init_918 : decode cX7_init 918 = .ok (.iload_n 1, 1) := by decide +kernel
theorem dX7_init_919 : decode cX7_init 919 = .ok (.bipush 32, 2) := by decide +kernel
theorem dX7_init_921 : decode cX7_init 921 = .ok (.if_icmp .ge 21, 3) := by decide +kernel
theorem dX7_init_924 : decode cX7_init 924 = .ok (.aload_n 0, 1) := by decide +kernel
theorem dX7_init_925 : decode cX7_init 925 = .ok (.getfield 26, 3) := by decide +kernel
theorem dX7_init_928 : decode cX7_init 928 = .ok (.iload_n 1, 1) := by decide +kernel
theorem dX7_init_929 : decode cX7_init 929 = .ok (.aload_n 0, 1) := by decide +kernel
theorem dX7_init_930 : decode cX7_init 930 = .ok (.getfield 47, 3) := by decide +kernel
theorem dX7_init_933 : decode cX7_init 933 = .ok (.iload_n 1, 1) := by decide +kernel
theorem dX7_init_934 : decode cX7_init 934 = .ok (.iaload, 1) := by decide +kernel
theorem dX7_init_935 : decode cX7_init 935 = .ok (.iastore, 1) := by decide +kernel
theorem dX7_init_936 : decode cX7_init 936 = .ok (.iinc 1 1, 3) := by decide +kernel
theorem dX7_init_939 : decode cX7_init 939 = .ok (.goto (-21), 3) := by decide +kernel
theorem dX7_init_942 : decode cX7_init 942 = .ok (.aload_n 0, 1) := by decide +kernel
theorem dX7_init_943 : decode cX7_init 943 = .ok (.bipush 32, 2) := by decide +kernel
theorem dX7_init_945 : decode cX7_init 945 = .ok (.putfield 65, 3) := by decide +kernel
theorem dX7_init_948 : decode cX7_init 948 = .ok (.aload_n 0, 1) := by decide +kernel
theorem dX7_init_949 : decode cX7_init 949 = .ok (.invokevirtual 68, 3) := by decide +kernel
theorem dX7_init_952 : decode cX7_init 952 = .ok (.pop, 1) := by decide +kernel
theorem dX7_init_953 : decode cX7_init 953 = .ok (.return_, 1) := by decide +kernel
theorem dX7_in_0 : decode cX7_in 0 = .ok (.iload_n 0, 1) := by decide +kernel
theorem dX7_in_1 : decode cX7_in 1 = .ok (.iload_n 1, 1) := by decide +kernel
theorem dX7_in_2 : decode cX7_in 2 = .ok (.if_icmp .lt 12, 3) := by decide +kernel
theorem dX7_in_5 : decode cX7_in 5 = .ok (.iload_n 0, 1) := by decide +kernel
theorem dX7_in_6 : decode cX7_in 6 = .ok (.iload_n 2, 1) := by decide +kernel
theorem dX7_in_7 : decode cX7_in 7 = .ok (.if_icmp .gt 7, 3) := by decide +kernel
theorem dX7_in_10 : decode cX7_in 10 = .ok (.iconst 1, 1) := by decide +kernel
theorem dX7_in_11 : decode cX7_in 11 = .ok (.goto 4, 3) := by decide +kernel
theorem dX7_in_14 : decode cX7_in 14 = .ok (.iconst 0, 1) := by decide +kernel
theorem dX7_in_15 : decode cX7_in 15 = .ok (.ireturn, 1) := by decide +kernel
theorem dX7_within_0 : decode cX7_within 0 = .ok (.iload_n 0, 1) := by decide +kernel
theorem dX7_within_1 : decode cX7_within 1 = .ok (.iload_n 1, 1) := by decide +kernel
theorem dX7_within_2 : decode cX7_within 2 = .ok (.if_icmp .ge 7, 3) := by decide +kernel
theorem dX7_within_5 : decode cX7_within 5 = .ok (.iload_n 1, 1) := by decide +kernel
theorem dX7_within_6 : decode cX7_within 6 = .ok (.goto 13, 3) := by decide +kernel
theorem dX7_within_9 : decode cX7_within 9 = .ok (.iload_n 0, 1) := by decide +kernel
theorem dX7_within_10 : decode cX7_within 10 = .ok (.iload_n 2, 1) := by decide +kernel
theorem dX7_within_11 : decode cX7_within 11 = .ok (.if_icmp .le 7, 3) := by decide +kernel
theorem dX7_within_14 : decode cX7_within 14 = .ok (.iload_n 2, 1) := by decide +kernel
theorem dX7_within_15 : decode cX7_within 15 = .ok (.goto 4, 3) := by decide +kernel
theorem dX7_within_18 : decode cX7_within 18 = .ok (.iload_n 0, 1) := by decide +kernel
theorem dX7_within_19 : decode cX7_within 19 = .ok (.ireturn, 1) := by decide +kernel
theorem dX7_far_0 : decode cX7_far 0 = .ok (.lload_n 0, 1) := by decide +kernel
theorem dX7_far_1 : decode cX7_far 1 = .ok (.lload_n 2, 1) := by decide +kernel
theorem dX7_far_2 : decode cX7_far 2 = .ok (.lcmp, 1) := by decide +kernel
theorem dX7_far_3 : decode cX7_far 3 = .ok (.ifCond .le 9, 3) := by decide +kernel
theorem dX7_far_6 : decode cX7_far 6 = .ok (.lload_n 0, 1) := by decide +kernel
theorem dX7_far_7 : decode cX7_far 7 = .ok (.lload_n 2, 1) := by decide +kernel
theorem dX7_far_8 : decode cX7_far 8 = .ok (.lsub, 1) := by decide +kernel
theorem dX7_far_9 : decode cX7_far 9 = .ok (.goto 6, 3) := by decide +kernel
theorem dX7_far_12 : decode cX7_far 12 = .ok (.lload_n 2, 1) := by decide +kernel
theorem dX7_far_13 : decode cX7_far 13 = .ok (.lload_n 0, 1) := by decide +kernel
theorem dX7_far_14 : decode cX7_far 14 = .ok (.lsub, 1) := by decide +kernel
theorem dX7_far_15 : decode cX7_far 15 = .ok (.lreturn, 1) := by decide +kernel
theorem dX7_ones_0 : decode cX7_ones 0 = .ok (.iconst 0, 1) := by decide +kernel
theorem dX7_ones_1 : decode cX7_ones 1 = .ok (.istore_n 1, 1) := by decide +kernel
theorem dX7_ones_2 : decode cX7_ones 2 = .ok (.iconst 0, 1) := by decide +kernel
theorem dX7_ones_3 : decode cX7_ones 3 = .ok (.istore_n 2, 1) := by decide +kernel
theorem dX7_ones_4 : decode cX7_ones 4 = .ok (.iload_n 2, 1) := by decide +kernel
theorem dX7_ones_5 : decode cX7_ones 5 = .ok (.bipush 6, 2) := by decide +kernel
theorem dX7_ones_7 : decode cX7_ones 7 = .ok (.if_icmp .ge 17, 3) := by decide +kernel
theorem dX7_ones_10 : decode cX7_ones 10 = .ok (.iload_n 1, 1) := by decide +kernel
theorem dX7_ones_11 : decode cX7_ones 11 = .ok (.iload_n 0, 1) := by decide +kernel
theorem dX7_ones_12 : decode cX7_ones 12 = .ok (.iload_n 2, 1) := by decide +kernel
theorem dX7_ones_13 : decode cX7_ones 13 = .ok (.ishr, 1) := by decide +kernel
theorem dX7_ones_14 : decode cX7_ones 14 = .ok (.iconst 1, 1) := by decide +kernel
theorem dX7_ones_15 : decode cX7_ones 15 = .ok (.iand, 1) := by decide +kernel
theorem dX7_ones_16 : decode cX7_ones 16 = .ok (.iadd, 1) := by decide +kernel
theorem dX7_ones_17 : decode cX7_ones 17 = .ok (.istore_n 1, 1) := by decide +kernel
theorem dX7_ones_18 : decode cX7_ones 18 = .ok (.iinc 2 1, 3) := by decide +kernel
theorem dX7_ones_21 : decode cX7_ones 21 = .ok (.goto (-17), 3) := by decide +kernel
theorem dX7_ones_24 : decode cX7_ones 24 = .ok (.iload_n 1, 1) := by decide +kernel
theorem dX7_ones_25 : decode cX7_ones 25 = .ok (.ireturn, 1) := by decide +kernel
theorem dX7_isClerk_0 : decode cX7_isClerk 0 = .ok (.iload_n 1, 1) := by decide +kernel
theorem dX7_isClerk_1 : decode cX7_isClerk 1 = .ok (.iconst 0, 1) := by decide +kernel
theorem dX7_isClerk_2 : decode cX7_isClerk 2 = .ok (.aload_n 0, 1) := by decide +kernel
theorem dX7_isClerk_3 : decode cX7_isClerk 3 = .ok (.getfield 72, 3) := by decide +kernel
theorem dX7_isClerk_6 : decode cX7_isClerk 6 = .ok (.iconst 1, 1) := by decide +kernel
theorem dX7_isClerk_7 : decode cX7_isClerk 7 = .ok (.isub, 1) := by decide +kernel
theorem dX7_isClerk_8 : decode cX7_isClerk 8 = .ok (.invokestatic 75, 3) := by decide +kernel
theorem dX7_isClerk_11 : decode cX7_isClerk 11 = .ok (.ireturn, 1) := by decide +kernel
theorem dX7_isNumber_0 : decode cX7_isNumber 0 = .ok (.iload_n 0, 1) := by decide +kernel
theorem dX7_isNumber_1 : decode cX7_isNumber 1 = .ok (.iconst 0, 1) := by decide +kernel
theorem dX7_isNumber_2 : decode cX7_isNumber 2 = .ok (.ldc 79, 2) := by decide +kernel
theorem dX7_isNumber_4 : decode cX7_isNumber 4 = .ok (.invokestatic 75, 3) := by decide +kernel
theorem dX7_isNumber_7 : decode cX7_isNumber 7 = .ok (.ireturn, 1) := by decide +kernel
theorem dX7_count_0 : decode cX7_count 0 = .ok (.iload_n 1, 1) := by decide +kernel
theorem dX7_count_1 : decode cX7_count 1 = .ok (.tableswitch 69 0 5 #[39, 44, 49, 54, 59, 64], 39) := by decide +kernel
theorem dX7_count_40 : decode cX7_count 40 = .ok (.aload_n 0, 1) := by decide +kernel
theorem dX7_count_41 : decode cX7_count 41 = .ok (.getfield 72, 3) := by decide +kernel
theorem dX7_count_44 : decode cX7_count 44 = .ok (.ireturn, 1) := by decide +kernel
theorem dX7_count_45 : decode cX7_count 45 = .ok (.aload_n 0, 1) := by decide +kernel
theorem dX7_count_46 : decode cX7_count 46 = .ok (.getfield 7, 3) := by decide +kernel
theorem dX7_count_49 : decode cX7_count 49 = .ok (.ireturn, 1) := by decide +kernel
theorem dX7_count_50 : decode cX7_count 50 = .ok (.aload_n 0, 1) := by decide +kernel
theorem dX7_count_51 : decode cX7_count 51 = .ok (.getfield 13, 3) := by decide +kernel
theorem dX7_count_54 : decode cX7_count 54 = .ok (.ireturn, 1) := by decide +kernel
theorem dX7_count_55 : decode cX7_count 55 = .ok (.aload_n 0, 1) := by decide +kernel
theorem dX7_count_56 : decode cX7_count 56 = .ok (.getfield 80, 3) := by decide +kernel
theorem dX7_count_59 : decode cX7_count 59 = .ok (.ireturn, 1) := by decide +kernel
theorem dX7_count_60 : decode cX7_count 60 = .ok (.aload_n 0, 1) := by decide +kernel
theorem dX7_count_61 : decode cX7_count 61 = .ok (.getfield 83, 3) := by decide +kernel
theorem dX7_count_64 : decode cX7_count 64 = .ok (.ireturn, 1) := by decide +kernel
theorem dX7_count_65 : decode cX7_count 65 = .ok (.aload_n 0, 1) := by decide +kernel
theorem dX7_count_66 : decode cX7_count 66 = .ok (.getfield 65, 3) := by decide +kernel
theorem dX7_count_69 : decode cX7_count 69 = .ok (.ireturn, 1) := by decide +kernel
theorem dX7_count_70 : decode cX7_count 70 = .ok (.bipush (-2), 2) := by decide +kernel
theorem dX7_count_72 : decode cX7_count 72 = .ok (.ireturn, 1) := by decide +kernel
theorem dX7_isYear_0 : decode cX7_isYear 0 = .ok (.iload_n 0, 1) := by decide +kernel
theorem dX7_isYear_1 : decode cX7_isYear 1 = .ok (.sipush (-999), 3) := by decide +kernel
theorem dX7_isYear_4 : decode cX7_isYear 4 = .ok (.sipush 999, 3) := by decide +kernel
theorem dX7_isYear_7 : decode cX7_isYear 7 = .ok (.invokestatic 75, 3) := by decide +kernel
theorem dX7_isYear_10 : decode cX7_isYear 10 = .ok (.ifCond .eq 11, 3) := by decide +kernel
theorem dX7_isYear_13 : decode cX7_isYear 13 = .ok (.iload_n 0, 1) := by decide +kernel
theorem dX7_isYear_14 : decode cX7_isYear 14 = .ok (.ifCond .eq 7, 3) := by decide +kernel
theorem dX7_isYear_17 : decode cX7_isYear 17 = .ok (.iconst 1, 1) := by decide +kernel
theorem dX7_isYear_18 : decode cX7_isYear 18 = .ok (.goto 4, 3) := by decide +kernel
theorem dX7_isYear_21 : decode cX7_isYear 21 = .ok (.iconst 0, 1) := by decide +kernel
theorem dX7_isYear_22 : decode cX7_isYear 22 = .ok (.ireturn, 1) := by decide +kernel
theorem dX7_set_0 : decode cX7_set 0 = .ok (.iload_n 1, 1) := by decide +kernel
theorem dX7_set_1 : decode cX7_set 1 = .ok (.iconst 0, 1) := by decide +kernel
theorem dX7_set_2 : decode cX7_set 2 = .ok (.iconst 1, 1) := by decide +kernel
theorem dX7_set_3 : decode cX7_set 3 = .ok (.invokestatic 75, 3) := by decide +kernel
theorem dX7_set_6 : decode cX7_set 6 = .ok (.ifCond .ne 6, 3) := by decide +kernel
theorem dX7_set_9 : decode cX7_set 9 = .ok (.bipush (-5), 2) := by decide +kernel
theorem dX7_set_11 : decode cX7_set 11 = .ok (.ireturn, 1) := by decide +kernel
theorem dX7_set_12 : decode cX7_set 12 = .ok (.iload_n 1, 1) := by decide +kernel
theorem dX7_set_13 : decode cX7_set 13 = .ok (.ifCond .ne 16, 3) := by decide +kernel
theorem dX7_set_16 : decode cX7_set 16 = .ok (.iload_n 2, 1) := by decide +kernel
theorem dX7_set_17 : decode cX7_set 17 = .ok (.iconst 2, 1) := by decide +kernel
theorem dX7_set_18 : decode cX7_set 18 = .ok (.bipush 12, 2) := by decide +kernel
theorem dX7_set_20 : decode cX7_set 20 = .ok (.invokestatic 75, 3) := by decide +kernel
theorem dX7_set_23 : decode cX7_set 23 = .ok (.ifCond .ne 16, 3) := by decide +kernel
theorem dX7_set_26 : decode cX7_set 26 = .ok (.goto 10, 3) := by decide +kernel
theorem dX7_set_29 : decode cX7_set 29 = .ok (.iload_n 2, 1) := by decide +kernel
theorem dX7_set_30 : decode cX7_set 30 = .ok (.invokestatic 86, 3) := by decide +kernel
theorem dX7_set_33 : decode cX7_set 33 = .ok (.ifCond .ne 6, 3) := by decide +kernel
theorem dX7_set_36 : decode cX7_set 36 = .ok (.bipush (-7), 2) := by decide +kernel
theorem dX7_set_38 : decode cX7_set 38 = .ok (.ireturn, 1) := by decide +kernel
theorem dX7_set_39 : decode cX7_set 39 = .ok (.iload_n 1, 1) := by decide +kernel
theorem dX7_set_40 : decode cX7_set 40 = .ok (.ifCond .ne 10, 3) := by decide +kernel
theorem dX7_set_43 : decode cX7_set 43 = .ok (.aload_n 0, 1) := by decide +kernel
theorem dX7_set_44 : decode cX7_set 44 = .ok (.getfield 7, 3) := by decide +kernel
theorem dX7_set_47 : decode cX7_set 47 = .ok (.goto 7, 3) := by decide +kernel
theorem dX7_set_50 : decode cX7_set 50 = .ok (.aload_n 0, 1) := by decide +kernel
theorem dX7_set_51 : decode cX7_set 51 = .ok (.getfield 13, 3) := by decide +kernel
theorem dX7_set_54 : decode cX7_set 54 = .ok (.istore_n 3, 1) := by decide +kernel
theorem dX7_set_55 : decode cX7_set 55 = .ok (.aload_n 0, 1) := by decide +kernel
theorem dX7_set_56 : decode cX7_set 56 = .ok (.iload_n 1, 1) := by decide +kernel
theorem dX7_set_57 : decode cX7_set 57 = .ok (.ifCond .ne 7, 3) := by decide +kernel
theorem dX7_set_60 : decode cX7_set 60 = .ok (.iload_n 2, 1) := by decide +kernel
theorem dX7_set_61 : decode cX7_set 61 = .ok (.goto 7, 3) := by decide +kernel
theorem dX7_set_64 : decode cX7_set 64 = .ok (.aload_n 0, 1) := by decide +kernel
theorem dX7_set_65 : decode cX7_set 65 = .ok (.getfield 7, 3) := by decide +kernel
theorem dX7_set_68 : decode cX7_set 68 = .ok (.putfield 7, 3) := by decide +kernel
theorem dX7_set_71 : decode cX7_set 71 = .ok (.aload_n 0, 1) := by decide +kernel
theorem dX7_set_72 : decode cX7_set 72 = .ok (.iload_n 1, 1) := by decide +kernel
theorem dX7_set_73 : decode cX7_set 73 = .ok (.iconst 1, 1) := by decide +kernel
theorem dX7_set_74 : decode cX7_set 74 = .ok (.if_icmp .ne 7, 3) := by decide +kernel
theorem dX7_set_77 : decode cX7_set 77 = .ok (.iload_n 2, 1) := by decide +kernel
theorem dX7_set_78 : decode cX7_set 78 = .ok (.goto 7, 3) := by decide +kernel
theorem dX7_set_81 : decode cX7_set 81 = .ok (.aload_n 0, 1) := by decide +kernel
theorem dX7_set_82 : decode cX7_set 82 = .ok (.getfield 13, 3) := by decide +kernel
theorem dX7_set_85 : decode cX7_set 85 = .ok (.putfield 13, 3) := by decide +kernel
theorem dX7_set_88 : decode cX7_set 88 = .ok (.iload_n 3, 1) := by decide +kernel
theorem dX7_set_89 : decode cX7_set 89 = .ok (.ireturn, 1) := by decide +kernel
theorem dX7_isByte_0 : decode cX7_isByte 0 = .ok (.iload_n 0, 1) := by decide +kernel
theorem dX7_isByte_1 : decode cX7_isByte 1 = .ok (.iconst 0, 1) := by decide +kernel
theorem dX7_isByte_2 : decode cX7_isByte 2 = .ok (.sipush 255, 3) := by decide +kernel
theorem dX7_isByte_5 : decode cX7_isByte 5 = .ok (.invokestatic 75, 3) := by decide +kernel
theorem dX7_isByte_8 : decode cX7_isByte 8 = .ok (.ireturn, 1) := by decide +kernel
theorem dX7_feed_0 : decode cX7_feed 0 = .ok (.iload_n 1, 1) := by decide +kernel
theorem dX7_feed_1 : decode cX7_feed 1 = .ok (.iconst 1, 1) := by decide +kernel
theorem dX7_feed_2 : decode cX7_feed 2 = .ok (.iconst 5, 1) := by decide +kernel
theorem dX7_feed_3 : decode cX7_feed 3 = .ok (.invokestatic 75, 3) := by decide +kernel
theorem dX7_feed_6 : decode cX7_feed 6 = .ok (.ifCond .eq 41, 3) := by decide +kernel
theorem dX7_feed_9 : decode cX7_feed 9 = .ok (.iload_n 2, 1) := by decide +kernel
theorem dX7_feed_10 : decode cX7_feed 10 = .ok (.invokestatic 90, 3) := by decide +kernel
theorem dX7_feed_13 : decode cX7_feed 13 = .ok (.ifCond .eq 34, 3) := by decide +kernel
theorem dX7_feed_16 : decode cX7_feed 16 = .ok (.iload_n 3, 1) := by decide +kernel
theorem dX7_feed_17 : decode cX7_feed 17 = .ok (.invokestatic 90, 3) := by decide +kernel
theorem dX7_feed_20 : decode cX7_feed 20 = .ok (.ifCond .eq 27, 3) := by decide +kernel
theorem dX7_feed_23 : decode cX7_feed 23 = .ok (.iload 4, 2) := by decide +kernel
theorem dX7_feed_25 : decode cX7_feed 25 = .ok (.invokestatic 90, 3) := by decide +kernel
theorem dX7_feed_28 : decode cX7_feed 28 = .ok (.ifCond .eq 19, 3) := by decide +kernel
theorem dX7_feed_31 : decode cX7_feed 31 = .ok (.iload 5, 2) := by decide +kernel
theorem dX7_feed_33 : decode cX7_feed 33 = .ok (.invokestatic 90, 3) := by decide +kernel
theorem dX7_feed_36 : decode cX7_feed 36 = .ok (.ifCond .eq 11, 3) := by decide +kernel
theorem dX7_feed_39 : decode cX7_feed 39 = .ok (.iload 6, 2) := by decide +kernel
theorem dX7_feed_41 : decode cX7_feed 41 = .ok (.invokestatic 90, 3) := by decide +kernel
theorem dX7_feed_44 : decode cX7_feed 44 = .ok (.ifCond .ne 6, 3) := by decide +kernel
theorem dX7_feed_47 : decode cX7_feed 47 = .ok (.bipush (-2), 2) := by decide +kernel
theorem dX7_feed_49 : decode cX7_feed 49 = .ok (.ireturn, 1) := by decide +kernel
theorem dX7_feed_50 : decode cX7_feed 50 = .ok (.aload_n 0, 1) := by decide +kernel
theorem dX7_feed_51 : decode cX7_feed 51 = .ok (.getfield 65, 3) := by decide +kernel
theorem dX7_feed_54 : decode cX7_feed 54 = .ok (.iload_n 1, 1) := by decide +kernel
theorem dX7_feed_55 : decode cX7_feed 55 = .ok (.iadd, 1) := by decide +kernel
theorem dX7_feed_56 : decode cX7_feed 56 = .ok (.sipush 160, 3) := by decide +kernel
theorem dX7_feed_59 : decode cX7_feed 59 = .ok (.if_icmp .le 6, 3) := by decide +kernel
theorem dX7_feed_62 : decode cX7_feed 62 = .ok (.bipush (-4), 2) := by decide +kernel
theorem dX7_feed_64 : decode cX7_feed 64 = .ok (.ireturn, 1) := by decide +kernel
theorem dX7_feed_65 : decode cX7_feed 65 = .ok (.iconst 0, 1) := by decide +kernel
theorem dX7_feed_66 : decode cX7_feed 66 = .ok (.istore 7, 2) := by decide +kernel
theorem dX7_feed_68 : decode cX7_feed 68 = .ok (.iload 7, 2) := by decide +kernel
theorem dX7_feed_70 : decode cX7_feed 70 = .ok (.iload_n 1, 1) := by decide +kernel
theorem dX7_feed_71 : decode cX7_feed 71 = .ok (.if_icmp .ge 71, 3) := by decide +kernel
theorem dX7_feed_74 : decode cX7_feed 74 = .ok (.aload_n 0, 1) := by decide +kernel
theorem dX7_feed_75 : decode cX7_feed 75 = .ok (.getfield 26, 3) := by decide +kernel
theorem dX7_feed_78 : decode cX7_feed 78 = .ok (.aload_n 0, 1) := by decide +kernel
theorem dX7_feed_79 : decode cX7_feed 79 = .ok (.getfield 65, 3) := by decide +kernel
theorem dX7_feed_82 : decode cX7_feed 82 = .ok (.iload 7, 2) := by decide +kernel
theorem dX7_feed_84 : decode cX7_feed 84 = .ok (.ifCond .ne 7, 3) := by decide +kernel
theorem dX7_feed_87 : decode cX7_feed 87 = .ok (.iload_n 2, 1) := by decide +kernel
theorem dX7_feed_88 : decode cX7_feed 88 = .ok (.goto 37, 3) := by decide +kernel
theorem dX7_feed_91 : decode cX7_feed 91 = .ok (.iload 7, 2) := by decide +kernel
theorem dX7_feed_93 : decode cX7_feed 93 = .ok (.iconst 1, 1) := by decide +kernel
theorem dX7_feed_94 : decode cX7_feed 94 = .ok (.if_icmp .ne 7, 3) := by decide +kernel
theorem dX7_feed_97 : decode cX7_feed 97 = .ok (.iload_n 3, 1) := by decide +kernel
theorem dX7_feed_98 : decode cX7_feed 98 = .ok (.goto 27, 3) := by decide +kernel
theorem dX7_feed_101 : decode cX7_feed 101 = .ok (.iload 7, 2) := by decide +kernel
theorem dX7_feed_103 : decode cX7_feed 103 = .ok (.iconst 2, 1) := by decide +kernel
theorem dX7_feed_104 : decode cX7_feed 104 = .ok (.if_icmp .ne 8, 3) := by decide +kernel
theorem dX7_feed_107 : decode cX7_feed 107 = .ok (.iload 4, 2) := by decide +kernel
theorem dX7_feed_109 : decode cX7_feed 109 = .ok (.goto 16, 3) := by decide +kernel
theorem dX7_feed_112 : decode cX7_feed 112 = .ok (.iload 7, 2) := by decide +kernel
theorem dX7_feed_114 : decode cX7_feed 114 = .ok (.iconst 3, 1) := by decide +kernel
theorem dX7_feed_115 : decode cX7_feed 115 = .ok (.if_icmp .ne 8, 3) := by decide +kernel
theorem dX7_feed_118 : decode cX7_feed 118 = .ok (.iload 5, 2) := by decide +kernel
theorem dX7_feed_120 : decode cX7_feed 120 = .ok (.goto 5, 3) := by decide +kernel
theorem dX7_feed_123 : decode cX7_feed 123 = .ok (.iload 6, 2) := by decide +kernel
theorem dX7_feed_125 : decode cX7_feed 125 = .ok (.iastore, 1) := by decide +kernel
theorem dX7_feed_126 : decode cX7_feed 126 = .ok (.aload_n 0, 1) := by decide +kernel
theorem dX7_feed_127 : decode cX7_feed 127 = .ok (.dup, 1) := by decide +kernel
theorem dX7_feed_128 : decode cX7_feed 128 = .ok (.getfield 65, 3) := by decide +kernel
theorem dX7_feed_131 : decode cX7_feed 131 = .ok (.iconst 1, 1) := by decide +kernel
theorem dX7_feed_132 : decode cX7_feed 132 = .ok (.iadd, 1) := by decide +kernel
theorem dX7_feed_133 : decode cX7_feed 133 = .ok (.putfield 65, 3) := by decide +kernel
theorem dX7_feed_136 : decode cX7_feed 136 = .ok (.iinc 7 1, 3) := by decide +kernel
theorem dX7_feed_139 : decode cX7_feed 139 = .ok (.goto (-71), 3) := by decide +kernel
theorem dX7_feed_142 : decode cX7_feed 142 = .ok (.aload_n 0, 1) := by decide +kernel
theorem dX7_feed_143 : decode cX7_feed 143 = .ok (.getfield 65, 3) := by decide +kernel
theorem dX7_feed_146 : decode cX7_feed 146 = .ok (.ireturn, 1) := by decide +kernel
theorem dX7_wordFrom_0 : decode cX7_wordFrom 0 = .ok (.iconst 0, 1) := by decide +kernel
theorem dX7_wordFrom_1 : decode cX7_wordFrom 1 = .ok (.istore_n 3, 1) := by decide +kernel
theorem dX7_wordFrom_2 : decode cX7_wordFrom 2 = .ok (.iload_n 3, 1) := by decide +kernel
theorem dX7_wordFrom_3 : decode cX7_wordFrom 3 = .ok (.bipush 12, 2) := by decide +kernel
theorem dX7_wordFrom_5 : decode cX7_wordFrom 5 = .ok (.if_icmp .ge 96, 3) := by decide +kernel
theorem dX7_wordFrom_8 : decode cX7_wordFrom 8 = .ok (.iload_n 2, 1) := by decide +kernel
theorem dX7_wordFrom_9 : decode cX7_wordFrom 9 = .ok (.iload_n 1, 1) := by decide +kernel
theorem dX7_wordFrom_10 : decode cX7_wordFrom 10 = .ok (.isub, 1) := by decide +kernel
theorem dX7_wordFrom_11 : decode cX7_wordFrom 11 = .ok (.bipush 8, 2) := by decide +kernel
theorem dX7_wordFrom_13 : decode cX7_wordFrom 13 = .ok (.if_icmp .gt 7, 3) := by decide +kernel
theorem dX7_wordFrom_16 : decode cX7_wordFrom 16 = .ok (.iconst 1, 1) := by decide +kernel
theorem dX7_wordFrom_17 : decode cX7_wordFrom 17 = .ok (.goto 4, 3) := by decide +kernel
theorem dX7_wordFrom_20 : decode cX7_wordFrom 20 = .ok (.iconst 0, 1) := by decide +kernel
theorem dX7_wordFrom_21 : decode cX7_wordFrom 21 = .ok (.istore 4, 2) := by decide +kernel
theorem dX7_wordFrom_23 : decode cX7_wordFrom 23 = .ok (.iconst 0, 1) := by decide +kernel
theorem dX7_wordFrom_24 : decode cX7_wordFrom 24 = .ok (.istore 5, 2) := by decide +kernel
theorem dX7_wordFrom_26 : decode cX7_wordFrom 26 = .ok (.iload 5, 2) := by decide +kernel
theorem dX7_wordFrom_28 : decode cX7_wordFrom 28 = .ok (.bipush 8, 2) := by decide +kernel
theorem dX7_wordFrom_30 : decode cX7_wordFrom 30 = .ok (.if_icmp .ge 58, 3) := by decide +kernel
theorem dX7_wordFrom_33 : decode cX7_wordFrom 33 = .ok (.iload 4, 2) := by decide +kernel
theorem dX7_wordFrom_35 : decode cX7_wordFrom 35 = .ok (.ifCond .eq 53, 3) := by decide +kernel
theorem dX7_wordFrom_38 : decode cX7_wordFrom 38 = .ok (.aload_n 0, 1) := by decide +kernel
theorem dX7_wordFrom_39 : decode cX7_wordFrom 39 = .ok (.getfield 50, 3) := by decide +kernel
theorem dX7_wordFrom_42 : decode cX7_wordFrom 42 = .ok (.bipush 8, 2) := by decide +kernel
theorem dX7_wordFrom_44 : decode cX7_wordFrom 44 = .ok (.iload_n 3, 1) := by decide +kernel
theorem dX7_wordFrom_45 : decode cX7_wordFrom 45 = .ok (.imul, 1) := by decide +kernel
theorem dX7_wordFrom_46 : decode cX7_wordFrom 46 = .ok (.iload 5, 2) := by decide +kernel
theorem dX7_wordFrom_48 : decode cX7_wordFrom 48 = .ok (.iadd, 1) := by decide +kernel
theorem dX7_wordFrom_49 : decode cX7_wordFrom 49 = .ok (.iaload, 1) := by decide +kernel
theorem dX7_wordFrom_50 : decode cX7_wordFrom 50 = .ok (.iload_n 1, 1) := by decide +kernel
theorem dX7_wordFrom_51 : decode cX7_wordFrom 51 = .ok (.iload 5, 2) := by decide +kernel
theorem dX7_wordFrom_53 : decode cX7_wordFrom 53 = .ok (.iadd, 1) := by decide +kernel
theorem dX7_wordFrom_54 : decode cX7_wordFrom 54 = .ok (.iload_n 2, 1) := by decide +kernel
theorem dX7_wordFrom_55 : decode cX7_wordFrom 55 = .ok (.if_icmp .ge 15, 3) := by decide +kernel
theorem dX7_wordFrom_58 : decode cX7_wordFrom 58 = .ok (.aload_n 0, 1) := by decide +kernel
theorem dX7_wordFrom_59 : decode cX7_wordFrom 59 = .ok (.getfield 26, 3) := by decide +kernel
theorem dX7_wordFrom_62 : decode cX7_wordFrom 62 = .ok (.iload_n 1, 1) := by decide +kernel
theorem dX7_wordFrom_63 : decode cX7_wordFrom 63 = .ok (.iload 5, 2) := by decide +kernel
theorem dX7_wordFrom_65 : decode cX7_wordFrom 65 = .ok (.iadd, 1) := by decide +kernel
theorem dX7_wordFrom_66 : decode cX7_wordFrom 66 = .ok (.iaload, 1) := by decide +kernel
theorem dX7_wordFrom_67 : decode cX7_wordFrom 67 = .ok (.goto 5, 3) := by decide +kernel
theorem dX7_wordFrom_70 : decode cX7_wordFrom 70 = .ok (.bipush 32, 2) := by decide +kernel
theorem dX7_wordFrom_72 : decode cX7_wordFrom 72 = .ok (.if_icmp .ne 7, 3) := by decide +kernel
theorem dX7_wordFrom_75 : decode cX7_wordFrom 75 = .ok (.iconst 1, 1) := by decide +kernel
theorem dX7_wordFrom_76 : decode cX7_wordFrom 76 = .ok (.goto 4, 3) := by decide +kernel
theorem dX7_wordFrom_79 : decode cX7_wordFrom 79 = .ok (.iconst 0, 1) := by decide +kernel
theorem dX7_wordFrom_80 : decode cX7_wordFrom 80 = .ok (.istore 4, 2) := by decide +kernel
theorem dX7_wordFrom_82 : decode cX7_wordFrom 82 = .ok (.iinc 5 1, 3) := by decide +kernel
theorem dX7_wordFrom_85 : decode cX7_wordFrom 85 = .ok (.goto (-59), 3) := by decide +kernel
theorem dX7_wordFrom_88 : decode cX7_wordFrom 88 = .ok (.iload 4, 2) := by decide +kernel
theorem dX7_wordFrom_90 : decode cX7_wordFrom 90 = .ok (.ifCond .eq 5, 3) := by decide +kernel
theorem dX7_wordFrom_93 : decode cX7_wordFrom 93 = .ok (.iload_n 3, 1) := by decide +kernel
theorem dX7_wordFrom_94 : decode cX7_wordFrom 94 = .ok (.ireturn, 1) := by decide +kernel
theorem dX7_wordFrom_95 : decode cX7_wordFrom 95 = .ok (.iinc 3 1, 3) := by decide +kernel
theorem dX7_wordFrom_98 : decode cX7_wordFrom 98 = .ok (.goto (-96), 3) := by decide +kernel
theorem dX7_wordFrom_101 : decode cX7_wordFrom 101 = .ok (.bipush 12, 2) := by decide +kernel
theorem dX7_wordFrom_103 : decode cX7_wordFrom 103 = .ok (.ireturn, 1) := by decide +kernel
theorem dX7_next_0 : decode cX7_next 0 = .ok (.aload_n 0, 1) := by decide +kernel
theorem dX7_next_1 : decode cX7_next 1 = .ok (.getfield 93, 3) := by decide +kernel
theorem dX7_next_4 : decode cX7_next 4 = .ok (.aload_n 0, 1) := by decide +kernel
theorem dX7_next_5 : decode cX7_next 5 = .ok (.getfield 65, 3) := by decide +kernel
theorem dX7_next_8 : decode cX7_next 8 = .ok (.if_icmp .ge 44, 3) := by decide +kernel
theorem dX7_next_11 : decode cX7_next 11 = .ok (.aload_n 0, 1) := by decide +kernel
theorem dX7_next_12 : decode cX7_next 12 = .ok (.getfield 26, 3) := by decide +kernel
theorem dX7_next_15 : decode cX7_next 15 = .ok (.aload_n 0, 1) := by decide +kernel
theorem dX7_next_16 : decode cX7_next 16 = .ok (.getfield 93, 3) := by decide +kernel
theorem dX7_next_19 : decode cX7_next 19 = .ok (.iaload, 1) := by decide +kernel
theorem dX7_next_20 : decode cX7_next 20 = .ok (.bipush 32, 2) := by decide +kernel
theorem dX7_next_22 : decode cX7_next 22 = .ok (.if_icmp .eq 17, 3) := by decide +kernel
theorem dX7_next_25 : decode cX7_next 25 = .ok (.aload_n 0, 1) := by decide +kernel
theorem dX7_next_26 : decode cX7_next 26 = .ok (.getfield 26, 3) := by decide +kernel
theorem dX7_next_29 : decode cX7_next 29 = .ok (.aload_n 0, 1) := by decide +kernel
theorem dX7_next_30 : decode cX7_next 30 = .ok (.getfield 93, 3) := by decide +kernel
theorem dX7_next_33 : decode cX7_next 33 = .ok (.iaload, 1) := by decide +kernel
theorem dX7_next_34 : decode cX7_next 34 = .ok (.bipush 10, 2) := by decide +kernel
theorem dX7_next_36 : decode cX7_next 36 = .ok (.if_icmp .ne 16, 3) := by decide +kernel
theorem dX7_next_39 : decode cX7_next 39 = .ok (.aload_n 0, 1) := by decide +kernel
theorem dX7_next_40 : decode cX7_next 40 = .ok (.dup, 1) := by decide +kernel
theorem dX7_next_41 : decode cX7_next 41 = .ok (.getfield 93, 3) := by decide +kernel
theorem dX7_next_44 : decode cX7_next 44 = .ok (.iconst 1, 1) := by decide +kernel
theorem dX7_next_45 : decode cX7_next 45 = .ok (.iadd, 1) := by decide +kernel
theorem dX7_next_46 : decode cX7_next 46 = .ok (.putfield 93, 3) := by decide +kernel
theorem dX7_next_49 : decode cX7_next 49 = .ok (.goto (-49), 3) := by decide +kernel
theorem dX7_next_52 : decode cX7_next 52 = .ok (.aload_n 0, 1) := by decide +kernel
theorem dX7_next_53 : decode cX7_next 53 = .ok (.aload_n 0, 1) := by decide +kernel
theorem dX7_next_54 : decode cX7_next 54 = .ok (.getfield 93, 3) := by decide +kernel
theorem dX7_next_57 : decode cX7_next 57 = .ok (.putfield 96, 3) := by decide +kernel
theorem dX7_next_60 : decode cX7_next 60 = .ok (.aload_n 0, 1) := by decide +kernel
theorem dX7_next_61 : decode cX7_next 61 = .ok (.iconst 0, 1) := by decide +kernel
theorem dX7_next_62 : decode cX7_next 62 = .ok (.putfield 99, 3) := by decide +kernel
theorem dX7_next_65 : decode cX7_next 65 = .ok (.aload_n 0, 1) := by decide +kernel
theorem dX7_next_66 : decode cX7_next 66 = .ok (.iconst 0, 1) := by decide +kernel
theorem dX7_next_67 : decode cX7_next 67 = .ok (.putfield 102, 3) := by decide +kernel
theorem dX7_next_70 : decode cX7_next 70 = .ok (.aload_n 0, 1) := by decide +kernel
theorem dX7_next_71 : decode cX7_next 71 = .ok (.getfield 93, 3) := by decide +kernel
theorem dX7_next_74 : decode cX7_next 74 = .ok (.aload_n 0, 1) := by decide +kernel
theorem dX7_next_75 : decode cX7_next 75 = .ok (.getfield 65, 3) := by decide +kernel
theorem dX7_next_78 : decode cX7_next 78 = .ok (.if_icmp .ne 4, 3) := by decide +kernel
theorem dX7_next_81 : decode cX7_next 81 = .ok (.return_, 1) := by decide +kernel
theorem dX7_next_82 : decode cX7_next 82 = .ok (.aload_n 0, 1) := by decide +kernel
theorem dX7_next_83 : decode cX7_next 83 = .ok (.getfield 26, 3) := by decide +kernel
theorem dX7_next_86 : decode cX7_next 86 = .ok (.aload_n 0, 1) := by decide +kernel
theorem dX7_next_87 : decode cX7_next 87 = .ok (.getfield 93, 3) := by decide +kernel
theorem dX7_next_90 : decode cX7_next 90 = .ok (.iaload, 1) := by decide +kernel
theorem dX7_next_91 : decode cX7_next 91 = .ok (.istore_n 1, 1) := by decide +kernel
theorem dX7_next_92 : decode cX7_next 92 = .ok (.iload_n 1, 1) := by decide +kernel
theorem dX7_next_93 : decode cX7_next 93 = .ok (.bipush 97, 2) := by decide +kernel
theorem dX7_next_95 : decode cX7_next 95 = .ok (.bipush 122, 2) := by decide +kernel
theorem dX7_next_97 : decode cX7_next 97 = .ok (.invokestatic 75, 3) := by decide +kernel
theorem dX7_next_100 : decode cX7_next 100 = .ok (.ifCond .eq 117, 3) := by decide +kernel
theorem dX7_next_103 : decode cX7_next 103 = .ok (.aload_n 0, 1) := by decide +kernel
theorem dX7_next_104 : decode cX7_next 104 = .ok (.getfield 93, 3) := by decide +kernel
theorem dX7_next_107 : decode cX7_next 107 = .ok (.aload_n 0, 1) := by decide +kernel
theorem dX7_next_108 : decode cX7_next 108 = .ok (.getfield 65, 3) := by decide +kernel
theorem dX7_next_111 : decode cX7_next 111 = .ok (.if_icmp .ge 35, 3) := by decide +kernel
theorem dX7_next_114 : decode cX7_next 114 = .ok (.aload_n 0, 1) := by decide +kernel
theorem dX7_next_115 : decode cX7_next 115 = .ok (.getfield 26, 3) := by decide +kernel
theorem dX7_next_118 : decode cX7_next 118 = .ok (.aload_n 0, 1) := by decide +kernel
theorem dX7_next_119 : decode cX7_next 119 = .ok (.getfield 93, 3) := by decide +kernel
theorem dX7_next_122 : decode cX7_next 122 = .ok (.iaload, 1) := by decide +kernel
theorem dX7_next_123 : decode cX7_next 123 = .ok (.bipush 97, 2) := by decide +kernel
theorem dX7_next_125 : decode cX7_next 125 = .ok (.bipush 122, 2) := by decide +kernel
theorem dX7_next_127 : decode cX7_next 127 = .ok (.invokestatic 75, 3) := by decide +kernel
theorem dX7_next_130 : decode cX7_next 130 = .ok (.ifCond .eq 16, 3) := by decide +kernel
theorem dX7_next_133 : decode cX7_next 133 = .ok (.aload_n 0, 1) := by decide +kernel
theorem dX7_next_134 : decode cX7_next 134 = .ok (.dup, 1) := by decide +kernel
theorem dX7_next_135 : decode cX7_next 135 = .ok (.getfield 93, 3) := by decide +kernel
theorem dX7_next_138 : decode cX7_next 138 = .ok (.iconst 1, 1) := by decide +kernel
theorem dX7_next_139 : decode cX7_next 139 = .ok (.iadd, 1) := by decide +kernel
theorem dX7_next_140 : decode cX7_next 140 = .ok (.putfield 93, 3) := by decide +kernel
theorem dX7_next_143 : decode cX7_next 143 = .ok (.goto (-40), 3) := by decide +kernel
theorem dX7_next_146 : decode cX7_next 146 = .ok (.aload_n 0, 1) := by decide +kernel
theorem dX7_next_147 : decode cX7_next 147 = .ok (.aload_n 0, 1) := by decide +kernel
theorem dX7_next_148 : decode cX7_next 148 = .ok (.getfield 96, 3) := by decide +kernel
theorem dX7_next_151 : decode cX7_next 151 = .ok (.aload_n 0, 1) := by decide +kernel
theorem dX7_next_152 : decode cX7_next 152 = .ok (.getfield 93, 3) := by decide +kernel
theorem dX7_next_155 : decode cX7_next 155 = .ok (.invokevirtual 105, 3) := by decide +kernel
theorem dX7_next_158 : decode cX7_next 158 = .ok (.istore_n 2, 1) := by decide +kernel
theorem dX7_next_159 : decode cX7_next 159 = .ok (.aload_n 0, 1) := by decide +kernel
theorem dX7_next_160 : decode cX7_next 160 = .ok (.iload_n 2, 1) := by decide +kernel
theorem dX7_next_161 : decode cX7_next 161 = .ok (.iconst 3, 1) := by decide +kernel
theorem dX7_next_162 : decode cX7_next 162 = .ok (.if_icmp .ge 7, 3) := by decide +kernel
theorem dX7_next_165 : decode cX7_next 165 = .ok (.iconst 3, 1) := by decide +kernel
theorem dX7_next_166 : decode cX7_next 166 = .ok (.goto 29, 3) := by decide +kernel
theorem dX7_next_169 : decode cX7_next 169 = .ok (.iload_n 2, 1) := by decide +kernel
theorem dX7_next_170 : decode cX7_next 170 = .ok (.bipush 9, 2) := by decide +kernel
theorem dX7_next_172 : decode cX7_next 172 = .ok (.if_icmp .ge 7, 3) := by decide +kernel
theorem dX7_next_175 : decode cX7_next 175 = .ok (.iconst 2, 1) := by decide +kernel
theorem dX7_next_176 : decode cX7_next 176 = .ok (.goto 19, 3) := by decide +kernel
theorem dX7_next_179 : decode cX7_next 179 = .ok (.iload_n 2, 1) := by decide +kernel
theorem dX7_next_180 : decode cX7_next 180 = .ok (.bipush 12, 2) := by decide +kernel
theorem dX7_next_182 : decode cX7_next 182 = .ok (.if_icmp .ne 7, 3) := by decide +kernel
theorem dX7_next_185 : decode cX7_next 185 = .ok (.iconst (-1), 1) := by decide +kernel
theorem dX7_next_186 : decode cX7_next 186 = .ok (.goto 9, 3) := by decide +kernel
theorem dX7_next_189 : decode cX7_next 189 = .ok (.iconst 4, 1) := by decide +kernel
theorem dX7_next_190 : decode cX7_next 190 = .ok (.iload_n 2, 1) := by decide +kernel
theorem dX7_next_191 : decode cX7_next 191 = .ok (.iadd, 1) := by decide +kernel
theorem dX7_next_192 : decode cX7_next 192 = .ok (.bipush 9, 2) := by decide +kernel
theorem dX7_next_194 : decode cX7_next 194 = .ok (.isub, 1) := by decide +kernel
theorem dX7_next_195 : decode cX7_next 195 = .ok (.putfield 99, 3) := by decide +kernel
theorem dX7_next_198 : decode cX7_next 198 = .ok (.aload_n 0, 1) := by decide +kernel
theorem dX7_next_199 : decode cX7_next 199 = .ok (.iload_n 2, 1) := by decide +kernel
theorem dX7_next_200 : decode cX7_next 200 = .ok (.iconst 3, 1) := by decide +kernel
theorem dX7_next_201 : decode cX7_next 201 = .ok (.if_icmp .ge 7, 3) := by decide +kernel
theorem dX7_next_204 : decode cX7_next 204 = .ok (.iload_n 2, 1) := by decide +kernel
theorem dX7_next_205 : decode cX7_next 205 = .ok (.goto 6, 3) := by decide +kernel
theorem dX7_next_208 : decode cX7_next 208 = .ok (.iload_n 2, 1) := by decide +kernel
theorem dX7_next_209 : decode cX7_next 209 = .ok (.iconst 3, 1) := by decide +kernel
theorem dX7_next_210 : decode cX7_next 210 = .ok (.isub, 1) := by decide +kernel
theorem dX7_next_211 : decode cX7_next 211 = .ok (.putfield 102, 3) := by decide +kernel
theorem dX7_next_214 : decode cX7_next 214 = .ok (.goto 189, 3) := by decide +kernel
theorem dX7_next_217 : decode cX7_next 217 = .ok (.iload_n 1, 1) := by decide +kernel
theorem dX7_next_218 : decode cX7_next 218 = .ok (.bipush 48, 2) := by decide +kernel
theorem dX7_next_220 : decode cX7_next 220 = .ok (.bipush 57, 2) := by decide +kernel
theorem dX7_next_222 : decode cX7_next 222 = .ok (.invokestatic 75, 3) := by decide +kernel
theorem dX7_next_225 : decode cX7_next 225 = .ok (.ifCond .eq 101, 3) := by decide +kernel
theorem dX7_next_228 : decode cX7_next 228 = .ok (.iconst 0, 1) := by decide +kernel
theorem dX7_next_229 : decode cX7_next 229 = .ok (.istore_n 2, 1) := by decide +kernel
theorem dX7_next_230 : decode cX7_next 230 = .ok (.aload_n 0, 1) := by decide +kernel
theorem dX7_next_231 : decode cX7_next 231 = .ok (.getfield 93, 3) := by decide +kernel
theorem dX7_next_234 : decode cX7_next 234 = .ok (.aload_n 0, 1) := by decide +kernel
theorem dX7_next_235 : decode cX7_next 235 = .ok (.getfield 65, 3) := by decide +kernel
theorem dX7_next_238 : decode cX7_next 238 = .ok (.if_icmp .ge 71, 3) := by decide +kernel
theorem dX7_next_241 : decode cX7_next 241 = .ok (.aload_n 0, 1) := by decide +kernel
theorem dX7_next_242 : decode cX7_next 242 = .ok (.getfield 26, 3) := by decide +kernel
theorem dX7_next_245 : decode cX7_next 245 = .ok (.aload_n 0, 1) := by decide +kernel
theorem dX7_next_246 : decode cX7_next 246 = .ok (.getfield 93, 3) := by decide +kernel
theorem dX7_next_249 : decode cX7_next 249 = .ok (.iaload, 1) := by decide +kernel
theorem dX7_next_250 : decode cX7_next 250 = .ok (.bipush 48, 2) := by decide +kernel
theorem dX7_next_252 : decode cX7_next 252 = .ok (.bipush 57, 2) := by decide +kernel
theorem dX7_next_254 : decode cX7_next 254 = .ok (.invokestatic 75, 3) := by decide +kernel
theorem dX7_next_257 : decode cX7_next 257 = .ok (.ifCond .eq 52, 3) := by decide +kernel
theorem dX7_next_260 : decode cX7_next 260 = .ok (.aload_n 0, 1) := by decide +kernel
theorem dX7_next_261 : decode cX7_next 261 = .ok (.iload_n 2, 1) := by decide +kernel
theorem dX7_next_262 : decode cX7_next 262 = .ok (.iconst 4, 1) := by decide +kernel
theorem dX7_next_263 : decode cX7_next 263 = .ok (.if_icmp .ge 26, 3) := by decide +kernel
theorem dX7_next_266 : decode cX7_next 266 = .ok (.bipush 10, 2) := by decide +kernel
theorem dX7_next_268 : decode cX7_next 268 = .ok (.aload_n 0, 1) := by decide +kernel
theorem dX7_next_269 : decode cX7_next 269 = .ok (.getfield 102, 3) := by decide +kernel
theorem dX7_next_272 : decode cX7_next 272 = .ok (.imul, 1) := by decide +kernel
theorem dX7_next_273 : decode cX7_next 273 = .ok (.aload_n 0, 1) := by decide +kernel
theorem dX7_next_274 : decode cX7_next 274 = .ok (.getfield 26, 3) := by decide +kernel
theorem dX7_next_277 : decode cX7_next 277 = .ok (.aload_n 0, 1) := by decide +kernel
theorem dX7_next_278 : decode cX7_next 278 = .ok (.getfield 93, 3) := by decide +kernel
theorem dX7_next_281 : decode cX7_next 281 = .ok (.iaload, 1) := by decide +kernel
theorem dX7_next_282 : decode cX7_next 282 = .ok (.iadd, 1) := by decide +kernel
theorem dX7_next_283 : decode cX7_next 283 = .ok (.bipush 48, 2) := by decide +kernel
theorem dX7_next_285 : decode cX7_next 285 = .ok (.isub, 1) := by decide +kernel
theorem dX7_next_286 : decode cX7_next 286 = .ok (.goto 4, 3) := by decide +kernel
theorem dX7_next_289 : decode cX7_next 289 = .ok (.iconst 0, 1) := by decide +kernel
theorem dX7_next_290 : decode cX7_next 290 = .ok (.putfield 102, 3) := by decide +kernel
theorem dX7_next_293 : decode cX7_next 293 = .ok (.iinc 2 1, 3) := by decide +kernel
theorem dX7_next_296 : decode cX7_next 296 = .ok (.aload_n 0, 1) := by decide +kernel
theorem dX7_next_297 : decode cX7_next 297 = .ok (.dup, 1) := by decide +kernel
theorem dX7_next_298 : decode cX7_next 298 = .ok (.getfield 93, 3) := by decide +kernel
theorem dX7_next_301 : decode cX7_next 301 = .ok (.iconst 1, 1) := by decide +kernel
theorem dX7_next_302 : decode cX7_next 302 = .ok (.iadd, 1) := by decide +kernel
theorem dX7_next_303 : decode cX7_next 303 = .ok (.putfield 93, 3) := by decide +kernel
theorem dX7_next_306 : decode cX7_next 306 = .ok (.goto (-76), 3) := by decide +kernel
theorem dX7_next_309 : decode cX7_next 309 = .ok (.aload_n 0, 1) := by decide +kernel
theorem dX7_next_310 : decode cX7_next 310 = .ok (.iload_n 2, 1) := by decide +kernel
theorem dX7_next_311 : decode cX7_next 311 = .ok (.iconst 4, 1) := by decide +kernel
theorem dX7_next_312 : decode cX7_next 312 = .ok (.if_icmp .le 7, 3) := by decide +kernel
theorem dX7_next_315 : decode cX7_next 315 = .ok (.iconst (-1), 1) := by decide +kernel
theorem dX7_next_316 : decode cX7_next 316 = .ok (.goto 4, 3) := by decide +kernel
theorem dX7_next_319 : decode cX7_next 319 = .ok (.iconst 1, 1) := by decide +kernel
theorem dX7_next_320 : decode cX7_next 320 = .ok (.putfield 99, 3) := by decide +kernel
theorem dX7_next_323 : decode cX7_next 323 = .ok (.goto 80, 3) := by decide +kernel
theorem dX7_next_326 : decode cX7_next 326 = .ok (.iload_n 1, 1) := by decide +kernel
theorem dX7_next_327 : decode cX7_next 327 = .ok (.bipush 40, 2) := by decide +kernel
theorem dX7_next_329 : decode cX7_next 329 = .ok (.if_icmp .eq 45, 3) := by decide +kernel
theorem dX7_next_332 : decode cX7_next 332 = .ok (.iload_n 1, 1) := by decide +kernel
theorem dX7_next_333 : decode cX7_next 333 = .ok (.bipush 41, 2) := by decide +kernel
theorem dX7_next_335 : decode cX7_next 335 = .ok (.if_icmp .eq 39, 3) := by decide +kernel
theorem dX7_next_338 : decode cX7_next 338 = .ok (.iload_n 1, 1) := by decide +kernel
theorem dX7_next_339 : decode cX7_next 339 = .ok (.bipush 59, 2) := by decide +kernel
theorem dX7_next_341 : decode cX7_next 341 = .ok (.if_icmp .eq 33, 3) := by decide +kernel
theorem dX7_next_344 : decode cX7_next 344 = .ok (.iload_n 1, 1) := by decide +kernel
theorem dX7_next_345 : decode cX7_next 345 = .ok (.bipush 43, 2) := by decide +kernel
theorem dX7_next_347 : decode cX7_next 347 = .ok (.if_icmp .eq 27, 3) := by decide +kernel
theorem dX7_next_350 : decode cX7_next 350 = .ok (.iload_n 1, 1) := by decide +kernel
theorem dX7_next_351 : decode cX7_next 351 = .ok (.bipush 45, 2) := by decide +kernel
theorem dX7_next_353 : decode cX7_next 353 = .ok (.if_icmp .eq 21, 3) := by decide +kernel
theorem dX7_next_356 : decode cX7_next 356 = .ok (.iload_n 1, 1) := by decide +kernel
theorem dX7_next_357 : decode cX7_next 357 = .ok (.bipush 42, 2) := by decide +kernel
theorem dX7_next_359 : decode cX7_next 359 = .ok (.if_icmp .eq 15, 3) := by decide +kernel
theorem dX7_next_362 : decode cX7_next 362 = .ok (.iload_n 1, 1) := by decide +kernel
theorem dX7_next_363 : decode cX7_next 363 = .ok (.bipush 60, 2) := by decide +kernel
theorem dX7_next_365 : decode cX7_next 365 = .ok (.if_icmp .eq 9, 3) := by decide +kernel
theorem dX7_next_368 : decode cX7_next 368 = .ok (.iload_n 1, 1) := by decide +kernel
theorem dX7_next_369 : decode cX7_next 369 = .ok (.bipush 61, 2) := by decide +kernel
theorem dX7_next_371 : decode cX7_next 371 = .ok (.if_icmp .ne 7, 3) := by decide +kernel
theorem dX7_next_374 : decode cX7_next 374 = .ok (.iconst 1, 1) := by decide +kernel
theorem dX7_next_375 : decode cX7_next 375 = .ok (.goto 4, 3) := by decide +kernel
theorem dX7_next_378 : decode cX7_next 378 = .ok (.iconst 0, 1) := by decide +kernel
theorem dX7_next_379 : decode cX7_next 379 = .ok (.istore_n 2, 1) := by decide +kernel
theorem dX7_next_380 : decode cX7_next 380 = .ok (.aload_n 0, 1) := by decide +kernel
theorem dX7_next_381 : decode cX7_next 381 = .ok (.iload_n 2, 1) := by decide +kernel
theorem dX7_next_382 : decode cX7_next 382 = .ok (.ifCond .eq 7, 3) := by decide +kernel
theorem dX7_next_385 : decode cX7_next 385 = .ok (.iload_n 1, 1) := by decide +kernel
theorem dX7_next_386 : decode cX7_next 386 = .ok (.goto 4, 3) := by decide +kernel
theorem dX7_next_389 : decode cX7_next 389 = .ok (.iconst (-1), 1) := by decide +kernel
theorem dX7_next_390 : decode cX7_next 390 = .ok (.putfield 99, 3) := by decide +kernel
theorem dX7_next_393 : decode cX7_next 393 = .ok (.aload_n 0, 1) := by decide +kernel
theorem dX7_next_394 : decode cX7_next 394 = .ok (.dup, 1) := by decide +kernel
theorem dX7_next_395 : decode cX7_next 395 = .ok (.getfield 93, 3) := by decide +kernel
theorem dX7_next_398 : decode cX7_next 398 = .ok (.iconst 1, 1) := by decide +kernel
theorem dX7_next_399 : decode cX7_next 399 = .ok (.iadd, 1) := by decide +kernel
theorem dX7_next_400 : decode cX7_next 400 = .ok (.putfield 93, 3) := by decide +kernel
theorem dX7_next_403 : decode cX7_next 403 = .ok (.return_, 1) := by decide +kernel
theorem dX7_rank_0 : decode cX7_rank 0 = .ok (.iload_n 0, 1) := by decide +kernel
theorem dX7_rank_1 : decode cX7_rank 1 = .ok (.ifCond .ne 7, 3) := by decide +kernel
theorem dX7_rank_4 : decode cX7_rank 4 = .ok (.iconst 0, 1) := by decide +kernel
theorem dX7_rank_5 : decode cX7_rank 5 = .ok (.goto 66, 3) := by decide +kernel
theorem dX7_rank_8 : decode cX7_rank 8 = .ok (.iload_n 0, 1) := by decide +kernel
theorem dX7_rank_9 : decode cX7_rank 9 = .ok (.bipush 11, 2) := by decide +kernel
theorem dX7_rank_11 : decode cX7_rank 11 = .ok (.if_icmp .ne 7, 3) := by decide +kernel
theorem dX7_rank_14 : decode cX7_rank 14 = .ok (.iconst 1, 1) := by decide +kernel
theorem dX7_rank_15 : decode cX7_rank 15 = .ok (.goto 56, 3) := by decide +kernel
theorem dX7_rank_18 : decode cX7_rank 18 = .ok (.iload_n 0, 1) := by decide +kernel
theorem dX7_rank_19 : decode cX7_rank 19 = .ok (.bipush 12, 2) := by decide +kernel
theorem dX7_rank_21 : decode cX7_rank 21 = .ok (.if_icmp .ne 7, 3) := by decide +kernel
theorem dX7_rank_24 : decode cX7_rank 24 = .ok (.iconst 2, 1) := by decide +kernel
theorem dX7_rank_25 : decode cX7_rank 25 = .ok (.goto 46, 3) := by decide +kernel
theorem dX7_rank_28 : decode cX7_rank 28 = .ok (.iload_n 0, 1) := by decide +kernel
theorem dX7_rank_29 : decode cX7_rank 29 = .ok (.bipush 13, 2) := by decide +kernel
theorem dX7_rank_31 : decode cX7_rank 31 = .ok (.if_icmp .ne 7, 3) := by decide +kernel
theorem dX7_rank_34 : decode cX7_rank 34 = .ok (.iconst 3, 1) := by decide +kernel
theorem dX7_rank_35 : decode cX7_rank 35 = .ok (.goto 36, 3) := by decide +kernel
theorem dX7_rank_38 : decode cX7_rank 38 = .ok (.iload_n 0, 1) := by decide +kernel
theorem dX7_rank_39 : decode cX7_rank 39 = .ok (.bipush 15, 2) := by decide +kernel
theorem dX7_rank_41 : decode cX7_rank 41 = .ok (.if_icmp .gt 7, 3) := by decide +kernel
theorem dX7_rank_44 : decode cX7_rank 44 = .ok (.iconst 4, 1) := by decide +kernel
theorem dX7_rank_45 : decode cX7_rank 45 = .ok (.goto 26, 3) := by decide +kernel
theorem dX7_rank_48 : decode cX7_rank 48 = .ok (.iload_n 0, 1) := by decide +kernel
theorem dX7_rank_49 : decode cX7_rank 49 = .ok (.bipush 17, 2) := by decide +kernel
theorem dX7_rank_51 : decode cX7_rank 51 = .ok (.if_icmp .gt 7, 3) := by decide +kernel
theorem dX7_rank_54 : decode cX7_rank 54 = .ok (.iconst 5, 1) := by decide +kernel
theorem dX7_rank_55 : decode cX7_rank 55 = .ok (.goto 16, 3) := by decide +kernel
theorem dX7_rank_58 : decode cX7_rank 58 = .ok (.iload_n 0, 1) := by decide +kernel
theorem dX7_rank_59 : decode cX7_rank 59 = .ok (.bipush 18, 2) := by decide +kernel
theorem dX7_rank_61 : decode cX7_rank 61 = .ok (.if_icmp .ne 8, 3) := by decide +kernel
theorem dX7_rank_64 : decode cX7_rank 64 = .ok (.bipush 6, 2) := by decide +kernel
theorem dX7_rank_66 : decode cX7_rank 66 = .ok (.goto 5, 3) := by decide +kernel
theorem dX7_rank_69 : decode cX7_rank 69 = .ok (.bipush 7, 2) := by decide +kernel
theorem dX7_rank_71 : decode cX7_rank 71 = .ok (.ireturn, 1) := by decide +kernel
theorem dX7_puts_0 : decode cX7_puts 0 = .ok (.aload_n 0, 1) := by decide +kernel
theorem dX7_puts_1 : decode cX7_puts 1 = .ok (.getfield 29, 3) := by decide +kernel
theorem dX7_puts_4 : decode cX7_puts 4 = .ok (.sipush 200, 3) := by decide +kernel
theorem dX7_puts_7 : decode cX7_puts 7 = .ok (.aload_n 0, 1) := by decide +kernel
theorem dX7_puts_8 : decode cX7_puts 8 = .ok (.getfield 80, 3) := by decide +kernel
theorem dX7_puts_11 : decode cX7_puts 11 = .ok (.imul, 1) := by decide +kernel
theorem dX7_puts_12 : decode cX7_puts 12 = .ok (.aload_n 0, 1) := by decide +kernel
theorem dX7_puts_13 : decode cX7_puts 13 = .ok (.getfield 109, 3) := by decide +kernel
theorem dX7_puts_16 : decode cX7_puts 16 = .ok (.iadd, 1) := by decide +kernel
theorem dX7_puts_17 : decode cX7_puts 17 = .ok (.iload_n 1, 1) := by decide +kernel
theorem dX7_puts_18 : decode cX7_puts 18 = .ok (.iastore, 1) := by decide +kernel
theorem dX7_puts_19 : decode cX7_puts 19 = .ok (.aload_n 0, 1) := by decide +kernel
theorem dX7_puts_20 : decode cX7_puts 20 = .ok (.dup, 1) := by decide +kernel
theorem dX7_puts_21 : decode cX7_puts 21 = .ok (.getfield 109, 3) := by decide +kernel
theorem dX7_puts_24 : decode cX7_puts 24 = .ok (.iconst 1, 1) := by decide +kernel
theorem dX7_puts_25 : decode cX7_puts 25 = .ok (.iadd, 1) := by decide +kernel
theorem dX7_puts_26 : decode cX7_puts 26 = .ok (.putfield 109, 3) := by decide +kernel
theorem dX7_puts_29 : decode cX7_puts 29 = .ok (.return_, 1) := by decide +kernel
theorem dX7_unwinds_0 : decode cX7_unwinds 0 = .ok (.aload_n 0, 1) := by decide +kernel
theorem dX7_unwinds_1 : decode cX7_unwinds 1 = .ok (.getfield 112, 3) := by decide +kernel
theorem dX7_unwinds_4 : decode cX7_unwinds 4 = .ok (.ifCond .le 75, 3) := by decide +kernel
theorem dX7_unwinds_7 : decode cX7_unwinds 7 = .ok (.aload_n 0, 1) := by decide +kernel
theorem dX7_unwinds_8 : decode cX7_unwinds 8 = .ok (.getfield 53, 3) := by decide +kernel
theorem dX7_unwinds_11 : decode cX7_unwinds 11 = .ok (.aload_n 0, 1) := by decide +kernel
theorem dX7_unwinds_12 : decode cX7_unwinds 12 = .ok (.getfield 112, 3) := by decide +kernel
theorem dX7_unwinds_15 : decode cX7_unwinds 15 = .ok (.iconst 1, 1) := by decide +kernel
theorem dX7_unwinds_16 : decode cX7_unwinds 16 = .ok (.isub, 1) := by decide +kernel
theorem dX7_unwinds_17 : decode cX7_unwinds 17 = .ok (.iaload, 1) := by decide +kernel
theorem dX7_unwinds_18 : decode cX7_unwinds 18 = .ok (.invokestatic 115, 3) := by decide +kernel
theorem dX7_unwinds_21 : decode cX7_unwinds 21 = .ok (.iload_n 1, 1) := by decide +kernel
theorem dX7_unwinds_22 : decode cX7_unwinds 22 = .ok (.if_icmp .lt 57, 3) := by decide +kernel
theorem dX7_unwinds_25 : decode cX7_unwinds 25 = .ok (.aload_n 0, 1) := by decide +kernel
theorem dX7_unwinds_26 : decode cX7_unwinds 26 = .ok (.dup, 1) := by decide +kernel
theorem dX7_unwinds_27 : decode cX7_unwinds 27 = .ok (.getfield 112, 3) := by decide +kernel
theorem dX7_unwinds_30 : decode cX7_unwinds 30 = .ok (.iconst 1, 1) := by decide +kernel
theorem dX7_unwinds_31 : decode cX7_unwinds 31 = .ok (.isub, 1) := by decide +kernel
theorem dX7_unwinds_32 : decode cX7_unwinds 32 = .ok (.putfield 112, 3) := by decide +kernel
theorem dX7_unwinds_35 : decode cX7_unwinds 35 = .ok (.aload_n 0, 1) := by decide +kernel
theorem dX7_unwinds_36 : decode cX7_unwinds 36 = .ok (.getfield 53, 3) := by decide +kernel
theorem dX7_unwinds_39 : decode cX7_unwinds 39 = .ok (.aload_n 0, 1) := by decide +kernel
theorem dX7_unwinds_40 : decode cX7_unwinds 40 = .ok (.getfield 112, 3) := by decide +kernel
theorem dX7_unwinds_43 : decode cX7_unwinds 43 = .ok (.iaload, 1) := by decide +kernel
theorem dX7_unwinds_44 : decode cX7_unwinds 44 = .ok (.istore_n 2, 1) := by decide +kernel
theorem dX7_unwinds_45 : decode cX7_unwinds 45 = .ok (.aload_n 0, 1) := by decide +kernel
theorem dX7_unwinds_46 : decode cX7_unwinds 46 = .ok (.dup, 1) := by decide +kernel
theorem dX7_unwinds_47 : decode cX7_unwinds 47 = .ok (.getfield 119, 3) := by decide +kernel
theorem dX7_unwinds_50 : decode cX7_unwinds 50 = .ok (.iload_n 2, 1) := by decide +kernel
theorem dX7_unwinds_51 : decode cX7_unwinds 51 = .ok (.bipush 13, 2) := by decide +kernel
theorem dX7_unwinds_53 : decode cX7_unwinds 53 = .ok (.if_icmp .eq 9, 3) := by decide +kernel
theorem dX7_unwinds_56 : decode cX7_unwinds 56 = .ok (.iload_n 2, 1) := by decide +kernel
