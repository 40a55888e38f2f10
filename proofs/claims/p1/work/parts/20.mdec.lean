theorem dX12_init_0 : decode cX12_init 0 = .ok (.aload_n 0, 1) := by decide +kernel
theorem dX12_init_1 : decode cX12_init 1 = .ok (.invokespecial 1, 3) := by decide +kernel
theorem dX12_init_4 : decode cX12_init 4 = .ok (.aload_n 0, 1) := by decide +kernel
theorem dX12_init_5 : decode cX12_init 5 = .ok (.iconst 4, 1) := by decide +kernel
theorem dX12_init_6 : decode cX12_init 6 = .ok (.newarray .int, 2) := by decide +kernel
theorem dX12_init_8 : decode cX12_init 8 = .ok (.dup, 1) := by decide +kernel
theorem dX12_init_9 : decode cX12_init 9 = .ok (.iconst 0, 1) := by decide +kernel
theorem dX12_init_10 : decode cX12_init 10 = .ok (.iconst 1, 1) := by decide +kernel
theorem dX12_init_11 : decode cX12_init 11 = .ok (.iastore, 1) := by decide +kernel
theorem dX12_init_12 : decode cX12_init 12 = .ok (.dup, 1) := by decide +kernel
theorem dX12_init_13 : decode cX12_init 13 = .ok (.iconst 1, 1) := by decide +kernel
theorem dX12_init_14 : decode cX12_init 14 = .ok (.iconst 2, 1) := by decide +kernel
theorem dX12_init_15 : decode cX12_init 15 = .ok (.iastore, 1) := by decide +kernel
theorem dX12_init_16 : decode cX12_init 16 = .ok (.dup, 1) := by decide +kernel
theorem dX12_init_17 : decode cX12_init 17 = .ok (.iconst 2, 1) := by decide +kernel
theorem dX12_init_18 : decode cX12_init 18 = .ok (.iconst 3, 1) := by decide +kernel
theorem dX12_init_19 : decode cX12_init 19 = .ok (.iastore, 1) := by decide +kernel
theorem dX12_init_20 : decode cX12_init 20 = .ok (.dup, 1) := by decide +kernel
theorem dX12_init_21 : decode cX12_init 21 = .ok (.iconst 3, 1) := by decide +kernel
theorem dX12_init_22 : decode cX12_init 22 = .ok (.iconst 4, 1) := by decide +kernel
theorem dX12_init_23 : decode cX12_init 23 = .ok (.iastore, 1) := by decide +kernel
theorem dX12_init_24 : decode cX12_init 24 = .ok (.putfield 7, 3) := by decide +kernel
theorem dX12_init_27 : decode cX12_init 27 = .ok (.aload_n 0, 1) := by decide +kernel
theorem dX12_init_28 : decode cX12_init 28 = .ok (.iconst 4, 1) := by decide +kernel
theorem dX12_init_29 : decode cX12_init 29 = .ok (.newarray .int, 2) := by decide +kernel
theorem dX12_init_31 : decode cX12_init 31 = .ok (.dup, 1) := by decide +kernel
theorem dX12_init_32 : decode cX12_init 32 = .ok (.iconst 0, 1) := by decide +kernel
theorem dX12_init_33 : decode cX12_init 33 = .ok (.iconst 0, 1) := by decide +kernel
theorem dX12_init_34 : decode cX12_init 34 = .ok (.iastore, 1) := by decide +kernel
theorem dX12_init_35 : decode cX12_init 35 = .ok (.dup, 1) := by decide +kernel
theorem dX12_init_36 : decode cX12_init 36 = .ok (.iconst 1, 1) := by decide +kernel
theorem dX12_init_37 : decode cX12_init 37 = .ok (.iconst 1, 1) := by decide +kernel
theorem dX12_init_38 : decode cX12_init 38 = .ok (.iastore, 1) := by decide +kernel
theorem dX12_init_39 : decode cX12_init 39 = .ok (.dup, 1) := by decide +kernel
theorem dX12_init_40 : decode cX12_init 40 = .ok (.iconst 2, 1) := by decide +kernel
theorem dX12_init_41 : decode cX12_init 41 = .ok (.iconst 2, 1) := by decide +kernel
theorem dX12_init_42 : decode cX12_init 42 = .ok (.iastore, 1) := by decide +kernel
theorem dX12_init_43 : decode cX12_init 43 = .ok (.dup, 1) := by decide +kernel
theorem dX12_init_44 : decode cX12_init 44 = .ok (.iconst 3, 1) := by decide +kernel
theorem dX12_init_45 : decode cX12_init 45 = .ok (.iconst 3, 1) := by decide +kernel
theorem dX12_init_46 : decode cX12_init 46 = .ok (.iastore, 1) := by decide +kernel
theorem dX12_init_47 : decode cX12_init 47 = .ok (.putfield 13, 3) := by decide +kernel
theorem dX12_init_50 : decode cX12_init 50 = .ok (.aload_n 0, 1) := by decide +kernel
theorem dX12_init_51 : decode cX12_init 51 = .ok (.iconst 4, 1) := by decide +kernel
theorem dX12_init_52 : decode cX12_init 52 = .ok (.newarray .int, 2) := by decide +kernel
theorem dX12_init_54 : decode cX12_init 54 = .ok (.putfield 16, 3) := by decide +kernel
theorem dX12_init_57 : decode cX12_init 57 = .ok (.aload_n 0, 1) := by decide +kernel
theorem dX12_init_58 : decode cX12_init 58 = .ok (.iconst 4, 1) := by decide +kernel
theorem dX12_init_59 : decode cX12_init 59 = .ok (.newarray .int, 2) := by decide +kernel
theorem dX12_init_61 : decode cX12_init 61 = .ok (.putfield 19, 3) := by decide +kernel
theorem dX12_init_64 : decode cX12_init 64 = .ok (.aload_n 0, 1) := by decide +kernel
theorem dX12_init_65 : decode cX12_init 65 = .ok (.iconst 4, 1) := by decide +kernel
theorem dX12_init_66 : decode cX12_init 66 = .ok (.newarray .int, 2) := by decide +kernel
theorem dX12_init_68 : decode cX12_init 68 = .ok (.putfield 22, 3) := by decide +kernel
theorem dX12_init_71 : decode cX12_init 71 = .ok (.aload_n 0, 1) := by decide +kernel
theorem dX12_init_72 : decode cX12_init 72 = .ok (.iconst 4, 1) := by decide +kernel
theorem dX12_init_73 : decode cX12_init 73 = .ok (.newarray .int, 2) := by decide +kernel
theorem dX12_init_75 : decode cX12_init 75 = .ok (.putfield 25, 3) := by decide +kernel
theorem dX12_init_78 : decode cX12_init 78 = .ok (.aload_n 0, 1) := by decide +kernel
theorem dX12_init_79 : decode cX12_init 79 = .ok (.iconst 4, 1) := by decide +kernel
theorem dX12_init_80 : decode cX12_init 80 = .ok (.newarray .int, 2) := by decide +kernel
theorem dX12_init_82 : decode cX12_init 82 = .ok (.putfield 28, 3) := by decide +kernel
theorem dX12_init_85 : decode cX12_init 85 = .ok (.aload_n 0, 1) := by decide +kernel
theorem dX12_init_86 : decode cX12_init 86 = .ok (.sipush 16000, 3) := by decide +kernel
theorem dX12_init_89 : decode cX12_init 89 = .ok (.newarray .int, 2) := by decide +kernel
theorem dX12_init_91 : decode cX12_init 91 = .ok (.putfield 31, 3) := by decide +kernel
theorem dX12_init_94 : decode cX12_init 94 = .ok (.aload_n 0, 1) := by decide +kernel
theorem dX12_init_95 : decode cX12_init 95 = .ok (.sipush 4000, 3) := by decide +kernel
theorem dX12_init_98 : decode cX12_init 98 = .ok (.newarray .int, 2) := by decide +kernel
theorem dX12_init_100 : decode cX12_init 100 = .ok (.putfield 34, 3) := by decide +kernel
theorem dX12_init_103 : decode cX12_init 103 = .ok (.aload_n 0, 1) := by decide +kernel
theorem dX12_init_104 : decode cX12_init 104 = .ok (.sipush 1000, 3) := by decide +kernel
theorem dX12_init_107 : decode cX12_init 107 = .ok (.newarray .int, 2) := by decide +kernel
theorem dX12_init_109 : decode cX12_init 109 = .ok (.putfield 37, 3) := by decide +kernel
theorem dX12_init_112 : decode cX12_init 112 = .ok (.aload_n 0, 1) := by decide +kernel
theorem dX12_init_113 : decode cX12_init 113 = .ok (.bipush 80, 2) := by decide +kernel
theorem dX12_init_115 : decode cX12_init 115 = .ok (.newarray .int, 2) := by decide +kernel
theorem dX12_init_117 : decode cX12_init 117 = .ok (.putfield 40, 3) := by decide +kernel
theorem dX12_init_120 : decode cX12_init 120 = .ok (.aload_n 0, 1) := by decide +kernel
theorem dX12_init_121 : decode cX12_init 121 = .ok (.sipush 180, 3) := by decide +kernel
theorem dX12_init_124 : decode cX12_init 124 = .ok (.newarray .int, 2) := by decide +kernel
theorem dX12_init_126 : decode cX12_init 126 = .ok (.putfield 43, 3) := by decide +kernel
theorem dX12_init_129 : decode cX12_init 129 = .ok (.aload_n 0, 1) := by decide +kernel
theorem dX12_init_130 : decode cX12_init 130 = .ok (.iconst 4, 1) := by decide +kernel
theorem dX12_init_131 : decode cX12_init 131 = .ok (.newarray .boolean, 2) := by decide +kernel
theorem dX12_init_133 : decode cX12_init 133 = .ok (.putfield 46, 3) := by decide +kernel
theorem dX12_init_136 : decode cX12_init 136 = .ok (.aload_n 0, 1) := by decide +kernel
theorem dX12_init_137 : decode cX12_init 137 = .ok (.iconst 4, 1) := by decide +kernel
theorem dX12_init_138 : decode cX12_init 138 = .ok (.newarray .boolean, 2) := by decide +kernel
theorem dX12_init_140 : decode cX12_init 140 = .ok (.putfield 50, 3) := by decide +kernel
theorem dX12_init_143 : decode cX12_init 143 = .ok (.aload_n 0, 1) := by decide +kernel
theorem dX12_init_144 : decode cX12_init 144 = .ok (.iconst 4, 1) := by decide +kernel
theorem dX12_init_145 : decode cX12_init 145 = .ok (.newarray .int, 2) := by decide +kernel
theorem dX12_init_147 : decode cX12_init 147 = .ok (.putfield 53, 3) := by decide +kernel
theorem dX12_init_150 : decode cX12_init 150 = .ok (.aload_n 0, 1) := by decide +kernel
theorem dX12_init_151 : decode cX12_init 151 = .ok (.sipush 300, 3) := by decide +kernel
theorem dX12_init_154 : decode cX12_init 154 = .ok (.newarray .int, 2) := by decide +kernel
theorem dX12_init_156 : decode cX12_init 156 = .ok (.putfield 56, 3) := by decide +kernel
theorem dX12_init_159 : decode cX12_init 159 = .ok (.aload_n 0, 1) := by decide +kernel
theorem dX12_init_160 : decode cX12_init 160 = .ok (.iconst 4, 1) := by decide +kernel
theorem dX12_init_161 : decode cX12_init 161 = .ok (.newarray .int, 2) := by decide +kernel
theorem dX12_init_163 : decode cX12_init 163 = .ok (.putfield 59, 3) := by decide +kernel
theorem dX12_init_166 : decode cX12_init 166 = .ok (.aload_n 0, 1) := by decide +kernel
theorem dX12_init_167 : decode cX12_init 167 = .ok (.iconst 4, 1) := by decide +kernel
theorem dX12_init_168 : decode cX12_init 168 = .ok (.newarray .int, 2) := by decide +kernel
theorem dX12_init_170 : decode cX12_init 170 = .ok (.putfield 62, 3) := by decide +kernel
theorem dX12_init_173 : decode cX12_init 173 = .ok (.aload_n 0, 1) := by decide +kernel
theorem dX12_init_174 : decode cX12_init 174 = .ok (.iconst 4, 1) := by decide +kernel
theorem dX12_init_175 : decode cX12_init 175 = .ok (.newarray .int, 2) := by decide +kernel
theorem dX12_init_177 : decode cX12_init 177 = .ok (.dup, 1) := by decide +kernel
theorem dX12_init_178 : decode cX12_init 178 = .ok (.iconst 0, 1) := by decide +kernel
theorem dX12_init_179 : decode cX12_init 179 = .ok (.iconst (-1), 1) := by decide +kernel
theorem dX12_init_180 : decode cX12_init 180 = .ok (.iastore, 1) := by decide +kernel
theorem dX12_init_181 : decode cX12_init 181 = .ok (.dup, 1) := by decide +kernel
theorem dX12_init_182 : decode cX12_init 182 = .ok (.iconst 1, 1) := by decide +kernel
theorem dX12_init_183 : decode cX12_init 183 = .ok (.iconst (-1), 1) := by decide +kernel
theorem dX12_init_184 : decode cX12_init 184 = .ok (.iastore, 1) := by decide +kernel
theorem dX12_init_185 : decode cX12_init 185 = .ok (.dup, 1) := by decide +kernel
theorem dX12_init_186 : decode cX12_init 186 = .ok (.iconst 2, 1) := by decide +kernel
theorem dX12_init_187 : decode cX12_init 187 = .ok (.iconst (-1), 1) := by decide +kernel
theorem dX12_init_188 : decode cX12_init 188 = .ok (.iastore, 1) := by decide +kernel
theorem dX12_init_189 : decode cX12_init 189 = .ok (.dup, 1) := by decide +kernel
theorem dX12_init_190 : decode cX12_init 190 = .ok (.iconst 3, 1) := by decide +kernel
theorem dX12_init_191 : decode cX12_init 191 = .ok (.iconst (-1), 1) := by decide +kernel
theorem dX12_init_192 : decode cX12_init 192 = .ok (.iastore, 1) := by decide +kernel
theorem dX12_init_193 : decode cX12_init 193 = .ok (.putfield 65, 3) := by decide +kernel
theorem dX12_init_196 : decode cX12_init 196 = .ok (.aload_n 0, 1) := by decide +kernel
theorem dX12_init_197 : decode cX12_init 197 = .ok (.iconst 4, 1) := by decide +kernel
theorem dX12_init_198 : decode cX12_init 198 = .ok (.newarray .int, 2) := by decide +kernel
theorem dX12_init_200 : decode cX12_init 200 = .ok (.putfield 68, 3) := by decide +kernel
theorem dX12_init_203 : decode cX12_init 203 = .ok (.aload_n 0, 1) := by decide +kernel
theorem dX12_init_204 : decode cX12_init 204 = .ok (.iconst 4, 1) := by decide +kernel
theorem dX12_init_205 : decode cX12_init 205 = .ok (.newarray .int, 2) := by decide +kernel
theorem dX12_init_207 : decode cX12_init 207 = .ok (.putfield 71, 3) := by decide +kernel
theorem dX12_init_210 : decode cX12_init 210 = .ok (.aload_n 0, 1) := by decide +kernel
theorem dX12_init_211 : decode cX12_init 211 = .ok (.iconst 4, 1) := by decide +kernel
theorem dX12_init_212 : decode cX12_init 212 = .ok (.newarray .int, 2) := by decide +kernel
theorem dX12_init_214 : decode cX12_init 214 = .ok (.putfield 74, 3) := by decide +kernel
theorem dX12_init_217 : decode cX12_init 217 = .ok (.aload_n 0, 1) := by decide +kernel
theorem dX12_init_218 : decode cX12_init 218 = .ok (.iconst 4, 1) := by decide +kernel
theorem dX12_init_219 : decode cX12_init 219 = .ok (.newarray .int, 2) := by decide +kernel
theorem dX12_init_221 : decode cX12_init 221 = .ok (.putfield 77, 3) := by decide +kernel
theorem dX12_init_224 : decode cX12_init 224 = .ok (.aload_n 0, 1) := by decide +kernel
theorem dX12_init_225 : decode cX12_init 225 = .ok (.bipush 32, 2) := by decide +kernel
theorem dX12_init_227 : decode cX12_init 227 = .ok (.newarray .int, 2) := by decide +kernel
theorem dX12_init_229 : decode cX12_init 229 = .ok (.putfield 80, 3) := by decide +kernel
theorem dX12_init_232 : decode cX12_init 232 = .ok (.aload_n 0, 1) := by decide +kernel
theorem dX12_init_233 : decode cX12_init 233 = .ok (.iconst 4, 1) := by decide +kernel
theorem dX12_init_234 : decode cX12_init 234 = .ok (.newarray .boolean, 2) := by decide +kernel
theorem dX12_init_236 : decode cX12_init 236 = .ok (.putfield 83, 3) := by decide +kernel
theorem dX12_init_239 : decode cX12_init 239 = .ok (.aload_n 0, 1) := by decide +kernel
theorem dX12_init_240 : decode cX12_init 240 = .ok (.iconst 4, 1) := by decide +kernel
theorem dX12_init_241 : decode cX12_init 241 = .ok (.newarray .boolean, 2) := by decide +kernel
theorem dX12_init_243 : decode cX12_init 243 = .ok (.putfield 86, 3) := by decide +kernel
theorem dX12_init_246 : decode cX12_init 246 = .ok (.aload_n 0, 1) := by decide +kernel
theorem dX12_init_247 : decode cX12_init 247 = .ok (.iconst 4, 1) := by decide +kernel
theorem dX12_init_248 : decode cX12_init 248 = .ok (.newarray .boolean, 2) := by decide +kernel
theorem dX12_init_250 : decode cX12_init 250 = .ok (.putfield 89, 3) := by decide +kernel
theorem dX12_init_253 : decode cX12_init 253 = .ok (.aload_n 0, 1) := by decide +kernel
theorem dX12_init_254 : decode cX12_init 254 = .ok (.iconst 4, 1) := by decide +kernel
theorem dX12_init_255 : decode cX12_init 255 = .ok (.newarray .boolean, 2) := by decide +kernel
theorem dX12_init_257 : decode cX12_init 257 = .ok (.putfield 92, 3) := by decide +kernel
theorem dX12_init_260 : decode cX12_init 260 = .ok (.aload_n 0, 1) := by decide +kernel
theorem dX12_init_261 : decode cX12_init 261 = .ok (.iconst 4, 1) := by decide +kernel
theorem dX12_init_262 : decode cX12_init 262 = .ok (.newarray .boolean, 2) := by decide +kernel
theorem dX12_init_264 : decode cX12_init 264 = .ok (.putfield 95, 3) := by decide +kernel
theorem dX12_init_267 : decode cX12_init 267 = .ok (.aload_n 0, 1) := by decide +kernel
theorem dX12_init_268 : decode cX12_init 268 = .ok (.iconst 4, 1) := by decide +kernel
theorem dX12_init_269 : decode cX12_init 269 = .ok (.newarray .boolean, 2) := by decide +kernel
theorem dX12_init_271 : decode cX12_init 271 = .ok (.putfield 98, 3) := by decide +kernel
theorem dX12_init_274 : decode cX12_init 274 = .ok (.aload_n 0, 1) := by decide +kernel
theorem dX12_init_275 : decode cX12_init 275 = .ok (.iconst 4, 1) := by decide +kernel
theorem dX12_init_276 : decode cX12_init 276 = .ok (.newarray .int, 2) := by decide +kernel
theorem dX12_init_278 : decode cX12_init 278 = .ok (.putfield 101, 3) := by decide +kernel
theorem dX12_init_281 : decode cX12_init 281 = .ok (.aload_n 0, 1) := by decide +kernel
theorem dX12_init_282 : decode cX12_init 282 = .ok (.iconst 4, 1) := by decide +kernel
theorem dX12_init_283 : decode cX12_init 283 = .ok (.newarray .int, 2) := by decide +kernel
theorem dX12_init_285 : decode cX12_init 285 = .ok (.putfield 104, 3) := by decide +kernel
theorem dX12_init_288 : decode cX12_init 288 = .ok (.aload_n 0, 1) := by decide +kernel
theorem dX12_init_289 : decode cX12_init 289 = .ok (.iconst 4, 1) := by decide +kernel
theorem dX12_init_290 : decode cX12_init 290 = .ok (.newarray .int, 2) := by decide +kernel
theorem dX12_init_292 : decode cX12_init 292 = .ok (.putfield 107, 3) := by decide +kernel
theorem dX12_init_295 : decode cX12_init 295 = .ok (.aload_n 0, 1) := by decide +kernel
theorem dX12_init_296 : decode cX12_init 296 = .ok (.iconst 4, 1) := by decide +kernel
theorem dX12_init_297 : decode cX12_init 297 = .ok (.newarray .int, 2) := by decide +kernel
theorem dX12_init_299 : decode cX12_init 299 = .ok (.putfield 110, 3) := by decide +kernel
theorem dX12_init_302 : decode cX12_init 302 = .ok (.aload_n 0, 1) := by decide +kernel
theorem dX12_init_303 : decode cX12_init 303 = .ok (.iconst 4, 1) := by decide +kernel
theorem dX12_init_304 : decode cX12_init 304 = .ok (.newarray .int, 2) := by decide +kernel
theorem dX12_init_306 : decode cX12_init 306 = .ok (.putfield 113, 3) := by decide +kernel
theorem dX12_init_309 : decode cX12_init 309 = .ok (.aload_n 0, 1) := by decide +kernel
theorem dX12_init_310 : decode cX12_init 310 = .ok (.iconst 4, 1) := by decide +kernel
theorem dX12_init_311 : decode cX12_init 311 = .ok (.newarray .int, 2) := by decide +kernel
theorem dX12_init_313 : decode cX12_init 313 = .ok (.putfield 116, 3) := by decide +kernel
theorem dX12_init_316 : decode cX12_init 316 = .ok (.aload_n 0, 1) := by decide +kernel
theorem dX12_init_317 : decode cX12_init 317 = .ok (.iconst 4, 1) := by decide +kernel
theorem dX12_init_318 : decode cX12_init 318 = .ok (.newarray .int, 2) := by decide +kernel
theorem dX12_init_320 : decode cX12_init 320 = .ok (.putfield 119, 3) := by decide +kernel
theorem dX12_init_323 : decode cX12_init 323 = .ok (.aload_n 0, 1) := by decide +kernel
theorem dX12_init_324 : decode cX12_init 324 = .ok (.iconst 4, 1) := by decide +kernel
theorem dX12_init_325 : decode cX12_init 325 = .ok (.newarray .int, 2) := by decide +kernel
theorem dX12_init_327 : decode cX12_init 327 = .ok (.putfield 122, 3) := by decide +kernel
theorem dX12_init_330 : decode cX12_init 330 = .ok (.aload_n 0, 1) := by decide +kernel
theorem dX12_init_331 : decode cX12_init 331 = .ok (.bipush 96, 2) := by decide +kernel
theorem dX12_init_333 : decode cX12_init 333 = .ok (.newarray .int, 2) := by decide +kernel
theorem dX12_init_335 : decode cX12_init 335 = .ok (.putfield 125, 3) := by decide +kernel
theorem dX12_init_338 : decode cX12_init 338 = .ok (.aload_n 0, 1) := by decide +kernel
theorem dX12_init_339 : decode cX12_init 339 = .ok (.sipush 3072, 3) := by decide +kernel
theorem dX12_init_342 : decode cX12_init 342 = .ok (.newarray .int, 2) := by decide +kernel
theorem dX12_init_344 : decode cX12_init 344 = .ok (.putfield 128, 3) := by decide +kernel
theorem dX12_init_347 : decode cX12_init 347 = .ok (.aload_n 0, 1) := by decide +kernel
theorem dX12_init_348 : decode cX12_init 348 = .ok (.iconst 4, 1) := by decide +kernel
theorem dX12_init_349 : decode cX12_init 349 = .ok (.newarray .int, 2) := by decide +kernel
theorem dX12_init_351 : decode cX12_init 351 = .ok (.putfield 131, 3) := by decide +kernel
theorem dX12_init_354 : decode cX12_init 354 = .ok (.aload_n 0, 1) := by decide +kernel
theorem dX12_init_355 : decode cX12_init 355 = .ok (.iconst 4, 1) := by decide +kernel
theorem dX12_init_356 : decode cX12_init 356 = .ok (.newarray .int, 2) := by decide +kernel
theorem dX12_init_358 : decode cX12_init 358 = .ok (.putfield 134, 3) := by decide +kernel
theorem dX12_init_361 : decode cX12_init 361 = .ok (.aload_n 0, 1) := by decide +kernel
theorem dX12_init_362 : decode cX12_init 362 = .ok (.iconst 4, 1) := by decide +kernel
theorem dX12_init_363 : decode cX12_init 363 = .ok (.newarray .int, 2) := by decide +kernel
theorem dX12_init_365 : decode cX12_init 365 = .ok (.putfield 137, 3) := by decide +kernel
theorem dX12_init_368 : decode cX12_init 368 = .ok (.aload_n 0, 1) := by decide +kernel
theorem dX12_init_369 : decode cX12_init 369 = .ok (.iconst 4, 1) := by decide +kernel
theorem dX12_init_370 : decode cX12_init 370 = .ok (.newarray .int, 2) := by decide +kernel
theorem dX12_init_372 : decode cX12_init 372 = .ok (.putfield 140, 3) := by decide +kernel
theorem dX12_init_375 : decode cX12_init 375 = .ok (.aload_n 0, 1) := by decide +kernel
theorem dX12_init_376 : decode cX12_init 376 = .ok (.iconst 4, 1) := by decide +kernel
theorem dX12_init_377 : decode cX12_init 377 = .ok (.newarray .int, 2) := by decide +kernel
theorem dX12_init_379 : decode cX12_init 379 = .ok (.putfield 143, 3) := by decide +kernel
theorem dX12_init_382 : decode cX12_init 382 = .ok (.aload_n 0, 1) := by decide +kernel
theorem dX12_init_383 : decode cX12_init 383 = .ok (.bipush 32, 2) := by decide +kernel
theorem dX12_init_385 : decode cX12_init 385 = .ok (.newarray .int, 2) := by decide +kernel
theorem dX12_init_387 : decode cX12_init 387 = .ok (.putfield 146, 3) := by decide +kernel
theorem dX12_init_390 : decode cX12_init 390 = .ok (.aload_n 0, 1) := by decide +kernel
theorem dX12_init_391 : decode cX12_init 391 = .ok (.sipush 1920, 3) := by decide +kernel
theorem dX12_init_394 : decode cX12_init 394 = .ok (.newarray .int, 2) := by decide +kernel
theorem dX12_init_396 : decode cX12_init 396 = .ok (.putfield 149, 3) := by decide +kernel
theorem dX12_init_399 : decode cX12_init 399 = .ok (.aload_n 0, 1) := by decide +kernel
theorem dX12_init_400 : decode cX12_init 400 = .ok (.iconst 4, 1) := by decide +kernel
theorem dX12_init_401 : decode cX12_init 401 = .ok (.newarray .int, 2) := by decide +kernel
theorem dX12_init_403 : decode cX12_init 403 = .ok (.putfield 152, 3) := by decide +kernel
theorem dX12_init_406 : decode cX12_init 406 = .ok (.aload_n 0, 1) := by decide +kernel
theorem dX12_init_407 : decode cX12_init 407 = .ok (.iconst 4, 1) := by decide +kernel
theorem dX12_init_408 : decode cX12_init 408 = .ok (.newarray .int, 2) := by decide +kernel
theorem dX12_init_410 : decode cX12_init 410 = .ok (.putfield 155, 3) := by decide +kernel
theorem dX12_init_413 : decode cX12_init 413 = .ok (.aload_n 0, 1) := by decide +kernel
theorem dX12_init_414 : decode cX12_init 414 = .ok (.sipush 240, 3) := by decide +kernel
theorem dX12_init_417 : decode cX12_init 417 = .ok (.newarray .int, 2) := by decide +kernel
theorem dX12_init_419 : decode cX12_init 419 = .ok (.putfield 158, 3) := by decide +kernel
theorem dX12_init_422 : decode cX12_init 422 = .ok (.aload_n 0, 1) := by decide +kernel
theorem dX12_init_423 : decode cX12_init 423 = .ok (.iconst 4, 1) := by decide +kernel
theorem dX12_init_424 : decode cX12_init 424 = .ok (.newarray .boolean, 2) := by decide +kernel
theorem dX12_init_426 : decode cX12_init 426 = .ok (.putfield 161, 3) := by decide +kernel
theorem dX12_init_429 : decode cX12_init 429 = .ok (.aload_n 0, 1) := by decide +kernel
theorem dX12_init_430 : decode cX12_init 430 = .ok (.bipush 80, 2) := by decide +kernel
theorem dX12_init_432 : decode cX12_init 432 = .ok (.newarray .int, 2) := by decide +kernel
theorem dX12_init_434 : decode cX12_init 434 = .ok (.putfield 164, 3) := by decide +kernel
theorem dX12_init_437 : decode cX12_init 437 = .ok (.aload_n 0, 1) := by decide +kernel
theorem dX12_init_438 : decode cX12_init 438 = .ok (.iconst 4, 1) := by decide +kernel
theorem dX12_init_439 : decode cX12_init 439 = .ok (.newarray .int, 2) := by decide +kernel
theorem dX12_init_441 : decode cX12_init 441 = .ok (.putfield 167, 3) := by decide +kernel
theorem dX12_init_444 : decode cX12_init 444 = .ok (.aload_n 0, 1) := by decide +kernel
theorem dX12_init_445 : decode cX12_init 445 = .ok (.bipush 24, 2) := by decide +kernel
theorem dX12_init_447 : decode cX12_init 447 = .ok (.newarray .int, 2) := by decide +kernel
theorem dX12_init_449 : decode cX12_init 449 = .ok (.putfield 170, 3) := by decide +kernel
theorem dX12_init_452 : decode cX12_init 452 = .ok (.aload_n 0, 1) := by decide +kernel
theorem dX12_init_453 : decode cX12_init 453 = .ok (.sipush 192, 3) := by decide +kernel
theorem dX12_init_456 : decode cX12_init 456 = .ok (.newarray .int, 2) := by decide +kernel
theorem dX12_init_458 : decode cX12_init 458 = .ok (.putfield 173, 3) := by decide +kernel
theorem dX12_init_461 : decode cX12_init 461 = .ok (.aload_n 0, 1) := by decide +kernel
theorem dX12_init_462 : decode cX12_init 462 = .ok (.bipush 24, 2) := by decide +kernel
theorem dX12_init_464 : decode cX12_init 464 = .ok (.newarray .int, 2) := by decide +kernel
theorem dX12_init_466 : decode cX12_init 466 = .ok (.putfield 176, 3) := by decide +kernel
theorem dX12_init_469 : decode cX12_init 469 = .ok (.aload_n 0, 1) := by decide +kernel
theorem dX12_init_470 : decode cX12_init 470 = .ok (.sipush 2880, 3) := by decide +kernel
theorem dX12_init_473 : decode cX12_init 473 = .ok (.newarray .int, 2) := by decide +kernel
theorem dX12_init_475 : decode cX12_init 475 = .ok (.putfield 179, 3) := by decide +kernel
theorem dX12_init_478 : decode cX12_init 478 = .ok (.aload_n 0, 1) := by decide +kernel
theorem dX12_init_479 : decode cX12_init 479 = .ok (.iconst 4, 1) := by decide +kernel
theorem dX12_init_480 : decode cX12_init 480 = .ok (.newarray .boolean, 2) := by decide +kernel
theorem dX12_init_482 : decode cX12_init 482 = .ok (.putfield 182, 3) := by decide +kernel
theorem dX12_init_485 : decode cX12_init 485 = .ok (.aload_n 0, 1) := by decide +kernel
theorem dX12_init_486 : decode cX12_init 486 = .ok (.iconst 4, 1) := by decide +kernel
theorem dX12_init_487 : decode cX12_init 487 = .ok (.newarray .boolean, 2) := by decide +kernel
theorem dX12_init_489 : decode cX12_init 489 = .ok (.putfield 185, 3) := by decide +kernel
theorem dX12_init_492 : decode cX12_init 492 = .ok (.aload_n 0, 1) := by decide +kernel
theorem dX12_init_493 : decode cX12_init 493 = .ok (.iconst 4, 1) := by decide +kernel
theorem dX12_init_494 : decode cX12_init 494 = .ok (.newarray .boolean, 2) := by decide +kernel
theorem dX12_init_496 : decode cX12_init 496 = .ok (.putfield 188, 3) := by decide +kernel
theorem dX12_init_499 : decode cX12_init 499 = .ok (.aload_n 0, 1) := by decide +kernel
theorem dX12_init_500 : decode cX12_init 500 = .ok (.iconst 4, 1) := by decide +kernel
theorem dX12_init_501 : decode cX12_init 501 = .ok (.newarray .int, 2) := by decide +kernel
theorem dX12_init_503 : decode cX12_init 503 = .ok (.putfield 191, 3) := by decide +kernel
theorem dX12_init_506 : decode cX12_init 506 = .ok (.aload_n 0, 1) := by decide +kernel
theorem dX12_init_507 : decode cX12_init 507 = .ok (.bipush 32, 2) := by decide +kernel
theorem dX12_init_509 : decode cX12_init 509 = .ok (.newarray .int, 2) := by decide +kernel
theorem dX12_init_511 : decode cX12_init 511 = .ok (.putfield 194, 3) := by decide +kernel
theorem dX12_init_514 : decode cX12_init 514 = .ok (.aload_n 0, 1) := by decide +kernel
theorem dX12_init_515 : decode cX12_init 515 = .ok (.iconst 4, 1) := by decide +kernel
theorem dX12_init_516 : decode cX12_init 516 = .ok (.newarray .int, 2) := by decide +kernel
theorem dX12_init_518 : decode cX12_init 518 = .ok (.putfield 197, 3) := by decide +kernel
theorem dX12_init_521 : decode cX12_init 521 = .ok (.aload_n 0, 1) := by decide +kernel
theorem dX12_init_522 : decode cX12_init 522 = .ok (.sipush 480, 3) := by decide +kernel
theorem dX12_init_525 : decode cX12_init 525 = .ok (.newarray .int, 2) := by decide +kernel
theorem dX12_init_527 : decode cX12_init 527 = .ok (.putfield 200, 3) := by decide +kernel
theorem dX12_init_530 : decode cX12_init 530 = .ok (.aload_n 0, 1) := by decide +kernel
theorem dX12_init_531 : decode cX12_init 531 = .ok (.iconst 4, 1) := by decide +kernel
theorem dX12_init_532 : decode cX12_init 532 = .ok (.newarray .int, 2) := by decide +kernel
theorem dX12_init_534 : decode cX12_init 534 = .ok (.putfield 203, 3) := by decide +kernel
theorem dX12_init_537 : decode cX12_init 537 = .ok (.aload_n 0, 1) := by decide +kernel
theorem dX12_init_538 : decode cX12_init 538 = .ok (.iconst 4, 1) := by decide +kernel
theorem dX12_init_539 : decode cX12_init 539 = .ok (.newarray .int, 2) := by decide +kernel
theorem dX12_init_541 : decode cX12_init 541 = .ok (.putfield 206, 3) := by decide +kernel
theorem dX12_init_544 : decode cX12_init 544 = .ok (.aload_n 0, 1) := by decide +kernel
theorem dX12_init_545 : decode cX12_init 545 = .ok (.sipush 480, 3) := by decide +kernel
theorem dX12_init_548 : decode cX12_init 548 = .ok (.newarray .int, 2) := by decide +kernel
theorem dX12_init_550 : decode cX12_init 550 = .ok (.putfield 209, 3) := by decide +kernel
theorem dX12_init_553 : decode cX12_init 553 = .ok (.aload_n 0, 1) := by decide +kernel
theorem dX12_init_554 : decode cX12_init 554 = .ok (.iconst 4, 1) := by decide +kernel
theorem dX12_init_555 : decode cX12_init 555 = .ok (.newarray .int, 2) := by decide +kernel
theorem dX12_init_557 : decode cX12_init 557 = .ok (.putfield 212, 3) := by decide +kernel
theorem dX12_init_560 : decode cX12_init 560 = .ok (.aload_n 0, 1) := by decide +kernel
theorem dX12_init_561 : decode cX12_init 561 = .ok (.iconst 4, 1) := by decide +kernel
theorem dX12_init_562 : decode cX12_init 562 = .ok (.newarray .int, 2) := by decide +kernel
theorem dX12_init_564 : decode cX12_init 564 = .ok (.putfield 215, 3) := by decide +kernel
theorem dX12_init_567 : decode cX12_init 567 = .ok (.aload_n 0, 1) := by decide +kernel
theorem dX12_init_568 : decode cX12_init 568 = .ok (.bipush 32, 2) := by decide +kernel
theorem dX12_init_570 : decode cX12_init 570 = .ok (.newarray .int, 2) := by decide +kernel
theorem dX12_init_572 : decode cX12_init 572 = .ok (.putfield 218, 3) := by decide +kernel
theorem dX12_init_575 : decode cX12_init 575 = .ok (.aload_n 0, 1) := by decide +kernel
theorem dX12_init_576 : decode cX12_init 576 = .ok (.iconst 4, 1) := by decide +kernel
theorem dX12_init_577 : decode cX12_init 577 = .ok (.newarray .int, 2) := by decide +kernel
theorem dX12_init_579 : decode cX12_init 579 = .ok (.putfield 221, 3) := by decide +kernel
theorem dX12_init_582 : decode cX12_init 582 = .ok (.aload_n 0, 1) := by decide +kernel
theorem dX12_init_583 : decode cX12_init 583 = .ok (.iconst 4, 1) := by decide +kernel
theorem dX12_init_584 : decode cX12_init 584 = .ok (.newarray .int, 2) := by decide +kernel
theorem dX12_init_586 : decode cX12_init 586 = .ok (.putfield 224, 3) := by decide +kernel
theorem dX12_init_589 : decode cX12_init 589 = .ok (.aload_n 0, 1) := by decide +kernel
theorem dX12_init_590 : decode cX12_init 590 = .ok (.sipush 480, 3) := by decide +kernel
theorem dX12_init_593 : decode cX12_init 593 = .ok (.newarray .int, 2) := by decide +kernel
theorem dX12_init_595 : decode cX12_init 595 = .ok (.putfield 227, 3) := by decide +kernel
theorem dX12_init_598 : decode cX12_init 598 = .ok (.aload_n 0, 1) := by decide +kernel
theorem dX12_init_599 : decode cX12_init 599 = .ok (.iconst 4, 1) := by decide +kernel
theorem dX12_init_600 : decode cX12_init 600 = .ok (.newarray .boolean, 2) := by decide +kernel
theorem dX12_init_602 : decode cX12_init 602 = .ok (.putfield 230, 3) := by decide +kernel
theorem dX12_init_605 : decode cX12_init 605 = .ok (.aload_n 0, 1) := by decide +kernel
theorem dX12_init_606 : decode cX12_init 606 = .ok (.iconst 4, 1) := by decide +kernel
theorem dX12_init_607 : decode cX12_init 607 = .ok (.newarray .boolean, 2) := by decide +kernel
theorem dX12_init_609 : decode cX12_init 609 = .ok (.putfield 233, 3) := by decide +kernel
theorem dX12_init_612 : decode cX12_init 612 = .ok (.aload_n 0, 1) := by decide +kernel
theorem dX12_init_613 : decode cX12_init 613 = .ok (.iconst 4, 1) := by decide +kernel
theorem dX12_init_614 : decode cX12_init 614 = .ok (.newarray .boolean, 2) := by decide +kernel
theorem dX12_init_616 : decode cX12_init 616 = .ok (.putfield 236, 3) := by decide +kernel
theorem dX12_init_619 : decode cX12_init 619 = .ok (.aload_n 0, 1) := by decide +kernel
theorem dX12_init_620 : decode cX12_init 620 = .ok (.bipush 8, 2) := by decide +kernel
theorem dX12_init_622 : decode cX12_init 622 = .ok (.newarray .int, 2) := by decide +kernel
theorem dX12_init_624 : decode cX12_init 624 = .ok (.putfield 239, 3) := by decide +kernel
theorem dX12_init_627 : decode cX12_init 627 = .ok (.aload_n 0, 1) := by decide +kernel
theorem dX12_init_628 : decode cX12_init 628 = .ok (.bipush 120, 2) := by decide +kernel
theorem dX12_init_630 : decode cX12_init 630 = .ok (.newarray .int, 2) := by decide +kernel
theorem dX12_init_632 : decode cX12_init 632 = .ok (.putfield 242, 3) := by decide +kernel
theorem dX12_init_635 : decode cX12_init 635 = .ok (.return_, 1) := by decide +kernel
theorem dX12_isDevice_0 : decode cX12_isDevice 0 = .ok (.iload_n 0, 1) := by decide +kernel
theorem dX12_isDevice_1 : decode cX12_isDevice 1 = .ok (.ifCond .lt 12, 3) := by decide +kernel
theorem dX12_isDevice_4 : decode cX12_isDevice 4 = .ok (.iload_n 0, 1) := by decide +kernel
theorem dX12_isDevice_5 : decode cX12_isDevice 5 = .ok (.iconst 4, 1) := by decide +kernel
theorem dX12_isDevice_6 : decode cX12_isDevice 6 = .ok (.if_icmp .ge 7, 3) := by decide +kernel
theorem dX12_isDevice_9 : decode cX12_isDevice 9 = .ok (.iconst 1, 1) := by decide +kernel
theorem dX12_isDevice_10 : decode cX12_isDevice 10 = .ok (.goto 4, 3) := by decide +kernel
theorem dX12_isDevice_13 : decode cX12_isDevice 13 = .ok (.iconst 0, 1) := by decide +kernel
theorem dX12_isDevice_14 : decode cX12_isDevice 14 = .ok (.ireturn, 1) := by decide +kernel
theorem dX12_draw_0 : decode cX12_draw 0 = .ok (.aload_n 0, 1) := by decide +kernel
theorem dX12_draw_1 : decode cX12_draw 1 = .ok (.getfield 13, 3) := by decide +kernel
theorem dX12_draw_4 : decode cX12_draw 4 = .ok (.iload_n 1, 1) := by decide +kernel
theorem dX12_draw_5 : decode cX12_draw 5 = .ok (.aload_n 0, 1) := by decide +kernel
theorem dX12_draw_6 : decode cX12_draw 6 = .ok (.getfield 13, 3) := by decide +kernel
theorem dX12_draw_9 : decode cX12_draw 9 = .ok (.iload_n 1, 1) := by decide +kernel
theorem dX12_draw_10 : decode cX12_draw 10 = .ok (.iaload, 1) := by decide +kernel
theorem dX12_draw_11 : decode cX12_draw 11 = .ok (.ldc 245, 2) := by decide +kernel
theorem dX12_draw_13 : decode cX12_draw 13 = .ok (.imul, 1) := by decide +kernel
theorem dX12_draw_14 : decode cX12_draw 14 = .ok (.sipush 12345, 3) := by decide +kernel
theorem dX12_draw_17 : decode cX12_draw 17 = .ok (.iadd, 1) := by decide +kernel
theorem dX12_draw_18 : decode cX12_draw 18 = .ok (.iastore, 1) := by decide +kernel
theorem dX12_draw_19 : decode cX12_draw 19 = .ok (.aload_n 0, 1) := by decide +kernel
theorem dX12_draw_20 : decode cX12_draw 20 = .ok (.getfield 13, 3) := by decide +kernel
theorem dX12_draw_23 : decode cX12_draw 23 = .ok (.iload_n 1, 1) := by decide +kernel
theorem dX12_draw_24 : decode cX12_draw 24 = .ok (.iaload, 1) := by decide +kernel
theorem dX12_draw_25 : decode cX12_draw 25 = .ok (.bipush 16, 2) := by decide +kernel
theorem dX12_draw_27 : decode cX12_draw 27 = .ok (.iushr, 1) := by decide +kernel
theorem dX12_draw_28 : decode cX12_draw 28 = .ok (.iload_n 2, 1) := by decide +kernel
theorem dX12_draw_29 : decode cX12_draw 29 = .ok (.irem, 1) := by decide +kernel
theorem dX12_draw_30 : decode cX12_draw 30 = .ok (.ireturn, 1) := by decide +kernel
theorem dX12_device_0 : decode cX12_device 0 = .ok (.iload_n 1, 1) := by decide +kernel
theorem dX12_device_1 : decode cX12_device 1 = .ok (.invokestatic 246, 3) := by decide +kernel
theorem dX12_device_4 : decode cX12_device 4 = .ok (.ifCond .eq 12, 3) := by decide +kernel
theorem dX12_device_7 : decode cX12_device 7 = .ok (.aload_n 0, 1) := by decide +kernel
theorem dX12_device_8 : decode cX12_device 8 = .ok (.getfield 16, 3) := by decide +kernel
theorem dX12_device_11 : decode cX12_device 11 = .ok (.iload_n 1, 1) := by decide +kernel
theorem dX12_device_12 : decode cX12_device 12 = .ok (.iaload, 1) := by decide +kernel
theorem dX12_device_13 : decode cX12_device 13 = .ok (.ifCond .eq 5, 3) := by decide +kernel
theorem dX12_device_16 : decode cX12_device 16 = .ok (.iconst 0, 1) := by decide +kernel
theorem dX12_device_17 : decode cX12_device 17 = .ok (.ireturn, 1) := by decide +kernel
theorem dX12_device_18 : decode cX12_device 18 = .ok (.aload_n 0, 1) := by decide +kernel
theorem dX12_device_19 : decode cX12_device 19 = .ok (.getfield 7, 3) := by decide +kernel
theorem dX12_device_22 : decode cX12_device 22 = .ok (.iload_n 1, 1) := by decide +kernel
theorem dX12_device_23 : decode cX12_device 23 = .ok (.iload_n 2, 1) := by decide +kernel
theorem dX12_device_24 : decode cX12_device 24 = .ok (.iastore, 1) := by decide +kernel
theorem dX12_device_25 : decode cX12_device 25 = .ok (.aload_n 0, 1) := by decide +kernel
theorem dX12_device_26 : decode cX12_device 26 = .ok (.getfield 13, 3) := by decide +kernel
theorem dX12_device_29 : decode cX12_device 29 = .ok (.iload_n 1, 1) := by decide +kernel
theorem dX12_device_30 : decode cX12_device 30 = .ok (.iload_n 3, 1) := by decide +kernel
theorem dX12_device_31 : decode cX12_device 31 = .ok (.iastore, 1) := by decide +kernel
theorem dX12_device_32 : decode cX12_device 32 = .ok (.iconst 1, 1) := by decide +kernel
theorem dX12_device_33 : decode cX12_device 33 = .ok (.ireturn, 1) := by decide +kernel
theorem dX12_feed_0 : decode cX12_feed 0 = .ok (.aload_n 0, 1) := by decide +kernel
theorem dX12_feed_1 : decode cX12_feed 1 = .ok (.getfield 250, 3) := by decide +kernel
theorem dX12_feed_4 : decode cX12_feed 4 = .ok (.bipush 20, 2) := by decide +kernel
theorem dX12_feed_6 : decode cX12_feed 6 = .ok (.iadd, 1) := by decide +kernel
theorem dX12_feed_7 : decode cX12_feed 7 = .ok (.sipush 1000, 3) := by decide +kernel
theorem dX12_feed_10 : decode cX12_feed 10 = .ok (.if_icmp .le 5, 3) := by decide +kernel
theorem dX12_feed_13 : decode cX12_feed 13 = .ok (.iconst (-1), 1) := by decide +kernel
theorem dX12_feed_14 : decode cX12_feed 14 = .ok (.ireturn, 1) := by decide +kernel
theorem dX12_feed_15 : decode cX12_feed 15 = .ok (.aload_n 0, 1) := by decide +kernel
theorem dX12_feed_16 : decode cX12_feed 16 = .ok (.iload_n 1, 1) := by decide +kernel
theorem dX12_feed_17 : decode cX12_feed 17 = .ok (.invokevirtual 254, 3) := by decide +kernel
theorem dX12_feed_20 : decode cX12_feed 20 = .ok (.aload_n 0, 1) := by decide +kernel
theorem dX12_feed_21 : decode cX12_feed 21 = .ok (.iload_n 2, 1) := by decide +kernel
theorem dX12_feed_22 : decode cX12_feed 22 = .ok (.invokevirtual 254, 3) := by decide +kernel
theorem dX12_feed_25 : decode cX12_feed 25 = .ok (.aload_n 0, 1) := by decide +kernel
theorem dX12_feed_26 : decode cX12_feed 26 = .ok (.iload_n 3, 1) := by decide +kernel
theorem dX12_feed_27 : decode cX12_feed 27 = .ok (.invokevirtual 254, 3) := by decide +kernel
theorem dX12_feed_30 : decode cX12_feed 30 = .ok (.aload_n 0, 1) := by decide +kernel
theorem dX12_feed_31 : decode cX12_feed 31 = .ok (.iload 4, 2) := by decide +kernel
theorem dX12_feed_33 : decode cX12_feed 33 = .ok (.invokevirtual 254, 3) := by decide +kernel
theorem dX12_feed_36 : decode cX12_feed 36 = .ok (.aload_n 0, 1) := by decide +kernel
theorem dX12_feed_37 : decode cX12_feed 37 = .ok (.iload 5, 2) := by decide +kernel
theorem dX12_feed_39 : decode cX12_feed 39 = .ok (.invokevirtual 254, 3) := by decide +kernel
theorem dX12_feed_42 : decode cX12_feed 42 = .ok (.aload_n 0, 1) := by decide +kernel
theorem dX12_feed_43 : decode cX12_feed 43 = .ok (.getfield 250, 3) := by decide +kernel
theorem dX12_feed_46 : decode cX12_feed 46 = .ok (.ireturn, 1) := by decide +kernel
theorem dX12_feeds_0 : decode cX12_feeds 0 = .ok (.bipush 24, 2) := by decide +kernel
theorem dX12_feeds_2 : decode cX12_feeds 2 = .ok (.istore_n 2, 1) := by decide +kernel
theorem dX12_feeds_3 : decode cX12_feeds 3 = .ok (.iload_n 2, 1) := by decide +kernel
theorem dX12_feeds_4 : decode cX12_feeds 4 = .ok (.ifCond .lt 35, 3) := by decide +kernel
theorem dX12_feeds_7 : decode cX12_feeds 7 = .ok (.aload_n 0, 1) := by decide +kernel
theorem dX12_feeds_8 : decode cX12_feeds 8 = .ok (.getfield 37, 3) := by decide +kernel
theorem dX12_feeds_11 : decode cX12_feeds 11 = .ok (.aload_n 0, 1) := by decide +kernel
theorem dX12_feeds_12 : decode cX12_feeds 12 = .ok (.getfield 250, 3) := by decide +kernel
theorem dX12_feeds_15 : decode cX12_feeds 15 = .ok (.iload_n 1, 1) := by decide +kernel
theorem dX12_feeds_16 : decode cX12_feeds 16 = .ok (.iload_n 2, 1) := by decide +kernel
theorem dX12_feeds_17 : decode cX12_feeds 17 = .ok (.ishr, 1) := by decide +kernel
theorem dX12_feeds_18 : decode cX12_feeds 18 = .ok (.sipush 255, 3) := by decide +kernel
theorem dX12_feeds_21 : decode cX12_feeds 21 = .ok (.iand, 1) := by decide +kernel
theorem dX12_feeds_22 : decode cX12_feeds 22 = .ok (.iastore, 1) := by decide +kernel
theorem dX12_feeds_23 : decode cX12_feeds 23 = .ok (.aload_n 0, 1) := by decide +kernel
theorem dX12_feeds_24 : decode cX12_feeds 24 = .ok (.dup, 1) := by decide +kernel
theorem dX12_feeds_25 : decode cX12_feeds 25 = .ok (.getfield 250, 3) := by decide +kernel
theorem dX12_feeds_28 : decode cX12_feeds 28 = .ok (.iconst 1, 1) := by decide +kernel
theorem dX12_feeds_29 : decode cX12_feeds 29 = .ok (.iadd, 1) := by decide +kernel
theorem dX12_feeds_30 : decode cX12_feeds 30 = .ok (.putfield 250, 3) := by decide +kernel
theorem dX12_feeds_33 : decode cX12_feeds 33 = .ok (.iinc 2 (-8), 3) := by decide +kernel
theorem dX12_feeds_36 : decode cX12_feeds 36 = .ok (.goto (-33), 3) := by decide +kernel
theorem dX12_feeds_39 : decode cX12_feeds 39 = .ok (.return_, 1) := by decide +kernel
theorem dX12_bend_0 : decode cX12_bend 0 = .ok (.iload_n 1, 1) := by decide +kernel
theorem dX12_bend_1 : decode cX12_bend 1 = .ok (.ifCond .lt 11, 3) := by decide +kernel
theorem dX12_bend_4 : decode cX12_bend 4 = .ok (.iload_n 1, 1) := by decide +kernel
theorem dX12_bend_5 : decode cX12_bend 5 = .ok (.aload_n 0, 1) := by decide +kernel
theorem dX12_bend_6 : decode cX12_bend 6 = .ok (.getfield 250, 3) := by decide +kernel
theorem dX12_bend_9 : decode cX12_bend 9 = .ok (.if_icmp .lt 5, 3) := by decide +kernel
theorem dX12_bend_12 : decode cX12_bend 12 = .ok (.iconst (-1), 1) := by decide +kernel
theorem dX12_bend_13 : decode cX12_bend 13 = .ok (.ireturn, 1) := by decide +kernel
theorem dX12_bend_14 : decode cX12_bend 14 = .ok (.aload_n 0, 1) := by decide +kernel
theorem dX12_bend_15 : decode cX12_bend 15 = .ok (.getfield 37, 3) := by decide +kernel
theorem dX12_bend_18 : decode cX12_bend 18 = .ok (.iload_n 1, 1) := by decide +kernel
theorem dX12_bend_19 : decode cX12_bend 19 = .ok (.iaload, 1) := by decide +kernel
theorem dX12_bend_20 : decode cX12_bend 20 = .ok (.istore_n 3, 1) := by decide +kernel
theorem dX12_bend_21 : decode cX12_bend 21 = .ok (.aload_n 0, 1) := by decide +kernel
theorem dX12_bend_22 : decode cX12_bend 22 = .ok (.getfield 37, 3) := by decide +kernel
theorem dX12_bend_25 : decode cX12_bend 25 = .ok (.iload_n 1, 1) := by decide +kernel
theorem dX12_bend_26 : decode cX12_bend 26 = .ok (.iload_n 3, 1) := by decide +kernel
theorem dX12_bend_27 : decode cX12_bend 27 = .ok (.iload_n 2, 1) := by decide +kernel
theorem dX12_bend_28 : decode cX12_bend 28 = .ok (.sipush 255, 3) := by decide +kernel
theorem dX12_bend_31 : decode cX12_bend 31 = .ok (.iand, 1) := by decide +kernel
theorem dX12_bend_32 : decode cX12_bend 32 = .ok (.ixor, 1) := by decide +kernel
theorem dX12_bend_33 : decode cX12_bend 33 = .ok (.iastore, 1) := by decide +kernel
theorem dX12_bend_34 : decode cX12_bend 34 = .ok (.iload_n 3, 1) := by decide +kernel
theorem dX12_bend_35 : decode cX12_bend 35 = .ok (.ireturn, 1) := by decide +kernel
theorem dX12_take_0 : decode cX12_take 0 = .ok (.iload_n 1, 1) := by decide +kernel
theorem dX12_take_1 : decode cX12_take 1 = .ok (.invokestatic 246, 3) := by decide +kernel
theorem dX12_take_4 : decode cX12_take 4 = .ok (.ifCond .ne 5, 3) := by decide +kernel
theorem dX12_take_7 : decode cX12_take 7 = .ok (.iconst (-1), 1) := by decide +kernel
theorem dX12_take_8 : decode cX12_take 8 = .ok (.ireturn, 1) := by decide +kernel
theorem dX12_take_9 : decode cX12_take 9 = .ok (.aload_n 0, 1) := by decide +kernel
theorem dX12_take_10 : decode cX12_take 10 = .ok (.sipush 1000, 3) := by decide +kernel
theorem dX12_take_13 : decode cX12_take 13 = .ok (.aload_n 0, 1) := by decide +kernel
theorem dX12_take_14 : decode cX12_take 14 = .ok (.getfield 28, 3) := by decide +kernel
theorem dX12_take_17 : decode cX12_take 17 = .ok (.iload_n 1, 1) := by decide +kernel
theorem dX12_take_18 : decode cX12_take 18 = .ok (.iaload, 1) := by decide +kernel
theorem dX12_take_19 : decode cX12_take 19 = .ok (.invokestatic 258, 3) := by decide +kernel
theorem dX12_take_22 : decode cX12_take 22 = .ok (.putfield 250, 3) := by decide +kernel
theorem dX12_take_25 : decode cX12_take 25 = .ok (.iconst 0, 1) := by decide +kernel
theorem dX12_take_26 : decode cX12_take 26 = .ok (.istore_n 2, 1) := by decide +kernel
theorem dX12_take_27 : decode cX12_take 27 = .ok (.iload_n 2, 1) := by decide +kernel
theorem dX12_take_28 : decode cX12_take 28 = .ok (.aload_n 0, 1) := by decide +kernel
theorem dX12_take_29 : decode cX12_take 29 = .ok (.getfield 250, 3) := by decide +kernel
theorem dX12_take_32 : decode cX12_take 32 = .ok (.if_icmp .ge 27, 3) := by decide +kernel
theorem dX12_take_35 : decode cX12_take 35 = .ok (.aload_n 0, 1) := by decide +kernel
theorem dX12_take_36 : decode cX12_take 36 = .ok (.getfield 37, 3) := by decide +kernel
theorem dX12_take_39 : decode cX12_take 39 = .ok (.iload_n 2, 1) := by decide +kernel
theorem dX12_take_40 : decode cX12_take 40 = .ok (.aload_n 0, 1) := by decide +kernel
theorem dX12_take_41 : decode cX12_take 41 = .ok (.getfield 31, 3) := by decide +kernel
theorem dX12_take_44 : decode cX12_take 44 = .ok (.sipush 4000, 3) := by decide +kernel
theorem dX12_take_47 : decode cX12_take 47 = .ok (.iload_n 1, 1) := by decide +kernel
theorem dX12_take_48 : decode cX12_take 48 = .ok (.imul, 1) := by decide +kernel
theorem dX12_take_49 : decode cX12_take 49 = .ok (.iload_n 2, 1) := by decide +kernel
theorem dX12_take_50 : decode cX12_take 50 = .ok (.iadd, 1) := by decide +kernel
theorem dX12_take_51 : decode cX12_take 51 = .ok (.iaload, 1) := by decide +kernel
theorem dX12_take_52 : decode cX12_take 52 = .ok (.iastore, 1) := by decide +kernel
theorem dX12_take_53 : decode cX12_take 53 = .ok (.iinc 2 1, 3) := by decide +kernel
theorem dX12_take_56 : decode cX12_take 56 = .ok (.goto (-29), 3) := by decide +kernel
theorem dX12_take_59 : decode cX12_take 59 = .ok (.aload_n 0, 1) := by decide +kernel
theorem dX12_take_60 : decode cX12_take 60 = .ok (.getfield 28, 3) := by decide +kernel
theorem dX12_take_63 : decode cX12_take 63 = .ok (.iload_n 1, 1) := by decide +kernel
theorem dX12_take_64 : decode cX12_take 64 = .ok (.dup2, 1) := by decide +kernel
theorem dX12_take_65 : decode cX12_take 65 = .ok (.iaload, 1) := by decide +kernel
theorem dX12_take_66 : decode cX12_take 66 = .ok (.aload_n 0, 1) := by decide +kernel
theorem dX12_take_67 : decode cX12_take 67 = .ok (.getfield 250, 3) := by decide +kernel
theorem dX12_take_70 : decode cX12_take 70 = .ok (.isub, 1) := by decide +kernel
theorem dX12_take_71 : decode cX12_take 71 = .ok (.iastore, 1) := by decide +kernel
theorem dX12_take_72 : decode cX12_take 72 = .ok (.iconst 0, 1) := by decide +kernel
theorem dX12_take_73 : decode cX12_take 73 = .ok (.istore_n 2, 1) := by decide +kernel
theorem dX12_take_74 : decode cX12_take 74 = .ok (.iload_n 2, 1) := by decide +kernel
theorem dX12_take_75 : decode cX12_take 75 = .ok (.aload_n 0, 1) := by decide +kernel
theorem dX12_take_76 : decode cX12_take 76 = .ok (.getfield 28, 3) := by decide +kernel
theorem dX12_take_79 : decode cX12_take 79 = .ok (.iload_n 1, 1) := by decide +kernel
theorem dX12_take_80 : decode cX12_take 80 = .ok (.iaload, 1) := by decide +kernel
theorem dX12_take_81 : decode cX12_take 81 = .ok (.if_icmp .ge 38, 3) := by decide +kernel
theorem dX12_take_84 : decode cX12_take 84 = .ok (.aload_n 0, 1) := by decide +kernel
theorem dX12_take_85 : decode cX12_take 85 = .ok (.getfield 31, 3) := by decide +kernel
theorem dX12_take_88 : decode cX12_take 88 = .ok (.sipush 4000, 3) := by decide +kernel
theorem dX12_take_91 : decode cX12_take 91 = .ok (.iload_n 1, 1) := by decide +kernel
theorem dX12_take_92 : decode cX12_take 92 = .ok (.imul, 1) := by decide +kernel
theorem dX12_take_93 : decode cX12_take 93 = .ok (.iload_n 2, 1) := by decide +kernel
theorem dX12_take_94 : decode cX12_take 94 = .ok (.iadd, 1) := by decide +kernel
theorem dX12_take_95 : decode cX12_take 95 = .ok (.aload_n 0, 1) := by decide +kernel
theorem dX12_take_96 : decode cX12_take 96 = .ok (.getfield 31, 3) := by decide +kernel
theorem dX12_take_99 : decode cX12_take 99 = .ok (.sipush 4000, 3) := by decide +kernel
theorem dX12_take_102 : decode cX12_take 102 = .ok (.iload_n 1, 1) := by decide +kernel
theorem dX12_take_103 : decode cX12_take 103 = .ok (.imul, 1) := by decide +kernel
theorem dX12_take_104 : decode cX12_take 104 = .ok (.iload_n 2, 1) := by decide +kernel
theorem dX12_take_105 : decode cX12_take 105 = .ok (.iadd, 1) := by decide +kernel
theorem dX12_take_106 : decode cX12_take 106 = .ok (.aload_n 0, 1) := by decide +kernel
theorem dX12_take_107 : decode cX12_take 107 = .ok (.getfield 250, 3) := by decide +kernel
theorem dX12_take_110 : decode cX12_take 110 = .ok (.iadd, 1) := by decide +kernel
theorem dX12_take_111 : decode cX12_take 111 = .ok (.iaload, 1) := by decide +kernel
theorem dX12_take_112 : decode cX12_take 112 = .ok (.iastore, 1) := by decide +kernel
theorem dX12_take_113 : decode cX12_take 113 = .ok (.iinc 2 1, 3) := by decide +kernel
theorem dX12_take_116 : decode cX12_take 116 = .ok (.goto (-42), 3) := by decide +kernel
theorem dX12_take_119 : decode cX12_take 119 = .ok (.aload_n 0, 1) := by decide +kernel
theorem dX12_take_120 : decode cX12_take 120 = .ok (.getfield 250, 3) := by decide +kernel
theorem dX12_take_123 : decode cX12_take 123 = .ok (.ireturn, 1) := by decide +kernel
theorem dX12_tape_0 : decode cX12_tape 0 = .ok (.iload_n 1, 1) := by decide +kernel
theorem dX12_tape_1 : decode cX12_tape 1 = .ok (.ifCond .ne 8, 3) := by decide +kernel
theorem dX12_tape_4 : decode cX12_tape 4 = .ok (.aload_n 0, 1) := by decide +kernel
theorem dX12_tape_5 : decode cX12_tape 5 = .ok (.getfield 250, 3) := by decide +kernel
theorem dX12_tape_8 : decode cX12_tape 8 = .ok (.ireturn, 1) := by decide +kernel
theorem dX12_tape_9 : decode cX12_tape 9 = .ok (.iload_n 1, 1) := by decide +kernel
theorem dX12_tape_10 : decode cX12_tape 10 = .ok (.iconst 1, 1) := by decide +kernel
theorem dX12_tape_11 : decode cX12_tape 11 = .ok (.if_icmp .eq 6, 3) := by decide +kernel
theorem dX12_tape_14 : decode cX12_tape 14 = .ok (.bipush (-9), 2) := by decide +kernel
theorem dX12_tape_16 : decode cX12_tape 16 = .ok (.ireturn, 1) := by decide +kernel
theorem dX12_tape_17 : decode cX12_tape 17 = .ok (.iload_n 2, 1) := by decide +kernel
theorem dX12_tape_18 : decode cX12_tape 18 = .ok (.ifCond .lt 11, 3) := by decide +kernel
theorem dX12_tape_21 : decode cX12_tape 21 = .ok (.iload_n 2, 1) := by decide +kernel
theorem dX12_tape_22 : decode cX12_tape 22 = .ok (.aload_n 0, 1) := by decide +kernel
theorem dX12_tape_23 : decode cX12_tape 23 = .ok (.getfield 250, 3) := by decide +kernel
theorem dX12_tape_26 : decode cX12_tape 26 = .ok (.if_icmp .le 5, 3) := by decide +kernel
theorem dX12_tape_29 : decode cX12_tape 29 = .ok (.iconst (-1), 1) := by decide +kernel
theorem dX12_tape_30 : decode cX12_tape 30 = .ok (.ireturn, 1) := by decide +kernel
theorem dX12_tape_31 : decode cX12_tape 31 = .ok (.aload_n 0, 1) := by decide +kernel
theorem dX12_tape_32 : decode cX12_tape 32 = .ok (.getfield 37, 3) := by decide +kernel
theorem dX12_tape_35 : decode cX12_tape 35 = .ok (.iconst 0, 1) := by decide +kernel
theorem dX12_tape_36 : decode cX12_tape 36 = .ok (.iload_n 2, 1) := by decide +kernel
theorem dX12_tape_37 : decode cX12_tape 37 = .ok (.invokestatic 264, 3) := by decide +kernel
theorem dX12_tape_40 : decode cX12_tape 40 = .ok (.ireturn, 1) := by decide +kernel
theorem dX12_checkOf_0 : decode cX12_checkOf 0 = .ok (.ldc_w 268, 3) := by decide +kernel
theorem dX12_checkOf_3 : decode cX12_checkOf 3 = .ok (.istore_n 3, 1) := by decide +kernel
theorem dX12_checkOf_4 : decode cX12_checkOf 4 = .ok (.iconst 0, 1) := by decide +kernel
theorem dX12_checkOf_5 : decode cX12_checkOf 5 = .ok (.istore 4, 2) := by decide +kernel
theorem dX12_checkOf_7 : decode cX12_checkOf 7 = .ok (.iload 4, 2) := by decide +kernel
theorem dX12_checkOf_9 : decode cX12_checkOf 9 = .ok (.iload_n 2, 1) := by decide +kernel
theorem dX12_checkOf_10 : decode cX12_checkOf 10 = .ok (.if_icmp .ge 55, 3) := by decide +kernel
theorem dX12_checkOf_13 : decode cX12_checkOf 13 = .ok (.iload_n 3, 1) := by decide +kernel
theorem dX12_checkOf_14 : decode cX12_checkOf 14 = .ok (.aload_n 0, 1) := by decide +kernel
theorem dX12_checkOf_15 : decode cX12_checkOf 15 = .ok (.iload_n 1, 1) := by decide +kernel
theorem dX12_checkOf_16 : decode cX12_checkOf 16 = .ok (.iload 4, 2) := by decide +kernel
theorem dX12_checkOf_18 : decode cX12_checkOf 18 = .ok (.iadd, 1) := by decide +kernel
theorem dX12_checkOf_19 : decode cX12_checkOf 19 = .ok (.iaload, 1) := by decide +kernel
theorem dX12_checkOf_20 : decode cX12_checkOf 20 = .ok (.ixor, 1) := by decide +kernel
theorem dX12_checkOf_21 : decode cX12_checkOf 21 = .ok (.istore_n 3, 1) := by decide +kernel
theorem dX12_checkOf_22 : decode cX12_checkOf 22 = .ok (.iconst 0, 1) := by decide +kernel
theorem dX12_checkOf_23 : decode cX12_checkOf 23 = .ok (.istore 5, 2) := by decide +kernel
theorem dX12_checkOf_25 : decode cX12_checkOf 25 = .ok (.iload 5, 2) := by decide +kernel
theorem dX12_checkOf_27 : decode cX12_checkOf 27 = .ok (.bipush 8, 2) := by decide +kernel
theorem dX12_checkOf_29 : decode cX12_checkOf 29 = .ok (.if_icmp .ge 30, 3) := by decide +kernel
theorem dX12_checkOf_32 : decode cX12_checkOf 32 = .ok (.iload_n 3, 1) := by decide +kernel
theorem dX12_checkOf_33 : decode cX12_checkOf 33 = .ok (.iconst 1, 1) := by decide +kernel
theorem dX12_checkOf_34 : decode cX12_checkOf 34 = .ok (.iand, 1) := by decide +kernel
theorem dX12_checkOf_35 : decode cX12_checkOf 35 = .ok (.iconst 1, 1) := by decide +kernel
theorem dX12_checkOf_36 : decode cX12_checkOf 36 = .ok (.if_icmp .ne 13, 3) := by decide +kernel
theorem dX12_checkOf_39 : decode cX12_checkOf 39 = .ok (.iload_n 3, 1) := by decide +kernel
theorem dX12_checkOf_40 : decode cX12_checkOf 40 = .ok (.iconst 1, 1) := by decide +kernel
theorem dX12_checkOf_41 : decode cX12_checkOf 41 = .ok (.ishr, 1) := by decide +kernel
theorem dX12_checkOf_42 : decode cX12_checkOf 42 = .ok (.ldc_w 269, 3) := by decide +kernel
theorem dX12_checkOf_45 : decode cX12_checkOf 45 = .ok (.ixor, 1) := by decide +kernel
theorem dX12_checkOf_46 : decode cX12_checkOf 46 = .ok (.goto 6, 3) := by decide +kernel
theorem dX12_checkOf_49 : decode cX12_checkOf 49 = .ok (.iload_n 3, 1) := by decide +kernel
theorem dX12_checkOf_50 : decode cX12_checkOf 50 = .ok (.iconst 1, 1) := by decide +kernel
theorem dX12_checkOf_51 : decode cX12_checkOf 51 = .ok (.ishr, 1) := by decide +kernel
theorem dX12_checkOf_52 : decode cX12_checkOf 52 = .ok (.istore_n 3, 1) := by decide +kernel
theorem dX12_checkOf_53 : decode cX12_checkOf 53 = .ok (.iinc 5 1, 3) := by decide +kernel
theorem dX12_checkOf_56 : decode cX12_checkOf 56 = .ok (.goto (-31), 3) := by decide +kernel
theorem dX12_checkOf_59 : decode cX12_checkOf 59 = .ok (.iinc 4 1, 3) := by decide +kernel
theorem dX12_checkOf_62 : decode cX12_checkOf 62 = .ok (.goto (-55), 3) := by decide +kernel
theorem dX12_checkOf_65 : decode cX12_checkOf 65 = .ok (.ldc_w 268, 3) := by decide +kernel
theorem dX12_checkOf_68 : decode cX12_checkOf 68 = .ok (.iload_n 3, 1) := by decide +kernel
theorem dX12_checkOf_69 : decode cX12_checkOf 69 = .ok (.isub, 1) := by decide +kernel
theorem dX12_checkOf_70 : decode cX12_checkOf 70 = .ok (.ireturn, 1) := by decide +kernel
theorem dX12_putByte_0 : decode cX12_putByte 0 = .ok (.aload_n 0, 1) := by decide +kernel
theorem dX12_putByte_1 : decode cX12_putByte 1 = .ok (.getfield 40, 3) := by decide +kernel
theorem dX12_putByte_4 : decode cX12_putByte 4 = .ok (.aload_n 0, 1) := by decide +kernel
theorem dX12_putByte_5 : decode cX12_putByte 5 = .ok (.getfield 270, 3) := by decide +kernel
theorem dX12_putByte_8 : decode cX12_putByte 8 = .ok (.iload_n 1, 1) := by decide +kernel
theorem dX12_putByte_9 : decode cX12_putByte 9 = .ok (.sipush 255, 3) := by decide +kernel
theorem dX12_putByte_12 : decode cX12_putByte 12 = .ok (.iand, 1) := by decide +kernel
theorem dX12_putByte_13 : decode cX12_putByte 13 = .ok (.iastore, 1) := by decide +kernel
theorem dX12_putByte_14 : decode cX12_putByte 14 = .ok (.aload_n 0, 1) := by decide +kernel
theorem dX12_putByte_15 : decode cX12_putByte 15 = .ok (.dup, 1) := by decide +kernel
theorem dX12_putByte_16 : decode cX12_putByte 16 = .ok (.getfield 270, 3) := by decide +kernel
theorem dX12_putByte_19 : decode cX12_putByte 19 = .ok (.iconst 1, 1) := by decide +kernel
theorem dX12_putByte_20 : decode cX12_putByte 20 = .ok (.iadd, 1) := by decide +kernel
theorem dX12_putByte_21 : decode cX12_putByte 21 = .ok (.putfield 270, 3) := by decide +kernel
theorem dX12_putByte_24 : decode cX12_putByte 24 = .ok (.return_, 1) := by decide +kernel
theorem dX12_putAddress_0 : decode cX12_putAddress 0 = .ok (.iconst 0, 1) := by decide +kernel
theorem dX12_putAddress_1 : decode cX12_putAddress 1 = .ok (.istore_n 2, 1) := by decide +kernel
theorem dX12_putAddress_2 : decode cX12_putAddress 2 = .ok (.iload_n 2, 1) := by decide +kernel
theorem dX12_putAddress_3 : decode cX12_putAddress 3 = .ok (.iconst 4, 1) := by decide +kernel
theorem dX12_putAddress_4 : decode cX12_putAddress 4 = .ok (.if_icmp .ge 19, 3) := by decide +kernel
theorem dX12_putAddress_7 : decode cX12_putAddress 7 = .ok (.aload_n 0, 1) := by decide +kernel
theorem dX12_putAddress_8 : decode cX12_putAddress 8 = .ok (.iload_n 1, 1) := by decide +kernel
theorem dX12_putAddress_9 : decode cX12_putAddress 9 = .ok (.bipush 8, 2) := by decide +kernel
theorem dX12_putAddress_11 : decode cX12_putAddress 11 = .ok (.iload_n 2, 1) := by decide +kernel
theorem dX12_putAddress_12 : decode cX12_putAddress 12 = .ok (.imul, 1) := by decide +kernel
theorem dX12_putAddress_13 : decode cX12_putAddress 13 = .ok (.ishr, 1) := by decide +kernel
theorem dX12_putAddress_14 : decode cX12_putAddress 14 = .ok (.invokevirtual 273, 3) := by decide +kernel
theorem dX12_putAddress_17 : decode cX12_putAddress 17 = .ok (.iinc 2 1, 3) := by decide +kernel
theorem dX12_putAddress_20 : decode cX12_putAddress 20 = .ok (.goto (-18), 3) := by decide +kernel
theorem dX12_putAddress_23 : decode cX12_putAddress 23 = .ok (.return_, 1) := by decide +kernel
theorem dX12_begin_0 : decode cX12_begin 0 = .ok (.aload_n 0, 1) := by decide +kernel
theorem dX12_begin_1 : decode cX12_begin 1 = .ok (.iconst 0, 1) := by decide +kernel
theorem dX12_begin_2 : decode cX12_begin 2 = .ok (.putfield 270, 3) := by decide +kernel
theorem dX12_begin_5 : decode cX12_begin 5 = .ok (.aload_n 0, 1) := by decide +kernel
theorem dX12_begin_6 : decode cX12_begin 6 = .ok (.iload_n 1, 1) := by decide +kernel
theorem dX12_begin_7 : decode cX12_begin 7 = .ok (.invokevirtual 273, 3) := by decide +kernel
theorem dX12_begin_10 : decode cX12_begin 10 = .ok (.aload_n 0, 1) := by decide +kernel
theorem dX12_begin_11 : decode cX12_begin 11 = .ok (.iload_n 2, 1) := by decide +kernel
theorem dX12_begin_12 : decode cX12_begin 12 = .ok (.invokevirtual 273, 3) := by decide +kernel
theorem dX12_begin_15 : decode cX12_begin 15 = .ok (.return_, 1) := by decide +kernel
theorem dX12_wrap_0 : decode cX12_wrap 0 = .ok (.iload_n 1, 1) := by decide +kernel
theorem dX12_wrap_1 : decode cX12_wrap 1 = .ok (.sipush 192, 3) := by decide +kernel
theorem dX12_wrap_4 : decode cX12_wrap 4 = .ok (.if_icmp .eq 16, 3) := by decide +kernel
theorem dX12_wrap_7 : decode cX12_wrap 7 = .ok (.iload_n 1, 1) := by decide +kernel
theorem dX12_wrap_8 : decode cX12_wrap 8 = .ok (.sipush 193, 3) := by decide +kernel
theorem dX12_wrap_11 : decode cX12_wrap 11 = .ok (.if_icmp .eq 9, 3) := by decide +kernel
theorem dX12_wrap_14 : decode cX12_wrap 14 = .ok (.iload_n 1, 1) := by decide +kernel
theorem dX12_wrap_15 : decode cX12_wrap 15 = .ok (.bipush 125, 2) := by decide +kernel
theorem dX12_wrap_17 : decode cX12_wrap 17 = .ok (.if_icmp .ne 7, 3) := by decide +kernel
theorem dX12_wrap_20 : decode cX12_wrap 20 = .ok (.iconst 1, 1) := by decide +kernel
theorem dX12_wrap_21 : decode cX12_wrap 21 = .ok (.goto 4, 3) := by decide +kernel
theorem dX12_wrap_24 : decode cX12_wrap 24 = .ok (.iconst 0, 1) := by decide +kernel
theorem dX12_wrap_25 : decode cX12_wrap 25 = .ok (.istore_n 2, 1) := by decide +kernel
theorem dX12_wrap_26 : decode cX12_wrap 26 = .ok (.iload_n 2, 1) := by decide +kernel
theorem dX12_wrap_27 : decode cX12_wrap 27 = .ok (.ifCond .eq 24, 3) := by decide +kernel
theorem dX12_wrap_30 : decode cX12_wrap 30 = .ok (.aload_n 0, 1) := by decide +kernel
theorem dX12_wrap_31 : decode cX12_wrap 31 = .ok (.getfield 43, 3) := by decide +kernel
theorem dX12_wrap_34 : decode cX12_wrap 34 = .ok (.aload_n 0, 1) := by decide +kernel
theorem dX12_wrap_35 : decode cX12_wrap 35 = .ok (.getfield 276, 3) := by decide +kernel
theorem dX12_wrap_38 : decode cX12_wrap 38 = .ok (.bipush 125, 2) := by decide +kernel
theorem dX12_wrap_40 : decode cX12_wrap 40 = .ok (.iastore, 1) := by decide +kernel
theorem dX12_wrap_41 : decode cX12_wrap 41 = .ok (.aload_n 0, 1) := by decide +kernel
theorem dX12_wrap_42 : decode cX12_wrap 42 = .ok (.dup, 1) := by decide +kernel
theorem dX12_wrap_43 : decode cX12_wrap 43 = .ok (.getfield 276, 3) := by decide +kernel
theorem dX12_wrap_46 : decode cX12_wrap 46 = .ok (.iconst 1, 1) := by decide +kernel
theorem dX12_wrap_47 : decode cX12_wrap 47 = .ok (.iadd, 1) := by decide +kernel
theorem dX12_wrap_48 : decode cX12_wrap 48 = .ok (.putfield 276, 3) := by decide +kernel
theorem dX12_wrap_51 : decode cX12_wrap 51 = .ok (.aload_n 0, 1) := by decide +kernel
theorem dX12_wrap_52 : decode cX12_wrap 52 = .ok (.getfield 43, 3) := by decide +kernel
theorem dX12_wrap_55 : decode cX12_wrap 55 = .ok (.aload_n 0, 1) := by decide +kernel
theorem dX12_wrap_56 : decode cX12_wrap 56 = .ok (.getfield 276, 3) := by decide +kernel
theorem dX12_wrap_59 : decode cX12_wrap 59 = .ok (.iload_n 2, 1) := by decide +kernel
theorem dX12_wrap_60 : decode cX12_wrap 60 = .ok (.ifCond .eq 10, 3) := by decide +kernel
theorem dX12_wrap_63 : decode cX12_wrap 63 = .ok (.iload_n 1, 1) := by decide +kernel
theorem dX12_wrap_64 : decode cX12_wrap 64 = .ok (.bipush 32, 2) := by decide +kernel
theorem dX12_wrap_66 : decode cX12_wrap 66 = .ok (.ixor, 1) := by decide +kernel
theorem dX12_wrap_67 : decode cX12_wrap 67 = .ok (.goto 4, 3) := by decide +kernel
theorem dX12_wrap_70 : decode cX12_wrap 70 = .ok (.iload_n 1, 1) := by decide +kernel
theorem dX12_wrap_71 : decode cX12_wrap 71 = .ok (.iastore, 1) := by decide +kernel
theorem dX12_wrap_72 : decode cX12_wrap 72 = .ok (.aload_n 0, 1) := by decide +kernel
theorem dX12_wrap_73 : decode cX12_wrap 73 = .ok (.dup, 1) := by decide +kernel
theorem dX12_wrap_74 : decode cX12_wrap 74 = .ok (.getfield 276, 3) := by decide +kernel
theorem dX12_wrap_77 : decode cX12_wrap 77 = .ok (.iconst 1, 1) := by decide +kernel
theorem dX12_wrap_78 : decode cX12_wrap 78 = .ok (.iadd, 1) := by decide +kernel
theorem dX12_wrap_79 : decode cX12_wrap 79 = .ok (.putfield 276, 3) := by decide +kernel
theorem dX12_wrap_82 : decode cX12_wrap 82 = .ok (.return_, 1) := by decide +kernel
theorem dX12_send_0 : decode cX12_send 0 = .ok (.aload_n 0, 1) := by decide +kernel
theorem dX12_send_1 : decode cX12_send 1 = .ok (.getfield 40, 3) := by decide +kernel
theorem dX12_send_4 : decode cX12_send 4 = .ok (.iconst 0, 1) := by decide +kernel
theorem dX12_send_5 : decode cX12_send 5 = .ok (.aload_n 0, 1) := by decide +kernel
theorem dX12_send_6 : decode cX12_send 6 = .ok (.getfield 270, 3) := by decide +kernel
theorem dX12_send_9 : decode cX12_send 9 = .ok (.invokestatic 264, 3) := by decide +kernel
theorem dX12_send_12 : decode cX12_send 12 = .ok (.istore_n 2, 1) := by decide +kernel
theorem dX12_send_13 : decode cX12_send 13 = .ok (.aload_n 0, 1) := by decide +kernel
theorem dX12_send_14 : decode cX12_send 14 = .ok (.iconst 1, 1) := by decide +kernel
theorem dX12_send_15 : decode cX12_send 15 = .ok (.putfield 276, 3) := by decide +kernel
theorem dX12_send_18 : decode cX12_send 18 = .ok (.aload_n 0, 1) := by decide +kernel
theorem dX12_send_19 : decode cX12_send 19 = .ok (.getfield 43, 3) := by decide +kernel
theorem dX12_send_22 : decode cX12_send 22 = .ok (.iconst 0, 1) := by decide +kernel
theorem dX12_send_23 : decode cX12_send 23 = .ok (.sipush 192, 3) := by decide +kernel
theorem dX12_send_26 : decode cX12_send 26 = .ok (.iastore, 1) := by decide +kernel
theorem dX12_send_27 : decode cX12_send 27 = .ok (.iconst 0, 1) := by decide +kernel
theorem dX12_send_28 : decode cX12_send 28 = .ok (.istore_n 3, 1) := by decide +kernel
theorem dX12_send_29 : decode cX12_send 29 = .ok (.iload_n 3, 1) := by decide +kernel
theorem dX12_send_30 : decode cX12_send 30 = .ok (.aload_n 0, 1) := by decide +kernel
theorem dX12_send_31 : decode cX12_send 31 = .ok (.getfield 270, 3) := by decide +kernel
theorem dX12_send_34 : decode cX12_send 34 = .ok (.if_icmp .ge 19, 3) := by decide +kernel
theorem dX12_send_37 : decode cX12_send 37 = .ok (.aload_n 0, 1) := by decide +kernel
theorem dX12_send_38 : decode cX12_send 38 = .ok (.aload_n 0, 1) := by decide +kernel
theorem dX12_send_39 : decode cX12_send 39 = .ok (.getfield 40, 3) := by decide +kernel
theorem dX12_send_42 : decode cX12_send 42 = .ok (.iload_n 3, 1) := by decide +kernel
theorem dX12_send_43 : decode cX12_send 43 = .ok (.iaload, 1) := by decide +kernel
theorem dX12_send_44 : decode cX12_send 44 = .ok (.invokevirtual 279, 3) := by decide +kernel
theorem dX12_send_47 : decode cX12_send 47 = .ok (.iinc 3 1, 3) := by decide +kernel
theorem dX12_send_50 : decode cX12_send 50 = .ok (.goto (-21), 3) := by decide +kernel
theorem dX12_send_53 : decode cX12_send 53 = .ok (.aload_n 0, 1) := by decide +kernel
theorem dX12_send_54 : decode cX12_send 54 = .ok (.iload_n 2, 1) := by decide +kernel
theorem dX12_send_55 : decode cX12_send 55 = .ok (.sipush 255, 3) := by decide +kernel
theorem dX12_send_58 : decode cX12_send 58 = .ok (.iand, 1) := by decide +kernel
theorem dX12_send_59 : decode cX12_send 59 = .ok (.invokevirtual 279, 3) := by decide +kernel
theorem dX12_send_62 : decode cX12_send 62 = .ok (.aload_n 0, 1) := by decide +kernel
theorem dX12_send_63 : decode cX12_send 63 = .ok (.iload_n 2, 1) := by decide +kernel
theorem dX12_send_64 : decode cX12_send 64 = .ok (.bipush 8, 2) := by decide +kernel
theorem dX12_send_66 : decode cX12_send 66 = .ok (.ishr, 1) := by decide +kernel
theorem dX12_send_67 : decode cX12_send 67 = .ok (.invokevirtual 279, 3) := by decide +kernel
theorem dX12_send_70 : decode cX12_send 70 = .ok (.aload_n 0, 1) := by decide +kernel
theorem dX12_send_71 : decode cX12_send 71 = .ok (.getfield 43, 3) := by decide +kernel
theorem dX12_send_74 : decode cX12_send 74 = .ok (.aload_n 0, 1) := by decide +kernel
theorem dX12_send_75 : decode cX12_send 75 = .ok (.getfield 276, 3) := by decide +kernel
theorem dX12_send_78 : decode cX12_send 78 = .ok (.sipush 193, 3) := by decide +kernel
theorem dX12_send_81 : decode cX12_send 81 = .ok (.iastore, 1) := by decide +kernel
theorem dX12_send_82 : decode cX12_send 82 = .ok (.aload_n 0, 1) := by decide +kernel
theorem dX12_send_83 : decode cX12_send 83 = .ok (.dup, 1) := by decide +kernel
theorem dX12_send_84 : decode cX12_send 84 = .ok (.getfield 276, 3) := by decide +kernel
theorem dX12_send_87 : decode cX12_send 87 = .ok (.iconst 1, 1) := by decide +kernel
theorem dX12_send_88 : decode cX12_send 88 = .ok (.iadd, 1) := by decide +kernel
theorem dX12_send_89 : decode cX12_send 89 = .ok (.putfield 276, 3) := by decide +kernel
theorem dX12_send_92 : decode cX12_send 92 = .ok (.aload_n 0, 1) := by decide +kernel
theorem dX12_send_93 : decode cX12_send 93 = .ok (.getfield 28, 3) := by decide +kernel
theorem dX12_send_96 : decode cX12_send 96 = .ok (.iload_n 1, 1) := by decide +kernel
theorem dX12_send_97 : decode cX12_send 97 = .ok (.iaload, 1) := by decide +kernel
theorem dX12_send_98 : decode cX12_send 98 = .ok (.aload_n 0, 1) := by decide +kernel
theorem dX12_send_99 : decode cX12_send 99 = .ok (.getfield 276, 3) := by decide +kernel
theorem dX12_send_102 : decode cX12_send 102 = .ok (.iadd, 1) := by decide +kernel
theorem dX12_send_103 : decode cX12_send 103 = .ok (.sipush 4000, 3) := by decide +kernel
theorem dX12_send_106 : decode cX12_send 106 = .ok (.if_icmp .le 4, 3) := by decide +kernel
theorem dX12_send_109 : decode cX12_send 109 = .ok (.return_, 1) := by decide +kernel
theorem dX12_send_110 : decode cX12_send 110 = .ok (.iconst 0, 1) := by decide +kernel
theorem dX12_send_111 : decode cX12_send 111 = .ok (.istore_n 3, 1) := by decide +kernel
theorem dX12_send_112 : decode cX12_send 112 = .ok (.iload_n 3, 1) := by decide +kernel
theorem dX12_send_113 : decode cX12_send 113 = .ok (.aload_n 0, 1) := by decide +kernel
theorem dX12_send_114 : decode cX12_send 114 = .ok (.getfield 276, 3) := by decide +kernel
theorem dX12_send_117 : decode cX12_send 117 = .ok (.if_icmp .ge 34, 3) := by decide +kernel
theorem dX12_send_120 : decode cX12_send 120 = .ok (.aload_n 0, 1) := by decide +kernel
theorem dX12_send_121 : decode cX12_send 121 = .ok (.getfield 31, 3) := by decide +kernel
theorem dX12_send_124 : decode cX12_send 124 = .ok (.sipush 4000, 3) := by decide +kernel
theorem dX12_send_127 : decode cX12_send 127 = .ok (.iload_n 1, 1) := by decide +kernel
theorem dX12_send_128 : decode cX12_send 128 = .ok (.imul, 1) := by decide +kernel
theorem dX12_send_129 : decode cX12_send 129 = .ok (.aload_n 0, 1) := by decide +kernel
theorem dX12_send_130 : decode cX12_send 130 = .ok (.getfield 28, 3) := by decide +kernel
theorem dX12_send_133 : decode cX12_send 133 = .ok (.iload_n 1, 1) := by decide +kernel
theorem dX12_send_134 : decode cX12_send 134 = .ok (.iaload, 1) := by decide +kernel
theorem dX12_send_135 : decode cX12_send 135 = .ok (.iadd, 1) := by decide +kernel
theorem dX12_send_136 : decode cX12_send 136 = .ok (.iload_n 3, 1) := by decide +kernel
theorem dX12_send_137 : decode cX12_send 137 = .ok (.iadd, 1) := by decide +kernel
theorem dX12_send_138 : decode cX12_send 138 = .ok (.aload_n 0, 1) := by decide +kernel
theorem dX12_send_139 : decode cX12_send 139 = .ok (.getfield 43, 3) := by decide +kernel
theorem dX12_send_142 : decode cX12_send 142 = .ok (.iload_n 3, 1) := by decide +kernel
theorem dX12_send_143 : decode cX12_send 143 = .ok (.iaload, 1) := by decide +kernel
theorem dX12_send_144 : decode cX12_send 144 = .ok (.iastore, 1) := by decide +kernel
theorem dX12_send_145 : decode cX12_send 145 = .ok (.iinc 3 1, 3) := by decide +kernel
theorem dX12_send_148 : decode cX12_send 148 = .ok (.goto (-36), 3) := by decide +kernel
theorem dX12_send_151 : decode cX12_send 151 = .ok (.aload_n 0, 1) := by decide +kernel
theorem dX12_send_152 : decode cX12_send 152 = .ok (.getfield 28, 3) := by decide +kernel
theorem dX12_send_155 : decode cX12_send 155 = .ok (.iload_n 1, 1) := by decide +kernel
theorem dX12_send_156 : decode cX12_send 156 = .ok (.dup2, 1) := by decide +kernel
theorem dX12_send_157 : decode cX12_send 157 = .ok (.iaload, 1) := by decide +kernel
theorem dX12_send_158 : decode cX12_send 158 = .ok (.aload_n 0, 1) := by decide +kernel
theorem dX12_send_159 : decode cX12_send 159 = .ok (.getfield 276, 3) := by decide +kernel
theorem dX12_send_162 : decode cX12_send 162 = .ok (.iadd, 1) := by decide +kernel
theorem dX12_send_163 : decode cX12_send 163 = .ok (.iastore, 1) := by decide +kernel
theorem dX12_send_164 : decode cX12_send 164 = .ok (.return_, 1) := by decide +kernel
theorem dX12_hear_0 : decode cX12_hear 0 = .ok (.iload_n 1, 1) := by decide +kernel
theorem dX12_hear_1 : decode cX12_hear 1 = .ok (.invokestatic 246, 3) := by decide +kernel
theorem dX12_hear_4 : decode cX12_hear 4 = .ok (.ifCond .ne 5, 3) := by decide +kernel
theorem dX12_hear_7 : decode cX12_hear 7 = .ok (.iconst (-1), 1) := by decide +kernel
theorem dX12_hear_8 : decode cX12_hear 8 = .ok (.ireturn, 1) := by decide +kernel
theorem dX12_hear_9 : decode cX12_hear 9 = .ok (.iload_n 2, 1) := by decide +kernel
theorem dX12_hear_10 : decode cX12_hear 10 = .ok (.ifCond .lt 17, 3) := by decide +kernel
theorem dX12_hear_13 : decode cX12_hear 13 = .ok (.iload_n 3, 1) := by decide +kernel
theorem dX12_hear_14 : decode cX12_hear 14 = .ok (.ifCond .lt 13, 3) := by decide +kernel
theorem dX12_hear_17 : decode cX12_hear 17 = .ok (.iload_n 3, 1) := by decide +kernel
theorem dX12_hear_18 : decode cX12_hear 18 = .ok (.aload_n 0, 1) := by decide +kernel
theorem dX12_hear_19 : decode cX12_hear 19 = .ok (.getfield 250, 3) := by decide +kernel
theorem dX12_hear_22 : decode cX12_hear 22 = .ok (.iload_n 2, 1) := by decide +kernel
theorem dX12_hear_23 : decode cX12_hear 23 = .ok (.isub, 1) := by decide +kernel
theorem dX12_hear_24 : decode cX12_hear 24 = .ok (.if_icmp .le 6, 3) := by decide +kernel
theorem dX12_hear_27 : decode cX12_hear 27 = .ok (.bipush (-2), 2) := by decide +kernel
theorem dX12_hear_29 : decode cX12_hear 29 = .ok (.ireturn, 1) := by decide +kernel
theorem dX12_hear_30 : decode cX12_hear 30 = .ok (.iconst 0, 1) := by decide +kernel
theorem dX12_hear_31 : decode cX12_hear 31 = .ok (.istore 4, 2) := by decide +kernel
theorem dX12_hear_33 : decode cX12_hear 33 = .ok (.iconst 0, 1) := by decide +kernel
theorem dX12_hear_34 : decode cX12_hear 34 = .ok (.istore 5, 2) := by decide +kernel
theorem dX12_hear_36 : decode cX12_hear 36 = .ok (.iload 5, 2) := by decide +kernel
theorem dX12_hear_38 : decode cX12_hear 38 = .ok (.iload_n 3, 1) := by decide +kernel
theorem dX12_hear_39 : decode cX12_hear 39 = .ok (.if_icmp .ge 36, 3) := by decide +kernel
theorem dX12_hear_42 : decode cX12_hear 42 = .ok (.iload 4, 2) := by decide +kernel
theorem dX12_hear_44 : decode cX12_hear 44 = .ok (.aload_n 0, 1) := by decide +kernel
theorem dX12_hear_45 : decode cX12_hear 45 = .ok (.iload_n 1, 1) := by decide +kernel
theorem dX12_hear_46 : decode cX12_hear 46 = .ok (.aload_n 0, 1) := by decide +kernel
theorem dX12_hear_47 : decode cX12_hear 47 = .ok (.getfield 37, 3) := by decide +kernel
theorem dX12_hear_50 : decode cX12_hear 50 = .ok (.iload_n 2, 1) := by decide +kernel
theorem dX12_hear_51 : decode cX12_hear 51 = .ok (.iload 5, 2) := by decide +kernel
theorem dX12_hear_53 : decode cX12_hear 53 = .ok (.iadd, 1) := by decide +kernel
theorem dX12_hear_54 : decode cX12_hear 54 = .ok (.iaload, 1) := by decide +kernel
theorem dX12_hear_55 : decode cX12_hear 55 = .ok (.invokevirtual 294, 3) := by decide +kernel
theorem dX12_hear_58 : decode cX12_hear 58 = .ok (.ifCond .eq 7, 3) := by decide +kernel
theorem dX12_hear_61 : decode cX12_hear 61 = .ok (.iconst 1, 1) := by decide +kernel
theorem dX12_hear_62 : decode cX12_hear 62 = .ok (.goto 4, 3) := by decide +kernel
theorem dX12_hear_65 : decode cX12_hear 65 = .ok (.iconst 0, 1) := by decide +kernel
theorem dX12_hear_66 : decode cX12_hear 66 = .ok (.iadd, 1) := by decide +kernel
theorem dX12_hear_67 : decode cX12_hear 67 = .ok (.istore 4, 2) := by decide +kernel
theorem dX12_hear_69 : decode cX12_hear 69 = .ok (.iinc 5 1, 3) := by decide +kernel
theorem dX12_hear_72 : decode cX12_hear 72 = .ok (.goto (-36), 3) := by decide +kernel
theorem dX12_hear_75 : decode cX12_hear 75 = .ok (.iload 4, 2) := by decide +kernel
theorem dX12_hear_77 : decode cX12_hear 77 = .ok (.ireturn, 1) := by decide +kernel
theorem dX12_talk_0 : decode cX12_talk 0 = .ok (.iload_n 1, 1) := by decide +kernel
theorem dX12_talk_1 : decode cX12_talk 1 = .ok (.invokestatic 246, 3) := by decide +kernel
theorem dX12_talk_4 : decode cX12_talk 4 = .ok (.ifCond .eq 15, 3) := by decide +kernel
theorem dX12_talk_7 : decode cX12_talk 7 = .ok (.iload_n 2, 1) := by decide +kernel
theorem dX12_talk_8 : decode cX12_talk 8 = .ok (.invokestatic 246, 3) := by decide +kernel
theorem dX12_talk_11 : decode cX12_talk 11 = .ok (.ifCond .eq 8, 3) := by decide +kernel
theorem dX12_talk_14 : decode cX12_talk 14 = .ok (.iload_n 1, 1) := by decide +kernel
theorem dX12_talk_15 : decode cX12_talk 15 = .ok (.iload_n 2, 1) := by decide +kernel
theorem dX12_talk_16 : decode cX12_talk 16 = .ok (.if_icmp .ne 5, 3) := by decide +kernel
theorem dX12_talk_19 : decode cX12_talk 19 = .ok (.iconst (-1), 1) := by decide +kernel
theorem dX12_talk_20 : decode cX12_talk 20 = .ok (.ireturn, 1) := by decide +kernel
theorem dX12_talk_21 : decode cX12_talk 21 = .ok (.iload_n 3, 1) := by decide +kernel
theorem dX12_talk_22 : decode cX12_talk 22 = .ok (.iconst 1, 1) := by decide +kernel
theorem dX12_talk_23 : decode cX12_talk 23 = .ok (.if_icmp .lt 9, 3) := by decide +kernel
theorem dX12_talk_26 : decode cX12_talk 26 = .ok (.iload_n 3, 1) := by decide +kernel
theorem dX12_talk_27 : decode cX12_talk 27 = .ok (.bipush 20, 2) := by decide +kernel
theorem dX12_talk_29 : decode cX12_talk 29 = .ok (.if_icmp .le 6, 3) := by decide +kernel
theorem dX12_talk_32 : decode cX12_talk 32 = .ok (.bipush (-2), 2) := by decide +kernel
theorem dX12_talk_34 : decode cX12_talk 34 = .ok (.ireturn, 1) := by decide +kernel
theorem dX12_talk_35 : decode cX12_talk 35 = .ok (.iconst 0, 1) := by decide +kernel
theorem dX12_talk_36 : decode cX12_talk 36 = .ok (.istore 4, 2) := by decide +kernel
theorem dX12_talk_38 : decode cX12_talk 38 = .ok (.iconst 0, 1) := by decide +kernel
theorem dX12_talk_39 : decode cX12_talk 39 = .ok (.istore 5, 2) := by decide +kernel
theorem dX12_talk_41 : decode cX12_talk 41 = .ok (.iload 5, 2) := by decide +kernel
theorem dX12_talk_43 : decode cX12_talk 43 = .ok (.iload_n 3, 1) := by decide +kernel
theorem dX12_talk_44 : decode cX12_talk 44 = .ok (.if_icmp .ge 49, 3) := by decide +kernel
theorem dX12_talk_47 : decode cX12_talk 47 = .ok (.aload_n 0, 1) := by decide +kernel
theorem dX12_talk_48 : decode cX12_talk 48 = .ok (.getfield 28, 3) := by decide +kernel
theorem dX12_talk_51 : decode cX12_talk 51 = .ok (.iload_n 1, 1) := by decide +kernel
theorem dX12_talk_52 : decode cX12_talk 52 = .ok (.iaload, 1) := by decide +kernel
theorem dX12_talk_53 : decode cX12_talk 53 = .ok (.ifCond .gt 12, 3) := by decide +kernel
theorem dX12_talk_56 : decode cX12_talk 56 = .ok (.aload_n 0, 1) := by decide +kernel
theorem dX12_talk_57 : decode cX12_talk 57 = .ok (.getfield 28, 3) := by decide +kernel
theorem dX12_talk_60 : decode cX12_talk 60 = .ok (.iload_n 2, 1) := by decide +kernel
theorem dX12_talk_61 : decode cX12_talk 61 = .ok (.iaload, 1) := by decide +kernel
theorem dX12_talk_62 : decode cX12_talk 62 = .ok (.ifCond .le 31, 3) := by decide +kernel
theorem dX12_talk_65 : decode cX12_talk 65 = .ok (.iload 4, 2) := by decide +kernel
theorem dX12_talk_67 : decode cX12_talk 67 = .ok (.aload_n 0, 1) := by decide +kernel
theorem dX12_talk_68 : decode cX12_talk 68 = .ok (.iload_n 1, 1) := by decide +kernel
theorem dX12_talk_69 : decode cX12_talk 69 = .ok (.iload_n 2, 1) := by decide +kernel
theorem dX12_talk_70 : decode cX12_talk 70 = .ok (.invokevirtual 298, 3) := by decide +kernel
theorem dX12_talk_73 : decode cX12_talk 73 = .ok (.iadd, 1) := by decide +kernel
theorem dX12_talk_74 : decode cX12_talk 74 = .ok (.istore 4, 2) := by decide +kernel
theorem dX12_talk_76 : decode cX12_talk 76 = .ok (.iload 4, 2) := by decide +kernel
theorem dX12_talk_78 : decode cX12_talk 78 = .ok (.aload_n 0, 1) := by decide +kernel
theorem dX12_talk_79 : decode cX12_talk 79 = .ok (.iload_n 2, 1) := by decide +kernel
theorem dX12_talk_80 : decode cX12_talk 80 = .ok (.iload_n 1, 1) := by decide +kernel
theorem dX12_talk_81 : decode cX12_talk 81 = .ok (.invokevirtual 298, 3) := by decide +kernel
theorem dX12_talk_84 : decode cX12_talk 84 = .ok (.iadd, 1) := by decide +kernel
theorem dX12_talk_85 : decode cX12_talk 85 = .ok (.istore 4, 2) := by decide +kernel
theorem dX12_talk_87 : decode cX12_talk 87 = .ok (.iinc 5 1, 3) := by decide +kernel
theorem dX12_talk_90 : decode cX12_talk 90 = .ok (.goto (-49), 3) := by decide +kernel
theorem dX12_talk_93 : decode cX12_talk 93 = .ok (.iload 4, 2) := by decide +kernel
theorem dX12_talk_95 : decode cX12_talk 95 = .ok (.ireturn, 1) := by decide +kernel
theorem dX12_areSlots_0 : decode cX12_areSlots 0 = .ok (.iload_n 0, 1) := by decide +kernel
theorem dX12_areSlots_1 : decode cX12_areSlots 1 = .ok (.iconst 1, 1) := by decide +kernel
theorem dX12_areSlots_2 : decode cX12_areSlots 2 = .ok (.if_icmp .eq 21, 3) := by decide +kernel
theorem dX12_areSlots_5 : decode cX12_areSlots 5 = .ok (.iload_n 0, 1) := by decide +kernel
theorem dX12_areSlots_6 : decode cX12_areSlots 6 = .ok (.bipush 6, 2) := by decide +kernel
theorem dX12_areSlots_8 : decode cX12_areSlots 8 = .ok (.if_icmp .eq 15, 3) := by decide +kernel
theorem dX12_areSlots_11 : decode cX12_areSlots 11 = .ok (.iload_n 0, 1) := by decide +kernel
theorem dX12_areSlots_12 : decode cX12_areSlots 12 = .ok (.bipush 8, 2) := by decide +kernel
theorem dX12_areSlots_14 : decode cX12_areSlots 14 = .ok (.if_icmp .eq 9, 3) := by decide +kernel
theorem dX12_areSlots_17 : decode cX12_areSlots 17 = .ok (.iload_n 0, 1) := by decide +kernel
theorem dX12_areSlots_18 : decode cX12_areSlots 18 = .ok (.bipush 16, 2) := by decide +kernel
theorem dX12_areSlots_20 : decode cX12_areSlots 20 = .ok (.if_icmp .ne 7, 3) := by decide +kernel
theorem dX12_areSlots_23 : decode cX12_areSlots 23 = .ok (.iconst 1, 1) := by decide +kernel
theorem dX12_areSlots_24 : decode cX12_areSlots 24 = .ok (.goto 4, 3) := by decide +kernel
theorem dX12_areSlots_27 : decode cX12_areSlots 27 = .ok (.iconst 0, 1) := by decide +kernel
theorem dX12_areSlots_28 : decode cX12_areSlots 28 = .ok (.ireturn, 1) := by decide +kernel
theorem dX12_discover_0 : decode cX12_discover 0 = .ok (.iload_n 1, 1) := by decide +kernel
theorem dX12_discover_1 : decode cX12_discover 1 = .ok (.invokestatic 246, 3) := by decide +kernel
theorem dX12_discover_4 : decode cX12_discover 4 = .ok (.ifCond .ne 5, 3) := by decide +kernel
theorem dX12_discover_7 : decode cX12_discover 7 = .ok (.iconst (-1), 1) := by decide +kernel
theorem dX12_discover_8 : decode cX12_discover 8 = .ok (.ireturn, 1) := by decide +kernel
theorem dX12_discover_9 : decode cX12_discover 9 = .ok (.aload_n 0, 1) := by decide +kernel
theorem dX12_discover_10 : decode cX12_discover 10 = .ok (.getfield 16, 3) := by decide +kernel
theorem dX12_discover_13 : decode cX12_discover 13 = .ok (.iload_n 1, 1) := by decide +kernel
theorem dX12_discover_14 : decode cX12_discover 14 = .ok (.iaload, 1) := by decide +kernel
theorem dX12_discover_15 : decode cX12_discover 15 = .ok (.ifCond .eq 6, 3) := by decide +kernel
theorem dX12_discover_18 : decode cX12_discover 18 = .ok (.bipush (-2), 2) := by decide +kernel
theorem dX12_discover_20 : decode cX12_discover 20 = .ok (.ireturn, 1) := by decide +kernel
theorem dX12_discover_21 : decode cX12_discover 21 = .ok (.iload_n 2, 1) := by decide +kernel
theorem dX12_discover_22 : decode cX12_discover 22 = .ok (.invokestatic 335, 3) := by decide +kernel
theorem dX12_discover_25 : decode cX12_discover 25 = .ok (.ifCond .ne 6, 3) := by decide +kernel
theorem dX12_discover_28 : decode cX12_discover 28 = .ok (.bipush (-3), 2) := by decide +kernel
theorem dX12_discover_30 : decode cX12_discover 30 = .ok (.ireturn, 1) := by decide +kernel
theorem dX12_discover_31 : decode cX12_discover 31 = .ok (.aload_n 0, 1) := by decide +kernel
theorem dX12_discover_32 : decode cX12_discover 32 = .ok (.getfield 16, 3) := by decide +kernel
theorem dX12_discover_35 : decode cX12_discover 35 = .ok (.iload_n 1, 1) := by decide +kernel
theorem dX12_discover_36 : decode cX12_discover 36 = .ok (.iconst 1, 1) := by decide +kernel
theorem dX12_discover_37 : decode cX12_discover 37 = .ok (.iastore, 1) := by decide +kernel
theorem dX12_discover_38 : decode cX12_discover 38 = .ok (.aload_n 0, 1) := by decide +kernel
theorem dX12_discover_39 : decode cX12_discover 39 = .ok (.getfield 71, 3) := by decide +kernel
theorem dX12_discover_42 : decode cX12_discover 42 = .ok (.iload_n 1, 1) := by decide +kernel
theorem dX12_discover_43 : decode cX12_discover 43 = .ok (.iload_n 2, 1) := by decide +kernel
theorem dX12_discover_44 : decode cX12_discover 44 = .ok (.iastore, 1) := by decide +kernel
theorem dX12_discover_45 : decode cX12_discover 45 = .ok (.aload_n 0, 1) := by decide +kernel
theorem dX12_discover_46 : decode cX12_discover 46 = .ok (.getfield 74, 3) := by decide +kernel
theorem dX12_discover_49 : decode cX12_discover 49 = .ok (.iload_n 1, 1) := by decide +kernel
theorem dX12_discover_50 : decode cX12_discover 50 = .ok (.iconst 0, 1) := by decide +kernel
theorem dX12_discover_51 : decode cX12_discover 51 = .ok (.iastore, 1) := by decide +kernel
theorem dX12_discover_52 : decode cX12_discover 52 = .ok (.aload_n 0, 1) := by decide +kernel
theorem dX12_discover_53 : decode cX12_discover 53 = .ok (.getfield 77, 3) := by decide +kernel
theorem dX12_discover_56 : decode cX12_discover 56 = .ok (.iload_n 1, 1) := by decide +kernel
theorem dX12_discover_57 : decode cX12_discover 57 = .ok (.iconst 0, 1) := by decide +kernel
theorem dX12_discover_58 : decode cX12_discover 58 = .ok (.iastore, 1) := by decide +kernel
theorem dX12_discover_59 : decode cX12_discover 59 = .ok (.iconst 1, 1) := by decide +kernel
theorem dX12_discover_60 : decode cX12_discover 60 = .ok (.ireturn, 1) := by decide +kernel
theorem dX12_listed_0 : decode cX12_listed 0 = .ok (.iload_n 1, 1) := by decide +kernel
theorem dX12_listed_1 : decode cX12_listed 1 = .ok (.invokestatic 246, 3) := by decide +kernel
theorem dX12_listed_4 : decode cX12_listed 4 = .ok (.ifCond .eq 31, 3) := by decide +kernel
theorem dX12_listed_7 : decode cX12_listed 7 = .ok (.iload_n 2, 1) := by decide +kernel
theorem dX12_listed_8 : decode cX12_listed 8 = .ok (.ifCond .lt 27, 3) := by decide +kernel
theorem dX12_listed_11 : decode cX12_listed 11 = .ok (.iload_n 2, 1) := by decide +kernel
theorem dX12_listed_12 : decode cX12_listed 12 = .ok (.aload_n 0, 1) := by decide +kernel
theorem dX12_listed_13 : decode cX12_listed 13 = .ok (.getfield 77, 3) := by decide +kernel
theorem dX12_listed_16 : decode cX12_listed 16 = .ok (.iload_n 1, 1) := by decide +kernel
theorem dX12_listed_17 : decode cX12_listed 17 = .ok (.iaload, 1) := by decide +kernel
theorem dX12_listed_18 : decode cX12_listed 18 = .ok (.if_icmp .ge 17, 3) := by decide +kernel
theorem dX12_listed_21 : decode cX12_listed 21 = .ok (.aload_n 0, 1) := by decide +kernel
theorem dX12_listed_22 : decode cX12_listed 22 = .ok (.getfield 80, 3) := by decide +kernel
theorem dX12_listed_25 : decode cX12_listed 25 = .ok (.bipush 8, 2) := by decide +kernel
theorem dX12_listed_27 : decode cX12_listed 27 = .ok (.iload_n 1, 1) := by decide +kernel
theorem dX12_listed_28 : decode cX12_listed 28 = .ok (.imul, 1) := by decide +kernel
theorem dX12_listed_29 : decode cX12_listed 29 = .ok (.iload_n 2, 1) := by decide +kernel
theorem dX12_listed_30 : decode cX12_listed 30 = .ok (.iadd, 1) := by decide +kernel
theorem dX12_listed_31 : decode cX12_listed 31 = .ok (.iaload, 1) := by decide +kernel
theorem dX12_listed_32 : decode cX12_listed 32 = .ok (.goto 4, 3) := by decide +kernel
theorem dX12_listed_35 : decode cX12_listed 35 = .ok (.iconst 0, 1) := by decide +kernel
theorem dX12_listed_36 : decode cX12_listed 36 = .ok (.ireturn, 1) := by decide +kernel
theorem dX12_call_0 : decode cX12_call 0 = .ok (.iload_n 1, 1) := by decide +kernel
theorem dX12_call_1 : decode cX12_call 1 = .ok (.invokestatic 246, 3) := by decide +kernel
theorem dX12_call_4 : decode cX12_call 4 = .ok (.ifCond .ne 5, 3) := by decide +kernel
theorem dX12_call_7 : decode cX12_call 7 = .ok (.iconst (-1), 1) := by decide +kernel
theorem dX12_call_8 : decode cX12_call 8 = .ok (.ireturn, 1) := by decide +kernel
theorem dX12_call_9 : decode cX12_call 9 = .ok (.aload_n 0, 1) := by decide +kernel
theorem dX12_call_10 : decode cX12_call 10 = .ok (.getfield 16, 3) := by decide +kernel
theorem dX12_call_13 : decode cX12_call 13 = .ok (.iload_n 1, 1) := by decide +kernel
theorem dX12_call_14 : decode cX12_call 14 = .ok (.iaload, 1) := by decide +kernel
theorem dX12_call_15 : decode cX12_call 15 = .ok (.ifCond .eq 6, 3) := by decide +kernel
theorem dX12_call_18 : decode cX12_call 18 = .ok (.bipush (-2), 2) := by decide +kernel
theorem dX12_call_20 : decode cX12_call 20 = .ok (.ireturn, 1) := by decide +kernel
theorem dX12_call_21 : decode cX12_call 21 = .ok (.iload_n 3, 1) := by decide +kernel
theorem dX12_call_22 : decode cX12_call 22 = .ok (.iconst 1, 1) := by decide +kernel
theorem dX12_call_23 : decode cX12_call 23 = .ok (.if_icmp .lt 9, 3) := by decide +kernel
theorem dX12_call_26 : decode cX12_call 26 = .ok (.iload_n 3, 1) := by decide +kernel
theorem dX12_call_27 : decode cX12_call 27 = .ok (.bipush 7, 2) := by decide +kernel
theorem dX12_call_29 : decode cX12_call 29 = .ok (.if_icmp .le 6, 3) := by decide +kernel
theorem dX12_call_32 : decode cX12_call 32 = .ok (.bipush (-3), 2) := by decide +kernel
theorem dX12_call_34 : decode cX12_call 34 = .ok (.ireturn, 1) := by decide +kernel
theorem dX12_call_35 : decode cX12_call 35 = .ok (.aload_n 0, 1) := by decide +kernel
theorem dX12_call_36 : decode cX12_call 36 = .ok (.getfield 16, 3) := by decide +kernel
theorem dX12_call_39 : decode cX12_call 39 = .ok (.iload_n 1, 1) := by decide +kernel
theorem dX12_call_40 : decode cX12_call 40 = .ok (.iconst 2, 1) := by decide +kernel
theorem dX12_call_41 : decode cX12_call 41 = .ok (.iastore, 1) := by decide +kernel
theorem dX12_call_42 : decode cX12_call 42 = .ok (.aload_n 0, 1) := by decide +kernel
theorem dX12_call_43 : decode cX12_call 43 = .ok (.getfield 19, 3) := by decide +kernel
theorem dX12_call_46 : decode cX12_call 46 = .ok (.iload_n 1, 1) := by decide +kernel
theorem dX12_call_47 : decode cX12_call 47 = .ok (.iconst 1, 1) := by decide +kernel
theorem dX12_call_48 : decode cX12_call 48 = .ok (.aload_n 0, 1) := by decide +kernel
theorem dX12_call_49 : decode cX12_call 49 = .ok (.iload_n 1, 1) := by decide +kernel
theorem dX12_call_50 : decode cX12_call 50 = .ok (.bipush 126, 2) := by decide +kernel
theorem dX12_call_52 : decode cX12_call 52 = .ok (.invokevirtual 338, 3) := by decide +kernel
theorem dX12_call_55 : decode cX12_call 55 = .ok (.iadd, 1) := by decide +kernel
theorem dX12_call_56 : decode cX12_call 56 = .ok (.iastore, 1) := by decide +kernel
theorem dX12_call_57 : decode cX12_call 57 = .ok (.aload_n 0, 1) := by decide +kernel
theorem dX12_call_58 : decode cX12_call 58 = .ok (.getfield 25, 3) := by decide +kernel
theorem dX12_call_61 : decode cX12_call 61 = .ok (.iload_n 1, 1) := by decide +kernel
theorem dX12_call_62 : decode cX12_call 62 = .ok (.iload_n 2, 1) := by decide +kernel
theorem dX12_call_63 : decode cX12_call 63 = .ok (.iastore, 1) := by decide +kernel
theorem dX12_call_64 : decode cX12_call 64 = .ok (.aload_n 0, 1) := by decide +kernel
theorem dX12_call_65 : decode cX12_call 65 = .ok (.getfield 131, 3) := by decide +kernel
theorem dX12_call_68 : decode cX12_call 68 = .ok (.iload_n 1, 1) := by decide +kernel
theorem dX12_call_69 : decode cX12_call 69 = .ok (.iload_n 3, 1) := by decide +kernel
theorem dX12_call_70 : decode cX12_call 70 = .ok (.iastore, 1) := by decide +kernel
theorem dX12_call_71 : decode cX12_call 71 = .ok (.aload_n 0, 1) := by decide +kernel
theorem dX12_call_72 : decode cX12_call 72 = .ok (.getfield 119, 3) := by decide +kernel
theorem dX12_call_75 : decode cX12_call 75 = .ok (.iload_n 1, 1) := by decide +kernel
theorem dX12_call_76 : decode cX12_call 76 = .ok (.iconst 0, 1) := by decide +kernel
theorem dX12_call_77 : decode cX12_call 77 = .ok (.iastore, 1) := by decide +kernel
theorem dX12_call_78 : decode cX12_call 78 = .ok (.aload_n 0, 1) := by decide +kernel
theorem dX12_call_79 : decode cX12_call 79 = .ok (.iload_n 1, 1) := by decide +kernel
theorem dX12_call_80 : decode cX12_call 80 = .ok (.invokevirtual 347, 3) := by decide +kernel
theorem dX12_call_83 : decode cX12_call 83 = .ok (.aload_n 0, 1) := by decide +kernel
theorem dX12_call_84 : decode cX12_call 84 = .ok (.getfield 19, 3) := by decide +kernel
theorem dX12_call_87 : decode cX12_call 87 = .ok (.iload_n 1, 1) := by decide +kernel
theorem dX12_call_88 : decode cX12_call 88 = .ok (.iaload, 1) := by decide +kernel
theorem dX12_call_89 : decode cX12_call 89 = .ok (.ireturn, 1) := by decide +kernel
theorem dX12_calls_0 : decode cX12_calls 0 = .ok (.aload_n 0, 1) := by decide +kernel
theorem dX12_calls_1 : decode cX12_calls 1 = .ok (.sipush 255, 3) := by decide +kernel
theorem dX12_calls_4 : decode cX12_calls 4 = .ok (.sipush 147, 3) := by decide +kernel
theorem dX12_calls_7 : decode cX12_calls 7 = .ok (.invokevirtual 318, 3) := by decide +kernel
theorem dX12_calls_10 : decode cX12_calls 10 = .ok (.aload_n 0, 1) := by decide +kernel
theorem dX12_calls_11 : decode cX12_calls 11 = .ok (.aload_n 0, 1) := by decide +kernel
theorem dX12_calls_12 : decode cX12_calls 12 = .ok (.getfield 7, 3) := by decide +kernel
theorem dX12_calls_15 : decode cX12_calls 15 = .ok (.iload_n 1, 1) := by decide +kernel
theorem dX12_calls_16 : decode cX12_calls 16 = .ok (.iaload, 1) := by decide +kernel
theorem dX12_calls_17 : decode cX12_calls 17 = .ok (.invokevirtual 341, 3) := by decide +kernel
theorem dX12_calls_20 : decode cX12_calls 20 = .ok (.aload_n 0, 1) := by decide +kernel
theorem dX12_calls_21 : decode cX12_calls 21 = .ok (.aload_n 0, 1) := by decide +kernel
theorem dX12_calls_22 : decode cX12_calls 22 = .ok (.getfield 25, 3) := by decide +kernel
theorem dX12_calls_25 : decode cX12_calls 25 = .ok (.iload_n 1, 1) := by decide +kernel
theorem dX12_calls_26 : decode cX12_calls 26 = .ok (.iaload, 1) := by decide +kernel
theorem dX12_calls_27 : decode cX12_calls 27 = .ok (.invokevirtual 341, 3) := by decide +kernel
theorem dX12_calls_30 : decode cX12_calls 30 = .ok (.aload_n 0, 1) := by decide +kernel
theorem dX12_calls_31 : decode cX12_calls 31 = .ok (.aload_n 0, 1) := by decide +kernel
theorem dX12_calls_32 : decode cX12_calls 32 = .ok (.getfield 19, 3) := by decide +kernel
theorem dX12_calls_35 : decode cX12_calls 35 = .ok (.iload_n 1, 1) := by decide +kernel
theorem dX12_calls_36 : decode cX12_calls 36 = .ok (.iaload, 1) := by decide +kernel
theorem dX12_calls_37 : decode cX12_calls 37 = .ok (.invokevirtual 273, 3) := by decide +kernel
theorem dX12_calls_40 : decode cX12_calls 40 = .ok (.aload_n 0, 1) := by decide +kernel
theorem dX12_calls_41 : decode cX12_calls 41 = .ok (.aload_n 0, 1) := by decide +kernel
theorem dX12_calls_42 : decode cX12_calls 42 = .ok (.getfield 131, 3) := by decide +kernel
theorem dX12_calls_45 : decode cX12_calls 45 = .ok (.iload_n 1, 1) := by decide +kernel
theorem dX12_calls_46 : decode cX12_calls 46 = .ok (.iaload, 1) := by decide +kernel
theorem dX12_calls_47 : decode cX12_calls 47 = .ok (.invokevirtual 273, 3) := by decide +kernel
theorem dX12_calls_50 : decode cX12_calls 50 = .ok (.aload_n 0, 1) := by decide +kernel
theorem dX12_calls_51 : decode cX12_calls 51 = .ok (.iload_n 1, 1) := by decide +kernel
theorem dX12_calls_52 : decode cX12_calls 52 = .ok (.invokevirtual 322, 3) := by decide +kernel
theorem dX12_calls_55 : decode cX12_calls 55 = .ok (.return_, 1) := by decide +kernel
theorem dX12_tick_0 : decode cX12_tick 0 = .ok (.iload_n 1, 1) := by decide +kernel
theorem dX12_tick_1 : decode cX12_tick 1 = .ok (.invokestatic 246, 3) := by decide +kernel
theorem dX12_tick_4 : decode cX12_tick 4 = .ok (.ifCond .ne 5, 3) := by decide +kernel
theorem dX12_tick_7 : decode cX12_tick 7 = .ok (.iconst (-1), 1) := by decide +kernel
theorem dX12_tick_8 : decode cX12_tick 8 = .ok (.ireturn, 1) := by decide +kernel
theorem dX12_tick_9 : decode cX12_tick 9 = .ok (.aload_n 0, 1) := by decide +kernel
theorem dX12_tick_10 : decode cX12_tick 10 = .ok (.getfield 16, 3) := by decide +kernel
theorem dX12_tick_13 : decode cX12_tick 13 = .ok (.iload_n 1, 1) := by decide +kernel
theorem dX12_tick_14 : decode cX12_tick 14 = .ok (.iaload, 1) := by decide +kernel
theorem dX12_tick_15 : decode cX12_tick 15 = .ok (.tableswitch 110 1 4 #[29, 37, 73, 81], 29) := by decide +kernel
theorem dX12_tick_44 : decode cX12_tick 44 = .ok (.aload_n 0, 1) := by decide +kernel
theorem dX12_tick_45 : decode cX12_tick 45 = .ok (.iload_n 1, 1) := by decide +kernel
theorem dX12_tick_46 : decode cX12_tick 46 = .ok (.invokevirtual 365, 3) := by decide +kernel
theorem dX12_tick_49 : decode cX12_tick 49 = .ok (.goto 76, 3) := by decide +kernel
theorem dX12_tick_52 : decode cX12_tick 52 = .ok (.aload_n 0, 1) := by decide +kernel
theorem dX12_tick_53 : decode cX12_tick 53 = .ok (.getfield 119, 3) := by decide +kernel
theorem dX12_tick_56 : decode cX12_tick 56 = .ok (.iload_n 1, 1) := by decide +kernel
theorem dX12_tick_57 : decode cX12_tick 57 = .ok (.dup2, 1) := by decide +kernel
theorem dX12_tick_58 : decode cX12_tick 58 = .ok (.iaload, 1) := by decide +kernel
theorem dX12_tick_59 : decode cX12_tick 59 = .ok (.iconst 1, 1) := by decide +kernel
theorem dX12_tick_60 : decode cX12_tick 60 = .ok (.iadd, 1) := by decide +kernel
theorem dX12_tick_61 : decode cX12_tick 61 = .ok (.iastore, 1) := by decide +kernel
theorem dX12_tick_62 : decode cX12_tick 62 = .ok (.aload_n 0, 1) := by decide +kernel
theorem dX12_tick_63 : decode cX12_tick 63 = .ok (.getfield 119, 3) := by decide +kernel
theorem dX12_tick_66 : decode cX12_tick 66 = .ok (.iload_n 1, 1) := by decide +kernel
theorem dX12_tick_67 : decode cX12_tick 67 = .ok (.iaload, 1) := by decide +kernel
theorem dX12_tick_68 : decode cX12_tick 68 = .ok (.iconst 4, 1) := by decide +kernel
theorem dX12_tick_69 : decode cX12_tick 69 = .ok (.if_icmp .ne 11, 3) := by decide +kernel
theorem dX12_tick_72 : decode cX12_tick 72 = .ok (.aload_n 0, 1) := by decide +kernel
theorem dX12_tick_73 : decode cX12_tick 73 = .ok (.iload_n 1, 1) := by decide +kernel
theorem dX12_tick_74 : decode cX12_tick 74 = .ok (.invokevirtual 329, 3) := by decide +kernel
theorem dX12_tick_77 : decode cX12_tick 77 = .ok (.goto 48, 3) := by decide +kernel
theorem dX12_tick_80 : decode cX12_tick 80 = .ok (.aload_n 0, 1) := by decide +kernel
theorem dX12_tick_81 : decode cX12_tick 81 = .ok (.iload_n 1, 1) := by decide +kernel
theorem dX12_tick_82 : decode cX12_tick 82 = .ok (.invokevirtual 347, 3) := by decide +kernel
theorem dX12_tick_85 : decode cX12_tick 85 = .ok (.goto 40, 3) := by decide +kernel
theorem dX12_tick_88 : decode cX12_tick 88 = .ok (.aload_n 0, 1) := by decide +kernel
theorem dX12_tick_89 : decode cX12_tick 89 = .ok (.iload_n 1, 1) := by decide +kernel
theorem dX12_tick_90 : decode cX12_tick 90 = .ok (.invokevirtual 368, 3) := by decide +kernel
theorem dX12_tick_93 : decode cX12_tick 93 = .ok (.goto 32, 3) := by decide +kernel
theorem dX12_tick_96 : decode cX12_tick 96 = .ok (.aload_n 0, 1) := by decide +kernel
theorem dX12_tick_97 : decode cX12_tick 97 = .ok (.getfield 116, 3) := by decide +kernel
theorem dX12_tick_100 : decode cX12_tick 100 = .ok (.iload_n 1, 1) := by decide +kernel
theorem dX12_tick_101 : decode cX12_tick 101 = .ok (.dup2, 1) := by decide +kernel
theorem dX12_tick_102 : decode cX12_tick 102 = .ok (.iaload, 1) := by decide +kernel
theorem dX12_tick_103 : decode cX12_tick 103 = .ok (.iconst 1, 1) := by decide +kernel
theorem dX12_tick_104 : decode cX12_tick 104 = .ok (.iadd, 1) := by decide +kernel
theorem dX12_tick_105 : decode cX12_tick 105 = .ok (.iastore, 1) := by decide +kernel
theorem dX12_tick_106 : decode cX12_tick 106 = .ok (.aload_n 0, 1) := by decide +kernel
theorem dX12_tick_107 : decode cX12_tick 107 = .ok (.getfield 116, 3) := by decide +kernel
theorem dX12_tick_110 : decode cX12_tick 110 = .ok (.iload_n 1, 1) := by decide +kernel
theorem dX12_tick_111 : decode cX12_tick 111 = .ok (.iaload, 1) := by decide +kernel
theorem dX12_tick_112 : decode cX12_tick 112 = .ok (.bipush 40, 2) := by decide +kernel
theorem dX12_tick_114 : decode cX12_tick 114 = .ok (.if_icmp .ne 11, 3) := by decide +kernel
theorem dX12_tick_117 : decode cX12_tick 117 = .ok (.aload_n 0, 1) := by decide +kernel
theorem dX12_tick_118 : decode cX12_tick 118 = .ok (.iload_n 1, 1) := by decide +kernel
theorem dX12_tick_119 : decode cX12_tick 119 = .ok (.invokevirtual 329, 3) := by decide +kernel
theorem dX12_tick_122 : decode cX12_tick 122 = .ok (.goto 3, 3) := by decide +kernel
theorem dX12_tick_125 : decode cX12_tick 125 = .ok (.aload_n 0, 1) := by decide +kernel
theorem dX12_tick_126 : decode cX12_tick 126 = .ok (.getfield 16, 3) := by decide +kernel
theorem dX12_tick_129 : decode cX12_tick 129 = .ok (.iload_n 1, 1) := by decide +kernel
theorem dX12_tick_130 : decode cX12_tick 130 = .ok (.iaload, 1) := by decide +kernel
theorem dX12_tick_131 : decode cX12_tick 131 = .ok (.ireturn, 1) := by decide +kernel
theorem dX12_end_0 : decode cX12_end 0 = .ok (.iload_n 1, 1) := by decide +kernel
theorem dX12_end_1 : decode cX12_end 1 = .ok (.invokestatic 246, 3) := by decide +kernel
theorem dX12_end_4 : decode cX12_end 4 = .ok (.ifCond .ne 5, 3) := by decide +kernel
theorem dX12_end_7 : decode cX12_end 7 = .ok (.iconst (-1), 1) := by decide +kernel
theorem dX12_end_8 : decode cX12_end 8 = .ok (.ireturn, 1) := by decide +kernel
theorem dX12_end_9 : decode cX12_end 9 = .ok (.aload_n 0, 1) := by decide +kernel
theorem dX12_end_10 : decode cX12_end 10 = .ok (.getfield 16, 3) := by decide +kernel
theorem dX12_end_13 : decode cX12_end 13 = .ok (.iload_n 1, 1) := by decide +kernel
theorem dX12_end_14 : decode cX12_end 14 = .ok (.iaload, 1) := by decide +kernel
theorem dX12_end_15 : decode cX12_end 15 = .ok (.iconst 3, 1) := by decide +kernel
theorem dX12_end_16 : decode cX12_end 16 = .ok (.if_icmp .eq 6, 3) := by decide +kernel
theorem dX12_end_19 : decode cX12_end 19 = .ok (.bipush (-2), 2) := by decide +kernel
theorem dX12_end_21 : decode cX12_end 21 = .ok (.ireturn, 1) := by decide +kernel
theorem dX12_end_22 : decode cX12_end 22 = .ok (.aload_n 0, 1) := by decide +kernel
theorem dX12_end_23 : decode cX12_end 23 = .ok (.getfield 92, 3) := by decide +kernel
theorem dX12_end_26 : decode cX12_end 26 = .ok (.iload_n 1, 1) := by decide +kernel
theorem dX12_end_27 : decode cX12_end 27 = .ok (.iconst 1, 1) := by decide +kernel
theorem dX12_end_28 : decode cX12_end 28 = .ok (.bastore, 1) := by decide +kernel
theorem dX12_end_29 : decode cX12_end 29 = .ok (.iconst 1, 1) := by decide +kernel
theorem dX12_end_30 : decode cX12_end 30 = .ok (.ireturn, 1) := by decide +kernel
theorem dX12_objectOf_0 : decode cX12_objectOf 0 = .ok (.iconst 0, 1) := by decide +kernel
theorem dX12_objectOf_1 : decode cX12_objectOf 1 = .ok (.istore 5, 2) := by decide +kernel
theorem dX12_objectOf_3 : decode cX12_objectOf 3 = .ok (.iload 5, 2) := by decide +kernel
theorem dX12_objectOf_5 : decode cX12_objectOf 5 = .ok (.aload_n 0, 1) := by decide +kernel
theorem dX12_objectOf_6 : decode cX12_objectOf 6 = .ok (.getfield 167, 3) := by decide +kernel
theorem dX12_objectOf_9 : decode cX12_objectOf 9 = .ok (.iload_n 1, 1) := by decide +kernel
theorem dX12_objectOf_10 : decode cX12_objectOf 10 = .ok (.iaload, 1) := by decide +kernel
theorem dX12_objectOf_11 : decode cX12_objectOf 11 = .ok (.if_icmp .ge 95, 3) := by decide +kernel
theorem dX12_objectOf_14 : decode cX12_objectOf 14 = .ok (.bipush 6, 2) := by decide +kernel
theorem dX12_objectOf_16 : decode cX12_objectOf 16 = .ok (.iload_n 1, 1) := by decide +kernel
theorem dX12_objectOf_17 : decode cX12_objectOf 17 = .ok (.imul, 1) := by decide +kernel
theorem dX12_objectOf_18 : decode cX12_objectOf 18 = .ok (.iload 5, 2) := by decide +kernel
theorem dX12_objectOf_20 : decode cX12_objectOf 20 = .ok (.iadd, 1) := by decide +kernel
theorem dX12_objectOf_21 : decode cX12_objectOf 21 = .ok (.istore 6, 2) := by decide +kernel
theorem dX12_objectOf_23 : decode cX12_objectOf 23 = .ok (.aload_n 0, 1) := by decide +kernel
theorem dX12_objectOf_24 : decode cX12_objectOf 24 = .ok (.getfield 170, 3) := by decide +kernel
theorem dX12_objectOf_27 : decode cX12_objectOf 27 = .ok (.iload 6, 2) := by decide +kernel
theorem dX12_objectOf_29 : decode cX12_objectOf 29 = .ok (.iaload, 1) := by decide +kernel
theorem dX12_objectOf_30 : decode cX12_objectOf 30 = .ok (.iload 4, 2) := by decide +kernel
theorem dX12_objectOf_32 : decode cX12_objectOf 32 = .ok (.if_icmp .ne 7, 3) := by decide +kernel
theorem dX12_objectOf_35 : decode cX12_objectOf 35 = .ok (.iconst 1, 1) := by decide +kernel
theorem dX12_objectOf_36 : decode cX12_objectOf 36 = .ok (.goto 4, 3) := by decide +kernel
theorem dX12_objectOf_39 : decode cX12_objectOf 39 = .ok (.iconst 0, 1) := by decide +kernel
theorem dX12_objectOf_40 : decode cX12_objectOf 40 = .ok (.istore 7, 2) := by decide +kernel
theorem dX12_objectOf_42 : decode cX12_objectOf 42 = .ok (.iconst 0, 1) := by decide +kernel
theorem dX12_objectOf_43 : decode cX12_objectOf 43 = .ok (.istore 8, 2) := by decide +kernel
theorem dX12_objectOf_45 : decode cX12_objectOf 45 = .ok (.iload 8, 2) := by decide +kernel
theorem dX12_objectOf_47 : decode cX12_objectOf 47 = .ok (.iload 4, 2) := by decide +kernel
theorem dX12_objectOf_49 : decode cX12_objectOf 49 = .ok (.if_icmp .ge 43, 3) := by decide +kernel
theorem dX12_objectOf_52 : decode cX12_objectOf 52 = .ok (.iload 7, 2) := by decide +kernel
theorem dX12_objectOf_54 : decode cX12_objectOf 54 = .ok (.ifCond .eq 38, 3) := by decide +kernel
theorem dX12_objectOf_57 : decode cX12_objectOf 57 = .ok (.aload_n 0, 1) := by decide +kernel
theorem dX12_objectOf_58 : decode cX12_objectOf 58 = .ok (.getfield 173, 3) := by decide +kernel
theorem dX12_objectOf_61 : decode cX12_objectOf 61 = .ok (.bipush 8, 2) := by decide +kernel
theorem dX12_objectOf_63 : decode cX12_objectOf 63 = .ok (.iload 6, 2) := by decide +kernel
theorem dX12_objectOf_65 : decode cX12_objectOf 65 = .ok (.imul, 1) := by decide +kernel
theorem dX12_objectOf_66 : decode cX12_objectOf 66 = .ok (.iload 8, 2) := by decide +kernel
theorem dX12_objectOf_68 : decode cX12_objectOf 68 = .ok (.iadd, 1) := by decide +kernel
theorem dX12_objectOf_69 : decode cX12_objectOf 69 = .ok (.iaload, 1) := by decide +kernel
theorem dX12_objectOf_70 : decode cX12_objectOf 70 = .ok (.aload_n 2, 1) := by decide +kernel
theorem dX12_objectOf_71 : decode cX12_objectOf 71 = .ok (.iload_n 3, 1) := by decide +kernel
theorem dX12_objectOf_72 : decode cX12_objectOf 72 = .ok (.iload 8, 2) := by decide +kernel
theorem dX12_objectOf_74 : decode cX12_objectOf 74 = .ok (.iadd, 1) := by decide +kernel
theorem dX12_objectOf_75 : decode cX12_objectOf 75 = .ok (.iaload, 1) := by decide +kernel
theorem dX12_objectOf_76 : decode cX12_objectOf 76 = .ok (.if_icmp .ne 7, 3) := by decide +kernel
theorem dX12_objectOf_79 : decode cX12_objectOf 79 = .ok (.iconst 1, 1) := by decide +kernel
theorem dX12_objectOf_80 : decode cX12_objectOf 80 = .ok (.goto 4, 3) := by decide +kernel
theorem dX12_objectOf_83 : decode cX12_objectOf 83 = .ok (.iconst 0, 1) := by decide +kernel
theorem dX12_objectOf_84 : decode cX12_objectOf 84 = .ok (.istore 7, 2) := by decide +kernel
theorem dX12_objectOf_86 : decode cX12_objectOf 86 = .ok (.iinc 8 1, 3) := by decide +kernel
theorem dX12_objectOf_89 : decode cX12_objectOf 89 = .ok (.goto (-44), 3) := by decide +kernel
theorem dX12_objectOf_92 : decode cX12_objectOf 92 = .ok (.iload 7, 2) := by decide +kernel
theorem dX12_objectOf_94 : decode cX12_objectOf 94 = .ok (.ifCond .eq 6, 3) := by decide +kernel
theorem dX12_objectOf_97 : decode cX12_objectOf 97 = .ok (.iload 5, 2) := by decide +kernel
theorem dX12_objectOf_99 : decode cX12_objectOf 99 = .ok (.ireturn, 1) := by decide +kernel
theorem dX12_objectOf_100 : decode cX12_objectOf 100 = .ok (.iinc 5 1, 3) := by decide +kernel
theorem dX12_objectOf_103 : decode cX12_objectOf 103 = .ok (.goto (-100), 3) := by decide +kernel
theorem dX12_objectOf_106 : decode cX12_objectOf 106 = .ok (.iconst (-1), 1) := by decide +kernel
theorem dX12_objectOf_107 : decode cX12_objectOf 107 = .ok (.ireturn, 1) := by decide +kernel
theorem dX12_keeps_0 : decode cX12_keeps 0 = .ok (.aload_n 0, 1) := by decide +kernel
theorem dX12_keeps_1 : decode cX12_keeps 1 = .ok (.iload_n 1, 1) := by decide +kernel
theorem dX12_keeps_2 : decode cX12_keeps 2 = .ok (.aload_n 2, 1) := by decide +kernel
theorem dX12_keeps_3 : decode cX12_keeps 3 = .ok (.iload_n 3, 1) := by decide +kernel
theorem dX12_keeps_4 : decode cX12_keeps 4 = .ok (.iload 4, 2) := by decide +kernel
theorem dX12_keeps_6 : decode cX12_keeps 6 = .ok (.invokevirtual 383, 3) := by decide +kernel
theorem dX12_keeps_9 : decode cX12_keeps 9 = .ok (.istore 8, 2) := by decide +kernel
theorem dX12_keeps_11 : decode cX12_keeps 11 = .ok (.iload 8, 2) := by decide +kernel
theorem dX12_keeps_13 : decode cX12_keeps 13 = .ok (.ifCond .ge 16, 3) := by decide +kernel
theorem dX12_keeps_16 : decode cX12_keeps 16 = .ok (.aload_n 0, 1) := by decide +kernel
theorem dX12_keeps_17 : decode cX12_keeps 17 = .ok (.getfield 167, 3) := by decide +kernel
theorem dX12_keeps_20 : decode cX12_keeps 20 = .ok (.iload_n 1, 1) := by decide +kernel
theorem dX12_keeps_21 : decode cX12_keeps 21 = .ok (.iaload, 1) := by decide +kernel
theorem dX12_keeps_22 : decode cX12_keeps 22 = .ok (.bipush 6, 2) := by decide +kernel
theorem dX12_keeps_24 : decode cX12_keeps 24 = .ok (.if_icmp .ne 5, 3) := by decide +kernel
theorem dX12_keeps_27 : decode cX12_keeps 27 = .ok (.iconst 0, 1) := by decide +kernel
theorem dX12_keeps_28 : decode cX12_keeps 28 = .ok (.ireturn, 1) := by decide +kernel
theorem dX12_keeps_29 : decode cX12_keeps 29 = .ok (.iload 8, 2) := by decide +kernel
theorem dX12_keeps_31 : decode cX12_keeps 31 = .ok (.ifCond .ge 21, 3) := by decide +kernel
theorem dX12_keeps_34 : decode cX12_keeps 34 = .ok (.aload_n 0, 1) := by decide +kernel
theorem dX12_keeps_35 : decode cX12_keeps 35 = .ok (.getfield 167, 3) := by decide +kernel
theorem dX12_keeps_38 : decode cX12_keeps 38 = .ok (.iload_n 1, 1) := by decide +kernel
theorem dX12_keeps_39 : decode cX12_keeps 39 = .ok (.iaload, 1) := by decide +kernel
theorem dX12_keeps_40 : decode cX12_keeps 40 = .ok (.istore 8, 2) := by decide +kernel
theorem dX12_keeps_42 : decode cX12_keeps 42 = .ok (.aload_n 0, 1) := by decide +kernel
theorem dX12_keeps_43 : decode cX12_keeps 43 = .ok (.getfield 167, 3) := by decide +kernel
theorem dX12_keeps_46 : decode cX12_keeps 46 = .ok (.iload_n 1, 1) := by decide +kernel
theorem dX12_keeps_47 : decode cX12_keeps 47 = .ok (.dup2, 1) := by decide +kernel
theorem dX12_keeps_48 : decode cX12_keeps 48 = .ok (.iaload, 1) := by decide +kernel
theorem dX12_keeps_49 : decode cX12_keeps 49 = .ok (.iconst 1, 1) := by decide +kernel
theorem dX12_keeps_50 : decode cX12_keeps 50 = .ok (.iadd, 1) := by decide +kernel
theorem dX12_keeps_51 : decode cX12_keeps 51 = .ok (.iastore, 1) := by decide +kernel
theorem dX12_keeps_52 : decode cX12_keeps 52 = .ok (.bipush 6, 2) := by decide +kernel
theorem dX12_keeps_54 : decode cX12_keeps 54 = .ok (.iload_n 1, 1) := by decide +kernel
theorem dX12_keeps_55 : decode cX12_keeps 55 = .ok (.imul, 1) := by decide +kernel
theorem dX12_keeps_56 : decode cX12_keeps 56 = .ok (.iload 8, 2) := by decide +kernel
theorem dX12_keeps_58 : decode cX12_keeps 58 = .ok (.iadd, 1) := by decide +kernel
theorem dX12_keeps_59 : decode cX12_keeps 59 = .ok (.istore 9, 2) := by decide +kernel
theorem dX12_keeps_61 : decode cX12_keeps 61 = .ok (.aload_n 0, 1) := by decide +kernel
theorem dX12_keeps_62 : decode cX12_keeps 62 = .ok (.getfield 170, 3) := by decide +kernel
theorem dX12_keeps_65 : decode cX12_keeps 65 = .ok (.iload 9, 2) := by decide +kernel
theorem dX12_keeps_67 : decode cX12_keeps 67 = .ok (.iload 4, 2) := by decide +kernel
theorem dX12_keeps_69 : decode cX12_keeps 69 = .ok (.iastore, 1) := by decide +kernel
theorem dX12_keeps_70 : decode cX12_keeps 70 = .ok (.iconst 0, 1) := by decide +kernel
theorem dX12_keeps_71 : decode cX12_keeps 71 = .ok (.istore 10, 2) := by decide +kernel
theorem dX12_keeps_73 : decode cX12_keeps 73 = .ok (.iload 10, 2) := by decide +kernel
theorem dX12_keeps_75 : decode cX12_keeps 75 = .ok (.iload 4, 2) := by decide +kernel
theorem dX12_keeps_77 : decode cX12_keeps 77 = .ok (.if_icmp .ge 28, 3) := by decide +kernel
theorem dX12_keeps_80 : decode cX12_keeps 80 = .ok (.aload_n 0, 1) := by decide +kernel
theorem dX12_keeps_81 : decode cX12_keeps 81 = .ok (.getfield 173, 3) := by decide +kernel
theorem dX12_keeps_84 : decode cX12_keeps 84 = .ok (.bipush 8, 2) := by decide +kernel
theorem dX12_keeps_86 : decode cX12_keeps 86 = .ok (.iload 9, 2) := by decide +kernel
theorem dX12_keeps_88 : decode cX12_keeps 88 = .ok (.imul, 1) := by decide +kernel
theorem dX12_keeps_89 : decode cX12_keeps 89 = .ok (.iload 10, 2) := by decide +kernel
theorem dX12_keeps_91 : decode cX12_keeps 91 = .ok (.iadd, 1) := by decide +kernel
theorem dX12_keeps_92 : decode cX12_keeps 92 = .ok (.aload_n 2, 1) := by decide +kernel
theorem dX12_keeps_93 : decode cX12_keeps 93 = .ok (.iload_n 3, 1) := by decide +kernel
theorem dX12_keeps_94 : decode cX12_keeps 94 = .ok (.iload 10, 2) := by decide +kernel
theorem dX12_keeps_96 : decode cX12_keeps 96 = .ok (.iadd, 1) := by decide +kernel
theorem dX12_keeps_97 : decode cX12_keeps 97 = .ok (.iaload, 1) := by decide +kernel
theorem dX12_keeps_98 : decode cX12_keeps 98 = .ok (.iastore, 1) := by decide +kernel
theorem dX12_keeps_99 : decode cX12_keeps 99 = .ok (.iinc 10 1, 3) := by decide +kernel
theorem dX12_keeps_102 : decode cX12_keeps 102 = .ok (.goto (-29), 3) := by decide +kernel
theorem dX12_keeps_105 : decode cX12_keeps 105 = .ok (.aload_n 0, 1) := by decide +kernel
theorem dX12_keeps_106 : decode cX12_keeps 106 = .ok (.getfield 176, 3) := by decide +kernel
theorem dX12_keeps_109 : decode cX12_keeps 109 = .ok (.iload 9, 2) := by decide +kernel
theorem dX12_keeps_111 : decode cX12_keeps 111 = .ok (.iload 7, 2) := by decide +kernel
theorem dX12_keeps_113 : decode cX12_keeps 113 = .ok (.iastore, 1) := by decide +kernel
theorem dX12_keeps_114 : decode cX12_keeps 114 = .ok (.iconst 0, 1) := by decide +kernel
theorem dX12_keeps_115 : decode cX12_keeps 115 = .ok (.istore 10, 2) := by decide +kernel
theorem dX12_keeps_117 : decode cX12_keeps 117 = .ok (.iload 10, 2) := by decide +kernel
theorem dX12_keeps_119 : decode cX12_keeps 119 = .ok (.iload 7, 2) := by decide +kernel
theorem dX12_keeps_121 : decode cX12_keeps 121 = .ok (.if_icmp .ge 30, 3) := by decide +kernel
theorem dX12_keeps_124 : decode cX12_keeps 124 = .ok (.aload_n 0, 1) := by decide +kernel
theorem dX12_keeps_125 : decode cX12_keeps 125 = .ok (.getfield 179, 3) := by decide +kernel
theorem dX12_keeps_128 : decode cX12_keeps 128 = .ok (.bipush 120, 2) := by decide +kernel
theorem dX12_keeps_130 : decode cX12_keeps 130 = .ok (.iload 9, 2) := by decide +kernel
theorem dX12_keeps_132 : decode cX12_keeps 132 = .ok (.imul, 1) := by decide +kernel
theorem dX12_keeps_133 : decode cX12_keeps 133 = .ok (.iload 10, 2) := by decide +kernel
theorem dX12_keeps_135 : decode cX12_keeps 135 = .ok (.iadd, 1) := by decide +kernel
theorem dX12_keeps_136 : decode cX12_keeps 136 = .ok (.aload 5, 2) := by decide +kernel
theorem dX12_keeps_138 : decode cX12_keeps 138 = .ok (.iload 6, 2) := by decide +kernel
theorem dX12_keeps_140 : decode cX12_keeps 140 = .ok (.iload 10, 2) := by decide +kernel
theorem dX12_keeps_142 : decode cX12_keeps 142 = .ok (.iadd, 1) := by decide +kernel
theorem dX12_keeps_143 : decode cX12_keeps 143 = .ok (.iaload, 1) := by decide +kernel
theorem dX12_keeps_144 : decode cX12_keeps 144 = .ok (.iastore, 1) := by decide +kernel
theorem dX12_keeps_145 : decode cX12_keeps 145 = .ok (.iinc 10 1, 3) := by decide +kernel
theorem dX12_keeps_148 : decode cX12_keeps 148 = .ok (.goto (-31), 3) := by decide +kernel
theorem dX12_keeps_151 : decode cX12_keeps 151 = .ok (.iconst 1, 1) := by decide +kernel
theorem dX12_keeps_152 : decode cX12_keeps 152 = .ok (.ireturn, 1) := by decide +kernel
theorem dX12_wants_0 : decode cX12_wants 0 = .ok (.iload_n 3, 1) := by decide +kernel
theorem dX12_wants_1 : decode cX12_wants 1 = .ok (.iconst 1, 1) := by decide +kernel
theorem dX12_wants_2 : decode cX12_wants 2 = .ok (.if_icmp .lt 9, 3) := by decide +kernel
theorem dX12_wants_5 : decode cX12_wants 5 = .ok (.iload_n 3, 1) := by decide +kernel
theorem dX12_wants_6 : decode cX12_wants 6 = .ok (.bipush 8, 2) := by decide +kernel
theorem dX12_wants_8 : decode cX12_wants 8 = .ok (.if_icmp .le 5, 3) := by decide +kernel
theorem dX12_wants_11 : decode cX12_wants 11 = .ok (.iconst 0, 1) := by decide +kernel
theorem dX12_wants_12 : decode cX12_wants 12 = .ok (.ireturn, 1) := by decide +kernel
theorem dX12_wants_13 : decode cX12_wants 13 = .ok (.iconst 1, 1) := by decide +kernel
theorem dX12_wants_14 : decode cX12_wants 14 = .ok (.istore 4, 2) := by decide +kernel
theorem dX12_wants_16 : decode cX12_wants 16 = .ok (.iconst 0, 1) := by decide +kernel
theorem dX12_wants_17 : decode cX12_wants 17 = .ok (.istore 5, 2) := by decide +kernel
theorem dX12_wants_19 : decode cX12_wants 19 = .ok (.iload 5, 2) := by decide +kernel
theorem dX12_wants_21 : decode cX12_wants 21 = .ok (.iload_n 3, 1) := by decide +kernel
theorem dX12_wants_22 : decode cX12_wants 22 = .ok (.if_icmp .ge 52, 3) := by decide +kernel
theorem dX12_wants_25 : decode cX12_wants 25 = .ok (.aload_n 0, 1) := by decide +kernel
theorem dX12_wants_26 : decode cX12_wants 26 = .ok (.getfield 239, 3) := by decide +kernel
theorem dX12_wants_29 : decode cX12_wants 29 = .ok (.iload 5, 2) := by decide +kernel
theorem dX12_wants_31 : decode cX12_wants 31 = .ok (.lload_n 1, 1) := by decide +kernel
theorem dX12_wants_32 : decode cX12_wants 32 = .ok (.bipush 8, 2) := by decide +kernel
theorem dX12_wants_34 : decode cX12_wants 34 = .ok (.iload_n 3, 1) := by decide +kernel
theorem dX12_wants_35 : decode cX12_wants 35 = .ok (.iconst 1, 1) := by decide +kernel
theorem dX12_wants_36 : decode cX12_wants 36 = .ok (.isub, 1) := by decide +kernel
theorem dX12_wants_37 : decode cX12_wants 37 = .ok (.iload 5, 2) := by decide +kernel
theorem dX12_wants_39 : decode cX12_wants 39 = .ok (.isub, 1) := by decide +kernel
theorem dX12_wants_40 : decode cX12_wants 40 = .ok (.imul, 1) := by decide +kernel
theorem dX12_wants_41 : decode cX12_wants 41 = .ok (.lshr, 1) := by decide +kernel
theorem dX12_wants_42 : decode cX12_wants 42 = .ok (.l2i, 1) := by decide +kernel
theorem dX12_wants_43 : decode cX12_wants 43 = .ok (.sipush 255, 3) := by decide +kernel
theorem dX12_wants_46 : decode cX12_wants 46 = .ok (.iand, 1) := by decide +kernel
theorem dX12_wants_47 : decode cX12_wants 47 = .ok (.iastore, 1) := by decide +kernel
theorem dX12_wants_48 : decode cX12_wants 48 = .ok (.iload 4, 2) := by decide +kernel
theorem dX12_wants_50 : decode cX12_wants 50 = .ok (.aload_n 0, 1) := by decide +kernel
theorem dX12_wants_51 : decode cX12_wants 51 = .ok (.getfield 239, 3) := by decide +kernel
theorem dX12_wants_54 : decode cX12_wants 54 = .ok (.iload 5, 2) := by decide +kernel
theorem dX12_wants_56 : decode cX12_wants 56 = .ok (.iaload, 1) := by decide +kernel
theorem dX12_wants_57 : decode cX12_wants 57 = .ok (.ifCond .eq 7, 3) := by decide +kernel
theorem dX12_wants_60 : decode cX12_wants 60 = .ok (.iconst 1, 1) := by decide +kernel
theorem dX12_wants_61 : decode cX12_wants 61 = .ok (.goto 4, 3) := by decide +kernel
theorem dX12_wants_64 : decode cX12_wants 64 = .ok (.iconst 0, 1) := by decide +kernel
theorem dX12_wants_65 : decode cX12_wants 65 = .ok (.iand, 1) := by decide +kernel
theorem dX12_wants_66 : decode cX12_wants 66 = .ok (.istore 4, 2) := by decide +kernel
theorem dX12_wants_68 : decode cX12_wants 68 = .ok (.iinc 5 1, 3) := by decide +kernel
theorem dX12_wants_71 : decode cX12_wants 71 = .ok (.goto (-52), 3) := by decide +kernel
theorem dX12_wants_74 : decode cX12_wants 74 = .ok (.iload 4, 2) := by decide +kernel
theorem dX12_wants_76 : decode cX12_wants 76 = .ok (.ireturn, 1) := by decide +kernel
theorem dX12_store_0 : decode cX12_store 0 = .ok (.iload_n 1, 1) := by decide +kernel
theorem dX12_store_1 : decode cX12_store 1 = .ok (.invokestatic 246, 3) := by decide +kernel
theorem dX12_store_4 : decode cX12_store 4 = .ok (.ifCond .ne 5, 3) := by decide +kernel
theorem dX12_store_7 : decode cX12_store 7 = .ok (.iconst (-1), 1) := by decide +kernel
theorem dX12_store_8 : decode cX12_store 8 = .ok (.ireturn, 1) := by decide +kernel
theorem dX12_store_9 : decode cX12_store 9 = .ok (.aload_n 0, 1) := by decide +kernel
theorem dX12_store_10 : decode cX12_store 10 = .ok (.lload_n 2, 1) := by decide +kernel
theorem dX12_store_11 : decode cX12_store 11 = .ok (.iload 4, 2) := by decide +kernel
theorem dX12_store_13 : decode cX12_store 13 = .ok (.invokevirtual 442, 3) := by decide +kernel
theorem dX12_store_16 : decode cX12_store 16 = .ok (.ifCond .eq 15, 3) := by decide +kernel
theorem dX12_store_19 : decode cX12_store 19 = .ok (.iload 5, 2) := by decide +kernel
theorem dX12_store_21 : decode cX12_store 21 = .ok (.ifCond .lt 10, 3) := by decide +kernel
theorem dX12_store_24 : decode cX12_store 24 = .ok (.iload 5, 2) := by decide +kernel
theorem dX12_store_26 : decode cX12_store 26 = .ok (.bipush 120, 2) := by decide +kernel
theorem dX12_store_28 : decode cX12_store 28 = .ok (.if_icmp .le 6, 3) := by decide +kernel
theorem dX12_store_31 : decode cX12_store 31 = .ok (.bipush (-4), 2) := by decide +kernel
theorem dX12_store_33 : decode cX12_store 33 = .ok (.ireturn, 1) := by decide +kernel
theorem dX12_store_34 : decode cX12_store 34 = .ok (.iconst 0, 1) := by decide +kernel
theorem dX12_store_35 : decode cX12_store 35 = .ok (.istore 8, 2) := by decide +kernel
theorem dX12_store_37 : decode cX12_store 37 = .ok (.iload 8, 2) := by decide +kernel
theorem dX12_store_39 : decode cX12_store 39 = .ok (.iload 5, 2) := by decide +kernel
theorem dX12_store_41 : decode cX12_store 41 = .ok (.if_icmp .ge 28, 3) := by decide +kernel
theorem dX12_store_44 : decode cX12_store 44 = .ok (.aload_n 0, 1) := by decide +kernel
theorem dX12_store_45 : decode cX12_store 45 = .ok (.getfield 242, 3) := by decide +kernel
theorem dX12_store_48 : decode cX12_store 48 = .ok (.iload 8, 2) := by decide +kernel
theorem dX12_store_50 : decode cX12_store 50 = .ok (.iload 6, 2) := by decide +kernel
theorem dX12_store_52 : decode cX12_store 52 = .ok (.iload 8, 2) := by decide +kernel
theorem dX12_store_54 : decode cX12_store 54 = .ok (.iload 7, 2) := by decide +kernel
theorem dX12_store_56 : decode cX12_store 56 = .ok (.imul, 1) := by decide +kernel
theorem dX12_store_57 : decode cX12_store 57 = .ok (.iadd, 1) := by decide +kernel
theorem dX12_store_58 : decode cX12_store 58 = .ok (.sipush 255, 3) := by decide +kernel
theorem dX12_store_61 : decode cX12_store 61 = .ok (.iand, 1) := by decide +kernel
theorem dX12_store_62 : decode cX12_store 62 = .ok (.iastore, 1) := by decide +kernel
theorem dX12_store_63 : decode cX12_store 63 = .ok (.iinc 8 1, 3) := by decide +kernel
theorem dX12_store_66 : decode cX12_store 66 = .ok (.goto (-29), 3) := by decide +kernel
theorem dX12_store_69 : decode cX12_store 69 = .ok (.aload_n 0, 1) := by decide +kernel
theorem dX12_store_70 : decode cX12_store 70 = .ok (.iload_n 1, 1) := by decide +kernel
theorem dX12_store_71 : decode cX12_store 71 = .ok (.aload_n 0, 1) := by decide +kernel
theorem dX12_store_72 : decode cX12_store 72 = .ok (.getfield 239, 3) := by decide +kernel
theorem dX12_store_75 : decode cX12_store 75 = .ok (.iconst 0, 1) := by decide +kernel
theorem dX12_store_76 : decode cX12_store 76 = .ok (.iload 4, 2) := by decide +kernel
theorem dX12_store_78 : decode cX12_store 78 = .ok (.aload_n 0, 1) := by decide +kernel
theorem dX12_store_79 : decode cX12_store 79 = .ok (.getfield 242, 3) := by decide +kernel
theorem dX12_store_82 : decode cX12_store 82 = .ok (.iconst 0, 1) := by decide +kernel
theorem dX12_store_83 : decode cX12_store 83 = .ok (.iload 5, 2) := by decide +kernel
theorem dX12_store_85 : decode cX12_store 85 = .ok (.invokevirtual 426, 3) := by decide +kernel
theorem dX12_store_88 : decode cX12_store 88 = .ok (.ifCond .eq 7, 3) := by decide +kernel
theorem dX12_store_91 : decode cX12_store 91 = .ok (.iconst 1, 1) := by decide +kernel
theorem dX12_store_92 : decode cX12_store 92 = .ok (.goto 5, 3) := by decide +kernel
theorem dX12_store_95 : decode cX12_store 95 = .ok (.bipush (-5), 2) := by decide +kernel
theorem dX12_store_97 : decode cX12_store 97 = .ok (.ireturn, 1) := by decide +kernel
theorem dX12_mayAsk_0 : decode cX12_mayAsk 0 = .ok (.aload_n 0, 1) := by decide +kernel
theorem dX12_mayAsk_1 : decode cX12_mayAsk 1 = .ok (.getfield 16, 3) := by decide +kernel
theorem dX12_mayAsk_4 : decode cX12_mayAsk 4 = .ok (.iload_n 1, 1) := by decide +kernel
theorem dX12_mayAsk_5 : decode cX12_mayAsk 5 = .ok (.iaload, 1) := by decide +kernel
theorem dX12_mayAsk_6 : decode cX12_mayAsk 6 = .ok (.iconst 3, 1) := by decide +kernel
theorem dX12_mayAsk_7 : decode cX12_mayAsk 7 = .ok (.if_icmp .eq 13, 3) := by decide +kernel
theorem dX12_mayAsk_10 : decode cX12_mayAsk 10 = .ok (.aload_n 0, 1) := by decide +kernel
theorem dX12_mayAsk_11 : decode cX12_mayAsk 11 = .ok (.getfield 16, 3) := by decide +kernel
theorem dX12_mayAsk_14 : decode cX12_mayAsk 14 = .ok (.iload_n 1, 1) := by decide +kernel
theorem dX12_mayAsk_15 : decode cX12_mayAsk 15 = .ok (.iaload, 1) := by decide +kernel
theorem dX12_mayAsk_16 : decode cX12_mayAsk 16 = .ok (.iconst 4, 1) := by decide +kernel
theorem dX12_mayAsk_17 : decode cX12_mayAsk 17 = .ok (.if_icmp .ne 17, 3) := by decide +kernel
theorem dX12_mayAsk_20 : decode cX12_mayAsk 20 = .ok (.aload_n 0, 1) := by decide +kernel
theorem dX12_mayAsk_21 : decode cX12_mayAsk 21 = .ok (.getfield 212, 3) := by decide +kernel
theorem dX12_mayAsk_24 : decode cX12_mayAsk 24 = .ok (.iload_n 1, 1) := by decide +kernel
theorem dX12_mayAsk_25 : decode cX12_mayAsk 25 = .ok (.iaload, 1) := by decide +kernel
theorem dX12_mayAsk_26 : decode cX12_mayAsk 26 = .ok (.iconst 1, 1) := by decide +kernel
theorem dX12_mayAsk_27 : decode cX12_mayAsk 27 = .ok (.if_icmp .eq 7, 3) := by decide +kernel
theorem dX12_mayAsk_30 : decode cX12_mayAsk 30 = .ok (.iconst 1, 1) := by decide +kernel
theorem dX12_mayAsk_31 : decode cX12_mayAsk 31 = .ok (.goto 4, 3) := by decide +kernel
theorem dX12_mayAsk_34 : decode cX12_mayAsk 34 = .ok (.iconst 0, 1) := by decide +kernel
theorem dX12_mayAsk_35 : decode cX12_mayAsk 35 = .ok (.ireturn, 1) := by decide +kernel
theorem dX12_put_0 : decode cX12_put 0 = .ok (.iload_n 1, 1) := by decide +kernel
theorem dX12_put_1 : decode cX12_put 1 = .ok (.invokestatic 246, 3) := by decide +kernel
theorem dX12_put_4 : decode cX12_put 4 = .ok (.ifCond .ne 5, 3) := by decide +kernel
theorem dX12_put_7 : decode cX12_put 7 = .ok (.iconst (-1), 1) := by decide +kernel
theorem dX12_put_8 : decode cX12_put 8 = .ok (.ireturn, 1) := by decide +kernel
theorem dX12_put_9 : decode cX12_put 9 = .ok (.aload_n 0, 1) := by decide +kernel
theorem dX12_put_10 : decode cX12_put 10 = .ok (.iload_n 1, 1) := by decide +kernel
theorem dX12_put_11 : decode cX12_put 11 = .ok (.invokevirtual 446, 3) := by decide +kernel
theorem dX12_put_14 : decode cX12_put 14 = .ok (.ifCond .ne 6, 3) := by decide +kernel
theorem dX12_put_17 : decode cX12_put 17 = .ok (.bipush (-2), 2) := by decide +kernel
theorem dX12_put_19 : decode cX12_put 19 = .ok (.ireturn, 1) := by decide +kernel
theorem dX12_put_20 : decode cX12_put 20 = .ok (.aload_n 0, 1) := by decide +kernel
theorem dX12_put_21 : decode cX12_put 21 = .ok (.lload_n 2, 1) := by decide +kernel
theorem dX12_put_22 : decode cX12_put 22 = .ok (.iload 4, 2) := by decide +kernel
theorem dX12_put_24 : decode cX12_put 24 = .ok (.invokevirtual 442, 3) := by decide +kernel
theorem dX12_put_27 : decode cX12_put 27 = .ok (.ifCond .eq 18, 3) := by decide +kernel
theorem dX12_put_30 : decode cX12_put 30 = .ok (.aload_n 0, 1) := by decide +kernel
theorem dX12_put_31 : decode cX12_put 31 = .ok (.iload_n 1, 1) := by decide +kernel
theorem dX12_put_32 : decode cX12_put 32 = .ok (.aload_n 0, 1) := by decide +kernel
theorem dX12_put_33 : decode cX12_put 33 = .ok (.getfield 239, 3) := by decide +kernel
theorem dX12_put_36 : decode cX12_put 36 = .ok (.iconst 0, 1) := by decide +kernel
theorem dX12_put_37 : decode cX12_put 37 = .ok (.iload 4, 2) := by decide +kernel
theorem dX12_put_39 : decode cX12_put 39 = .ok (.invokevirtual 383, 3) := by decide +kernel
theorem dX12_put_42 : decode cX12_put 42 = .ok (.goto 4, 3) := by decide +kernel
theorem dX12_put_45 : decode cX12_put 45 = .ok (.iconst (-1), 1) := by decide +kernel
theorem dX12_put_46 : decode cX12_put 46 = .ok (.istore 5, 2) := by decide +kernel
theorem dX12_put_48 : decode cX12_put 48 = .ok (.iload 5, 2) := by decide +kernel
theorem dX12_put_50 : decode cX12_put 50 = .ok (.ifCond .ge 6, 3) := by decide +kernel
theorem dX12_put_53 : decode cX12_put 53 = .ok (.bipush (-4), 2) := by decide +kernel
theorem dX12_put_55 : decode cX12_put 55 = .ok (.ireturn, 1) := by decide +kernel
theorem dX12_put_56 : decode cX12_put 56 = .ok (.aload_n 0, 1) := by decide +kernel
theorem dX12_put_57 : decode cX12_put 57 = .ok (.iload_n 1, 1) := by decide +kernel
theorem dX12_put_58 : decode cX12_put 58 = .ok (.iload 4, 2) := by decide +kernel
theorem dX12_put_60 : decode cX12_put 60 = .ok (.invokevirtual 449, 3) := by decide +kernel
theorem dX12_put_63 : decode cX12_put 63 = .ok (.aload_n 0, 1) := by decide +kernel
theorem dX12_put_64 : decode cX12_put 64 = .ok (.getfield 230, 3) := by decide +kernel
theorem dX12_put_67 : decode cX12_put 67 = .ok (.iload_n 1, 1) := by decide +kernel
theorem dX12_put_68 : decode cX12_put 68 = .ok (.iconst 1, 1) := by decide +kernel
theorem dX12_put_69 : decode cX12_put 69 = .ok (.bastore, 1) := by decide +kernel
theorem dX12_put_70 : decode cX12_put 70 = .ok (.bipush 6, 2) := by decide +kernel
theorem dX12_put_72 : decode cX12_put 72 = .ok (.iload_n 1, 1) := by decide +kernel
theorem dX12_put_73 : decode cX12_put 73 = .ok (.imul, 1) := by decide +kernel
theorem dX12_put_74 : decode cX12_put 74 = .ok (.iload 5, 2) := by decide +kernel
theorem dX12_put_76 : decode cX12_put 76 = .ok (.iadd, 1) := by decide +kernel
theorem dX12_put_77 : decode cX12_put 77 = .ok (.istore 6, 2) := by decide +kernel
theorem dX12_put_79 : decode cX12_put 79 = .ok (.aload_n 0, 1) := by decide +kernel
theorem dX12_put_80 : decode cX12_put 80 = .ok (.getfield 221, 3) := by decide +kernel
theorem dX12_put_83 : decode cX12_put 83 = .ok (.iload_n 1, 1) := by decide +kernel
theorem dX12_put_84 : decode cX12_put 84 = .ok (.aload_n 0, 1) := by decide +kernel
theorem dX12_put_85 : decode cX12_put 85 = .ok (.getfield 176, 3) := by decide +kernel
theorem dX12_put_88 : decode cX12_put 88 = .ok (.iload 6, 2) := by decide +kernel
theorem dX12_put_90 : decode cX12_put 90 = .ok (.iaload, 1) := by decide +kernel
theorem dX12_put_91 : decode cX12_put 91 = .ok (.iastore, 1) := by decide +kernel
theorem dX12_put_92 : decode cX12_put 92 = .ok (.iconst 0, 1) := by decide +kernel
theorem dX12_put_93 : decode cX12_put 93 = .ok (.istore 7, 2) := by decide +kernel
theorem dX12_put_95 : decode cX12_put 95 = .ok (.iload 7, 2) := by decide +kernel
theorem dX12_put_97 : decode cX12_put 97 = .ok (.aload_n 0, 1) := by decide +kernel
theorem dX12_put_98 : decode cX12_put 98 = .ok (.getfield 176, 3) := by decide +kernel
theorem dX12_put_101 : decode cX12_put 101 = .ok (.iload 6, 2) := by decide +kernel
theorem dX12_put_103 : decode cX12_put 103 = .ok (.iaload, 1) := by decide +kernel
theorem dX12_put_104 : decode cX12_put 104 = .ok (.if_icmp .ge 34, 3) := by decide +kernel
theorem dX12_put_107 : decode cX12_put 107 = .ok (.aload_n 0, 1) := by decide +kernel
theorem dX12_put_108 : decode cX12_put 108 = .ok (.getfield 227, 3) := by decide +kernel
theorem dX12_put_111 : decode cX12_put 111 = .ok (.bipush 120, 2) := by decide +kernel
theorem dX12_put_113 : decode cX12_put 113 = .ok (.iload_n 1, 1) := by decide +kernel
theorem dX12_put_114 : decode cX12_put 114 = .ok (.imul, 1) := by decide +kernel
theorem dX12_put_115 : decode cX12_put 115 = .ok (.iload 7, 2) := by decide +kernel
theorem dX12_put_117 : decode cX12_put 117 = .ok (.iadd, 1) := by decide +kernel
theorem dX12_put_118 : decode cX12_put 118 = .ok (.aload_n 0, 1) := by decide +kernel
theorem dX12_put_119 : decode cX12_put 119 = .ok (.getfield 179, 3) := by decide +kernel
theorem dX12_put_122 : decode cX12_put 122 = .ok (.bipush 120, 2) := by decide +kernel
theorem dX12_put_124 : decode cX12_put 124 = .ok (.iload 6, 2) := by decide +kernel
theorem dX12_put_126 : decode cX12_put 126 = .ok (.imul, 1) := by decide +kernel
theorem dX12_put_127 : decode cX12_put 127 = .ok (.iload 7, 2) := by decide +kernel
theorem dX12_put_129 : decode cX12_put 129 = .ok (.iadd, 1) := by decide +kernel
theorem dX12_put_130 : decode cX12_put 130 = .ok (.iaload, 1) := by decide +kernel
theorem dX12_put_131 : decode cX12_put 131 = .ok (.iastore, 1) := by decide +kernel
theorem dX12_put_132 : decode cX12_put 132 = .ok (.iinc 7 1, 3) := by decide +kernel
theorem dX12_put_135 : decode cX12_put 135 = .ok (.goto (-40), 3) := by decide +kernel
theorem dX12_put_138 : decode cX12_put 138 = .ok (.aload_n 0, 1) := by decide +kernel
theorem dX12_put_139 : decode cX12_put 139 = .ok (.iload_n 1, 1) := by decide +kernel
theorem dX12_put_140 : decode cX12_put 140 = .ok (.iconst 1, 1) := by decide +kernel
theorem dX12_put_141 : decode cX12_put 141 = .ok (.invokevirtual 434, 3) := by decide +kernel
theorem dX12_put_144 : decode cX12_put 144 = .ok (.aload_n 0, 1) := by decide +kernel
theorem dX12_put_145 : decode cX12_put 145 = .ok (.iload_n 1, 1) := by decide +kernel
theorem dX12_put_146 : decode cX12_put 146 = .ok (.invokevirtual 356, 3) := by decide +kernel
theorem dX12_put_149 : decode cX12_put 149 = .ok (.iconst 1, 1) := by decide +kernel
theorem dX12_put_150 : decode cX12_put 150 = .ok (.ireturn, 1) := by decide +kernel
theorem dX12_get_0 : decode cX12_get 0 = .ok (.iload_n 1, 1) := by decide +kernel
theorem dX12_get_1 : decode cX12_get 1 = .ok (.invokestatic 246, 3) := by decide +kernel
theorem dX12_get_4 : decode cX12_get 4 = .ok (.ifCond .ne 5, 3) := by decide +kernel
theorem dX12_get_7 : decode cX12_get 7 = .ok (.iconst (-1), 1) := by decide +kernel
theorem dX12_get_8 : decode cX12_get 8 = .ok (.ireturn, 1) := by decide +kernel
theorem dX12_get_9 : decode cX12_get 9 = .ok (.aload_n 0, 1) := by decide +kernel
theorem dX12_get_10 : decode cX12_get 10 = .ok (.iload_n 1, 1) := by decide +kernel
theorem dX12_get_11 : decode cX12_get 11 = .ok (.invokevirtual 446, 3) := by decide +kernel
theorem dX12_get_14 : decode cX12_get 14 = .ok (.ifCond .ne 6, 3) := by decide +kernel
theorem dX12_get_17 : decode cX12_get 17 = .ok (.bipush (-2), 2) := by decide +kernel
theorem dX12_get_19 : decode cX12_get 19 = .ok (.ireturn, 1) := by decide +kernel
theorem dX12_get_20 : decode cX12_get 20 = .ok (.aload_n 0, 1) := by decide +kernel
theorem dX12_get_21 : decode cX12_get 21 = .ok (.lload_n 2, 1) := by decide +kernel
theorem dX12_get_22 : decode cX12_get 22 = .ok (.iload 4, 2) := by decide +kernel
theorem dX12_get_24 : decode cX12_get 24 = .ok (.invokevirtual 442, 3) := by decide +kernel
theorem dX12_get_27 : decode cX12_get 27 = .ok (.ifCond .ne 6, 3) := by decide +kernel
theorem dX12_get_30 : decode cX12_get 30 = .ok (.bipush (-4), 2) := by decide +kernel
theorem dX12_get_32 : decode cX12_get 32 = .ok (.ireturn, 1) := by decide +kernel
theorem dX12_get_33 : decode cX12_get 33 = .ok (.aload_n 0, 1) := by decide +kernel
theorem dX12_get_34 : decode cX12_get 34 = .ok (.iload_n 1, 1) := by decide +kernel
theorem dX12_get_35 : decode cX12_get 35 = .ok (.iload 4, 2) := by decide +kernel
theorem dX12_get_37 : decode cX12_get 37 = .ok (.invokevirtual 449, 3) := by decide +kernel
theorem dX12_get_40 : decode cX12_get 40 = .ok (.aload_n 0, 1) := by decide +kernel
theorem dX12_get_41 : decode cX12_get 41 = .ok (.getfield 230, 3) := by decide +kernel
theorem dX12_get_44 : decode cX12_get 44 = .ok (.iload_n 1, 1) := by decide +kernel
theorem dX12_get_45 : decode cX12_get 45 = .ok (.iconst 0, 1) := by decide +kernel
theorem dX12_get_46 : decode cX12_get 46 = .ok (.bastore, 1) := by decide +kernel
theorem dX12_get_47 : decode cX12_get 47 = .ok (.aload_n 0, 1) := by decide +kernel
theorem dX12_get_48 : decode cX12_get 48 = .ok (.sipush 131, 3) := by decide +kernel
theorem dX12_get_51 : decode cX12_get 51 = .ok (.invokevirtual 414, 3) := by decide +kernel
theorem dX12_get_54 : decode cX12_get 54 = .ok (.aload_n 0, 1) := by decide +kernel
theorem dX12_get_55 : decode cX12_get 55 = .ok (.iconst 1, 1) := by decide +kernel
theorem dX12_get_56 : decode cX12_get 56 = .ok (.aload_n 0, 1) := by decide +kernel
theorem dX12_get_57 : decode cX12_get 57 = .ok (.getfield 218, 3) := by decide +kernel
theorem dX12_get_60 : decode cX12_get 60 = .ok (.bipush 8, 2) := by decide +kernel
theorem dX12_get_62 : decode cX12_get 62 = .ok (.iload_n 1, 1) := by decide +kernel
theorem dX12_get_63 : decode cX12_get 63 = .ok (.imul, 1) := by decide +kernel
theorem dX12_get_64 : decode cX12_get 64 = .ok (.iload 4, 2) := by decide +kernel
theorem dX12_get_66 : decode cX12_get 66 = .ok (.invokevirtual 430, 3) := by decide +kernel
theorem dX12_get_69 : decode cX12_get 69 = .ok (.aload_n 0, 1) := by decide +kernel
theorem dX12_get_70 : decode cX12_get 70 = .ok (.iload_n 1, 1) := by decide +kernel
theorem dX12_get_71 : decode cX12_get 71 = .ok (.invokevirtual 423, 3) := by decide +kernel
theorem dX12_get_74 : decode cX12_get 74 = .ok (.aload_n 0, 1) := by decide +kernel
theorem dX12_get_75 : decode cX12_get 75 = .ok (.iload_n 1, 1) := by decide +kernel
theorem dX12_get_76 : decode cX12_get 76 = .ok (.invokevirtual 356, 3) := by decide +kernel
theorem dX12_get_79 : decode cX12_get 79 = .ok (.iconst 1, 1) := by decide +kernel
theorem dX12_get_80 : decode cX12_get 80 = .ok (.ireturn, 1) := by decide +kernel
theorem dX12_among_0 : decode cX12_among 0 = .ok (.iload_n 1, 1) := by decide +kernel
theorem dX12_among_1 : decode cX12_among 1 = .ok (.invokestatic 246, 3) := by decide +kernel
theorem dX12_among_4 : decode cX12_among 4 = .ok (.ifCond .eq 28, 3) := by decide +kernel
theorem dX12_among_7 : decode cX12_among 7 = .ok (.aload_n 0, 1) := by decide +kernel
theorem dX12_among_8 : decode cX12_among 8 = .ok (.lload_n 2, 1) := by decide +kernel
theorem dX12_among_9 : decode cX12_among 9 = .ok (.iload 4, 2) := by decide +kernel
theorem dX12_among_11 : decode cX12_among 11 = .ok (.invokevirtual 442, 3) := by decide +kernel
theorem dX12_among_14 : decode cX12_among 14 = .ok (.ifCond .eq 18, 3) := by decide +kernel
theorem dX12_among_17 : decode cX12_among 17 = .ok (.aload_n 0, 1) := by decide +kernel
theorem dX12_among_18 : decode cX12_among 18 = .ok (.iload_n 1, 1) := by decide +kernel
theorem dX12_among_19 : decode cX12_among 19 = .ok (.aload_n 0, 1) := by decide +kernel
theorem dX12_among_20 : decode cX12_among 20 = .ok (.getfield 239, 3) := by decide +kernel
theorem dX12_among_23 : decode cX12_among 23 = .ok (.iconst 0, 1) := by decide +kernel
theorem dX12_among_24 : decode cX12_among 24 = .ok (.iload 4, 2) := by decide +kernel
theorem dX12_among_26 : decode cX12_among 26 = .ok (.invokevirtual 383, 3) := by decide +kernel
theorem dX12_among_29 : decode cX12_among 29 = .ok (.goto 4, 3) := by decide +kernel
theorem dX12_among_32 : decode cX12_among 32 = .ok (.iconst (-1), 1) := by decide +kernel
theorem dX12_among_33 : decode cX12_among 33 = .ok (.istore 5, 2) := by decide +kernel
theorem dX12_among_35 : decode cX12_among 35 = .ok (.iload 5, 2) := by decide +kernel
theorem dX12_among_37 : decode cX12_among 37 = .ok (.ifCond .ge 7, 3) := by decide +kernel
theorem dX12_among_40 : decode cX12_among 40 = .ok (.iconst (-1), 1) := by decide +kernel
theorem dX12_among_41 : decode cX12_among 41 = .ok (.goto 10, 3) := by decide +kernel
theorem dX12_among_44 : decode cX12_among 44 = .ok (.bipush 6, 2) := by decide +kernel
theorem dX12_among_46 : decode cX12_among 46 = .ok (.iload_n 1, 1) := by decide +kernel
theorem dX12_among_47 : decode cX12_among 47 = .ok (.imul, 1) := by decide +kernel
theorem dX12_among_48 : decode cX12_among 48 = .ok (.iload 5, 2) := by decide +kernel
theorem dX12_among_50 : decode cX12_among 50 = .ok (.iadd, 1) := by decide +kernel
theorem dX12_among_51 : decode cX12_among 51 = .ok (.ireturn, 1) := by decide +kernel
theorem dX12_size_0 : decode cX12_size 0 = .ok (.aload_n 0, 1) := by decide +kernel
theorem dX12_size_1 : decode cX12_size 1 = .ok (.iload_n 1, 1) := by decide +kernel
theorem dX12_size_2 : decode cX12_size 2 = .ok (.lload_n 2, 1) := by decide +kernel
theorem dX12_size_3 : decode cX12_size 3 = .ok (.iload 4, 2) := by decide +kernel
theorem dX12_size_5 : decode cX12_size 5 = .ok (.invokevirtual 452, 3) := by decide +kernel
theorem dX12_size_8 : decode cX12_size 8 = .ok (.istore 5, 2) := by decide +kernel
theorem dX12_size_10 : decode cX12_size 10 = .ok (.iload 5, 2) := by decide +kernel
theorem dX12_size_12 : decode cX12_size 12 = .ok (.ifCond .ge 7, 3) := by decide +kernel
theorem dX12_size_15 : decode cX12_size 15 = .ok (.iconst (-1), 1) := by decide +kernel
theorem dX12_size_16 : decode cX12_size 16 = .ok (.goto 10, 3) := by decide +kernel
theorem dX12_size_19 : decode cX12_size 19 = .ok (.aload_n 0, 1) := by decide +kernel
theorem dX12_size_20 : decode cX12_size 20 = .ok (.getfield 176, 3) := by decide +kernel
theorem dX12_size_23 : decode cX12_size 23 = .ok (.iload 5, 2) := by decide +kernel
theorem dX12_size_25 : decode cX12_size 25 = .ok (.iaload, 1) := by decide +kernel
theorem dX12_size_26 : decode cX12_size 26 = .ok (.ireturn, 1) := by decide +kernel
theorem dX12_octet_0 : decode cX12_octet 0 = .ok (.aload_n 0, 1) := by decide +kernel
theorem dX12_octet_1 : decode cX12_octet 1 = .ok (.iload_n 1, 1) := by decide +kernel
theorem dX12_octet_2 : decode cX12_octet 2 = .ok (.lload_n 2, 1) := by decide +kernel
theorem dX12_octet_3 : decode cX12_octet 3 = .ok (.iload 4, 2) := by decide +kernel
theorem dX12_octet_5 : decode cX12_octet 5 = .ok (.invokevirtual 452, 3) := by decide +kernel
theorem dX12_octet_8 : decode cX12_octet 8 = .ok (.istore 6, 2) := by decide +kernel
theorem dX12_octet_10 : decode cX12_octet 10 = .ok (.iload 6, 2) := by decide +kernel
theorem dX12_octet_12 : decode cX12_octet 12 = .ok (.ifCond .lt 20, 3) := by decide +kernel
theorem dX12_octet_15 : decode cX12_octet 15 = .ok (.iload 5, 2) := by decide +kernel
theorem dX12_octet_17 : decode cX12_octet 17 = .ok (.ifCond .lt 15, 3) := by decide +kernel
theorem dX12_octet_20 : decode cX12_octet 20 = .ok (.iload 5, 2) := by decide +kernel
theorem dX12_octet_22 : decode cX12_octet 22 = .ok (.aload_n 0, 1) := by decide +kernel
theorem dX12_octet_23 : decode cX12_octet 23 = .ok (.getfield 176, 3) := by decide +kernel
theorem dX12_octet_26 : decode cX12_octet 26 = .ok (.iload 6, 2) := by decide +kernel
theorem dX12_octet_28 : decode cX12_octet 28 = .ok (.iaload, 1) := by decide +kernel
theorem dX12_octet_29 : decode cX12_octet 29 = .ok (.if_icmp .lt 7, 3) := by decide +kernel
theorem dX12_octet_32 : decode cX12_octet 32 = .ok (.iconst (-1), 1) := by decide +kernel
theorem dX12_octet_33 : decode cX12_octet 33 = .ok (.goto 16, 3) := by decide +kernel
theorem dX12_octet_36 : decode cX12_octet 36 = .ok (.aload_n 0, 1) := by decide +kernel
theorem dX12_octet_37 : decode cX12_octet 37 = .ok (.getfield 179, 3) := by decide +kernel
theorem dX12_octet_40 : decode cX12_octet 40 = .ok (.bipush 120, 2) := by decide +kernel
theorem dX12_octet_42 : decode cX12_octet 42 = .ok (.iload 6, 2) := by decide +kernel
theorem dX12_octet_44 : decode cX12_octet 44 = .ok (.imul, 1) := by decide +kernel
theorem dX12_octet_45 : decode cX12_octet 45 = .ok (.iload 5, 2) := by decide +kernel
theorem dX12_octet_47 : decode cX12_octet 47 = .ok (.iadd, 1) := by decide +kernel
theorem dX12_octet_48 : decode cX12_octet 48 = .ok (.iaload, 1) := by decide +kernel
theorem dX12_octet_49 : decode cX12_octet 49 = .ok (.ireturn, 1) := by decide +kernel
theorem dX12_of_0 : decode cX12_of 0 = .ok (.iload_n 1, 1) := by decide +kernel
theorem dX12_of_1 : decode cX12_of 1 = .ok (.invokestatic 246, 3) := by decide +kernel
theorem dX12_of_4 : decode cX12_of 4 = .ok (.ifCond .ne 6, 3) := by decide +kernel
theorem dX12_of_7 : decode cX12_of 7 = .ok (.bipush (-9), 2) := by decide +kernel
theorem dX12_of_9 : decode cX12_of 9 = .ok (.ireturn, 1) := by decide +kernel
theorem dX12_of_10 : decode cX12_of 10 = .ok (.iload_n 2, 1) := by decide +kernel
theorem dX12_of_11 : decode cX12_of 11 = .ok (.tableswitch 208 0 16 #[81, 88, 95, 102, 109, 116, 123, 130, 137, 144, 151, 158, 165, 172, 179, 186, 201], 81) := by decide +kernel
theorem dX12_of_92 : decode cX12_of 92 = .ok (.aload_n 0, 1) := by decide +kernel
theorem dX12_of_93 : decode cX12_of 93 = .ok (.getfield 16, 3) := by decide +kernel
theorem dX12_of_96 : decode cX12_of 96 = .ok (.iload_n 1, 1) := by decide +kernel
theorem dX12_of_97 : decode cX12_of 97 = .ok (.iaload, 1) := by decide +kernel
theorem dX12_of_98 : decode cX12_of 98 = .ok (.ireturn, 1) := by decide +kernel
theorem dX12_of_99 : decode cX12_of 99 = .ok (.aload_n 0, 1) := by decide +kernel
theorem dX12_of_100 : decode cX12_of 100 = .ok (.getfield 7, 3) := by decide +kernel
theorem dX12_of_103 : decode cX12_of 103 = .ok (.iload_n 1, 1) := by decide +kernel
theorem dX12_of_104 : decode cX12_of 104 = .ok (.iaload, 1) := by decide +kernel
theorem dX12_of_105 : decode cX12_of 105 = .ok (.ireturn, 1) := by decide +kernel
theorem dX12_of_106 : decode cX12_of 106 = .ok (.aload_n 0, 1) := by decide +kernel
theorem dX12_of_107 : decode cX12_of 107 = .ok (.getfield 19, 3) := by decide +kernel
theorem dX12_of_110 : decode cX12_of 110 = .ok (.iload_n 1, 1) := by decide +kernel
theorem dX12_of_111 : decode cX12_of 111 = .ok (.iaload, 1) := by decide +kernel
theorem dX12_of_112 : decode cX12_of 112 = .ok (.ireturn, 1) := by decide +kernel
theorem dX12_of_113 : decode cX12_of 113 = .ok (.aload_n 0, 1) := by decide +kernel
theorem dX12_of_114 : decode cX12_of 114 = .ok (.getfield 22, 3) := by decide +kernel
theorem dX12_of_117 : decode cX12_of 117 = .ok (.iload_n 1, 1) := by decide +kernel
theorem dX12_of_118 : decode cX12_of 118 = .ok (.iaload, 1) := by decide +kernel
theorem dX12_of_119 : decode cX12_of 119 = .ok (.ireturn, 1) := by decide +kernel
theorem dX12_of_120 : decode cX12_of 120 = .ok (.aload_n 0, 1) := by decide +kernel
theorem dX12_of_121 : decode cX12_of 121 = .ok (.getfield 101, 3) := by decide +kernel
theorem dX12_of_124 : decode cX12_of 124 = .ok (.iload_n 1, 1) := by decide +kernel
theorem dX12_of_125 : decode cX12_of 125 = .ok (.iaload, 1) := by decide +kernel
theorem dX12_of_126 : decode cX12_of 126 = .ok (.ireturn, 1) := by decide +kernel
theorem dX12_of_127 : decode cX12_of 127 = .ok (.aload_n 0, 1) := by decide +kernel
theorem dX12_of_128 : decode cX12_of 128 = .ok (.getfield 104, 3) := by decide +kernel
theorem dX12_of_131 : decode cX12_of 131 = .ok (.iload_n 1, 1) := by decide +kernel
theorem dX12_of_132 : decode cX12_of 132 = .ok (.iaload, 1) := by decide +kernel
theorem dX12_of_133 : decode cX12_of 133 = .ok (.ireturn, 1) := by decide +kernel
theorem dX12_of_134 : decode cX12_of 134 = .ok (.aload_n 0, 1) := by decide +kernel
theorem dX12_of_135 : decode cX12_of 135 = .ok (.getfield 122, 3) := by decide +kernel
theorem dX12_of_138 : decode cX12_of 138 = .ok (.iload_n 1, 1) := by decide +kernel
theorem dX12_of_139 : decode cX12_of 139 = .ok (.iaload, 1) := by decide +kernel
theorem dX12_of_140 : decode cX12_of 140 = .ok (.ireturn, 1) := by decide +kernel
theorem dX12_of_141 : decode cX12_of 141 = .ok (.aload_n 0, 1) := by decide +kernel
theorem dX12_of_142 : decode cX12_of 142 = .ok (.getfield 143, 3) := by decide +kernel
theorem dX12_of_145 : decode cX12_of 145 = .ok (.iload_n 1, 1) := by decide +kernel
theorem dX12_of_146 : decode cX12_of 146 = .ok (.iaload, 1) := by decide +kernel
theorem dX12_of_147 : decode cX12_of 147 = .ok (.ireturn, 1) := by decide +kernel
theorem dX12_of_148 : decode cX12_of 148 = .ok (.aload_n 0, 1) := by decide +kernel
theorem dX12_of_149 : decode cX12_of 149 = .ok (.getfield 134, 3) := by decide +kernel
theorem dX12_of_152 : decode cX12_of 152 = .ok (.iload_n 1, 1) := by decide +kernel
theorem dX12_of_153 : decode cX12_of 153 = .ok (.iaload, 1) := by decide +kernel
theorem dX12_of_154 : decode cX12_of 154 = .ok (.ireturn, 1) := by decide +kernel
theorem dX12_of_155 : decode cX12_of 155 = .ok (.aload_n 0, 1) := by decide +kernel
theorem dX12_of_156 : decode cX12_of 156 = .ok (.getfield 140, 3) := by decide +kernel
theorem dX12_of_159 : decode cX12_of 159 = .ok (.iload_n 1, 1) := by decide +kernel
theorem dX12_of_160 : decode cX12_of 160 = .ok (.iaload, 1) := by decide +kernel
theorem dX12_of_161 : decode cX12_of 161 = .ok (.ireturn, 1) := by decide +kernel
theorem dX12_of_162 : decode cX12_of 162 = .ok (.aload_n 0, 1) := by decide +kernel
theorem dX12_of_163 : decode cX12_of 163 = .ok (.getfield 28, 3) := by decide +kernel
theorem dX12_of_166 : decode cX12_of 166 = .ok (.iload_n 1, 1) := by decide +kernel
theorem dX12_of_167 : decode cX12_of 167 = .ok (.iaload, 1) := by decide +kernel
theorem dX12_of_168 : decode cX12_of 168 = .ok (.ireturn, 1) := by decide +kernel
theorem dX12_of_169 : decode cX12_of 169 = .ok (.aload_n 0, 1) := by decide +kernel
theorem dX12_of_170 : decode cX12_of 170 = .ok (.getfield 59, 3) := by decide +kernel
theorem dX12_of_173 : decode cX12_of 173 = .ok (.iload_n 1, 1) := by decide +kernel
theorem dX12_of_174 : decode cX12_of 174 = .ok (.iaload, 1) := by decide +kernel
theorem dX12_of_175 : decode cX12_of 175 = .ok (.ireturn, 1) := by decide +kernel
theorem dX12_of_176 : decode cX12_of 176 = .ok (.aload_n 0, 1) := by decide +kernel
theorem dX12_of_177 : decode cX12_of 177 = .ok (.getfield 62, 3) := by decide +kernel
theorem dX12_of_180 : decode cX12_of 180 = .ok (.iload_n 1, 1) := by decide +kernel
theorem dX12_of_181 : decode cX12_of 181 = .ok (.iaload, 1) := by decide +kernel
theorem dX12_of_182 : decode cX12_of 182 = .ok (.ireturn, 1) := by decide +kernel
theorem dX12_of_183 : decode cX12_of 183 = .ok (.aload_n 0, 1) := by decide +kernel
theorem dX12_of_184 : decode cX12_of 184 = .ok (.getfield 167, 3) := by decide +kernel
theorem dX12_of_187 : decode cX12_of 187 = .ok (.iload_n 1, 1) := by decide +kernel
theorem dX12_of_188 : decode cX12_of 188 = .ok (.iaload, 1) := by decide +kernel
theorem dX12_of_189 : decode cX12_of 189 = .ok (.ireturn, 1) := by decide +kernel
theorem dX12_of_190 : decode cX12_of 190 = .ok (.aload_n 0, 1) := by decide +kernel
theorem dX12_of_191 : decode cX12_of 191 = .ok (.getfield 212, 3) := by decide +kernel
theorem dX12_of_194 : decode cX12_of 194 = .ok (.iload_n 1, 1) := by decide +kernel
theorem dX12_of_195 : decode cX12_of 195 = .ok (.iaload, 1) := by decide +kernel
theorem dX12_of_196 : decode cX12_of 196 = .ok (.ireturn, 1) := by decide +kernel
theorem dX12_of_197 : decode cX12_of 197 = .ok (.aload_n 0, 1) := by decide +kernel
theorem dX12_of_198 : decode cX12_of 198 = .ok (.getfield 83, 3) := by decide +kernel
theorem dX12_of_201 : decode cX12_of 201 = .ok (.iload_n 1, 1) := by decide +kernel
theorem dX12_of_202 : decode cX12_of 202 = .ok (.baload, 1) := by decide +kernel
theorem dX12_of_203 : decode cX12_of 203 = .ok (.ifCond .eq 7, 3) := by decide +kernel
theorem dX12_of_206 : decode cX12_of 206 = .ok (.iconst 1, 1) := by decide +kernel
theorem dX12_of_207 : decode cX12_of 207 = .ok (.goto 4, 3) := by decide +kernel
theorem dX12_of_210 : decode cX12_of 210 = .ok (.iconst 0, 1) := by decide +kernel
theorem dX12_of_211 : decode cX12_of 211 = .ok (.ireturn, 1) := by decide +kernel
theorem dX12_of_212 : decode cX12_of 212 = .ok (.aload_n 0, 1) := by decide +kernel
theorem dX12_of_213 : decode cX12_of 213 = .ok (.getfield 77, 3) := by decide +kernel
theorem dX12_of_216 : decode cX12_of 216 = .ok (.iload_n 1, 1) := by decide +kernel
theorem dX12_of_217 : decode cX12_of 217 = .ok (.iaload, 1) := by decide +kernel
theorem dX12_of_218 : decode cX12_of 218 = .ok (.ireturn, 1) := by decide +kernel
theorem dX12_of_219 : decode cX12_of 219 = .ok (.bipush (-9), 2) := by decide +kernel
theorem dX12_of_221 : decode cX12_of 221 = .ok (.ireturn, 1) := by decide +kernel
