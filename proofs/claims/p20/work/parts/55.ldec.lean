theorem lw_gV {own C : String} {idx : Nat} {y : MethodName} {b : ByteArray} {mL : Nat} {ret : Option FieldType} (h1 : Cond.methodLink own idx y ∈ am_big) (h2 : Cond.instanceMethod y ∈ am_big) (h3 : Cond.selects C y y ∈ am_big) (h4 : Cond.initialized C ∈ am_big) (h : Cond.code y b mL ret ∈ am_big) : GoodIn lw_tbl (wsV own idx C y (Cond.code y b mL ret :: am_big)) := fun w hw => by
  have hb : w ∈ am_big := by
    unfold wsV at hw
    rcases List.mem_append.mp hw with hw | hw
    · simp only [List.mem_cons, List.not_mem_nil, or_false] at hw
      rcases hw with rfl | rfl | rfl | rfl <;> assumption
    · rcases List.mem_cons.mp hw with rfl | hw
      · exact h
      · exact hw
  exact am_big_good w hb
theorem lw_ht {args : Array Value} {s : State} (hts : ∀ w ∈ lw_tbl, w.before args s = true) (k : Nat) (w : Cond) (h : am_big[k]? = some w) : w.before args s = true := hts w (am_big_good w (am_in k h)).1
theorem dL_law_0 : decode code 0 = .ok (.new 7, 3) := by decide +kernel
theorem dL_law_3 : decode code 3 = .ok (.dup, 1) := by decide +kernel
theorem dL_law_4 : decode code 4 = .ok (.invokespecial 9, 3) := by decide +kernel
theorem dL_law_7 : decode code 7 = .ok (.astore_n 1, 1) := by decide +kernel
theorem dL_law_8 : decode code 8 = .ok (.new 10, 3) := by decide +kernel
theorem dL_law_11 : decode code 11 = .ok (.dup, 1) := by decide +kernel
theorem dL_law_12 : decode code 12 = .ok (.invokespecial 12, 3) := by decide +kernel
theorem dL_law_15 : decode code 15 = .ok (.astore_n 2, 1) := by decide +kernel
theorem dL_law_16 : decode code 16 = .ok (.iconst 0, 1) := by decide +kernel
theorem dL_law_17 : decode code 17 = .ok (.istore_n 3, 1) := by decide +kernel
theorem dL_law_18 : decode code 18 = .ok (.iload_n 3, 1) := by decide +kernel
theorem dL_law_19 : decode code 19 = .ok (.aload_n 0, 1) := by decide +kernel
theorem dL_law_20 : decode code 20 = .ok (.arraylength, 1) := by decide +kernel
theorem dL_law_21 : decode code 21 = .ok (.bipush 6, 2) := by decide +kernel
theorem dL_law_23 : decode code 23 = .ok (.isub, 1) := by decide +kernel
theorem dL_law_24 : decode code 24 = .ok (.if_icmp .gt 943, 3) := by decide +kernel
theorem dL_law_27 : decode code 27 = .ok (.aload_n 0, 1) := by decide +kernel
theorem dL_law_28 : decode code 28 = .ok (.iload_n 3, 1) := by decide +kernel
theorem dL_law_29 : decode code 29 = .ok (.iaload, 1) := by decide +kernel
theorem dL_law_30 : decode code 30 = .ok (.bipush 31, 2) := by decide +kernel
theorem dL_law_32 : decode code 32 = .ok (.iand, 1) := by decide +kernel
theorem dL_law_33 : decode code 33 = .ok (.tableswitch 928 0 18 #[91, 174, 207, 280, 353, 416, 509, 532, 635, 648, 701, 724, 747, 770, 793, 806, 819, 882, 905], 91) := by decide +kernel
theorem dL_law_124 : decode code 124 = .ok (.aload_n 1, 1) := by decide +kernel
theorem dL_law_125 : decode code 125 = .ok (.aload_n 0, 1) := by decide +kernel
theorem dL_law_126 : decode code 126 = .ok (.iload_n 3, 1) := by decide +kernel
theorem dL_law_127 : decode code 127 = .ok (.iconst 1, 1) := by decide +kernel
theorem dL_law_128 : decode code 128 = .ok (.iadd, 1) := by decide +kernel
theorem dL_law_129 : decode code 129 = .ok (.iaload, 1) := by decide +kernel
theorem dL_law_130 : decode code 130 = .ok (.aload_n 0, 1) := by decide +kernel
theorem dL_law_131 : decode code 131 = .ok (.iload_n 3, 1) := by decide +kernel
theorem dL_law_132 : decode code 132 = .ok (.iconst 2, 1) := by decide +kernel
theorem dL_law_133 : decode code 133 = .ok (.iadd, 1) := by decide +kernel
theorem dL_law_134 : decode code 134 = .ok (.iaload, 1) := by decide +kernel
theorem dL_law_135 : decode code 135 = .ok (.aload_n 0, 1) := by decide +kernel
theorem dL_law_136 : decode code 136 = .ok (.iload_n 3, 1) := by decide +kernel
theorem dL_law_137 : decode code 137 = .ok (.iconst 3, 1) := by decide +kernel
theorem dL_law_138 : decode code 138 = .ok (.iadd, 1) := by decide +kernel
theorem dL_law_139 : decode code 139 = .ok (.iaload, 1) := by decide +kernel
theorem dL_law_140 : decode code 140 = .ok (.aload_n 0, 1) := by decide +kernel
theorem dL_law_141 : decode code 141 = .ok (.iload_n 3, 1) := by decide +kernel
theorem dL_law_142 : decode code 142 = .ok (.iconst 4, 1) := by decide +kernel
theorem dL_law_143 : decode code 143 = .ok (.iadd, 1) := by decide +kernel
theorem dL_law_144 : decode code 144 = .ok (.iaload, 1) := by decide +kernel
theorem dL_law_145 : decode code 145 = .ok (.i2l, 1) := by decide +kernel
theorem dL_law_146 : decode code 146 = .ok (.bipush 32, 2) := by decide +kernel
theorem dL_law_148 : decode code 148 = .ok (.lshl, 1) := by decide +kernel
theorem dL_law_149 : decode code 149 = .ok (.aload_n 0, 1) := by decide +kernel
theorem dL_law_150 : decode code 150 = .ok (.iload_n 3, 1) := by decide +kernel
theorem dL_law_151 : decode code 151 = .ok (.iconst 5, 1) := by decide +kernel
theorem dL_law_152 : decode code 152 = .ok (.iadd, 1) := by decide +kernel
theorem dL_law_153 : decode code 153 = .ok (.iaload, 1) := by decide +kernel
theorem dL_law_154 : decode code 154 = .ok (.i2l, 1) := by decide +kernel
theorem dL_law_155 : decode code 155 = .ok (.ldc2_w 13, 3) := by decide +kernel
theorem dL_law_158 : decode code 158 = .ok (.land, 1) := by decide +kernel
theorem dL_law_159 : decode code 159 = .ok (.lor, 1) := by decide +kernel
theorem dL_law_160 : decode code 160 = .ok (.invokevirtual 15, 3) := by decide +kernel
theorem dL_law_163 : decode code 163 = .ok (.pop, 1) := by decide +kernel
theorem dL_law_164 : decode code 164 = .ok (.aload_n 2, 1) := by decide +kernel
theorem dL_law_165 : decode code 165 = .ok (.aload_n 0, 1) := by decide +kernel
theorem dL_law_166 : decode code 166 = .ok (.iload_n 3, 1) := by decide +kernel
theorem dL_law_167 : decode code 167 = .ok (.iconst 1, 1) := by decide +kernel
theorem dL_law_168 : decode code 168 = .ok (.iadd, 1) := by decide +kernel
theorem dL_law_169 : decode code 169 = .ok (.iaload, 1) := by decide +kernel
theorem dL_law_170 : decode code 170 = .ok (.aload_n 0, 1) := by decide +kernel
theorem dL_law_171 : decode code 171 = .ok (.iload_n 3, 1) := by decide +kernel
theorem dL_law_172 : decode code 172 = .ok (.iconst 2, 1) := by decide +kernel
theorem dL_law_173 : decode code 173 = .ok (.iadd, 1) := by decide +kernel
theorem dL_law_174 : decode code 174 = .ok (.iaload, 1) := by decide +kernel
theorem dL_law_175 : decode code 175 = .ok (.aload_n 0, 1) := by decide +kernel
theorem dL_law_176 : decode code 176 = .ok (.iload_n 3, 1) := by decide +kernel
theorem dL_law_177 : decode code 177 = .ok (.iconst 3, 1) := by decide +kernel
theorem dL_law_178 : decode code 178 = .ok (.iadd, 1) := by decide +kernel
theorem dL_law_179 : decode code 179 = .ok (.iaload, 1) := by decide +kernel
theorem dL_law_180 : decode code 180 = .ok (.aload_n 0, 1) := by decide +kernel
theorem dL_law_181 : decode code 181 = .ok (.iload_n 3, 1) := by decide +kernel
theorem dL_law_182 : decode code 182 = .ok (.iconst 4, 1) := by decide +kernel
theorem dL_law_183 : decode code 183 = .ok (.iadd, 1) := by decide +kernel
theorem dL_law_184 : decode code 184 = .ok (.iaload, 1) := by decide +kernel
theorem dL_law_185 : decode code 185 = .ok (.i2l, 1) := by decide +kernel
theorem dL_law_186 : decode code 186 = .ok (.bipush 32, 2) := by decide +kernel
theorem dL_law_188 : decode code 188 = .ok (.lshl, 1) := by decide +kernel
theorem dL_law_189 : decode code 189 = .ok (.aload_n 0, 1) := by decide +kernel
theorem dL_law_190 : decode code 190 = .ok (.iload_n 3, 1) := by decide +kernel
theorem dL_law_191 : decode code 191 = .ok (.iconst 5, 1) := by decide +kernel
theorem dL_law_192 : decode code 192 = .ok (.iadd, 1) := by decide +kernel
theorem dL_law_193 : decode code 193 = .ok (.iaload, 1) := by decide +kernel
theorem dL_law_194 : decode code 194 = .ok (.i2l, 1) := by decide +kernel
theorem dL_law_195 : decode code 195 = .ok (.ldc2_w 13, 3) := by decide +kernel
theorem dL_law_198 : decode code 198 = .ok (.land, 1) := by decide +kernel
theorem dL_law_199 : decode code 199 = .ok (.lor, 1) := by decide +kernel
theorem dL_law_200 : decode code 200 = .ok (.invokevirtual 19, 3) := by decide +kernel
theorem dL_law_203 : decode code 203 = .ok (.pop, 1) := by decide +kernel
theorem dL_law_204 : decode code 204 = .ok (.goto 757, 3) := by decide +kernel
theorem dL_law_207 : decode code 207 = .ok (.aload_n 1, 1) := by decide +kernel
theorem dL_law_208 : decode code 208 = .ok (.aload_n 0, 1) := by decide +kernel
theorem dL_law_209 : decode code 209 = .ok (.iload_n 3, 1) := by decide +kernel
theorem dL_law_210 : decode code 210 = .ok (.iconst 1, 1) := by decide +kernel
theorem dL_law_211 : decode code 211 = .ok (.iadd, 1) := by decide +kernel
theorem dL_law_212 : decode code 212 = .ok (.iaload, 1) := by decide +kernel
theorem dL_law_213 : decode code 213 = .ok (.aload_n 0, 1) := by decide +kernel
theorem dL_law_214 : decode code 214 = .ok (.iload_n 3, 1) := by decide +kernel
theorem dL_law_215 : decode code 215 = .ok (.iconst 2, 1) := by decide +kernel
theorem dL_law_216 : decode code 216 = .ok (.iadd, 1) := by decide +kernel
theorem dL_law_217 : decode code 217 = .ok (.iaload, 1) := by decide +kernel
theorem dL_law_218 : decode code 218 = .ok (.invokevirtual 20, 3) := by decide +kernel
theorem dL_law_221 : decode code 221 = .ok (.pop, 1) := by decide +kernel
theorem dL_law_222 : decode code 222 = .ok (.aload_n 2, 1) := by decide +kernel
theorem dL_law_223 : decode code 223 = .ok (.aload_n 0, 1) := by decide +kernel
theorem dL_law_224 : decode code 224 = .ok (.iload_n 3, 1) := by decide +kernel
theorem dL_law_225 : decode code 225 = .ok (.iconst 1, 1) := by decide +kernel
theorem dL_law_226 : decode code 226 = .ok (.iadd, 1) := by decide +kernel
theorem dL_law_227 : decode code 227 = .ok (.iaload, 1) := by decide +kernel
theorem dL_law_228 : decode code 228 = .ok (.aload_n 0, 1) := by decide +kernel
theorem dL_law_229 : decode code 229 = .ok (.iload_n 3, 1) := by decide +kernel
theorem dL_law_230 : decode code 230 = .ok (.iconst 2, 1) := by decide +kernel
theorem dL_law_231 : decode code 231 = .ok (.iadd, 1) := by decide +kernel
theorem dL_law_232 : decode code 232 = .ok (.iaload, 1) := by decide +kernel
theorem dL_law_233 : decode code 233 = .ok (.invokevirtual 24, 3) := by decide +kernel
theorem dL_law_236 : decode code 236 = .ok (.pop, 1) := by decide +kernel
theorem dL_law_237 : decode code 237 = .ok (.goto 724, 3) := by decide +kernel
theorem dL_law_240 : decode code 240 = .ok (.aload_n 1, 1) := by decide +kernel
theorem dL_law_241 : decode code 241 = .ok (.aload_n 0, 1) := by decide +kernel
theorem dL_law_242 : decode code 242 = .ok (.iload_n 3, 1) := by decide +kernel
theorem dL_law_243 : decode code 243 = .ok (.iconst 1, 1) := by decide +kernel
theorem dL_law_244 : decode code 244 = .ok (.iadd, 1) := by decide +kernel
theorem dL_law_245 : decode code 245 = .ok (.iaload, 1) := by decide +kernel
theorem dL_law_246 : decode code 246 = .ok (.aload_n 0, 1) := by decide +kernel
theorem dL_law_247 : decode code 247 = .ok (.iload_n 3, 1) := by decide +kernel
theorem dL_law_248 : decode code 248 = .ok (.iconst 2, 1) := by decide +kernel
theorem dL_law_249 : decode code 249 = .ok (.iadd, 1) := by decide +kernel
theorem dL_law_250 : decode code 250 = .ok (.iaload, 1) := by decide +kernel
theorem dL_law_251 : decode code 251 = .ok (.aload_n 0, 1) := by decide +kernel
theorem dL_law_252 : decode code 252 = .ok (.iload_n 3, 1) := by decide +kernel
theorem dL_law_253 : decode code 253 = .ok (.iconst 3, 1) := by decide +kernel
theorem dL_law_254 : decode code 254 = .ok (.iadd, 1) := by decide +kernel
theorem dL_law_255 : decode code 255 = .ok (.iaload, 1) := by decide +kernel
theorem dL_law_256 : decode code 256 = .ok (.i2l, 1) := by decide +kernel
theorem dL_law_257 : decode code 257 = .ok (.bipush 32, 2) := by decide +kernel
theorem dL_law_259 : decode code 259 = .ok (.lshl, 1) := by decide +kernel
theorem dL_law_260 : decode code 260 = .ok (.aload_n 0, 1) := by decide +kernel
theorem dL_law_261 : decode code 261 = .ok (.iload_n 3, 1) := by decide +kernel
theorem dL_law_262 : decode code 262 = .ok (.iconst 4, 1) := by decide +kernel
theorem dL_law_263 : decode code 263 = .ok (.iadd, 1) := by decide +kernel
theorem dL_law_264 : decode code 264 = .ok (.iaload, 1) := by decide +kernel
theorem dL_law_265 : decode code 265 = .ok (.i2l, 1) := by decide +kernel
theorem dL_law_266 : decode code 266 = .ok (.ldc2_w 13, 3) := by decide +kernel
theorem dL_law_269 : decode code 269 = .ok (.land, 1) := by decide +kernel
theorem dL_law_270 : decode code 270 = .ok (.lor, 1) := by decide +kernel
theorem dL_law_271 : decode code 271 = .ok (.invokevirtual 25, 3) := by decide +kernel
theorem dL_law_274 : decode code 274 = .ok (.pop, 1) := by decide +kernel
theorem dL_law_275 : decode code 275 = .ok (.aload_n 2, 1) := by decide +kernel
theorem dL_law_276 : decode code 276 = .ok (.aload_n 0, 1) := by decide +kernel
theorem dL_law_277 : decode code 277 = .ok (.iload_n 3, 1) := by decide +kernel
theorem dL_law_278 : decode code 278 = .ok (.iconst 1, 1) := by decide +kernel
theorem dL_law_279 : decode code 279 = .ok (.iadd, 1) := by decide +kernel
theorem dL_law_280 : decode code 280 = .ok (.iaload, 1) := by decide +kernel
theorem dL_law_281 : decode code 281 = .ok (.aload_n 0, 1) := by decide +kernel
theorem dL_law_282 : decode code 282 = .ok (.iload_n 3, 1) := by decide +kernel
theorem dL_law_283 : decode code 283 = .ok (.iconst 2, 1) := by decide +kernel
theorem dL_law_284 : decode code 284 = .ok (.iadd, 1) := by decide +kernel
theorem dL_law_285 : decode code 285 = .ok (.iaload, 1) := by decide +kernel
theorem dL_law_286 : decode code 286 = .ok (.aload_n 0, 1) := by decide +kernel
theorem dL_law_287 : decode code 287 = .ok (.iload_n 3, 1) := by decide +kernel
theorem dL_law_288 : decode code 288 = .ok (.iconst 3, 1) := by decide +kernel
theorem dL_law_289 : decode code 289 = .ok (.iadd, 1) := by decide +kernel
theorem dL_law_290 : decode code 290 = .ok (.iaload, 1) := by decide +kernel
theorem dL_law_291 : decode code 291 = .ok (.i2l, 1) := by decide +kernel
theorem dL_law_292 : decode code 292 = .ok (.bipush 32, 2) := by decide +kernel
theorem dL_law_294 : decode code 294 = .ok (.lshl, 1) := by decide +kernel
theorem dL_law_295 : decode code 295 = .ok (.aload_n 0, 1) := by decide +kernel
theorem dL_law_296 : decode code 296 = .ok (.iload_n 3, 1) := by decide +kernel
theorem dL_law_297 : decode code 297 = .ok (.iconst 4, 1) := by decide +kernel
theorem dL_law_298 : decode code 298 = .ok (.iadd, 1) := by decide +kernel
theorem dL_law_299 : decode code 299 = .ok (.iaload, 1) := by decide +kernel
theorem dL_law_300 : decode code 300 = .ok (.i2l, 1) := by decide +kernel
theorem dL_law_301 : decode code 301 = .ok (.ldc2_w 13, 3) := by decide +kernel
theorem dL_law_304 : decode code 304 = .ok (.land, 1) := by decide +kernel
theorem dL_law_305 : decode code 305 = .ok (.lor, 1) := by decide +kernel
theorem dL_law_306 : decode code 306 = .ok (.invokevirtual 29, 3) := by decide +kernel
theorem dL_law_309 : decode code 309 = .ok (.pop, 1) := by decide +kernel
theorem dL_law_310 : decode code 310 = .ok (.goto 651, 3) := by decide +kernel
theorem dL_law_313 : decode code 313 = .ok (.aload_n 1, 1) := by decide +kernel
theorem dL_law_314 : decode code 314 = .ok (.aload_n 0, 1) := by decide +kernel
theorem dL_law_315 : decode code 315 = .ok (.iload_n 3, 1) := by decide +kernel
theorem dL_law_316 : decode code 316 = .ok (.iconst 1, 1) := by decide +kernel
theorem dL_law_317 : decode code 317 = .ok (.iadd, 1) := by decide +kernel
theorem dL_law_318 : decode code 318 = .ok (.iaload, 1) := by decide +kernel
theorem dL_law_319 : decode code 319 = .ok (.aload_n 0, 1) := by decide +kernel
theorem dL_law_320 : decode code 320 = .ok (.iload_n 3, 1) := by decide +kernel
theorem dL_law_321 : decode code 321 = .ok (.iconst 2, 1) := by decide +kernel
theorem dL_law_322 : decode code 322 = .ok (.iadd, 1) := by decide +kernel
theorem dL_law_323 : decode code 323 = .ok (.iaload, 1) := by decide +kernel
theorem dL_law_324 : decode code 324 = .ok (.aload_n 0, 1) := by decide +kernel
theorem dL_law_325 : decode code 325 = .ok (.iload_n 3, 1) := by decide +kernel
theorem dL_law_326 : decode code 326 = .ok (.iconst 3, 1) := by decide +kernel
theorem dL_law_327 : decode code 327 = .ok (.iadd, 1) := by decide +kernel
theorem dL_law_328 : decode code 328 = .ok (.iaload, 1) := by decide +kernel
theorem dL_law_329 : decode code 329 = .ok (.i2l, 1) := by decide +kernel
theorem dL_law_330 : decode code 330 = .ok (.bipush 32, 2) := by decide +kernel
theorem dL_law_332 : decode code 332 = .ok (.lshl, 1) := by decide +kernel
theorem dL_law_333 : decode code 333 = .ok (.aload_n 0, 1) := by decide +kernel
theorem dL_law_334 : decode code 334 = .ok (.iload_n 3, 1) := by decide +kernel
theorem dL_law_335 : decode code 335 = .ok (.iconst 4, 1) := by decide +kernel
theorem dL_law_336 : decode code 336 = .ok (.iadd, 1) := by decide +kernel
theorem dL_law_337 : decode code 337 = .ok (.iaload, 1) := by decide +kernel
theorem dL_law_338 : decode code 338 = .ok (.i2l, 1) := by decide +kernel
theorem dL_law_339 : decode code 339 = .ok (.ldc2_w 13, 3) := by decide +kernel
theorem dL_law_342 : decode code 342 = .ok (.land, 1) := by decide +kernel
theorem dL_law_343 : decode code 343 = .ok (.lor, 1) := by decide +kernel
theorem dL_law_344 : decode code 344 = .ok (.invokevirtual 30, 3) := by decide +kernel
theorem dL_law_347 : decode code 347 = .ok (.pop, 1) := by decide +kernel
theorem dL_law_348 : decode code 348 = .ok (.aload_n 2, 1) := by decide +kernel
theorem dL_law_349 : decode code 349 = .ok (.aload_n 0, 1) := by decide +kernel
theorem dL_law_350 : decode code 350 = .ok (.iload_n 3, 1) := by decide +kernel
theorem dL_law_351 : decode code 351 = .ok (.iconst 1, 1) := by decide +kernel
theorem dL_law_352 : decode code 352 = .ok (.iadd, 1) := by decide +kernel
theorem dL_law_353 : decode code 353 = .ok (.iaload, 1) := by decide +kernel
theorem dL_law_354 : decode code 354 = .ok (.aload_n 0, 1) := by decide +kernel
theorem dL_law_355 : decode code 355 = .ok (.iload_n 3, 1) := by decide +kernel
theorem dL_law_356 : decode code 356 = .ok (.iconst 2, 1) := by decide +kernel
theorem dL_law_357 : decode code 357 = .ok (.iadd, 1) := by decide +kernel
theorem dL_law_358 : decode code 358 = .ok (.iaload, 1) := by decide +kernel
theorem dL_law_359 : decode code 359 = .ok (.aload_n 0, 1) := by decide +kernel
theorem dL_law_360 : decode code 360 = .ok (.iload_n 3, 1) := by decide +kernel
theorem dL_law_361 : decode code 361 = .ok (.iconst 3, 1) := by decide +kernel
theorem dL_law_362 : decode code 362 = .ok (.iadd, 1) := by decide +kernel
theorem dL_law_363 : decode code 363 = .ok (.iaload, 1) := by decide +kernel
theorem dL_law_364 : decode code 364 = .ok (.i2l, 1) := by decide +kernel
theorem dL_law_365 : decode code 365 = .ok (.bipush 32, 2) := by decide +kernel
theorem dL_law_367 : decode code 367 = .ok (.lshl, 1) := by decide +kernel
theorem dL_law_368 : decode code 368 = .ok (.aload_n 0, 1) := by decide +kernel
theorem dL_law_369 : decode code 369 = .ok (.iload_n 3, 1) := by decide +kernel
theorem dL_law_370 : decode code 370 = .ok (.iconst 4, 1) := by decide +kernel
theorem dL_law_371 : decode code 371 = .ok (.iadd, 1) := by decide +kernel
theorem dL_law_372 : decode code 372 = .ok (.iaload, 1) := by decide +kernel
theorem dL_law_373 : decode code 373 = .ok (.i2l, 1) := by decide +kernel
theorem dL_law_374 : decode code 374 = .ok (.ldc2_w 13, 3) := by decide +kernel
theorem dL_law_377 : decode code 377 = .ok (.land, 1) := by decide +kernel
theorem dL_law_378 : decode code 378 = .ok (.lor, 1) := by decide +kernel
theorem dL_law_379 : decode code 379 = .ok (.invokevirtual 33, 3) := by decide +kernel
theorem dL_law_382 : decode code 382 = .ok (.pop, 1) := by decide +kernel
theorem dL_law_383 : decode code 383 = .ok (.goto 578, 3) := by decide +kernel
theorem dL_law_386 : decode code 386 = .ok (.aload_n 1, 1) := by decide +kernel
theorem dL_law_387 : decode code 387 = .ok (.aload_n 0, 1) := by decide +kernel
theorem dL_law_388 : decode code 388 = .ok (.iload_n 3, 1) := by decide +kernel
theorem dL_law_389 : decode code 389 = .ok (.iconst 1, 1) := by decide +kernel
theorem dL_law_390 : decode code 390 = .ok (.iadd, 1) := by decide +kernel
theorem dL_law_391 : decode code 391 = .ok (.iaload, 1) := by decide +kernel
theorem dL_law_392 : decode code 392 = .ok (.aload_n 0, 1) := by decide +kernel
theorem dL_law_393 : decode code 393 = .ok (.iload_n 3, 1) := by decide +kernel
theorem dL_law_394 : decode code 394 = .ok (.iconst 2, 1) := by decide +kernel
theorem dL_law_395 : decode code 395 = .ok (.iadd, 1) := by decide +kernel
theorem dL_law_396 : decode code 396 = .ok (.iaload, 1) := by decide +kernel
theorem dL_law_397 : decode code 397 = .ok (.i2l, 1) := by decide +kernel
theorem dL_law_398 : decode code 398 = .ok (.bipush 32, 2) := by decide +kernel
theorem dL_law_400 : decode code 400 = .ok (.lshl, 1) := by decide +kernel
theorem dL_law_401 : decode code 401 = .ok (.aload_n 0, 1) := by decide +kernel
theorem dL_law_402 : decode code 402 = .ok (.iload_n 3, 1) := by decide +kernel
theorem dL_law_403 : decode code 403 = .ok (.iconst 3, 1) := by decide +kernel
theorem dL_law_404 : decode code 404 = .ok (.iadd, 1) := by decide +kernel
theorem dL_law_405 : decode code 405 = .ok (.iaload, 1) := by decide +kernel
theorem dL_law_406 : decode code 406 = .ok (.i2l, 1) := by decide +kernel
theorem dL_law_407 : decode code 407 = .ok (.ldc2_w 13, 3) := by decide +kernel
theorem dL_law_410 : decode code 410 = .ok (.land, 1) := by decide +kernel
theorem dL_law_411 : decode code 411 = .ok (.lor, 1) := by decide +kernel
theorem dL_law_412 : decode code 412 = .ok (.invokevirtual 34, 3) := by decide +kernel
theorem dL_law_415 : decode code 415 = .ok (.pop, 1) := by decide +kernel
theorem dL_law_416 : decode code 416 = .ok (.aload_n 2, 1) := by decide +kernel
theorem dL_law_417 : decode code 417 = .ok (.aload_n 0, 1) := by decide +kernel
theorem dL_law_418 : decode code 418 = .ok (.iload_n 3, 1) := by decide +kernel
theorem dL_law_419 : decode code 419 = .ok (.iconst 1, 1) := by decide +kernel
theorem dL_law_420 : decode code 420 = .ok (.iadd, 1) := by decide +kernel
theorem dL_law_421 : decode code 421 = .ok (.iaload, 1) := by decide +kernel
theorem dL_law_422 : decode code 422 = .ok (.aload_n 0, 1) := by decide +kernel
theorem dL_law_423 : decode code 423 = .ok (.iload_n 3, 1) := by decide +kernel
theorem dL_law_424 : decode code 424 = .ok (.iconst 2, 1) := by decide +kernel
theorem dL_law_425 : decode code 425 = .ok (.iadd, 1) := by decide +kernel
theorem dL_law_426 : decode code 426 = .ok (.iaload, 1) := by decide +kernel
theorem dL_law_427 : decode code 427 = .ok (.i2l, 1) := by decide +kernel
theorem dL_law_428 : decode code 428 = .ok (.bipush 32, 2) := by decide +kernel
theorem dL_law_430 : decode code 430 = .ok (.lshl, 1) := by decide +kernel
theorem dL_law_431 : decode code 431 = .ok (.aload_n 0, 1) := by decide +kernel
theorem dL_law_432 : decode code 432 = .ok (.iload_n 3, 1) := by decide +kernel
theorem dL_law_433 : decode code 433 = .ok (.iconst 3, 1) := by decide +kernel
theorem dL_law_434 : decode code 434 = .ok (.iadd, 1) := by decide +kernel
theorem dL_law_435 : decode code 435 = .ok (.iaload, 1) := by decide +kernel
theorem dL_law_436 : decode code 436 = .ok (.i2l, 1) := by decide +kernel
theorem dL_law_437 : decode code 437 = .ok (.ldc2_w 13, 3) := by decide +kernel
theorem dL_law_440 : decode code 440 = .ok (.land, 1) := by decide +kernel
theorem dL_law_441 : decode code 441 = .ok (.lor, 1) := by decide +kernel
theorem dL_law_442 : decode code 442 = .ok (.invokevirtual 38, 3) := by decide +kernel
theorem dL_law_445 : decode code 445 = .ok (.pop, 1) := by decide +kernel
theorem dL_law_446 : decode code 446 = .ok (.goto 515, 3) := by decide +kernel
theorem dL_law_449 : decode code 449 = .ok (.aload_n 1, 1) := by decide +kernel
theorem dL_law_450 : decode code 450 = .ok (.aload_n 0, 1) := by decide +kernel
theorem dL_law_451 : decode code 451 = .ok (.iload_n 3, 1) := by decide +kernel
theorem dL_law_452 : decode code 452 = .ok (.iconst 1, 1) := by decide +kernel
theorem dL_law_453 : decode code 453 = .ok (.iadd, 1) := by decide +kernel
theorem dL_law_454 : decode code 454 = .ok (.iaload, 1) := by decide +kernel
theorem dL_law_455 : decode code 455 = .ok (.i2l, 1) := by decide +kernel
theorem dL_law_456 : decode code 456 = .ok (.bipush 32, 2) := by decide +kernel
theorem dL_law_458 : decode code 458 = .ok (.lshl, 1) := by decide +kernel
theorem dL_law_459 : decode code 459 = .ok (.aload_n 0, 1) := by decide +kernel
theorem dL_law_460 : decode code 460 = .ok (.iload_n 3, 1) := by decide +kernel
theorem dL_law_461 : decode code 461 = .ok (.iconst 2, 1) := by decide +kernel
theorem dL_law_462 : decode code 462 = .ok (.iadd, 1) := by decide +kernel
theorem dL_law_463 : decode code 463 = .ok (.iaload, 1) := by decide +kernel
theorem dL_law_464 : decode code 464 = .ok (.i2l, 1) := by decide +kernel
theorem dL_law_465 : decode code 465 = .ok (.ldc2_w 13, 3) := by decide +kernel
theorem dL_law_468 : decode code 468 = .ok (.land, 1) := by decide +kernel
theorem dL_law_469 : decode code 469 = .ok (.lor, 1) := by decide +kernel
theorem dL_law_470 : decode code 470 = .ok (.aload_n 0, 1) := by decide +kernel
theorem dL_law_471 : decode code 471 = .ok (.iload_n 3, 1) := by decide +kernel
theorem dL_law_472 : decode code 472 = .ok (.iconst 3, 1) := by decide +kernel
theorem dL_law_473 : decode code 473 = .ok (.iadd, 1) := by decide +kernel
theorem dL_law_474 : decode code 474 = .ok (.iaload, 1) := by decide +kernel
theorem dL_law_475 : decode code 475 = .ok (.i2l, 1) := by decide +kernel
theorem dL_law_476 : decode code 476 = .ok (.bipush 32, 2) := by decide +kernel
theorem dL_law_478 : decode code 478 = .ok (.lshl, 1) := by decide +kernel
theorem dL_law_479 : decode code 479 = .ok (.aload_n 0, 1) := by decide +kernel
theorem dL_law_480 : decode code 480 = .ok (.iload_n 3, 1) := by decide +kernel
theorem dL_law_481 : decode code 481 = .ok (.iconst 4, 1) := by decide +kernel
theorem dL_law_482 : decode code 482 = .ok (.iadd, 1) := by decide +kernel
theorem dL_law_483 : decode code 483 = .ok (.iaload, 1) := by decide +kernel
theorem dL_law_484 : decode code 484 = .ok (.i2l, 1) := by decide +kernel
theorem dL_law_485 : decode code 485 = .ok (.ldc2_w 13, 3) := by decide +kernel
theorem dL_law_488 : decode code 488 = .ok (.land, 1) := by decide +kernel
theorem dL_law_489 : decode code 489 = .ok (.lor, 1) := by decide +kernel
theorem dL_law_490 : decode code 490 = .ok (.invokevirtual 39, 3) := by decide +kernel
theorem dL_law_493 : decode code 493 = .ok (.pop, 1) := by decide +kernel
theorem dL_law_494 : decode code 494 = .ok (.aload_n 2, 1) := by decide +kernel
theorem dL_law_495 : decode code 495 = .ok (.aload_n 0, 1) := by decide +kernel
theorem dL_law_496 : decode code 496 = .ok (.iload_n 3, 1) := by decide +kernel
theorem dL_law_497 : decode code 497 = .ok (.iconst 1, 1) := by decide +kernel
theorem dL_law_498 : decode code 498 = .ok (.iadd, 1) := by decide +kernel
theorem dL_law_499 : decode code 499 = .ok (.iaload, 1) := by decide +kernel
theorem dL_law_500 : decode code 500 = .ok (.i2l, 1) := by decide +kernel
theorem dL_law_501 : decode code 501 = .ok (.bipush 32, 2) := by decide +kernel
theorem dL_law_503 : decode code 503 = .ok (.lshl, 1) := by decide +kernel
theorem dL_law_504 : decode code 504 = .ok (.aload_n 0, 1) := by decide +kernel
theorem dL_law_505 : decode code 505 = .ok (.iload_n 3, 1) := by decide +kernel
theorem dL_law_506 : decode code 506 = .ok (.iconst 2, 1) := by decide +kernel
theorem dL_law_507 : decode code 507 = .ok (.iadd, 1) := by decide +kernel
theorem dL_law_508 : decode code 508 = .ok (.iaload, 1) := by decide +kernel
theorem dL_law_509 : decode code 509 = .ok (.i2l, 1) := by decide +kernel
theorem dL_law_510 : decode code 510 = .ok (.ldc2_w 13, 3) := by decide +kernel
theorem dL_law_513 : decode code 513 = .ok (.land, 1) := by decide +kernel
theorem dL_law_514 : decode code 514 = .ok (.lor, 1) := by decide +kernel
theorem dL_law_515 : decode code 515 = .ok (.aload_n 0, 1) := by decide +kernel
theorem dL_law_516 : decode code 516 = .ok (.iload_n 3, 1) := by decide +kernel
theorem dL_law_517 : decode code 517 = .ok (.iconst 3, 1) := by decide +kernel
theorem dL_law_518 : decode code 518 = .ok (.iadd, 1) := by decide +kernel
theorem dL_law_519 : decode code 519 = .ok (.iaload, 1) := by decide +kernel
theorem dL_law_520 : decode code 520 = .ok (.i2l, 1) := by decide +kernel
theorem dL_law_521 : decode code 521 = .ok (.bipush 32, 2) := by decide +kernel
theorem dL_law_523 : decode code 523 = .ok (.lshl, 1) := by decide +kernel
theorem dL_law_524 : decode code 524 = .ok (.aload_n 0, 1) := by decide +kernel
theorem dL_law_525 : decode code 525 = .ok (.iload_n 3, 1) := by decide +kernel
theorem dL_law_526 : decode code 526 = .ok (.iconst 4, 1) := by decide +kernel
theorem dL_law_527 : decode code 527 = .ok (.iadd, 1) := by decide +kernel
theorem dL_law_528 : decode code 528 = .ok (.iaload, 1) := by decide +kernel
theorem dL_law_529 : decode code 529 = .ok (.i2l, 1) := by decide +kernel
theorem dL_law_530 : decode code 530 = .ok (.ldc2_w 13, 3) := by decide +kernel
theorem dL_law_533 : decode code 533 = .ok (.land, 1) := by decide +kernel
theorem dL_law_534 : decode code 534 = .ok (.lor, 1) := by decide +kernel
theorem dL_law_535 : decode code 535 = .ok (.invokevirtual 43, 3) := by decide +kernel
theorem dL_law_538 : decode code 538 = .ok (.pop, 1) := by decide +kernel
theorem dL_law_539 : decode code 539 = .ok (.goto 422, 3) := by decide +kernel
theorem dL_law_542 : decode code 542 = .ok (.aload_n 1, 1) := by decide +kernel
theorem dL_law_543 : decode code 543 = .ok (.aload_n 0, 1) := by decide +kernel
theorem dL_law_544 : decode code 544 = .ok (.iload_n 3, 1) := by decide +kernel
theorem dL_law_545 : decode code 545 = .ok (.iconst 1, 1) := by decide +kernel
theorem dL_law_546 : decode code 546 = .ok (.iadd, 1) := by decide +kernel
theorem dL_law_547 : decode code 547 = .ok (.iaload, 1) := by decide +kernel
theorem dL_law_548 : decode code 548 = .ok (.invokevirtual 44, 3) := by decide +kernel
theorem dL_law_551 : decode code 551 = .ok (.pop, 1) := by decide +kernel
theorem dL_law_552 : decode code 552 = .ok (.aload_n 2, 1) := by decide +kernel
theorem dL_law_553 : decode code 553 = .ok (.aload_n 0, 1) := by decide +kernel
theorem dL_law_554 : decode code 554 = .ok (.iload_n 3, 1) := by decide +kernel
theorem dL_law_555 : decode code 555 = .ok (.iconst 1, 1) := by decide +kernel
theorem dL_law_556 : decode code 556 = .ok (.iadd, 1) := by decide +kernel
theorem dL_law_557 : decode code 557 = .ok (.iaload, 1) := by decide +kernel
theorem dL_law_558 : decode code 558 = .ok (.invokevirtual 48, 3) := by decide +kernel
theorem dL_law_561 : decode code 561 = .ok (.pop, 1) := by decide +kernel
theorem dL_law_562 : decode code 562 = .ok (.goto 399, 3) := by decide +kernel
theorem dL_law_565 : decode code 565 = .ok (.aload_n 1, 1) := by decide +kernel
theorem dL_law_566 : decode code 566 = .ok (.aload_n 0, 1) := by decide +kernel
theorem dL_law_567 : decode code 567 = .ok (.iload_n 3, 1) := by decide +kernel
theorem dL_law_568 : decode code 568 = .ok (.iconst 1, 1) := by decide +kernel
theorem dL_law_569 : decode code 569 = .ok (.iadd, 1) := by decide +kernel
theorem dL_law_570 : decode code 570 = .ok (.iaload, 1) := by decide +kernel
theorem dL_law_571 : decode code 571 = .ok (.aload_n 0, 1) := by decide +kernel
theorem dL_law_572 : decode code 572 = .ok (.iload_n 3, 1) := by decide +kernel
theorem dL_law_573 : decode code 573 = .ok (.iconst 2, 1) := by decide +kernel
theorem dL_law_574 : decode code 574 = .ok (.iadd, 1) := by decide +kernel
theorem dL_law_575 : decode code 575 = .ok (.iaload, 1) := by decide +kernel
theorem dL_law_576 : decode code 576 = .ok (.i2l, 1) := by decide +kernel
theorem dL_law_577 : decode code 577 = .ok (.bipush 32, 2) := by decide +kernel
theorem dL_law_579 : decode code 579 = .ok (.lshl, 1) := by decide +kernel
theorem dL_law_580 : decode code 580 = .ok (.aload_n 0, 1) := by decide +kernel
theorem dL_law_581 : decode code 581 = .ok (.iload_n 3, 1) := by decide +kernel
theorem dL_law_582 : decode code 582 = .ok (.iconst 3, 1) := by decide +kernel
theorem dL_law_583 : decode code 583 = .ok (.iadd, 1) := by decide +kernel
theorem dL_law_584 : decode code 584 = .ok (.iaload, 1) := by decide +kernel
theorem dL_law_585 : decode code 585 = .ok (.i2l, 1) := by decide +kernel
theorem dL_law_586 : decode code 586 = .ok (.ldc2_w 13, 3) := by decide +kernel
theorem dL_law_589 : decode code 589 = .ok (.land, 1) := by decide +kernel
theorem dL_law_590 : decode code 590 = .ok (.lor, 1) := by decide +kernel
theorem dL_law_591 : decode code 591 = .ok (.aload_n 0, 1) := by decide +kernel
theorem dL_law_592 : decode code 592 = .ok (.iload_n 3, 1) := by decide +kernel
theorem dL_law_593 : decode code 593 = .ok (.iconst 4, 1) := by decide +kernel
theorem dL_law_594 : decode code 594 = .ok (.iadd, 1) := by decide +kernel
theorem dL_law_595 : decode code 595 = .ok (.iaload, 1) := by decide +kernel
theorem dL_law_596 : decode code 596 = .ok (.i2l, 1) := by decide +kernel
theorem dL_law_597 : decode code 597 = .ok (.bipush 32, 2) := by decide +kernel
theorem dL_law_599 : decode code 599 = .ok (.lshl, 1) := by decide +kernel
theorem dL_law_600 : decode code 600 = .ok (.aload_n 0, 1) := by decide +kernel
theorem dL_law_601 : decode code 601 = .ok (.iload_n 3, 1) := by decide +kernel
theorem dL_law_602 : decode code 602 = .ok (.iconst 5, 1) := by decide +kernel
theorem dL_law_603 : decode code 603 = .ok (.iadd, 1) := by decide +kernel
theorem dL_law_604 : decode code 604 = .ok (.iaload, 1) := by decide +kernel
theorem dL_law_605 : decode code 605 = .ok (.i2l, 1) := by decide +kernel
theorem dL_law_606 : decode code 606 = .ok (.ldc2_w 13, 3) := by decide +kernel
theorem dL_law_609 : decode code 609 = .ok (.land, 1) := by decide +kernel
theorem dL_law_610 : decode code 610 = .ok (.lor, 1) := by decide +kernel
theorem dL_law_611 : decode code 611 = .ok (.invokevirtual 49, 3) := by decide +kernel
theorem dL_law_614 : decode code 614 = .ok (.pop, 1) := by decide +kernel
theorem dL_law_615 : decode code 615 = .ok (.aload_n 2, 1) := by decide +kernel
theorem dL_law_616 : decode code 616 = .ok (.aload_n 0, 1) := by decide +kernel
theorem dL_law_617 : decode code 617 = .ok (.iload_n 3, 1) := by decide +kernel
theorem dL_law_618 : decode code 618 = .ok (.iconst 1, 1) := by decide +kernel
theorem dL_law_619 : decode code 619 = .ok (.iadd, 1) := by decide +kernel
theorem dL_law_620 : decode code 620 = .ok (.iaload, 1) := by decide +kernel
theorem dL_law_621 : decode code 621 = .ok (.aload_n 0, 1) := by decide +kernel
theorem dL_law_622 : decode code 622 = .ok (.iload_n 3, 1) := by decide +kernel
theorem dL_law_623 : decode code 623 = .ok (.iconst 2, 1) := by decide +kernel
theorem dL_law_624 : decode code 624 = .ok (.iadd, 1) := by decide +kernel
theorem dL_law_625 : decode code 625 = .ok (.iaload, 1) := by decide +kernel
theorem dL_law_626 : decode code 626 = .ok (.i2l, 1) := by decide +kernel
theorem dL_law_627 : decode code 627 = .ok (.bipush 32, 2) := by decide +kernel
theorem dL_law_629 : decode code 629 = .ok (.lshl, 1) := by decide +kernel
theorem dL_law_630 : decode code 630 = .ok (.aload_n 0, 1) := by decide +kernel
theorem dL_law_631 : decode code 631 = .ok (.iload_n 3, 1) := by decide +kernel
theorem dL_law_632 : decode code 632 = .ok (.iconst 3, 1) := by decide +kernel
theorem dL_law_633 : decode code 633 = .ok (.iadd, 1) := by decide +kernel
theorem dL_law_634 : decode code 634 = .ok (.iaload, 1) := by decide +kernel
theorem dL_law_635 : decode code 635 = .ok (.i2l, 1) := by decide +kernel
theorem dL_law_636 : decode code 636 = .ok (.ldc2_w 13, 3) := by decide +kernel
theorem dL_law_639 : decode code 639 = .ok (.land, 1) := by decide +kernel
theorem dL_law_640 : decode code 640 = .ok (.lor, 1) := by decide +kernel
theorem dL_law_641 : decode code 641 = .ok (.aload_n 0, 1) := by decide +kernel
theorem dL_law_642 : decode code 642 = .ok (.iload_n 3, 1) := by decide +kernel
theorem dL_law_643 : decode code 643 = .ok (.iconst 4, 1) := by decide +kernel
theorem dL_law_644 : decode code 644 = .ok (.iadd, 1) := by decide +kernel
theorem dL_law_645 : decode code 645 = .ok (.iaload, 1) := by decide +kernel
theorem dL_law_646 : decode code 646 = .ok (.i2l, 1) := by decide +kernel
theorem dL_law_647 : decode code 647 = .ok (.bipush 32, 2) := by decide +kernel
theorem dL_law_649 : decode code 649 = .ok (.lshl, 1) := by decide +kernel
theorem dL_law_650 : decode code 650 = .ok (.aload_n 0, 1) := by decide +kernel
theorem dL_law_651 : decode code 651 = .ok (.iload_n 3, 1) := by decide +kernel
theorem dL_law_652 : decode code 652 = .ok (.iconst 5, 1) := by decide +kernel
theorem dL_law_653 : decode code 653 = .ok (.iadd, 1) := by decide +kernel
theorem dL_law_654 : decode code 654 = .ok (.iaload, 1) := by decide +kernel
theorem dL_law_655 : decode code 655 = .ok (.i2l, 1) := by decide +kernel
theorem dL_law_656 : decode code 656 = .ok (.ldc2_w 13, 3) := by decide +kernel
theorem dL_law_659 : decode code 659 = .ok (.land, 1) := by decide +kernel
theorem dL_law_660 : decode code 660 = .ok (.lor, 1) := by decide +kernel
theorem dL_law_661 : decode code 661 = .ok (.invokevirtual 53, 3) := by decide +kernel
theorem dL_law_664 : decode code 664 = .ok (.pop, 1) := by decide +kernel
theorem dL_law_665 : decode code 665 = .ok (.goto 296, 3) := by decide +kernel
theorem dL_law_668 : decode code 668 = .ok (.aload_n 1, 1) := by decide +kernel
theorem dL_law_669 : decode code 669 = .ok (.invokevirtual 54, 3) := by decide +kernel
theorem dL_law_672 : decode code 672 = .ok (.pop2, 1) := by decide +kernel
theorem dL_law_673 : decode code 673 = .ok (.aload_n 2, 1) := by decide +kernel
theorem dL_law_674 : decode code 674 = .ok (.invokevirtual 58, 3) := by decide +kernel
theorem dL_law_677 : decode code 677 = .ok (.pop2, 1) := by decide +kernel
theorem dL_law_678 : decode code 678 = .ok (.goto 283, 3) := by decide +kernel
theorem dL_law_681 : decode code 681 = .ok (.aload_n 1, 1) := by decide +kernel
theorem dL_law_682 : decode code 682 = .ok (.aload_n 0, 1) := by decide +kernel
theorem dL_law_683 : decode code 683 = .ok (.iload_n 3, 1) := by decide +kernel
theorem dL_law_684 : decode code 684 = .ok (.iconst 1, 1) := by decide +kernel
theorem dL_law_685 : decode code 685 = .ok (.iadd, 1) := by decide +kernel
theorem dL_law_686 : decode code 686 = .ok (.iaload, 1) := by decide +kernel
theorem dL_law_687 : decode code 687 = .ok (.i2l, 1) := by decide +kernel
theorem dL_law_688 : decode code 688 = .ok (.bipush 32, 2) := by decide +kernel
theorem dL_law_690 : decode code 690 = .ok (.lshl, 1) := by decide +kernel
theorem dL_law_691 : decode code 691 = .ok (.aload_n 0, 1) := by decide +kernel
theorem dL_law_692 : decode code 692 = .ok (.iload_n 3, 1) := by decide +kernel
theorem dL_law_693 : decode code 693 = .ok (.iconst 2, 1) := by decide +kernel
theorem dL_law_694 : decode code 694 = .ok (.iadd, 1) := by decide +kernel
theorem dL_law_695 : decode code 695 = .ok (.iaload, 1) := by decide +kernel
theorem dL_law_696 : decode code 696 = .ok (.i2l, 1) := by decide +kernel
theorem dL_law_697 : decode code 697 = .ok (.ldc2_w 13, 3) := by decide +kernel
theorem dL_law_700 : decode code 700 = .ok (.land, 1) := by decide +kernel
theorem dL_law_701 : decode code 701 = .ok (.lor, 1) := by decide +kernel
theorem dL_law_702 : decode code 702 = .ok (.invokevirtual 59, 3) := by decide +kernel
theorem dL_law_705 : decode code 705 = .ok (.pop, 1) := by decide +kernel
theorem dL_law_706 : decode code 706 = .ok (.aload_n 2, 1) := by decide +kernel
theorem dL_law_707 : decode code 707 = .ok (.aload_n 0, 1) := by decide +kernel
theorem dL_law_708 : decode code 708 = .ok (.iload_n 3, 1) := by decide +kernel
theorem dL_law_709 : decode code 709 = .ok (.iconst 1, 1) := by decide +kernel
theorem dL_law_710 : decode code 710 = .ok (.iadd, 1) := by decide +kernel
theorem dL_law_711 : decode code 711 = .ok (.iaload, 1) := by decide +kernel
theorem dL_law_712 : decode code 712 = .ok (.i2l, 1) := by decide +kernel
theorem dL_law_713 : decode code 713 = .ok (.bipush 32, 2) := by decide +kernel
theorem dL_law_715 : decode code 715 = .ok (.lshl, 1) := by decide +kernel
theorem dL_law_716 : decode code 716 = .ok (.aload_n 0, 1) := by decide +kernel
theorem dL_law_717 : decode code 717 = .ok (.iload_n 3, 1) := by decide +kernel
theorem dL_law_718 : decode code 718 = .ok (.iconst 2, 1) := by decide +kernel
theorem dL_law_719 : decode code 719 = .ok (.iadd, 1) := by decide +kernel
theorem dL_law_720 : decode code 720 = .ok (.iaload, 1) := by decide +kernel
theorem dL_law_721 : decode code 721 = .ok (.i2l, 1) := by decide +kernel
theorem dL_law_722 : decode code 722 = .ok (.ldc2_w 13, 3) := by decide +kernel
theorem dL_law_725 : decode code 725 = .ok (.land, 1) := by decide +kernel
theorem dL_law_726 : decode code 726 = .ok (.lor, 1) := by decide +kernel
theorem dL_law_727 : decode code 727 = .ok (.invokevirtual 63, 3) := by decide +kernel
theorem dL_law_730 : decode code 730 = .ok (.pop, 1) := by decide +kernel
theorem dL_law_731 : decode code 731 = .ok (.goto 230, 3) := by decide +kernel
theorem dL_law_734 : decode code 734 = .ok (.aload_n 1, 1) := by decide +kernel
theorem dL_law_735 : decode code 735 = .ok (.aload_n 0, 1) := by decide +kernel
theorem dL_law_736 : decode code 736 = .ok (.iload_n 3, 1) := by decide +kernel
theorem dL_law_737 : decode code 737 = .ok (.iconst 1, 1) := by decide +kernel
theorem dL_law_738 : decode code 738 = .ok (.iadd, 1) := by decide +kernel
theorem dL_law_739 : decode code 739 = .ok (.iaload, 1) := by decide +kernel
theorem dL_law_740 : decode code 740 = .ok (.invokevirtual 64, 3) := by decide +kernel
theorem dL_law_743 : decode code 743 = .ok (.pop, 1) := by decide +kernel
theorem dL_law_744 : decode code 744 = .ok (.aload_n 2, 1) := by decide +kernel
theorem dL_law_745 : decode code 745 = .ok (.aload_n 0, 1) := by decide +kernel
theorem dL_law_746 : decode code 746 = .ok (.iload_n 3, 1) := by decide +kernel
theorem dL_law_747 : decode code 747 = .ok (.iconst 1, 1) := by decide +kernel
theorem dL_law_748 : decode code 748 = .ok (.iadd, 1) := by decide +kernel
theorem dL_law_749 : decode code 749 = .ok (.iaload, 1) := by decide +kernel
theorem dL_law_750 : decode code 750 = .ok (.invokevirtual 68, 3) := by decide +kernel
theorem dL_law_753 : decode code 753 = .ok (.pop, 1) := by decide +kernel
theorem dL_law_754 : decode code 754 = .ok (.goto 207, 3) := by decide +kernel
theorem dL_law_757 : decode code 757 = .ok (.aload_n 1, 1) := by decide +kernel
theorem dL_law_758 : decode code 758 = .ok (.aload_n 0, 1) := by decide +kernel
theorem dL_law_759 : decode code 759 = .ok (.iload_n 3, 1) := by decide +kernel
theorem dL_law_760 : decode code 760 = .ok (.iconst 1, 1) := by decide +kernel
theorem dL_law_761 : decode code 761 = .ok (.iadd, 1) := by decide +kernel
theorem dL_law_762 : decode code 762 = .ok (.iaload, 1) := by decide +kernel
theorem dL_law_763 : decode code 763 = .ok (.invokevirtual 69, 3) := by decide +kernel
theorem dL_law_766 : decode code 766 = .ok (.pop, 1) := by decide +kernel
theorem dL_law_767 : decode code 767 = .ok (.aload_n 2, 1) := by decide +kernel
theorem dL_law_768 : decode code 768 = .ok (.aload_n 0, 1) := by decide +kernel
theorem dL_law_769 : decode code 769 = .ok (.iload_n 3, 1) := by decide +kernel
theorem dL_law_770 : decode code 770 = .ok (.iconst 1, 1) := by decide +kernel
theorem dL_law_771 : decode code 771 = .ok (.iadd, 1) := by decide +kernel
theorem dL_law_772 : decode code 772 = .ok (.iaload, 1) := by decide +kernel
theorem dL_law_773 : decode code 773 = .ok (.invokevirtual 72, 3) := by decide +kernel
theorem dL_law_776 : decode code 776 = .ok (.pop, 1) := by decide +kernel
theorem dL_law_777 : decode code 777 = .ok (.goto 184, 3) := by decide +kernel
theorem dL_law_780 : decode code 780 = .ok (.aload_n 1, 1) := by decide +kernel
theorem dL_law_781 : decode code 781 = .ok (.aload_n 0, 1) := by decide +kernel
theorem dL_law_782 : decode code 782 = .ok (.iload_n 3, 1) := by decide +kernel
theorem dL_law_783 : decode code 783 = .ok (.iconst 1, 1) := by decide +kernel
theorem dL_law_784 : decode code 784 = .ok (.iadd, 1) := by decide +kernel
theorem dL_law_785 : decode code 785 = .ok (.iaload, 1) := by decide +kernel
theorem dL_law_786 : decode code 786 = .ok (.invokevirtual 73, 3) := by decide +kernel
theorem dL_law_789 : decode code 789 = .ok (.pop, 1) := by decide +kernel
theorem dL_law_790 : decode code 790 = .ok (.aload_n 2, 1) := by decide +kernel
theorem dL_law_791 : decode code 791 = .ok (.aload_n 0, 1) := by decide +kernel
theorem dL_law_792 : decode code 792 = .ok (.iload_n 3, 1) := by decide +kernel
theorem dL_law_793 : decode code 793 = .ok (.iconst 1, 1) := by decide +kernel
theorem dL_law_794 : decode code 794 = .ok (.iadd, 1) := by decide +kernel
theorem dL_law_795 : decode code 795 = .ok (.iaload, 1) := by decide +kernel
theorem dL_law_796 : decode code 796 = .ok (.invokevirtual 76, 3) := by decide +kernel
theorem dL_law_799 : decode code 799 = .ok (.pop, 1) := by decide +kernel
theorem dL_law_800 : decode code 800 = .ok (.goto 161, 3) := by decide +kernel
theorem dL_law_803 : decode code 803 = .ok (.aload_n 1, 1) := by decide +kernel
theorem dL_law_804 : decode code 804 = .ok (.aload_n 0, 1) := by decide +kernel
theorem dL_law_805 : decode code 805 = .ok (.iload_n 3, 1) := by decide +kernel
theorem dL_law_806 : decode code 806 = .ok (.iconst 1, 1) := by decide +kernel
theorem dL_law_807 : decode code 807 = .ok (.iadd, 1) := by decide +kernel
theorem dL_law_808 : decode code 808 = .ok (.iaload, 1) := by decide +kernel
theorem dL_law_809 : decode code 809 = .ok (.invokevirtual 77, 3) := by decide +kernel
theorem dL_law_812 : decode code 812 = .ok (.pop2, 1) := by decide +kernel
theorem dL_law_813 : decode code 813 = .ok (.aload_n 2, 1) := by decide +kernel
theorem dL_law_814 : decode code 814 = .ok (.aload_n 0, 1) := by decide +kernel
theorem dL_law_815 : decode code 815 = .ok (.iload_n 3, 1) := by decide +kernel
theorem dL_law_816 : decode code 816 = .ok (.iconst 1, 1) := by decide +kernel
theorem dL_law_817 : decode code 817 = .ok (.iadd, 1) := by decide +kernel
theorem dL_law_818 : decode code 818 = .ok (.iaload, 1) := by decide +kernel
theorem dL_law_819 : decode code 819 = .ok (.invokevirtual 81, 3) := by decide +kernel
theorem dL_law_822 : decode code 822 = .ok (.pop2, 1) := by decide +kernel
theorem dL_law_823 : decode code 823 = .ok (.goto 138, 3) := by decide +kernel
theorem dL_law_826 : decode code 826 = .ok (.aload_n 1, 1) := by decide +kernel
theorem dL_law_827 : decode code 827 = .ok (.invokevirtual 82, 3) := by decide +kernel
theorem dL_law_830 : decode code 830 = .ok (.pop, 1) := by decide +kernel
theorem dL_law_831 : decode code 831 = .ok (.aload_n 2, 1) := by decide +kernel
theorem dL_law_832 : decode code 832 = .ok (.invokevirtual 86, 3) := by decide +kernel
theorem dL_law_835 : decode code 835 = .ok (.pop, 1) := by decide +kernel
theorem dL_law_836 : decode code 836 = .ok (.goto 125, 3) := by decide +kernel
theorem dL_law_839 : decode code 839 = .ok (.aload_n 1, 1) := by decide +kernel
theorem dL_law_840 : decode code 840 = .ok (.invokevirtual 87, 3) := by decide +kernel
theorem dL_law_843 : decode code 843 = .ok (.pop2, 1) := by decide +kernel
theorem dL_law_844 : decode code 844 = .ok (.aload_n 2, 1) := by decide +kernel
theorem dL_law_845 : decode code 845 = .ok (.invokevirtual 90, 3) := by decide +kernel
theorem dL_law_848 : decode code 848 = .ok (.pop2, 1) := by decide +kernel
theorem dL_law_849 : decode code 849 = .ok (.goto 112, 3) := by decide +kernel
theorem dL_law_852 : decode code 852 = .ok (.aload_n 1, 1) := by decide +kernel
theorem dL_law_853 : decode code 853 = .ok (.aload_n 0, 1) := by decide +kernel
theorem dL_law_854 : decode code 854 = .ok (.iload_n 3, 1) := by decide +kernel
theorem dL_law_855 : decode code 855 = .ok (.iconst 1, 1) := by decide +kernel
theorem dL_law_856 : decode code 856 = .ok (.iadd, 1) := by decide +kernel
theorem dL_law_857 : decode code 857 = .ok (.iaload, 1) := by decide +kernel
theorem dL_law_858 : decode code 858 = .ok (.aload_n 0, 1) := by decide +kernel
theorem dL_law_859 : decode code 859 = .ok (.iload_n 3, 1) := by decide +kernel
theorem dL_law_860 : decode code 860 = .ok (.iconst 2, 1) := by decide +kernel
theorem dL_law_861 : decode code 861 = .ok (.iadd, 1) := by decide +kernel
theorem dL_law_862 : decode code 862 = .ok (.iaload, 1) := by decide +kernel
theorem dL_law_863 : decode code 863 = .ok (.i2l, 1) := by decide +kernel
theorem dL_law_864 : decode code 864 = .ok (.bipush 32, 2) := by decide +kernel
theorem dL_law_866 : decode code 866 = .ok (.lshl, 1) := by decide +kernel
theorem dL_law_867 : decode code 867 = .ok (.aload_n 0, 1) := by decide +kernel
theorem dL_law_868 : decode code 868 = .ok (.iload_n 3, 1) := by decide +kernel
theorem dL_law_869 : decode code 869 = .ok (.iconst 3, 1) := by decide +kernel
theorem dL_law_870 : decode code 870 = .ok (.iadd, 1) := by decide +kernel
theorem dL_law_871 : decode code 871 = .ok (.iaload, 1) := by decide +kernel
theorem dL_law_872 : decode code 872 = .ok (.i2l, 1) := by decide +kernel
theorem dL_law_873 : decode code 873 = .ok (.ldc2_w 13, 3) := by decide +kernel
theorem dL_law_876 : decode code 876 = .ok (.land, 1) := by decide +kernel
theorem dL_law_877 : decode code 877 = .ok (.lor, 1) := by decide +kernel
theorem dL_law_878 : decode code 878 = .ok (.invokevirtual 91, 3) := by decide +kernel
theorem dL_law_881 : decode code 881 = .ok (.pop, 1) := by decide +kernel
theorem dL_law_882 : decode code 882 = .ok (.aload_n 2, 1) := by decide +kernel
theorem dL_law_883 : decode code 883 = .ok (.aload_n 0, 1) := by decide +kernel
theorem dL_law_884 : decode code 884 = .ok (.iload_n 3, 1) := by decide +kernel
theorem dL_law_885 : decode code 885 = .ok (.iconst 1, 1) := by decide +kernel
theorem dL_law_886 : decode code 886 = .ok (.iadd, 1) := by decide +kernel
theorem dL_law_887 : decode code 887 = .ok (.iaload, 1) := by decide +kernel
theorem dL_law_888 : decode code 888 = .ok (.aload_n 0, 1) := by decide +kernel
theorem dL_law_889 : decode code 889 = .ok (.iload_n 3, 1) := by decide +kernel
theorem dL_law_890 : decode code 890 = .ok (.iconst 2, 1) := by decide +kernel
theorem dL_law_891 : decode code 891 = .ok (.iadd, 1) := by decide +kernel
theorem dL_law_892 : decode code 892 = .ok (.iaload, 1) := by decide +kernel
theorem dL_law_893 : decode code 893 = .ok (.i2l, 1) := by decide +kernel
theorem dL_law_894 : decode code 894 = .ok (.bipush 32, 2) := by decide +kernel
theorem dL_law_896 : decode code 896 = .ok (.lshl, 1) := by decide +kernel
theorem dL_law_897 : decode code 897 = .ok (.aload_n 0, 1) := by decide +kernel
theorem dL_law_898 : decode code 898 = .ok (.iload_n 3, 1) := by decide +kernel
theorem dL_law_899 : decode code 899 = .ok (.iconst 3, 1) := by decide +kernel
theorem dL_law_900 : decode code 900 = .ok (.iadd, 1) := by decide +kernel
theorem dL_law_901 : decode code 901 = .ok (.iaload, 1) := by decide +kernel
theorem dL_law_902 : decode code 902 = .ok (.i2l, 1) := by decide +kernel
theorem dL_law_903 : decode code 903 = .ok (.ldc2_w 13, 3) := by decide +kernel
theorem dL_law_906 : decode code 906 = .ok (.land, 1) := by decide +kernel
theorem dL_law_907 : decode code 907 = .ok (.lor, 1) := by decide +kernel
theorem dL_law_908 : decode code 908 = .ok (.invokevirtual 95, 3) := by decide +kernel
theorem dL_law_911 : decode code 911 = .ok (.pop, 1) := by decide +kernel
theorem dL_law_912 : decode code 912 = .ok (.goto 49, 3) := by decide +kernel
theorem dL_law_915 : decode code 915 = .ok (.aload_n 1, 1) := by decide +kernel
theorem dL_law_916 : decode code 916 = .ok (.aload_n 0, 1) := by decide +kernel
theorem dL_law_917 : decode code 917 = .ok (.iload_n 3, 1) := by decide +kernel
theorem dL_law_918 : decode code 918 = .ok (.iconst 1, 1) := by decide +kernel
theorem dL_law_919 : decode code 919 = .ok (.iadd, 1) := by decide +kernel
theorem dL_law_920 : decode code 920 = .ok (.iaload, 1) := by decide +kernel
theorem dL_law_921 : decode code 921 = .ok (.invokevirtual 96, 3) := by decide +kernel
theorem dL_law_924 : decode code 924 = .ok (.pop, 1) := by decide +kernel
theorem dL_law_925 : decode code 925 = .ok (.aload_n 2, 1) := by decide +kernel
theorem dL_law_926 : decode code 926 = .ok (.aload_n 0, 1) := by decide +kernel
theorem dL_law_927 : decode code 927 = .ok (.iload_n 3, 1) := by decide +kernel
theorem dL_law_928 : decode code 928 = .ok (.iconst 1, 1) := by decide +kernel
theorem dL_law_929 : decode code 929 = .ok (.iadd, 1) := by decide +kernel
theorem dL_law_930 : decode code 930 = .ok (.iaload, 1) := by decide +kernel
theorem dL_law_931 : decode code 931 = .ok (.invokevirtual 99, 3) := by decide +kernel
theorem dL_law_934 : decode code 934 = .ok (.pop, 1) := by decide +kernel
theorem dL_law_935 : decode code 935 = .ok (.goto 26, 3) := by decide +kernel
theorem dL_law_938 : decode code 938 = .ok (.aload_n 1, 1) := by decide +kernel
theorem dL_law_939 : decode code 939 = .ok (.aload_n 0, 1) := by decide +kernel
theorem dL_law_940 : decode code 940 = .ok (.iload_n 3, 1) := by decide +kernel
theorem dL_law_941 : decode code 941 = .ok (.iconst 1, 1) := by decide +kernel
theorem dL_law_942 : decode code 942 = .ok (.iadd, 1) := by decide +kernel
theorem dL_law_943 : decode code 943 = .ok (.iaload, 1) := by decide +kernel
theorem dL_law_944 : decode code 944 = .ok (.invokevirtual 100, 3) := by decide +kernel
theorem dL_law_947 : decode code 947 = .ok (.aload_n 2, 1) := by decide +kernel
theorem dL_law_948 : decode code 948 = .ok (.aload_n 0, 1) := by decide +kernel
theorem dL_law_949 : decode code 949 = .ok (.iload_n 3, 1) := by decide +kernel
theorem dL_law_950 : decode code 950 = .ok (.iconst 1, 1) := by decide +kernel
theorem dL_law_951 : decode code 951 = .ok (.iadd, 1) := by decide +kernel
theorem dL_law_952 : decode code 952 = .ok (.iaload, 1) := by decide +kernel
theorem dL_law_953 : decode code 953 = .ok (.invokevirtual 103, 3) := by decide +kernel
theorem dL_law_956 : decode code 956 = .ok (.if_icmp .eq 5, 3) := by decide +kernel
theorem dL_law_959 : decode code 959 = .ok (.iconst 0, 1) := by decide +kernel
theorem dL_law_960 : decode code 960 = .ok (.ireturn, 1) := by decide +kernel
theorem dL_law_961 : decode code 961 = .ok (.iinc 3 6, 3) := by decide +kernel
theorem dL_law_964 : decode code 964 = .ok (.goto (-946), 3) := by decide +kernel
theorem dL_law_967 : decode code 967 = .ok (.iconst 1, 1) := by decide +kernel
theorem dL_law_968 : decode code 968 = .ok (.ireturn, 1) := by decide +kernel
