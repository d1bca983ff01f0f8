def mLn (nm : String) : MR := (⟨RL, nm, "([I)Z"⟩, code, 4, ret)
theorem A.alS {G : GW} {rm : Room} {M : MR} {kw mw : Nat × Nat} {pc q b : Nat} {r : List (Option Value)} {S : List Value} {h : HD} {σ : St} {Q : Option Value → HD → St → Prop} (hd : Ix M pc q (.aload_n 0) 1) (k : A G rm M kw mw q (some (.ref b) :: r) (.ref b :: S) h σ Q) : A G rm M kw mw pc (some (.ref b) :: r) S h σ Q := by
  intro p e s m args below meth c ls H locs C hl hP hz hS
  obtain ⟨hd, rfl⟩ := hd
  exact lv_aload_n C.1 C.2.1 hd rfl (hl.2.2 _ _ rfl) (k p e s m args below meth c ls H locs C hl hP hz hS)
theorem VS.scr {G : GW} {s : State} (V : VS G s) (hq : gB G ≤ s.heap.size ∧ ∀ q, q < gB G → s.heap[q]? = (gH G)[q]?) : va_X (gX G).1 (gX G).2.1 (gX G).2.2 s s.heap ∧ (gX G).1 < s.heap.size ∧ ¬ gA G (gX G).1 := by
  obtain ⟨-, -, -, -, -, -, -, ⟨scr, y1, y2, y3, y4, y5⟩, y6, -⟩ := V
  exact ⟨⟨scr, by rw [hq.2 _ y6]; exact y1, y2, y3, y4, y5⟩, Nat.lt_of_lt_of_le y6 hq.1, Nat.not_le.mpr y6⟩
theorem A.sld {G : GW} {rm : Room} {M : MR} {kw mw : Nat × Nat} {pc q : Nat} {L : List (Option Value)} {S : List Value} {h : HD} {σ : St} {Q : Option Value → HD → St → Prop} {j : Nat} (hd : Ix M pc q .iaload 1) (hj : j < (gX G).2.1) (hL : (gX G).2.1 ≤ 3072) (kk : A G rm M kw mw q L (.int ((gX G).2.2 j) :: S) h σ Q) : A G rm M kw mw pc L (.int (nI j) :: .ref (gX G).1 :: S) h σ Q := by
  intro p e s m args below meth c ls H locs C hl hP hz hS
  obtain ⟨hd, rfl⟩ := hd
  obtain ⟨y1, y2, y3⟩ := C.2.2.2.2.2.2.2.2.1.scr C.2.2.2.2.2.2.2.2.2
  refine va_sld C.1 C.2.1 y1 y2 y3 hS (vp_in_nI hj (by omega)) hd ?_
  rw [nI_clamp (by omega)]
  exact kk p e s m args below meth c ls H locs C hl hP hz hS
theorem A.slen {G : GW} {rm : Room} {M : MR} {kw mw : Nat × Nat} {pc q : Nat} {L : List (Option Value)} {S : List Value} {h : HD} {σ : St} {Q : Option Value → HD → St → Prop} (hd : Ix M pc q .arraylength 1) (kk : A G rm M kw mw q L (.int (nI (gX G).2.1) :: S) h σ Q) : A G rm M kw mw pc L (.ref (gX G).1 :: S) h σ Q := by
  intro p e s m args below meth c ls H locs C hl hP hz hS
  obtain ⟨hd, rfl⟩ := hd
  obtain ⟨y1, y2, y3⟩ := C.2.2.2.2.2.2.2.2.1.scr C.2.2.2.2.2.2.2.2.2
  exact va_slen C.1 C.2.1 y1 y2 y3 hS hd (kk p e s m args below meth c ls H locs C hl hP hz hS)
def QL : Option Value → HD → St → Prop := fun v _ _ => v = some (.int 1)
abbrev LB (G : GW) (nm : String) (pc i : Nat) (S : List Value) (σ : St) : Prop := A G room_1 (mLn nm) (61, 2339) (61, 2339) pc [some (.ref (gX G).1), some (rf G 0), some (rf G 42), some (.int (nI i))] S hd0 σ QL
theorem iL_0 {nm : String} : Ix (mLn nm) 0 3 (.new 7) 3 := eL_law_0
theorem iL_3 {nm : String} : Ix (mLn nm) 3 4 .dup 1 := eL_law_3
theorem iL_4 {nm : String} : Ix (mLn nm) 4 7 (.invokespecial 9) 3 := eL_law_4
theorem iL_7 {nm : String} : Ix (mLn nm) 7 8 (.astore_n 1) 1 := eL_law_7
theorem iL_8 {nm : String} : Ix (mLn nm) 8 11 (.new 10) 3 := eL_law_8
theorem iL_11 {nm : String} : Ix (mLn nm) 11 12 .dup 1 := eL_law_11
theorem iL_12 {nm : String} : Ix (mLn nm) 12 15 (.invokespecial 12) 3 := eL_law_12
theorem iL_15 {nm : String} : Ix (mLn nm) 15 16 (.astore_n 2) 1 := eL_law_15
theorem iL_16 {nm : String} : Ix (mLn nm) 16 17 (.iconst 0) 1 := eL_law_16
theorem iL_17 {nm : String} : Ix (mLn nm) 17 18 (.istore_n 3) 1 := eL_law_17
theorem iL_18 {nm : String} : Ix (mLn nm) 18 19 (.iload_n 3) 1 := eL_law_18
theorem iL_19 {nm : String} : Ix (mLn nm) 19 20 (.aload_n 0) 1 := eL_law_19
theorem iL_20 {nm : String} : Ix (mLn nm) 20 21 .arraylength 1 := eL_law_20
theorem iL_21 {nm : String} : Ix (mLn nm) 21 23 (.bipush 6) 2 := eL_law_21
theorem iL_23 {nm : String} : Ix (mLn nm) 23 24 .isub 1 := eL_law_23
theorem iL_24 {nm : String} : Bx (mLn nm) 24 27 1379 (.if_icmp .gt 1355) 1355 := eL_law_24
theorem iL_27 {nm : String} : Ix (mLn nm) 27 28 (.aload_n 0) 1 := eL_law_27
theorem iL_28 {nm : String} : Ix (mLn nm) 28 29 (.iload_n 3) 1 := eL_law_28
theorem iL_29 {nm : String} : Ix (mLn nm) 29 30 .iaload 1 := eL_law_29
theorem iL_30 {nm : String} : Ix (mLn nm) 30 32 (.bipush 63) 2 := eL_law_30
theorem iL_32 {nm : String} : Ix (mLn nm) 32 33 .iand 1 := eL_law_32
theorem iL_33 {nm : String} : decode (mLn nm).2.1 33 = .ok (.tableswitch 1340 0 35 #[159, 192, 215, 238, 261, 294, 327, 370, 383, 406, 439, 472, 505, 549, 572, 595, 618, 631, 674, 727, 770, 813, 856, 879, 902, 915, 969, 1012, 1045, 1088, 1111, 1164, 1207, 1270, 1303, 1326], 159) := eL_law_33
theorem iL_192 {nm : String} : Ix (mLn nm) 192 193 (.aload_n 1) 1 := eL_law_192
theorem iL_193 {nm : String} : Ix (mLn nm) 193 194 (.aload_n 0) 1 := eL_law_193
theorem iL_194 {nm : String} : Ix (mLn nm) 194 195 (.iload_n 3) 1 := eL_law_194
theorem iL_195 {nm : String} : Ix (mLn nm) 195 196 (.iconst 1) 1 := eL_law_195
theorem iL_196 {nm : String} : Ix (mLn nm) 196 197 .iadd 1 := eL_law_196
theorem iL_197 {nm : String} : Ix (mLn nm) 197 198 .iaload 1 := eL_law_197
theorem iL_198 {nm : String} : Ix (mLn nm) 198 199 (.aload_n 0) 1 := eL_law_198
theorem iL_199 {nm : String} : Ix (mLn nm) 199 200 (.iload_n 3) 1 := eL_law_199
theorem iL_200 {nm : String} : Ix (mLn nm) 200 201 (.iconst 2) 1 := eL_law_200
theorem iL_201 {nm : String} : Ix (mLn nm) 201 202 .iadd 1 := eL_law_201
theorem iL_202 {nm : String} : Ix (mLn nm) 202 203 .iaload 1 := eL_law_202
theorem iL_203 {nm : String} : Ix (mLn nm) 203 206 (.invokevirtual 13) 3 := eL_law_203
theorem iL_206 {nm : String} : Ix (mLn nm) 206 207 (.aload_n 2) 1 := eL_law_206
theorem iL_207 {nm : String} : Ix (mLn nm) 207 208 (.aload_n 0) 1 := eL_law_207
theorem iL_208 {nm : String} : Ix (mLn nm) 208 209 (.iload_n 3) 1 := eL_law_208
theorem iL_209 {nm : String} : Ix (mLn nm) 209 210 (.iconst 1) 1 := eL_law_209
theorem iL_210 {nm : String} : Ix (mLn nm) 210 211 .iadd 1 := eL_law_210
theorem iL_211 {nm : String} : Ix (mLn nm) 211 212 .iaload 1 := eL_law_211
theorem iL_212 {nm : String} : Ix (mLn nm) 212 213 (.aload_n 0) 1 := eL_law_212
theorem iL_213 {nm : String} : Ix (mLn nm) 213 214 (.iload_n 3) 1 := eL_law_213
theorem iL_214 {nm : String} : Ix (mLn nm) 214 215 (.iconst 2) 1 := eL_law_214
theorem iL_215 {nm : String} : Ix (mLn nm) 215 216 .iadd 1 := eL_law_215
theorem iL_216 {nm : String} : Ix (mLn nm) 216 217 .iaload 1 := eL_law_216
theorem iL_217 {nm : String} : Ix (mLn nm) 217 220 (.invokevirtual 17) 3 := eL_law_217
theorem iL_220 {nm : String} : Bx (mLn nm) 220 223 1373 (.if_icmp .eq 1153) 1153 := eL_law_220
theorem iL_223 {nm : String} : Ix (mLn nm) 223 224 (.iconst 0) 1 := eL_law_223
theorem iL_224 {nm : String} : Ix (mLn nm) 224 225 .ireturn 1 := eL_law_224
theorem iL_225 {nm : String} : Ix (mLn nm) 225 226 (.aload_n 1) 1 := eL_law_225
theorem iL_226 {nm : String} : Ix (mLn nm) 226 227 (.aload_n 0) 1 := eL_law_226
theorem iL_227 {nm : String} : Ix (mLn nm) 227 228 (.iload_n 3) 1 := eL_law_227
theorem iL_228 {nm : String} : Ix (mLn nm) 228 229 (.iconst 1) 1 := eL_law_228
theorem iL_229 {nm : String} : Ix (mLn nm) 229 230 .iadd 1 := eL_law_229
theorem iL_230 {nm : String} : Ix (mLn nm) 230 231 .iaload 1 := eL_law_230
theorem iL_231 {nm : String} : Ix (mLn nm) 231 234 (.invokevirtual 18) 3 := eL_law_231
theorem iL_234 {nm : String} : Ix (mLn nm) 234 235 (.aload_n 2) 1 := eL_law_234
theorem iL_235 {nm : String} : Ix (mLn nm) 235 236 (.aload_n 0) 1 := eL_law_235
theorem iL_236 {nm : String} : Ix (mLn nm) 236 237 (.iload_n 3) 1 := eL_law_236
theorem iL_237 {nm : String} : Ix (mLn nm) 237 238 (.iconst 1) 1 := eL_law_237
theorem iL_238 {nm : String} : Ix (mLn nm) 238 239 .iadd 1 := eL_law_238
theorem iL_239 {nm : String} : Ix (mLn nm) 239 240 .iaload 1 := eL_law_239
theorem iL_240 {nm : String} : Ix (mLn nm) 240 243 (.invokevirtual 22) 3 := eL_law_240
theorem iL_243 {nm : String} : Bx (mLn nm) 243 246 1373 (.if_icmp .eq 1130) 1130 := eL_law_243
theorem iL_246 {nm : String} : Ix (mLn nm) 246 247 (.iconst 0) 1 := eL_law_246
theorem iL_247 {nm : String} : Ix (mLn nm) 247 248 .ireturn 1 := eL_law_247
theorem iL_248 {nm : String} : Ix (mLn nm) 248 249 (.aload_n 1) 1 := eL_law_248
theorem iL_249 {nm : String} : Ix (mLn nm) 249 250 (.aload_n 0) 1 := eL_law_249
theorem iL_250 {nm : String} : Ix (mLn nm) 250 251 (.iload_n 3) 1 := eL_law_250
theorem iL_251 {nm : String} : Ix (mLn nm) 251 252 (.iconst 1) 1 := eL_law_251
theorem iL_252 {nm : String} : Ix (mLn nm) 252 253 .iadd 1 := eL_law_252
theorem iL_253 {nm : String} : Ix (mLn nm) 253 254 .iaload 1 := eL_law_253
theorem iL_254 {nm : String} : Ix (mLn nm) 254 257 (.invokevirtual 23) 3 := eL_law_254
theorem iL_257 {nm : String} : Ix (mLn nm) 257 258 (.aload_n 2) 1 := eL_law_257
theorem iL_258 {nm : String} : Ix (mLn nm) 258 259 (.aload_n 0) 1 := eL_law_258
theorem iL_259 {nm : String} : Ix (mLn nm) 259 260 (.iload_n 3) 1 := eL_law_259
theorem iL_260 {nm : String} : Ix (mLn nm) 260 261 (.iconst 1) 1 := eL_law_260
theorem iL_261 {nm : String} : Ix (mLn nm) 261 262 .iadd 1 := eL_law_261
theorem iL_262 {nm : String} : Ix (mLn nm) 262 263 .iaload 1 := eL_law_262
theorem iL_263 {nm : String} : Ix (mLn nm) 263 266 (.invokevirtual 26) 3 := eL_law_263
theorem iL_266 {nm : String} : Bx (mLn nm) 266 269 1373 (.if_icmp .eq 1107) 1107 := eL_law_266
theorem iL_269 {nm : String} : Ix (mLn nm) 269 270 (.iconst 0) 1 := eL_law_269
theorem iL_270 {nm : String} : Ix (mLn nm) 270 271 .ireturn 1 := eL_law_270
theorem iL_271 {nm : String} : Ix (mLn nm) 271 272 (.aload_n 1) 1 := eL_law_271
theorem iL_272 {nm : String} : Ix (mLn nm) 272 273 (.aload_n 0) 1 := eL_law_272
theorem iL_273 {nm : String} : Ix (mLn nm) 273 274 (.iload_n 3) 1 := eL_law_273
theorem iL_274 {nm : String} : Ix (mLn nm) 274 275 (.iconst 1) 1 := eL_law_274
theorem iL_275 {nm : String} : Ix (mLn nm) 275 276 .iadd 1 := eL_law_275
theorem iL_276 {nm : String} : Ix (mLn nm) 276 277 .iaload 1 := eL_law_276
theorem iL_277 {nm : String} : Ix (mLn nm) 277 280 (.invokevirtual 27) 3 := eL_law_277
theorem iL_280 {nm : String} : Ix (mLn nm) 280 281 (.aload_n 2) 1 := eL_law_280
theorem iL_281 {nm : String} : Ix (mLn nm) 281 282 (.aload_n 0) 1 := eL_law_281
theorem iL_282 {nm : String} : Ix (mLn nm) 282 283 (.iload_n 3) 1 := eL_law_282
theorem iL_283 {nm : String} : Ix (mLn nm) 283 284 (.iconst 1) 1 := eL_law_283
theorem iL_284 {nm : String} : Ix (mLn nm) 284 285 .iadd 1 := eL_law_284
theorem iL_285 {nm : String} : Ix (mLn nm) 285 286 .iaload 1 := eL_law_285
theorem iL_286 {nm : String} : Ix (mLn nm) 286 289 (.invokevirtual 30) 3 := eL_law_286
theorem iL_289 {nm : String} : Bx (mLn nm) 289 292 1373 (.if_icmp .eq 1084) 1084 := eL_law_289
theorem iL_292 {nm : String} : Ix (mLn nm) 292 293 (.iconst 0) 1 := eL_law_292
theorem iL_293 {nm : String} : Ix (mLn nm) 293 294 .ireturn 1 := eL_law_293
theorem iL_294 {nm : String} : Ix (mLn nm) 294 295 (.aload_n 1) 1 := eL_law_294
theorem iL_295 {nm : String} : Ix (mLn nm) 295 296 (.aload_n 0) 1 := eL_law_295
theorem iL_296 {nm : String} : Ix (mLn nm) 296 297 (.iload_n 3) 1 := eL_law_296
theorem iL_297 {nm : String} : Ix (mLn nm) 297 298 (.iconst 1) 1 := eL_law_297
theorem iL_298 {nm : String} : Ix (mLn nm) 298 299 .iadd 1 := eL_law_298
theorem iL_299 {nm : String} : Ix (mLn nm) 299 300 .iaload 1 := eL_law_299
theorem iL_300 {nm : String} : Ix (mLn nm) 300 301 (.aload_n 0) 1 := eL_law_300
theorem iL_301 {nm : String} : Ix (mLn nm) 301 302 (.iload_n 3) 1 := eL_law_301
theorem iL_302 {nm : String} : Ix (mLn nm) 302 303 (.iconst 2) 1 := eL_law_302
theorem iL_303 {nm : String} : Ix (mLn nm) 303 304 .iadd 1 := eL_law_303
theorem iL_304 {nm : String} : Ix (mLn nm) 304 305 .iaload 1 := eL_law_304
theorem iL_305 {nm : String} : Ix (mLn nm) 305 308 (.invokevirtual 31) 3 := eL_law_305
theorem iL_308 {nm : String} : Ix (mLn nm) 308 309 (.aload_n 2) 1 := eL_law_308
theorem iL_309 {nm : String} : Ix (mLn nm) 309 310 (.aload_n 0) 1 := eL_law_309
theorem iL_310 {nm : String} : Ix (mLn nm) 310 311 (.iload_n 3) 1 := eL_law_310
theorem iL_311 {nm : String} : Ix (mLn nm) 311 312 (.iconst 1) 1 := eL_law_311
theorem iL_312 {nm : String} : Ix (mLn nm) 312 313 .iadd 1 := eL_law_312
theorem iL_313 {nm : String} : Ix (mLn nm) 313 314 .iaload 1 := eL_law_313
theorem iL_314 {nm : String} : Ix (mLn nm) 314 315 (.aload_n 0) 1 := eL_law_314
theorem iL_315 {nm : String} : Ix (mLn nm) 315 316 (.iload_n 3) 1 := eL_law_315
theorem iL_316 {nm : String} : Ix (mLn nm) 316 317 (.iconst 2) 1 := eL_law_316
theorem iL_317 {nm : String} : Ix (mLn nm) 317 318 .iadd 1 := eL_law_317
theorem iL_318 {nm : String} : Ix (mLn nm) 318 319 .iaload 1 := eL_law_318
theorem iL_319 {nm : String} : Ix (mLn nm) 319 322 (.invokevirtual 34) 3 := eL_law_319
theorem iL_322 {nm : String} : Bx (mLn nm) 322 325 1373 (.if_icmp .eq 1051) 1051 := eL_law_322
theorem iL_325 {nm : String} : Ix (mLn nm) 325 326 (.iconst 0) 1 := eL_law_325
theorem iL_326 {nm : String} : Ix (mLn nm) 326 327 .ireturn 1 := eL_law_326
theorem iL_327 {nm : String} : Ix (mLn nm) 327 328 (.aload_n 1) 1 := eL_law_327
theorem iL_328 {nm : String} : Ix (mLn nm) 328 329 (.aload_n 0) 1 := eL_law_328
theorem iL_329 {nm : String} : Ix (mLn nm) 329 330 (.iload_n 3) 1 := eL_law_329
theorem iL_330 {nm : String} : Ix (mLn nm) 330 331 (.iconst 1) 1 := eL_law_330
theorem iL_331 {nm : String} : Ix (mLn nm) 331 332 .iadd 1 := eL_law_331
theorem iL_332 {nm : String} : Ix (mLn nm) 332 333 .iaload 1 := eL_law_332
theorem iL_333 {nm : String} : Ix (mLn nm) 333 334 (.aload_n 0) 1 := eL_law_333
theorem iL_334 {nm : String} : Ix (mLn nm) 334 335 (.iload_n 3) 1 := eL_law_334
theorem iL_335 {nm : String} : Ix (mLn nm) 335 336 (.iconst 2) 1 := eL_law_335
theorem iL_336 {nm : String} : Ix (mLn nm) 336 337 .iadd 1 := eL_law_336
theorem iL_337 {nm : String} : Ix (mLn nm) 337 338 .iaload 1 := eL_law_337
theorem iL_338 {nm : String} : Ix (mLn nm) 338 341 (.invokevirtual 35) 3 := eL_law_338
theorem iL_341 {nm : String} : Ix (mLn nm) 341 342 (.aload_n 2) 1 := eL_law_341
theorem iL_342 {nm : String} : Ix (mLn nm) 342 343 (.aload_n 0) 1 := eL_law_342
theorem iL_343 {nm : String} : Ix (mLn nm) 343 344 (.iload_n 3) 1 := eL_law_343
theorem iL_344 {nm : String} : Ix (mLn nm) 344 345 (.iconst 1) 1 := eL_law_344
theorem iL_345 {nm : String} : Ix (mLn nm) 345 346 .iadd 1 := eL_law_345
theorem iL_346 {nm : String} : Ix (mLn nm) 346 347 .iaload 1 := eL_law_346
theorem iL_347 {nm : String} : Ix (mLn nm) 347 348 (.aload_n 0) 1 := eL_law_347
theorem iL_348 {nm : String} : Ix (mLn nm) 348 349 (.iload_n 3) 1 := eL_law_348
theorem iL_349 {nm : String} : Ix (mLn nm) 349 350 (.iconst 2) 1 := eL_law_349
theorem iL_350 {nm : String} : Ix (mLn nm) 350 351 .iadd 1 := eL_law_350
theorem iL_351 {nm : String} : Ix (mLn nm) 351 352 .iaload 1 := eL_law_351
theorem iL_352 {nm : String} : Ix (mLn nm) 352 355 (.invokevirtual 38) 3 := eL_law_352
theorem iL_355 {nm : String} : Bx (mLn nm) 355 358 1373 (.if_icmp .eq 1018) 1018 := eL_law_355
theorem iL_358 {nm : String} : Ix (mLn nm) 358 359 (.iconst 0) 1 := eL_law_358
theorem iL_359 {nm : String} : Ix (mLn nm) 359 360 .ireturn 1 := eL_law_359
theorem iL_360 {nm : String} : Ix (mLn nm) 360 361 (.aload_n 1) 1 := eL_law_360
theorem iL_361 {nm : String} : Ix (mLn nm) 361 362 (.aload_n 0) 1 := eL_law_361
theorem iL_362 {nm : String} : Ix (mLn nm) 362 363 (.iload_n 3) 1 := eL_law_362
theorem iL_363 {nm : String} : Ix (mLn nm) 363 364 (.iconst 1) 1 := eL_law_363
theorem iL_364 {nm : String} : Ix (mLn nm) 364 365 .iadd 1 := eL_law_364
theorem iL_365 {nm : String} : Ix (mLn nm) 365 366 .iaload 1 := eL_law_365
theorem iL_366 {nm : String} : Ix (mLn nm) 366 367 (.aload_n 0) 1 := eL_law_366
theorem iL_367 {nm : String} : Ix (mLn nm) 367 368 (.iload_n 3) 1 := eL_law_367
theorem iL_368 {nm : String} : Ix (mLn nm) 368 369 (.iconst 2) 1 := eL_law_368
theorem iL_369 {nm : String} : Ix (mLn nm) 369 370 .iadd 1 := eL_law_369
theorem iL_370 {nm : String} : Ix (mLn nm) 370 371 .iaload 1 := eL_law_370
theorem iL_371 {nm : String} : Ix (mLn nm) 371 372 (.aload_n 0) 1 := eL_law_371
theorem iL_372 {nm : String} : Ix (mLn nm) 372 373 (.iload_n 3) 1 := eL_law_372
theorem iL_373 {nm : String} : Ix (mLn nm) 373 374 (.iconst 3) 1 := eL_law_373
theorem iL_374 {nm : String} : Ix (mLn nm) 374 375 .iadd 1 := eL_law_374
theorem iL_375 {nm : String} : Ix (mLn nm) 375 376 .iaload 1 := eL_law_375
theorem iL_376 {nm : String} : Ix (mLn nm) 376 379 (.invokevirtual 39) 3 := eL_law_376
theorem iL_379 {nm : String} : Ix (mLn nm) 379 380 (.aload_n 2) 1 := eL_law_379
theorem iL_380 {nm : String} : Ix (mLn nm) 380 381 (.aload_n 0) 1 := eL_law_380
theorem iL_381 {nm : String} : Ix (mLn nm) 381 382 (.iload_n 3) 1 := eL_law_381
theorem iL_382 {nm : String} : Ix (mLn nm) 382 383 (.iconst 1) 1 := eL_law_382
theorem iL_383 {nm : String} : Ix (mLn nm) 383 384 .iadd 1 := eL_law_383
theorem iL_384 {nm : String} : Ix (mLn nm) 384 385 .iaload 1 := eL_law_384
theorem iL_385 {nm : String} : Ix (mLn nm) 385 386 (.aload_n 0) 1 := eL_law_385
theorem iL_386 {nm : String} : Ix (mLn nm) 386 387 (.iload_n 3) 1 := eL_law_386
theorem iL_387 {nm : String} : Ix (mLn nm) 387 388 (.iconst 2) 1 := eL_law_387
theorem iL_388 {nm : String} : Ix (mLn nm) 388 389 .iadd 1 := eL_law_388
theorem iL_389 {nm : String} : Ix (mLn nm) 389 390 .iaload 1 := eL_law_389
theorem iL_390 {nm : String} : Ix (mLn nm) 390 391 (.aload_n 0) 1 := eL_law_390
theorem iL_391 {nm : String} : Ix (mLn nm) 391 392 (.iload_n 3) 1 := eL_law_391
theorem iL_392 {nm : String} : Ix (mLn nm) 392 393 (.iconst 3) 1 := eL_law_392
theorem iL_393 {nm : String} : Ix (mLn nm) 393 394 .iadd 1 := eL_law_393
theorem iL_394 {nm : String} : Ix (mLn nm) 394 395 .iaload 1 := eL_law_394
theorem iL_395 {nm : String} : Ix (mLn nm) 395 398 (.invokevirtual 43) 3 := eL_law_395
theorem iL_398 {nm : String} : Bx (mLn nm) 398 401 1373 (.if_icmp .eq 975) 975 := eL_law_398
theorem iL_401 {nm : String} : Ix (mLn nm) 401 402 (.iconst 0) 1 := eL_law_401
theorem iL_402 {nm : String} : Ix (mLn nm) 402 403 .ireturn 1 := eL_law_402
theorem iL_403 {nm : String} : Ix (mLn nm) 403 404 (.aload_n 1) 1 := eL_law_403
theorem iL_404 {nm : String} : Ix (mLn nm) 404 407 (.invokevirtual 44) 3 := eL_law_404
theorem iL_407 {nm : String} : Ix (mLn nm) 407 408 (.aload_n 2) 1 := eL_law_407
theorem iL_408 {nm : String} : Ix (mLn nm) 408 411 (.invokevirtual 48) 3 := eL_law_408
theorem iL_411 {nm : String} : Bx (mLn nm) 411 414 1373 (.if_icmp .eq 962) 962 := eL_law_411
theorem iL_414 {nm : String} : Ix (mLn nm) 414 415 (.iconst 0) 1 := eL_law_414
theorem iL_415 {nm : String} : Ix (mLn nm) 415 416 .ireturn 1 := eL_law_415
theorem iL_416 {nm : String} : Ix (mLn nm) 416 417 (.aload_n 1) 1 := eL_law_416
theorem iL_417 {nm : String} : Ix (mLn nm) 417 418 (.aload_n 0) 1 := eL_law_417
theorem iL_418 {nm : String} : Ix (mLn nm) 418 419 (.iload_n 3) 1 := eL_law_418
theorem iL_419 {nm : String} : Ix (mLn nm) 419 420 (.iconst 1) 1 := eL_law_419
theorem iL_420 {nm : String} : Ix (mLn nm) 420 421 .iadd 1 := eL_law_420
theorem iL_421 {nm : String} : Ix (mLn nm) 421 422 .iaload 1 := eL_law_421
theorem iL_422 {nm : String} : Ix (mLn nm) 422 425 (.invokevirtual 49) 3 := eL_law_422
theorem iL_425 {nm : String} : Ix (mLn nm) 425 426 (.aload_n 2) 1 := eL_law_425
theorem iL_426 {nm : String} : Ix (mLn nm) 426 427 (.aload_n 0) 1 := eL_law_426
theorem iL_427 {nm : String} : Ix (mLn nm) 427 428 (.iload_n 3) 1 := eL_law_427
theorem iL_428 {nm : String} : Ix (mLn nm) 428 429 (.iconst 1) 1 := eL_law_428
theorem iL_429 {nm : String} : Ix (mLn nm) 429 430 .iadd 1 := eL_law_429
theorem iL_430 {nm : String} : Ix (mLn nm) 430 431 .iaload 1 := eL_law_430
theorem iL_431 {nm : String} : Ix (mLn nm) 431 434 (.invokevirtual 52) 3 := eL_law_431
theorem iL_434 {nm : String} : Bx (mLn nm) 434 437 1373 (.if_icmp .eq 939) 939 := eL_law_434
theorem iL_437 {nm : String} : Ix (mLn nm) 437 438 (.iconst 0) 1 := eL_law_437
theorem iL_438 {nm : String} : Ix (mLn nm) 438 439 .ireturn 1 := eL_law_438
theorem iL_439 {nm : String} : Ix (mLn nm) 439 440 (.aload_n 1) 1 := eL_law_439
theorem iL_440 {nm : String} : Ix (mLn nm) 440 441 (.aload_n 0) 1 := eL_law_440
theorem iL_441 {nm : String} : Ix (mLn nm) 441 442 (.iload_n 3) 1 := eL_law_441
theorem iL_442 {nm : String} : Ix (mLn nm) 442 443 (.iconst 1) 1 := eL_law_442
theorem iL_443 {nm : String} : Ix (mLn nm) 443 444 .iadd 1 := eL_law_443
theorem iL_444 {nm : String} : Ix (mLn nm) 444 445 .iaload 1 := eL_law_444
theorem iL_445 {nm : String} : Ix (mLn nm) 445 446 (.aload_n 0) 1 := eL_law_445
theorem iL_446 {nm : String} : Ix (mLn nm) 446 447 (.iload_n 3) 1 := eL_law_446
theorem iL_447 {nm : String} : Ix (mLn nm) 447 448 (.iconst 2) 1 := eL_law_447
theorem iL_448 {nm : String} : Ix (mLn nm) 448 449 .iadd 1 := eL_law_448
theorem iL_449 {nm : String} : Ix (mLn nm) 449 450 .iaload 1 := eL_law_449
theorem iL_450 {nm : String} : Ix (mLn nm) 450 453 (.invokevirtual 53) 3 := eL_law_450
theorem iL_453 {nm : String} : Ix (mLn nm) 453 454 (.aload_n 2) 1 := eL_law_453
theorem iL_454 {nm : String} : Ix (mLn nm) 454 455 (.aload_n 0) 1 := eL_law_454
theorem iL_455 {nm : String} : Ix (mLn nm) 455 456 (.iload_n 3) 1 := eL_law_455
theorem iL_456 {nm : String} : Ix (mLn nm) 456 457 (.iconst 1) 1 := eL_law_456
theorem iL_457 {nm : String} : Ix (mLn nm) 457 458 .iadd 1 := eL_law_457
theorem iL_458 {nm : String} : Ix (mLn nm) 458 459 .iaload 1 := eL_law_458
theorem iL_459 {nm : String} : Ix (mLn nm) 459 460 (.aload_n 0) 1 := eL_law_459
theorem iL_460 {nm : String} : Ix (mLn nm) 460 461 (.iload_n 3) 1 := eL_law_460
theorem iL_461 {nm : String} : Ix (mLn nm) 461 462 (.iconst 2) 1 := eL_law_461
theorem iL_462 {nm : String} : Ix (mLn nm) 462 463 .iadd 1 := eL_law_462
theorem iL_463 {nm : String} : Ix (mLn nm) 463 464 .iaload 1 := eL_law_463
theorem iL_464 {nm : String} : Ix (mLn nm) 464 467 (.invokevirtual 56) 3 := eL_law_464
theorem iL_467 {nm : String} : Bx (mLn nm) 467 470 1373 (.if_icmp .eq 906) 906 := eL_law_467
theorem iL_470 {nm : String} : Ix (mLn nm) 470 471 (.iconst 0) 1 := eL_law_470
theorem iL_471 {nm : String} : Ix (mLn nm) 471 472 .ireturn 1 := eL_law_471
theorem iL_472 {nm : String} : Ix (mLn nm) 472 473 (.aload_n 1) 1 := eL_law_472
theorem iL_473 {nm : String} : Ix (mLn nm) 473 474 (.aload_n 0) 1 := eL_law_473
theorem iL_474 {nm : String} : Ix (mLn nm) 474 475 (.iload_n 3) 1 := eL_law_474
theorem iL_475 {nm : String} : Ix (mLn nm) 475 476 (.iconst 1) 1 := eL_law_475
theorem iL_476 {nm : String} : Ix (mLn nm) 476 477 .iadd 1 := eL_law_476
theorem iL_477 {nm : String} : Ix (mLn nm) 477 478 .iaload 1 := eL_law_477
theorem iL_478 {nm : String} : Ix (mLn nm) 478 479 (.aload_n 0) 1 := eL_law_478
theorem iL_479 {nm : String} : Ix (mLn nm) 479 480 (.iload_n 3) 1 := eL_law_479
theorem iL_480 {nm : String} : Ix (mLn nm) 480 481 (.iconst 2) 1 := eL_law_480
theorem iL_481 {nm : String} : Ix (mLn nm) 481 482 .iadd 1 := eL_law_481
theorem iL_482 {nm : String} : Ix (mLn nm) 482 483 .iaload 1 := eL_law_482
theorem iL_483 {nm : String} : Ix (mLn nm) 483 486 (.invokevirtual 57) 3 := eL_law_483
theorem iL_486 {nm : String} : Ix (mLn nm) 486 487 (.aload_n 2) 1 := eL_law_486
theorem iL_487 {nm : String} : Ix (mLn nm) 487 488 (.aload_n 0) 1 := eL_law_487
theorem iL_488 {nm : String} : Ix (mLn nm) 488 489 (.iload_n 3) 1 := eL_law_488
theorem iL_489 {nm : String} : Ix (mLn nm) 489 490 (.iconst 1) 1 := eL_law_489
theorem iL_490 {nm : String} : Ix (mLn nm) 490 491 .iadd 1 := eL_law_490
theorem iL_491 {nm : String} : Ix (mLn nm) 491 492 .iaload 1 := eL_law_491
theorem iL_492 {nm : String} : Ix (mLn nm) 492 493 (.aload_n 0) 1 := eL_law_492
theorem iL_493 {nm : String} : Ix (mLn nm) 493 494 (.iload_n 3) 1 := eL_law_493
theorem iL_494 {nm : String} : Ix (mLn nm) 494 495 (.iconst 2) 1 := eL_law_494
theorem iL_495 {nm : String} : Ix (mLn nm) 495 496 .iadd 1 := eL_law_495
theorem iL_496 {nm : String} : Ix (mLn nm) 496 497 .iaload 1 := eL_law_496
theorem iL_497 {nm : String} : Ix (mLn nm) 497 500 (.invokevirtual 60) 3 := eL_law_497
theorem iL_500 {nm : String} : Bx (mLn nm) 500 503 1373 (.if_icmp .eq 873) 873 := eL_law_500
theorem iL_503 {nm : String} : Ix (mLn nm) 503 504 (.iconst 0) 1 := eL_law_503
theorem iL_504 {nm : String} : Ix (mLn nm) 504 505 .ireturn 1 := eL_law_504
theorem iL_505 {nm : String} : Ix (mLn nm) 505 506 (.aload_n 1) 1 := eL_law_505
theorem iL_506 {nm : String} : Ix (mLn nm) 506 507 (.aload_n 0) 1 := eL_law_506
theorem iL_507 {nm : String} : Ix (mLn nm) 507 508 (.iload_n 3) 1 := eL_law_507
theorem iL_508 {nm : String} : Ix (mLn nm) 508 509 (.iconst 1) 1 := eL_law_508
theorem iL_509 {nm : String} : Ix (mLn nm) 509 510 .iadd 1 := eL_law_509
theorem iL_510 {nm : String} : Ix (mLn nm) 510 511 .iaload 1 := eL_law_510
theorem iL_511 {nm : String} : Ix (mLn nm) 511 512 (.aload_n 0) 1 := eL_law_511
theorem iL_512 {nm : String} : Ix (mLn nm) 512 513 (.iload_n 3) 1 := eL_law_512
theorem iL_513 {nm : String} : Ix (mLn nm) 513 514 (.iconst 2) 1 := eL_law_513
theorem iL_514 {nm : String} : Ix (mLn nm) 514 515 .iadd 1 := eL_law_514
theorem iL_515 {nm : String} : Ix (mLn nm) 515 516 .iaload 1 := eL_law_515
theorem iL_516 {nm : String} : Ix (mLn nm) 516 519 (.invokevirtual 61) 3 := eL_law_516
theorem iL_519 {nm : String} : Ix (mLn nm) 519 520 (.aload_n 2) 1 := eL_law_519
theorem iL_520 {nm : String} : Ix (mLn nm) 520 521 (.aload_n 0) 1 := eL_law_520
theorem iL_521 {nm : String} : Ix (mLn nm) 521 522 (.iload_n 3) 1 := eL_law_521
theorem iL_522 {nm : String} : Ix (mLn nm) 522 523 (.iconst 1) 1 := eL_law_522
theorem iL_523 {nm : String} : Ix (mLn nm) 523 524 .iadd 1 := eL_law_523
theorem iL_524 {nm : String} : Ix (mLn nm) 524 525 .iaload 1 := eL_law_524
theorem iL_525 {nm : String} : Ix (mLn nm) 525 526 (.aload_n 0) 1 := eL_law_525
theorem iL_526 {nm : String} : Ix (mLn nm) 526 527 (.iload_n 3) 1 := eL_law_526
theorem iL_527 {nm : String} : Ix (mLn nm) 527 528 (.iconst 2) 1 := eL_law_527
theorem iL_528 {nm : String} : Ix (mLn nm) 528 529 .iadd 1 := eL_law_528
theorem iL_529 {nm : String} : Ix (mLn nm) 529 530 .iaload 1 := eL_law_529
theorem iL_530 {nm : String} : Ix (mLn nm) 530 533 (.invokevirtual 64) 3 := eL_law_530
theorem iL_533 {nm : String} : Bx (mLn nm) 533 536 1373 (.if_icmp .eq 840) 840 := eL_law_533
theorem iL_536 {nm : String} : Ix (mLn nm) 536 537 (.iconst 0) 1 := eL_law_536
theorem iL_537 {nm : String} : Ix (mLn nm) 537 538 .ireturn 1 := eL_law_537
theorem iL_538 {nm : String} : Ix (mLn nm) 538 539 (.aload_n 1) 1 := eL_law_538
theorem iL_539 {nm : String} : Ix (mLn nm) 539 540 (.aload_n 0) 1 := eL_law_539
theorem iL_540 {nm : String} : Ix (mLn nm) 540 541 (.iload_n 3) 1 := eL_law_540
theorem iL_541 {nm : String} : Ix (mLn nm) 541 542 (.iconst 1) 1 := eL_law_541
theorem iL_542 {nm : String} : Ix (mLn nm) 542 543 .iadd 1 := eL_law_542
theorem iL_543 {nm : String} : Ix (mLn nm) 543 544 .iaload 1 := eL_law_543
theorem iL_544 {nm : String} : Ix (mLn nm) 544 545 (.aload_n 0) 1 := eL_law_544
theorem iL_545 {nm : String} : Ix (mLn nm) 545 546 (.iload_n 3) 1 := eL_law_545
theorem iL_546 {nm : String} : Ix (mLn nm) 546 547 (.iconst 2) 1 := eL_law_546
theorem iL_547 {nm : String} : Ix (mLn nm) 547 548 .iadd 1 := eL_law_547
theorem iL_548 {nm : String} : Ix (mLn nm) 548 549 .iaload 1 := eL_law_548
theorem iL_549 {nm : String} : Ix (mLn nm) 549 550 (.aload_n 0) 1 := eL_law_549
theorem iL_550 {nm : String} : Ix (mLn nm) 550 551 (.iload_n 3) 1 := eL_law_550
theorem iL_551 {nm : String} : Ix (mLn nm) 551 552 (.iconst 3) 1 := eL_law_551
theorem iL_552 {nm : String} : Ix (mLn nm) 552 553 .iadd 1 := eL_law_552
theorem iL_553 {nm : String} : Ix (mLn nm) 553 554 .iaload 1 := eL_law_553
theorem iL_554 {nm : String} : Ix (mLn nm) 554 557 (.invokevirtual 65) 3 := eL_law_554
theorem iL_557 {nm : String} : Ix (mLn nm) 557 558 (.aload_n 2) 1 := eL_law_557
theorem iL_558 {nm : String} : Ix (mLn nm) 558 559 (.aload_n 0) 1 := eL_law_558
theorem iL_559 {nm : String} : Ix (mLn nm) 559 560 (.iload_n 3) 1 := eL_law_559
theorem iL_560 {nm : String} : Ix (mLn nm) 560 561 (.iconst 1) 1 := eL_law_560
theorem iL_561 {nm : String} : Ix (mLn nm) 561 562 .iadd 1 := eL_law_561
theorem iL_562 {nm : String} : Ix (mLn nm) 562 563 .iaload 1 := eL_law_562
theorem iL_563 {nm : String} : Ix (mLn nm) 563 564 (.aload_n 0) 1 := eL_law_563
theorem iL_564 {nm : String} : Ix (mLn nm) 564 565 (.iload_n 3) 1 := eL_law_564
theorem iL_565 {nm : String} : Ix (mLn nm) 565 566 (.iconst 2) 1 := eL_law_565
theorem iL_566 {nm : String} : Ix (mLn nm) 566 567 .iadd 1 := eL_law_566
theorem iL_567 {nm : String} : Ix (mLn nm) 567 568 .iaload 1 := eL_law_567
theorem iL_568 {nm : String} : Ix (mLn nm) 568 569 (.aload_n 0) 1 := eL_law_568
theorem iL_569 {nm : String} : Ix (mLn nm) 569 570 (.iload_n 3) 1 := eL_law_569
theorem iL_570 {nm : String} : Ix (mLn nm) 570 571 (.iconst 3) 1 := eL_law_570
theorem iL_571 {nm : String} : Ix (mLn nm) 571 572 .iadd 1 := eL_law_571
theorem iL_572 {nm : String} : Ix (mLn nm) 572 573 .iaload 1 := eL_law_572
theorem iL_573 {nm : String} : Ix (mLn nm) 573 576 (.invokevirtual 69) 3 := eL_law_573
theorem iL_576 {nm : String} : Ix (mLn nm) 576 577 .lcmp 1 := eL_law_576
theorem iL_577 {nm : String} : Bx (mLn nm) 577 580 1373 (.ifCond .eq 796) 796 := eL_law_577
theorem iL_580 {nm : String} : Ix (mLn nm) 580 581 (.iconst 0) 1 := eL_law_580
theorem iL_581 {nm : String} : Ix (mLn nm) 581 582 .ireturn 1 := eL_law_581
theorem iL_582 {nm : String} : Ix (mLn nm) 582 583 (.aload_n 1) 1 := eL_law_582
theorem iL_583 {nm : String} : Ix (mLn nm) 583 584 (.aload_n 0) 1 := eL_law_583
theorem iL_584 {nm : String} : Ix (mLn nm) 584 585 (.iload_n 3) 1 := eL_law_584
theorem iL_585 {nm : String} : Ix (mLn nm) 585 586 (.iconst 1) 1 := eL_law_585
theorem iL_586 {nm : String} : Ix (mLn nm) 586 587 .iadd 1 := eL_law_586
theorem iL_587 {nm : String} : Ix (mLn nm) 587 588 .iaload 1 := eL_law_587
theorem iL_588 {nm : String} : Ix (mLn nm) 588 591 (.invokevirtual 70) 3 := eL_law_588
theorem iL_591 {nm : String} : Ix (mLn nm) 591 592 (.aload_n 2) 1 := eL_law_591
theorem iL_592 {nm : String} : Ix (mLn nm) 592 593 (.aload_n 0) 1 := eL_law_592
theorem iL_593 {nm : String} : Ix (mLn nm) 593 594 (.iload_n 3) 1 := eL_law_593
theorem iL_594 {nm : String} : Ix (mLn nm) 594 595 (.iconst 1) 1 := eL_law_594
theorem iL_595 {nm : String} : Ix (mLn nm) 595 596 .iadd 1 := eL_law_595
theorem iL_596 {nm : String} : Ix (mLn nm) 596 597 .iaload 1 := eL_law_596
theorem iL_597 {nm : String} : Ix (mLn nm) 597 600 (.invokevirtual 73) 3 := eL_law_597
theorem iL_600 {nm : String} : Bx (mLn nm) 600 603 1373 (.if_icmp .eq 773) 773 := eL_law_600
theorem iL_603 {nm : String} : Ix (mLn nm) 603 604 (.iconst 0) 1 := eL_law_603
theorem iL_604 {nm : String} : Ix (mLn nm) 604 605 .ireturn 1 := eL_law_604
theorem iL_605 {nm : String} : Ix (mLn nm) 605 606 (.aload_n 1) 1 := eL_law_605
theorem iL_606 {nm : String} : Ix (mLn nm) 606 607 (.aload_n 0) 1 := eL_law_606
theorem iL_607 {nm : String} : Ix (mLn nm) 607 608 (.iload_n 3) 1 := eL_law_607
theorem iL_608 {nm : String} : Ix (mLn nm) 608 609 (.iconst 1) 1 := eL_law_608
theorem iL_609 {nm : String} : Ix (mLn nm) 609 610 .iadd 1 := eL_law_609
theorem iL_610 {nm : String} : Ix (mLn nm) 610 611 .iaload 1 := eL_law_610
theorem iL_611 {nm : String} : Ix (mLn nm) 611 614 (.invokevirtual 74) 3 := eL_law_611
theorem iL_614 {nm : String} : Ix (mLn nm) 614 615 (.aload_n 2) 1 := eL_law_614
theorem iL_615 {nm : String} : Ix (mLn nm) 615 616 (.aload_n 0) 1 := eL_law_615
theorem iL_616 {nm : String} : Ix (mLn nm) 616 617 (.iload_n 3) 1 := eL_law_616
theorem iL_617 {nm : String} : Ix (mLn nm) 617 618 (.iconst 1) 1 := eL_law_617
theorem iL_618 {nm : String} : Ix (mLn nm) 618 619 .iadd 1 := eL_law_618
theorem iL_619 {nm : String} : Ix (mLn nm) 619 620 .iaload 1 := eL_law_619
theorem iL_620 {nm : String} : Ix (mLn nm) 620 623 (.invokevirtual 77) 3 := eL_law_620
theorem iL_623 {nm : String} : Bx (mLn nm) 623 626 1373 (.if_icmp .eq 750) 750 := eL_law_623
theorem iL_626 {nm : String} : Ix (mLn nm) 626 627 (.iconst 0) 1 := eL_law_626
theorem iL_627 {nm : String} : Ix (mLn nm) 627 628 .ireturn 1 := eL_law_627
theorem iL_628 {nm : String} : Ix (mLn nm) 628 629 (.aload_n 1) 1 := eL_law_628
theorem iL_629 {nm : String} : Ix (mLn nm) 629 630 (.aload_n 0) 1 := eL_law_629
theorem iL_630 {nm : String} : Ix (mLn nm) 630 631 (.iload_n 3) 1 := eL_law_630
theorem iL_631 {nm : String} : Ix (mLn nm) 631 632 (.iconst 1) 1 := eL_law_631
theorem iL_632 {nm : String} : Ix (mLn nm) 632 633 .iadd 1 := eL_law_632
theorem iL_633 {nm : String} : Ix (mLn nm) 633 634 .iaload 1 := eL_law_633
theorem iL_634 {nm : String} : Ix (mLn nm) 634 637 (.invokevirtual 78) 3 := eL_law_634
theorem iL_637 {nm : String} : Ix (mLn nm) 637 638 (.aload_n 2) 1 := eL_law_637
theorem iL_638 {nm : String} : Ix (mLn nm) 638 639 (.aload_n 0) 1 := eL_law_638
theorem iL_639 {nm : String} : Ix (mLn nm) 639 640 (.iload_n 3) 1 := eL_law_639
theorem iL_640 {nm : String} : Ix (mLn nm) 640 641 (.iconst 1) 1 := eL_law_640
theorem iL_641 {nm : String} : Ix (mLn nm) 641 642 .iadd 1 := eL_law_641
theorem iL_642 {nm : String} : Ix (mLn nm) 642 643 .iaload 1 := eL_law_642
theorem iL_643 {nm : String} : Ix (mLn nm) 643 646 (.invokevirtual 81) 3 := eL_law_643
theorem iL_646 {nm : String} : Bx (mLn nm) 646 649 1373 (.if_icmp .eq 727) 727 := eL_law_646
theorem iL_649 {nm : String} : Ix (mLn nm) 649 650 (.iconst 0) 1 := eL_law_649
theorem iL_650 {nm : String} : Ix (mLn nm) 650 651 .ireturn 1 := eL_law_650
theorem iL_651 {nm : String} : Ix (mLn nm) 651 652 (.aload_n 1) 1 := eL_law_651
theorem iL_652 {nm : String} : Ix (mLn nm) 652 655 (.invokevirtual 82) 3 := eL_law_652
theorem iL_655 {nm : String} : Ix (mLn nm) 655 656 (.aload_n 2) 1 := eL_law_655
theorem iL_656 {nm : String} : Ix (mLn nm) 656 659 (.invokevirtual 85) 3 := eL_law_656
theorem iL_659 {nm : String} : Bx (mLn nm) 659 662 1373 (.if_icmp .eq 714) 714 := eL_law_659
theorem iL_662 {nm : String} : Ix (mLn nm) 662 663 (.iconst 0) 1 := eL_law_662
theorem iL_663 {nm : String} : Ix (mLn nm) 663 664 .ireturn 1 := eL_law_663
theorem iL_664 {nm : String} : Ix (mLn nm) 664 665 (.aload_n 1) 1 := eL_law_664
theorem iL_665 {nm : String} : Ix (mLn nm) 665 666 (.aload_n 0) 1 := eL_law_665
theorem iL_666 {nm : String} : Ix (mLn nm) 666 667 (.iload_n 3) 1 := eL_law_666
theorem iL_667 {nm : String} : Ix (mLn nm) 667 668 (.iconst 1) 1 := eL_law_667
theorem iL_668 {nm : String} : Ix (mLn nm) 668 669 .iadd 1 := eL_law_668
theorem iL_669 {nm : String} : Ix (mLn nm) 669 670 .iaload 1 := eL_law_669
theorem iL_670 {nm : String} : Ix (mLn nm) 670 671 (.aload_n 0) 1 := eL_law_670
theorem iL_671 {nm : String} : Ix (mLn nm) 671 672 (.iload_n 3) 1 := eL_law_671
theorem iL_672 {nm : String} : Ix (mLn nm) 672 673 (.iconst 2) 1 := eL_law_672
theorem iL_673 {nm : String} : Ix (mLn nm) 673 674 .iadd 1 := eL_law_673
theorem iL_674 {nm : String} : Ix (mLn nm) 674 675 .iaload 1 := eL_law_674
theorem iL_675 {nm : String} : Ix (mLn nm) 675 676 (.aload_n 0) 1 := eL_law_675
theorem iL_676 {nm : String} : Ix (mLn nm) 676 677 (.iload_n 3) 1 := eL_law_676
theorem iL_677 {nm : String} : Ix (mLn nm) 677 678 (.iconst 3) 1 := eL_law_677
theorem iL_678 {nm : String} : Ix (mLn nm) 678 679 .iadd 1 := eL_law_678
theorem iL_679 {nm : String} : Ix (mLn nm) 679 680 .iaload 1 := eL_law_679
theorem iL_680 {nm : String} : Ix (mLn nm) 680 683 (.invokevirtual 86) 3 := eL_law_680
theorem iL_683 {nm : String} : Ix (mLn nm) 683 684 (.aload_n 2) 1 := eL_law_683
theorem iL_684 {nm : String} : Ix (mLn nm) 684 685 (.aload_n 0) 1 := eL_law_684
theorem iL_685 {nm : String} : Ix (mLn nm) 685 686 (.iload_n 3) 1 := eL_law_685
theorem iL_686 {nm : String} : Ix (mLn nm) 686 687 (.iconst 1) 1 := eL_law_686
theorem iL_687 {nm : String} : Ix (mLn nm) 687 688 .iadd 1 := eL_law_687
theorem iL_688 {nm : String} : Ix (mLn nm) 688 689 .iaload 1 := eL_law_688
theorem iL_689 {nm : String} : Ix (mLn nm) 689 690 (.aload_n 0) 1 := eL_law_689
theorem iL_690 {nm : String} : Ix (mLn nm) 690 691 (.iload_n 3) 1 := eL_law_690
theorem iL_691 {nm : String} : Ix (mLn nm) 691 692 (.iconst 2) 1 := eL_law_691
theorem iL_692 {nm : String} : Ix (mLn nm) 692 693 .iadd 1 := eL_law_692
theorem iL_693 {nm : String} : Ix (mLn nm) 693 694 .iaload 1 := eL_law_693
theorem iL_694 {nm : String} : Ix (mLn nm) 694 695 (.aload_n 0) 1 := eL_law_694
theorem iL_695 {nm : String} : Ix (mLn nm) 695 696 (.iload_n 3) 1 := eL_law_695
theorem iL_696 {nm : String} : Ix (mLn nm) 696 697 (.iconst 3) 1 := eL_law_696
theorem iL_697 {nm : String} : Ix (mLn nm) 697 698 .iadd 1 := eL_law_697
theorem iL_698 {nm : String} : Ix (mLn nm) 698 699 .iaload 1 := eL_law_698
theorem iL_699 {nm : String} : Ix (mLn nm) 699 702 (.invokevirtual 89) 3 := eL_law_699
theorem iL_702 {nm : String} : Bx (mLn nm) 702 705 1373 (.if_icmp .eq 671) 671 := eL_law_702
theorem iL_705 {nm : String} : Ix (mLn nm) 705 706 (.iconst 0) 1 := eL_law_705
theorem iL_706 {nm : String} : Ix (mLn nm) 706 707 .ireturn 1 := eL_law_706
theorem iL_707 {nm : String} : Ix (mLn nm) 707 708 (.aload_n 1) 1 := eL_law_707
theorem iL_708 {nm : String} : Ix (mLn nm) 708 709 (.aload_n 0) 1 := eL_law_708
theorem iL_709 {nm : String} : Ix (mLn nm) 709 710 (.iload_n 3) 1 := eL_law_709
theorem iL_710 {nm : String} : Ix (mLn nm) 710 711 (.iconst 1) 1 := eL_law_710
theorem iL_711 {nm : String} : Ix (mLn nm) 711 712 .iadd 1 := eL_law_711
theorem iL_712 {nm : String} : Ix (mLn nm) 712 713 .iaload 1 := eL_law_712
theorem iL_713 {nm : String} : Ix (mLn nm) 713 714 (.aload_n 0) 1 := eL_law_713
theorem iL_714 {nm : String} : Ix (mLn nm) 714 715 (.iload_n 3) 1 := eL_law_714
theorem iL_715 {nm : String} : Ix (mLn nm) 715 716 (.iconst 2) 1 := eL_law_715
theorem iL_716 {nm : String} : Ix (mLn nm) 716 717 .iadd 1 := eL_law_716
theorem iL_717 {nm : String} : Ix (mLn nm) 717 718 .iaload 1 := eL_law_717
theorem iL_718 {nm : String} : Ix (mLn nm) 718 719 (.aload_n 0) 1 := eL_law_718
theorem iL_719 {nm : String} : Ix (mLn nm) 719 720 (.iload_n 3) 1 := eL_law_719
theorem iL_720 {nm : String} : Ix (mLn nm) 720 721 (.iconst 3) 1 := eL_law_720
theorem iL_721 {nm : String} : Ix (mLn nm) 721 722 .iadd 1 := eL_law_721
theorem iL_722 {nm : String} : Ix (mLn nm) 722 723 .iaload 1 := eL_law_722
theorem iL_723 {nm : String} : Ix (mLn nm) 723 724 (.aload_n 0) 1 := eL_law_723
theorem iL_724 {nm : String} : Ix (mLn nm) 724 725 (.iload_n 3) 1 := eL_law_724
theorem iL_725 {nm : String} : Ix (mLn nm) 725 726 (.iconst 4) 1 := eL_law_725
theorem iL_726 {nm : String} : Ix (mLn nm) 726 727 .iadd 1 := eL_law_726
theorem iL_727 {nm : String} : Ix (mLn nm) 727 728 .iaload 1 := eL_law_727
theorem iL_728 {nm : String} : Ix (mLn nm) 728 731 (.invokevirtual 90) 3 := eL_law_728
theorem iL_731 {nm : String} : Ix (mLn nm) 731 732 (.aload_n 2) 1 := eL_law_731
theorem iL_732 {nm : String} : Ix (mLn nm) 732 733 (.aload_n 0) 1 := eL_law_732
theorem iL_733 {nm : String} : Ix (mLn nm) 733 734 (.iload_n 3) 1 := eL_law_733
theorem iL_734 {nm : String} : Ix (mLn nm) 734 735 (.iconst 1) 1 := eL_law_734
theorem iL_735 {nm : String} : Ix (mLn nm) 735 736 .iadd 1 := eL_law_735
theorem iL_736 {nm : String} : Ix (mLn nm) 736 737 .iaload 1 := eL_law_736
theorem iL_737 {nm : String} : Ix (mLn nm) 737 738 (.aload_n 0) 1 := eL_law_737
theorem iL_738 {nm : String} : Ix (mLn nm) 738 739 (.iload_n 3) 1 := eL_law_738
theorem iL_739 {nm : String} : Ix (mLn nm) 739 740 (.iconst 2) 1 := eL_law_739
theorem iL_740 {nm : String} : Ix (mLn nm) 740 741 .iadd 1 := eL_law_740
theorem iL_741 {nm : String} : Ix (mLn nm) 741 742 .iaload 1 := eL_law_741
theorem iL_742 {nm : String} : Ix (mLn nm) 742 743 (.aload_n 0) 1 := eL_law_742
theorem iL_743 {nm : String} : Ix (mLn nm) 743 744 (.iload_n 3) 1 := eL_law_743
theorem iL_744 {nm : String} : Ix (mLn nm) 744 745 (.iconst 3) 1 := eL_law_744
theorem iL_745 {nm : String} : Ix (mLn nm) 745 746 .iadd 1 := eL_law_745
theorem iL_746 {nm : String} : Ix (mLn nm) 746 747 .iaload 1 := eL_law_746
theorem iL_747 {nm : String} : Ix (mLn nm) 747 748 (.aload_n 0) 1 := eL_law_747
theorem iL_748 {nm : String} : Ix (mLn nm) 748 749 (.iload_n 3) 1 := eL_law_748
theorem iL_749 {nm : String} : Ix (mLn nm) 749 750 (.iconst 4) 1 := eL_law_749
theorem iL_750 {nm : String} : Ix (mLn nm) 750 751 .iadd 1 := eL_law_750
theorem iL_751 {nm : String} : Ix (mLn nm) 751 752 .iaload 1 := eL_law_751
theorem iL_752 {nm : String} : Ix (mLn nm) 752 755 (.invokevirtual 94) 3 := eL_law_752
theorem iL_755 {nm : String} : Bx (mLn nm) 755 758 1373 (.if_icmp .eq 618) 618 := eL_law_755
theorem iL_758 {nm : String} : Ix (mLn nm) 758 759 (.iconst 0) 1 := eL_law_758
theorem iL_759 {nm : String} : Ix (mLn nm) 759 760 .ireturn 1 := eL_law_759
theorem iL_760 {nm : String} : Ix (mLn nm) 760 761 (.aload_n 1) 1 := eL_law_760
theorem iL_761 {nm : String} : Ix (mLn nm) 761 762 (.aload_n 0) 1 := eL_law_761
theorem iL_762 {nm : String} : Ix (mLn nm) 762 763 (.iload_n 3) 1 := eL_law_762
theorem iL_763 {nm : String} : Ix (mLn nm) 763 764 (.iconst 1) 1 := eL_law_763
theorem iL_764 {nm : String} : Ix (mLn nm) 764 765 .iadd 1 := eL_law_764
theorem iL_765 {nm : String} : Ix (mLn nm) 765 766 .iaload 1 := eL_law_765
theorem iL_766 {nm : String} : Ix (mLn nm) 766 767 (.aload_n 0) 1 := eL_law_766
theorem iL_767 {nm : String} : Ix (mLn nm) 767 768 (.iload_n 3) 1 := eL_law_767
theorem iL_768 {nm : String} : Ix (mLn nm) 768 769 (.iconst 2) 1 := eL_law_768
theorem iL_769 {nm : String} : Ix (mLn nm) 769 770 .iadd 1 := eL_law_769
theorem iL_770 {nm : String} : Ix (mLn nm) 770 771 .iaload 1 := eL_law_770
theorem iL_771 {nm : String} : Ix (mLn nm) 771 772 (.aload_n 0) 1 := eL_law_771
theorem iL_772 {nm : String} : Ix (mLn nm) 772 773 (.iload_n 3) 1 := eL_law_772
theorem iL_773 {nm : String} : Ix (mLn nm) 773 774 (.iconst 3) 1 := eL_law_773
theorem iL_774 {nm : String} : Ix (mLn nm) 774 775 .iadd 1 := eL_law_774
theorem iL_775 {nm : String} : Ix (mLn nm) 775 776 .iaload 1 := eL_law_775
theorem iL_776 {nm : String} : Ix (mLn nm) 776 779 (.invokevirtual 95) 3 := eL_law_776
theorem iL_779 {nm : String} : Ix (mLn nm) 779 780 (.aload_n 2) 1 := eL_law_779
theorem iL_780 {nm : String} : Ix (mLn nm) 780 781 (.aload_n 0) 1 := eL_law_780
theorem iL_781 {nm : String} : Ix (mLn nm) 781 782 (.iload_n 3) 1 := eL_law_781
theorem iL_782 {nm : String} : Ix (mLn nm) 782 783 (.iconst 1) 1 := eL_law_782
theorem iL_783 {nm : String} : Ix (mLn nm) 783 784 .iadd 1 := eL_law_783
theorem iL_784 {nm : String} : Ix (mLn nm) 784 785 .iaload 1 := eL_law_784
theorem iL_785 {nm : String} : Ix (mLn nm) 785 786 (.aload_n 0) 1 := eL_law_785
theorem iL_786 {nm : String} : Ix (mLn nm) 786 787 (.iload_n 3) 1 := eL_law_786
theorem iL_787 {nm : String} : Ix (mLn nm) 787 788 (.iconst 2) 1 := eL_law_787
theorem iL_788 {nm : String} : Ix (mLn nm) 788 789 .iadd 1 := eL_law_788
theorem iL_789 {nm : String} : Ix (mLn nm) 789 790 .iaload 1 := eL_law_789
theorem iL_790 {nm : String} : Ix (mLn nm) 790 791 (.aload_n 0) 1 := eL_law_790
theorem iL_791 {nm : String} : Ix (mLn nm) 791 792 (.iload_n 3) 1 := eL_law_791
theorem iL_792 {nm : String} : Ix (mLn nm) 792 793 (.iconst 3) 1 := eL_law_792
theorem iL_793 {nm : String} : Ix (mLn nm) 793 794 .iadd 1 := eL_law_793
theorem iL_794 {nm : String} : Ix (mLn nm) 794 795 .iaload 1 := eL_law_794
theorem iL_795 {nm : String} : Ix (mLn nm) 795 798 (.invokevirtual 98) 3 := eL_law_795
theorem iL_798 {nm : String} : Bx (mLn nm) 798 801 1373 (.if_icmp .eq 575) 575 := eL_law_798
theorem iL_801 {nm : String} : Ix (mLn nm) 801 802 (.iconst 0) 1 := eL_law_801
theorem iL_802 {nm : String} : Ix (mLn nm) 802 803 .ireturn 1 := eL_law_802
theorem iL_803 {nm : String} : Ix (mLn nm) 803 804 (.aload_n 1) 1 := eL_law_803
theorem iL_804 {nm : String} : Ix (mLn nm) 804 805 (.aload_n 0) 1 := eL_law_804
theorem iL_805 {nm : String} : Ix (mLn nm) 805 806 (.iload_n 3) 1 := eL_law_805
theorem iL_806 {nm : String} : Ix (mLn nm) 806 807 (.iconst 1) 1 := eL_law_806
theorem iL_807 {nm : String} : Ix (mLn nm) 807 808 .iadd 1 := eL_law_807
theorem iL_808 {nm : String} : Ix (mLn nm) 808 809 .iaload 1 := eL_law_808
theorem iL_809 {nm : String} : Ix (mLn nm) 809 810 (.aload_n 0) 1 := eL_law_809
theorem iL_810 {nm : String} : Ix (mLn nm) 810 811 (.iload_n 3) 1 := eL_law_810
theorem iL_811 {nm : String} : Ix (mLn nm) 811 812 (.iconst 2) 1 := eL_law_811
theorem iL_812 {nm : String} : Ix (mLn nm) 812 813 .iadd 1 := eL_law_812
theorem iL_813 {nm : String} : Ix (mLn nm) 813 814 .iaload 1 := eL_law_813
theorem iL_814 {nm : String} : Ix (mLn nm) 814 815 (.aload_n 0) 1 := eL_law_814
theorem iL_815 {nm : String} : Ix (mLn nm) 815 816 (.iload_n 3) 1 := eL_law_815
theorem iL_816 {nm : String} : Ix (mLn nm) 816 817 (.iconst 3) 1 := eL_law_816
theorem iL_817 {nm : String} : Ix (mLn nm) 817 818 .iadd 1 := eL_law_817
theorem iL_818 {nm : String} : Ix (mLn nm) 818 819 .iaload 1 := eL_law_818
theorem iL_819 {nm : String} : Ix (mLn nm) 819 822 (.invokevirtual 99) 3 := eL_law_819
theorem iL_822 {nm : String} : Ix (mLn nm) 822 823 (.aload_n 2) 1 := eL_law_822
theorem iL_823 {nm : String} : Ix (mLn nm) 823 824 (.aload_n 0) 1 := eL_law_823
theorem iL_824 {nm : String} : Ix (mLn nm) 824 825 (.iload_n 3) 1 := eL_law_824
theorem iL_825 {nm : String} : Ix (mLn nm) 825 826 (.iconst 1) 1 := eL_law_825
theorem iL_826 {nm : String} : Ix (mLn nm) 826 827 .iadd 1 := eL_law_826
theorem iL_827 {nm : String} : Ix (mLn nm) 827 828 .iaload 1 := eL_law_827
theorem iL_828 {nm : String} : Ix (mLn nm) 828 829 (.aload_n 0) 1 := eL_law_828
theorem iL_829 {nm : String} : Ix (mLn nm) 829 830 (.iload_n 3) 1 := eL_law_829
theorem iL_830 {nm : String} : Ix (mLn nm) 830 831 (.iconst 2) 1 := eL_law_830
theorem iL_831 {nm : String} : Ix (mLn nm) 831 832 .iadd 1 := eL_law_831
theorem iL_832 {nm : String} : Ix (mLn nm) 832 833 .iaload 1 := eL_law_832
theorem iL_833 {nm : String} : Ix (mLn nm) 833 834 (.aload_n 0) 1 := eL_law_833
theorem iL_834 {nm : String} : Ix (mLn nm) 834 835 (.iload_n 3) 1 := eL_law_834
theorem iL_835 {nm : String} : Ix (mLn nm) 835 836 (.iconst 3) 1 := eL_law_835
theorem iL_836 {nm : String} : Ix (mLn nm) 836 837 .iadd 1 := eL_law_836
theorem iL_837 {nm : String} : Ix (mLn nm) 837 838 .iaload 1 := eL_law_837
theorem iL_838 {nm : String} : Ix (mLn nm) 838 841 (.invokevirtual 102) 3 := eL_law_838
theorem iL_841 {nm : String} : Bx (mLn nm) 841 844 1373 (.if_icmp .eq 532) 532 := eL_law_841
theorem iL_844 {nm : String} : Ix (mLn nm) 844 845 (.iconst 0) 1 := eL_law_844
theorem iL_845 {nm : String} : Ix (mLn nm) 845 846 .ireturn 1 := eL_law_845
theorem iL_846 {nm : String} : Ix (mLn nm) 846 847 (.aload_n 1) 1 := eL_law_846
theorem iL_847 {nm : String} : Ix (mLn nm) 847 848 (.aload_n 0) 1 := eL_law_847
theorem iL_848 {nm : String} : Ix (mLn nm) 848 849 (.iload_n 3) 1 := eL_law_848
theorem iL_849 {nm : String} : Ix (mLn nm) 849 850 (.iconst 1) 1 := eL_law_849
theorem iL_850 {nm : String} : Ix (mLn nm) 850 851 .iadd 1 := eL_law_850
theorem iL_851 {nm : String} : Ix (mLn nm) 851 852 .iaload 1 := eL_law_851
theorem iL_852 {nm : String} : Ix (mLn nm) 852 853 (.aload_n 0) 1 := eL_law_852
theorem iL_853 {nm : String} : Ix (mLn nm) 853 854 (.iload_n 3) 1 := eL_law_853
theorem iL_854 {nm : String} : Ix (mLn nm) 854 855 (.iconst 2) 1 := eL_law_854
theorem iL_855 {nm : String} : Ix (mLn nm) 855 856 .iadd 1 := eL_law_855
theorem iL_856 {nm : String} : Ix (mLn nm) 856 857 .iaload 1 := eL_law_856
theorem iL_857 {nm : String} : Ix (mLn nm) 857 858 (.aload_n 0) 1 := eL_law_857
theorem iL_858 {nm : String} : Ix (mLn nm) 858 859 (.iload_n 3) 1 := eL_law_858
theorem iL_859 {nm : String} : Ix (mLn nm) 859 860 (.iconst 3) 1 := eL_law_859
theorem iL_860 {nm : String} : Ix (mLn nm) 860 861 .iadd 1 := eL_law_860
theorem iL_861 {nm : String} : Ix (mLn nm) 861 862 .iaload 1 := eL_law_861
theorem iL_862 {nm : String} : Ix (mLn nm) 862 865 (.invokevirtual 103) 3 := eL_law_862
theorem iL_865 {nm : String} : Ix (mLn nm) 865 866 (.aload_n 2) 1 := eL_law_865
theorem iL_866 {nm : String} : Ix (mLn nm) 866 867 (.aload_n 0) 1 := eL_law_866
theorem iL_867 {nm : String} : Ix (mLn nm) 867 868 (.iload_n 3) 1 := eL_law_867
theorem iL_868 {nm : String} : Ix (mLn nm) 868 869 (.iconst 1) 1 := eL_law_868
theorem iL_869 {nm : String} : Ix (mLn nm) 869 870 .iadd 1 := eL_law_869
theorem iL_870 {nm : String} : Ix (mLn nm) 870 871 .iaload 1 := eL_law_870
theorem iL_871 {nm : String} : Ix (mLn nm) 871 872 (.aload_n 0) 1 := eL_law_871
theorem iL_872 {nm : String} : Ix (mLn nm) 872 873 (.iload_n 3) 1 := eL_law_872
theorem iL_873 {nm : String} : Ix (mLn nm) 873 874 (.iconst 2) 1 := eL_law_873
theorem iL_874 {nm : String} : Ix (mLn nm) 874 875 .iadd 1 := eL_law_874
theorem iL_875 {nm : String} : Ix (mLn nm) 875 876 .iaload 1 := eL_law_875
theorem iL_876 {nm : String} : Ix (mLn nm) 876 877 (.aload_n 0) 1 := eL_law_876
theorem iL_877 {nm : String} : Ix (mLn nm) 877 878 (.iload_n 3) 1 := eL_law_877
theorem iL_878 {nm : String} : Ix (mLn nm) 878 879 (.iconst 3) 1 := eL_law_878
theorem iL_879 {nm : String} : Ix (mLn nm) 879 880 .iadd 1 := eL_law_879
theorem iL_880 {nm : String} : Ix (mLn nm) 880 881 .iaload 1 := eL_law_880
theorem iL_881 {nm : String} : Ix (mLn nm) 881 884 (.invokevirtual 106) 3 := eL_law_881
theorem iL_884 {nm : String} : Bx (mLn nm) 884 887 1373 (.if_icmp .eq 489) 489 := eL_law_884
theorem iL_887 {nm : String} : Ix (mLn nm) 887 888 (.iconst 0) 1 := eL_law_887
theorem iL_888 {nm : String} : Ix (mLn nm) 888 889 .ireturn 1 := eL_law_888
theorem iL_889 {nm : String} : Ix (mLn nm) 889 890 (.aload_n 1) 1 := eL_law_889
theorem iL_890 {nm : String} : Ix (mLn nm) 890 891 (.aload_n 0) 1 := eL_law_890
theorem iL_891 {nm : String} : Ix (mLn nm) 891 892 (.iload_n 3) 1 := eL_law_891
theorem iL_892 {nm : String} : Ix (mLn nm) 892 893 (.iconst 1) 1 := eL_law_892
theorem iL_893 {nm : String} : Ix (mLn nm) 893 894 .iadd 1 := eL_law_893
theorem iL_894 {nm : String} : Ix (mLn nm) 894 895 .iaload 1 := eL_law_894
theorem iL_895 {nm : String} : Ix (mLn nm) 895 898 (.invokevirtual 107) 3 := eL_law_895
theorem iL_898 {nm : String} : Ix (mLn nm) 898 899 (.aload_n 2) 1 := eL_law_898
theorem iL_899 {nm : String} : Ix (mLn nm) 899 900 (.aload_n 0) 1 := eL_law_899
theorem iL_900 {nm : String} : Ix (mLn nm) 900 901 (.iload_n 3) 1 := eL_law_900
theorem iL_901 {nm : String} : Ix (mLn nm) 901 902 (.iconst 1) 1 := eL_law_901
theorem iL_902 {nm : String} : Ix (mLn nm) 902 903 .iadd 1 := eL_law_902
theorem iL_903 {nm : String} : Ix (mLn nm) 903 904 .iaload 1 := eL_law_903
theorem iL_904 {nm : String} : Ix (mLn nm) 904 907 (.invokevirtual 110) 3 := eL_law_904
theorem iL_907 {nm : String} : Bx (mLn nm) 907 910 1373 (.if_icmp .eq 466) 466 := eL_law_907
theorem iL_910 {nm : String} : Ix (mLn nm) 910 911 (.iconst 0) 1 := eL_law_910
theorem iL_911 {nm : String} : Ix (mLn nm) 911 912 .ireturn 1 := eL_law_911
theorem iL_912 {nm : String} : Ix (mLn nm) 912 913 (.aload_n 1) 1 := eL_law_912
theorem iL_913 {nm : String} : Ix (mLn nm) 913 914 (.aload_n 0) 1 := eL_law_913
theorem iL_914 {nm : String} : Ix (mLn nm) 914 915 (.iload_n 3) 1 := eL_law_914
theorem iL_915 {nm : String} : Ix (mLn nm) 915 916 (.iconst 1) 1 := eL_law_915
theorem iL_916 {nm : String} : Ix (mLn nm) 916 917 .iadd 1 := eL_law_916
theorem iL_917 {nm : String} : Ix (mLn nm) 917 918 .iaload 1 := eL_law_917
theorem iL_918 {nm : String} : Ix (mLn nm) 918 921 (.invokevirtual 111) 3 := eL_law_918
theorem iL_921 {nm : String} : Ix (mLn nm) 921 922 (.aload_n 2) 1 := eL_law_921
theorem iL_922 {nm : String} : Ix (mLn nm) 922 923 (.aload_n 0) 1 := eL_law_922
theorem iL_923 {nm : String} : Ix (mLn nm) 923 924 (.iload_n 3) 1 := eL_law_923
theorem iL_924 {nm : String} : Ix (mLn nm) 924 925 (.iconst 1) 1 := eL_law_924
theorem iL_925 {nm : String} : Ix (mLn nm) 925 926 .iadd 1 := eL_law_925
theorem iL_926 {nm : String} : Ix (mLn nm) 926 927 .iaload 1 := eL_law_926
theorem iL_927 {nm : String} : Ix (mLn nm) 927 930 (.invokevirtual 114) 3 := eL_law_927
theorem iL_930 {nm : String} : Bx (mLn nm) 930 933 1373 (.if_icmp .eq 443) 443 := eL_law_930
theorem iL_933 {nm : String} : Ix (mLn nm) 933 934 (.iconst 0) 1 := eL_law_933
theorem iL_934 {nm : String} : Ix (mLn nm) 934 935 .ireturn 1 := eL_law_934
theorem iL_935 {nm : String} : Ix (mLn nm) 935 936 (.aload_n 1) 1 := eL_law_935
theorem iL_936 {nm : String} : Ix (mLn nm) 936 939 (.invokevirtual 115) 3 := eL_law_936
theorem iL_939 {nm : String} : Ix (mLn nm) 939 940 (.aload_n 2) 1 := eL_law_939
theorem iL_940 {nm : String} : Ix (mLn nm) 940 943 (.invokevirtual 118) 3 := eL_law_940
theorem iL_943 {nm : String} : Bx (mLn nm) 943 946 1373 (.if_icmp .eq 430) 430 := eL_law_943
theorem iL_946 {nm : String} : Ix (mLn nm) 946 947 (.iconst 0) 1 := eL_law_946
theorem iL_947 {nm : String} : Ix (mLn nm) 947 948 .ireturn 1 := eL_law_947
theorem iL_948 {nm : String} : Ix (mLn nm) 948 949 (.aload_n 1) 1 := eL_law_948
theorem iL_949 {nm : String} : Ix (mLn nm) 949 950 (.aload_n 0) 1 := eL_law_949
theorem iL_950 {nm : String} : Ix (mLn nm) 950 951 (.iload_n 3) 1 := eL_law_950
theorem iL_951 {nm : String} : Ix (mLn nm) 951 952 (.iconst 1) 1 := eL_law_951
theorem iL_952 {nm : String} : Ix (mLn nm) 952 953 .iadd 1 := eL_law_952
theorem iL_953 {nm : String} : Ix (mLn nm) 953 954 .iaload 1 := eL_law_953
theorem iL_954 {nm : String} : Ix (mLn nm) 954 955 (.aload_n 0) 1 := eL_law_954
theorem iL_955 {nm : String} : Ix (mLn nm) 955 956 (.iload_n 3) 1 := eL_law_955
theorem iL_956 {nm : String} : Ix (mLn nm) 956 957 (.iconst 2) 1 := eL_law_956
theorem iL_957 {nm : String} : Ix (mLn nm) 957 958 .iadd 1 := eL_law_957
theorem iL_958 {nm : String} : Ix (mLn nm) 958 959 .iaload 1 := eL_law_958
theorem iL_959 {nm : String} : Ix (mLn nm) 959 960 (.aload_n 0) 1 := eL_law_959
theorem iL_960 {nm : String} : Ix (mLn nm) 960 961 (.iload_n 3) 1 := eL_law_960
theorem iL_961 {nm : String} : Ix (mLn nm) 961 962 (.iconst 3) 1 := eL_law_961
theorem iL_962 {nm : String} : Ix (mLn nm) 962 963 .iadd 1 := eL_law_962
theorem iL_963 {nm : String} : Ix (mLn nm) 963 964 .iaload 1 := eL_law_963
theorem iL_964 {nm : String} : Ix (mLn nm) 964 965 (.aload_n 0) 1 := eL_law_964
theorem iL_965 {nm : String} : Ix (mLn nm) 965 966 (.iload_n 3) 1 := eL_law_965
theorem iL_966 {nm : String} : Ix (mLn nm) 966 967 (.iconst 4) 1 := eL_law_966
theorem iL_967 {nm : String} : Ix (mLn nm) 967 968 .iadd 1 := eL_law_967
theorem iL_968 {nm : String} : Ix (mLn nm) 968 969 .iaload 1 := eL_law_968
theorem iL_969 {nm : String} : Ix (mLn nm) 969 972 (.invokevirtual 119) 3 := eL_law_969
theorem iL_972 {nm : String} : Ix (mLn nm) 972 973 (.aload_n 2) 1 := eL_law_972
theorem iL_973 {nm : String} : Ix (mLn nm) 973 974 (.aload_n 0) 1 := eL_law_973
theorem iL_974 {nm : String} : Ix (mLn nm) 974 975 (.iload_n 3) 1 := eL_law_974
theorem iL_975 {nm : String} : Ix (mLn nm) 975 976 (.iconst 1) 1 := eL_law_975
theorem iL_976 {nm : String} : Ix (mLn nm) 976 977 .iadd 1 := eL_law_976
theorem iL_977 {nm : String} : Ix (mLn nm) 977 978 .iaload 1 := eL_law_977
theorem iL_978 {nm : String} : Ix (mLn nm) 978 979 (.aload_n 0) 1 := eL_law_978
theorem iL_979 {nm : String} : Ix (mLn nm) 979 980 (.iload_n 3) 1 := eL_law_979
theorem iL_980 {nm : String} : Ix (mLn nm) 980 981 (.iconst 2) 1 := eL_law_980
theorem iL_981 {nm : String} : Ix (mLn nm) 981 982 .iadd 1 := eL_law_981
theorem iL_982 {nm : String} : Ix (mLn nm) 982 983 .iaload 1 := eL_law_982
theorem iL_983 {nm : String} : Ix (mLn nm) 983 984 (.aload_n 0) 1 := eL_law_983
theorem iL_984 {nm : String} : Ix (mLn nm) 984 985 (.iload_n 3) 1 := eL_law_984
theorem iL_985 {nm : String} : Ix (mLn nm) 985 986 (.iconst 3) 1 := eL_law_985
theorem iL_986 {nm : String} : Ix (mLn nm) 986 987 .iadd 1 := eL_law_986
theorem iL_987 {nm : String} : Ix (mLn nm) 987 988 .iaload 1 := eL_law_987
theorem iL_988 {nm : String} : Ix (mLn nm) 988 989 (.aload_n 0) 1 := eL_law_988
theorem iL_989 {nm : String} : Ix (mLn nm) 989 990 (.iload_n 3) 1 := eL_law_989
theorem iL_990 {nm : String} : Ix (mLn nm) 990 991 (.iconst 4) 1 := eL_law_990
theorem iL_991 {nm : String} : Ix (mLn nm) 991 992 .iadd 1 := eL_law_991
theorem iL_992 {nm : String} : Ix (mLn nm) 992 993 .iaload 1 := eL_law_992
theorem iL_993 {nm : String} : Ix (mLn nm) 993 996 (.invokevirtual 123) 3 := eL_law_993
theorem iL_996 {nm : String} : Ix (mLn nm) 996 997 .lcmp 1 := eL_law_996
theorem iL_997 {nm : String} : Bx (mLn nm) 997 1000 1373 (.ifCond .eq 376) 376 := eL_law_997
theorem iL_1000 {nm : String} : Ix (mLn nm) 1000 1001 (.iconst 0) 1 := eL_law_1000
theorem iL_1001 {nm : String} : Ix (mLn nm) 1001 1002 .ireturn 1 := eL_law_1001
theorem iL_1002 {nm : String} : Ix (mLn nm) 1002 1003 (.aload_n 1) 1 := eL_law_1002
theorem iL_1003 {nm : String} : Ix (mLn nm) 1003 1004 (.aload_n 0) 1 := eL_law_1003
theorem iL_1004 {nm : String} : Ix (mLn nm) 1004 1005 (.iload_n 3) 1 := eL_law_1004
theorem iL_1005 {nm : String} : Ix (mLn nm) 1005 1006 (.iconst 1) 1 := eL_law_1005
theorem iL_1006 {nm : String} : Ix (mLn nm) 1006 1007 .iadd 1 := eL_law_1006
theorem iL_1007 {nm : String} : Ix (mLn nm) 1007 1008 .iaload 1 := eL_law_1007
theorem iL_1008 {nm : String} : Ix (mLn nm) 1008 1009 (.aload_n 0) 1 := eL_law_1008
theorem iL_1009 {nm : String} : Ix (mLn nm) 1009 1010 (.iload_n 3) 1 := eL_law_1009
theorem iL_1010 {nm : String} : Ix (mLn nm) 1010 1011 (.iconst 2) 1 := eL_law_1010
theorem iL_1011 {nm : String} : Ix (mLn nm) 1011 1012 .iadd 1 := eL_law_1011
theorem iL_1012 {nm : String} : Ix (mLn nm) 1012 1013 .iaload 1 := eL_law_1012
theorem iL_1013 {nm : String} : Ix (mLn nm) 1013 1014 (.aload_n 0) 1 := eL_law_1013
theorem iL_1014 {nm : String} : Ix (mLn nm) 1014 1015 (.iload_n 3) 1 := eL_law_1014
theorem iL_1015 {nm : String} : Ix (mLn nm) 1015 1016 (.iconst 3) 1 := eL_law_1015
theorem iL_1016 {nm : String} : Ix (mLn nm) 1016 1017 .iadd 1 := eL_law_1016
theorem iL_1017 {nm : String} : Ix (mLn nm) 1017 1018 .iaload 1 := eL_law_1017
theorem iL_1018 {nm : String} : Ix (mLn nm) 1018 1021 (.invokevirtual 124) 3 := eL_law_1018
theorem iL_1021 {nm : String} : Ix (mLn nm) 1021 1022 (.aload_n 2) 1 := eL_law_1021
theorem iL_1022 {nm : String} : Ix (mLn nm) 1022 1023 (.aload_n 0) 1 := eL_law_1022
theorem iL_1023 {nm : String} : Ix (mLn nm) 1023 1024 (.iload_n 3) 1 := eL_law_1023
theorem iL_1024 {nm : String} : Ix (mLn nm) 1024 1025 (.iconst 1) 1 := eL_law_1024
theorem iL_1025 {nm : String} : Ix (mLn nm) 1025 1026 .iadd 1 := eL_law_1025
theorem iL_1026 {nm : String} : Ix (mLn nm) 1026 1027 .iaload 1 := eL_law_1026
theorem iL_1027 {nm : String} : Ix (mLn nm) 1027 1028 (.aload_n 0) 1 := eL_law_1027
theorem iL_1028 {nm : String} : Ix (mLn nm) 1028 1029 (.iload_n 3) 1 := eL_law_1028
theorem iL_1029 {nm : String} : Ix (mLn nm) 1029 1030 (.iconst 2) 1 := eL_law_1029
theorem iL_1030 {nm : String} : Ix (mLn nm) 1030 1031 .iadd 1 := eL_law_1030
theorem iL_1031 {nm : String} : Ix (mLn nm) 1031 1032 .iaload 1 := eL_law_1031
theorem iL_1032 {nm : String} : Ix (mLn nm) 1032 1033 (.aload_n 0) 1 := eL_law_1032
theorem iL_1033 {nm : String} : Ix (mLn nm) 1033 1034 (.iload_n 3) 1 := eL_law_1033
theorem iL_1034 {nm : String} : Ix (mLn nm) 1034 1035 (.iconst 3) 1 := eL_law_1034
theorem iL_1035 {nm : String} : Ix (mLn nm) 1035 1036 .iadd 1 := eL_law_1035
theorem iL_1036 {nm : String} : Ix (mLn nm) 1036 1037 .iaload 1 := eL_law_1036
theorem iL_1037 {nm : String} : Ix (mLn nm) 1037 1040 (.invokevirtual 127) 3 := eL_law_1037
theorem iL_1040 {nm : String} : Bx (mLn nm) 1040 1043 1373 (.if_icmp .eq 333) 333 := eL_law_1040
theorem iL_1043 {nm : String} : Ix (mLn nm) 1043 1044 (.iconst 0) 1 := eL_law_1043
theorem iL_1044 {nm : String} : Ix (mLn nm) 1044 1045 .ireturn 1 := eL_law_1044
theorem iL_1045 {nm : String} : Ix (mLn nm) 1045 1046 (.aload_n 1) 1 := eL_law_1045
theorem iL_1046 {nm : String} : Ix (mLn nm) 1046 1047 (.aload_n 0) 1 := eL_law_1046
theorem iL_1047 {nm : String} : Ix (mLn nm) 1047 1048 (.iload_n 3) 1 := eL_law_1047
theorem iL_1048 {nm : String} : Ix (mLn nm) 1048 1049 (.iconst 1) 1 := eL_law_1048
theorem iL_1049 {nm : String} : Ix (mLn nm) 1049 1050 .iadd 1 := eL_law_1049
theorem iL_1050 {nm : String} : Ix (mLn nm) 1050 1051 .iaload 1 := eL_law_1050
theorem iL_1051 {nm : String} : Ix (mLn nm) 1051 1052 (.aload_n 0) 1 := eL_law_1051
theorem iL_1052 {nm : String} : Ix (mLn nm) 1052 1053 (.iload_n 3) 1 := eL_law_1052
theorem iL_1053 {nm : String} : Ix (mLn nm) 1053 1054 (.iconst 2) 1 := eL_law_1053
theorem iL_1054 {nm : String} : Ix (mLn nm) 1054 1055 .iadd 1 := eL_law_1054
theorem iL_1055 {nm : String} : Ix (mLn nm) 1055 1056 .iaload 1 := eL_law_1055
theorem iL_1056 {nm : String} : Ix (mLn nm) 1056 1059 (.invokevirtual 128) 3 := eL_law_1056
theorem iL_1059 {nm : String} : Ix (mLn nm) 1059 1060 (.aload_n 2) 1 := eL_law_1059
theorem iL_1060 {nm : String} : Ix (mLn nm) 1060 1061 (.aload_n 0) 1 := eL_law_1060
theorem iL_1061 {nm : String} : Ix (mLn nm) 1061 1062 (.iload_n 3) 1 := eL_law_1061
theorem iL_1062 {nm : String} : Ix (mLn nm) 1062 1063 (.iconst 1) 1 := eL_law_1062
theorem iL_1063 {nm : String} : Ix (mLn nm) 1063 1064 .iadd 1 := eL_law_1063
theorem iL_1064 {nm : String} : Ix (mLn nm) 1064 1065 .iaload 1 := eL_law_1064
theorem iL_1065 {nm : String} : Ix (mLn nm) 1065 1066 (.aload_n 0) 1 := eL_law_1065
theorem iL_1066 {nm : String} : Ix (mLn nm) 1066 1067 (.iload_n 3) 1 := eL_law_1066
theorem iL_1067 {nm : String} : Ix (mLn nm) 1067 1068 (.iconst 2) 1 := eL_law_1067
theorem iL_1068 {nm : String} : Ix (mLn nm) 1068 1069 .iadd 1 := eL_law_1068
theorem iL_1069 {nm : String} : Ix (mLn nm) 1069 1070 .iaload 1 := eL_law_1069
theorem iL_1070 {nm : String} : Ix (mLn nm) 1070 1073 (.invokevirtual 131) 3 := eL_law_1070
theorem iL_1073 {nm : String} : Bx (mLn nm) 1073 1076 1373 (.if_icmp .eq 300) 300 := eL_law_1073
theorem iL_1076 {nm : String} : Ix (mLn nm) 1076 1077 (.iconst 0) 1 := eL_law_1076
theorem iL_1077 {nm : String} : Ix (mLn nm) 1077 1078 .ireturn 1 := eL_law_1077
theorem iL_1078 {nm : String} : Ix (mLn nm) 1078 1079 (.aload_n 1) 1 := eL_law_1078
theorem iL_1079 {nm : String} : Ix (mLn nm) 1079 1080 (.aload_n 0) 1 := eL_law_1079
theorem iL_1080 {nm : String} : Ix (mLn nm) 1080 1081 (.iload_n 3) 1 := eL_law_1080
theorem iL_1081 {nm : String} : Ix (mLn nm) 1081 1082 (.iconst 1) 1 := eL_law_1081
theorem iL_1082 {nm : String} : Ix (mLn nm) 1082 1083 .iadd 1 := eL_law_1082
theorem iL_1083 {nm : String} : Ix (mLn nm) 1083 1084 .iaload 1 := eL_law_1083
theorem iL_1084 {nm : String} : Ix (mLn nm) 1084 1085 (.aload_n 0) 1 := eL_law_1084
theorem iL_1085 {nm : String} : Ix (mLn nm) 1085 1086 (.iload_n 3) 1 := eL_law_1085
theorem iL_1086 {nm : String} : Ix (mLn nm) 1086 1087 (.iconst 2) 1 := eL_law_1086
theorem iL_1087 {nm : String} : Ix (mLn nm) 1087 1088 .iadd 1 := eL_law_1087
theorem iL_1088 {nm : String} : Ix (mLn nm) 1088 1089 .iaload 1 := eL_law_1088
theorem iL_1089 {nm : String} : Ix (mLn nm) 1089 1090 (.aload_n 0) 1 := eL_law_1089
theorem iL_1090 {nm : String} : Ix (mLn nm) 1090 1091 (.iload_n 3) 1 := eL_law_1090
theorem iL_1091 {nm : String} : Ix (mLn nm) 1091 1092 (.iconst 3) 1 := eL_law_1091
theorem iL_1092 {nm : String} : Ix (mLn nm) 1092 1093 .iadd 1 := eL_law_1092
theorem iL_1093 {nm : String} : Ix (mLn nm) 1093 1094 .iaload 1 := eL_law_1093
theorem iL_1094 {nm : String} : Ix (mLn nm) 1094 1097 (.invokevirtual 132) 3 := eL_law_1094
theorem iL_1097 {nm : String} : Ix (mLn nm) 1097 1098 (.aload_n 2) 1 := eL_law_1097
theorem iL_1098 {nm : String} : Ix (mLn nm) 1098 1099 (.aload_n 0) 1 := eL_law_1098
theorem iL_1099 {nm : String} : Ix (mLn nm) 1099 1100 (.iload_n 3) 1 := eL_law_1099
theorem iL_1100 {nm : String} : Ix (mLn nm) 1100 1101 (.iconst 1) 1 := eL_law_1100
theorem iL_1101 {nm : String} : Ix (mLn nm) 1101 1102 .iadd 1 := eL_law_1101
theorem iL_1102 {nm : String} : Ix (mLn nm) 1102 1103 .iaload 1 := eL_law_1102
theorem iL_1103 {nm : String} : Ix (mLn nm) 1103 1104 (.aload_n 0) 1 := eL_law_1103
theorem iL_1104 {nm : String} : Ix (mLn nm) 1104 1105 (.iload_n 3) 1 := eL_law_1104
theorem iL_1105 {nm : String} : Ix (mLn nm) 1105 1106 (.iconst 2) 1 := eL_law_1105
theorem iL_1106 {nm : String} : Ix (mLn nm) 1106 1107 .iadd 1 := eL_law_1106
theorem iL_1107 {nm : String} : Ix (mLn nm) 1107 1108 .iaload 1 := eL_law_1107
theorem iL_1108 {nm : String} : Ix (mLn nm) 1108 1109 (.aload_n 0) 1 := eL_law_1108
theorem iL_1109 {nm : String} : Ix (mLn nm) 1109 1110 (.iload_n 3) 1 := eL_law_1109
theorem iL_1110 {nm : String} : Ix (mLn nm) 1110 1111 (.iconst 3) 1 := eL_law_1110
theorem iL_1111 {nm : String} : Ix (mLn nm) 1111 1112 .iadd 1 := eL_law_1111
theorem iL_1112 {nm : String} : Ix (mLn nm) 1112 1113 .iaload 1 := eL_law_1112
theorem iL_1113 {nm : String} : Ix (mLn nm) 1113 1116 (.invokevirtual 135) 3 := eL_law_1113
theorem iL_1116 {nm : String} : Bx (mLn nm) 1116 1119 1373 (.if_icmp .eq 257) 257 := eL_law_1116
theorem iL_1119 {nm : String} : Ix (mLn nm) 1119 1120 (.iconst 0) 1 := eL_law_1119
theorem iL_1120 {nm : String} : Ix (mLn nm) 1120 1121 .ireturn 1 := eL_law_1120
theorem iL_1121 {nm : String} : Ix (mLn nm) 1121 1122 (.aload_n 1) 1 := eL_law_1121
theorem iL_1122 {nm : String} : Ix (mLn nm) 1122 1123 (.aload_n 0) 1 := eL_law_1122
theorem iL_1123 {nm : String} : Ix (mLn nm) 1123 1124 (.iload_n 3) 1 := eL_law_1123
theorem iL_1124 {nm : String} : Ix (mLn nm) 1124 1125 (.iconst 1) 1 := eL_law_1124
theorem iL_1125 {nm : String} : Ix (mLn nm) 1125 1126 .iadd 1 := eL_law_1125
theorem iL_1126 {nm : String} : Ix (mLn nm) 1126 1127 .iaload 1 := eL_law_1126
theorem iL_1127 {nm : String} : Ix (mLn nm) 1127 1130 (.invokevirtual 136) 3 := eL_law_1127
theorem iL_1130 {nm : String} : Ix (mLn nm) 1130 1131 (.aload_n 2) 1 := eL_law_1130
theorem iL_1131 {nm : String} : Ix (mLn nm) 1131 1132 (.aload_n 0) 1 := eL_law_1131
theorem iL_1132 {nm : String} : Ix (mLn nm) 1132 1133 (.iload_n 3) 1 := eL_law_1132
theorem iL_1133 {nm : String} : Ix (mLn nm) 1133 1134 (.iconst 1) 1 := eL_law_1133
theorem iL_1134 {nm : String} : Ix (mLn nm) 1134 1135 .iadd 1 := eL_law_1134
theorem iL_1135 {nm : String} : Ix (mLn nm) 1135 1136 .iaload 1 := eL_law_1135
theorem iL_1136 {nm : String} : Ix (mLn nm) 1136 1139 (.invokevirtual 139) 3 := eL_law_1136
theorem iL_1139 {nm : String} : Bx (mLn nm) 1139 1142 1373 (.if_icmp .eq 234) 234 := eL_law_1139
theorem iL_1142 {nm : String} : Ix (mLn nm) 1142 1143 (.iconst 0) 1 := eL_law_1142
theorem iL_1143 {nm : String} : Ix (mLn nm) 1143 1144 .ireturn 1 := eL_law_1143
theorem iL_1144 {nm : String} : Ix (mLn nm) 1144 1145 (.aload_n 1) 1 := eL_law_1144
theorem iL_1145 {nm : String} : Ix (mLn nm) 1145 1146 (.aload_n 0) 1 := eL_law_1145
theorem iL_1146 {nm : String} : Ix (mLn nm) 1146 1147 (.iload_n 3) 1 := eL_law_1146
theorem iL_1147 {nm : String} : Ix (mLn nm) 1147 1148 (.iconst 1) 1 := eL_law_1147
theorem iL_1148 {nm : String} : Ix (mLn nm) 1148 1149 .iadd 1 := eL_law_1148
theorem iL_1149 {nm : String} : Ix (mLn nm) 1149 1150 .iaload 1 := eL_law_1149
theorem iL_1150 {nm : String} : Ix (mLn nm) 1150 1151 (.aload_n 0) 1 := eL_law_1150
theorem iL_1151 {nm : String} : Ix (mLn nm) 1151 1152 (.iload_n 3) 1 := eL_law_1151
theorem iL_1152 {nm : String} : Ix (mLn nm) 1152 1153 (.iconst 2) 1 := eL_law_1152
theorem iL_1153 {nm : String} : Ix (mLn nm) 1153 1154 .iadd 1 := eL_law_1153
theorem iL_1154 {nm : String} : Ix (mLn nm) 1154 1155 .iaload 1 := eL_law_1154
theorem iL_1155 {nm : String} : Ix (mLn nm) 1155 1156 (.aload_n 0) 1 := eL_law_1155
theorem iL_1156 {nm : String} : Ix (mLn nm) 1156 1157 (.iload_n 3) 1 := eL_law_1156
theorem iL_1157 {nm : String} : Ix (mLn nm) 1157 1158 (.iconst 3) 1 := eL_law_1157
theorem iL_1158 {nm : String} : Ix (mLn nm) 1158 1159 .iadd 1 := eL_law_1158
theorem iL_1159 {nm : String} : Ix (mLn nm) 1159 1160 .iaload 1 := eL_law_1159
theorem iL_1160 {nm : String} : Ix (mLn nm) 1160 1161 (.aload_n 0) 1 := eL_law_1160
theorem iL_1161 {nm : String} : Ix (mLn nm) 1161 1162 (.iload_n 3) 1 := eL_law_1161
theorem iL_1162 {nm : String} : Ix (mLn nm) 1162 1163 (.iconst 4) 1 := eL_law_1162
theorem iL_1163 {nm : String} : Ix (mLn nm) 1163 1164 .iadd 1 := eL_law_1163
theorem iL_1164 {nm : String} : Ix (mLn nm) 1164 1165 .iaload 1 := eL_law_1164
theorem iL_1165 {nm : String} : Ix (mLn nm) 1165 1168 (.invokevirtual 140) 3 := eL_law_1165
theorem iL_1168 {nm : String} : Ix (mLn nm) 1168 1169 (.aload_n 2) 1 := eL_law_1168
theorem iL_1169 {nm : String} : Ix (mLn nm) 1169 1170 (.aload_n 0) 1 := eL_law_1169
theorem iL_1170 {nm : String} : Ix (mLn nm) 1170 1171 (.iload_n 3) 1 := eL_law_1170
theorem iL_1171 {nm : String} : Ix (mLn nm) 1171 1172 (.iconst 1) 1 := eL_law_1171
theorem iL_1172 {nm : String} : Ix (mLn nm) 1172 1173 .iadd 1 := eL_law_1172
theorem iL_1173 {nm : String} : Ix (mLn nm) 1173 1174 .iaload 1 := eL_law_1173
theorem iL_1174 {nm : String} : Ix (mLn nm) 1174 1175 (.aload_n 0) 1 := eL_law_1174
theorem iL_1175 {nm : String} : Ix (mLn nm) 1175 1176 (.iload_n 3) 1 := eL_law_1175
theorem iL_1176 {nm : String} : Ix (mLn nm) 1176 1177 (.iconst 2) 1 := eL_law_1176
theorem iL_1177 {nm : String} : Ix (mLn nm) 1177 1178 .iadd 1 := eL_law_1177
theorem iL_1178 {nm : String} : Ix (mLn nm) 1178 1179 .iaload 1 := eL_law_1178
theorem iL_1179 {nm : String} : Ix (mLn nm) 1179 1180 (.aload_n 0) 1 := eL_law_1179
theorem iL_1180 {nm : String} : Ix (mLn nm) 1180 1181 (.iload_n 3) 1 := eL_law_1180
theorem iL_1181 {nm : String} : Ix (mLn nm) 1181 1182 (.iconst 3) 1 := eL_law_1181
theorem iL_1182 {nm : String} : Ix (mLn nm) 1182 1183 .iadd 1 := eL_law_1182
theorem iL_1183 {nm : String} : Ix (mLn nm) 1183 1184 .iaload 1 := eL_law_1183
theorem iL_1184 {nm : String} : Ix (mLn nm) 1184 1185 (.aload_n 0) 1 := eL_law_1184
theorem iL_1185 {nm : String} : Ix (mLn nm) 1185 1186 (.iload_n 3) 1 := eL_law_1185
theorem iL_1186 {nm : String} : Ix (mLn nm) 1186 1187 (.iconst 4) 1 := eL_law_1186
theorem iL_1187 {nm : String} : Ix (mLn nm) 1187 1188 .iadd 1 := eL_law_1187
theorem iL_1188 {nm : String} : Ix (mLn nm) 1188 1189 .iaload 1 := eL_law_1188
theorem iL_1189 {nm : String} : Ix (mLn nm) 1189 1192 (.invokevirtual 143) 3 := eL_law_1189
theorem iL_1192 {nm : String} : Bx (mLn nm) 1192 1195 1373 (.if_icmp .eq 181) 181 := eL_law_1192
theorem iL_1195 {nm : String} : Ix (mLn nm) 1195 1196 (.iconst 0) 1 := eL_law_1195
theorem iL_1196 {nm : String} : Ix (mLn nm) 1196 1197 .ireturn 1 := eL_law_1196
theorem iL_1197 {nm : String} : Ix (mLn nm) 1197 1198 (.aload_n 1) 1 := eL_law_1197
theorem iL_1198 {nm : String} : Ix (mLn nm) 1198 1199 (.aload_n 0) 1 := eL_law_1198
theorem iL_1199 {nm : String} : Ix (mLn nm) 1199 1200 (.iload_n 3) 1 := eL_law_1199
theorem iL_1200 {nm : String} : Ix (mLn nm) 1200 1201 (.iconst 1) 1 := eL_law_1200
theorem iL_1201 {nm : String} : Ix (mLn nm) 1201 1202 .iadd 1 := eL_law_1201
theorem iL_1202 {nm : String} : Ix (mLn nm) 1202 1203 .iaload 1 := eL_law_1202
theorem iL_1203 {nm : String} : Ix (mLn nm) 1203 1204 (.aload_n 0) 1 := eL_law_1203
theorem iL_1204 {nm : String} : Ix (mLn nm) 1204 1205 (.iload_n 3) 1 := eL_law_1204
theorem iL_1205 {nm : String} : Ix (mLn nm) 1205 1206 (.iconst 2) 1 := eL_law_1205
theorem iL_1206 {nm : String} : Ix (mLn nm) 1206 1207 .iadd 1 := eL_law_1206
theorem iL_1207 {nm : String} : Ix (mLn nm) 1207 1208 .iaload 1 := eL_law_1207
theorem iL_1208 {nm : String} : Ix (mLn nm) 1208 1209 (.aload_n 0) 1 := eL_law_1208
theorem iL_1209 {nm : String} : Ix (mLn nm) 1209 1210 (.iload_n 3) 1 := eL_law_1209
theorem iL_1210 {nm : String} : Ix (mLn nm) 1210 1211 (.iconst 3) 1 := eL_law_1210
theorem iL_1211 {nm : String} : Ix (mLn nm) 1211 1212 .iadd 1 := eL_law_1211
theorem iL_1212 {nm : String} : Ix (mLn nm) 1212 1213 .iaload 1 := eL_law_1212
theorem iL_1213 {nm : String} : Ix (mLn nm) 1213 1216 (.invokevirtual 144) 3 := eL_law_1213
theorem iL_1216 {nm : String} : Ix (mLn nm) 1216 1217 (.aload_n 2) 1 := eL_law_1216
theorem iL_1217 {nm : String} : Ix (mLn nm) 1217 1218 (.aload_n 0) 1 := eL_law_1217
theorem iL_1218 {nm : String} : Ix (mLn nm) 1218 1219 (.iload_n 3) 1 := eL_law_1218
theorem iL_1219 {nm : String} : Ix (mLn nm) 1219 1220 (.iconst 1) 1 := eL_law_1219
theorem iL_1220 {nm : String} : Ix (mLn nm) 1220 1221 .iadd 1 := eL_law_1220
theorem iL_1221 {nm : String} : Ix (mLn nm) 1221 1222 .iaload 1 := eL_law_1221
theorem iL_1222 {nm : String} : Ix (mLn nm) 1222 1223 (.aload_n 0) 1 := eL_law_1222
theorem iL_1223 {nm : String} : Ix (mLn nm) 1223 1224 (.iload_n 3) 1 := eL_law_1223
theorem iL_1224 {nm : String} : Ix (mLn nm) 1224 1225 (.iconst 2) 1 := eL_law_1224
theorem iL_1225 {nm : String} : Ix (mLn nm) 1225 1226 .iadd 1 := eL_law_1225
theorem iL_1226 {nm : String} : Ix (mLn nm) 1226 1227 .iaload 1 := eL_law_1226
theorem iL_1227 {nm : String} : Ix (mLn nm) 1227 1228 (.aload_n 0) 1 := eL_law_1227
theorem iL_1228 {nm : String} : Ix (mLn nm) 1228 1229 (.iload_n 3) 1 := eL_law_1228
theorem iL_1229 {nm : String} : Ix (mLn nm) 1229 1230 (.iconst 3) 1 := eL_law_1229
theorem iL_1230 {nm : String} : Ix (mLn nm) 1230 1231 .iadd 1 := eL_law_1230
theorem iL_1231 {nm : String} : Ix (mLn nm) 1231 1232 .iaload 1 := eL_law_1231
theorem iL_1232 {nm : String} : Ix (mLn nm) 1232 1235 (.invokevirtual 147) 3 := eL_law_1232
theorem iL_1235 {nm : String} : Bx (mLn nm) 1235 1238 1373 (.if_icmp .eq 138) 138 := eL_law_1235
theorem iL_1238 {nm : String} : Ix (mLn nm) 1238 1239 (.iconst 0) 1 := eL_law_1238
theorem iL_1239 {nm : String} : Ix (mLn nm) 1239 1240 .ireturn 1 := eL_law_1239
theorem iL_1240 {nm : String} : Ix (mLn nm) 1240 1241 (.aload_n 1) 1 := eL_law_1240
theorem iL_1241 {nm : String} : Ix (mLn nm) 1241 1242 (.aload_n 0) 1 := eL_law_1241
theorem iL_1242 {nm : String} : Ix (mLn nm) 1242 1243 (.iload_n 3) 1 := eL_law_1242
theorem iL_1243 {nm : String} : Ix (mLn nm) 1243 1244 (.iconst 1) 1 := eL_law_1243
theorem iL_1244 {nm : String} : Ix (mLn nm) 1244 1245 .iadd 1 := eL_law_1244
theorem iL_1245 {nm : String} : Ix (mLn nm) 1245 1246 .iaload 1 := eL_law_1245
theorem iL_1246 {nm : String} : Ix (mLn nm) 1246 1247 (.aload_n 0) 1 := eL_law_1246
theorem iL_1247 {nm : String} : Ix (mLn nm) 1247 1248 (.iload_n 3) 1 := eL_law_1247
theorem iL_1248 {nm : String} : Ix (mLn nm) 1248 1249 (.iconst 2) 1 := eL_law_1248
theorem iL_1249 {nm : String} : Ix (mLn nm) 1249 1250 .iadd 1 := eL_law_1249
theorem iL_1250 {nm : String} : Ix (mLn nm) 1250 1251 .iaload 1 := eL_law_1250
theorem iL_1251 {nm : String} : Ix (mLn nm) 1251 1252 (.aload_n 0) 1 := eL_law_1251
theorem iL_1252 {nm : String} : Ix (mLn nm) 1252 1253 (.iload_n 3) 1 := eL_law_1252
theorem iL_1253 {nm : String} : Ix (mLn nm) 1253 1254 (.iconst 3) 1 := eL_law_1253
theorem iL_1254 {nm : String} : Ix (mLn nm) 1254 1255 .iadd 1 := eL_law_1254
theorem iL_1255 {nm : String} : Ix (mLn nm) 1255 1256 .iaload 1 := eL_law_1255
theorem iL_1256 {nm : String} : Ix (mLn nm) 1256 1257 (.aload_n 0) 1 := eL_law_1256
theorem iL_1257 {nm : String} : Ix (mLn nm) 1257 1258 (.iload_n 3) 1 := eL_law_1257
theorem iL_1258 {nm : String} : Ix (mLn nm) 1258 1259 (.iconst 4) 1 := eL_law_1258
theorem iL_1259 {nm : String} : Ix (mLn nm) 1259 1260 .iadd 1 := eL_law_1259
theorem iL_1260 {nm : String} : Ix (mLn nm) 1260 1261 .iaload 1 := eL_law_1260
theorem iL_1261 {nm : String} : Ix (mLn nm) 1261 1262 (.aload_n 0) 1 := eL_law_1261
theorem iL_1262 {nm : String} : Ix (mLn nm) 1262 1263 (.iload_n 3) 1 := eL_law_1262
theorem iL_1263 {nm : String} : Ix (mLn nm) 1263 1264 (.iconst 5) 1 := eL_law_1263
theorem iL_1264 {nm : String} : Ix (mLn nm) 1264 1265 .iadd 1 := eL_law_1264
theorem iL_1265 {nm : String} : Ix (mLn nm) 1265 1266 .iaload 1 := eL_law_1265
theorem iL_1266 {nm : String} : Ix (mLn nm) 1266 1269 (.invokevirtual 148) 3 := eL_law_1266
theorem iL_1269 {nm : String} : Ix (mLn nm) 1269 1270 (.aload_n 2) 1 := eL_law_1269
theorem iL_1270 {nm : String} : Ix (mLn nm) 1270 1271 (.aload_n 0) 1 := eL_law_1270
theorem iL_1271 {nm : String} : Ix (mLn nm) 1271 1272 (.iload_n 3) 1 := eL_law_1271
theorem iL_1272 {nm : String} : Ix (mLn nm) 1272 1273 (.iconst 1) 1 := eL_law_1272
theorem iL_1273 {nm : String} : Ix (mLn nm) 1273 1274 .iadd 1 := eL_law_1273
theorem iL_1274 {nm : String} : Ix (mLn nm) 1274 1275 .iaload 1 := eL_law_1274
theorem iL_1275 {nm : String} : Ix (mLn nm) 1275 1276 (.aload_n 0) 1 := eL_law_1275
theorem iL_1276 {nm : String} : Ix (mLn nm) 1276 1277 (.iload_n 3) 1 := eL_law_1276
theorem iL_1277 {nm : String} : Ix (mLn nm) 1277 1278 (.iconst 2) 1 := eL_law_1277
theorem iL_1278 {nm : String} : Ix (mLn nm) 1278 1279 .iadd 1 := eL_law_1278
theorem iL_1279 {nm : String} : Ix (mLn nm) 1279 1280 .iaload 1 := eL_law_1279
theorem iL_1280 {nm : String} : Ix (mLn nm) 1280 1281 (.aload_n 0) 1 := eL_law_1280
theorem iL_1281 {nm : String} : Ix (mLn nm) 1281 1282 (.iload_n 3) 1 := eL_law_1281
theorem iL_1282 {nm : String} : Ix (mLn nm) 1282 1283 (.iconst 3) 1 := eL_law_1282
theorem iL_1283 {nm : String} : Ix (mLn nm) 1283 1284 .iadd 1 := eL_law_1283
theorem iL_1284 {nm : String} : Ix (mLn nm) 1284 1285 .iaload 1 := eL_law_1284
theorem iL_1285 {nm : String} : Ix (mLn nm) 1285 1286 (.aload_n 0) 1 := eL_law_1285
theorem iL_1286 {nm : String} : Ix (mLn nm) 1286 1287 (.iload_n 3) 1 := eL_law_1286
theorem iL_1287 {nm : String} : Ix (mLn nm) 1287 1288 (.iconst 4) 1 := eL_law_1287
theorem iL_1288 {nm : String} : Ix (mLn nm) 1288 1289 .iadd 1 := eL_law_1288
theorem iL_1289 {nm : String} : Ix (mLn nm) 1289 1290 .iaload 1 := eL_law_1289
theorem iL_1290 {nm : String} : Ix (mLn nm) 1290 1291 (.aload_n 0) 1 := eL_law_1290
theorem iL_1291 {nm : String} : Ix (mLn nm) 1291 1292 (.iload_n 3) 1 := eL_law_1291
theorem iL_1292 {nm : String} : Ix (mLn nm) 1292 1293 (.iconst 5) 1 := eL_law_1292
theorem iL_1293 {nm : String} : Ix (mLn nm) 1293 1294 .iadd 1 := eL_law_1293
theorem iL_1294 {nm : String} : Ix (mLn nm) 1294 1295 .iaload 1 := eL_law_1294
theorem iL_1295 {nm : String} : Ix (mLn nm) 1295 1298 (.invokevirtual 152) 3 := eL_law_1295
theorem iL_1298 {nm : String} : Bx (mLn nm) 1298 1301 1373 (.if_icmp .eq 75) 75 := eL_law_1298
theorem iL_1301 {nm : String} : Ix (mLn nm) 1301 1302 (.iconst 0) 1 := eL_law_1301
theorem iL_1302 {nm : String} : Ix (mLn nm) 1302 1303 .ireturn 1 := eL_law_1302
theorem iL_1303 {nm : String} : Ix (mLn nm) 1303 1304 (.aload_n 1) 1 := eL_law_1303
theorem iL_1304 {nm : String} : Ix (mLn nm) 1304 1305 (.aload_n 0) 1 := eL_law_1304
theorem iL_1305 {nm : String} : Ix (mLn nm) 1305 1306 (.iload_n 3) 1 := eL_law_1305
theorem iL_1306 {nm : String} : Ix (mLn nm) 1306 1307 (.iconst 1) 1 := eL_law_1306
theorem iL_1307 {nm : String} : Ix (mLn nm) 1307 1308 .iadd 1 := eL_law_1307
theorem iL_1308 {nm : String} : Ix (mLn nm) 1308 1309 .iaload 1 := eL_law_1308
theorem iL_1309 {nm : String} : Ix (mLn nm) 1309 1310 (.aload_n 0) 1 := eL_law_1309
theorem iL_1310 {nm : String} : Ix (mLn nm) 1310 1311 (.iload_n 3) 1 := eL_law_1310
theorem iL_1311 {nm : String} : Ix (mLn nm) 1311 1312 (.iconst 2) 1 := eL_law_1311
theorem iL_1312 {nm : String} : Ix (mLn nm) 1312 1313 .iadd 1 := eL_law_1312
theorem iL_1313 {nm : String} : Ix (mLn nm) 1313 1314 .iaload 1 := eL_law_1313
theorem iL_1314 {nm : String} : Ix (mLn nm) 1314 1317 (.invokevirtual 153) 3 := eL_law_1314
theorem iL_1317 {nm : String} : Ix (mLn nm) 1317 1318 (.aload_n 2) 1 := eL_law_1317
theorem iL_1318 {nm : String} : Ix (mLn nm) 1318 1319 (.aload_n 0) 1 := eL_law_1318
theorem iL_1319 {nm : String} : Ix (mLn nm) 1319 1320 (.iload_n 3) 1 := eL_law_1319
theorem iL_1320 {nm : String} : Ix (mLn nm) 1320 1321 (.iconst 1) 1 := eL_law_1320
theorem iL_1321 {nm : String} : Ix (mLn nm) 1321 1322 .iadd 1 := eL_law_1321
theorem iL_1322 {nm : String} : Ix (mLn nm) 1322 1323 .iaload 1 := eL_law_1322
theorem iL_1323 {nm : String} : Ix (mLn nm) 1323 1324 (.aload_n 0) 1 := eL_law_1323
theorem iL_1324 {nm : String} : Ix (mLn nm) 1324 1325 (.iload_n 3) 1 := eL_law_1324
theorem iL_1325 {nm : String} : Ix (mLn nm) 1325 1326 (.iconst 2) 1 := eL_law_1325
theorem iL_1326 {nm : String} : Ix (mLn nm) 1326 1327 .iadd 1 := eL_law_1326
theorem iL_1327 {nm : String} : Ix (mLn nm) 1327 1328 .iaload 1 := eL_law_1327
theorem iL_1328 {nm : String} : Ix (mLn nm) 1328 1331 (.invokevirtual 156) 3 := eL_law_1328
theorem iL_1331 {nm : String} : Bx (mLn nm) 1331 1334 1373 (.if_icmp .eq 42) 42 := eL_law_1331
theorem iL_1334 {nm : String} : Ix (mLn nm) 1334 1335 (.iconst 0) 1 := eL_law_1334
theorem iL_1335 {nm : String} : Ix (mLn nm) 1335 1336 .ireturn 1 := eL_law_1335
theorem iL_1336 {nm : String} : Ix (mLn nm) 1336 1337 (.aload_n 1) 1 := eL_law_1336
theorem iL_1337 {nm : String} : Ix (mLn nm) 1337 1338 (.aload_n 0) 1 := eL_law_1337
theorem iL_1338 {nm : String} : Ix (mLn nm) 1338 1339 (.iload_n 3) 1 := eL_law_1338
theorem iL_1339 {nm : String} : Ix (mLn nm) 1339 1340 (.iconst 1) 1 := eL_law_1339
theorem iL_1340 {nm : String} : Ix (mLn nm) 1340 1341 .iadd 1 := eL_law_1340
theorem iL_1341 {nm : String} : Ix (mLn nm) 1341 1342 .iaload 1 := eL_law_1341
theorem iL_1342 {nm : String} : Ix (mLn nm) 1342 1345 (.invokevirtual 157) 3 := eL_law_1342
theorem iL_1345 {nm : String} : Ix (mLn nm) 1345 1346 (.aload_n 2) 1 := eL_law_1345
theorem iL_1346 {nm : String} : Ix (mLn nm) 1346 1347 (.aload_n 0) 1 := eL_law_1346
theorem iL_1347 {nm : String} : Ix (mLn nm) 1347 1348 (.iload_n 3) 1 := eL_law_1347
theorem iL_1348 {nm : String} : Ix (mLn nm) 1348 1349 (.iconst 1) 1 := eL_law_1348
theorem iL_1349 {nm : String} : Ix (mLn nm) 1349 1350 .iadd 1 := eL_law_1349
theorem iL_1350 {nm : String} : Ix (mLn nm) 1350 1351 .iaload 1 := eL_law_1350
theorem iL_1351 {nm : String} : Ix (mLn nm) 1351 1354 (.invokevirtual 160) 3 := eL_law_1351
theorem iL_1354 {nm : String} : Bx (mLn nm) 1354 1357 1373 (.if_icmp .eq 19) 19 := eL_law_1354
theorem iL_1357 {nm : String} : Ix (mLn nm) 1357 1358 (.iconst 0) 1 := eL_law_1357
theorem iL_1358 {nm : String} : Ix (mLn nm) 1358 1359 .ireturn 1 := eL_law_1358
theorem iL_1359 {nm : String} : Ix (mLn nm) 1359 1360 (.aload_n 1) 1 := eL_law_1359
theorem iL_1360 {nm : String} : Ix (mLn nm) 1360 1363 (.invokevirtual 161) 3 := eL_law_1360
theorem iL_1363 {nm : String} : Ix (mLn nm) 1363 1364 (.aload_n 2) 1 := eL_law_1363
theorem iL_1364 {nm : String} : Ix (mLn nm) 1364 1367 (.invokevirtual 165) 3 := eL_law_1364
theorem iL_1367 {nm : String} : Ix (mLn nm) 1367 1368 .lcmp 1 := eL_law_1367
theorem iL_1368 {nm : String} : Bx (mLn nm) 1368 1371 1373 (.ifCond .eq 5) 5 := eL_law_1368
theorem iL_1371 {nm : String} : Ix (mLn nm) 1371 1372 (.iconst 0) 1 := eL_law_1371
theorem iL_1372 {nm : String} : Ix (mLn nm) 1372 1373 .ireturn 1 := eL_law_1372
theorem iL_1373 {nm : String} : Ix (mLn nm) 1373 1376 (.iinc 3 6) 3 := eL_law_1373
theorem iL_1376 {nm : String} : Bx (mLn nm) 1376 1379 18 (.goto (-1358)) (-1358) := eL_law_1376
theorem iL_1379 {nm : String} : Ix (mLn nm) 1379 1380 (.iconst 1) 1 := eL_law_1379
theorem iL_1380 {nm : String} : Ix (mLn nm) 1380 1381 .ireturn 1 := eL_law_1380
set_option maxRecDepth 100000 in
set_option maxHeartbeats 4000000 in
theorem lc_0 {G : GW} {nm : String} {i : Nat} {x : XS} {σ : St} (hL : (gX G).2.1 ≤ 3072) (hi : i + 6 ≤ (gX G).2.1) (hC : CI x σ) (hM : MI x σ) (kk : ∀ (x' : XS) (τ : St), CI x' τ → MI x' τ → LB G nm 1373 i [] τ) : LB G nm 192 i [] σ := by
  refine A.al1 iL_192 ?_
  refine A.alS iL_193 ?_
  refine A.il3 iL_194 ?_
  refine A.iconst (v := nI 1) iL_195 (by decide) ?_
  refine A.iaddN iL_196 ?_
  refine A.sld iL_197 (by omega) hL ?_
  refine A.alS iL_198 ?_
  refine A.il3 iL_199 ?_
  refine A.iconst (v := nI 2) iL_200 (by decide) ?_
  refine A.iaddN iL_201 ?_
  refine A.sld iL_202 (by omega) hL ?_
  refine A.cVi2 iL_203 oX4_type kL_13 ko0 (aX4_type hC (fun τ1 yC yF => ?_))
  refine A.al2 iL_206 ?_
  refine A.alS iL_207 ?_
  refine A.il3 iL_208 ?_
  refine A.iconst (v := nI 1) iL_209 (by decide) ?_
  refine A.iaddN iL_210 ?_
  refine A.sld iL_211 (by omega) hL ?_
  refine A.alS iL_212 ?_
  refine A.il3 iL_213 ?_
  refine A.iconst (v := nI 2) iL_214 (by decide) ?_
  refine A.iaddN iL_215 ?_
  refine A.sld iL_216 (by omega) hL ?_
  refine A.cVi2 iL_217 oX5_type kL_17 ko42 (aX5_type (MI.fm yF hM) (fun τ2 yM yG => ?_))
  exact A.icmp_eq iL_220 (fun _ => kk _ τ2 (CI.cgm yG yC) yM) (fun yn => absurd rfl yn)
set_option maxRecDepth 100000 in
set_option maxHeartbeats 4000000 in
theorem lc_1 {G : GW} {nm : String} {i : Nat} {x : XS} {σ : St} (hL : (gX G).2.1 ≤ 3072) (hi : i + 6 ≤ (gX G).2.1) (hC : CI x σ) (hM : MI x σ) (kk : ∀ (x' : XS) (τ : St), CI x' τ → MI x' τ → LB G nm 1373 i [] τ) : LB G nm 225 i [] σ := by
  refine A.al1 iL_225 ?_
  refine A.alS iL_226 ?_
  refine A.il3 iL_227 ?_
  refine A.iconst (v := nI 1) iL_228 (by decide) ?_
  refine A.iaddN iL_229 ?_
  refine A.sld iL_230 (by omega) hL ?_
  refine A.cVi1 iL_231 oX4_wipe kL_18 ko0 (aX4_wipe hC (fun τ1 yC yF => ?_))
  refine A.al2 iL_234 ?_
  refine A.alS iL_235 ?_
  refine A.il3 iL_236 ?_
  refine A.iconst (v := nI 1) iL_237 (by decide) ?_
  refine A.iaddN iL_238 ?_
  refine A.sld iL_239 (by omega) hL ?_
  refine A.cVi1 iL_240 oX5_wipe kL_22 ko42 (aX5_wipe (MI.fm yF hM) (fun τ2 yM yG => ?_))
  exact A.icmp_eq iL_243 (fun _ => kk _ τ2 (CI.cgm yG yC) yM) (fun yn => absurd rfl yn)
set_option maxRecDepth 100000 in
set_option maxHeartbeats 4000000 in
theorem lc_2 {G : GW} {nm : String} {i : Nat} {x : XS} {σ : St} (hL : (gX G).2.1 ≤ 3072) (hi : i + 6 ≤ (gX G).2.1) (hC : CI x σ) (hM : MI x σ) (kk : ∀ (x' : XS) (τ : St), CI x' τ → MI x' τ → LB G nm 1373 i [] τ) : LB G nm 248 i [] σ := by
  refine A.al1 iL_248 ?_
  refine A.alS iL_249 ?_
  refine A.il3 iL_250 ?_
  refine A.iconst (v := nI 1) iL_251 (by decide) ?_
  refine A.iaddN iL_252 ?_
  refine A.sld iL_253 (by omega) hL ?_
  refine A.cVi1 iL_254 oX4_undo kL_23 ko0 (aX4_undo hC (fun τ1 yC yF => ?_))
  refine A.al2 iL_257 ?_
  refine A.alS iL_258 ?_
  refine A.il3 iL_259 ?_
  refine A.iconst (v := nI 1) iL_260 (by decide) ?_
  refine A.iaddN iL_261 ?_
  refine A.sld iL_262 (by omega) hL ?_
  refine A.cVi1 iL_263 oX5_undo kL_26 ko42 (aX5_undo (MI.fm yF hM) (fun τ2 yM yG => ?_))
  exact A.icmp_eq iL_266 (fun _ => kk _ τ2 (CI.cgm yG yC) yM) (fun yn => absurd rfl yn)
set_option maxRecDepth 100000 in
set_option maxHeartbeats 4000000 in
theorem lc_3 {G : GW} {nm : String} {i : Nat} {x : XS} {σ : St} (hL : (gX G).2.1 ≤ 3072) (hi : i + 6 ≤ (gX G).2.1) (hC : CI x σ) (hM : MI x σ) (kk : ∀ (x' : XS) (τ : St), CI x' τ → MI x' τ → LB G nm 1373 i [] τ) : LB G nm 271 i [] σ := by
  refine A.al1 iL_271 ?_
  refine A.alS iL_272 ?_
  refine A.il3 iL_273 ?_
  refine A.iconst (v := nI 1) iL_274 (by decide) ?_
  refine A.iaddN iL_275 ?_
  refine A.sld iL_276 (by omega) hL ?_
  refine A.cVi1 iL_277 oX4_fault kL_27 ko0 (aX4_fault hC (fun τ1 yC yF => ?_))
  refine A.al2 iL_280 ?_
  refine A.alS iL_281 ?_
  refine A.il3 iL_282 ?_
  refine A.iconst (v := nI 1) iL_283 (by decide) ?_
  refine A.iaddN iL_284 ?_
  refine A.sld iL_285 (by omega) hL ?_
  refine A.cVi1 iL_286 oX5_fault kL_30 ko42 (aX5_fault (MI.fm yF hM) (fun τ2 yM yG => ?_))
  exact A.icmp_eq iL_289 (fun _ => kk _ τ2 (CI.cgm yG yC) yM) (fun yn => absurd rfl yn)
set_option maxRecDepth 100000 in
set_option maxHeartbeats 4000000 in
theorem lc_4 {G : GW} {nm : String} {i : Nat} {x : XS} {σ : St} (hL : (gX G).2.1 ≤ 3072) (hi : i + 6 ≤ (gX G).2.1) (hC : CI x σ) (hM : MI x σ) (kk : ∀ (x' : XS) (τ : St), CI x' τ → MI x' τ → LB G nm 1373 i [] τ) : LB G nm 294 i [] σ := by
  refine A.al1 iL_294 ?_
  refine A.alS iL_295 ?_
  refine A.il3 iL_296 ?_
  refine A.iconst (v := nI 1) iL_297 (by decide) ?_
  refine A.iaddN iL_298 ?_
  refine A.sld iL_299 (by omega) hL ?_
  refine A.alS iL_300 ?_
  refine A.il3 iL_301 ?_
  refine A.iconst (v := nI 2) iL_302 (by decide) ?_
  refine A.iaddN iL_303 ?_
  refine A.sld iL_304 (by omega) hL ?_
  refine A.cVi2 iL_305 oX4_person kL_31 ko0 (aX4_person hC (fun τ1 yC yF => ?_))
  refine A.al2 iL_308 ?_
  refine A.alS iL_309 ?_
  refine A.il3 iL_310 ?_
  refine A.iconst (v := nI 1) iL_311 (by decide) ?_
  refine A.iaddN iL_312 ?_
  refine A.sld iL_313 (by omega) hL ?_
  refine A.alS iL_314 ?_
  refine A.il3 iL_315 ?_
  refine A.iconst (v := nI 2) iL_316 (by decide) ?_
  refine A.iaddN iL_317 ?_
  refine A.sld iL_318 (by omega) hL ?_
  refine A.cVi2 iL_319 oX5_person kL_34 ko42 (aX5_person (MI.fm yF hM) (fun τ2 yM yG => ?_))
  exact A.icmp_eq iL_322 (fun _ => kk _ τ2 (CI.cgm yG yC) yM) (fun yn => absurd rfl yn)
set_option maxRecDepth 100000 in
set_option maxHeartbeats 4000000 in
theorem lc_5 {G : GW} {nm : String} {i : Nat} {x : XS} {σ : St} (hL : (gX G).2.1 ≤ 3072) (hi : i + 6 ≤ (gX G).2.1) (hC : CI x σ) (hM : MI x σ) (kk : ∀ (x' : XS) (τ : St), CI x' τ → MI x' τ → LB G nm 1373 i [] τ) : LB G nm 327 i [] σ := by
  refine A.al1 iL_327 ?_
  refine A.alS iL_328 ?_
  refine A.il3 iL_329 ?_
  refine A.iconst (v := nI 1) iL_330 (by decide) ?_
  refine A.iaddN iL_331 ?_
  refine A.sld iL_332 (by omega) hL ?_
  refine A.alS iL_333 ?_
  refine A.il3 iL_334 ?_
  refine A.iconst (v := nI 2) iL_335 (by decide) ?_
  refine A.iaddN iL_336 ?_
  refine A.sld iL_337 (by omega) hL ?_
  refine A.cVi2 iL_338 oX4_place kL_35 ko0 (aX4_place hC (fun τ1 yC yF => ?_))
  refine A.al2 iL_341 ?_
  refine A.alS iL_342 ?_
  refine A.il3 iL_343 ?_
  refine A.iconst (v := nI 1) iL_344 (by decide) ?_
  refine A.iaddN iL_345 ?_
  refine A.sld iL_346 (by omega) hL ?_
  refine A.alS iL_347 ?_
  refine A.il3 iL_348 ?_
  refine A.iconst (v := nI 2) iL_349 (by decide) ?_
  refine A.iaddN iL_350 ?_
  refine A.sld iL_351 (by omega) hL ?_
  refine A.cVi2 iL_352 oX5_place kL_38 ko42 (aX5_place (MI.fm yF hM) (fun τ2 yM yG => ?_))
  exact A.icmp_eq iL_355 (fun _ => kk _ τ2 (CI.cgm yG yC) yM) (fun yn => absurd rfl yn)
set_option maxRecDepth 100000 in
set_option maxHeartbeats 4000000 in
theorem lc_6 {G : GW} {nm : String} {i : Nat} {x : XS} {σ : St} (hL : (gX G).2.1 ≤ 3072) (hi : i + 6 ≤ (gX G).2.1) (hC : CI x σ) (hM : MI x σ) (kk : ∀ (x' : XS) (τ : St), CI x' τ → MI x' τ → LB G nm 1373 i [] τ) : LB G nm 360 i [] σ := by
  refine A.al1 iL_360 ?_
  refine A.alS iL_361 ?_
  refine A.il3 iL_362 ?_
  refine A.iconst (v := nI 1) iL_363 (by decide) ?_
  refine A.iaddN iL_364 ?_
  refine A.sld iL_365 (by omega) hL ?_
  refine A.alS iL_366 ?_
  refine A.il3 iL_367 ?_
  refine A.iconst (v := nI 2) iL_368 (by decide) ?_
  refine A.iaddN iL_369 ?_
  refine A.sld iL_370 (by omega) hL ?_
  refine A.alS iL_371 ?_
  refine A.il3 iL_372 ?_
  refine A.iconst (v := nI 3) iL_373 (by decide) ?_
  refine A.iaddN iL_374 ?_
  refine A.sld iL_375 (by omega) hL ?_
  refine A.cVi3 iL_376 oX4_go kL_39 ko0 (aX4_go hC (fun τ1 yC yF => ?_))
  refine A.al2 iL_379 ?_
  refine A.alS iL_380 ?_
  refine A.il3 iL_381 ?_
  refine A.iconst (v := nI 1) iL_382 (by decide) ?_
  refine A.iaddN iL_383 ?_
  refine A.sld iL_384 (by omega) hL ?_
  refine A.alS iL_385 ?_
  refine A.il3 iL_386 ?_
  refine A.iconst (v := nI 2) iL_387 (by decide) ?_
  refine A.iaddN iL_388 ?_
  refine A.sld iL_389 (by omega) hL ?_
  refine A.alS iL_390 ?_
  refine A.il3 iL_391 ?_
  refine A.iconst (v := nI 3) iL_392 (by decide) ?_
  refine A.iaddN iL_393 ?_
  refine A.sld iL_394 (by omega) hL ?_
  refine A.cVi3 iL_395 oX5_go kL_43 ko42 (aX5_go (MI.fm yF hM) (fun τ2 yM yG => ?_))
  exact A.icmp_eq iL_398 (fun _ => kk _ τ2 (CI.cgm yG yC) yM) (fun yn => absurd rfl yn)
set_option maxRecDepth 100000 in
set_option maxHeartbeats 4000000 in
theorem lc_7 {G : GW} {nm : String} {i : Nat} {x : XS} {σ : St} (hL : (gX G).2.1 ≤ 3072) (hi : i + 6 ≤ (gX G).2.1) (hC : CI x σ) (hM : MI x σ) (kk : ∀ (x' : XS) (τ : St), CI x' τ → MI x' τ → LB G nm 1373 i [] τ) : LB G nm 403 i [] σ := by
  refine A.al1 iL_403 ?_
  refine A.cVi0 iL_404 oX4_back kL_44 ko0 (aX4_back hC (fun τ1 yC yF => ?_))
  refine A.al2 iL_407 ?_
  refine A.cVi0 iL_408 oX5_back kL_48 ko42 (aX5_back (MI.fm yF hM) (fun τ2 yM yG => ?_))
  exact A.icmp_eq iL_411 (fun _ => kk _ τ2 (CI.cgm yG yC) yM) (fun yn => absurd rfl yn)
set_option maxRecDepth 100000 in
set_option maxHeartbeats 4000000 in
theorem lc_8 {G : GW} {nm : String} {i : Nat} {x : XS} {σ : St} (hL : (gX G).2.1 ≤ 3072) (hi : i + 6 ≤ (gX G).2.1) (hC : CI x σ) (hM : MI x σ) (kk : ∀ (x' : XS) (τ : St), CI x' τ → MI x' τ → LB G nm 1373 i [] τ) : LB G nm 416 i [] σ := by
  refine A.al1 iL_416 ?_
  refine A.alS iL_417 ?_
  refine A.il3 iL_418 ?_
  refine A.iconst (v := nI 1) iL_419 (by decide) ?_
  refine A.iaddN iL_420 ?_
  refine A.sld iL_421 (by omega) hL ?_
  refine A.cVi1 iL_422 oX4_read kL_49 ko0 (aX4_read hC (fun τ1 yC yF => ?_))
  refine A.al2 iL_425 ?_
  refine A.alS iL_426 ?_
  refine A.il3 iL_427 ?_
  refine A.iconst (v := nI 1) iL_428 (by decide) ?_
  refine A.iaddN iL_429 ?_
  refine A.sld iL_430 (by omega) hL ?_
  refine A.cVi1 iL_431 oX5_read kL_52 ko42 (aX5_read (MI.fm yF hM) (fun τ2 yM yG => ?_))
  exact A.icmp_eq iL_434 (fun _ => kk _ τ2 (CI.cgm yG yC) yM) (fun yn => absurd rfl yn)
set_option maxRecDepth 100000 in
set_option maxHeartbeats 4000000 in
theorem lc_9 {G : GW} {nm : String} {i : Nat} {x : XS} {σ : St} (hL : (gX G).2.1 ≤ 3072) (hi : i + 6 ≤ (gX G).2.1) (hC : CI x σ) (hM : MI x σ) (kk : ∀ (x' : XS) (τ : St), CI x' τ → MI x' τ → LB G nm 1373 i [] τ) : LB G nm 439 i [] σ := by
  refine A.al1 iL_439 ?_
  refine A.alS iL_440 ?_
  refine A.il3 iL_441 ?_
  refine A.iconst (v := nI 1) iL_442 (by decide) ?_
  refine A.iaddN iL_443 ?_
  refine A.sld iL_444 (by omega) hL ?_
  refine A.alS iL_445 ?_
  refine A.il3 iL_446 ?_
  refine A.iconst (v := nI 2) iL_447 (by decide) ?_
  refine A.iaddN iL_448 ?_
  refine A.sld iL_449 (by omega) hL ?_
  refine A.cVi2 iL_450 oX4_where kL_53 ko0 (aX4_where hC (fun τ1 yC yF => ?_))
  refine A.al2 iL_453 ?_
  refine A.alS iL_454 ?_
  refine A.il3 iL_455 ?_
  refine A.iconst (v := nI 1) iL_456 (by decide) ?_
  refine A.iaddN iL_457 ?_
  refine A.sld iL_458 (by omega) hL ?_
  refine A.alS iL_459 ?_
  refine A.il3 iL_460 ?_
  refine A.iconst (v := nI 2) iL_461 (by decide) ?_
  refine A.iaddN iL_462 ?_
  refine A.sld iL_463 (by omega) hL ?_
  refine A.cVi2 iL_464 oX5_where kL_56 ko42 (aX5_where (MI.fm yF hM) (fun τ2 yM yG => ?_))
  exact A.icmp_eq iL_467 (fun _ => kk _ τ2 (CI.cgm yG yC) yM) (fun yn => absurd rfl yn)
set_option maxRecDepth 100000 in
set_option maxHeartbeats 4000000 in
theorem lc_10 {G : GW} {nm : String} {i : Nat} {x : XS} {σ : St} (hL : (gX G).2.1 ≤ 3072) (hi : i + 6 ≤ (gX G).2.1) (hC : CI x σ) (hM : MI x σ) (kk : ∀ (x' : XS) (τ : St), CI x' τ → MI x' τ → LB G nm 1373 i [] τ) : LB G nm 472 i [] σ := by
  refine A.al1 iL_472 ?_
  refine A.alS iL_473 ?_
  refine A.il3 iL_474 ?_
  refine A.iconst (v := nI 1) iL_475 (by decide) ?_
  refine A.iaddN iL_476 ?_
  refine A.sld iL_477 (by omega) hL ?_
  refine A.alS iL_478 ?_
  refine A.il3 iL_479 ?_
  refine A.iconst (v := nI 2) iL_480 (by decide) ?_
  refine A.iaddN iL_481 ?_
  refine A.sld iL_482 (by omega) hL ?_
  refine A.cVi2 iL_483 oX4_bright kL_57 ko0 (aX4_bright hC (fun τ1 yC yF => ?_))
  refine A.al2 iL_486 ?_
  refine A.alS iL_487 ?_
  refine A.il3 iL_488 ?_
  refine A.iconst (v := nI 1) iL_489 (by decide) ?_
  refine A.iaddN iL_490 ?_
  refine A.sld iL_491 (by omega) hL ?_
  refine A.alS iL_492 ?_
  refine A.il3 iL_493 ?_
  refine A.iconst (v := nI 2) iL_494 (by decide) ?_
  refine A.iaddN iL_495 ?_
  refine A.sld iL_496 (by omega) hL ?_
  refine A.cVi2 iL_497 oX5_bright kL_60 ko42 (aX5_bright (MI.fm yF hM) (fun τ2 yM yG => ?_))
  exact A.icmp_eq iL_500 (fun _ => kk _ τ2 (CI.cgm yG yC) yM) (fun yn => absurd rfl yn)
set_option maxRecDepth 100000 in
set_option maxHeartbeats 4000000 in
theorem lc_11 {G : GW} {nm : String} {i : Nat} {x : XS} {σ : St} (hL : (gX G).2.1 ≤ 3072) (hi : i + 6 ≤ (gX G).2.1) (hC : CI x σ) (hM : MI x σ) (kk : ∀ (x' : XS) (τ : St), CI x' τ → MI x' τ → LB G nm 1373 i [] τ) : LB G nm 505 i [] σ := by
  refine A.al1 iL_505 ?_
  refine A.alS iL_506 ?_
  refine A.il3 iL_507 ?_
  refine A.iconst (v := nI 1) iL_508 (by decide) ?_
  refine A.iaddN iL_509 ?_
  refine A.sld iL_510 (by omega) hL ?_
  refine A.alS iL_511 ?_
  refine A.il3 iL_512 ?_
  refine A.iconst (v := nI 2) iL_513 (by decide) ?_
  refine A.iaddN iL_514 ?_
  refine A.sld iL_515 (by omega) hL ?_
  refine A.cVi2 iL_516 oX4_crowd kL_61 ko0 (aX4_crowd hC (fun τ1 yC yF => ?_))
  refine A.al2 iL_519 ?_
  refine A.alS iL_520 ?_
  refine A.il3 iL_521 ?_
  refine A.iconst (v := nI 1) iL_522 (by decide) ?_
  refine A.iaddN iL_523 ?_
  refine A.sld iL_524 (by omega) hL ?_
  refine A.alS iL_525 ?_
  refine A.il3 iL_526 ?_
  refine A.iconst (v := nI 2) iL_527 (by decide) ?_
  refine A.iaddN iL_528 ?_
  refine A.sld iL_529 (by omega) hL ?_
  refine A.cVi2 iL_530 oX5_crowd kL_64 ko42 (aX5_crowd (MI.fm yF hM) (fun τ2 yM yG => ?_))
  exact A.icmp_eq iL_533 (fun _ => kk _ τ2 (CI.cgm yG yC) yM) (fun yn => absurd rfl yn)
set_option maxRecDepth 100000 in
set_option maxHeartbeats 4000000 in
theorem lc_12 {G : GW} {nm : String} {i : Nat} {x : XS} {σ : St} (hL : (gX G).2.1 ≤ 3072) (hi : i + 6 ≤ (gX G).2.1) (hC : CI x σ) (hM : MI x σ) (kk : ∀ (x' : XS) (τ : St), CI x' τ → MI x' τ → LB G nm 1373 i [] τ) : LB G nm 538 i [] σ := by
  refine A.al1 iL_538 ?_
  refine A.alS iL_539 ?_
  refine A.il3 iL_540 ?_
  refine A.iconst (v := nI 1) iL_541 (by decide) ?_
  refine A.iaddN iL_542 ?_
  refine A.sld iL_543 (by omega) hL ?_
  refine A.alS iL_544 ?_
  refine A.il3 iL_545 ?_
  refine A.iconst (v := nI 2) iL_546 (by decide) ?_
  refine A.iaddN iL_547 ?_
  refine A.sld iL_548 (by omega) hL ?_
  refine A.alS iL_549 ?_
  refine A.il3 iL_550 ?_
  refine A.iconst (v := nI 3) iL_551 (by decide) ?_
  refine A.iaddN iL_552 ?_
  refine A.sld iL_553 (by omega) hL ?_
  refine A.cVl3 iL_554 oX4_sky kL_65 ko0 (aX4_sky hC (fun τ1 yC yF => ?_))
  refine A.al2 iL_557 ?_
  refine A.alS iL_558 ?_
  refine A.il3 iL_559 ?_
  refine A.iconst (v := nI 1) iL_560 (by decide) ?_
  refine A.iaddN iL_561 ?_
  refine A.sld iL_562 (by omega) hL ?_
  refine A.alS iL_563 ?_
  refine A.il3 iL_564 ?_
  refine A.iconst (v := nI 2) iL_565 (by decide) ?_
  refine A.iaddN iL_566 ?_
  refine A.sld iL_567 (by omega) hL ?_
  refine A.alS iL_568 ?_
  refine A.il3 iL_569 ?_
  refine A.iconst (v := nI 3) iL_570 (by decide) ?_
  refine A.iaddN iL_571 ?_
  refine A.sld iL_572 (by omega) hL ?_
  refine A.cVl3 iL_573 oX5_sky kL_69 ko42 (aX5_sky (MI.fm yF hM) (fun τ2 yM yG => ?_))
  refine A.lcmp iL_576 ?_
  exact A.if_eq iL_577 (fun _ => kk _ τ2 (CI.cgm yG yC) yM) (fun yn => absurd (lg0.mpr rfl) yn)
set_option maxRecDepth 100000 in
set_option maxHeartbeats 4000000 in
theorem lc_13 {G : GW} {nm : String} {i : Nat} {x : XS} {σ : St} (hL : (gX G).2.1 ≤ 3072) (hi : i + 6 ≤ (gX G).2.1) (hC : CI x σ) (hM : MI x σ) (kk : ∀ (x' : XS) (τ : St), CI x' τ → MI x' τ → LB G nm 1373 i [] τ) : LB G nm 582 i [] σ := by
  refine A.al1 iL_582 ?_
  refine A.alS iL_583 ?_
  refine A.il3 iL_584 ?_
  refine A.iconst (v := nI 1) iL_585 (by decide) ?_
  refine A.iaddN iL_586 ?_
  refine A.sld iL_587 (by omega) hL ?_
  refine A.cVi1 iL_588 oX4_met kL_70 ko0 (aX4_met hC (fun τ1 yC yF => ?_))
  refine A.al2 iL_591 ?_
  refine A.alS iL_592 ?_
  refine A.il3 iL_593 ?_
  refine A.iconst (v := nI 1) iL_594 (by decide) ?_
  refine A.iaddN iL_595 ?_
  refine A.sld iL_596 (by omega) hL ?_
  refine A.cVi1 iL_597 oX5_met kL_73 ko42 (aX5_met (MI.fm yF hM) (fun τ2 yM yG => ?_))
  exact A.icmp_eq iL_600 (fun _ => kk _ τ2 (CI.cgm yG yC) yM) (fun yn => absurd rfl yn)
set_option maxRecDepth 100000 in
set_option maxHeartbeats 4000000 in
theorem lc_14 {G : GW} {nm : String} {i : Nat} {x : XS} {σ : St} (hL : (gX G).2.1 ≤ 3072) (hi : i + 6 ≤ (gX G).2.1) (hC : CI x σ) (hM : MI x σ) (kk : ∀ (x' : XS) (τ : St), CI x' τ → MI x' τ → LB G nm 1373 i [] τ) : LB G nm 605 i [] σ := by
  refine A.al1 iL_605 ?_
  refine A.alS iL_606 ?_
  refine A.il3 iL_607 ?_
  refine A.iconst (v := nI 1) iL_608 (by decide) ?_
  refine A.iaddN iL_609 ?_
  refine A.sld iL_610 (by omega) hL ?_
  refine A.cVi1 iL_611 oX4_spoilt kL_74 ko0 (aX4_spoilt hC (fun τ1 yC yF => ?_))
  refine A.al2 iL_614 ?_
  refine A.alS iL_615 ?_
  refine A.il3 iL_616 ?_
  refine A.iconst (v := nI 1) iL_617 (by decide) ?_
  refine A.iaddN iL_618 ?_
  refine A.sld iL_619 (by omega) hL ?_
  refine A.cVi1 iL_620 oX5_spoilt kL_77 ko42 (aX5_spoilt (MI.fm yF hM) (fun τ2 yM yG => ?_))
  exact A.icmp_eq iL_623 (fun _ => kk _ τ2 (CI.cgm yG yC) yM) (fun yn => absurd rfl yn)
set_option maxRecDepth 100000 in
set_option maxHeartbeats 4000000 in
theorem lc_15 {G : GW} {nm : String} {i : Nat} {x : XS} {σ : St} (hL : (gX G).2.1 ≤ 3072) (hi : i + 6 ≤ (gX G).2.1) (hC : CI x σ) (hM : MI x σ) (kk : ∀ (x' : XS) (τ : St), CI x' τ → MI x' τ → LB G nm 1373 i [] τ) : LB G nm 628 i [] σ := by
  refine A.al1 iL_628 ?_
  refine A.alS iL_629 ?_
  refine A.il3 iL_630 ?_
  refine A.iconst (v := nI 1) iL_631 (by decide) ?_
  refine A.iaddN iL_632 ?_
  refine A.sld iL_633 (by omega) hL ?_
  refine A.cVi1 iL_634 oX4_lightning kL_78 ko0 (aX4_lightning hC (fun τ1 yC yF => ?_))
  refine A.al2 iL_637 ?_
  refine A.alS iL_638 ?_
  refine A.il3 iL_639 ?_
  refine A.iconst (v := nI 1) iL_640 (by decide) ?_
  refine A.iaddN iL_641 ?_
  refine A.sld iL_642 (by omega) hL ?_
  refine A.cVi1 iL_643 oX5_lightning kL_81 ko42 (aX5_lightning (MI.fm yF hM) (fun τ2 yM yG => ?_))
  exact A.icmp_eq iL_646 (fun _ => kk _ τ2 (CI.cgm yG yC) yM) (fun yn => absurd rfl yn)
set_option maxRecDepth 100000 in
set_option maxHeartbeats 4000000 in
theorem lc_16 {G : GW} {nm : String} {i : Nat} {x : XS} {σ : St} (hL : (gX G).2.1 ≤ 3072) (hi : i + 6 ≤ (gX G).2.1) (hC : CI x σ) (hM : MI x σ) (kk : ∀ (x' : XS) (τ : St), CI x' τ → MI x' τ → LB G nm 1373 i [] τ) : LB G nm 651 i [] σ := by
  refine A.al1 iL_651 ?_
  refine A.cVi0 iL_652 oX4_settles kL_82 ko0 (sX4_settles hC (fun τ1 yC yF => ?_))
  refine A.al2 iL_655 ?_
  refine A.cVi0 iL_656 oX5_settles kL_85 ko42 (aX5_settles (MI.fm yF hM) (fun τ2 yM yG => ?_))
  exact A.icmp_eq iL_659 (fun _ => kk _ τ2 (CI.cgm yG yC) yM) (fun yn => absurd rfl yn)
set_option maxRecDepth 100000 in
set_option maxHeartbeats 4000000 in
theorem lc_17 {G : GW} {nm : String} {i : Nat} {x : XS} {σ : St} (hL : (gX G).2.1 ≤ 3072) (hi : i + 6 ≤ (gX G).2.1) (hC : CI x σ) (hM : MI x σ) (kk : ∀ (x' : XS) (τ : St), CI x' τ → MI x' τ → LB G nm 1373 i [] τ) : LB G nm 664 i [] σ := by
  refine A.al1 iL_664 ?_
  refine A.alS iL_665 ?_
  refine A.il3 iL_666 ?_
  refine A.iconst (v := nI 1) iL_667 (by decide) ?_
  refine A.iaddN iL_668 ?_
  refine A.sld iL_669 (by omega) hL ?_
  refine A.alS iL_670 ?_
  refine A.il3 iL_671 ?_
  refine A.iconst (v := nI 2) iL_672 (by decide) ?_
  refine A.iaddN iL_673 ?_
  refine A.sld iL_674 (by omega) hL ?_
  refine A.alS iL_675 ?_
  refine A.il3 iL_676 ?_
  refine A.iconst (v := nI 3) iL_677 (by decide) ?_
  refine A.iaddN iL_678 ?_
  refine A.sld iL_679 (by omega) hL ?_
  refine A.cVi3 iL_680 oX4_send kL_86 ko0 (aX4_send hC (fun τ1 yC yF => ?_))
  refine A.al2 iL_683 ?_
  refine A.alS iL_684 ?_
  refine A.il3 iL_685 ?_
  refine A.iconst (v := nI 1) iL_686 (by decide) ?_
  refine A.iaddN iL_687 ?_
  refine A.sld iL_688 (by omega) hL ?_
  refine A.alS iL_689 ?_
  refine A.il3 iL_690 ?_
  refine A.iconst (v := nI 2) iL_691 (by decide) ?_
  refine A.iaddN iL_692 ?_
  refine A.sld iL_693 (by omega) hL ?_
  refine A.alS iL_694 ?_
  refine A.il3 iL_695 ?_
  refine A.iconst (v := nI 3) iL_696 (by decide) ?_
  refine A.iaddN iL_697 ?_
  refine A.sld iL_698 (by omega) hL ?_
  refine A.cVi3 iL_699 oX5_send kL_89 ko42 (aX5_send (MI.fm yF hM) (fun τ2 yM yG => ?_))
  exact A.icmp_eq iL_702 (fun _ => kk _ τ2 (CI.cgm yG yC) yM) (fun yn => absurd rfl yn)
set_option maxRecDepth 100000 in
set_option maxHeartbeats 4000000 in
theorem lc_18 {G : GW} {nm : String} {i : Nat} {x : XS} {σ : St} (hL : (gX G).2.1 ≤ 3072) (hi : i + 6 ≤ (gX G).2.1) (hC : CI x σ) (hM : MI x σ) (kk : ∀ (x' : XS) (τ : St), CI x' τ → MI x' τ → LB G nm 1373 i [] τ) : LB G nm 707 i [] σ := by
  refine A.al1 iL_707 ?_
  refine A.alS iL_708 ?_
  refine A.il3 iL_709 ?_
  refine A.iconst (v := nI 1) iL_710 (by decide) ?_
  refine A.iaddN iL_711 ?_
  refine A.sld iL_712 (by omega) hL ?_
  refine A.alS iL_713 ?_
  refine A.il3 iL_714 ?_
  refine A.iconst (v := nI 2) iL_715 (by decide) ?_
  refine A.iaddN iL_716 ?_
  refine A.sld iL_717 (by omega) hL ?_
  refine A.alS iL_718 ?_
  refine A.il3 iL_719 ?_
  refine A.iconst (v := nI 3) iL_720 (by decide) ?_
  refine A.iaddN iL_721 ?_
  refine A.sld iL_722 (by omega) hL ?_
  refine A.alS iL_723 ?_
  refine A.il3 iL_724 ?_
  refine A.iconst (v := nI 4) iL_725 (by decide) ?_
  refine A.iaddN iL_726 ?_
  refine A.sld iL_727 (by omega) hL ?_
  refine A.cVi4 iL_728 oX4_keep kL_90 ko0 (aX4_keep hC (fun τ1 yC yF => ?_))
  refine A.al2 iL_731 ?_
  refine A.alS iL_732 ?_
  refine A.il3 iL_733 ?_
  refine A.iconst (v := nI 1) iL_734 (by decide) ?_
  refine A.iaddN iL_735 ?_
  refine A.sld iL_736 (by omega) hL ?_
  refine A.alS iL_737 ?_
  refine A.il3 iL_738 ?_
  refine A.iconst (v := nI 2) iL_739 (by decide) ?_
  refine A.iaddN iL_740 ?_
  refine A.sld iL_741 (by omega) hL ?_
  refine A.alS iL_742 ?_
  refine A.il3 iL_743 ?_
  refine A.iconst (v := nI 3) iL_744 (by decide) ?_
  refine A.iaddN iL_745 ?_
  refine A.sld iL_746 (by omega) hL ?_
  refine A.alS iL_747 ?_
  refine A.il3 iL_748 ?_
  refine A.iconst (v := nI 4) iL_749 (by decide) ?_
  refine A.iaddN iL_750 ?_
  refine A.sld iL_751 (by omega) hL ?_
  refine A.cVi4 iL_752 oX5_keep kL_94 ko42 (aX5_keep (MI.fm yF hM) (fun τ2 yM yG => ?_))
  exact A.icmp_eq iL_755 (fun _ => kk _ τ2 (CI.cgm yG yC) yM) (fun yn => absurd rfl yn)
set_option maxRecDepth 100000 in
set_option maxHeartbeats 4000000 in
theorem lc_19 {G : GW} {nm : String} {i : Nat} {x : XS} {σ : St} (hL : (gX G).2.1 ≤ 3072) (hi : i + 6 ≤ (gX G).2.1) (hC : CI x σ) (hM : MI x σ) (kk : ∀ (x' : XS) (τ : St), CI x' τ → MI x' τ → LB G nm 1373 i [] τ) : LB G nm 760 i [] σ := by
  refine A.al1 iL_760 ?_
  refine A.alS iL_761 ?_
  refine A.il3 iL_762 ?_
  refine A.iconst (v := nI 1) iL_763 (by decide) ?_
  refine A.iaddN iL_764 ?_
  refine A.sld iL_765 (by omega) hL ?_
  refine A.alS iL_766 ?_
  refine A.il3 iL_767 ?_
  refine A.iconst (v := nI 2) iL_768 (by decide) ?_
  refine A.iaddN iL_769 ?_
  refine A.sld iL_770 (by omega) hL ?_
  refine A.alS iL_771 ?_
  refine A.il3 iL_772 ?_
  refine A.iconst (v := nI 3) iL_773 (by decide) ?_
  refine A.iaddN iL_774 ?_
  refine A.sld iL_775 (by omega) hL ?_
  refine A.cVi3 iL_776 oX4_row kL_95 ko0 (aX4_row hC (fun τ1 yC yF => ?_))
  refine A.al2 iL_779 ?_
  refine A.alS iL_780 ?_
  refine A.il3 iL_781 ?_
  refine A.iconst (v := nI 1) iL_782 (by decide) ?_
  refine A.iaddN iL_783 ?_
  refine A.sld iL_784 (by omega) hL ?_
  refine A.alS iL_785 ?_
  refine A.il3 iL_786 ?_
  refine A.iconst (v := nI 2) iL_787 (by decide) ?_
  refine A.iaddN iL_788 ?_
  refine A.sld iL_789 (by omega) hL ?_
  refine A.alS iL_790 ?_
  refine A.il3 iL_791 ?_
  refine A.iconst (v := nI 3) iL_792 (by decide) ?_
  refine A.iaddN iL_793 ?_
  refine A.sld iL_794 (by omega) hL ?_
  refine A.cVi3 iL_795 oX5_row kL_98 ko42 (aX5_row (MI.fm yF hM) (fun τ2 yM yG => ?_))
  exact A.icmp_eq iL_798 (fun _ => kk _ τ2 (CI.cgm yG yC) yM) (fun yn => absurd rfl yn)
set_option maxRecDepth 100000 in
set_option maxHeartbeats 4000000 in
theorem lc_20 {G : GW} {nm : String} {i : Nat} {x : XS} {σ : St} (hL : (gX G).2.1 ≤ 3072) (hi : i + 6 ≤ (gX G).2.1) (hC : CI x σ) (hM : MI x σ) (kk : ∀ (x' : XS) (τ : St), CI x' τ → MI x' τ → LB G nm 1373 i [] τ) : LB G nm 803 i [] σ := by
  refine A.al1 iL_803 ?_
  refine A.alS iL_804 ?_
  refine A.il3 iL_805 ?_
  refine A.iconst (v := nI 1) iL_806 (by decide) ?_
  refine A.iaddN iL_807 ?_
  refine A.sld iL_808 (by omega) hL ?_
  refine A.alS iL_809 ?_
  refine A.il3 iL_810 ?_
  refine A.iconst (v := nI 2) iL_811 (by decide) ?_
  refine A.iaddN iL_812 ?_
  refine A.sld iL_813 (by omega) hL ?_
  refine A.alS iL_814 ?_
  refine A.il3 iL_815 ?_
  refine A.iconst (v := nI 3) iL_816 (by decide) ?_
  refine A.iaddN iL_817 ?_
  refine A.sld iL_818 (by omega) hL ?_
  refine A.cVi3 iL_819 oX4_seen kL_99 ko0 (aX4_seen hC (fun τ1 yC yF => ?_))
  refine A.al2 iL_822 ?_
  refine A.alS iL_823 ?_
  refine A.il3 iL_824 ?_
  refine A.iconst (v := nI 1) iL_825 (by decide) ?_
  refine A.iaddN iL_826 ?_
  refine A.sld iL_827 (by omega) hL ?_
  refine A.alS iL_828 ?_
  refine A.il3 iL_829 ?_
  refine A.iconst (v := nI 2) iL_830 (by decide) ?_
  refine A.iaddN iL_831 ?_
  refine A.sld iL_832 (by omega) hL ?_
  refine A.alS iL_833 ?_
  refine A.il3 iL_834 ?_
  refine A.iconst (v := nI 3) iL_835 (by decide) ?_
  refine A.iaddN iL_836 ?_
  refine A.sld iL_837 (by omega) hL ?_
  refine A.cVi3 iL_838 oX5_seen kL_102 ko42 (aX5_seen (MI.fm yF hM) (fun τ2 yM yG => ?_))
  exact A.icmp_eq iL_841 (fun _ => kk _ τ2 (CI.cgm yG yC) yM) (fun yn => absurd rfl yn)
set_option maxRecDepth 100000 in
set_option maxHeartbeats 4000000 in
theorem lc_21 {G : GW} {nm : String} {i : Nat} {x : XS} {σ : St} (hL : (gX G).2.1 ≤ 3072) (hi : i + 6 ≤ (gX G).2.1) (hC : CI x σ) (hM : MI x σ) (kk : ∀ (x' : XS) (τ : St), CI x' τ → MI x' τ → LB G nm 1373 i [] τ) : LB G nm 846 i [] σ := by
  refine A.al1 iL_846 ?_
  refine A.alS iL_847 ?_
  refine A.il3 iL_848 ?_
  refine A.iconst (v := nI 1) iL_849 (by decide) ?_
  refine A.iaddN iL_850 ?_
  refine A.sld iL_851 (by omega) hL ?_
  refine A.alS iL_852 ?_
  refine A.il3 iL_853 ?_
  refine A.iconst (v := nI 2) iL_854 (by decide) ?_
  refine A.iaddN iL_855 ?_
  refine A.sld iL_856 (by omega) hL ?_
  refine A.alS iL_857 ?_
  refine A.il3 iL_858 ?_
  refine A.iconst (v := nI 3) iL_859 (by decide) ?_
  refine A.iaddN iL_860 ?_
  refine A.sld iL_861 (by omega) hL ?_
  refine A.cVi3 iL_862 oX4_fog kL_103 ko0 (aX4_fog hC (fun τ1 yC yF => ?_))
  refine A.al2 iL_865 ?_
  refine A.alS iL_866 ?_
  refine A.il3 iL_867 ?_
  refine A.iconst (v := nI 1) iL_868 (by decide) ?_
  refine A.iaddN iL_869 ?_
  refine A.sld iL_870 (by omega) hL ?_
  refine A.alS iL_871 ?_
  refine A.il3 iL_872 ?_
  refine A.iconst (v := nI 2) iL_873 (by decide) ?_
  refine A.iaddN iL_874 ?_
  refine A.sld iL_875 (by omega) hL ?_
  refine A.alS iL_876 ?_
  refine A.il3 iL_877 ?_
  refine A.iconst (v := nI 3) iL_878 (by decide) ?_
  refine A.iaddN iL_879 ?_
  refine A.sld iL_880 (by omega) hL ?_
  refine A.cVi3 iL_881 oX5_fog kL_106 ko42 (aX5_fog (MI.fm yF hM) (fun τ2 yM yG => ?_))
  exact A.icmp_eq iL_884 (fun _ => kk _ τ2 (CI.cgm yG yC) yM) (fun yn => absurd rfl yn)
set_option maxRecDepth 100000 in
set_option maxHeartbeats 4000000 in
theorem lc_22 {G : GW} {nm : String} {i : Nat} {x : XS} {σ : St} (hL : (gX G).2.1 ≤ 3072) (hi : i + 6 ≤ (gX G).2.1) (hC : CI x σ) (hM : MI x σ) (kk : ∀ (x' : XS) (τ : St), CI x' τ → MI x' τ → LB G nm 1373 i [] τ) : LB G nm 889 i [] σ := by
  refine A.al1 iL_889 ?_
  refine A.alS iL_890 ?_
  refine A.il3 iL_891 ?_
  refine A.iconst (v := nI 1) iL_892 (by decide) ?_
  refine A.iaddN iL_893 ?_
  refine A.sld iL_894 (by omega) hL ?_
  refine A.cVi1 iL_895 oX4_forget kL_107 ko0 (aX4_forget hC (fun τ1 yC yF => ?_))
  refine A.al2 iL_898 ?_
  refine A.alS iL_899 ?_
  refine A.il3 iL_900 ?_
  refine A.iconst (v := nI 1) iL_901 (by decide) ?_
  refine A.iaddN iL_902 ?_
  refine A.sld iL_903 (by omega) hL ?_
  refine A.cVi1 iL_904 oX5_forget kL_110 ko42 (aX5_forget (MI.fm yF hM) (fun τ2 yM yG => ?_))
  exact A.icmp_eq iL_907 (fun _ => kk _ τ2 (CI.cgm yG yC) yM) (fun yn => absurd rfl yn)
set_option maxRecDepth 100000 in
set_option maxHeartbeats 4000000 in
theorem lc_23 {G : GW} {nm : String} {i : Nat} {x : XS} {σ : St} (hL : (gX G).2.1 ≤ 3072) (hi : i + 6 ≤ (gX G).2.1) (hC : CI x σ) (hM : MI x σ) (kk : ∀ (x' : XS) (τ : St), CI x' τ → MI x' τ → LB G nm 1373 i [] τ) : LB G nm 912 i [] σ := by
  refine A.al1 iL_912 ?_
  refine A.alS iL_913 ?_
  refine A.il3 iL_914 ?_
  refine A.iconst (v := nI 1) iL_915 (by decide) ?_
  refine A.iaddN iL_916 ?_
  refine A.sld iL_917 (by omega) hL ?_
  refine A.cVi1 iL_918 oX4_may kL_111 ko0 (aX4_may hC (fun τ1 yC yF => ?_))
  refine A.al2 iL_921 ?_
  refine A.alS iL_922 ?_
  refine A.il3 iL_923 ?_
  refine A.iconst (v := nI 1) iL_924 (by decide) ?_
  refine A.iaddN iL_925 ?_
  refine A.sld iL_926 (by omega) hL ?_
  refine A.cVi1 iL_927 oX5_may kL_114 ko42 (aX5_may (MI.fm yF hM) (fun τ2 yM yG => ?_))
  exact A.icmp_eq iL_930 (fun _ => kk _ τ2 (CI.cgm yG yC) yM) (fun yn => absurd rfl yn)
set_option maxRecDepth 100000 in
set_option maxHeartbeats 4000000 in
theorem lc_24 {G : GW} {nm : String} {i : Nat} {x : XS} {σ : St} (hL : (gX G).2.1 ≤ 3072) (hi : i + 6 ≤ (gX G).2.1) (hC : CI x σ) (hM : MI x σ) (kk : ∀ (x' : XS) (τ : St), CI x' τ → MI x' τ → LB G nm 1373 i [] τ) : LB G nm 935 i [] σ := by
  refine A.al1 iL_935 ?_
  refine A.cVi0 iL_936 oX4_hid kL_115 ko0 (sX4_hid hC (fun τ1 yC yF => ?_))
  refine A.al2 iL_939 ?_
  refine A.cVi0 iL_940 oX5_hid kL_118 ko42 (aX5_hid (MI.fm yF hM) (fun τ2 yM yG => ?_))
  exact A.icmp_eq iL_943 (fun _ => kk _ τ2 (CI.cgm yG yC) yM) (fun yn => absurd rfl yn)
set_option maxRecDepth 100000 in
set_option maxHeartbeats 4000000 in
theorem lc_25 {G : GW} {nm : String} {i : Nat} {x : XS} {σ : St} (hL : (gX G).2.1 ≤ 3072) (hi : i + 6 ≤ (gX G).2.1) (hC : CI x σ) (hM : MI x σ) (kk : ∀ (x' : XS) (τ : St), CI x' τ → MI x' τ → LB G nm 1373 i [] τ) : LB G nm 948 i [] σ := by
  refine A.al1 iL_948 ?_
  refine A.alS iL_949 ?_
  refine A.il3 iL_950 ?_
  refine A.iconst (v := nI 1) iL_951 (by decide) ?_
  refine A.iaddN iL_952 ?_
  refine A.sld iL_953 (by omega) hL ?_
  refine A.alS iL_954 ?_
  refine A.il3 iL_955 ?_
  refine A.iconst (v := nI 2) iL_956 (by decide) ?_
  refine A.iaddN iL_957 ?_
  refine A.sld iL_958 (by omega) hL ?_
  refine A.alS iL_959 ?_
  refine A.il3 iL_960 ?_
  refine A.iconst (v := nI 3) iL_961 (by decide) ?_
  refine A.iaddN iL_962 ?_
  refine A.sld iL_963 (by omega) hL ?_
  refine A.alS iL_964 ?_
  refine A.il3 iL_965 ?_
  refine A.iconst (v := nI 4) iL_966 (by decide) ?_
  refine A.iaddN iL_967 ?_
  refine A.sld iL_968 (by omega) hL ?_
  refine A.cVl4 iL_969 oX4_news kL_119 ko0 (aX4_news hC (fun τ1 yC yF => ?_))
  refine A.al2 iL_972 ?_
  refine A.alS iL_973 ?_
  refine A.il3 iL_974 ?_
  refine A.iconst (v := nI 1) iL_975 (by decide) ?_
  refine A.iaddN iL_976 ?_
  refine A.sld iL_977 (by omega) hL ?_
  refine A.alS iL_978 ?_
  refine A.il3 iL_979 ?_
  refine A.iconst (v := nI 2) iL_980 (by decide) ?_
  refine A.iaddN iL_981 ?_
  refine A.sld iL_982 (by omega) hL ?_
  refine A.alS iL_983 ?_
  refine A.il3 iL_984 ?_
  refine A.iconst (v := nI 3) iL_985 (by decide) ?_
  refine A.iaddN iL_986 ?_
  refine A.sld iL_987 (by omega) hL ?_
  refine A.alS iL_988 ?_
  refine A.il3 iL_989 ?_
  refine A.iconst (v := nI 4) iL_990 (by decide) ?_
  refine A.iaddN iL_991 ?_
  refine A.sld iL_992 (by omega) hL ?_
  refine A.cVl4 iL_993 oX5_news kL_123 ko42 (aX5_news (MI.fm yF hM) (fun τ2 yM yG => ?_))
  refine A.lcmp iL_996 ?_
  exact A.if_eq iL_997 (fun _ => kk _ τ2 (CI.cgm yG yC) yM) (fun yn => absurd (lg0.mpr rfl) yn)
set_option maxRecDepth 100000 in
set_option maxHeartbeats 4000000 in
theorem lc_26 {G : GW} {nm : String} {i : Nat} {x : XS} {σ : St} (hL : (gX G).2.1 ≤ 3072) (hi : i + 6 ≤ (gX G).2.1) (hC : CI x σ) (hM : MI x σ) (kk : ∀ (x' : XS) (τ : St), CI x' τ → MI x' τ → LB G nm 1373 i [] τ) : LB G nm 1002 i [] σ := by
  refine A.al1 iL_1002 ?_
  refine A.alS iL_1003 ?_
  refine A.il3 iL_1004 ?_
  refine A.iconst (v := nI 1) iL_1005 (by decide) ?_
  refine A.iaddN iL_1006 ?_
  refine A.sld iL_1007 (by omega) hL ?_
  refine A.alS iL_1008 ?_
  refine A.il3 iL_1009 ?_
  refine A.iconst (v := nI 2) iL_1010 (by decide) ?_
  refine A.iaddN iL_1011 ?_
  refine A.sld iL_1012 (by omega) hL ?_
  refine A.alS iL_1013 ?_
  refine A.il3 iL_1014 ?_
  refine A.iconst (v := nI 3) iL_1015 (by decide) ?_
  refine A.iaddN iL_1016 ?_
  refine A.sld iL_1017 (by omega) hL ?_
  refine A.cVi3 iL_1018 oX4_roof kL_124 ko0 (aX4_roof hC (fun τ1 yC yF => ?_))
  refine A.al2 iL_1021 ?_
  refine A.alS iL_1022 ?_
  refine A.il3 iL_1023 ?_
  refine A.iconst (v := nI 1) iL_1024 (by decide) ?_
  refine A.iaddN iL_1025 ?_
  refine A.sld iL_1026 (by omega) hL ?_
  refine A.alS iL_1027 ?_
  refine A.il3 iL_1028 ?_
  refine A.iconst (v := nI 2) iL_1029 (by decide) ?_
  refine A.iaddN iL_1030 ?_
  refine A.sld iL_1031 (by omega) hL ?_
  refine A.alS iL_1032 ?_
  refine A.il3 iL_1033 ?_
  refine A.iconst (v := nI 3) iL_1034 (by decide) ?_
  refine A.iaddN iL_1035 ?_
  refine A.sld iL_1036 (by omega) hL ?_
  refine A.cVi3 iL_1037 oX5_roof kL_127 ko42 (aX5_roof (MI.fm yF hM) (fun τ2 yM yG => ?_))
  exact A.icmp_eq iL_1040 (fun _ => kk _ τ2 (CI.cgm yG yC) yM) (fun yn => absurd rfl yn)
set_option maxRecDepth 100000 in
set_option maxHeartbeats 4000000 in
theorem lc_27 {G : GW} {nm : String} {i : Nat} {x : XS} {σ : St} (hL : (gX G).2.1 ≤ 3072) (hi : i + 6 ≤ (gX G).2.1) (hC : CI x σ) (hM : MI x σ) (kk : ∀ (x' : XS) (τ : St), CI x' τ → MI x' τ → LB G nm 1373 i [] τ) : LB G nm 1045 i [] σ := by
  refine A.al1 iL_1045 ?_
  refine A.alS iL_1046 ?_
  refine A.il3 iL_1047 ?_
  refine A.iconst (v := nI 1) iL_1048 (by decide) ?_
  refine A.iaddN iL_1049 ?_
  refine A.sld iL_1050 (by omega) hL ?_
  refine A.alS iL_1051 ?_
  refine A.il3 iL_1052 ?_
  refine A.iconst (v := nI 2) iL_1053 (by decide) ?_
  refine A.iaddN iL_1054 ?_
  refine A.sld iL_1055 (by omega) hL ?_
  refine A.cVi2 iL_1056 oX4_day kL_128 ko0 (aX4_day hC (fun τ1 yC yF => ?_))
  refine A.al2 iL_1059 ?_
  refine A.alS iL_1060 ?_
  refine A.il3 iL_1061 ?_
  refine A.iconst (v := nI 1) iL_1062 (by decide) ?_
  refine A.iaddN iL_1063 ?_
  refine A.sld iL_1064 (by omega) hL ?_
  refine A.alS iL_1065 ?_
  refine A.il3 iL_1066 ?_
  refine A.iconst (v := nI 2) iL_1067 (by decide) ?_
  refine A.iaddN iL_1068 ?_
  refine A.sld iL_1069 (by omega) hL ?_
  refine A.cVi2 iL_1070 oX5_day kL_131 ko42 (aX5_day (MI.fm yF hM) (fun τ2 yM yG => ?_))
  exact A.icmp_eq iL_1073 (fun _ => kk _ τ2 (CI.cgm yG yC) yM) (fun yn => absurd rfl yn)
set_option maxRecDepth 100000 in
set_option maxHeartbeats 4000000 in
theorem lc_28 {G : GW} {nm : String} {i : Nat} {x : XS} {σ : St} (hL : (gX G).2.1 ≤ 3072) (hi : i + 6 ≤ (gX G).2.1) (hC : CI x σ) (hM : MI x σ) (kk : ∀ (x' : XS) (τ : St), CI x' τ → MI x' τ → LB G nm 1373 i [] τ) : LB G nm 1078 i [] σ := by
  refine A.al1 iL_1078 ?_
  refine A.alS iL_1079 ?_
  refine A.il3 iL_1080 ?_
  refine A.iconst (v := nI 1) iL_1081 (by decide) ?_
  refine A.iaddN iL_1082 ?_
  refine A.sld iL_1083 (by omega) hL ?_
  refine A.alS iL_1084 ?_
  refine A.il3 iL_1085 ?_
  refine A.iconst (v := nI 2) iL_1086 (by decide) ?_
  refine A.iaddN iL_1087 ?_
  refine A.sld iL_1088 (by omega) hL ?_
  refine A.alS iL_1089 ?_
  refine A.il3 iL_1090 ?_
  refine A.iconst (v := nI 3) iL_1091 (by decide) ?_
  refine A.iaddN iL_1092 ?_
  refine A.sld iL_1093 (by omega) hL ?_
  refine A.cVi3 iL_1094 oX4_sheet kL_132 ko0 (aX4_sheet hC (fun τ1 yC yF => ?_))
  refine A.al2 iL_1097 ?_
  refine A.alS iL_1098 ?_
  refine A.il3 iL_1099 ?_
  refine A.iconst (v := nI 1) iL_1100 (by decide) ?_
  refine A.iaddN iL_1101 ?_
  refine A.sld iL_1102 (by omega) hL ?_
  refine A.alS iL_1103 ?_
  refine A.il3 iL_1104 ?_
  refine A.iconst (v := nI 2) iL_1105 (by decide) ?_
  refine A.iaddN iL_1106 ?_
  refine A.sld iL_1107 (by omega) hL ?_
  refine A.alS iL_1108 ?_
  refine A.il3 iL_1109 ?_
  refine A.iconst (v := nI 3) iL_1110 (by decide) ?_
  refine A.iaddN iL_1111 ?_
  refine A.sld iL_1112 (by omega) hL ?_
  refine A.cVi3 iL_1113 oX5_sheet kL_135 ko42 (aX5_sheet (MI.fm yF hM) (fun τ2 yM yG => ?_))
  exact A.icmp_eq iL_1116 (fun _ => kk _ τ2 (CI.cgm yG yC) yM) (fun yn => absurd rfl yn)
set_option maxRecDepth 100000 in
set_option maxHeartbeats 4000000 in
theorem lc_29 {G : GW} {nm : String} {i : Nat} {x : XS} {σ : St} (hL : (gX G).2.1 ≤ 3072) (hi : i + 6 ≤ (gX G).2.1) (hC : CI x σ) (hM : MI x σ) (kk : ∀ (x' : XS) (τ : St), CI x' τ → MI x' τ → LB G nm 1373 i [] τ) : LB G nm 1121 i [] σ := by
  refine A.al1 iL_1121 ?_
  refine A.alS iL_1122 ?_
  refine A.il3 iL_1123 ?_
  refine A.iconst (v := nI 1) iL_1124 (by decide) ?_
  refine A.iaddN iL_1125 ?_
  refine A.sld iL_1126 (by omega) hL ?_
  refine A.cVi1 iL_1127 oX4_lose kL_136 ko0 (aX4_lose hC (fun τ1 yC yF => ?_))
  refine A.al2 iL_1130 ?_
  refine A.alS iL_1131 ?_
  refine A.il3 iL_1132 ?_
  refine A.iconst (v := nI 1) iL_1133 (by decide) ?_
  refine A.iaddN iL_1134 ?_
  refine A.sld iL_1135 (by omega) hL ?_
  refine A.cVi1 iL_1136 oX5_lose kL_139 ko42 (aX5_lose (MI.fm yF hM) (fun τ2 yM yG => ?_))
  exact A.icmp_eq iL_1139 (fun _ => kk _ τ2 (CI.cgm yG yC) yM) (fun yn => absurd rfl yn)
set_option maxRecDepth 100000 in
set_option maxHeartbeats 4000000 in
theorem lc_30 {G : GW} {nm : String} {i : Nat} {x : XS} {σ : St} (hL : (gX G).2.1 ≤ 3072) (hi : i + 6 ≤ (gX G).2.1) (hC : CI x σ) (hM : MI x σ) (kk : ∀ (x' : XS) (τ : St), CI x' τ → MI x' τ → LB G nm 1373 i [] τ) : LB G nm 1144 i [] σ := by
  refine A.al1 iL_1144 ?_
  refine A.alS iL_1145 ?_
  refine A.il3 iL_1146 ?_
  refine A.iconst (v := nI 1) iL_1147 (by decide) ?_
  refine A.iaddN iL_1148 ?_
  refine A.sld iL_1149 (by omega) hL ?_
  refine A.alS iL_1150 ?_
  refine A.il3 iL_1151 ?_
  refine A.iconst (v := nI 2) iL_1152 (by decide) ?_
  refine A.iaddN iL_1153 ?_
  refine A.sld iL_1154 (by omega) hL ?_
  refine A.alS iL_1155 ?_
  refine A.il3 iL_1156 ?_
  refine A.iconst (v := nI 3) iL_1157 (by decide) ?_
  refine A.iaddN iL_1158 ?_
  refine A.sld iL_1159 (by omega) hL ?_
  refine A.alS iL_1160 ?_
  refine A.il3 iL_1161 ?_
  refine A.iconst (v := nI 4) iL_1162 (by decide) ?_
  refine A.iaddN iL_1163 ?_
  refine A.sld iL_1164 (by omega) hL ?_
  refine A.cVi4 iL_1165 oX4_lay kL_140 ko0 (aX4_lay hC (fun τ1 yC yF => ?_))
  refine A.al2 iL_1168 ?_
  refine A.alS iL_1169 ?_
  refine A.il3 iL_1170 ?_
  refine A.iconst (v := nI 1) iL_1171 (by decide) ?_
  refine A.iaddN iL_1172 ?_
  refine A.sld iL_1173 (by omega) hL ?_
  refine A.alS iL_1174 ?_
  refine A.il3 iL_1175 ?_
  refine A.iconst (v := nI 2) iL_1176 (by decide) ?_
  refine A.iaddN iL_1177 ?_
  refine A.sld iL_1178 (by omega) hL ?_
  refine A.alS iL_1179 ?_
  refine A.il3 iL_1180 ?_
  refine A.iconst (v := nI 3) iL_1181 (by decide) ?_
  refine A.iaddN iL_1182 ?_
  refine A.sld iL_1183 (by omega) hL ?_
  refine A.alS iL_1184 ?_
  refine A.il3 iL_1185 ?_
  refine A.iconst (v := nI 4) iL_1186 (by decide) ?_
  refine A.iaddN iL_1187 ?_
  refine A.sld iL_1188 (by omega) hL ?_
  refine A.cVi4 iL_1189 oX5_lay kL_143 ko42 (aX5_lay (MI.fm yF hM) (fun τ2 yM yG => ?_))
  exact A.icmp_eq iL_1192 (fun _ => kk _ τ2 (CI.cgm yG yC) yM) (fun yn => absurd rfl yn)
set_option maxRecDepth 100000 in
set_option maxHeartbeats 4000000 in
theorem lc_31 {G : GW} {nm : String} {i : Nat} {x : XS} {σ : St} (hL : (gX G).2.1 ≤ 3072) (hi : i + 6 ≤ (gX G).2.1) (hC : CI x σ) (hM : MI x σ) (kk : ∀ (x' : XS) (τ : St), CI x' τ → MI x' τ → LB G nm 1373 i [] τ) : LB G nm 1197 i [] σ := by
  refine A.al1 iL_1197 ?_
  refine A.alS iL_1198 ?_
  refine A.il3 iL_1199 ?_
  refine A.iconst (v := nI 1) iL_1200 (by decide) ?_
  refine A.iaddN iL_1201 ?_
  refine A.sld iL_1202 (by omega) hL ?_
  refine A.alS iL_1203 ?_
  refine A.il3 iL_1204 ?_
  refine A.iconst (v := nI 2) iL_1205 (by decide) ?_
  refine A.iaddN iL_1206 ?_
  refine A.sld iL_1207 (by omega) hL ?_
  refine A.alS iL_1208 ?_
  refine A.il3 iL_1209 ?_
  refine A.iconst (v := nI 3) iL_1210 (by decide) ?_
  refine A.iaddN iL_1211 ?_
  refine A.sld iL_1212 (by omega) hL ?_
  refine A.cVi3 iL_1213 oX4_get kL_144 ko0 (aX4_get hC (fun τ1 yC yF => ?_))
  refine A.al2 iL_1216 ?_
  refine A.alS iL_1217 ?_
  refine A.il3 iL_1218 ?_
  refine A.iconst (v := nI 1) iL_1219 (by decide) ?_
  refine A.iaddN iL_1220 ?_
  refine A.sld iL_1221 (by omega) hL ?_
  refine A.alS iL_1222 ?_
  refine A.il3 iL_1223 ?_
  refine A.iconst (v := nI 2) iL_1224 (by decide) ?_
  refine A.iaddN iL_1225 ?_
  refine A.sld iL_1226 (by omega) hL ?_
  refine A.alS iL_1227 ?_
  refine A.il3 iL_1228 ?_
  refine A.iconst (v := nI 3) iL_1229 (by decide) ?_
  refine A.iaddN iL_1230 ?_
  refine A.sld iL_1231 (by omega) hL ?_
  refine A.cVi3 iL_1232 oX5_get kL_147 ko42 (aX5_get (MI.fm yF hM) (fun τ2 yM yG => ?_))
  exact A.icmp_eq iL_1235 (fun _ => kk _ τ2 (CI.cgm yG yC) yM) (fun yn => absurd rfl yn)
set_option maxRecDepth 100000 in
set_option maxHeartbeats 4000000 in
theorem lc_32 {G : GW} {nm : String} {i : Nat} {x : XS} {σ : St} (hL : (gX G).2.1 ≤ 3072) (hi : i + 6 ≤ (gX G).2.1) (hC : CI x σ) (hM : MI x σ) (kk : ∀ (x' : XS) (τ : St), CI x' τ → MI x' τ → LB G nm 1373 i [] τ) : LB G nm 1240 i [] σ := by
  refine A.al1 iL_1240 ?_
  refine A.alS iL_1241 ?_
  refine A.il3 iL_1242 ?_
  refine A.iconst (v := nI 1) iL_1243 (by decide) ?_
  refine A.iaddN iL_1244 ?_
  refine A.sld iL_1245 (by omega) hL ?_
  refine A.alS iL_1246 ?_
  refine A.il3 iL_1247 ?_
  refine A.iconst (v := nI 2) iL_1248 (by decide) ?_
  refine A.iaddN iL_1249 ?_
  refine A.sld iL_1250 (by omega) hL ?_
  refine A.alS iL_1251 ?_
  refine A.il3 iL_1252 ?_
  refine A.iconst (v := nI 3) iL_1253 (by decide) ?_
  refine A.iaddN iL_1254 ?_
  refine A.sld iL_1255 (by omega) hL ?_
  refine A.alS iL_1256 ?_
  refine A.il3 iL_1257 ?_
  refine A.iconst (v := nI 4) iL_1258 (by decide) ?_
  refine A.iaddN iL_1259 ?_
  refine A.sld iL_1260 (by omega) hL ?_
  refine A.alS iL_1261 ?_
  refine A.il3 iL_1262 ?_
  refine A.iconst (v := nI 5) iL_1263 (by decide) ?_
  refine A.iaddN iL_1264 ?_
  refine A.sld iL_1265 (by omega) hL ?_
  refine A.cVi5 iL_1266 oX4_copy kL_148 ko0 (aX4_copy hC (fun τ1 yC yF => ?_))
  refine A.al2 iL_1269 ?_
  refine A.alS iL_1270 ?_
  refine A.il3 iL_1271 ?_
  refine A.iconst (v := nI 1) iL_1272 (by decide) ?_
  refine A.iaddN iL_1273 ?_
  refine A.sld iL_1274 (by omega) hL ?_
  refine A.alS iL_1275 ?_
  refine A.il3 iL_1276 ?_
  refine A.iconst (v := nI 2) iL_1277 (by decide) ?_
  refine A.iaddN iL_1278 ?_
  refine A.sld iL_1279 (by omega) hL ?_
  refine A.alS iL_1280 ?_
  refine A.il3 iL_1281 ?_
  refine A.iconst (v := nI 3) iL_1282 (by decide) ?_
  refine A.iaddN iL_1283 ?_
  refine A.sld iL_1284 (by omega) hL ?_
  refine A.alS iL_1285 ?_
  refine A.il3 iL_1286 ?_
  refine A.iconst (v := nI 4) iL_1287 (by decide) ?_
  refine A.iaddN iL_1288 ?_
  refine A.sld iL_1289 (by omega) hL ?_
  refine A.alS iL_1290 ?_
  refine A.il3 iL_1291 ?_
  refine A.iconst (v := nI 5) iL_1292 (by decide) ?_
  refine A.iaddN iL_1293 ?_
  refine A.sld iL_1294 (by omega) hL ?_
  refine A.cVi5 iL_1295 oX5_copy kL_152 ko42 (aX5_copy (MI.fm yF hM) (fun τ2 yM yG => ?_))
  exact A.icmp_eq iL_1298 (fun _ => kk _ τ2 (CI.cgm yG yC) yM) (fun yn => absurd rfl yn)
set_option maxRecDepth 100000 in
set_option maxHeartbeats 4000000 in
theorem lc_33 {G : GW} {nm : String} {i : Nat} {x : XS} {σ : St} (hL : (gX G).2.1 ≤ 3072) (hi : i + 6 ≤ (gX G).2.1) (hC : CI x σ) (hM : MI x σ) (kk : ∀ (x' : XS) (τ : St), CI x' τ → MI x' τ → LB G nm 1373 i [] τ) : LB G nm 1303 i [] σ := by
  refine A.al1 iL_1303 ?_
  refine A.alS iL_1304 ?_
  refine A.il3 iL_1305 ?_
  refine A.iconst (v := nI 1) iL_1306 (by decide) ?_
  refine A.iaddN iL_1307 ?_
  refine A.sld iL_1308 (by omega) hL ?_
  refine A.alS iL_1309 ?_
  refine A.il3 iL_1310 ?_
  refine A.iconst (v := nI 2) iL_1311 (by decide) ?_
  refine A.iaddN iL_1312 ?_
  refine A.sld iL_1313 (by omega) hL ?_
  refine A.cVi2 iL_1314 oX4_write kL_153 ko0 (aX4_write hC (fun τ1 yC yF => ?_))
  refine A.al2 iL_1317 ?_
  refine A.alS iL_1318 ?_
  refine A.il3 iL_1319 ?_
  refine A.iconst (v := nI 1) iL_1320 (by decide) ?_
  refine A.iaddN iL_1321 ?_
  refine A.sld iL_1322 (by omega) hL ?_
  refine A.alS iL_1323 ?_
  refine A.il3 iL_1324 ?_
  refine A.iconst (v := nI 2) iL_1325 (by decide) ?_
  refine A.iaddN iL_1326 ?_
  refine A.sld iL_1327 (by omega) hL ?_
  refine A.cVi2 iL_1328 oX5_write kL_156 ko42 (aX5_write (MI.fm yF hM) (fun τ2 yM yG => ?_))
  exact A.icmp_eq iL_1331 (fun _ => kk _ τ2 (CI.cgm yG yC) yM) (fun yn => absurd rfl yn)
set_option maxRecDepth 100000 in
set_option maxHeartbeats 4000000 in
theorem lc_34 {G : GW} {nm : String} {i : Nat} {x : XS} {σ : St} (hL : (gX G).2.1 ≤ 3072) (hi : i + 6 ≤ (gX G).2.1) (hC : CI x σ) (hM : MI x σ) (kk : ∀ (x' : XS) (τ : St), CI x' τ → MI x' τ → LB G nm 1373 i [] τ) : LB G nm 1336 i [] σ := by
  refine A.al1 iL_1336 ?_
  refine A.alS iL_1337 ?_
  refine A.il3 iL_1338 ?_
  refine A.iconst (v := nI 1) iL_1339 (by decide) ?_
  refine A.iaddN iL_1340 ?_
  refine A.sld iL_1341 (by omega) hL ?_
  refine A.cVi1 iL_1342 oX4_count kL_157 ko0 (aX4_count hC (fun τ1 yC yF => ?_))
  refine A.al2 iL_1345 ?_
  refine A.alS iL_1346 ?_
  refine A.il3 iL_1347 ?_
  refine A.iconst (v := nI 1) iL_1348 (by decide) ?_
  refine A.iaddN iL_1349 ?_
  refine A.sld iL_1350 (by omega) hL ?_
  refine A.cVi1 iL_1351 oX5_count kL_160 ko42 (aX5_count (MI.fm yF hM) (fun τ2 yM yG => ?_))
  exact A.icmp_eq iL_1354 (fun _ => kk _ τ2 (CI.cgm yG yC) yM) (fun yn => absurd rfl yn)
set_option maxRecDepth 100000 in
set_option maxHeartbeats 4000000 in
theorem lc_35 {G : GW} {nm : String} {i : Nat} {x : XS} {σ : St} (hL : (gX G).2.1 ≤ 3072) (hi : i + 6 ≤ (gX G).2.1) (hC : CI x σ) (hM : MI x σ) (kk : ∀ (x' : XS) (τ : St), CI x' τ → MI x' τ → LB G nm 1373 i [] τ) : LB G nm 1359 i [] σ := by
  refine A.al1 iL_1359 ?_
  refine A.cVl0 iL_1360 oX4_digest kL_161 ko0 (sX4_digest hC (fun τ1 yC yF => ?_))
  refine A.al2 iL_1363 ?_
  refine A.cVl0 iL_1364 oX5_digest kL_165 ko42 (aX5_digest (MI.fm yF hM) (fun τ2 yM yG => ?_))
  refine A.lcmp iL_1367 ?_
  exact A.if_eq iL_1368 (fun _ => kk _ τ2 (CI.cgm yG yC) yM) (fun yn => absurd (lg0.mpr rfl) yn)
