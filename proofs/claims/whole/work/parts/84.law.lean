/-! ===== the law: its cases, its loop ===== -/
def LQ : Option Value → Shp → Mem → Prop := fun r _ _ => r = some (.int 1)
abbrev LL (j : Nat) : List (Option Value) := [some (.ref 1000000), some (.ref 0), some (.ref 55), some (.int (nI (6 * j)))]
/-- behind a case -/
def NX (G : GX) (nm : String) (d kc ks : Nat) (S : Shp) (j : Nat) : Prop := ∀ (S' : Shp) (I' : Mem) (tn bn : Nat) (tx : Nat → Tx), K S' I' I' tn bn tx → (S'.1 = S.1 ∨ S'.1 = S.1 + 3) → PW G RL nm cL_law 4 (some .boolean) d kc ks LQ 1468 (LL j) [] S' I'
theorem w_beggar {G : GX} {nm : String} {S : Shp} {I : Mem} {d kc ks tn bn j : Nat} {tx : Nat → Tx} (hK : K S I I tn bn tx) (hd : 120 ≤ d) (hj : 6 * j + 6 ≤ gN G) (hN : gN G ≤ 3072) (nx : NX G nm d kc ks S j) : PW G RL nm cL_law 4 (some .boolean) d kc ks LQ 208 (LL j) [] S I := by
  refine P_aload1 (pc' := 209) dL_law_208 rfl ?_
  refine P_aload0 (pc' := 210) dL_law_209 rfl ?_
  refine P_iload3 (pc' := 211) dL_law_210 rfl ?_
  refine P_iconst (pc' := 212) dL_law_211 rfl (v := 1) rfl ?_
  refine P_iadd (pc' := 213) dL_law_212 rfl ?_
  refine P_sld (pc' := 214) (j := 6 * j + 1) dL_law_213 rfl (nI_add (6 * j) 1) (by omega) (by omega) ?_
  refine P_aload0 (pc' := 215) dL_law_214 rfl ?_
  refine P_iload3 (pc' := 216) dL_law_215 rfl ?_
  refine P_iconst (pc' := 217) dL_law_216 rfl (v := 2) rfl ?_
  refine P_iadd (pc' := 218) dL_law_217 rfl ?_
  refine P_sld (pc' := 219) (j := 6 * j + 2) dL_law_218 rfl (nI_add (6 * j) 2) (by omega) (by omega) ?_
  refine P_aload0 (pc' := 220) dL_law_219 rfl ?_
  refine P_iload3 (pc' := 221) dL_law_220 rfl ?_
  refine P_iconst (pc' := 222) dL_law_221 rfl (v := 3) rfl ?_
  refine P_iadd (pc' := 223) dL_law_222 rfl ?_
  refine P_sld (pc' := 224) (j := 6 * j + 3) dL_law_223 rfl (nI_add (6 * j) 3) (by omega) (by omega) ?_
  refine P_callV3 (kc := kc) (ks := ks) (mc := 0) (ms := 0) (pc' := 227) dL_law_224 rfl lk_L_13 (l_0 hK.2.1) (t_0 hK.2.1) (x_beggar (d := 100) hK _ _ _ (by decide)).sz (by omega) (Nat.le_of_ble_eq_true rfl) (fun r S2 I2 hq => ?_)
  obtain ⟨⟨rfl, k2, f2⟩, s1, s2⟩ := hq
  refine P_aload2 (pc' := 228) dL_law_227 rfl ?_
  refine P_aload0 (pc' := 229) dL_law_228 rfl ?_
  refine P_iload3 (pc' := 230) dL_law_229 rfl ?_
  refine P_iconst (pc' := 231) dL_law_230 rfl (v := 1) rfl ?_
  refine P_iadd (pc' := 232) dL_law_231 rfl ?_
  refine P_sld (pc' := 233) (j := 6 * j + 1) dL_law_232 rfl (nI_add (6 * j) 1) (by omega) (by omega) ?_
  refine P_aload0 (pc' := 234) dL_law_233 rfl ?_
  refine P_iload3 (pc' := 235) dL_law_234 rfl ?_
  refine P_iconst (pc' := 236) dL_law_235 rfl (v := 2) rfl ?_
  refine P_iadd (pc' := 237) dL_law_236 rfl ?_
  refine P_sld (pc' := 238) (j := 6 * j + 2) dL_law_237 rfl (nI_add (6 * j) 2) (by omega) (by omega) ?_
  refine P_aload0 (pc' := 239) dL_law_238 rfl ?_
  refine P_iload3 (pc' := 240) dL_law_239 rfl ?_
  refine P_iconst (pc' := 241) dL_law_240 rfl (v := 3) rfl ?_
  refine P_iadd (pc' := 242) dL_law_241 rfl ?_
  refine P_sld (pc' := 243) (j := 6 * j + 3) dL_law_242 rfl (nI_add (6 * j) 3) (by omega) (by omega) ?_
  refine P_callV3 (kc := kc) (ks := ks) (mc := 0) (ms := 0) (pc' := 246) dL_law_243 rfl lk_L_17 (l_55 k2.2.1) (t_55 k2.2.1) (r_beggar (d := 100) hK.1 k2.2.1 f2 _ _ _ (by decide)) (by omega) (Nat.le_of_ble_eq_true rfl) (fun r S3 I3 hq => ?_)
  obtain ⟨rfl, rfl, re, f3⟩ := hq
  refine P_icmp_eq (tgt := 1468) (pc' := 249) dL_law_246 rfl rfl (fun _ => nx _ _ _ _ _ (k2.nxt re f3) (Or.inl (by omega))) (fun h => absurd rfl h)
theorem w_told {G : GX} {nm : String} {S : Shp} {I : Mem} {d kc ks tn bn j : Nat} {tx : Nat → Tx} (hK : K S I I tn bn tx) (hd : 120 ≤ d) (hj : 6 * j + 6 ≤ gN G) (hN : gN G ≤ 3072) (nx : NX G nm d kc ks S j) : PW G RL nm cL_law 4 (some .boolean) d kc ks LQ 251 (LL j) [] S I := by
  refine P_aload1 (pc' := 252) dL_law_251 rfl ?_
  refine P_aload0 (pc' := 253) dL_law_252 rfl ?_
  refine P_iload3 (pc' := 254) dL_law_253 rfl ?_
  refine P_iconst (pc' := 255) dL_law_254 rfl (v := 1) rfl ?_
  refine P_iadd (pc' := 256) dL_law_255 rfl ?_
  refine P_sld (pc' := 257) (j := 6 * j + 1) dL_law_256 rfl (nI_add (6 * j) 1) (by omega) (by omega) ?_
  refine P_aload0 (pc' := 258) dL_law_257 rfl ?_
  refine P_iload3 (pc' := 259) dL_law_258 rfl ?_
  refine P_iconst (pc' := 260) dL_law_259 rfl (v := 2) rfl ?_
  refine P_iadd (pc' := 261) dL_law_260 rfl ?_
  refine P_sld (pc' := 262) (j := 6 * j + 2) dL_law_261 rfl (nI_add (6 * j) 2) (by omega) (by omega) ?_
  refine P_callV2 (kc := kc) (ks := ks) (mc := 0) (ms := 0) (pc' := 265) dL_law_262 rfl lk_L_18 (l_0 hK.2.1) (t_0 hK.2.1) (x_told (d := 100) hK _ _ (by decide)).sz (by omega) (Nat.le_of_ble_eq_true rfl) (fun r S2 I2 hq => ?_)
  obtain ⟨⟨rfl, k2, f2⟩, s1, s2⟩ := hq
  refine P_aload2 (pc' := 266) dL_law_265 rfl ?_
  refine P_aload0 (pc' := 267) dL_law_266 rfl ?_
  refine P_iload3 (pc' := 268) dL_law_267 rfl ?_
  refine P_iconst (pc' := 269) dL_law_268 rfl (v := 1) rfl ?_
  refine P_iadd (pc' := 270) dL_law_269 rfl ?_
  refine P_sld (pc' := 271) (j := 6 * j + 1) dL_law_270 rfl (nI_add (6 * j) 1) (by omega) (by omega) ?_
  refine P_aload0 (pc' := 272) dL_law_271 rfl ?_
  refine P_iload3 (pc' := 273) dL_law_272 rfl ?_
  refine P_iconst (pc' := 274) dL_law_273 rfl (v := 2) rfl ?_
  refine P_iadd (pc' := 275) dL_law_274 rfl ?_
  refine P_sld (pc' := 276) (j := 6 * j + 2) dL_law_275 rfl (nI_add (6 * j) 2) (by omega) (by omega) ?_
  refine P_callV2 (kc := kc) (ks := ks) (mc := 0) (ms := 0) (pc' := 279) dL_law_276 rfl lk_L_22 (l_55 k2.2.1) (t_55 k2.2.1) (r_told (d := 100) hK.1 k2.2.1 f2 _ _ (by decide)) (by omega) (Nat.le_of_ble_eq_true rfl) (fun r S3 I3 hq => ?_)
  obtain ⟨rfl, rfl, re, f3⟩ := hq
  refine P_icmp_eq (tgt := 1468) (pc' := 282) dL_law_279 rfl rfl (fun _ => nx _ _ _ _ _ (k2.nxt re f3) (Or.inl (by omega))) (fun h => absurd rfl h)
theorem w_given {G : GX} {nm : String} {S : Shp} {I : Mem} {d kc ks tn bn j : Nat} {tx : Nat → Tx} (hK : K S I I tn bn tx) (hd : 120 ≤ d) (hj : 6 * j + 6 ≤ gN G) (hN : gN G ≤ 3072) (nx : NX G nm d kc ks S j) : PW G RL nm cL_law 4 (some .boolean) d kc ks LQ 284 (LL j) [] S I := by
  refine P_aload1 (pc' := 285) dL_law_284 rfl ?_
  refine P_aload0 (pc' := 286) dL_law_285 rfl ?_
  refine P_iload3 (pc' := 287) dL_law_286 rfl ?_
  refine P_iconst (pc' := 288) dL_law_287 rfl (v := 1) rfl ?_
  refine P_iadd (pc' := 289) dL_law_288 rfl ?_
  refine P_sld (pc' := 290) (j := 6 * j + 1) dL_law_289 rfl (nI_add (6 * j) 1) (by omega) (by omega) ?_
  refine P_aload0 (pc' := 291) dL_law_290 rfl ?_
  refine P_iload3 (pc' := 292) dL_law_291 rfl ?_
  refine P_iconst (pc' := 293) dL_law_292 rfl (v := 2) rfl ?_
  refine P_iadd (pc' := 294) dL_law_293 rfl ?_
  refine P_sld (pc' := 295) (j := 6 * j + 2) dL_law_294 rfl (nI_add (6 * j) 2) (by omega) (by omega) ?_
  refine P_aload0 (pc' := 296) dL_law_295 rfl ?_
  refine P_iload3 (pc' := 297) dL_law_296 rfl ?_
  refine P_iconst (pc' := 298) dL_law_297 rfl (v := 3) rfl ?_
  refine P_iadd (pc' := 299) dL_law_298 rfl ?_
  refine P_sld (pc' := 300) (j := 6 * j + 3) dL_law_299 rfl (nI_add (6 * j) 3) (by omega) (by omega) ?_
  refine P_aload0 (pc' := 301) dL_law_300 rfl ?_
  refine P_iload3 (pc' := 302) dL_law_301 rfl ?_
  refine P_iconst (pc' := 303) dL_law_302 rfl (v := 4) rfl ?_
  refine P_iadd (pc' := 304) dL_law_303 rfl ?_
  refine P_sld (pc' := 305) (j := 6 * j + 4) dL_law_304 rfl (nI_add (6 * j) 4) (by omega) (by omega) ?_
  refine P_callV4 (kc := kc) (ks := ks) (mc := 0) (ms := 0) (pc' := 308) dL_law_305 rfl lk_L_23 (l_0 hK.2.1) (t_0 hK.2.1) (x_given (d := 100) hK _ _ _ _ (by decide)).sz (by omega) (Nat.le_of_ble_eq_true rfl) (fun r S2 I2 hq => ?_)
  obtain ⟨⟨rfl, k2, f2⟩, s1, s2⟩ := hq
  refine P_aload2 (pc' := 309) dL_law_308 rfl ?_
  refine P_aload0 (pc' := 310) dL_law_309 rfl ?_
  refine P_iload3 (pc' := 311) dL_law_310 rfl ?_
  refine P_iconst (pc' := 312) dL_law_311 rfl (v := 1) rfl ?_
  refine P_iadd (pc' := 313) dL_law_312 rfl ?_
  refine P_sld (pc' := 314) (j := 6 * j + 1) dL_law_313 rfl (nI_add (6 * j) 1) (by omega) (by omega) ?_
  refine P_aload0 (pc' := 315) dL_law_314 rfl ?_
  refine P_iload3 (pc' := 316) dL_law_315 rfl ?_
  refine P_iconst (pc' := 317) dL_law_316 rfl (v := 2) rfl ?_
  refine P_iadd (pc' := 318) dL_law_317 rfl ?_
  refine P_sld (pc' := 319) (j := 6 * j + 2) dL_law_318 rfl (nI_add (6 * j) 2) (by omega) (by omega) ?_
  refine P_aload0 (pc' := 320) dL_law_319 rfl ?_
  refine P_iload3 (pc' := 321) dL_law_320 rfl ?_
  refine P_iconst (pc' := 322) dL_law_321 rfl (v := 3) rfl ?_
  refine P_iadd (pc' := 323) dL_law_322 rfl ?_
  refine P_sld (pc' := 324) (j := 6 * j + 3) dL_law_323 rfl (nI_add (6 * j) 3) (by omega) (by omega) ?_
  refine P_aload0 (pc' := 325) dL_law_324 rfl ?_
  refine P_iload3 (pc' := 326) dL_law_325 rfl ?_
  refine P_iconst (pc' := 327) dL_law_326 rfl (v := 4) rfl ?_
  refine P_iadd (pc' := 328) dL_law_327 rfl ?_
  refine P_sld (pc' := 329) (j := 6 * j + 4) dL_law_328 rfl (nI_add (6 * j) 4) (by omega) (by omega) ?_
  refine P_callV4 (kc := kc) (ks := ks) (mc := 0) (ms := 0) (pc' := 332) dL_law_329 rfl lk_L_27 (l_55 k2.2.1) (t_55 k2.2.1) (r_given (d := 100) hK.1 k2.2.1 f2 _ _ _ _ (by decide)) (by omega) (Nat.le_of_ble_eq_true rfl) (fun r S3 I3 hq => ?_)
  obtain ⟨rfl, rfl, re, f3⟩ := hq
  refine P_icmp_eq (tgt := 1468) (pc' := 335) dL_law_332 rfl rfl (fun _ => nx _ _ _ _ _ (k2.nxt re f3) (Or.inl (by omega))) (fun h => absurd rfl h)
theorem w_as {G : GX} {nm : String} {S : Shp} {I : Mem} {d kc ks tn bn j : Nat} {tx : Nat → Tx} (hK : K S I I tn bn tx) (hd : 120 ≤ d) (hj : 6 * j + 6 ≤ gN G) (hN : gN G ≤ 3072) (nx : NX G nm d kc ks S j) : PW G RL nm cL_law 4 (some .boolean) d kc ks LQ 337 (LL j) [] S I := by
  refine P_aload1 (pc' := 338) dL_law_337 rfl ?_
  refine P_aload0 (pc' := 339) dL_law_338 rfl ?_
  refine P_iload3 (pc' := 340) dL_law_339 rfl ?_
  refine P_iconst (pc' := 341) dL_law_340 rfl (v := 1) rfl ?_
  refine P_iadd (pc' := 342) dL_law_341 rfl ?_
  refine P_sld (pc' := 343) (j := 6 * j + 1) dL_law_342 rfl (nI_add (6 * j) 1) (by omega) (by omega) ?_
  refine P_aload0 (pc' := 344) dL_law_343 rfl ?_
  refine P_iload3 (pc' := 345) dL_law_344 rfl ?_
  refine P_iconst (pc' := 346) dL_law_345 rfl (v := 2) rfl ?_
  refine P_iadd (pc' := 347) dL_law_346 rfl ?_
  refine P_sld (pc' := 348) (j := 6 * j + 2) dL_law_347 rfl (nI_add (6 * j) 2) (by omega) (by omega) ?_
  refine P_callV2 (kc := kc) (ks := ks) (mc := 0) (ms := 0) (pc' := 351) dL_law_348 rfl lk_L_28 (l_0 hK.2.1) (t_0 hK.2.1) (x_as (d := 100) hK _ _ (by decide)).sz (by omega) (Nat.le_of_ble_eq_true rfl) (fun r S2 I2 hq => ?_)
  obtain ⟨⟨rfl, k2, f2⟩, s1, s2⟩ := hq
  refine P_aload2 (pc' := 352) dL_law_351 rfl ?_
  refine P_aload0 (pc' := 353) dL_law_352 rfl ?_
  refine P_iload3 (pc' := 354) dL_law_353 rfl ?_
  refine P_iconst (pc' := 355) dL_law_354 rfl (v := 1) rfl ?_
  refine P_iadd (pc' := 356) dL_law_355 rfl ?_
  refine P_sld (pc' := 357) (j := 6 * j + 1) dL_law_356 rfl (nI_add (6 * j) 1) (by omega) (by omega) ?_
  refine P_aload0 (pc' := 358) dL_law_357 rfl ?_
  refine P_iload3 (pc' := 359) dL_law_358 rfl ?_
  refine P_iconst (pc' := 360) dL_law_359 rfl (v := 2) rfl ?_
  refine P_iadd (pc' := 361) dL_law_360 rfl ?_
  refine P_sld (pc' := 362) (j := 6 * j + 2) dL_law_361 rfl (nI_add (6 * j) 2) (by omega) (by omega) ?_
  refine P_callV2 (kc := kc) (ks := ks) (mc := 0) (ms := 0) (pc' := 365) dL_law_362 rfl lk_L_31 (l_55 k2.2.1) (t_55 k2.2.1) (r_as (d := 100) hK.1 k2.2.1 f2 _ _ (by decide)) (by omega) (Nat.le_of_ble_eq_true rfl) (fun r S3 I3 hq => ?_)
  obtain ⟨rfl, rfl, re, f3⟩ := hq
  refine P_icmp_eq (tgt := 1468) (pc' := 368) dL_law_365 rfl rfl (fun _ => nx _ _ _ _ _ (k2.nxt re f3) (Or.inl (by omega))) (fun h => absurd rfl h)
theorem w_turns {G : GX} {nm : String} {S : Shp} {I : Mem} {d kc ks tn bn j : Nat} {tx : Nat → Tx} (hK : K S I I tn bn tx) (hd : 120 ≤ d) (hj : 6 * j + 6 ≤ gN G) (hN : gN G ≤ 3072) (nx : NX G nm d kc ks S j) : PW G RL nm cL_law 4 (some .boolean) d kc ks LQ 370 (LL j) [] S I := by
  refine P_aload1 (pc' := 371) dL_law_370 rfl ?_
  refine P_aload0 (pc' := 372) dL_law_371 rfl ?_
  refine P_iload3 (pc' := 373) dL_law_372 rfl ?_
  refine P_iconst (pc' := 374) dL_law_373 rfl (v := 1) rfl ?_
  refine P_iadd (pc' := 375) dL_law_374 rfl ?_
  refine P_sld (pc' := 376) (j := 6 * j + 1) dL_law_375 rfl (nI_add (6 * j) 1) (by omega) (by omega) ?_
  refine P_aload0 (pc' := 377) dL_law_376 rfl ?_
  refine P_iload3 (pc' := 378) dL_law_377 rfl ?_
  refine P_iconst (pc' := 379) dL_law_378 rfl (v := 2) rfl ?_
  refine P_iadd (pc' := 380) dL_law_379 rfl ?_
  refine P_sld (pc' := 381) (j := 6 * j + 2) dL_law_380 rfl (nI_add (6 * j) 2) (by omega) (by omega) ?_
  refine P_callV2 (kc := kc) (ks := ks) (mc := 0) (ms := 0) (pc' := 384) dL_law_381 rfl lk_L_32 (l_0 hK.2.1) (t_0 hK.2.1) (x_turns (d := 100) hK _ _ (by decide)).sz (by omega) (Nat.le_of_ble_eq_true rfl) (fun r S2 I2 hq => ?_)
  obtain ⟨⟨rfl, k2, f2⟩, s1, s2⟩ := hq
  refine P_aload2 (pc' := 385) dL_law_384 rfl ?_
  refine P_aload0 (pc' := 386) dL_law_385 rfl ?_
  refine P_iload3 (pc' := 387) dL_law_386 rfl ?_
  refine P_iconst (pc' := 388) dL_law_387 rfl (v := 1) rfl ?_
  refine P_iadd (pc' := 389) dL_law_388 rfl ?_
  refine P_sld (pc' := 390) (j := 6 * j + 1) dL_law_389 rfl (nI_add (6 * j) 1) (by omega) (by omega) ?_
  refine P_aload0 (pc' := 391) dL_law_390 rfl ?_
  refine P_iload3 (pc' := 392) dL_law_391 rfl ?_
  refine P_iconst (pc' := 393) dL_law_392 rfl (v := 2) rfl ?_
  refine P_iadd (pc' := 394) dL_law_393 rfl ?_
  refine P_sld (pc' := 395) (j := 6 * j + 2) dL_law_394 rfl (nI_add (6 * j) 2) (by omega) (by omega) ?_
  refine P_callV2 (kc := kc) (ks := ks) (mc := 0) (ms := 0) (pc' := 398) dL_law_395 rfl lk_L_35 (l_55 k2.2.1) (t_55 k2.2.1) (r_turns (d := 100) hK.1 k2.2.1 f2 _ _ (by decide)) (by omega) (Nat.le_of_ble_eq_true rfl) (fun r S3 I3 hq => ?_)
  obtain ⟨rfl, rfl, re, f3⟩ := hq
  refine P_icmp_eq (tgt := 1468) (pc' := 401) dL_law_398 rfl rfl (fun _ => nx _ _ _ _ _ (k2.nxt re f3) (Or.inl (by omega))) (fun h => absurd rfl h)
theorem w_set {G : GX} {nm : String} {S : Shp} {I : Mem} {d kc ks tn bn j : Nat} {tx : Nat → Tx} (hK : K S I I tn bn tx) (hd : 120 ≤ d) (hj : 6 * j + 6 ≤ gN G) (hN : gN G ≤ 3072) (nx : NX G nm d kc ks S j) : PW G RL nm cL_law 4 (some .boolean) d kc ks LQ 403 (LL j) [] S I := by
  refine P_aload1 (pc' := 404) dL_law_403 rfl ?_
  refine P_aload0 (pc' := 405) dL_law_404 rfl ?_
  refine P_iload3 (pc' := 406) dL_law_405 rfl ?_
  refine P_iconst (pc' := 407) dL_law_406 rfl (v := 1) rfl ?_
  refine P_iadd (pc' := 408) dL_law_407 rfl ?_
  refine P_sld (pc' := 409) (j := 6 * j + 1) dL_law_408 rfl (nI_add (6 * j) 1) (by omega) (by omega) ?_
  refine P_aload0 (pc' := 410) dL_law_409 rfl ?_
  refine P_iload3 (pc' := 411) dL_law_410 rfl ?_
  refine P_iconst (pc' := 412) dL_law_411 rfl (v := 2) rfl ?_
  refine P_iadd (pc' := 413) dL_law_412 rfl ?_
  refine P_sld (pc' := 414) (j := 6 * j + 2) dL_law_413 rfl (nI_add (6 * j) 2) (by omega) (by omega) ?_
  refine P_aload0 (pc' := 415) dL_law_414 rfl ?_
  refine P_iload3 (pc' := 416) dL_law_415 rfl ?_
  refine P_iconst (pc' := 417) dL_law_416 rfl (v := 3) rfl ?_
  refine P_iadd (pc' := 418) dL_law_417 rfl ?_
  refine P_sld (pc' := 419) (j := 6 * j + 3) dL_law_418 rfl (nI_add (6 * j) 3) (by omega) (by omega) ?_
  refine P_callV3 (kc := kc) (ks := ks) (mc := 0) (ms := 0) (pc' := 422) dL_law_419 rfl lk_L_36 (l_0 hK.2.1) (t_0 hK.2.1) (x_set (d := 100) hK _ _ _ (by decide)).sz (by omega) (Nat.le_of_ble_eq_true rfl) (fun r S2 I2 hq => ?_)
  obtain ⟨⟨rfl, k2, f2⟩, s1, s2⟩ := hq
  refine P_aload2 (pc' := 423) dL_law_422 rfl ?_
  refine P_aload0 (pc' := 424) dL_law_423 rfl ?_
  refine P_iload3 (pc' := 425) dL_law_424 rfl ?_
  refine P_iconst (pc' := 426) dL_law_425 rfl (v := 1) rfl ?_
  refine P_iadd (pc' := 427) dL_law_426 rfl ?_
  refine P_sld (pc' := 428) (j := 6 * j + 1) dL_law_427 rfl (nI_add (6 * j) 1) (by omega) (by omega) ?_
  refine P_aload0 (pc' := 429) dL_law_428 rfl ?_
  refine P_iload3 (pc' := 430) dL_law_429 rfl ?_
  refine P_iconst (pc' := 431) dL_law_430 rfl (v := 2) rfl ?_
  refine P_iadd (pc' := 432) dL_law_431 rfl ?_
  refine P_sld (pc' := 433) (j := 6 * j + 2) dL_law_432 rfl (nI_add (6 * j) 2) (by omega) (by omega) ?_
  refine P_aload0 (pc' := 434) dL_law_433 rfl ?_
  refine P_iload3 (pc' := 435) dL_law_434 rfl ?_
  refine P_iconst (pc' := 436) dL_law_435 rfl (v := 3) rfl ?_
  refine P_iadd (pc' := 437) dL_law_436 rfl ?_
  refine P_sld (pc' := 438) (j := 6 * j + 3) dL_law_437 rfl (nI_add (6 * j) 3) (by omega) (by omega) ?_
  refine P_callV3 (kc := kc) (ks := ks) (mc := 0) (ms := 0) (pc' := 441) dL_law_438 rfl lk_L_39 (l_55 k2.2.1) (t_55 k2.2.1) (r_set (d := 100) hK.1 k2.2.1 f2 _ _ _ (by decide)) (by omega) (Nat.le_of_ble_eq_true rfl) (fun r S3 I3 hq => ?_)
  obtain ⟨rfl, rfl, re, f3⟩ := hq
  refine P_icmp_eq (tgt := 1468) (pc' := 444) dL_law_441 rfl rfl (fun _ => nx _ _ _ _ _ (k2.nxt re f3) (Or.inl (by omega))) (fun h => absurd rfl h)
theorem w_rent {G : GX} {nm : String} {S : Shp} {I : Mem} {d kc ks tn bn j : Nat} {tx : Nat → Tx} (hK : K S I I tn bn tx) (hd : 120 ≤ d) (hj : 6 * j + 6 ≤ gN G) (hN : gN G ≤ 3072) (nx : NX G nm d kc ks S j) : PW G RL nm cL_law 4 (some .boolean) d kc ks LQ 446 (LL j) [] S I := by
  refine P_aload1 (pc' := 447) dL_law_446 rfl ?_
  refine P_aload0 (pc' := 448) dL_law_447 rfl ?_
  refine P_iload3 (pc' := 449) dL_law_448 rfl ?_
  refine P_iconst (pc' := 450) dL_law_449 rfl (v := 1) rfl ?_
  refine P_iadd (pc' := 451) dL_law_450 rfl ?_
  refine P_sld (pc' := 452) (j := 6 * j + 1) dL_law_451 rfl (nI_add (6 * j) 1) (by omega) (by omega) ?_
  refine P_aload0 (pc' := 453) dL_law_452 rfl ?_
  refine P_iload3 (pc' := 454) dL_law_453 rfl ?_
  refine P_iconst (pc' := 455) dL_law_454 rfl (v := 2) rfl ?_
  refine P_iadd (pc' := 456) dL_law_455 rfl ?_
  refine P_sld (pc' := 457) (j := 6 * j + 2) dL_law_456 rfl (nI_add (6 * j) 2) (by omega) (by omega) ?_
  refine P_callV2 (kc := kc) (ks := ks) (mc := 0) (ms := 0) (pc' := 460) dL_law_457 rfl lk_L_40 (l_0 hK.2.1) (t_0 hK.2.1) (x_rent (d := 100) hK _ _ (by decide)).sz (by omega) (Nat.le_of_ble_eq_true rfl) (fun r S2 I2 hq => ?_)
  obtain ⟨⟨rfl, k2, f2⟩, s1, s2⟩ := hq
  refine P_aload2 (pc' := 461) dL_law_460 rfl ?_
  refine P_aload0 (pc' := 462) dL_law_461 rfl ?_
  refine P_iload3 (pc' := 463) dL_law_462 rfl ?_
  refine P_iconst (pc' := 464) dL_law_463 rfl (v := 1) rfl ?_
  refine P_iadd (pc' := 465) dL_law_464 rfl ?_
  refine P_sld (pc' := 466) (j := 6 * j + 1) dL_law_465 rfl (nI_add (6 * j) 1) (by omega) (by omega) ?_
  refine P_aload0 (pc' := 467) dL_law_466 rfl ?_
  refine P_iload3 (pc' := 468) dL_law_467 rfl ?_
  refine P_iconst (pc' := 469) dL_law_468 rfl (v := 2) rfl ?_
  refine P_iadd (pc' := 470) dL_law_469 rfl ?_
  refine P_sld (pc' := 471) (j := 6 * j + 2) dL_law_470 rfl (nI_add (6 * j) 2) (by omega) (by omega) ?_
  refine P_callV2 (kc := kc) (ks := ks) (mc := 0) (ms := 0) (pc' := 474) dL_law_471 rfl lk_L_43 (l_55 k2.2.1) (t_55 k2.2.1) (r_rent (d := 100) hK.1 k2.2.1 f2 _ _ (by decide)) (by omega) (Nat.le_of_ble_eq_true rfl) (fun r S3 I3 hq => ?_)
  obtain ⟨rfl, rfl, re, f3⟩ := hq
  refine P_icmp_eq (tgt := 1468) (pc' := 477) dL_law_474 rfl rfl (fun _ => nx _ _ _ _ _ (k2.nxt re f3) (Or.inl (by omega))) (fun h => absurd rfl h)
theorem w_rule {G : GX} {nm : String} {S : Shp} {I : Mem} {d kc ks tn bn j : Nat} {tx : Nat → Tx} (hK : K S I I tn bn tx) (hd : 120 ≤ d) (hj : 6 * j + 6 ≤ gN G) (hN : gN G ≤ 3072) (nx : NX G nm d kc ks S j) : PW G RL nm cL_law 4 (some .boolean) d kc ks LQ 479 (LL j) [] S I := by
  refine P_aload1 (pc' := 480) dL_law_479 rfl ?_
  refine P_aload0 (pc' := 481) dL_law_480 rfl ?_
  refine P_iload3 (pc' := 482) dL_law_481 rfl ?_
  refine P_iconst (pc' := 483) dL_law_482 rfl (v := 1) rfl ?_
  refine P_iadd (pc' := 484) dL_law_483 rfl ?_
  refine P_sld (pc' := 485) (j := 6 * j + 1) dL_law_484 rfl (nI_add (6 * j) 1) (by omega) (by omega) ?_
  refine P_aload0 (pc' := 486) dL_law_485 rfl ?_
  refine P_iload3 (pc' := 487) dL_law_486 rfl ?_
  refine P_iconst (pc' := 488) dL_law_487 rfl (v := 2) rfl ?_
  refine P_iadd (pc' := 489) dL_law_488 rfl ?_
  refine P_sld (pc' := 490) (j := 6 * j + 2) dL_law_489 rfl (nI_add (6 * j) 2) (by omega) (by omega) ?_
  refine P_callV2 (kc := kc) (ks := ks) (mc := 0) (ms := 0) (pc' := 493) dL_law_490 rfl lk_L_44 (l_0 hK.2.1) (t_0 hK.2.1) (x_rule (d := 100) hK _ _ (by decide)).sz (by omega) (Nat.le_of_ble_eq_true rfl) (fun r S2 I2 hq => ?_)
  obtain ⟨⟨rfl, k2, f2⟩, s1, s2⟩ := hq
  refine P_aload2 (pc' := 494) dL_law_493 rfl ?_
  refine P_aload0 (pc' := 495) dL_law_494 rfl ?_
  refine P_iload3 (pc' := 496) dL_law_495 rfl ?_
  refine P_iconst (pc' := 497) dL_law_496 rfl (v := 1) rfl ?_
  refine P_iadd (pc' := 498) dL_law_497 rfl ?_
  refine P_sld (pc' := 499) (j := 6 * j + 1) dL_law_498 rfl (nI_add (6 * j) 1) (by omega) (by omega) ?_
  refine P_aload0 (pc' := 500) dL_law_499 rfl ?_
  refine P_iload3 (pc' := 501) dL_law_500 rfl ?_
  refine P_iconst (pc' := 502) dL_law_501 rfl (v := 2) rfl ?_
  refine P_iadd (pc' := 503) dL_law_502 rfl ?_
  refine P_sld (pc' := 504) (j := 6 * j + 2) dL_law_503 rfl (nI_add (6 * j) 2) (by omega) (by omega) ?_
  refine P_callV2 (kc := kc) (ks := ks) (mc := 0) (ms := 0) (pc' := 507) dL_law_504 rfl lk_L_47 (l_55 k2.2.1) (t_55 k2.2.1) (r_rule (d := 100) hK.1 k2.2.1 f2 _ _ (by decide)) (by omega) (Nat.le_of_ble_eq_true rfl) (fun r S3 I3 hq => ?_)
  obtain ⟨rfl, rfl, re, f3⟩ := hq
  refine P_icmp_eq (tgt := 1468) (pc' := 510) dL_law_507 rfl rfl (fun _ => nx _ _ _ _ _ (k2.nxt re f3) (Or.inl (by omega))) (fun h => absurd rfl h)
theorem w_deal {G : GX} {nm : String} {S : Shp} {I : Mem} {d kc ks tn bn j : Nat} {tx : Nat → Tx} (hK : K S I I tn bn tx) (hd : 120 ≤ d) (hj : 6 * j + 6 ≤ gN G) (hN : gN G ≤ 3072) (nx : NX G nm d kc ks S j) : PW G RL nm cL_law 4 (some .boolean) d kc ks LQ 512 (LL j) [] S I := by
  refine P_aload1 (pc' := 513) dL_law_512 rfl ?_
  refine P_aload0 (pc' := 514) dL_law_513 rfl ?_
  refine P_iload3 (pc' := 515) dL_law_514 rfl ?_
  refine P_iconst (pc' := 516) dL_law_515 rfl (v := 1) rfl ?_
  refine P_iadd (pc' := 517) dL_law_516 rfl ?_
  refine P_sld (pc' := 518) (j := 6 * j + 1) dL_law_517 rfl (nI_add (6 * j) 1) (by omega) (by omega) ?_
  refine P_callV1 (kc := kc) (ks := ks) (mc := 0) (ms := 0) (pc' := 521) dL_law_518 rfl lk_L_48 (l_0 hK.2.1) (t_0 hK.2.1) (x_deal (d := 100) hK _ (by decide)).sz (by omega) (Nat.le_of_ble_eq_true rfl) (fun r S2 I2 hq => ?_)
  obtain ⟨⟨rfl, k2, f2⟩, s1, s2⟩ := hq
  refine P_aload2 (pc' := 522) dL_law_521 rfl ?_
  refine P_aload0 (pc' := 523) dL_law_522 rfl ?_
  refine P_iload3 (pc' := 524) dL_law_523 rfl ?_
  refine P_iconst (pc' := 525) dL_law_524 rfl (v := 1) rfl ?_
  refine P_iadd (pc' := 526) dL_law_525 rfl ?_
  refine P_sld (pc' := 527) (j := 6 * j + 1) dL_law_526 rfl (nI_add (6 * j) 1) (by omega) (by omega) ?_
  refine P_callV1 (kc := kc) (ks := ks) (mc := 0) (ms := 0) (pc' := 530) dL_law_527 rfl lk_L_52 (l_55 k2.2.1) (t_55 k2.2.1) (r_deal (d := 100) hK.1 k2.2.1 f2 _ (by decide)) (by omega) (Nat.le_of_ble_eq_true rfl) (fun r S3 I3 hq => ?_)
  obtain ⟨rfl, rfl, re, f3⟩ := hq
  refine P_icmp_eq (tgt := 1468) (pc' := 533) dL_law_530 rfl rfl (fun _ => nx _ _ _ _ _ (k2.nxt re f3) (Or.inl (by omega))) (fun h => absurd rfl h)
theorem w_seed {G : GX} {nm : String} {S : Shp} {I : Mem} {d kc ks tn bn j : Nat} {tx : Nat → Tx} (hK : K S I I tn bn tx) (hd : 120 ≤ d) (hj : 6 * j + 6 ≤ gN G) (hN : gN G ≤ 3072) (nx : NX G nm d kc ks S j) : PW G RL nm cL_law 4 (some .boolean) d kc ks LQ 535 (LL j) [] S I := by
  refine P_aload1 (pc' := 536) dL_law_535 rfl ?_
  refine P_aload0 (pc' := 537) dL_law_536 rfl ?_
  refine P_iload3 (pc' := 538) dL_law_537 rfl ?_
  refine P_iconst (pc' := 539) dL_law_538 rfl (v := 1) rfl ?_
  refine P_iadd (pc' := 540) dL_law_539 rfl ?_
  refine P_sld (pc' := 541) (j := 6 * j + 1) dL_law_540 rfl (nI_add (6 * j) 1) (by omega) (by omega) ?_
  refine P_callV1 (kc := kc) (ks := ks) (mc := 0) (ms := 0) (pc' := 544) dL_law_541 rfl lk_L_53 (l_0 hK.2.1) (t_0 hK.2.1) (x_seed (d := 100) hK _ (by decide)).sz (by omega) (Nat.le_of_ble_eq_true rfl) (fun r S2 I2 hq => ?_)
  obtain ⟨⟨rfl, k2, f2⟩, s1, s2⟩ := hq
  refine P_aload2 (pc' := 545) dL_law_544 rfl ?_
  refine P_aload0 (pc' := 546) dL_law_545 rfl ?_
  refine P_iload3 (pc' := 547) dL_law_546 rfl ?_
  refine P_iconst (pc' := 548) dL_law_547 rfl (v := 1) rfl ?_
  refine P_iadd (pc' := 549) dL_law_548 rfl ?_
  refine P_sld (pc' := 550) (j := 6 * j + 1) dL_law_549 rfl (nI_add (6 * j) 1) (by omega) (by omega) ?_
  refine P_callV1 (kc := kc) (ks := ks) (mc := 0) (ms := 0) (pc' := 553) dL_law_550 rfl lk_L_56 (l_55 k2.2.1) (t_55 k2.2.1) (r_seed (d := 100) hK.1 k2.2.1 f2 _ (by decide)) (by omega) (Nat.le_of_ble_eq_true rfl) (fun r S3 I3 hq => ?_)
  obtain ⟨rfl, rfl, re, f3⟩ := hq
  refine P_icmp_eq (tgt := 1468) (pc' := 556) dL_law_553 rfl rfl (fun _ => nx _ _ _ _ _ (k2.nxt re f3) (Or.inl (by omega))) (fun h => absurd rfl h)
theorem w_hours {G : GX} {nm : String} {S : Shp} {I : Mem} {d kc ks tn bn j : Nat} {tx : Nat → Tx} (hK : K S I I tn bn tx) (hd : 120 ≤ d) (hj : 6 * j + 6 ≤ gN G) (hN : gN G ≤ 3072) (nx : NX G nm d kc ks S j) : PW G RL nm cL_law 4 (some .boolean) d kc ks LQ 558 (LL j) [] S I := by
  refine P_aload1 (pc' := 559) dL_law_558 rfl ?_
  refine P_aload0 (pc' := 560) dL_law_559 rfl ?_
  refine P_iload3 (pc' := 561) dL_law_560 rfl ?_
  refine P_iconst (pc' := 562) dL_law_561 rfl (v := 1) rfl ?_
  refine P_iadd (pc' := 563) dL_law_562 rfl ?_
  refine P_sld (pc' := 564) (j := 6 * j + 1) dL_law_563 rfl (nI_add (6 * j) 1) (by omega) (by omega) ?_
  refine P_callV1 (kc := kc) (ks := ks) (mc := 0) (ms := 0) (pc' := 567) dL_law_564 rfl lk_L_57 (l_0 hK.2.1) (t_0 hK.2.1) (x_hours (d := 100) hK _ (by decide)).sz (by omega) (Nat.le_of_ble_eq_true rfl) (fun r S2 I2 hq => ?_)
  obtain ⟨⟨rfl, k2, f2⟩, s1, s2⟩ := hq
  refine P_aload2 (pc' := 568) dL_law_567 rfl ?_
  refine P_aload0 (pc' := 569) dL_law_568 rfl ?_
  refine P_iload3 (pc' := 570) dL_law_569 rfl ?_
  refine P_iconst (pc' := 571) dL_law_570 rfl (v := 1) rfl ?_
  refine P_iadd (pc' := 572) dL_law_571 rfl ?_
  refine P_sld (pc' := 573) (j := 6 * j + 1) dL_law_572 rfl (nI_add (6 * j) 1) (by omega) (by omega) ?_
  refine P_callV1 (kc := kc) (ks := ks) (mc := 0) (ms := 0) (pc' := 576) dL_law_573 rfl lk_L_60 (l_55 k2.2.1) (t_55 k2.2.1) (r_hours (d := 100) hK.1 k2.2.1 f2 _ (by decide)) (by omega) (Nat.le_of_ble_eq_true rfl) (fun r S3 I3 hq => ?_)
  obtain ⟨rfl, rfl, re, f3⟩ := hq
  refine P_icmp_eq (tgt := 1468) (pc' := 579) dL_law_576 rfl rfl (fun _ => nx _ _ _ _ _ (k2.nxt re f3) (Or.inl (by omega))) (fun h => absurd rfl h)
theorem w_guild {G : GX} {nm : String} {S : Shp} {I : Mem} {d kc ks tn bn j : Nat} {tx : Nat → Tx} (hK : K S I I tn bn tx) (hd : 120 ≤ d) (hj : 6 * j + 6 ≤ gN G) (hN : gN G ≤ 3072) (nx : NX G nm d kc ks S j) : PW G RL nm cL_law 4 (some .boolean) d kc ks LQ 581 (LL j) [] S I := by
  refine P_aload1 (pc' := 582) dL_law_581 rfl ?_
  refine P_aload0 (pc' := 583) dL_law_582 rfl ?_
  refine P_iload3 (pc' := 584) dL_law_583 rfl ?_
  refine P_iconst (pc' := 585) dL_law_584 rfl (v := 1) rfl ?_
  refine P_iadd (pc' := 586) dL_law_585 rfl ?_
  refine P_sld (pc' := 587) (j := 6 * j + 1) dL_law_586 rfl (nI_add (6 * j) 1) (by omega) (by omega) ?_
  refine P_callV1 (kc := kc) (ks := ks) (mc := 0) (ms := 0) (pc' := 590) dL_law_587 rfl lk_L_61 (l_0 hK.2.1) (t_0 hK.2.1) (x_guild (d := 100) hK _ (by decide)).sz (by omega) (Nat.le_of_ble_eq_true rfl) (fun r S2 I2 hq => ?_)
  obtain ⟨⟨rfl, k2, f2⟩, s1, s2⟩ := hq
  refine P_aload2 (pc' := 591) dL_law_590 rfl ?_
  refine P_aload0 (pc' := 592) dL_law_591 rfl ?_
  refine P_iload3 (pc' := 593) dL_law_592 rfl ?_
  refine P_iconst (pc' := 594) dL_law_593 rfl (v := 1) rfl ?_
  refine P_iadd (pc' := 595) dL_law_594 rfl ?_
  refine P_sld (pc' := 596) (j := 6 * j + 1) dL_law_595 rfl (nI_add (6 * j) 1) (by omega) (by omega) ?_
  refine P_callV1 (kc := kc) (ks := ks) (mc := 0) (ms := 0) (pc' := 599) dL_law_596 rfl lk_L_64 (l_55 k2.2.1) (t_55 k2.2.1) (r_guild (d := 100) hK.1 k2.2.1 f2 _ (by decide)) (by omega) (Nat.le_of_ble_eq_true rfl) (fun r S3 I3 hq => ?_)
  obtain ⟨rfl, rfl, re, f3⟩ := hq
  refine P_icmp_eq (tgt := 1468) (pc' := 602) dL_law_599 rfl rfl (fun _ => nx _ _ _ _ _ (k2.nxt re f3) (Or.inl (by omega))) (fun h => absurd rfl h)
theorem w_behind {G : GX} {nm : String} {S : Shp} {I : Mem} {d kc ks tn bn j : Nat} {tx : Nat → Tx} (hK : K S I I tn bn tx) (hd : 120 ≤ d) (hj : 6 * j + 6 ≤ gN G) (hN : gN G ≤ 3072) (nx : NX G nm d kc ks S j) : PW G RL nm cL_law 4 (some .boolean) d kc ks LQ 604 (LL j) [] S I := by
  refine P_aload1 (pc' := 605) dL_law_604 rfl ?_
  refine P_aload0 (pc' := 606) dL_law_605 rfl ?_
  refine P_iload3 (pc' := 607) dL_law_606 rfl ?_
  refine P_iconst (pc' := 608) dL_law_607 rfl (v := 1) rfl ?_
  refine P_iadd (pc' := 609) dL_law_608 rfl ?_
  refine P_sld (pc' := 610) (j := 6 * j + 1) dL_law_609 rfl (nI_add (6 * j) 1) (by omega) (by omega) ?_
  refine P_aload0 (pc' := 611) dL_law_610 rfl ?_
  refine P_iload3 (pc' := 612) dL_law_611 rfl ?_
  refine P_iconst (pc' := 613) dL_law_612 rfl (v := 2) rfl ?_
  refine P_iadd (pc' := 614) dL_law_613 rfl ?_
  refine P_sld (pc' := 615) (j := 6 * j + 2) dL_law_614 rfl (nI_add (6 * j) 2) (by omega) (by omega) ?_
  refine P_callV2 (kc := kc) (ks := ks) (mc := 0) (ms := 0) (pc' := 618) dL_law_615 rfl lk_L_65 (l_0 hK.2.1) (t_0 hK.2.1) (x_behind (d := 100) hK _ _ (by decide)).sz (by omega) (Nat.le_of_ble_eq_true rfl) (fun r S2 I2 hq => ?_)
  obtain ⟨⟨rfl, k2, f2⟩, s1, s2⟩ := hq
  refine P_aload2 (pc' := 619) dL_law_618 rfl ?_
  refine P_aload0 (pc' := 620) dL_law_619 rfl ?_
  refine P_iload3 (pc' := 621) dL_law_620 rfl ?_
  refine P_iconst (pc' := 622) dL_law_621 rfl (v := 1) rfl ?_
  refine P_iadd (pc' := 623) dL_law_622 rfl ?_
  refine P_sld (pc' := 624) (j := 6 * j + 1) dL_law_623 rfl (nI_add (6 * j) 1) (by omega) (by omega) ?_
  refine P_aload0 (pc' := 625) dL_law_624 rfl ?_
  refine P_iload3 (pc' := 626) dL_law_625 rfl ?_
  refine P_iconst (pc' := 627) dL_law_626 rfl (v := 2) rfl ?_
  refine P_iadd (pc' := 628) dL_law_627 rfl ?_
  refine P_sld (pc' := 629) (j := 6 * j + 2) dL_law_628 rfl (nI_add (6 * j) 2) (by omega) (by omega) ?_
  refine P_callV2 (kc := kc) (ks := ks) (mc := 0) (ms := 0) (pc' := 632) dL_law_629 rfl lk_L_68 (l_55 k2.2.1) (t_55 k2.2.1) (r_behind (d := 100) hK.1 k2.2.1 f2 _ _ (by decide)) (by omega) (Nat.le_of_ble_eq_true rfl) (fun r S3 I3 hq => ?_)
  obtain ⟨rfl, rfl, re, f3⟩ := hq
  refine P_icmp_eq (tgt := 1468) (pc' := 635) dL_law_632 rfl rfl (fun _ => nx _ _ _ _ _ (k2.nxt re f3) (Or.inl (by omega))) (fun h => absurd rfl h)
theorem w_best {G : GX} {nm : String} {S : Shp} {I : Mem} {d kc ks tn bn j : Nat} {tx : Nat → Tx} (hK : K S I I tn bn tx) (hd : 120 ≤ d) (hj : 6 * j + 6 ≤ gN G) (hN : gN G ≤ 3072) (nx : NX G nm d kc ks S j) : PW G RL nm cL_law 4 (some .boolean) d kc ks LQ 637 (LL j) [] S I := by
  refine P_aload1 (pc' := 638) dL_law_637 rfl ?_
  refine P_aload0 (pc' := 639) dL_law_638 rfl ?_
  refine P_iload3 (pc' := 640) dL_law_639 rfl ?_
  refine P_iconst (pc' := 641) dL_law_640 rfl (v := 1) rfl ?_
  refine P_iadd (pc' := 642) dL_law_641 rfl ?_
  refine P_sld (pc' := 643) (j := 6 * j + 1) dL_law_642 rfl (nI_add (6 * j) 1) (by omega) (by omega) ?_
  refine P_aload0 (pc' := 644) dL_law_643 rfl ?_
  refine P_iload3 (pc' := 645) dL_law_644 rfl ?_
  refine P_iconst (pc' := 646) dL_law_645 rfl (v := 2) rfl ?_
  refine P_iadd (pc' := 647) dL_law_646 rfl ?_
  refine P_sld (pc' := 648) (j := 6 * j + 2) dL_law_647 rfl (nI_add (6 * j) 2) (by omega) (by omega) ?_
  refine P_aload0 (pc' := 649) dL_law_648 rfl ?_
  refine P_iload3 (pc' := 650) dL_law_649 rfl ?_
  refine P_iconst (pc' := 651) dL_law_650 rfl (v := 3) rfl ?_
  refine P_iadd (pc' := 652) dL_law_651 rfl ?_
  refine P_sld (pc' := 653) (j := 6 * j + 3) dL_law_652 rfl (nI_add (6 * j) 3) (by omega) (by omega) ?_
  refine P_callV3 (kc := kc) (ks := ks) (mc := 0) (ms := 0) (pc' := 656) dL_law_653 rfl lk_L_69 (l_0 hK.2.1) (t_0 hK.2.1) (x_best (d := 100) hK _ _ _ (by decide)).sz (by omega) (Nat.le_of_ble_eq_true rfl) (fun r S2 I2 hq => ?_)
  obtain ⟨⟨rfl, k2, f2⟩, s1, s2⟩ := hq
  refine P_aload2 (pc' := 657) dL_law_656 rfl ?_
  refine P_aload0 (pc' := 658) dL_law_657 rfl ?_
  refine P_iload3 (pc' := 659) dL_law_658 rfl ?_
  refine P_iconst (pc' := 660) dL_law_659 rfl (v := 1) rfl ?_
  refine P_iadd (pc' := 661) dL_law_660 rfl ?_
  refine P_sld (pc' := 662) (j := 6 * j + 1) dL_law_661 rfl (nI_add (6 * j) 1) (by omega) (by omega) ?_
  refine P_aload0 (pc' := 663) dL_law_662 rfl ?_
  refine P_iload3 (pc' := 664) dL_law_663 rfl ?_
  refine P_iconst (pc' := 665) dL_law_664 rfl (v := 2) rfl ?_
  refine P_iadd (pc' := 666) dL_law_665 rfl ?_
  refine P_sld (pc' := 667) (j := 6 * j + 2) dL_law_666 rfl (nI_add (6 * j) 2) (by omega) (by omega) ?_
  refine P_aload0 (pc' := 668) dL_law_667 rfl ?_
  refine P_iload3 (pc' := 669) dL_law_668 rfl ?_
  refine P_iconst (pc' := 670) dL_law_669 rfl (v := 3) rfl ?_
  refine P_iadd (pc' := 671) dL_law_670 rfl ?_
  refine P_sld (pc' := 672) (j := 6 * j + 3) dL_law_671 rfl (nI_add (6 * j) 3) (by omega) (by omega) ?_
  refine P_callV3 (kc := kc) (ks := ks) (mc := 0) (ms := 0) (pc' := 675) dL_law_672 rfl lk_L_72 (l_55 k2.2.1) (t_55 k2.2.1) (r_best (d := 100) hK.1 k2.2.1 f2 _ _ _ (by decide)) (by omega) (Nat.le_of_ble_eq_true rfl) (fun r S3 I3 hq => ?_)
  obtain ⟨rfl, rfl, re, f3⟩ := hq
  refine P_icmp_eq (tgt := 1468) (pc' := 678) dL_law_675 rfl rfl (fun _ => nx _ _ _ _ _ (k2.nxt re f3) (Or.inl (by omega))) (fun h => absurd rfl h)
theorem w_letting {G : GX} {nm : String} {S : Shp} {I : Mem} {d kc ks tn bn j : Nat} {tx : Nat → Tx} (hK : K S I I tn bn tx) (hd : 120 ≤ d) (hj : 6 * j + 6 ≤ gN G) (hN : gN G ≤ 3072) (nx : NX G nm d kc ks S j) : PW G RL nm cL_law 4 (some .boolean) d kc ks LQ 680 (LL j) [] S I := by
  refine P_aload1 (pc' := 681) dL_law_680 rfl ?_
  refine P_aload0 (pc' := 682) dL_law_681 rfl ?_
  refine P_iload3 (pc' := 683) dL_law_682 rfl ?_
  refine P_iconst (pc' := 684) dL_law_683 rfl (v := 1) rfl ?_
  refine P_iadd (pc' := 685) dL_law_684 rfl ?_
  refine P_sld (pc' := 686) (j := 6 * j + 1) dL_law_685 rfl (nI_add (6 * j) 1) (by omega) (by omega) ?_
  refine P_aload0 (pc' := 687) dL_law_686 rfl ?_
  refine P_iload3 (pc' := 688) dL_law_687 rfl ?_
  refine P_iconst (pc' := 689) dL_law_688 rfl (v := 2) rfl ?_
  refine P_iadd (pc' := 690) dL_law_689 rfl ?_
  refine P_sld (pc' := 691) (j := 6 * j + 2) dL_law_690 rfl (nI_add (6 * j) 2) (by omega) (by omega) ?_
  refine P_callV2 (kc := kc) (ks := ks) (mc := 0) (ms := 0) (pc' := 694) dL_law_691 rfl lk_L_73 (l_0 hK.2.1) (t_0 hK.2.1) (x_letting (d := 100) hK _ _ (by decide)).sz (by omega) (Nat.le_of_ble_eq_true rfl) (fun r S2 I2 hq => ?_)
  obtain ⟨⟨rfl, k2, f2⟩, s1, s2⟩ := hq
  refine P_aload2 (pc' := 695) dL_law_694 rfl ?_
  refine P_aload0 (pc' := 696) dL_law_695 rfl ?_
  refine P_iload3 (pc' := 697) dL_law_696 rfl ?_
  refine P_iconst (pc' := 698) dL_law_697 rfl (v := 1) rfl ?_
  refine P_iadd (pc' := 699) dL_law_698 rfl ?_
  refine P_sld (pc' := 700) (j := 6 * j + 1) dL_law_699 rfl (nI_add (6 * j) 1) (by omega) (by omega) ?_
  refine P_aload0 (pc' := 701) dL_law_700 rfl ?_
  refine P_iload3 (pc' := 702) dL_law_701 rfl ?_
  refine P_iconst (pc' := 703) dL_law_702 rfl (v := 2) rfl ?_
  refine P_iadd (pc' := 704) dL_law_703 rfl ?_
  refine P_sld (pc' := 705) (j := 6 * j + 2) dL_law_704 rfl (nI_add (6 * j) 2) (by omega) (by omega) ?_
  refine P_callV2 (kc := kc) (ks := ks) (mc := 0) (ms := 0) (pc' := 708) dL_law_705 rfl lk_L_76 (l_55 k2.2.1) (t_55 k2.2.1) (r_letting (d := 100) hK.1 k2.2.1 f2 _ _ (by decide)) (by omega) (Nat.le_of_ble_eq_true rfl) (fun r S3 I3 hq => ?_)
  obtain ⟨rfl, rfl, re, f3⟩ := hq
  refine P_icmp_eq (tgt := 1468) (pc' := 711) dL_law_708 rfl rfl (fun _ => nx _ _ _ _ _ (k2.nxt re f3) (Or.inl (by omega))) (fun h => absurd rfl h)
theorem w_takes {G : GX} {nm : String} {S : Shp} {I : Mem} {d kc ks tn bn j : Nat} {tx : Nat → Tx} (hK : K S I I tn bn tx) (hd : 120 ≤ d) (hj : 6 * j + 6 ≤ gN G) (hN : gN G ≤ 3072) (nx : NX G nm d kc ks S j) : PW G RL nm cL_law 4 (some .boolean) d kc ks LQ 713 (LL j) [] S I := by
  refine P_aload1 (pc' := 714) dL_law_713 rfl ?_
  refine P_aload0 (pc' := 715) dL_law_714 rfl ?_
  refine P_iload3 (pc' := 716) dL_law_715 rfl ?_
  refine P_iconst (pc' := 717) dL_law_716 rfl (v := 1) rfl ?_
  refine P_iadd (pc' := 718) dL_law_717 rfl ?_
  refine P_sld (pc' := 719) (j := 6 * j + 1) dL_law_718 rfl (nI_add (6 * j) 1) (by omega) (by omega) ?_
  refine P_aload0 (pc' := 720) dL_law_719 rfl ?_
  refine P_iload3 (pc' := 721) dL_law_720 rfl ?_
  refine P_iconst (pc' := 722) dL_law_721 rfl (v := 2) rfl ?_
  refine P_iadd (pc' := 723) dL_law_722 rfl ?_
  refine P_sld (pc' := 724) (j := 6 * j + 2) dL_law_723 rfl (nI_add (6 * j) 2) (by omega) (by omega) ?_
  refine P_aload0 (pc' := 725) dL_law_724 rfl ?_
  refine P_iload3 (pc' := 726) dL_law_725 rfl ?_
  refine P_iconst (pc' := 727) dL_law_726 rfl (v := 3) rfl ?_
  refine P_iadd (pc' := 728) dL_law_727 rfl ?_
  refine P_sld (pc' := 729) (j := 6 * j + 3) dL_law_728 rfl (nI_add (6 * j) 3) (by omega) (by omega) ?_
  refine P_callV3 (kc := kc) (ks := ks) (mc := 0) (ms := 0) (pc' := 732) dL_law_729 rfl lk_L_77 (l_0 hK.2.1) (t_0 hK.2.1) (x_takes (d := 100) hK _ _ _ (by decide)).sz (by omega) (Nat.le_of_ble_eq_true rfl) (fun r S2 I2 hq => ?_)
  obtain ⟨⟨rfl, k2, f2⟩, s1, s2⟩ := hq
  refine P_aload2 (pc' := 733) dL_law_732 rfl ?_
  refine P_aload0 (pc' := 734) dL_law_733 rfl ?_
  refine P_iload3 (pc' := 735) dL_law_734 rfl ?_
  refine P_iconst (pc' := 736) dL_law_735 rfl (v := 1) rfl ?_
  refine P_iadd (pc' := 737) dL_law_736 rfl ?_
  refine P_sld (pc' := 738) (j := 6 * j + 1) dL_law_737 rfl (nI_add (6 * j) 1) (by omega) (by omega) ?_
  refine P_aload0 (pc' := 739) dL_law_738 rfl ?_
  refine P_iload3 (pc' := 740) dL_law_739 rfl ?_
  refine P_iconst (pc' := 741) dL_law_740 rfl (v := 2) rfl ?_
  refine P_iadd (pc' := 742) dL_law_741 rfl ?_
  refine P_sld (pc' := 743) (j := 6 * j + 2) dL_law_742 rfl (nI_add (6 * j) 2) (by omega) (by omega) ?_
  refine P_aload0 (pc' := 744) dL_law_743 rfl ?_
  refine P_iload3 (pc' := 745) dL_law_744 rfl ?_
  refine P_iconst (pc' := 746) dL_law_745 rfl (v := 3) rfl ?_
  refine P_iadd (pc' := 747) dL_law_746 rfl ?_
  refine P_sld (pc' := 748) (j := 6 * j + 3) dL_law_747 rfl (nI_add (6 * j) 3) (by omega) (by omega) ?_
  refine P_callV3 (kc := kc) (ks := ks) (mc := 0) (ms := 0) (pc' := 751) dL_law_748 rfl lk_L_80 (l_55 k2.2.1) (t_55 k2.2.1) (r_takes (d := 100) hK.1 k2.2.1 f2 _ _ _ (by decide)) (by omega) (Nat.le_of_ble_eq_true rfl) (fun r S3 I3 hq => ?_)
  obtain ⟨rfl, rfl, re, f3⟩ := hq
  refine P_icmp_eq (tgt := 1468) (pc' := 754) dL_law_751 rfl rfl (fun _ => nx _ _ _ _ _ (k2.nxt re f3) (Or.inl (by omega))) (fun h => absurd rfl h)
theorem w_bestRent {G : GX} {nm : String} {S : Shp} {I : Mem} {d kc ks tn bn j : Nat} {tx : Nat → Tx} (hK : K S I I tn bn tx) (hd : 120 ≤ d) (hj : 6 * j + 6 ≤ gN G) (hN : gN G ≤ 3072) (nx : NX G nm d kc ks S j) : PW G RL nm cL_law 4 (some .boolean) d kc ks LQ 756 (LL j) [] S I := by
  refine P_aload1 (pc' := 757) dL_law_756 rfl ?_
  refine P_aload0 (pc' := 758) dL_law_757 rfl ?_
  refine P_iload3 (pc' := 759) dL_law_758 rfl ?_
  refine P_iconst (pc' := 760) dL_law_759 rfl (v := 1) rfl ?_
  refine P_iadd (pc' := 761) dL_law_760 rfl ?_
  refine P_sld (pc' := 762) (j := 6 * j + 1) dL_law_761 rfl (nI_add (6 * j) 1) (by omega) (by omega) ?_
  refine P_aload0 (pc' := 763) dL_law_762 rfl ?_
  refine P_iload3 (pc' := 764) dL_law_763 rfl ?_
  refine P_iconst (pc' := 765) dL_law_764 rfl (v := 2) rfl ?_
  refine P_iadd (pc' := 766) dL_law_765 rfl ?_
  refine P_sld (pc' := 767) (j := 6 * j + 2) dL_law_766 rfl (nI_add (6 * j) 2) (by omega) (by omega) ?_
  refine P_callV2 (kc := kc) (ks := ks) (mc := 0) (ms := 0) (pc' := 770) dL_law_767 rfl lk_L_81 (l_0 hK.2.1) (t_0 hK.2.1) (x_bestRent (d := 100) hK _ _ (by decide)).sz (by omega) (Nat.le_of_ble_eq_true rfl) (fun r S2 I2 hq => ?_)
  obtain ⟨⟨rfl, k2, f2⟩, s1, s2⟩ := hq
  refine P_aload2 (pc' := 771) dL_law_770 rfl ?_
  refine P_aload0 (pc' := 772) dL_law_771 rfl ?_
  refine P_iload3 (pc' := 773) dL_law_772 rfl ?_
  refine P_iconst (pc' := 774) dL_law_773 rfl (v := 1) rfl ?_
  refine P_iadd (pc' := 775) dL_law_774 rfl ?_
  refine P_sld (pc' := 776) (j := 6 * j + 1) dL_law_775 rfl (nI_add (6 * j) 1) (by omega) (by omega) ?_
  refine P_aload0 (pc' := 777) dL_law_776 rfl ?_
  refine P_iload3 (pc' := 778) dL_law_777 rfl ?_
  refine P_iconst (pc' := 779) dL_law_778 rfl (v := 2) rfl ?_
  refine P_iadd (pc' := 780) dL_law_779 rfl ?_
  refine P_sld (pc' := 781) (j := 6 * j + 2) dL_law_780 rfl (nI_add (6 * j) 2) (by omega) (by omega) ?_
  refine P_callV2 (kc := kc) (ks := ks) (mc := 0) (ms := 0) (pc' := 784) dL_law_781 rfl lk_L_84 (l_55 k2.2.1) (t_55 k2.2.1) (r_bestRent (d := 100) hK.1 k2.2.1 f2 _ _ (by decide)) (by omega) (Nat.le_of_ble_eq_true rfl) (fun r S3 I3 hq => ?_)
  obtain ⟨rfl, rfl, re, f3⟩ := hq
  refine P_icmp_eq (tgt := 1468) (pc' := 787) dL_law_784 rfl rfl (fun _ => nx _ _ _ _ _ (k2.nxt re f3) (Or.inl (by omega))) (fun h => absurd rfl h)
theorem w_mourned {G : GX} {nm : String} {S : Shp} {I : Mem} {d kc ks tn bn j : Nat} {tx : Nat → Tx} (hK : K S I I tn bn tx) (hd : 120 ≤ d) (hj : 6 * j + 6 ≤ gN G) (hN : gN G ≤ 3072) (nx : NX G nm d kc ks S j) : PW G RL nm cL_law 4 (some .boolean) d kc ks LQ 789 (LL j) [] S I := by
  refine P_aload1 (pc' := 790) dL_law_789 rfl ?_
  refine P_aload0 (pc' := 791) dL_law_790 rfl ?_
  refine P_iload3 (pc' := 792) dL_law_791 rfl ?_
  refine P_iconst (pc' := 793) dL_law_792 rfl (v := 1) rfl ?_
  refine P_iadd (pc' := 794) dL_law_793 rfl ?_
  refine P_sld (pc' := 795) (j := 6 * j + 1) dL_law_794 rfl (nI_add (6 * j) 1) (by omega) (by omega) ?_
  refine P_aload0 (pc' := 796) dL_law_795 rfl ?_
  refine P_iload3 (pc' := 797) dL_law_796 rfl ?_
  refine P_iconst (pc' := 798) dL_law_797 rfl (v := 2) rfl ?_
  refine P_iadd (pc' := 799) dL_law_798 rfl ?_
  refine P_sld (pc' := 800) (j := 6 * j + 2) dL_law_799 rfl (nI_add (6 * j) 2) (by omega) (by omega) ?_
  refine P_callV2 (kc := kc) (ks := ks) (mc := 0) (ms := 0) (pc' := 803) dL_law_800 rfl lk_L_85 (l_0 hK.2.1) (t_0 hK.2.1) (x_mourned (d := 100) hK _ _ (by decide)).sz (by omega) (Nat.le_of_ble_eq_true rfl) (fun r S2 I2 hq => ?_)
  obtain ⟨⟨rfl, k2, f2⟩, s1, s2⟩ := hq
  refine P_aload2 (pc' := 804) dL_law_803 rfl ?_
  refine P_aload0 (pc' := 805) dL_law_804 rfl ?_
  refine P_iload3 (pc' := 806) dL_law_805 rfl ?_
  refine P_iconst (pc' := 807) dL_law_806 rfl (v := 1) rfl ?_
  refine P_iadd (pc' := 808) dL_law_807 rfl ?_
  refine P_sld (pc' := 809) (j := 6 * j + 1) dL_law_808 rfl (nI_add (6 * j) 1) (by omega) (by omega) ?_
  refine P_aload0 (pc' := 810) dL_law_809 rfl ?_
  refine P_iload3 (pc' := 811) dL_law_810 rfl ?_
  refine P_iconst (pc' := 812) dL_law_811 rfl (v := 2) rfl ?_
  refine P_iadd (pc' := 813) dL_law_812 rfl ?_
  refine P_sld (pc' := 814) (j := 6 * j + 2) dL_law_813 rfl (nI_add (6 * j) 2) (by omega) (by omega) ?_
  refine P_callV2 (kc := kc) (ks := ks) (mc := 0) (ms := 0) (pc' := 817) dL_law_814 rfl lk_L_88 (l_55 k2.2.1) (t_55 k2.2.1) (r_mourned (d := 100) hK.1 k2.2.1 f2 _ _ (by decide)) (by omega) (Nat.le_of_ble_eq_true rfl) (fun r S3 I3 hq => ?_)
  obtain ⟨rfl, rfl, re, f3⟩ := hq
  refine P_icmp_eq (tgt := 1468) (pc' := 820) dL_law_817 rfl rfl (fun _ => nx _ _ _ _ _ (k2.nxt re f3) (Or.inl (by omega))) (fun h => absurd rfl h)
theorem w_stood {G : GX} {nm : String} {S : Shp} {I : Mem} {d kc ks tn bn j : Nat} {tx : Nat → Tx} (hK : K S I I tn bn tx) (hd : 120 ≤ d) (hj : 6 * j + 6 ≤ gN G) (hN : gN G ≤ 3072) (nx : NX G nm d kc ks S j) : PW G RL nm cL_law 4 (some .boolean) d kc ks LQ 822 (LL j) [] S I := by
  refine P_aload1 (pc' := 823) dL_law_822 rfl ?_
  refine P_aload0 (pc' := 824) dL_law_823 rfl ?_
  refine P_iload3 (pc' := 825) dL_law_824 rfl ?_
  refine P_iconst (pc' := 826) dL_law_825 rfl (v := 1) rfl ?_
  refine P_iadd (pc' := 827) dL_law_826 rfl ?_
  refine P_sld (pc' := 828) (j := 6 * j + 1) dL_law_827 rfl (nI_add (6 * j) 1) (by omega) (by omega) ?_
  refine P_aload0 (pc' := 829) dL_law_828 rfl ?_
  refine P_iload3 (pc' := 830) dL_law_829 rfl ?_
  refine P_iconst (pc' := 831) dL_law_830 rfl (v := 2) rfl ?_
  refine P_iadd (pc' := 832) dL_law_831 rfl ?_
  refine P_sld (pc' := 833) (j := 6 * j + 2) dL_law_832 rfl (nI_add (6 * j) 2) (by omega) (by omega) ?_
  refine P_aload0 (pc' := 834) dL_law_833 rfl ?_
  refine P_iload3 (pc' := 835) dL_law_834 rfl ?_
  refine P_iconst (pc' := 836) dL_law_835 rfl (v := 3) rfl ?_
  refine P_iadd (pc' := 837) dL_law_836 rfl ?_
  refine P_sld (pc' := 838) (j := 6 * j + 3) dL_law_837 rfl (nI_add (6 * j) 3) (by omega) (by omega) ?_
  refine P_callV3 (kc := kc) (ks := ks) (mc := 0) (ms := 0) (pc' := 841) dL_law_838 rfl lk_L_89 (l_0 hK.2.1) (t_0 hK.2.1) (x_stood (d := 100) hK _ _ _ (by decide)).sz (by omega) (Nat.le_of_ble_eq_true rfl) (fun r S2 I2 hq => ?_)
  obtain ⟨⟨rfl, k2, f2⟩, s1, s2⟩ := hq
  refine P_aload2 (pc' := 842) dL_law_841 rfl ?_
  refine P_aload0 (pc' := 843) dL_law_842 rfl ?_
  refine P_iload3 (pc' := 844) dL_law_843 rfl ?_
  refine P_iconst (pc' := 845) dL_law_844 rfl (v := 1) rfl ?_
  refine P_iadd (pc' := 846) dL_law_845 rfl ?_
  refine P_sld (pc' := 847) (j := 6 * j + 1) dL_law_846 rfl (nI_add (6 * j) 1) (by omega) (by omega) ?_
  refine P_aload0 (pc' := 848) dL_law_847 rfl ?_
  refine P_iload3 (pc' := 849) dL_law_848 rfl ?_
  refine P_iconst (pc' := 850) dL_law_849 rfl (v := 2) rfl ?_
  refine P_iadd (pc' := 851) dL_law_850 rfl ?_
  refine P_sld (pc' := 852) (j := 6 * j + 2) dL_law_851 rfl (nI_add (6 * j) 2) (by omega) (by omega) ?_
  refine P_aload0 (pc' := 853) dL_law_852 rfl ?_
  refine P_iload3 (pc' := 854) dL_law_853 rfl ?_
  refine P_iconst (pc' := 855) dL_law_854 rfl (v := 3) rfl ?_
  refine P_iadd (pc' := 856) dL_law_855 rfl ?_
  refine P_sld (pc' := 857) (j := 6 * j + 3) dL_law_856 rfl (nI_add (6 * j) 3) (by omega) (by omega) ?_
  refine P_callV3 (kc := kc) (ks := ks) (mc := 0) (ms := 0) (pc' := 860) dL_law_857 rfl lk_L_92 (l_55 k2.2.1) (t_55 k2.2.1) (r_stood (d := 100) hK.1 k2.2.1 f2 _ _ _ (by decide)) (by omega) (Nat.le_of_ble_eq_true rfl) (fun r S3 I3 hq => ?_)
  obtain ⟨rfl, rfl, re, f3⟩ := hq
  refine P_icmp_eq (tgt := 1468) (pc' := 863) dL_law_860 rfl rfl (fun _ => nx _ _ _ _ _ (k2.nxt re f3) (Or.inl (by omega))) (fun h => absurd rfl h)
theorem w_fee {G : GX} {nm : String} {S : Shp} {I : Mem} {d kc ks tn bn j : Nat} {tx : Nat → Tx} (hK : K S I I tn bn tx) (hd : 120 ≤ d) (hj : 6 * j + 6 ≤ gN G) (hN : gN G ≤ 3072) (nx : NX G nm d kc ks S j) : PW G RL nm cL_law 4 (some .boolean) d kc ks LQ 865 (LL j) [] S I := by
  refine P_aload1 (pc' := 866) dL_law_865 rfl ?_
  refine P_callV0 (kc := kc) (ks := ks) (mc := 0) (ms := 0) (pc' := 869) dL_law_866 rfl lk_L_93 (l_0 hK.2.1) (t_0 hK.2.1) (x_fee (d := 100) hK (by decide)).sz (by omega) (Nat.le_of_ble_eq_true rfl) (fun r S2 I2 hq => ?_)
  obtain ⟨⟨rfl, k2, f2⟩, s1, s2⟩ := hq
  refine P_aload2 (pc' := 870) dL_law_869 rfl ?_
  refine P_callV0 (kc := kc) (ks := ks) (mc := 0) (ms := 0) (pc' := 873) dL_law_870 rfl lk_L_97 (l_55 k2.2.1) (t_55 k2.2.1) (r_fee (d := 100) hK.1 k2.2.1 f2 (by decide)) (by omega) (Nat.le_of_ble_eq_true rfl) (fun r S3 I3 hq => ?_)
  obtain ⟨rfl, rfl, re, f3⟩ := hq
  refine P_icmp_eq (tgt := 1468) (pc' := 876) dL_law_873 rfl rfl (fun _ => nx _ _ _ _ _ (k2.nxt re f3) (Or.inl (by omega))) (fun h => absurd rfl h)
theorem w_fine {G : GX} {nm : String} {S : Shp} {I : Mem} {d kc ks tn bn j : Nat} {tx : Nat → Tx} (hK : K S I I tn bn tx) (hd : 120 ≤ d) (hj : 6 * j + 6 ≤ gN G) (hN : gN G ≤ 3072) (nx : NX G nm d kc ks S j) : PW G RL nm cL_law 4 (some .boolean) d kc ks LQ 878 (LL j) [] S I := by
  refine P_aload1 (pc' := 879) dL_law_878 rfl ?_
  refine P_aload0 (pc' := 880) dL_law_879 rfl ?_
  refine P_iload3 (pc' := 881) dL_law_880 rfl ?_
  refine P_iconst (pc' := 882) dL_law_881 rfl (v := 1) rfl ?_
  refine P_iadd (pc' := 883) dL_law_882 rfl ?_
  refine P_sld (pc' := 884) (j := 6 * j + 1) dL_law_883 rfl (nI_add (6 * j) 1) (by omega) (by omega) ?_
  refine P_callV1 (kc := kc) (ks := ks) (mc := 0) (ms := 0) (pc' := 887) dL_law_884 rfl lk_L_98 (l_0 hK.2.1) (t_0 hK.2.1) (x_fine (d := 100) hK _ (by decide)).sz (by omega) (Nat.le_of_ble_eq_true rfl) (fun r S2 I2 hq => ?_)
  obtain ⟨⟨rfl, k2, f2⟩, s1, s2⟩ := hq
  refine P_aload2 (pc' := 888) dL_law_887 rfl ?_
  refine P_aload0 (pc' := 889) dL_law_888 rfl ?_
  refine P_iload3 (pc' := 890) dL_law_889 rfl ?_
  refine P_iconst (pc' := 891) dL_law_890 rfl (v := 1) rfl ?_
  refine P_iadd (pc' := 892) dL_law_891 rfl ?_
  refine P_sld (pc' := 893) (j := 6 * j + 1) dL_law_892 rfl (nI_add (6 * j) 1) (by omega) (by omega) ?_
  refine P_callV1 (kc := kc) (ks := ks) (mc := 0) (ms := 0) (pc' := 896) dL_law_893 rfl lk_L_101 (l_55 k2.2.1) (t_55 k2.2.1) (r_fine (d := 100) hK.1 k2.2.1 f2 _ (by decide)) (by omega) (Nat.le_of_ble_eq_true rfl) (fun r S3 I3 hq => ?_)
  obtain ⟨rfl, rfl, re, f3⟩ := hq
  refine P_icmp_eq (tgt := 1468) (pc' := 899) dL_law_896 rfl rfl (fun _ => nx _ _ _ _ _ (k2.nxt re f3) (Or.inl (by omega))) (fun h => absurd rfl h)
theorem w_feed {G : GX} {nm : String} {S : Shp} {I : Mem} {d kc ks tn bn j : Nat} {tx : Nat → Tx} (hK : K S I I tn bn tx) (hd : 120 ≤ d) (hj : 6 * j + 6 ≤ gN G) (hN : gN G ≤ 3072) (nx : NX G nm d kc ks S j) : PW G RL nm cL_law 4 (some .boolean) d kc ks LQ 901 (LL j) [] S I := by
  refine P_aload1 (pc' := 902) dL_law_901 rfl ?_
  refine P_aload0 (pc' := 903) dL_law_902 rfl ?_
  refine P_iload3 (pc' := 904) dL_law_903 rfl ?_
  refine P_iconst (pc' := 905) dL_law_904 rfl (v := 1) rfl ?_
  refine P_iadd (pc' := 906) dL_law_905 rfl ?_
  refine P_sld (pc' := 907) (j := 6 * j + 1) dL_law_906 rfl (nI_add (6 * j) 1) (by omega) (by omega) ?_
  refine P_aload0 (pc' := 908) dL_law_907 rfl ?_
  refine P_iload3 (pc' := 909) dL_law_908 rfl ?_
  refine P_iconst (pc' := 910) dL_law_909 rfl (v := 2) rfl ?_
  refine P_iadd (pc' := 911) dL_law_910 rfl ?_
  refine P_sld (pc' := 912) (j := 6 * j + 2) dL_law_911 rfl (nI_add (6 * j) 2) (by omega) (by omega) ?_
  refine P_aload0 (pc' := 913) dL_law_912 rfl ?_
  refine P_iload3 (pc' := 914) dL_law_913 rfl ?_
  refine P_iconst (pc' := 915) dL_law_914 rfl (v := 3) rfl ?_
  refine P_iadd (pc' := 916) dL_law_915 rfl ?_
  refine P_sld (pc' := 917) (j := 6 * j + 3) dL_law_916 rfl (nI_add (6 * j) 3) (by omega) (by omega) ?_
  refine P_callV3 (kc := kc) (ks := ks) (mc := 0) (ms := 0) (pc' := 920) dL_law_917 rfl lk_L_102 (l_0 hK.2.1) (t_0 hK.2.1) (x_feed (d := 100) hK _ _ _ (by decide)).sz (by omega) (Nat.le_of_ble_eq_true rfl) (fun r S2 I2 hq => ?_)
  obtain ⟨⟨rfl, k2, f2⟩, s1, s2⟩ := hq
  refine P_aload2 (pc' := 921) dL_law_920 rfl ?_
  refine P_aload0 (pc' := 922) dL_law_921 rfl ?_
  refine P_iload3 (pc' := 923) dL_law_922 rfl ?_
  refine P_iconst (pc' := 924) dL_law_923 rfl (v := 1) rfl ?_
  refine P_iadd (pc' := 925) dL_law_924 rfl ?_
  refine P_sld (pc' := 926) (j := 6 * j + 1) dL_law_925 rfl (nI_add (6 * j) 1) (by omega) (by omega) ?_
  refine P_aload0 (pc' := 927) dL_law_926 rfl ?_
  refine P_iload3 (pc' := 928) dL_law_927 rfl ?_
  refine P_iconst (pc' := 929) dL_law_928 rfl (v := 2) rfl ?_
  refine P_iadd (pc' := 930) dL_law_929 rfl ?_
  refine P_sld (pc' := 931) (j := 6 * j + 2) dL_law_930 rfl (nI_add (6 * j) 2) (by omega) (by omega) ?_
  refine P_aload0 (pc' := 932) dL_law_931 rfl ?_
  refine P_iload3 (pc' := 933) dL_law_932 rfl ?_
  refine P_iconst (pc' := 934) dL_law_933 rfl (v := 3) rfl ?_
  refine P_iadd (pc' := 935) dL_law_934 rfl ?_
  refine P_sld (pc' := 936) (j := 6 * j + 3) dL_law_935 rfl (nI_add (6 * j) 3) (by omega) (by omega) ?_
  refine P_callV3 (kc := kc) (ks := ks) (mc := 0) (ms := 0) (pc' := 939) dL_law_936 rfl lk_L_105 (l_55 k2.2.1) (t_55 k2.2.1) (r_feed (d := 100) hK.1 k2.2.1 f2 _ _ _ (by decide)) (by omega) (Nat.le_of_ble_eq_true rfl) (fun r S3 I3 hq => ?_)
  obtain ⟨rfl, rfl, re, f3⟩ := hq
  refine P_icmp_eq (tgt := 1468) (pc' := 942) dL_law_939 rfl rfl (fun _ => nx _ _ _ _ _ (k2.nxt re f3) (Or.inl (by omega))) (fun h => absurd rfl h)
theorem w_trim {G : GX} {nm : String} {S : Shp} {I : Mem} {d kc ks tn bn j : Nat} {tx : Nat → Tx} (hK : K S I I tn bn tx) (hd : 120 ≤ d) (hj : 6 * j + 6 ≤ gN G) (hN : gN G ≤ 3072) (nx : NX G nm d kc ks S j) : PW G RL nm cL_law 4 (some .boolean) d kc ks LQ 944 (LL j) [] S I := by
  refine P_aload1 (pc' := 945) dL_law_944 rfl ?_
  refine P_aload0 (pc' := 946) dL_law_945 rfl ?_
  refine P_iload3 (pc' := 947) dL_law_946 rfl ?_
  refine P_iconst (pc' := 948) dL_law_947 rfl (v := 1) rfl ?_
  refine P_iadd (pc' := 949) dL_law_948 rfl ?_
  refine P_sld (pc' := 950) (j := 6 * j + 1) dL_law_949 rfl (nI_add (6 * j) 1) (by omega) (by omega) ?_
  refine P_callV1 (kc := kc) (ks := ks) (mc := 0) (ms := 0) (pc' := 953) dL_law_950 rfl lk_L_106 (l_0 hK.2.1) (t_0 hK.2.1) (x_trim (d := 100) hK _ (by decide)).sz (by omega) (Nat.le_of_ble_eq_true rfl) (fun r S2 I2 hq => ?_)
  obtain ⟨⟨rfl, k2, f2⟩, s1, s2⟩ := hq
  refine P_aload2 (pc' := 954) dL_law_953 rfl ?_
  refine P_aload0 (pc' := 955) dL_law_954 rfl ?_
  refine P_iload3 (pc' := 956) dL_law_955 rfl ?_
  refine P_iconst (pc' := 957) dL_law_956 rfl (v := 1) rfl ?_
  refine P_iadd (pc' := 958) dL_law_957 rfl ?_
  refine P_sld (pc' := 959) (j := 6 * j + 1) dL_law_958 rfl (nI_add (6 * j) 1) (by omega) (by omega) ?_
  refine P_callV1 (kc := kc) (ks := ks) (mc := 0) (ms := 0) (pc' := 962) dL_law_959 rfl lk_L_109 (l_55 k2.2.1) (t_55 k2.2.1) (r_trim (d := 100) hK.1 k2.2.1 f2 _ (by decide)) (by omega) (Nat.le_of_ble_eq_true rfl) (fun r S3 I3 hq => ?_)
  obtain ⟨rfl, rfl, re, f3⟩ := hq
  refine P_icmp_eq (tgt := 1468) (pc' := 965) dL_law_962 rfl rfl (fun _ => nx _ _ _ _ _ (k2.nxt re f3) (Or.inl (by omega))) (fun h => absurd rfl h)
theorem w_text {G : GX} {nm : String} {S : Shp} {I : Mem} {d kc ks tn bn j : Nat} {tx : Nat → Tx} (hG : (gFm G).category = 1) (cap : S.1 + 3 ≤ 3000) (h3 : S.1 % 3 = 2) (hK : K S I I tn bn tx) (hd : 120 ≤ d) (hj : 6 * j + 6 ≤ gN G) (hN : gN G ≤ 3072) (nx : NX G nm d kc ks S j) : PW G RL nm cL_law 4 (some .boolean) d (kc + 3) (ks + 196) LQ 967 (LL j) [] S I := by
  obtain ⟨n, hn, h6⟩ := hK.1.2.2.2.2.2.2.2.1
  obtain ⟨o, hO, hX⟩ := T_ex (b := I 24) (n := n) hn
  have cp : CP I I := hK.2.2.2.2.2.2.2.2.2
  have hB : BT (I 24) I := fun k hk => BR.mk (cp.2 k hk).1 (cp.2 k hk).2.1 (cp.2 k hk).2.2
  refine P_aload1 (pc' := 968) dL_law_967 rfl ?_
  refine P_callV0 (kc := kc) (ks := ks) (mc := 3) (ms := 196) (pc' := 971) dL_law_968 rfl lk_L_110 (l_0 hK.2.1) (t_0 hK.2.1) (x_text (d := 100) hG hK hn h6 hX (by omega) h3 (by decide)) (by omega) (Nat.le_of_ble_eq_true rfl) (fun r S2 I2 hq => ?_)
  obtain ⟨⟨rfl, k2, f2⟩, s1⟩ := hq
  refine P_aload2 (pc' := 972) dL_law_971 rfl ?_
  refine P_callV0 (kc := kc) (ks := ks) (mc := 0) (ms := 0) (pc' := 975) dL_law_972 rfl lk_L_113 (l_55 k2.2.1) (t_55 k2.2.1) (r_text (d := 100) hK.1 k2.2.1 f2 hn h6 hB hO hX (by decide)) (by omega) (Nat.le_of_ble_eq_true rfl) (fun r S3 I3 hq => ?_)
  obtain ⟨rfl, rfl, re, f3⟩ := hq
  refine P_icmp_eq (tgt := 1468) (pc' := 978) dL_law_975 rfl rfl (fun _ => nx _ _ _ _ _ (k2.nxt re f3) s1) (fun h => absurd rfl h)
theorem w_textTold {G : GX} {nm : String} {S : Shp} {I : Mem} {d kc ks tn bn j : Nat} {tx : Nat → Tx} (hK : K S I I tn bn tx) (hd : 120 ≤ d) (hj : 6 * j + 6 ≤ gN G) (hN : gN G ≤ 3072) (nx : NX G nm d kc ks S j) : PW G RL nm cL_law 4 (some .boolean) d kc ks LQ 980 (LL j) [] S I := by
  refine P_aload1 (pc' := 981) dL_law_980 rfl ?_
  refine P_aload0 (pc' := 982) dL_law_981 rfl ?_
  refine P_iload3 (pc' := 983) dL_law_982 rfl ?_
  refine P_iconst (pc' := 984) dL_law_983 rfl (v := 1) rfl ?_
  refine P_iadd (pc' := 985) dL_law_984 rfl ?_
  refine P_sld (pc' := 986) (j := 6 * j + 1) dL_law_985 rfl (nI_add (6 * j) 1) (by omega) (by omega) ?_
  refine P_aload0 (pc' := 987) dL_law_986 rfl ?_
  refine P_iload3 (pc' := 988) dL_law_987 rfl ?_
  refine P_iconst (pc' := 989) dL_law_988 rfl (v := 2) rfl ?_
  refine P_iadd (pc' := 990) dL_law_989 rfl ?_
  refine P_sld (pc' := 991) (j := 6 * j + 2) dL_law_990 rfl (nI_add (6 * j) 2) (by omega) (by omega) ?_
  refine P_callV2 (kc := kc) (ks := ks) (mc := 0) (ms := 0) (pc' := 994) dL_law_991 rfl lk_L_114 (l_0 hK.2.1) (t_0 hK.2.1) (x_textTold (d := 100) hK _ _ (by decide)).sz (by omega) (Nat.le_of_ble_eq_true rfl) (fun r S2 I2 hq => ?_)
  obtain ⟨⟨rfl, k2, f2⟩, s1, s2⟩ := hq
  refine P_aload2 (pc' := 995) dL_law_994 rfl ?_
  refine P_aload0 (pc' := 996) dL_law_995 rfl ?_
  refine P_iload3 (pc' := 997) dL_law_996 rfl ?_
  refine P_iconst (pc' := 998) dL_law_997 rfl (v := 1) rfl ?_
  refine P_iadd (pc' := 999) dL_law_998 rfl ?_
  refine P_sld (pc' := 1000) (j := 6 * j + 1) dL_law_999 rfl (nI_add (6 * j) 1) (by omega) (by omega) ?_
  refine P_aload0 (pc' := 1001) dL_law_1000 rfl ?_
  refine P_iload3 (pc' := 1002) dL_law_1001 rfl ?_
  refine P_iconst (pc' := 1003) dL_law_1002 rfl (v := 2) rfl ?_
  refine P_iadd (pc' := 1004) dL_law_1003 rfl ?_
  refine P_sld (pc' := 1005) (j := 6 * j + 2) dL_law_1004 rfl (nI_add (6 * j) 2) (by omega) (by omega) ?_
  refine P_callV2 (kc := kc) (ks := ks) (mc := 0) (ms := 0) (pc' := 1008) dL_law_1005 rfl lk_L_117 (l_55 k2.2.1) (t_55 k2.2.1) (r_textTold (d := 100) hK.1 k2.2.1 f2 _ _ (by decide)) (by omega) (Nat.le_of_ble_eq_true rfl) (fun r S3 I3 hq => ?_)
  obtain ⟨rfl, rfl, re, f3⟩ := hq
  refine P_icmp_eq (tgt := 1468) (pc' := 1011) dL_law_1008 rfl rfl (fun _ => nx _ _ _ _ _ (k2.nxt re f3) (Or.inl (by omega))) (fun h => absurd rfl h)
theorem w_why {G : GX} {nm : String} {S : Shp} {I : Mem} {d kc ks tn bn j : Nat} {tx : Nat → Tx} (hK : K S I I tn bn tx) (hd : 120 ≤ d) (hj : 6 * j + 6 ≤ gN G) (hN : gN G ≤ 3072) (nx : NX G nm d kc ks S j) : PW G RL nm cL_law 4 (some .boolean) d kc ks LQ 1013 (LL j) [] S I := by
  refine P_aload1 (pc' := 1014) dL_law_1013 rfl ?_
  refine P_aload0 (pc' := 1015) dL_law_1014 rfl ?_
  refine P_iload3 (pc' := 1016) dL_law_1015 rfl ?_
  refine P_iconst (pc' := 1017) dL_law_1016 rfl (v := 1) rfl ?_
  refine P_iadd (pc' := 1018) dL_law_1017 rfl ?_
  refine P_sld (pc' := 1019) (j := 6 * j + 1) dL_law_1018 rfl (nI_add (6 * j) 1) (by omega) (by omega) ?_
  refine P_callV1 (kc := kc) (ks := ks) (mc := 0) (ms := 0) (pc' := 1022) dL_law_1019 rfl lk_L_118 (l_0 hK.2.1) (t_0 hK.2.1) (x_why (d := 100) hK _ (by decide)).sz (by omega) (Nat.le_of_ble_eq_true rfl) (fun r S2 I2 hq => ?_)
  obtain ⟨⟨rfl, k2, f2⟩, s1, s2⟩ := hq
  refine P_aload2 (pc' := 1023) dL_law_1022 rfl ?_
  refine P_aload0 (pc' := 1024) dL_law_1023 rfl ?_
  refine P_iload3 (pc' := 1025) dL_law_1024 rfl ?_
  refine P_iconst (pc' := 1026) dL_law_1025 rfl (v := 1) rfl ?_
  refine P_iadd (pc' := 1027) dL_law_1026 rfl ?_
  refine P_sld (pc' := 1028) (j := 6 * j + 1) dL_law_1027 rfl (nI_add (6 * j) 1) (by omega) (by omega) ?_
  refine P_callV1 (kc := kc) (ks := ks) (mc := 0) (ms := 0) (pc' := 1031) dL_law_1028 rfl lk_L_121 (l_55 k2.2.1) (t_55 k2.2.1) (r_why (d := 100) hK.1 k2.2.1 f2 _ (by decide)) (by omega) (Nat.le_of_ble_eq_true rfl) (fun r S3 I3 hq => ?_)
  obtain ⟨rfl, rfl, re, f3⟩ := hq
  refine P_icmp_eq (tgt := 1468) (pc' := 1034) dL_law_1031 rfl rfl (fun _ => nx _ _ _ _ _ (k2.nxt re f3) (Or.inl (by omega))) (fun h => absurd rfl h)
theorem w_sheet {G : GX} {nm : String} {S : Shp} {I : Mem} {d kc ks tn bn j : Nat} {tx : Nat → Tx} (hK : K S I I tn bn tx) (hd : 120 ≤ d) (hj : 6 * j + 6 ≤ gN G) (hN : gN G ≤ 3072) (nx : NX G nm d kc ks S j) : PW G RL nm cL_law 4 (some .boolean) d kc ks LQ 1036 (LL j) [] S I := by
  refine P_aload1 (pc' := 1037) dL_law_1036 rfl ?_
  refine P_aload0 (pc' := 1038) dL_law_1037 rfl ?_
  refine P_iload3 (pc' := 1039) dL_law_1038 rfl ?_
  refine P_iconst (pc' := 1040) dL_law_1039 rfl (v := 1) rfl ?_
  refine P_iadd (pc' := 1041) dL_law_1040 rfl ?_
  refine P_sld (pc' := 1042) (j := 6 * j + 1) dL_law_1041 rfl (nI_add (6 * j) 1) (by omega) (by omega) ?_
  refine P_aload0 (pc' := 1043) dL_law_1042 rfl ?_
  refine P_iload3 (pc' := 1044) dL_law_1043 rfl ?_
  refine P_iconst (pc' := 1045) dL_law_1044 rfl (v := 2) rfl ?_
  refine P_iadd (pc' := 1046) dL_law_1045 rfl ?_
  refine P_sld (pc' := 1047) (j := 6 * j + 2) dL_law_1046 rfl (nI_add (6 * j) 2) (by omega) (by omega) ?_
  refine P_aload0 (pc' := 1048) dL_law_1047 rfl ?_
  refine P_iload3 (pc' := 1049) dL_law_1048 rfl ?_
  refine P_iconst (pc' := 1050) dL_law_1049 rfl (v := 3) rfl ?_
  refine P_iadd (pc' := 1051) dL_law_1050 rfl ?_
  refine P_sld (pc' := 1052) (j := 6 * j + 3) dL_law_1051 rfl (nI_add (6 * j) 3) (by omega) (by omega) ?_
  refine P_callV3 (kc := kc) (ks := ks) (mc := 0) (ms := 0) (pc' := 1055) dL_law_1052 rfl lk_L_122 (l_0 hK.2.1) (t_0 hK.2.1) (x_sheet (d := 100) hK _ _ _ (by decide)).sz (by omega) (Nat.le_of_ble_eq_true rfl) (fun r S2 I2 hq => ?_)
  obtain ⟨⟨rfl, k2, f2⟩, s1, s2⟩ := hq
  refine P_aload2 (pc' := 1056) dL_law_1055 rfl ?_
  refine P_aload0 (pc' := 1057) dL_law_1056 rfl ?_
  refine P_iload3 (pc' := 1058) dL_law_1057 rfl ?_
  refine P_iconst (pc' := 1059) dL_law_1058 rfl (v := 1) rfl ?_
  refine P_iadd (pc' := 1060) dL_law_1059 rfl ?_
  refine P_sld (pc' := 1061) (j := 6 * j + 1) dL_law_1060 rfl (nI_add (6 * j) 1) (by omega) (by omega) ?_
  refine P_aload0 (pc' := 1062) dL_law_1061 rfl ?_
  refine P_iload3 (pc' := 1063) dL_law_1062 rfl ?_
  refine P_iconst (pc' := 1064) dL_law_1063 rfl (v := 2) rfl ?_
  refine P_iadd (pc' := 1065) dL_law_1064 rfl ?_
  refine P_sld (pc' := 1066) (j := 6 * j + 2) dL_law_1065 rfl (nI_add (6 * j) 2) (by omega) (by omega) ?_
  refine P_aload0 (pc' := 1067) dL_law_1066 rfl ?_
  refine P_iload3 (pc' := 1068) dL_law_1067 rfl ?_
  refine P_iconst (pc' := 1069) dL_law_1068 rfl (v := 3) rfl ?_
  refine P_iadd (pc' := 1070) dL_law_1069 rfl ?_
  refine P_sld (pc' := 1071) (j := 6 * j + 3) dL_law_1070 rfl (nI_add (6 * j) 3) (by omega) (by omega) ?_
  refine P_callV3 (kc := kc) (ks := ks) (mc := 0) (ms := 0) (pc' := 1074) dL_law_1071 rfl lk_L_125 (l_55 k2.2.1) (t_55 k2.2.1) (r_sheet (d := 100) hK.1 k2.2.1 f2 _ _ _ (by decide)) (by omega) (Nat.le_of_ble_eq_true rfl) (fun r S3 I3 hq => ?_)
  obtain ⟨rfl, rfl, re, f3⟩ := hq
  refine P_icmp_eq (tgt := 1468) (pc' := 1077) dL_law_1074 rfl rfl (fun _ => nx _ _ _ _ _ (k2.nxt re f3) (Or.inl (by omega))) (fun h => absurd rfl h)
theorem w_mark {G : GX} {nm : String} {S : Shp} {I : Mem} {d kc ks tn bn j : Nat} {tx : Nat → Tx} (hK : K S I I tn bn tx) (hd : 120 ≤ d) (hj : 6 * j + 6 ≤ gN G) (hN : gN G ≤ 3072) (nx : NX G nm d kc ks S j) : PW G RL nm cL_law 4 (some .boolean) d kc ks LQ 1079 (LL j) [] S I := by
  refine P_aload1 (pc' := 1080) dL_law_1079 rfl ?_
  refine P_aload0 (pc' := 1081) dL_law_1080 rfl ?_
  refine P_iload3 (pc' := 1082) dL_law_1081 rfl ?_
  refine P_iconst (pc' := 1083) dL_law_1082 rfl (v := 1) rfl ?_
  refine P_iadd (pc' := 1084) dL_law_1083 rfl ?_
  refine P_sld (pc' := 1085) (j := 6 * j + 1) dL_law_1084 rfl (nI_add (6 * j) 1) (by omega) (by omega) ?_
  refine P_aload0 (pc' := 1086) dL_law_1085 rfl ?_
  refine P_iload3 (pc' := 1087) dL_law_1086 rfl ?_
  refine P_iconst (pc' := 1088) dL_law_1087 rfl (v := 2) rfl ?_
  refine P_iadd (pc' := 1089) dL_law_1088 rfl ?_
  refine P_sld (pc' := 1090) (j := 6 * j + 2) dL_law_1089 rfl (nI_add (6 * j) 2) (by omega) (by omega) ?_
  refine P_aload0 (pc' := 1091) dL_law_1090 rfl ?_
  refine P_iload3 (pc' := 1092) dL_law_1091 rfl ?_
  refine P_iconst (pc' := 1093) dL_law_1092 rfl (v := 3) rfl ?_
  refine P_iadd (pc' := 1094) dL_law_1093 rfl ?_
  refine P_sld (pc' := 1095) (j := 6 * j + 3) dL_law_1094 rfl (nI_add (6 * j) 3) (by omega) (by omega) ?_
  refine P_callV3 (kc := kc) (ks := ks) (mc := 0) (ms := 0) (pc' := 1098) dL_law_1095 rfl lk_L_126 (l_0 hK.2.1) (t_0 hK.2.1) (x_mark (d := 100) hK _ _ _ (by decide)).sz (by omega) (Nat.le_of_ble_eq_true rfl) (fun r S2 I2 hq => ?_)
  obtain ⟨⟨rfl, k2, f2⟩, s1, s2⟩ := hq
  refine P_aload2 (pc' := 1099) dL_law_1098 rfl ?_
  refine P_aload0 (pc' := 1100) dL_law_1099 rfl ?_
  refine P_iload3 (pc' := 1101) dL_law_1100 rfl ?_
  refine P_iconst (pc' := 1102) dL_law_1101 rfl (v := 1) rfl ?_
  refine P_iadd (pc' := 1103) dL_law_1102 rfl ?_
  refine P_sld (pc' := 1104) (j := 6 * j + 1) dL_law_1103 rfl (nI_add (6 * j) 1) (by omega) (by omega) ?_
  refine P_aload0 (pc' := 1105) dL_law_1104 rfl ?_
  refine P_iload3 (pc' := 1106) dL_law_1105 rfl ?_
  refine P_iconst (pc' := 1107) dL_law_1106 rfl (v := 2) rfl ?_
  refine P_iadd (pc' := 1108) dL_law_1107 rfl ?_
  refine P_sld (pc' := 1109) (j := 6 * j + 2) dL_law_1108 rfl (nI_add (6 * j) 2) (by omega) (by omega) ?_
  refine P_aload0 (pc' := 1110) dL_law_1109 rfl ?_
  refine P_iload3 (pc' := 1111) dL_law_1110 rfl ?_
  refine P_iconst (pc' := 1112) dL_law_1111 rfl (v := 3) rfl ?_
  refine P_iadd (pc' := 1113) dL_law_1112 rfl ?_
  refine P_sld (pc' := 1114) (j := 6 * j + 3) dL_law_1113 rfl (nI_add (6 * j) 3) (by omega) (by omega) ?_
  refine P_callV3 (kc := kc) (ks := ks) (mc := 0) (ms := 0) (pc' := 1117) dL_law_1114 rfl lk_L_129 (l_55 k2.2.1) (t_55 k2.2.1) (r_mark (d := 100) hK.1 k2.2.1 f2 _ _ _ (by decide)) (by omega) (Nat.le_of_ble_eq_true rfl) (fun r S3 I3 hq => ?_)
  obtain ⟨rfl, rfl, re, f3⟩ := hq
  refine P_icmp_eq (tgt := 1468) (pc' := 1120) dL_law_1117 rfl rfl (fun _ => nx _ _ _ _ _ (k2.nxt re f3) (Or.inl (by omega))) (fun h => absurd rfl h)
theorem w_pour {G : GX} {nm : String} {S : Shp} {I : Mem} {d kc ks tn bn j : Nat} {tx : Nat → Tx} (hK : K S I I tn bn tx) (hd : 120 ≤ d) (hj : 6 * j + 6 ≤ gN G) (hN : gN G ≤ 3072) (nx : NX G nm d kc ks S j) : PW G RL nm cL_law 4 (some .boolean) d kc ks LQ 1122 (LL j) [] S I := by
  refine P_aload1 (pc' := 1123) dL_law_1122 rfl ?_
  refine P_aload0 (pc' := 1124) dL_law_1123 rfl ?_
  refine P_iload3 (pc' := 1125) dL_law_1124 rfl ?_
  refine P_iconst (pc' := 1126) dL_law_1125 rfl (v := 1) rfl ?_
  refine P_iadd (pc' := 1127) dL_law_1126 rfl ?_
  refine P_sld (pc' := 1128) (j := 6 * j + 1) dL_law_1127 rfl (nI_add (6 * j) 1) (by omega) (by omega) ?_
  refine P_callV1 (kc := kc) (ks := ks) (mc := 0) (ms := 0) (pc' := 1131) dL_law_1128 rfl lk_L_130 (l_0 hK.2.1) (t_0 hK.2.1) (x_pour (d := 100) hK _ (by decide)).sz (by omega) (Nat.le_of_ble_eq_true rfl) (fun r S2 I2 hq => ?_)
  obtain ⟨⟨rfl, k2, f2⟩, s1, s2⟩ := hq
  refine P_aload2 (pc' := 1132) dL_law_1131 rfl ?_
  refine P_aload0 (pc' := 1133) dL_law_1132 rfl ?_
  refine P_iload3 (pc' := 1134) dL_law_1133 rfl ?_
  refine P_iconst (pc' := 1135) dL_law_1134 rfl (v := 1) rfl ?_
  refine P_iadd (pc' := 1136) dL_law_1135 rfl ?_
  refine P_sld (pc' := 1137) (j := 6 * j + 1) dL_law_1136 rfl (nI_add (6 * j) 1) (by omega) (by omega) ?_
  refine P_callV1 (kc := kc) (ks := ks) (mc := 0) (ms := 0) (pc' := 1140) dL_law_1137 rfl lk_L_133 (l_55 k2.2.1) (t_55 k2.2.1) (r_pour (d := 100) hK.1 k2.2.1 f2 _ (by decide)) (by omega) (Nat.le_of_ble_eq_true rfl) (fun r S3 I3 hq => ?_)
  obtain ⟨rfl, rfl, re, f3⟩ := hq
  refine P_icmp_eq (tgt := 1468) (pc' := 1143) dL_law_1140 rfl rfl (fun _ => nx _ _ _ _ _ (k2.nxt re f3) (Or.inl (by omega))) (fun h => absurd rfl h)
theorem w_reads {G : GX} {nm : String} {S : Shp} {I : Mem} {d kc ks tn bn j : Nat} {tx : Nat → Tx} (hK : K S I I tn bn tx) (hd : 120 ≤ d) (hj : 6 * j + 6 ≤ gN G) (hN : gN G ≤ 3072) (nx : NX G nm d kc ks S j) : PW G RL nm cL_law 4 (some .boolean) d kc ks LQ 1145 (LL j) [] S I := by
  refine P_aload1 (pc' := 1146) dL_law_1145 rfl ?_
  refine P_aload0 (pc' := 1147) dL_law_1146 rfl ?_
  refine P_iload3 (pc' := 1148) dL_law_1147 rfl ?_
  refine P_iconst (pc' := 1149) dL_law_1148 rfl (v := 1) rfl ?_
  refine P_iadd (pc' := 1150) dL_law_1149 rfl ?_
  refine P_sld (pc' := 1151) (j := 6 * j + 1) dL_law_1150 rfl (nI_add (6 * j) 1) (by omega) (by omega) ?_
  refine P_callV1 (kc := kc) (ks := ks) (mc := 0) (ms := 0) (pc' := 1154) dL_law_1151 rfl lk_L_134 (l_0 hK.2.1) (t_0 hK.2.1) (x_reads (d := 100) hK _ (by decide)).sz (by omega) (Nat.le_of_ble_eq_true rfl) (fun r S2 I2 hq => ?_)
  obtain ⟨⟨rfl, k2, f2⟩, s1, s2⟩ := hq
  refine P_aload2 (pc' := 1155) dL_law_1154 rfl ?_
  refine P_aload0 (pc' := 1156) dL_law_1155 rfl ?_
  refine P_iload3 (pc' := 1157) dL_law_1156 rfl ?_
  refine P_iconst (pc' := 1158) dL_law_1157 rfl (v := 1) rfl ?_
  refine P_iadd (pc' := 1159) dL_law_1158 rfl ?_
  refine P_sld (pc' := 1160) (j := 6 * j + 1) dL_law_1159 rfl (nI_add (6 * j) 1) (by omega) (by omega) ?_
  refine P_callV1 (kc := kc) (ks := ks) (mc := 0) (ms := 0) (pc' := 1163) dL_law_1160 rfl lk_L_137 (l_55 k2.2.1) (t_55 k2.2.1) (r_reads (d := 100) hK.1 k2.2.1 f2 _ (by decide)) (by omega) (Nat.le_of_ble_eq_true rfl) (fun r S3 I3 hq => ?_)
  obtain ⟨rfl, rfl, re, f3⟩ := hq
  refine P_icmp_eq (tgt := 1468) (pc' := 1166) dL_law_1163 rfl rfl (fun _ => nx _ _ _ _ _ (k2.nxt re f3) (Or.inl (by omega))) (fun h => absurd rfl h)
theorem w_copy {G : GX} {nm : String} {S : Shp} {I : Mem} {d kc ks tn bn j : Nat} {tx : Nat → Tx} (hK : K S I I tn bn tx) (hd : 120 ≤ d) (hj : 6 * j + 6 ≤ gN G) (hN : gN G ≤ 3072) (nx : NX G nm d kc ks S j) : PW G RL nm cL_law 4 (some .boolean) d kc ks LQ 1168 (LL j) [] S I := by
  refine P_aload1 (pc' := 1169) dL_law_1168 rfl ?_
  refine P_aload0 (pc' := 1170) dL_law_1169 rfl ?_
  refine P_iload3 (pc' := 1171) dL_law_1170 rfl ?_
  refine P_iconst (pc' := 1172) dL_law_1171 rfl (v := 1) rfl ?_
  refine P_iadd (pc' := 1173) dL_law_1172 rfl ?_
  refine P_sld (pc' := 1174) (j := 6 * j + 1) dL_law_1173 rfl (nI_add (6 * j) 1) (by omega) (by omega) ?_
  refine P_aload0 (pc' := 1175) dL_law_1174 rfl ?_
  refine P_iload3 (pc' := 1176) dL_law_1175 rfl ?_
  refine P_iconst (pc' := 1177) dL_law_1176 rfl (v := 2) rfl ?_
  refine P_iadd (pc' := 1178) dL_law_1177 rfl ?_
  refine P_sld (pc' := 1179) (j := 6 * j + 2) dL_law_1178 rfl (nI_add (6 * j) 2) (by omega) (by omega) ?_
  refine P_aload0 (pc' := 1180) dL_law_1179 rfl ?_
  refine P_iload3 (pc' := 1181) dL_law_1180 rfl ?_
  refine P_iconst (pc' := 1182) dL_law_1181 rfl (v := 3) rfl ?_
  refine P_iadd (pc' := 1183) dL_law_1182 rfl ?_
  refine P_sld (pc' := 1184) (j := 6 * j + 3) dL_law_1183 rfl (nI_add (6 * j) 3) (by omega) (by omega) ?_
  refine P_aload0 (pc' := 1185) dL_law_1184 rfl ?_
  refine P_iload3 (pc' := 1186) dL_law_1185 rfl ?_
  refine P_iconst (pc' := 1187) dL_law_1186 rfl (v := 4) rfl ?_
  refine P_iadd (pc' := 1188) dL_law_1187 rfl ?_
  refine P_sld (pc' := 1189) (j := 6 * j + 4) dL_law_1188 rfl (nI_add (6 * j) 4) (by omega) (by omega) ?_
  refine P_aload0 (pc' := 1190) dL_law_1189 rfl ?_
  refine P_iload3 (pc' := 1191) dL_law_1190 rfl ?_
  refine P_iconst (pc' := 1192) dL_law_1191 rfl (v := 5) rfl ?_
  refine P_iadd (pc' := 1193) dL_law_1192 rfl ?_
  refine P_sld (pc' := 1194) (j := 6 * j + 5) dL_law_1193 rfl (nI_add (6 * j) 5) (by omega) (by omega) ?_
  refine P_callV5 (kc := kc) (ks := ks) (mc := 0) (ms := 0) (pc' := 1197) dL_law_1194 rfl lk_L_138 (l_0 hK.2.1) (t_0 hK.2.1) (x_copy (d := 100) hK _ _ _ _ _ (by decide)).sz (by omega) (Nat.le_of_ble_eq_true rfl) (fun r S2 I2 hq => ?_)
  obtain ⟨⟨rfl, k2, f2⟩, s1, s2⟩ := hq
  refine P_aload2 (pc' := 1198) dL_law_1197 rfl ?_
  refine P_aload0 (pc' := 1199) dL_law_1198 rfl ?_
  refine P_iload3 (pc' := 1200) dL_law_1199 rfl ?_
  refine P_iconst (pc' := 1201) dL_law_1200 rfl (v := 1) rfl ?_
  refine P_iadd (pc' := 1202) dL_law_1201 rfl ?_
  refine P_sld (pc' := 1203) (j := 6 * j + 1) dL_law_1202 rfl (nI_add (6 * j) 1) (by omega) (by omega) ?_
  refine P_aload0 (pc' := 1204) dL_law_1203 rfl ?_
  refine P_iload3 (pc' := 1205) dL_law_1204 rfl ?_
  refine P_iconst (pc' := 1206) dL_law_1205 rfl (v := 2) rfl ?_
  refine P_iadd (pc' := 1207) dL_law_1206 rfl ?_
  refine P_sld (pc' := 1208) (j := 6 * j + 2) dL_law_1207 rfl (nI_add (6 * j) 2) (by omega) (by omega) ?_
  refine P_aload0 (pc' := 1209) dL_law_1208 rfl ?_
  refine P_iload3 (pc' := 1210) dL_law_1209 rfl ?_
  refine P_iconst (pc' := 1211) dL_law_1210 rfl (v := 3) rfl ?_
  refine P_iadd (pc' := 1212) dL_law_1211 rfl ?_
  refine P_sld (pc' := 1213) (j := 6 * j + 3) dL_law_1212 rfl (nI_add (6 * j) 3) (by omega) (by omega) ?_
  refine P_aload0 (pc' := 1214) dL_law_1213 rfl ?_
  refine P_iload3 (pc' := 1215) dL_law_1214 rfl ?_
  refine P_iconst (pc' := 1216) dL_law_1215 rfl (v := 4) rfl ?_
  refine P_iadd (pc' := 1217) dL_law_1216 rfl ?_
  refine P_sld (pc' := 1218) (j := 6 * j + 4) dL_law_1217 rfl (nI_add (6 * j) 4) (by omega) (by omega) ?_
  refine P_aload0 (pc' := 1219) dL_law_1218 rfl ?_
  refine P_iload3 (pc' := 1220) dL_law_1219 rfl ?_
  refine P_iconst (pc' := 1221) dL_law_1220 rfl (v := 5) rfl ?_
  refine P_iadd (pc' := 1222) dL_law_1221 rfl ?_
  refine P_sld (pc' := 1223) (j := 6 * j + 5) dL_law_1222 rfl (nI_add (6 * j) 5) (by omega) (by omega) ?_
  refine P_callV5 (kc := kc) (ks := ks) (mc := 0) (ms := 0) (pc' := 1226) dL_law_1223 rfl lk_L_142 (l_55 k2.2.1) (t_55 k2.2.1) (r_copy (d := 100) hK.1 k2.2.1 f2 _ _ _ _ _ (by decide)) (by omega) (Nat.le_of_ble_eq_true rfl) (fun r S3 I3 hq => ?_)
  obtain ⟨rfl, rfl, re, f3⟩ := hq
  refine P_icmp_eq (tgt := 1468) (pc' := 1229) dL_law_1226 rfl rfl (fun _ => nx _ _ _ _ _ (k2.nxt re f3) (Or.inl (by omega))) (fun h => absurd rfl h)
theorem w_lay {G : GX} {nm : String} {S : Shp} {I : Mem} {d kc ks tn bn j : Nat} {tx : Nat → Tx} (hK : K S I I tn bn tx) (hd : 120 ≤ d) (hj : 6 * j + 6 ≤ gN G) (hN : gN G ≤ 3072) (nx : NX G nm d kc ks S j) : PW G RL nm cL_law 4 (some .boolean) d kc ks LQ 1231 (LL j) [] S I := by
  refine P_aload1 (pc' := 1232) dL_law_1231 rfl ?_
  refine P_aload0 (pc' := 1233) dL_law_1232 rfl ?_
  refine P_iload3 (pc' := 1234) dL_law_1233 rfl ?_
  refine P_iconst (pc' := 1235) dL_law_1234 rfl (v := 1) rfl ?_
  refine P_iadd (pc' := 1236) dL_law_1235 rfl ?_
  refine P_sld (pc' := 1237) (j := 6 * j + 1) dL_law_1236 rfl (nI_add (6 * j) 1) (by omega) (by omega) ?_
  refine P_aload0 (pc' := 1238) dL_law_1237 rfl ?_
  refine P_iload3 (pc' := 1239) dL_law_1238 rfl ?_
  refine P_iconst (pc' := 1240) dL_law_1239 rfl (v := 2) rfl ?_
  refine P_iadd (pc' := 1241) dL_law_1240 rfl ?_
  refine P_sld (pc' := 1242) (j := 6 * j + 2) dL_law_1241 rfl (nI_add (6 * j) 2) (by omega) (by omega) ?_
  refine P_aload0 (pc' := 1243) dL_law_1242 rfl ?_
  refine P_iload3 (pc' := 1244) dL_law_1243 rfl ?_
  refine P_iconst (pc' := 1245) dL_law_1244 rfl (v := 3) rfl ?_
  refine P_iadd (pc' := 1246) dL_law_1245 rfl ?_
  refine P_sld (pc' := 1247) (j := 6 * j + 3) dL_law_1246 rfl (nI_add (6 * j) 3) (by omega) (by omega) ?_
  refine P_callV3 (kc := kc) (ks := ks) (mc := 0) (ms := 0) (pc' := 1250) dL_law_1247 rfl lk_L_143 (l_0 hK.2.1) (t_0 hK.2.1) (x_lay (d := 100) hK _ _ _ (by decide)).sz (by omega) (Nat.le_of_ble_eq_true rfl) (fun r S2 I2 hq => ?_)
  obtain ⟨⟨rfl, k2, f2⟩, s1, s2⟩ := hq
  refine P_aload2 (pc' := 1251) dL_law_1250 rfl ?_
  refine P_aload0 (pc' := 1252) dL_law_1251 rfl ?_
  refine P_iload3 (pc' := 1253) dL_law_1252 rfl ?_
  refine P_iconst (pc' := 1254) dL_law_1253 rfl (v := 1) rfl ?_
  refine P_iadd (pc' := 1255) dL_law_1254 rfl ?_
  refine P_sld (pc' := 1256) (j := 6 * j + 1) dL_law_1255 rfl (nI_add (6 * j) 1) (by omega) (by omega) ?_
  refine P_aload0 (pc' := 1257) dL_law_1256 rfl ?_
  refine P_iload3 (pc' := 1258) dL_law_1257 rfl ?_
  refine P_iconst (pc' := 1259) dL_law_1258 rfl (v := 2) rfl ?_
  refine P_iadd (pc' := 1260) dL_law_1259 rfl ?_
  refine P_sld (pc' := 1261) (j := 6 * j + 2) dL_law_1260 rfl (nI_add (6 * j) 2) (by omega) (by omega) ?_
  refine P_aload0 (pc' := 1262) dL_law_1261 rfl ?_
  refine P_iload3 (pc' := 1263) dL_law_1262 rfl ?_
  refine P_iconst (pc' := 1264) dL_law_1263 rfl (v := 3) rfl ?_
  refine P_iadd (pc' := 1265) dL_law_1264 rfl ?_
  refine P_sld (pc' := 1266) (j := 6 * j + 3) dL_law_1265 rfl (nI_add (6 * j) 3) (by omega) (by omega) ?_
  refine P_callV3 (kc := kc) (ks := ks) (mc := 0) (ms := 0) (pc' := 1269) dL_law_1266 rfl lk_L_146 (l_55 k2.2.1) (t_55 k2.2.1) (r_lay (d := 100) hK.1 k2.2.1 f2 _ _ _ (by decide)) (by omega) (Nat.le_of_ble_eq_true rfl) (fun r S3 I3 hq => ?_)
  obtain ⟨rfl, rfl, re, f3⟩ := hq
  refine P_icmp_eq (tgt := 1468) (pc' := 1272) dL_law_1269 rfl rfl (fun _ => nx _ _ _ _ _ (k2.nxt re f3) (Or.inl (by omega))) (fun h => absurd rfl h)
theorem w_ask {G : GX} {nm : String} {S : Shp} {I : Mem} {d kc ks tn bn j : Nat} {tx : Nat → Tx} (hK : K S I I tn bn tx) (hd : 120 ≤ d) (hj : 6 * j + 6 ≤ gN G) (hN : gN G ≤ 3072) (nx : NX G nm d kc ks S j) : PW G RL nm cL_law 4 (some .boolean) d kc ks LQ 1274 (LL j) [] S I := by
  refine P_aload1 (pc' := 1275) dL_law_1274 rfl ?_
  refine P_aload0 (pc' := 1276) dL_law_1275 rfl ?_
  refine P_iload3 (pc' := 1277) dL_law_1276 rfl ?_
  refine P_iconst (pc' := 1278) dL_law_1277 rfl (v := 1) rfl ?_
  refine P_iadd (pc' := 1279) dL_law_1278 rfl ?_
  refine P_sld (pc' := 1280) (j := 6 * j + 1) dL_law_1279 rfl (nI_add (6 * j) 1) (by omega) (by omega) ?_
  refine P_aload0 (pc' := 1281) dL_law_1280 rfl ?_
  refine P_iload3 (pc' := 1282) dL_law_1281 rfl ?_
  refine P_iconst (pc' := 1283) dL_law_1282 rfl (v := 2) rfl ?_
  refine P_iadd (pc' := 1284) dL_law_1283 rfl ?_
  refine P_sld (pc' := 1285) (j := 6 * j + 2) dL_law_1284 rfl (nI_add (6 * j) 2) (by omega) (by omega) ?_
  refine P_callV2 (kc := kc) (ks := ks) (mc := 0) (ms := 0) (pc' := 1288) dL_law_1285 rfl lk_L_147 (l_0 hK.2.1) (t_0 hK.2.1) (x_ask (d := 100) hK _ _ (by decide)).sz (by omega) (Nat.le_of_ble_eq_true rfl) (fun r S2 I2 hq => ?_)
  obtain ⟨⟨rfl, k2, f2⟩, s1, s2⟩ := hq
  refine P_aload2 (pc' := 1289) dL_law_1288 rfl ?_
  refine P_aload0 (pc' := 1290) dL_law_1289 rfl ?_
  refine P_iload3 (pc' := 1291) dL_law_1290 rfl ?_
  refine P_iconst (pc' := 1292) dL_law_1291 rfl (v := 1) rfl ?_
  refine P_iadd (pc' := 1293) dL_law_1292 rfl ?_
  refine P_sld (pc' := 1294) (j := 6 * j + 1) dL_law_1293 rfl (nI_add (6 * j) 1) (by omega) (by omega) ?_
  refine P_aload0 (pc' := 1295) dL_law_1294 rfl ?_
  refine P_iload3 (pc' := 1296) dL_law_1295 rfl ?_
  refine P_iconst (pc' := 1297) dL_law_1296 rfl (v := 2) rfl ?_
  refine P_iadd (pc' := 1298) dL_law_1297 rfl ?_
  refine P_sld (pc' := 1299) (j := 6 * j + 2) dL_law_1298 rfl (nI_add (6 * j) 2) (by omega) (by omega) ?_
  refine P_callV2 (kc := kc) (ks := ks) (mc := 0) (ms := 0) (pc' := 1302) dL_law_1299 rfl lk_L_150 (l_55 k2.2.1) (t_55 k2.2.1) (r_ask (d := 100) hK.1 k2.2.1 f2 _ _ (by decide)) (by omega) (Nat.le_of_ble_eq_true rfl) (fun r S3 I3 hq => ?_)
  obtain ⟨rfl, rfl, re, f3⟩ := hq
  refine P_icmp_eq (tgt := 1468) (pc' := 1305) dL_law_1302 rfl rfl (fun _ => nx _ _ _ _ _ (k2.nxt re f3) (Or.inl (by omega))) (fun h => absurd rfl h)
theorem w_item {G : GX} {nm : String} {S : Shp} {I : Mem} {d kc ks tn bn j : Nat} {tx : Nat → Tx} (hK : K S I I tn bn tx) (hd : 120 ≤ d) (hj : 6 * j + 6 ≤ gN G) (hN : gN G ≤ 3072) (nx : NX G nm d kc ks S j) : PW G RL nm cL_law 4 (some .boolean) d kc ks LQ 1307 (LL j) [] S I := by
  refine P_aload1 (pc' := 1308) dL_law_1307 rfl ?_
  refine P_aload0 (pc' := 1309) dL_law_1308 rfl ?_
  refine P_iload3 (pc' := 1310) dL_law_1309 rfl ?_
  refine P_iconst (pc' := 1311) dL_law_1310 rfl (v := 1) rfl ?_
  refine P_iadd (pc' := 1312) dL_law_1311 rfl ?_
  refine P_sld (pc' := 1313) (j := 6 * j + 1) dL_law_1312 rfl (nI_add (6 * j) 1) (by omega) (by omega) ?_
  refine P_aload0 (pc' := 1314) dL_law_1313 rfl ?_
  refine P_iload3 (pc' := 1315) dL_law_1314 rfl ?_
  refine P_iconst (pc' := 1316) dL_law_1315 rfl (v := 2) rfl ?_
  refine P_iadd (pc' := 1317) dL_law_1316 rfl ?_
  refine P_sld (pc' := 1318) (j := 6 * j + 2) dL_law_1317 rfl (nI_add (6 * j) 2) (by omega) (by omega) ?_
  refine P_callV2 (kc := kc) (ks := ks) (mc := 0) (ms := 0) (pc' := 1321) dL_law_1318 rfl lk_L_151 (l_0 hK.2.1) (t_0 hK.2.1) (x_item (d := 100) hK _ _ (by decide)).sz (by omega) (Nat.le_of_ble_eq_true rfl) (fun r S2 I2 hq => ?_)
  obtain ⟨⟨rfl, k2, f2⟩, s1, s2⟩ := hq
  refine P_aload2 (pc' := 1322) dL_law_1321 rfl ?_
  refine P_aload0 (pc' := 1323) dL_law_1322 rfl ?_
  refine P_iload3 (pc' := 1324) dL_law_1323 rfl ?_
  refine P_iconst (pc' := 1325) dL_law_1324 rfl (v := 1) rfl ?_
  refine P_iadd (pc' := 1326) dL_law_1325 rfl ?_
  refine P_sld (pc' := 1327) (j := 6 * j + 1) dL_law_1326 rfl (nI_add (6 * j) 1) (by omega) (by omega) ?_
  refine P_aload0 (pc' := 1328) dL_law_1327 rfl ?_
  refine P_iload3 (pc' := 1329) dL_law_1328 rfl ?_
  refine P_iconst (pc' := 1330) dL_law_1329 rfl (v := 2) rfl ?_
  refine P_iadd (pc' := 1331) dL_law_1330 rfl ?_
  refine P_sld (pc' := 1332) (j := 6 * j + 2) dL_law_1331 rfl (nI_add (6 * j) 2) (by omega) (by omega) ?_
  refine P_callV2 (kc := kc) (ks := ks) (mc := 0) (ms := 0) (pc' := 1335) dL_law_1332 rfl lk_L_154 (l_55 k2.2.1) (t_55 k2.2.1) (r_item (d := 100) hK.1 k2.2.1 f2 _ _ (by decide)) (by omega) (Nat.le_of_ble_eq_true rfl) (fun r S3 I3 hq => ?_)
  obtain ⟨rfl, rfl, re, f3⟩ := hq
  refine P_icmp_eq (tgt := 1468) (pc' := 1338) dL_law_1335 rfl rfl (fun _ => nx _ _ _ _ _ (k2.nxt re f3) (Or.inl (by omega))) (fun h => absurd rfl h)
theorem w_rest {G : GX} {nm : String} {S : Shp} {I : Mem} {d kc ks tn bn j : Nat} {tx : Nat → Tx} (hK : K S I I tn bn tx) (hd : 120 ≤ d) (hj : 6 * j + 6 ≤ gN G) (hN : gN G ≤ 3072) (nx : NX G nm d kc ks S j) : PW G RL nm cL_law 4 (some .boolean) d kc ks LQ 1340 (LL j) [] S I := by
  refine P_aload1 (pc' := 1341) dL_law_1340 rfl ?_
  refine P_aload0 (pc' := 1342) dL_law_1341 rfl ?_
  refine P_iload3 (pc' := 1343) dL_law_1342 rfl ?_
  refine P_iconst (pc' := 1344) dL_law_1343 rfl (v := 1) rfl ?_
  refine P_iadd (pc' := 1345) dL_law_1344 rfl ?_
  refine P_sld (pc' := 1346) (j := 6 * j + 1) dL_law_1345 rfl (nI_add (6 * j) 1) (by omega) (by omega) ?_
  refine P_aload0 (pc' := 1347) dL_law_1346 rfl ?_
  refine P_iload3 (pc' := 1348) dL_law_1347 rfl ?_
  refine P_iconst (pc' := 1349) dL_law_1348 rfl (v := 2) rfl ?_
  refine P_iadd (pc' := 1350) dL_law_1349 rfl ?_
  refine P_sld (pc' := 1351) (j := 6 * j + 2) dL_law_1350 rfl (nI_add (6 * j) 2) (by omega) (by omega) ?_
  refine P_callV2 (kc := kc) (ks := ks) (mc := 0) (ms := 0) (pc' := 1354) dL_law_1351 rfl lk_L_155 (l_0 hK.2.1) (t_0 hK.2.1) (x_rest (d := 100) hK _ _ (by decide)).sz (by omega) (Nat.le_of_ble_eq_true rfl) (fun r S2 I2 hq => ?_)
  obtain ⟨⟨rfl, k2, f2⟩, s1, s2⟩ := hq
  refine P_aload2 (pc' := 1355) dL_law_1354 rfl ?_
  refine P_aload0 (pc' := 1356) dL_law_1355 rfl ?_
  refine P_iload3 (pc' := 1357) dL_law_1356 rfl ?_
  refine P_iconst (pc' := 1358) dL_law_1357 rfl (v := 1) rfl ?_
  refine P_iadd (pc' := 1359) dL_law_1358 rfl ?_
  refine P_sld (pc' := 1360) (j := 6 * j + 1) dL_law_1359 rfl (nI_add (6 * j) 1) (by omega) (by omega) ?_
  refine P_aload0 (pc' := 1361) dL_law_1360 rfl ?_
  refine P_iload3 (pc' := 1362) dL_law_1361 rfl ?_
  refine P_iconst (pc' := 1363) dL_law_1362 rfl (v := 2) rfl ?_
  refine P_iadd (pc' := 1364) dL_law_1363 rfl ?_
  refine P_sld (pc' := 1365) (j := 6 * j + 2) dL_law_1364 rfl (nI_add (6 * j) 2) (by omega) (by omega) ?_
  refine P_callV2 (kc := kc) (ks := ks) (mc := 0) (ms := 0) (pc' := 1368) dL_law_1365 rfl lk_L_158 (l_55 k2.2.1) (t_55 k2.2.1) (r_rest (d := 100) hK.1 k2.2.1 f2 _ _ (by decide)) (by omega) (Nat.le_of_ble_eq_true rfl) (fun r S3 I3 hq => ?_)
  obtain ⟨rfl, rfl, re, f3⟩ := hq
  refine P_icmp_eq (tgt := 1468) (pc' := 1371) dL_law_1368 rfl rfl (fun _ => nx _ _ _ _ _ (k2.nxt re f3) (Or.inl (by omega))) (fun h => absurd rfl h)
theorem w_tell {G : GX} {nm : String} {S : Shp} {I : Mem} {d kc ks tn bn j : Nat} {tx : Nat → Tx} (hK : K S I I tn bn tx) (hd : 120 ≤ d) (hj : 6 * j + 6 ≤ gN G) (hN : gN G ≤ 3072) (nx : NX G nm d kc ks S j) : PW G RL nm cL_law 4 (some .boolean) d kc ks LQ 1373 (LL j) [] S I := by
  refine P_aload1 (pc' := 1374) dL_law_1373 rfl ?_
  refine P_aload0 (pc' := 1375) dL_law_1374 rfl ?_
  refine P_iload3 (pc' := 1376) dL_law_1375 rfl ?_
  refine P_iconst (pc' := 1377) dL_law_1376 rfl (v := 1) rfl ?_
  refine P_iadd (pc' := 1378) dL_law_1377 rfl ?_
  refine P_sld (pc' := 1379) (j := 6 * j + 1) dL_law_1378 rfl (nI_add (6 * j) 1) (by omega) (by omega) ?_
  refine P_callV1 (kc := kc) (ks := ks) (mc := 0) (ms := 0) (pc' := 1382) dL_law_1379 rfl lk_L_159 (l_0 hK.2.1) (t_0 hK.2.1) (x_tell (d := 100) hK _ (by decide)).sz (by omega) (Nat.le_of_ble_eq_true rfl) (fun r S2 I2 hq => ?_)
  obtain ⟨⟨rfl, k2, f2⟩, s1, s2⟩ := hq
  refine P_aload2 (pc' := 1383) dL_law_1382 rfl ?_
  refine P_aload0 (pc' := 1384) dL_law_1383 rfl ?_
  refine P_iload3 (pc' := 1385) dL_law_1384 rfl ?_
  refine P_iconst (pc' := 1386) dL_law_1385 rfl (v := 1) rfl ?_
  refine P_iadd (pc' := 1387) dL_law_1386 rfl ?_
  refine P_sld (pc' := 1388) (j := 6 * j + 1) dL_law_1387 rfl (nI_add (6 * j) 1) (by omega) (by omega) ?_
  refine P_callV1 (kc := kc) (ks := ks) (mc := 0) (ms := 0) (pc' := 1391) dL_law_1388 rfl lk_L_162 (l_55 k2.2.1) (t_55 k2.2.1) (r_tell (d := 100) hK.1 k2.2.1 f2 _ (by decide)) (by omega) (Nat.le_of_ble_eq_true rfl) (fun r S3 I3 hq => ?_)
  obtain ⟨rfl, rfl, re, f3⟩ := hq
  refine P_icmp_eq (tgt := 1468) (pc' := 1394) dL_law_1391 rfl rfl (fun _ => nx _ _ _ _ _ (k2.nxt re f3) (Or.inl (by omega))) (fun h => absurd rfl h)
theorem w_check {G : GX} {nm : String} {S : Shp} {I : Mem} {d kc ks tn bn j : Nat} {tx : Nat → Tx} (hK : K S I I tn bn tx) (hd : 120 ≤ d) (hj : 6 * j + 6 ≤ gN G) (hN : gN G ≤ 3072) (nx : NX G nm d kc ks S j) : PW G RL nm cL_law 4 (some .boolean) d kc ks LQ 1396 (LL j) [] S I := by
  refine P_aload1 (pc' := 1397) dL_law_1396 rfl ?_
  refine P_aload0 (pc' := 1398) dL_law_1397 rfl ?_
  refine P_iload3 (pc' := 1399) dL_law_1398 rfl ?_
  refine P_iconst (pc' := 1400) dL_law_1399 rfl (v := 1) rfl ?_
  refine P_iadd (pc' := 1401) dL_law_1400 rfl ?_
  refine P_sld (pc' := 1402) (j := 6 * j + 1) dL_law_1401 rfl (nI_add (6 * j) 1) (by omega) (by omega) ?_
  refine P_callV1 (kc := kc) (ks := ks) (mc := 0) (ms := 0) (pc' := 1405) dL_law_1402 rfl lk_L_163 (l_0 hK.2.1) (t_0 hK.2.1) (x_check (d := 100) hK _ (by decide)).sz (by omega) (Nat.le_of_ble_eq_true rfl) (fun r S2 I2 hq => ?_)
  obtain ⟨⟨rfl, k2, f2⟩, s1, s2⟩ := hq
  refine P_aload2 (pc' := 1406) dL_law_1405 rfl ?_
  refine P_aload0 (pc' := 1407) dL_law_1406 rfl ?_
  refine P_iload3 (pc' := 1408) dL_law_1407 rfl ?_
  refine P_iconst (pc' := 1409) dL_law_1408 rfl (v := 1) rfl ?_
  refine P_iadd (pc' := 1410) dL_law_1409 rfl ?_
  refine P_sld (pc' := 1411) (j := 6 * j + 1) dL_law_1410 rfl (nI_add (6 * j) 1) (by omega) (by omega) ?_
  refine P_callV1 (kc := kc) (ks := ks) (mc := 0) (ms := 0) (pc' := 1414) dL_law_1411 rfl lk_L_166 (l_55 k2.2.1) (t_55 k2.2.1) (r_check (d := 100) hK.1 k2.2.1 f2 _ (by decide)) (by omega) (Nat.le_of_ble_eq_true rfl) (fun r S3 I3 hq => ?_)
  obtain ⟨rfl, rfl, re, f3⟩ := hq
  refine P_icmp_eq (tgt := 1468) (pc' := 1417) dL_law_1414 rfl rfl (fun _ => nx _ _ _ _ _ (k2.nxt re f3) (Or.inl (by omega))) (fun h => absurd rfl h)
theorem w_keep {G : GX} {nm : String} {S : Shp} {I : Mem} {d kc ks tn bn j : Nat} {tx : Nat → Tx} (hK : K S I I tn bn tx) (hd : 120 ≤ d) (hj : 6 * j + 6 ≤ gN G) (hN : gN G ≤ 3072) (nx : NX G nm d kc ks S j) : PW G RL nm cL_law 4 (some .boolean) d kc ks LQ 1419 (LL j) [] S I := by
  refine P_aload1 (pc' := 1420) dL_law_1419 rfl ?_
  refine P_callV0 (kc := kc) (ks := ks) (mc := 0) (ms := 0) (pc' := 1423) dL_law_1420 rfl lk_L_167 (l_0 hK.2.1) (t_0 hK.2.1) (x_keep (d := 100) hK (by decide)).sz (by omega) (Nat.le_of_ble_eq_true rfl) (fun r S2 I2 hq => ?_)
  obtain ⟨⟨rfl, k2, f2⟩, s1, s2⟩ := hq
  refine P_aload2 (pc' := 1424) dL_law_1423 rfl ?_
  refine P_callV0 (kc := kc) (ks := ks) (mc := 0) (ms := 0) (pc' := 1427) dL_law_1424 rfl lk_L_170 (l_55 k2.2.1) (t_55 k2.2.1) (r_keep (d := 100) hK.1 k2.2.1 f2 (by decide)) (by omega) (Nat.le_of_ble_eq_true rfl) (fun r S3 I3 hq => ?_)
  obtain ⟨rfl, rfl, re, f3⟩ := hq
  refine P_icmp_eq (tgt := 1468) (pc' := 1430) dL_law_1427 rfl rfl (fun _ => nx _ _ _ _ _ (k2.nxt re f3) (Or.inl (by omega))) (fun h => absurd rfl h)
theorem w_back {G : GX} {nm : String} {S : Shp} {I : Mem} {d kc ks tn bn j : Nat} {tx : Nat → Tx} (hK : K S I I tn bn tx) (hd : 120 ≤ d) (hj : 6 * j + 6 ≤ gN G) (hN : gN G ≤ 3072) (nx : NX G nm d kc ks S j) : PW G RL nm cL_law 4 (some .boolean) d kc ks LQ 1432 (LL j) [] S I := by
  refine P_aload1 (pc' := 1433) dL_law_1432 rfl ?_
  refine P_callV0 (kc := kc) (ks := ks) (mc := 0) (ms := 0) (pc' := 1436) dL_law_1433 rfl lk_L_171 (l_0 hK.2.1) (t_0 hK.2.1) (x_back (d := 100) hK (by decide)).sz (by omega) (Nat.le_of_ble_eq_true rfl) (fun r S2 I2 hq => ?_)
  obtain ⟨⟨rfl, k2, f2⟩, s1, s2⟩ := hq
  refine P_aload2 (pc' := 1437) dL_law_1436 rfl ?_
  refine P_callV0 (kc := kc) (ks := ks) (mc := 0) (ms := 0) (pc' := 1440) dL_law_1437 rfl lk_L_174 (l_55 k2.2.1) (t_55 k2.2.1) (r_back (d := 100) hK.1 k2.2.1 f2 (by decide)) (by omega) (Nat.le_of_ble_eq_true rfl) (fun r S3 I3 hq => ?_)
  obtain ⟨rfl, rfl, re, f3⟩ := hq
  refine P_icmp_eq (tgt := 1468) (pc' := 1443) dL_law_1440 rfl rfl (fun _ => nx _ _ _ _ _ (k2.nxt re f3) (Or.inl (by omega))) (fun h => absurd rfl h)
theorem w_count {G : GX} {nm : String} {S : Shp} {I : Mem} {d kc ks tn bn j : Nat} {tx : Nat → Tx} (hK : K S I I tn bn tx) (hd : 120 ≤ d) (hj : 6 * j + 6 ≤ gN G) (hN : gN G ≤ 3072) (nx : NX G nm d kc ks S j) : PW G RL nm cL_law 4 (some .boolean) d kc ks LQ 1445 (LL j) [] S I := by
  refine P_aload1 (pc' := 1446) dL_law_1445 rfl ?_
  refine P_aload0 (pc' := 1447) dL_law_1446 rfl ?_
  refine P_iload3 (pc' := 1448) dL_law_1447 rfl ?_
  refine P_iconst (pc' := 1449) dL_law_1448 rfl (v := 1) rfl ?_
  refine P_iadd (pc' := 1450) dL_law_1449 rfl ?_
  refine P_sld (pc' := 1451) (j := 6 * j + 1) dL_law_1450 rfl (nI_add (6 * j) 1) (by omega) (by omega) ?_
  refine P_callV1 (kc := kc) (ks := ks) (mc := 0) (ms := 0) (pc' := 1454) dL_law_1451 rfl lk_L_175 (l_0 hK.2.1) (t_0 hK.2.1) (x_count (d := 100) hK _ (by decide)).sz (by omega) (Nat.le_of_ble_eq_true rfl) (fun r S2 I2 hq => ?_)
  obtain ⟨⟨rfl, k2, f2⟩, s1, s2⟩ := hq
  refine P_aload2 (pc' := 1455) dL_law_1454 rfl ?_
  refine P_aload0 (pc' := 1456) dL_law_1455 rfl ?_
  refine P_iload3 (pc' := 1457) dL_law_1456 rfl ?_
  refine P_iconst (pc' := 1458) dL_law_1457 rfl (v := 1) rfl ?_
  refine P_iadd (pc' := 1459) dL_law_1458 rfl ?_
  refine P_sld (pc' := 1460) (j := 6 * j + 1) dL_law_1459 rfl (nI_add (6 * j) 1) (by omega) (by omega) ?_
  refine P_callV1 (kc := kc) (ks := ks) (mc := 0) (ms := 0) (pc' := 1463) dL_law_1460 rfl lk_L_178 (l_55 k2.2.1) (t_55 k2.2.1) (r_count (d := 100) hK.1 k2.2.1 f2 _ (by decide)) (by omega) (Nat.le_of_ble_eq_true rfl) (fun r S3 I3 hq => ?_)
  obtain ⟨rfl, rfl, re, f3⟩ := hq
  refine P_icmp_eq (tgt := 1468) (pc' := 1466) dL_law_1463 rfl rfl (fun _ => nx _ _ _ _ _ (k2.nxt re f3) (Or.inl (by omega))) (fun h => absurd rfl h)
theorem and63 (x : Int32) : ∃ q, q < 64 ∧ x &&& 63 = nI q := by
  have h : (x &&& 63).toBitVec.toNat < 64 := by
    rw [Int32.toBitVec_and, BitVec.toNat_and]
    exact Nat.lt_of_le_of_lt Nat.and_le_right (by decide)
  refine ⟨_, h, ?_⟩
  generalize x &&& 63 = y
  refine Int32.toBitVec_inj.mp (BitVec.eq_of_toNat_eq ?_)
  show y.toBitVec.toNat = (BitVec.ofNat 32 y.toBitVec.toNat).toNat
  rw [BitVec.toNat_ofNat, Nat.mod_eq_of_lt y.toBitVec.isLt]
theorem cmpL {L j : Nat} (hL : L ≤ 3072) (hj : j ≤ 1000) : (nI L - 6 < nI (6 * j)) ↔ L < 6 * j + 6 := by
  rw [Int32.lt_iff_toInt_lt, show nI L - 6 = nI L - nI 6 from rfl, pk_sub_toInt (by omega) (by decide), nI_toInt (by omega)]
  omega
theorem w_all {G : GX} {nm : String} {S : Shp} {I : Mem} {d kc ks tn bn j : Nat} {tx : Nat → Tx} (hG : (gFm G).category = 1) (cap : S.1 + 3 ≤ 3000) (h3 : S.1 % 3 = 2) (hK : K S I I tn bn tx) (hd : 120 ≤ d) (hj : 6 * j + 6 ≤ gN G) (hN : gN G ≤ 3072) (nx : NX G nm d kc ks S j) : PW G RL nm cL_law 4 (some .boolean) d (kc + 3) (ks + 196) LQ 27 (LL j) [] S I := by
  refine P_aload0 (pc' := 28) dL_law_27 rfl ?_
  refine P_iload3 (pc' := 29) dL_law_28 rfl ?_
  refine P_sld (pc' := 30) (j := 6 * j) dL_law_29 rfl rfl (by omega) (by omega) ?_
  refine P_bipush (pc' := 32) dL_law_30 rfl (v := 63) rfl ?_
  refine P_iand (pc' := 33) dL_law_32 rfl ?_
  obtain ⟨q, hq, e⟩ := and63 (gXs G (6 * j))
  refine P_as e ?_
  rcases (show q = 0 ∨ q = 1 ∨ q = 2 ∨ q = 3 ∨ q = 4 ∨ q = 5 ∨ q = 6 ∨ q = 7 ∨ q = 8 ∨ q = 9 ∨ q = 10 ∨ q = 11 ∨ q = 12 ∨ q = 13 ∨ q = 14 ∨ q = 15 ∨ q = 16 ∨ q = 17 ∨ q = 18 ∨ q = 19 ∨ q = 20 ∨ q = 21 ∨ q = 22 ∨ q = 23 ∨ q = 24 ∨ q = 25 ∨ q = 26 ∨ q = 27 ∨ q = 28 ∨ q = 29 ∨ q = 30 ∨ q = 31 ∨ q = 32 ∨ q = 33 ∨ q = 34 ∨ q = 35 ∨ q = 36 ∨ q = 37 ∨ q = 38 ∨ q = 39 ∨ 40 ≤ q by omega) with rfl | rfl | rfl | rfl | rfl | rfl | rfl | rfl | rfl | rfl | rfl | rfl | rfl | rfl | rfl | rfl | rfl | rfl | rfl | rfl | rfl | rfl | rfl | rfl | rfl | rfl | rfl | rfl | rfl | rfl | rfl | rfl | rfl | rfl | rfl | rfl | rfl | rfl | rfl | rfl | h40
  · refine P_tabIn (tgt := 208) dL_law_33 (by decide) (by decide) rfl rfl ?_
    exact PW.room (w_beggar hK hd hj hN nx) (Nat.le_refl _) (Nat.le_add_right _ _) (Nat.le_add_right _ _)
  · refine P_tabIn (tgt := 251) dL_law_33 (by decide) (by decide) rfl rfl ?_
    exact PW.room (w_told hK hd hj hN nx) (Nat.le_refl _) (Nat.le_add_right _ _) (Nat.le_add_right _ _)
  · refine P_tabIn (tgt := 284) dL_law_33 (by decide) (by decide) rfl rfl ?_
    exact PW.room (w_given hK hd hj hN nx) (Nat.le_refl _) (Nat.le_add_right _ _) (Nat.le_add_right _ _)
  · refine P_tabIn (tgt := 337) dL_law_33 (by decide) (by decide) rfl rfl ?_
    exact PW.room (w_as hK hd hj hN nx) (Nat.le_refl _) (Nat.le_add_right _ _) (Nat.le_add_right _ _)
  · refine P_tabIn (tgt := 370) dL_law_33 (by decide) (by decide) rfl rfl ?_
    exact PW.room (w_turns hK hd hj hN nx) (Nat.le_refl _) (Nat.le_add_right _ _) (Nat.le_add_right _ _)
  · refine P_tabIn (tgt := 403) dL_law_33 (by decide) (by decide) rfl rfl ?_
    exact PW.room (w_set hK hd hj hN nx) (Nat.le_refl _) (Nat.le_add_right _ _) (Nat.le_add_right _ _)
  · refine P_tabIn (tgt := 446) dL_law_33 (by decide) (by decide) rfl rfl ?_
    exact PW.room (w_rent hK hd hj hN nx) (Nat.le_refl _) (Nat.le_add_right _ _) (Nat.le_add_right _ _)
  · refine P_tabIn (tgt := 479) dL_law_33 (by decide) (by decide) rfl rfl ?_
    exact PW.room (w_rule hK hd hj hN nx) (Nat.le_refl _) (Nat.le_add_right _ _) (Nat.le_add_right _ _)
  · refine P_tabIn (tgt := 512) dL_law_33 (by decide) (by decide) rfl rfl ?_
    exact PW.room (w_deal hK hd hj hN nx) (Nat.le_refl _) (Nat.le_add_right _ _) (Nat.le_add_right _ _)
  · refine P_tabIn (tgt := 535) dL_law_33 (by decide) (by decide) rfl rfl ?_
    exact PW.room (w_seed hK hd hj hN nx) (Nat.le_refl _) (Nat.le_add_right _ _) (Nat.le_add_right _ _)
  · refine P_tabIn (tgt := 558) dL_law_33 (by decide) (by decide) rfl rfl ?_
    exact PW.room (w_hours hK hd hj hN nx) (Nat.le_refl _) (Nat.le_add_right _ _) (Nat.le_add_right _ _)
  · refine P_tabIn (tgt := 581) dL_law_33 (by decide) (by decide) rfl rfl ?_
    exact PW.room (w_guild hK hd hj hN nx) (Nat.le_refl _) (Nat.le_add_right _ _) (Nat.le_add_right _ _)
  · refine P_tabIn (tgt := 604) dL_law_33 (by decide) (by decide) rfl rfl ?_
    exact PW.room (w_behind hK hd hj hN nx) (Nat.le_refl _) (Nat.le_add_right _ _) (Nat.le_add_right _ _)
  · refine P_tabIn (tgt := 637) dL_law_33 (by decide) (by decide) rfl rfl ?_
    exact PW.room (w_best hK hd hj hN nx) (Nat.le_refl _) (Nat.le_add_right _ _) (Nat.le_add_right _ _)
  · refine P_tabIn (tgt := 680) dL_law_33 (by decide) (by decide) rfl rfl ?_
    exact PW.room (w_letting hK hd hj hN nx) (Nat.le_refl _) (Nat.le_add_right _ _) (Nat.le_add_right _ _)
  · refine P_tabIn (tgt := 713) dL_law_33 (by decide) (by decide) rfl rfl ?_
    exact PW.room (w_takes hK hd hj hN nx) (Nat.le_refl _) (Nat.le_add_right _ _) (Nat.le_add_right _ _)
  · refine P_tabIn (tgt := 756) dL_law_33 (by decide) (by decide) rfl rfl ?_
    exact PW.room (w_bestRent hK hd hj hN nx) (Nat.le_refl _) (Nat.le_add_right _ _) (Nat.le_add_right _ _)
  · refine P_tabIn (tgt := 789) dL_law_33 (by decide) (by decide) rfl rfl ?_
    exact PW.room (w_mourned hK hd hj hN nx) (Nat.le_refl _) (Nat.le_add_right _ _) (Nat.le_add_right _ _)
  · refine P_tabIn (tgt := 822) dL_law_33 (by decide) (by decide) rfl rfl ?_
    exact PW.room (w_stood hK hd hj hN nx) (Nat.le_refl _) (Nat.le_add_right _ _) (Nat.le_add_right _ _)
  · refine P_tabIn (tgt := 865) dL_law_33 (by decide) (by decide) rfl rfl ?_
    exact PW.room (w_fee hK hd hj hN nx) (Nat.le_refl _) (Nat.le_add_right _ _) (Nat.le_add_right _ _)
  · refine P_tabIn (tgt := 878) dL_law_33 (by decide) (by decide) rfl rfl ?_
    exact PW.room (w_fine hK hd hj hN nx) (Nat.le_refl _) (Nat.le_add_right _ _) (Nat.le_add_right _ _)
  · refine P_tabIn (tgt := 901) dL_law_33 (by decide) (by decide) rfl rfl ?_
    exact PW.room (w_feed hK hd hj hN nx) (Nat.le_refl _) (Nat.le_add_right _ _) (Nat.le_add_right _ _)
  · refine P_tabIn (tgt := 944) dL_law_33 (by decide) (by decide) rfl rfl ?_
    exact PW.room (w_trim hK hd hj hN nx) (Nat.le_refl _) (Nat.le_add_right _ _) (Nat.le_add_right _ _)
  · refine P_tabIn (tgt := 967) dL_law_33 (by decide) (by decide) rfl rfl ?_
    exact w_text hG cap h3 hK hd hj hN nx
  · refine P_tabIn (tgt := 980) dL_law_33 (by decide) (by decide) rfl rfl ?_
    exact PW.room (w_textTold hK hd hj hN nx) (Nat.le_refl _) (Nat.le_add_right _ _) (Nat.le_add_right _ _)
  · refine P_tabIn (tgt := 1013) dL_law_33 (by decide) (by decide) rfl rfl ?_
    exact PW.room (w_why hK hd hj hN nx) (Nat.le_refl _) (Nat.le_add_right _ _) (Nat.le_add_right _ _)
  · refine P_tabIn (tgt := 1036) dL_law_33 (by decide) (by decide) rfl rfl ?_
    exact PW.room (w_sheet hK hd hj hN nx) (Nat.le_refl _) (Nat.le_add_right _ _) (Nat.le_add_right _ _)
  · refine P_tabIn (tgt := 1079) dL_law_33 (by decide) (by decide) rfl rfl ?_
    exact PW.room (w_mark hK hd hj hN nx) (Nat.le_refl _) (Nat.le_add_right _ _) (Nat.le_add_right _ _)
  · refine P_tabIn (tgt := 1122) dL_law_33 (by decide) (by decide) rfl rfl ?_
    exact PW.room (w_pour hK hd hj hN nx) (Nat.le_refl _) (Nat.le_add_right _ _) (Nat.le_add_right _ _)
  · refine P_tabIn (tgt := 1145) dL_law_33 (by decide) (by decide) rfl rfl ?_
    exact PW.room (w_reads hK hd hj hN nx) (Nat.le_refl _) (Nat.le_add_right _ _) (Nat.le_add_right _ _)
  · refine P_tabIn (tgt := 1168) dL_law_33 (by decide) (by decide) rfl rfl ?_
    exact PW.room (w_copy hK hd hj hN nx) (Nat.le_refl _) (Nat.le_add_right _ _) (Nat.le_add_right _ _)
  · refine P_tabIn (tgt := 1231) dL_law_33 (by decide) (by decide) rfl rfl ?_
    exact PW.room (w_lay hK hd hj hN nx) (Nat.le_refl _) (Nat.le_add_right _ _) (Nat.le_add_right _ _)
  · refine P_tabIn (tgt := 1274) dL_law_33 (by decide) (by decide) rfl rfl ?_
    exact PW.room (w_ask hK hd hj hN nx) (Nat.le_refl _) (Nat.le_add_right _ _) (Nat.le_add_right _ _)
  · refine P_tabIn (tgt := 1307) dL_law_33 (by decide) (by decide) rfl rfl ?_
    exact PW.room (w_item hK hd hj hN nx) (Nat.le_refl _) (Nat.le_add_right _ _) (Nat.le_add_right _ _)
  · refine P_tabIn (tgt := 1340) dL_law_33 (by decide) (by decide) rfl rfl ?_
    exact PW.room (w_rest hK hd hj hN nx) (Nat.le_refl _) (Nat.le_add_right _ _) (Nat.le_add_right _ _)
  · refine P_tabIn (tgt := 1373) dL_law_33 (by decide) (by decide) rfl rfl ?_
    exact PW.room (w_tell hK hd hj hN nx) (Nat.le_refl _) (Nat.le_add_right _ _) (Nat.le_add_right _ _)
  · refine P_tabIn (tgt := 1396) dL_law_33 (by decide) (by decide) rfl rfl ?_
    exact PW.room (w_check hK hd hj hN nx) (Nat.le_refl _) (Nat.le_add_right _ _) (Nat.le_add_right _ _)
  · refine P_tabIn (tgt := 1419) dL_law_33 (by decide) (by decide) rfl rfl ?_
    exact PW.room (w_keep hK hd hj hN nx) (Nat.le_refl _) (Nat.le_add_right _ _) (Nat.le_add_right _ _)
  · refine P_tabIn (tgt := 1432) dL_law_33 (by decide) (by decide) rfl rfl ?_
    exact PW.room (w_back hK hd hj hN nx) (Nat.le_refl _) (Nat.le_add_right _ _) (Nat.le_add_right _ _)
  · refine P_tabIn (tgt := 1445) dL_law_33 (by decide) (by decide) rfl rfl ?_
    exact PW.room (w_count hK hd hj hN nx) (Nat.le_refl _) (Nat.le_add_right _ _) (Nat.le_add_right _ _)
  · refine P_tabOut (tgt := 1468) dL_law_33 (Or.inr (by rw [nI_toInt (by omega)]; omega)) rfl ?_
    exact PW.room (nx S I tn bn tx hK (Or.inl rfl)) (Nat.le_refl _) (Nat.le_add_right _ _) (Nat.le_add_right _ _)
theorem lp_law {G : GX} {nm : String} {d : Nat} (hG : (gFm G).category = 1) (hd : 120 ≤ d) (hN : gN G ≤ 3072) : ∀ (m j : Nat) (S : Shp) (I : Mem) (tn bn : Nat) (tx : Nat → Tx), K S I I tn bn tx → S.1 % 3 = 2 → S.1 + 3 * m ≤ 2900 → gN G < 6 * (j + m) + 6 → j + m ≤ 600 → PW G RL nm cL_law 4 (some .boolean) d (3 * m) (196 * m) LQ 18 (LL j) [] S I := by
  intro m
  induction m with
  | zero =>
    intro j S I tn bn tx hK h3 hc hL hjm
    refine P_iload3 (pc' := 19) dL_law_18 rfl ?_
    refine P_aload0 (pc' := 20) dL_law_19 rfl ?_
    refine P_slen (pc' := 21) dL_law_20 rfl ?_
    refine P_bipush (pc' := 23) dL_law_21 rfl (v := 6) rfl ?_
    refine P_isub (pc' := 24) dL_law_23 rfl ?_
    refine P_icmp_gt (tgt := 1474) (pc' := 27) dL_law_24 rfl rfl (fun _ => ?_) (fun h => absurd ((cmpL hN (by omega)).mpr (by omega)) h)
    refine P_iconst (pc' := 1475) dL_law_1474 rfl (v := 1) rfl ?_
    refine P_zret dL_law_1475 (Or.inr rfl) ?_
    exact rfl
  | succ m ih =>
    intro j S I tn bn tx hK h3 hc hL hjm
    refine P_iload3 (pc' := 19) dL_law_18 rfl ?_
    refine P_aload0 (pc' := 20) dL_law_19 rfl ?_
    refine P_slen (pc' := 21) dL_law_20 rfl ?_
    refine P_bipush (pc' := 23) dL_law_21 rfl (v := 6) rfl ?_
    refine P_isub (pc' := 24) dL_law_23 rfl ?_
    refine P_icmp_gt (tgt := 1474) (pc' := 27) dL_law_24 rfl rfl (fun _ => ?_) (fun h => ?_)
    · refine P_iconst (pc' := 1475) dL_law_1474 rfl (v := 1) rfl ?_
      refine P_zret dL_law_1475 (Or.inr rfl) ?_
      exact rfl
    · have hj : 6 * j + 6 ≤ gN G := Nat.le_of_not_lt (fun z => h ((cmpL hN (by omega)).mpr z))
      refine PW.room (d := d) (kc := 3 * m + 3) (ks := 196 * m + 196) ?_ (Nat.le_refl _) (by omega) (by omega)
      refine w_all hG (by omega) h3 hK hd hj hN (fun S' I' tn' bn' tx' hK' hS' => ?_)
      refine P_iinc3 (pc' := 1471) (v := nI (6 * (j + 1))) dL_law_1468 rfl (nI_add (6 * j) 6) (by decide) rfl ?_
      refine P_goto (tgt := 18) dL_law_1471 rfl ?_
      exact ih (j + 1) S' I' tn' bn' tx' hK' (by omega) (by omega) (by omega) (by omega)
/-- the law's body -/
theorem law_all {G : GX} {nm : String} (hG : (gFm G).category = 1) (hN : gN G ≤ 3072) : PW G RL nm cL_law 4 (some .boolean) 2000 ((((3 * 512 + 21) + 1) + 54) + 1) ((((196 * 512 + 5096) + nFl 8) + 2647) + nFl 7) LQ 0 [some (.ref 1000000), none, none, none] [] zS zM := by
  refine P_new (kc := ((3 * 512 + 21) + 1) + 54) (ks := ((196 * 512 + 5096) + nFl 8) + 2647) (pc' := 3) dL_law_0 rfl cl_L_7 (by decide +kernel) ?_
  refine P_fd (S' := k8S0) (I' := k8M0) rfl rfl ?_
  refine P_ra (b := 0) (by decide +kernel) ?_
  refine P_dup (pc' := 4) dL_law_3 rfl rfl ?_
  refine P_callI0 (kc := (3 * 512 + 21) + 1) (ks := (196 * 512 + 5096) + nFl 8) (mc := 54) (ms := 2647) (pc' := 7) dL_law_4 rfl lk_L_9 (c_X8_init (d := 100) (by decide)) (by decide) (Nat.le_of_ble_eq_true rfl) (fun r S' I' hq => ?_)
  obtain ⟨rfl, rfl, rfl⟩ := hq
  refine P_astore1 (pc' := 8) dL_law_7 rfl (by decide) rfl ?_
  refine P_new (kc := 3 * 512 + 21) (ks := 196 * 512 + 5096) (pc' := 11) dL_law_8 rfl cl_L_10 (by decide +kernel) ?_
  refine P_fd (S' := k9S0) (I' := k9M0) rfl rfl ?_
  refine P_ra (b := 55) (by decide +kernel) ?_
  refine P_dup (pc' := 12) dL_law_11 rfl rfl ?_
  refine P_callI0 (kc := 3 * 512) (ks := 196 * 512) (mc := 21) (ms := 5096) (pc' := 15) dL_law_12 rfl lk_L_12 (c_X9_init (d := 100) (by decide)) (by decide) (Nat.le_of_ble_eq_true rfl) (fun r S' I' hq => ?_)
  obtain ⟨rfl, rfl, rfl⟩ := hq
  refine P_astore2 (pc' := 16) dL_law_15 rfl (by decide) rfl ?_
  refine P_iconst (pc' := 17) dL_law_16 rfl (v := nI (6 * 0)) rfl ?_
  refine P_istore3 (pc' := 18) dL_law_17 rfl (by decide) rfl ?_
  exact lp_law hG (by decide) hN 512 0 k9S64 k9M64 0 0 _ s0_K (by decide +kernel) (by decide +kernel) (by omega) (by decide)
