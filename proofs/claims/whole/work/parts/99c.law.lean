/-! the law's cases, walked -/
set_option maxHeartbeats 4000000 in
set_option maxRecDepth 100000 in
theorem lc_feed {X : zX} {Y : zY} {b L u v i x : Nat} {xs : Nat → Int32} {kd : Nat × Nat} (hO : LO X Y b L xs u v i) (hnx : zSd X Y (u + 5) (v + 30) 1991 (LI x (kd, b) i)) : zSd X Y u v 184 (LI x (kd, b) i) := by
  obtain ⟨O, hst, S, hR, hi, hu, hv⟩ := hO
  have B_255 : zSd X Y u v 255 _ := zr_dead (X := X) (Y := Y) (u := u) (v := v) (pc := 255)
  have B_252 : zSd X Y u v 252 _ := zr_iceq (X := X) (Y := Y) (u := u) (v := v) (tgt := 1991) O dL_law_252 rfl (zSd_more hnx (by omega) (by omega)) B_255
  have B_218 : zSd X Y u v 218 _ := zr_aload_n O dL_law_218 rfl (zr_aload_n O dL_law_219 rfl (zr_iload O dL_law_220 (zr_iconst (x := nI 1) O dL_law_222 (by decide) (zr_iadd O dL_law_223 (zr_sl O S dL_law_224 (zr_aload_n O dL_law_225 rfl (zr_iload O dL_law_226 (zr_iconst (x := nI 2) O dL_law_228 (by decide) (zr_iadd O dL_law_229 (zr_sl O S dL_law_230 (zr_aload_n O dL_law_231 rfl (zr_iload O dL_law_232 (zr_iconst (x := nI 3) O dL_law_234 (by decide) (zr_iadd O dL_law_235 (zr_sl O S dL_law_236 (zr_aload_n O dL_law_237 rfl (zr_iload O dL_law_238 (zr_iconst (x := nI 4) O dL_law_240 (by decide) (zr_iadd O dL_law_241 (zr_sl O S dL_law_242 (zr_aload_n O dL_law_243 rfl (zr_iload O dL_law_244 (zr_iconst (x := nI 5) O dL_law_246 (by decide) (zr_iadd O dL_law_247 (zr_sl O S dL_law_248 (zr_cV (X := X) (Y := Y) (u := u) (v := v) (ci := 10) (n := 5) O m_X11_feed (bn_X11_feed _ ⟨rfl, rfl⟩) vw_X11_feed tv_1293 rc_X11_feed (zrLw hR rfl rfl (by omega) (by omega)) dL_law_249 B_252))))))))))))))))))))))))))
  have B_184 : zSd X Y u v 184 _ := zr_aload_n O dL_law_184 rfl (zr_aload_n O dL_law_185 rfl (zr_iload O dL_law_186 (zr_iconst (x := nI 1) O dL_law_188 (by decide) (zr_iadd O dL_law_189 (zr_sl O S dL_law_190 (zr_aload_n O dL_law_191 rfl (zr_iload O dL_law_192 (zr_iconst (x := nI 2) O dL_law_194 (by decide) (zr_iadd O dL_law_195 (zr_sl O S dL_law_196 (zr_aload_n O dL_law_197 rfl (zr_iload O dL_law_198 (zr_iconst (x := nI 3) O dL_law_200 (by decide) (zr_iadd O dL_law_201 (zr_sl O S dL_law_202 (zr_aload_n O dL_law_203 rfl (zr_iload O dL_law_204 (zr_iconst (x := nI 4) O dL_law_206 (by decide) (zr_iadd O dL_law_207 (zr_sl O S dL_law_208 (zr_aload_n O dL_law_209 rfl (zr_iload O dL_law_210 (zr_iconst (x := nI 5) O dL_law_212 (by decide) (zr_iadd O dL_law_213 (zr_sl O S dL_law_214 (zr_cV (X := X) (Y := Y) (u := u) (v := v) (ci := 9) (n := 5) O m_X10_feed (bn_X10_feed _ ⟨rfl, rfl⟩) vw_X10_feed tv_333 rc_X10_feed (zrLw hR rfl rfl (by omega) (by omega)) dL_law_215 B_218))))))))))))))))))))))))))
  refine zSd_weak B_184 ?_
  rintro ls st h ⟨w5, w6, w7, rfl, rfl, ⟨Q, Hs, c, p, k0, π⟩, tl, hJ⟩
  have C := cs_feed (v1 := xs (6 * i + 1)) (v2 := xs (6 * i + 2)) (v3 := xs (6 * i + 3)) (v4 := xs (6 * i + 4)) (v5 := xs (6 * i + 5)) hJ
  refine ⟨rfl, 6 * i + 1, si_ i 1, by omega, rfl, 6 * i + 2, si_ i 2, by omega, rfl, 6 * i + 3, si_ i 3, by omega, rfl, 6 * i + 4, si_ i 4, by omega, rfl, 6 * i + 5, si_ i 5, by omega, (x, tl, xs (6 * i + 1), xs (6 * i + 2), xs (6 * i + 3), xs (6 * i + 4), xs (6 * i + 5)), rfl, C.1, fun r h1 hq => ?_⟩
  obtain ⟨pm, w, rfl, ⟨bb, rfl⟩, hm⟩ := C.2 r h1 hq
  refine ⟨rfl, 6 * i + 1, si_ i 1, by omega, rfl, 6 * i + 2, si_ i 2, by omega, rfl, 6 * i + 3, si_ i 3, by omega, rfl, 6 * i + 4, si_ i 4, by omega, rfl, 6 * i + 5, si_ i 5, by omega, (x + 229, tl, xs (6 * i + 1), xs (6 * i + 2), xs (6 * i + 3), xs (6 * i + 4), xs (6 * i + 5)), rfl, pm, fun r2 h2 hq2 => ?_⟩
  obtain ⟨rfl, hJ2⟩ := hm r2 h2 hq2
  exact ⟨fun _ => ⟨_, _, _, rfl, rfl, hJ2⟩, fun q => absurd rfl q⟩
set_option maxHeartbeats 4000000 in
set_option maxRecDepth 100000 in
theorem lc_text {X : zX} {Y : zY} {b L u v i x : Nat} {xs : Nat → Int32} {kd : Nat × Nat} (hO : LO X Y b L xs u v i) (hnx : zSd X Y (u + 5) (v + 30) 1991 (LI x (kd, b) i)) : zSd X Y u v 257 (LI x (kd, b) i) := by
  obtain ⟨O, hst, S, hR, hi, hu, hv⟩ := hO
  have B_310 : zSd X Y (u + 5) (v + 30) 310 _ := zr_goto (X := X) (Y := Y) (u := u + 5) (v := v + 30) (tgt := 1991) O dL_law_310 rfl hnx
  have B_308 : zSd X Y (u + 5) (v + 30) 308 _ := zr_dead (X := X) (Y := Y) (u := u + 5) (v := v + 30) (pc := 308)
  have B_298 : zSd X Y (u + 5) (v + 30) 298 _ := zr_aload_n O dL_law_298 rfl (zr_iconst (x := nI 0) O dL_law_299 (by decide) (zr_lald O dL_law_300 (zr_iload O dL_law_301 (zr_i2l O dL_law_303 (zr_lcmp O dL_law_304 (zr_ifeq (X := X) (Y := Y) (u := u + 5) (v := v + 30) (tgt := 310) O dL_law_305 rfl B_310 B_308))))))
  have B_293 : zSd X Y (u + 5) (v + 30) 293 _ := zr_iload O dL_law_293 (zr_ifne (X := X) (Y := Y) (u := u + 5) (v := v + 30) (tgt := 310) O dL_law_295 rfl B_310 B_298)
  have B_291 : zSd X Y (u + 5) (v + 30) 291 _ := zr_dead (X := X) (Y := Y) (u := u + 5) (v := v + 30) (pc := 291)
  have B_286 : zSd X Y (u + 5) (v + 30) 286 _ := zr_iload O dL_law_286 (zr_iceq (X := X) (Y := Y) (u := u + 5) (v := v + 30) (tgt := 293) O dL_law_288 rfl B_293 B_291)
  have B_280 : zSd X Y (u + 5) (v + 30) 280 _ := zr_istore O dL_law_280 (zr_aload_n O dL_law_282 rfl (zr_cI (zr_cV (X := X) (Y := Y) (u := u + 5) (v := v + 30) (ci := 10) (n := 0) O m_X11_thrown (bn_X11_thrown _ ⟨rfl, rfl⟩) vw_X11_thrown tv_1174 rc_X11_thrown (zrLw hR rfl rfl (by omega) (by omega)) dL_law_283 B_286)))
  have B_268 : zSd X Y (u + 5) (v + 30) 268 _ := zr_istore O dL_law_268 (zr_aload_n O dL_law_270 rfl (zr_aload_n O dL_law_271 rfl (zr_iload O dL_law_272 (zr_iconst (x := nI 1) O dL_law_274 (by decide) (zr_iadd O dL_law_275 (zr_sl O S dL_law_276 (zr_cV (X := X) (Y := Y) (u := u + 5) (v := v + 30) (ci := 10) (n := 1) O m_X11_text (bn_X11_text _ ⟨rfl, rfl⟩) vw_X11_text tv_1301 rc_X11_text (zrLw hR rfl rfl (by omega) (by omega)) dL_law_277 B_280)))))))
  have B_257 : zSd X Y u v 257 _ := zr_aload_n O dL_law_257 rfl (zr_aload_n O dL_law_258 rfl (zr_iload O dL_law_259 (zr_iconst (x := nI 1) O dL_law_261 (by decide) (zr_iadd O dL_law_262 (zr_sl O S dL_law_263 (zr_aload_n O dL_law_264 rfl (zr_cW (X := X) (Y := Y) (u := u) (v := v) (u' := u + 5) (v' := v + 30) (n := 3) O hst w_text ⟨tv_451, tv_0, tv_450, by decide, by decide, by decide +kernel⟩ tv_449 (zrLw hR rfl rfl (by omega) (by omega)) (by show u + 1 ≤ u + 5; omega) (by show v + 6 ≤ v + 30; omega) dL_law_265 B_268)))))))
  refine zSd_weak B_257 ?_
  rintro ls st h ⟨w5, w6, w7, rfl, rfl, ⟨Q, Hs, c, p, k0, π⟩, tl, hJ⟩
  have C := cs_text (n := xs (6 * i + 1)) hJ
  refine ⟨rfl, 6 * i + 1, si_ i 1, by omega, ((Q, Hs, c, p, k0, π, x, xs (6 * i + 1), tl, h.1 (x + 179), h.1 (x + 171) 7), x + 247), rfl, C.1, fun r h1 hq => ?_⟩
  obtain ⟨k, rfl, pm, hm⟩ := C.2 r h1 hq
  refine ⟨rfl, 6 * i + 1, si_ i 1, by omega, (Q, Hs, c, x + 229, xs (6 * i + 1), tl, h.1 (x + 179), h.1 (x + 171) 7), rfl, pm, fun r2 h2 hq2 => ?_⟩
  obtain ⟨w2, rfl, ⟨bb, rfl⟩, e0, ek, hJ2⟩ := hm r2 h2 hq2
  refine ⟨x + 229, rfl, trivial, fun _ => ?_, fun z => absurd e0 z⟩
  refine ⟨fun _ => ⟨_, _, _, rfl, rfl, hJ2⟩, fun z => ⟨0, rfl, by omega, ?_⟩⟩
  exact ⟨fun _ => ⟨_, _, _, rfl, rfl, hJ2⟩, fun q => absurd (lg_eq (ek z)) q⟩
set_option maxHeartbeats 4000000 in
set_option maxRecDepth 100000 in
theorem lc_fault {X : zX} {Y : zY} {b L u v i x : Nat} {xs : Nat → Int32} {kd : Nat × Nat} (hO : LO X Y b L xs u v i) (hnx : zSd X Y (u + 5) (v + 30) 1991 (LI x (kd, b) i)) : zSd X Y u v 313 (LI x (kd, b) i) := by
  obtain ⟨O, hst, S, hR, hi, hu, hv⟩ := hO
  have B_324 : zSd X Y u v 324 _ := zr_dead (X := X) (Y := Y) (u := u) (v := v) (pc := 324)
  have B_321 : zSd X Y u v 321 _ := zr_iceq (X := X) (Y := Y) (u := u) (v := v) (tgt := 1991) O dL_law_321 rfl (zSd_more hnx (by omega) (by omega)) B_324
  have B_317 : zSd X Y u v 317 _ := zr_aload_n O dL_law_317 rfl (zr_cV (X := X) (Y := Y) (u := u) (v := v) (ci := 10) (n := 0) O m_X11_fault (bn_X11_fault _ ⟨rfl, rfl⟩) vw_X11_fault tv_1363 rc_X11_fault (zrLw hR rfl rfl (by omega) (by omega)) dL_law_318 B_321)
  have B_313 : zSd X Y u v 313 _ := zr_aload_n O dL_law_313 rfl (zr_cI (zr_cV (X := X) (Y := Y) (u := u) (v := v) (ci := 9) (n := 0) O m_X10_fault (bn_X10_fault _ ⟨rfl, rfl⟩) vw_X10_fault tv_341 rc_X10_fault (zrLw hR rfl rfl (by omega) (by omega)) dL_law_314 B_317))
  refine zSd_weak B_313 ?_
  rintro ls st h ⟨w5, w6, w7, rfl, rfl, ⟨Q, Hs, c, p, k0, π⟩, tl, hJ⟩
  have C := cs_fault hJ
  obtain ⟨pm, w, e, ⟨bb, rfl⟩, hm⟩ := C.2 _ h ⟨rfl, rfl⟩
  cases e
  refine ⟨(x), rfl, C.1, (x + 229), rfl, pm, fun r2 h2 hq2 => ?_⟩
  obtain ⟨rfl, hJ2⟩ := hm r2 h2 hq2
  exact ⟨fun _ => ⟨_, _, _, rfl, rfl, hJ2⟩, fun q => absurd rfl q⟩
set_option maxHeartbeats 4000000 in
set_option maxRecDepth 100000 in
theorem lc_set {X : zX} {Y : zY} {b L u v i x : Nat} {xs : Nat → Int32} {kd : Nat × Nat} (hO : LO X Y b L xs u v i) (hnx : zSd X Y (u + 5) (v + 30) 1991 (LI x (kd, b) i)) : zSd X Y u v 326 (LI x (kd, b) i) := by
  obtain ⟨O, hst, S, hR, hi, hu, hv⟩ := hO
  have B_391 : zSd X Y (u + 5) (v + 30) 391 _ := zr_goto (X := X) (Y := Y) (u := u + 5) (v := v + 30) (tgt := 1991) O dL_law_391 rfl hnx
  have B_389 : zSd X Y (u + 5) (v + 30) 389 _ := zr_dead (X := X) (Y := Y) (u := u + 5) (v := v + 30) (pc := 389)
  have B_379 : zSd X Y (u + 5) (v + 30) 379 _ := zr_aload_n O dL_law_379 rfl (zr_iconst (x := nI 0) O dL_law_380 (by decide) (zr_lald O dL_law_381 (zr_iload O dL_law_382 (zr_i2l O dL_law_384 (zr_lcmp O dL_law_385 (zr_ifeq (X := X) (Y := Y) (u := u + 5) (v := v + 30) (tgt := 391) O dL_law_386 rfl B_391 B_389))))))
  have B_374 : zSd X Y (u + 5) (v + 30) 374 _ := zr_iload O dL_law_374 (zr_ifne (X := X) (Y := Y) (u := u + 5) (v := v + 30) (tgt := 391) O dL_law_376 rfl B_391 B_379)
  have B_372 : zSd X Y (u + 5) (v + 30) 372 _ := zr_dead (X := X) (Y := Y) (u := u + 5) (v := v + 30) (pc := 372)
  have B_367 : zSd X Y (u + 5) (v + 30) 367 _ := zr_iload O dL_law_367 (zr_iceq (X := X) (Y := Y) (u := u + 5) (v := v + 30) (tgt := 374) O dL_law_369 rfl B_374 B_372)
  have B_361 : zSd X Y (u + 5) (v + 30) 361 _ := zr_istore O dL_law_361 (zr_aload_n O dL_law_363 rfl (zr_cI (zr_cV (X := X) (Y := Y) (u := u + 5) (v := v + 30) (ci := 10) (n := 0) O m_X11_thrown (bn_X11_thrown _ ⟨rfl, rfl⟩) vw_X11_thrown tv_1174 rc_X11_thrown (zrLw hR rfl rfl (by omega) (by omega)) dL_law_364 B_367)))
  have B_343 : zSd X Y (u + 5) (v + 30) 343 _ := zr_istore O dL_law_343 (zr_aload_n O dL_law_345 rfl (zr_aload_n O dL_law_346 rfl (zr_iload O dL_law_347 (zr_iconst (x := nI 1) O dL_law_349 (by decide) (zr_iadd O dL_law_350 (zr_sl O S dL_law_351 (zr_aload_n O dL_law_352 rfl (zr_iload O dL_law_353 (zr_iconst (x := nI 2) O dL_law_355 (by decide) (zr_iadd O dL_law_356 (zr_sl O S dL_law_357 (zr_cV (X := X) (Y := Y) (u := u + 5) (v := v + 30) (ci := 10) (n := 2) O m_X11_set (bn_X11_set _ ⟨rfl, rfl⟩) vw_X11_set tv_1367 rc_X11_set (zrLw hR rfl rfl (by omega) (by omega)) dL_law_358 B_361))))))))))))
  have B_326 : zSd X Y u v 326 _ := zr_aload_n O dL_law_326 rfl (zr_aload_n O dL_law_327 rfl (zr_iload O dL_law_328 (zr_iconst (x := nI 1) O dL_law_330 (by decide) (zr_iadd O dL_law_331 (zr_sl O S dL_law_332 (zr_aload_n O dL_law_333 rfl (zr_iload O dL_law_334 (zr_iconst (x := nI 2) O dL_law_336 (by decide) (zr_iadd O dL_law_337 (zr_sl O S dL_law_338 (zr_aload_n O dL_law_339 rfl (zr_cW (X := X) (Y := Y) (u := u) (v := v) (u' := u + 5) (v' := v + 30) (n := 4) O hst w_set ⟨tv_676, tv_0, tv_675, by decide, by decide, by decide +kernel⟩ tv_674 (zrLw hR rfl rfl (by omega) (by omega)) (by show u + 2 ≤ u + 5; omega) (by show v + 12 ≤ v + 30; omega) dL_law_340 B_343))))))))))))
  refine zSd_weak B_326 ?_
  rintro ls st h ⟨w5, w6, w7, rfl, rfl, ⟨Q, Hs, c, p, k0, π⟩, tl, hJ⟩
  have C := cs_set (w := xs (6 * i + 1)) (v := xs (6 * i + 2)) hJ
  refine ⟨rfl, 6 * i + 1, si_ i 1, by omega, rfl, 6 * i + 2, si_ i 2, by omega, ((Q, Hs, c, p, k0, π, x, xs (6 * i + 1), xs (6 * i + 2)), x + 247), rfl, C.1, fun r h1 hq => ?_⟩
  obtain ⟨k, rfl, pm, hm⟩ := C.2 r h1 hq
  refine ⟨rfl, 6 * i + 1, si_ i 1, by omega, rfl, 6 * i + 2, si_ i 2, by omega, (Q, Hs, c, x + 229, xs (6 * i + 1), xs (6 * i + 2)), rfl, pm, fun r2 h2 hq2 => ?_⟩
  obtain ⟨w2, rfl, ⟨bb, rfl⟩, e0, ek, hJ2⟩ := hm r2 h2 hq2
  refine ⟨x + 229, rfl, trivial, fun _ => ?_, fun z => absurd e0 z⟩
  refine ⟨fun _ => ⟨_, _, _, rfl, rfl, hJ2⟩, fun z => ⟨0, rfl, by omega, ?_⟩⟩
  exact ⟨fun _ => ⟨_, _, _, rfl, rfl, hJ2⟩, fun q => absurd (lg_eq (ek z)) q⟩
set_option maxHeartbeats 4000000 in
set_option maxRecDepth 100000 in
theorem lc_wear {X : zX} {Y : zY} {b L u v i x : Nat} {xs : Nat → Int32} {kd : Nat × Nat} (hO : LO X Y b L xs u v i) (hnx : zSd X Y (u + 5) (v + 30) 1991 (LI x (kd, b) i)) : zSd X Y u v 394 (LI x (kd, b) i) := by
  obtain ⟨O, hst, S, hR, hi, hu, hv⟩ := hO
  have B_471 : zSd X Y (u + 5) (v + 30) 471 _ := zr_goto (X := X) (Y := Y) (u := u + 5) (v := v + 30) (tgt := 1991) O dL_law_471 rfl hnx
  have B_469 : zSd X Y (u + 5) (v + 30) 469 _ := zr_dead (X := X) (Y := Y) (u := u + 5) (v := v + 30) (pc := 469)
  have B_459 : zSd X Y (u + 5) (v + 30) 459 _ := zr_aload_n O dL_law_459 rfl (zr_iconst (x := nI 0) O dL_law_460 (by decide) (zr_lald O dL_law_461 (zr_iload O dL_law_462 (zr_i2l O dL_law_464 (zr_lcmp O dL_law_465 (zr_ifeq (X := X) (Y := Y) (u := u + 5) (v := v + 30) (tgt := 471) O dL_law_466 rfl B_471 B_469))))))
  have B_454 : zSd X Y (u + 5) (v + 30) 454 _ := zr_iload O dL_law_454 (zr_ifne (X := X) (Y := Y) (u := u + 5) (v := v + 30) (tgt := 471) O dL_law_456 rfl B_471 B_459)
  have B_452 : zSd X Y (u + 5) (v + 30) 452 _ := zr_dead (X := X) (Y := Y) (u := u + 5) (v := v + 30) (pc := 452)
  have B_447 : zSd X Y (u + 5) (v + 30) 447 _ := zr_iload O dL_law_447 (zr_iceq (X := X) (Y := Y) (u := u + 5) (v := v + 30) (tgt := 454) O dL_law_449 rfl B_454 B_452)
  have B_441 : zSd X Y (u + 5) (v + 30) 441 _ := zr_istore O dL_law_441 (zr_aload_n O dL_law_443 rfl (zr_cI (zr_cV (X := X) (Y := Y) (u := u + 5) (v := v + 30) (ci := 10) (n := 0) O m_X11_thrown (bn_X11_thrown _ ⟨rfl, rfl⟩) vw_X11_thrown tv_1174 rc_X11_thrown (zrLw hR rfl rfl (by omega) (by omega)) dL_law_444 B_447)))
  have B_417 : zSd X Y (u + 5) (v + 30) 417 _ := zr_istore O dL_law_417 (zr_aload_n O dL_law_419 rfl (zr_aload_n O dL_law_420 rfl (zr_iload O dL_law_421 (zr_iconst (x := nI 1) O dL_law_423 (by decide) (zr_iadd O dL_law_424 (zr_sl O S dL_law_425 (zr_aload_n O dL_law_426 rfl (zr_iload O dL_law_427 (zr_iconst (x := nI 2) O dL_law_429 (by decide) (zr_iadd O dL_law_430 (zr_sl O S dL_law_431 (zr_aload_n O dL_law_432 rfl (zr_iload O dL_law_433 (zr_iconst (x := nI 3) O dL_law_435 (by decide) (zr_iadd O dL_law_436 (zr_sl O S dL_law_437 (zr_cV (X := X) (Y := Y) (u := u + 5) (v := v + 30) (ci := 10) (n := 3) O m_X11_wear (bn_X11_wear _ ⟨rfl, rfl⟩) vw_X11_wear tv_1379 rc_X11_wear (zrLw hR rfl rfl (by omega) (by omega)) dL_law_438 B_441)))))))))))))))))
  have B_394 : zSd X Y u v 394 _ := zr_aload_n O dL_law_394 rfl (zr_aload_n O dL_law_395 rfl (zr_iload O dL_law_396 (zr_iconst (x := nI 1) O dL_law_398 (by decide) (zr_iadd O dL_law_399 (zr_sl O S dL_law_400 (zr_aload_n O dL_law_401 rfl (zr_iload O dL_law_402 (zr_iconst (x := nI 2) O dL_law_404 (by decide) (zr_iadd O dL_law_405 (zr_sl O S dL_law_406 (zr_aload_n O dL_law_407 rfl (zr_iload O dL_law_408 (zr_iconst (x := nI 3) O dL_law_410 (by decide) (zr_iadd O dL_law_411 (zr_sl O S dL_law_412 (zr_aload_n O dL_law_413 rfl (zr_cW (X := X) (Y := Y) (u := u) (v := v) (u' := u + 5) (v' := v + 30) (n := 5) O hst w_wear ⟨tv_703, tv_0, tv_702, by decide, by decide, by decide +kernel⟩ tv_701 (zrLw hR rfl rfl (by omega) (by omega)) (by show u + 3 ≤ u + 5; omega) (by show v + 18 ≤ v + 30; omega) dL_law_414 B_417)))))))))))))))))
  refine zSd_weak B_394 ?_
  rintro ls st h ⟨w5, w6, w7, rfl, rfl, ⟨Q, Hs, c, p, k0, π⟩, tl, hJ⟩
  have C := cs_wear (i := xs (6 * i + 1)) (w := xs (6 * i + 2)) (v := xs (6 * i + 3)) hJ
  refine ⟨rfl, 6 * i + 1, si_ i 1, by omega, rfl, 6 * i + 2, si_ i 2, by omega, rfl, 6 * i + 3, si_ i 3, by omega, ((Q, Hs, c, p, k0, π, x, xs (6 * i + 1), xs (6 * i + 2), xs (6 * i + 3)), x + 247), rfl, C.1, fun r h1 hq => ?_⟩
  obtain ⟨k, rfl, pm, hm⟩ := C.2 r h1 hq
  refine ⟨rfl, 6 * i + 1, si_ i 1, by omega, rfl, 6 * i + 2, si_ i 2, by omega, rfl, 6 * i + 3, si_ i 3, by omega, (Q, Hs, c, x + 229, xs (6 * i + 1), xs (6 * i + 2), xs (6 * i + 3)), rfl, pm, fun r2 h2 hq2 => ?_⟩
  obtain ⟨w2, rfl, ⟨bb, rfl⟩, e0, ek, hJ2⟩ := hm r2 h2 hq2
  refine ⟨x + 229, rfl, trivial, fun _ => ?_, fun z => absurd e0 z⟩
  refine ⟨fun _ => ⟨_, _, _, rfl, rfl, hJ2⟩, fun z => ⟨0, rfl, by omega, ?_⟩⟩
  exact ⟨fun _ => ⟨_, _, _, rfl, rfl, hJ2⟩, fun q => absurd (lg_eq (ek z)) q⟩
set_option maxHeartbeats 4000000 in
set_option maxRecDepth 100000 in
theorem lc_enrol {X : zX} {Y : zY} {b L u v i x : Nat} {xs : Nat → Int32} {kd : Nat × Nat} (hO : LO X Y b L xs u v i) (hnx : zSd X Y (u + 5) (v + 30) 1991 (LI x (kd, b) i)) : zSd X Y u v 474 (LI x (kd, b) i) := by
  obtain ⟨O, hst, S, hR, hi, hu, hv⟩ := hO
  have B_527 : zSd X Y (u + 5) (v + 30) 527 _ := zr_goto (X := X) (Y := Y) (u := u + 5) (v := v + 30) (tgt := 1991) O dL_law_527 rfl hnx
  have B_525 : zSd X Y (u + 5) (v + 30) 525 _ := zr_dead (X := X) (Y := Y) (u := u + 5) (v := v + 30) (pc := 525)
  have B_515 : zSd X Y (u + 5) (v + 30) 515 _ := zr_aload_n O dL_law_515 rfl (zr_iconst (x := nI 0) O dL_law_516 (by decide) (zr_lald O dL_law_517 (zr_iload O dL_law_518 (zr_i2l O dL_law_520 (zr_lcmp O dL_law_521 (zr_ifeq (X := X) (Y := Y) (u := u + 5) (v := v + 30) (tgt := 527) O dL_law_522 rfl B_527 B_525))))))
  have B_510 : zSd X Y (u + 5) (v + 30) 510 _ := zr_iload O dL_law_510 (zr_ifne (X := X) (Y := Y) (u := u + 5) (v := v + 30) (tgt := 527) O dL_law_512 rfl B_527 B_515)
  have B_508 : zSd X Y (u + 5) (v + 30) 508 _ := zr_dead (X := X) (Y := Y) (u := u + 5) (v := v + 30) (pc := 508)
  have B_503 : zSd X Y (u + 5) (v + 30) 503 _ := zr_iload O dL_law_503 (zr_iceq (X := X) (Y := Y) (u := u + 5) (v := v + 30) (tgt := 510) O dL_law_505 rfl B_510 B_508)
  have B_497 : zSd X Y (u + 5) (v + 30) 497 _ := zr_istore O dL_law_497 (zr_aload_n O dL_law_499 rfl (zr_cI (zr_cV (X := X) (Y := Y) (u := u + 5) (v := v + 30) (ci := 10) (n := 0) O m_X11_thrown (bn_X11_thrown _ ⟨rfl, rfl⟩) vw_X11_thrown tv_1174 rc_X11_thrown (zrLw hR rfl rfl (by omega) (by omega)) dL_law_500 B_503)))
  have B_485 : zSd X Y (u + 5) (v + 30) 485 _ := zr_istore O dL_law_485 (zr_aload_n O dL_law_487 rfl (zr_aload_n O dL_law_488 rfl (zr_iload O dL_law_489 (zr_iconst (x := nI 1) O dL_law_491 (by decide) (zr_iadd O dL_law_492 (zr_sl O S dL_law_493 (zr_cV (X := X) (Y := Y) (u := u + 5) (v := v + 30) (ci := 10) (n := 1) O m_X11_enrol (bn_X11_enrol _ ⟨rfl, rfl⟩) vw_X11_enrol tv_1387 rc_X11_enrol (zrLw hR rfl rfl (by omega) (by omega)) dL_law_494 B_497)))))))
  have B_474 : zSd X Y u v 474 _ := zr_aload_n O dL_law_474 rfl (zr_aload_n O dL_law_475 rfl (zr_iload O dL_law_476 (zr_iconst (x := nI 1) O dL_law_478 (by decide) (zr_iadd O dL_law_479 (zr_sl O S dL_law_480 (zr_aload_n O dL_law_481 rfl (zr_cW (X := X) (Y := Y) (u := u) (v := v) (u' := u + 5) (v' := v + 30) (n := 3) O hst w_enrol ⟨tv_743, tv_0, tv_742, by decide, by decide, by decide +kernel⟩ tv_741 (zrLw hR rfl rfl (by omega) (by omega)) (by show u + 2 ≤ u + 5; omega) (by show v + 12 ≤ v + 30; omega) dL_law_482 B_485)))))))
  refine zSd_weak B_474 ?_
  rintro ls st h ⟨w5, w6, w7, rfl, rfl, ⟨Q, Hs, c, p, k0, π⟩, tl, hJ⟩
  have C := cs_enrol (s := xs (6 * i + 1)) hJ
  refine ⟨rfl, 6 * i + 1, si_ i 1, by omega, ((Q, Hs, c, p, k0, π, x, xs (6 * i + 1)), x + 247), rfl, C.1, fun r h1 hq => ?_⟩
  obtain ⟨k, rfl, pm, hm⟩ := C.2 r h1 hq
  refine ⟨rfl, 6 * i + 1, si_ i 1, by omega, (Q, Hs, c, x + 229, xs (6 * i + 1)), rfl, pm, fun r2 h2 hq2 => ?_⟩
  obtain ⟨w2, rfl, ⟨bb, rfl⟩, e0, ek, hJ2⟩ := hm r2 h2 hq2
  refine ⟨x + 229, rfl, trivial, fun _ => ?_, fun z => absurd e0 z⟩
  refine ⟨fun _ => ⟨_, _, _, rfl, rfl, hJ2⟩, fun z => ⟨0, rfl, by omega, ?_⟩⟩
  exact ⟨fun _ => ⟨_, _, _, rfl, rfl, hJ2⟩, fun q => absurd (lg_eq (ek z)) q⟩
set_option maxHeartbeats 4000000 in
set_option maxRecDepth 100000 in
theorem lc_hear {X : zX} {Y : zY} {b L u v i x : Nat} {xs : Nat → Int32} {kd : Nat × Nat} (hO : LO X Y b L xs u v i) (hnx : zSd X Y (u + 5) (v + 30) 1991 (LI x (kd, b) i)) : zSd X Y u v 530 (LI x (kd, b) i) := by
  obtain ⟨O, hst, S, hR, hi, hu, hv⟩ := hO
  have B_583 : zSd X Y (u + 5) (v + 30) 583 _ := zr_goto (X := X) (Y := Y) (u := u + 5) (v := v + 30) (tgt := 1991) O dL_law_583 rfl hnx
  have B_581 : zSd X Y (u + 5) (v + 30) 581 _ := zr_dead (X := X) (Y := Y) (u := u + 5) (v := v + 30) (pc := 581)
  have B_571 : zSd X Y (u + 5) (v + 30) 571 _ := zr_aload_n O dL_law_571 rfl (zr_iconst (x := nI 0) O dL_law_572 (by decide) (zr_lald O dL_law_573 (zr_iload O dL_law_574 (zr_i2l O dL_law_576 (zr_lcmp O dL_law_577 (zr_ifeq (X := X) (Y := Y) (u := u + 5) (v := v + 30) (tgt := 583) O dL_law_578 rfl B_583 B_581))))))
  have B_566 : zSd X Y (u + 5) (v + 30) 566 _ := zr_iload O dL_law_566 (zr_ifne (X := X) (Y := Y) (u := u + 5) (v := v + 30) (tgt := 583) O dL_law_568 rfl B_583 B_571)
  have B_564 : zSd X Y (u + 5) (v + 30) 564 _ := zr_dead (X := X) (Y := Y) (u := u + 5) (v := v + 30) (pc := 564)
  have B_559 : zSd X Y (u + 5) (v + 30) 559 _ := zr_iload O dL_law_559 (zr_iceq (X := X) (Y := Y) (u := u + 5) (v := v + 30) (tgt := 566) O dL_law_561 rfl B_566 B_564)
  have B_553 : zSd X Y (u + 5) (v + 30) 553 _ := zr_istore O dL_law_553 (zr_aload_n O dL_law_555 rfl (zr_cI (zr_cV (X := X) (Y := Y) (u := u + 5) (v := v + 30) (ci := 10) (n := 0) O m_X11_thrown (bn_X11_thrown _ ⟨rfl, rfl⟩) vw_X11_thrown tv_1174 rc_X11_thrown (zrLw hR rfl rfl (by omega) (by omega)) dL_law_556 B_559)))
  have B_541 : zSd X Y (u + 5) (v + 30) 541 _ := zr_istore O dL_law_541 (zr_aload_n O dL_law_543 rfl (zr_aload_n O dL_law_544 rfl (zr_iload O dL_law_545 (zr_iconst (x := nI 1) O dL_law_547 (by decide) (zr_iadd O dL_law_548 (zr_sl O S dL_law_549 (zr_cV (X := X) (Y := Y) (u := u + 5) (v := v + 30) (ci := 10) (n := 1) O m_X11_hear (bn_X11_hear _ ⟨rfl, rfl⟩) vw_X11_hear tv_1455 rc_X11_hear (zrLw hR rfl rfl (by omega) (by omega)) dL_law_550 B_553)))))))
  have B_530 : zSd X Y u v 530 _ := zr_aload_n O dL_law_530 rfl (zr_aload_n O dL_law_531 rfl (zr_iload O dL_law_532 (zr_iconst (x := nI 1) O dL_law_534 (by decide) (zr_iadd O dL_law_535 (zr_sl O S dL_law_536 (zr_aload_n O dL_law_537 rfl (zr_cW (X := X) (Y := Y) (u := u) (v := v) (u' := u + 5) (v' := v + 30) (n := 3) O hst w_hear ⟨tv_831, tv_0, tv_830, by decide, by decide, by decide +kernel⟩ tv_829 (zrLw hR rfl rfl (by omega) (by omega)) (by show u + 1 ≤ u + 5; omega) (by show v + 6 ≤ v + 30; omega) dL_law_538 B_541)))))))
  refine zSd_weak B_530 ?_
  rintro ls st h ⟨w5, w6, w7, rfl, rfl, ⟨Q, Hs, c, p, k0, π⟩, tl, hJ⟩
  have C := cs_hear (i := xs (6 * i + 1)) hJ
  refine ⟨rfl, 6 * i + 1, si_ i 1, by omega, ((Q, Hs, c, p, k0, π, x, xs (6 * i + 1)), x + 247), rfl, C.1, fun r h1 hq => ?_⟩
  obtain ⟨k, rfl, pm, hm⟩ := C.2 r h1 hq
  refine ⟨rfl, 6 * i + 1, si_ i 1, by omega, (Q, Hs, c, x + 229, xs (6 * i + 1)), rfl, pm, fun r2 h2 hq2 => ?_⟩
  obtain ⟨w2, rfl, ⟨bb, rfl⟩, e0, ek, hJ2⟩ := hm r2 h2 hq2
  refine ⟨x + 229, rfl, trivial, fun _ => ?_, fun z => absurd e0 z⟩
  refine ⟨fun _ => ⟨_, _, _, rfl, rfl, hJ2⟩, fun z => ⟨0, rfl, by omega, ?_⟩⟩
  exact ⟨fun _ => ⟨_, _, _, rfl, rfl, hJ2⟩, fun q => absurd (lg_eq (ek z)) q⟩
set_option maxHeartbeats 4000000 in
set_option maxRecDepth 100000 in
theorem lc_train {X : zX} {Y : zY} {b L u v i x : Nat} {xs : Nat → Int32} {kd : Nat × Nat} (hO : LO X Y b L xs u v i) (hnx : zSd X Y (u + 5) (v + 30) 1991 (LI x (kd, b) i)) : zSd X Y u v 586 (LI x (kd, b) i) := by
  obtain ⟨O, hst, S, hR, hi, hu, hv⟩ := hO
  have B_639 : zSd X Y (u + 5) (v + 30) 639 _ := zr_goto (X := X) (Y := Y) (u := u + 5) (v := v + 30) (tgt := 1991) O dL_law_639 rfl hnx
  have B_637 : zSd X Y (u + 5) (v + 30) 637 _ := zr_dead (X := X) (Y := Y) (u := u + 5) (v := v + 30) (pc := 637)
  have B_627 : zSd X Y (u + 5) (v + 30) 627 _ := zr_aload_n O dL_law_627 rfl (zr_iconst (x := nI 0) O dL_law_628 (by decide) (zr_lald O dL_law_629 (zr_iload O dL_law_630 (zr_i2l O dL_law_632 (zr_lcmp O dL_law_633 (zr_ifeq (X := X) (Y := Y) (u := u + 5) (v := v + 30) (tgt := 639) O dL_law_634 rfl B_639 B_637))))))
  have B_622 : zSd X Y (u + 5) (v + 30) 622 _ := zr_iload O dL_law_622 (zr_ifne (X := X) (Y := Y) (u := u + 5) (v := v + 30) (tgt := 639) O dL_law_624 rfl B_639 B_627)
  have B_620 : zSd X Y (u + 5) (v + 30) 620 _ := zr_dead (X := X) (Y := Y) (u := u + 5) (v := v + 30) (pc := 620)
  have B_615 : zSd X Y (u + 5) (v + 30) 615 _ := zr_iload O dL_law_615 (zr_iceq (X := X) (Y := Y) (u := u + 5) (v := v + 30) (tgt := 622) O dL_law_617 rfl B_622 B_620)
  have B_609 : zSd X Y (u + 5) (v + 30) 609 _ := zr_istore O dL_law_609 (zr_aload_n O dL_law_611 rfl (zr_cI (zr_cV (X := X) (Y := Y) (u := u + 5) (v := v + 30) (ci := 10) (n := 0) O m_X11_thrown (bn_X11_thrown _ ⟨rfl, rfl⟩) vw_X11_thrown tv_1174 rc_X11_thrown (zrLw hR rfl rfl (by omega) (by omega)) dL_law_612 B_615)))
  have B_597 : zSd X Y (u + 5) (v + 30) 597 _ := zr_istore O dL_law_597 (zr_aload_n O dL_law_599 rfl (zr_aload_n O dL_law_600 rfl (zr_iload O dL_law_601 (zr_iconst (x := nI 1) O dL_law_603 (by decide) (zr_iadd O dL_law_604 (zr_sl O S dL_law_605 (zr_cV (X := X) (Y := Y) (u := u + 5) (v := v + 30) (ci := 10) (n := 1) O m_X11_train (bn_X11_train _ ⟨rfl, rfl⟩) vw_X11_train tv_1467 rc_X11_train (zrLw hR rfl rfl (by omega) (by omega)) dL_law_606 B_609)))))))
  have B_586 : zSd X Y u v 586 _ := zr_aload_n O dL_law_586 rfl (zr_aload_n O dL_law_587 rfl (zr_iload O dL_law_588 (zr_iconst (x := nI 1) O dL_law_590 (by decide) (zr_iadd O dL_law_591 (zr_sl O S dL_law_592 (zr_aload_n O dL_law_593 rfl (zr_cW (X := X) (Y := Y) (u := u) (v := v) (u' := u + 5) (v' := v + 30) (n := 3) O hst w_train ⟨tv_838, tv_0, tv_837, by decide, by decide, by decide +kernel⟩ tv_836 (zrLw hR rfl rfl (by omega) (by omega)) (by show u + 1 ≤ u + 5; omega) (by show v + 6 ≤ v + 30; omega) dL_law_594 B_597)))))))
  refine zSd_weak B_586 ?_
  rintro ls st h ⟨w5, w6, w7, rfl, rfl, ⟨Q, Hs, c, p, k0, π⟩, tl, hJ⟩
  have C := cs_train (e := xs (6 * i + 1)) hJ
  refine ⟨rfl, 6 * i + 1, si_ i 1, by omega, ((Q, Hs, c, p, k0, π, x, xs (6 * i + 1)), x + 247), rfl, C.1, fun r h1 hq => ?_⟩
  obtain ⟨k, rfl, pm, hm⟩ := C.2 r h1 hq
  refine ⟨rfl, 6 * i + 1, si_ i 1, by omega, (Q, Hs, c, x + 229, xs (6 * i + 1)), rfl, pm, fun r2 h2 hq2 => ?_⟩
  obtain ⟨w2, rfl, ⟨bb, rfl⟩, e0, ek, hJ2⟩ := hm r2 h2 hq2
  refine ⟨x + 229, rfl, trivial, fun _ => ?_, fun z => absurd e0 z⟩
  refine ⟨fun _ => ⟨_, _, _, rfl, rfl, hJ2⟩, fun z => ⟨0, rfl, by omega, ?_⟩⟩
  exact ⟨fun _ => ⟨_, _, _, rfl, rfl, hJ2⟩, fun q => absurd (lg_eq (ek z)) q⟩
set_option maxHeartbeats 4000000 in
set_option maxRecDepth 100000 in
theorem lc_turn {X : zX} {Y : zY} {b L u v i x : Nat} {xs : Nat → Int32} {kd : Nat × Nat} (hO : LO X Y b L xs u v i) (hnx : zSd X Y (u + 5) (v + 30) 1991 (LI x (kd, b) i)) : zSd X Y u v 642 (LI x (kd, b) i) := by
  obtain ⟨O, hst, S, hR, hi, hu, hv⟩ := hO
  have B_695 : zSd X Y (u + 5) (v + 30) 695 _ := zr_goto (X := X) (Y := Y) (u := u + 5) (v := v + 30) (tgt := 1991) O dL_law_695 rfl hnx
  have B_693 : zSd X Y (u + 5) (v + 30) 693 _ := zr_dead (X := X) (Y := Y) (u := u + 5) (v := v + 30) (pc := 693)
  have B_683 : zSd X Y (u + 5) (v + 30) 683 _ := zr_aload_n O dL_law_683 rfl (zr_iconst (x := nI 0) O dL_law_684 (by decide) (zr_lald O dL_law_685 (zr_iload O dL_law_686 (zr_i2l O dL_law_688 (zr_lcmp O dL_law_689 (zr_ifeq (X := X) (Y := Y) (u := u + 5) (v := v + 30) (tgt := 695) O dL_law_690 rfl B_695 B_693))))))
  have B_678 : zSd X Y (u + 5) (v + 30) 678 _ := zr_iload O dL_law_678 (zr_ifne (X := X) (Y := Y) (u := u + 5) (v := v + 30) (tgt := 695) O dL_law_680 rfl B_695 B_683)
  have B_676 : zSd X Y (u + 5) (v + 30) 676 _ := zr_dead (X := X) (Y := Y) (u := u + 5) (v := v + 30) (pc := 676)
  have B_671 : zSd X Y (u + 5) (v + 30) 671 _ := zr_iload O dL_law_671 (zr_iceq (X := X) (Y := Y) (u := u + 5) (v := v + 30) (tgt := 678) O dL_law_673 rfl B_678 B_676)
  have B_665 : zSd X Y (u + 5) (v + 30) 665 _ := zr_istore O dL_law_665 (zr_aload_n O dL_law_667 rfl (zr_cI (zr_cV (X := X) (Y := Y) (u := u + 5) (v := v + 30) (ci := 10) (n := 0) O m_X11_thrown (bn_X11_thrown _ ⟨rfl, rfl⟩) vw_X11_thrown tv_1174 rc_X11_thrown (zrLw hR rfl rfl (by omega) (by omega)) dL_law_668 B_671)))
  have B_653 : zSd X Y (u + 5) (v + 30) 653 _ := zr_istore O dL_law_653 (zr_aload_n O dL_law_655 rfl (zr_aload_n O dL_law_656 rfl (zr_iload O dL_law_657 (zr_iconst (x := nI 1) O dL_law_659 (by decide) (zr_iadd O dL_law_660 (zr_sl O S dL_law_661 (zr_cV (X := X) (Y := Y) (u := u + 5) (v := v + 30) (ci := 10) (n := 1) O m_X11_turn (bn_X11_turn _ ⟨rfl, rfl⟩) vw_X11_turn tv_1479 rc_X11_turn (zrLw hR rfl rfl (by omega) (by omega)) dL_law_662 B_665)))))))
  have B_642 : zSd X Y u v 642 _ := zr_aload_n O dL_law_642 rfl (zr_aload_n O dL_law_643 rfl (zr_iload O dL_law_644 (zr_iconst (x := nI 1) O dL_law_646 (by decide) (zr_iadd O dL_law_647 (zr_sl O S dL_law_648 (zr_aload_n O dL_law_649 rfl (zr_cW (X := X) (Y := Y) (u := u) (v := v) (u' := u + 5) (v' := v + 30) (n := 3) O hst w_turn ⟨tv_854, tv_0, tv_853, by decide, by decide, by decide +kernel⟩ tv_852 (zrLw hR rfl rfl (by omega) (by omega)) (by show u + 2 ≤ u + 5; omega) (by show v + 12 ≤ v + 30; omega) dL_law_650 B_653)))))))
  refine zSd_weak B_642 ?_
  rintro ls st h ⟨w5, w6, w7, rfl, rfl, ⟨Q, Hs, c, p, k0, π⟩, tl, hJ⟩
  have C := cs_turn (i := xs (6 * i + 1)) hJ
  refine ⟨rfl, 6 * i + 1, si_ i 1, by omega, ((Q, Hs, c, p, k0, π, x, xs (6 * i + 1)), x + 247), rfl, C.1, fun r h1 hq => ?_⟩
  obtain ⟨k, rfl, pm, hm⟩ := C.2 r h1 hq
  refine ⟨rfl, 6 * i + 1, si_ i 1, by omega, (Q, Hs, c, x + 229, xs (6 * i + 1)), rfl, pm, fun r2 h2 hq2 => ?_⟩
  obtain ⟨w2, rfl, ⟨bb, rfl⟩, e0, ek, hJ2⟩ := hm r2 h2 hq2
  refine ⟨x + 229, rfl, trivial, fun _ => ?_, fun z => absurd e0 z⟩
  refine ⟨fun _ => ⟨_, _, _, rfl, rfl, hJ2⟩, fun z => ⟨0, rfl, by omega, ?_⟩⟩
  exact ⟨fun _ => ⟨_, _, _, rfl, rfl, hJ2⟩, fun q => absurd (lg_eq (ek z)) q⟩
set_option maxHeartbeats 4000000 in
set_option maxRecDepth 100000 in
theorem lc_undo {X : zX} {Y : zY} {b L u v i x : Nat} {xs : Nat → Int32} {kd : Nat × Nat} (hO : LO X Y b L xs u v i) (hnx : zSd X Y (u + 5) (v + 30) 1991 (LI x (kd, b) i)) : zSd X Y u v 698 (LI x (kd, b) i) := by
  obtain ⟨O, hst, S, hR, hi, hu, hv⟩ := hO
  have B_709 : zSd X Y u v 709 _ := zr_dead (X := X) (Y := Y) (u := u) (v := v) (pc := 709)
  have B_706 : zSd X Y u v 706 _ := zr_iceq (X := X) (Y := Y) (u := u) (v := v) (tgt := 1991) O dL_law_706 rfl (zSd_more hnx (by omega) (by omega)) B_709
  have B_702 : zSd X Y u v 702 _ := zr_aload_n O dL_law_702 rfl (zr_cV (X := X) (Y := Y) (u := u) (v := v) (ci := 10) (n := 0) O m_X11_undo (bn_X11_undo _ ⟨rfl, rfl⟩) vw_X11_undo tv_1487 rc_X11_undo (zrLw hR rfl rfl (by omega) (by omega)) dL_law_703 B_706)
  have B_698 : zSd X Y u v 698 _ := zr_aload_n O dL_law_698 rfl (zr_cV (X := X) (Y := Y) (u := u) (v := v) (ci := 9) (n := 0) O m_X10_undo (bn_X10_undo _ ⟨rfl, rfl⟩) vw_X10_undo tv_345 rc_X10_undo (zrLw hR rfl rfl (by omega) (by omega)) dL_law_699 B_702)
  refine zSd_weak B_698 ?_
  rintro ls st h ⟨w5, w6, w7, rfl, rfl, ⟨Q, Hs, c, p, k0, π⟩, tl, hJ⟩
  have C := cs_undo hJ
  refine ⟨(Q, Hs, c, p, k0, π, x), rfl, C.1, fun r h1 hq => ?_⟩
  obtain ⟨pm, w, rfl, ⟨bb, rfl⟩, hm⟩ := C.2 r h1 hq
  refine ⟨(Q, Hs, c, x + 229), rfl, pm, fun r2 h2 hq2 => ?_⟩
  obtain ⟨rfl, hJ2⟩ := hm r2 h2 hq2
  exact ⟨fun _ => ⟨_, _, _, rfl, rfl, hJ2⟩, fun q => absurd rfl q⟩
set_option maxHeartbeats 4000000 in
set_option maxRecDepth 100000 in
theorem lc_told {X : zX} {Y : zY} {b L u v i x : Nat} {xs : Nat → Int32} {kd : Nat × Nat} (hO : LO X Y b L xs u v i) (hnx : zSd X Y (u + 5) (v + 30) 1991 (LI x (kd, b) i)) : zSd X Y u v 711 (LI x (kd, b) i) := by
  obtain ⟨O, hst, S, hR, hi, hu, hv⟩ := hO
  have B_764 : zSd X Y (u + 5) (v + 30) 764 _ := zr_goto (X := X) (Y := Y) (u := u + 5) (v := v + 30) (tgt := 1991) O dL_law_764 rfl hnx
  have B_762 : zSd X Y (u + 5) (v + 30) 762 _ := zr_dead (X := X) (Y := Y) (u := u + 5) (v := v + 30) (pc := 762)
  have B_752 : zSd X Y (u + 5) (v + 30) 752 _ := zr_aload_n O dL_law_752 rfl (zr_iconst (x := nI 0) O dL_law_753 (by decide) (zr_lald O dL_law_754 (zr_iload O dL_law_755 (zr_i2l O dL_law_757 (zr_lcmp O dL_law_758 (zr_ifeq (X := X) (Y := Y) (u := u + 5) (v := v + 30) (tgt := 764) O dL_law_759 rfl B_764 B_762))))))
  have B_747 : zSd X Y (u + 5) (v + 30) 747 _ := zr_iload O dL_law_747 (zr_ifne (X := X) (Y := Y) (u := u + 5) (v := v + 30) (tgt := 764) O dL_law_749 rfl B_764 B_752)
  have B_745 : zSd X Y (u + 5) (v + 30) 745 _ := zr_dead (X := X) (Y := Y) (u := u + 5) (v := v + 30) (pc := 745)
  have B_740 : zSd X Y (u + 5) (v + 30) 740 _ := zr_iload O dL_law_740 (zr_iceq (X := X) (Y := Y) (u := u + 5) (v := v + 30) (tgt := 747) O dL_law_742 rfl B_747 B_745)
  have B_734 : zSd X Y (u + 5) (v + 30) 734 _ := zr_istore O dL_law_734 (zr_aload_n O dL_law_736 rfl (zr_cI (zr_cV (X := X) (Y := Y) (u := u + 5) (v := v + 30) (ci := 10) (n := 0) O m_X11_thrown (bn_X11_thrown _ ⟨rfl, rfl⟩) vw_X11_thrown tv_1174 rc_X11_thrown (zrLw hR rfl rfl (by omega) (by omega)) dL_law_737 B_740)))
  have B_722 : zSd X Y (u + 5) (v + 30) 722 _ := zr_istore O dL_law_722 (zr_aload_n O dL_law_724 rfl (zr_aload_n O dL_law_725 rfl (zr_iload O dL_law_726 (zr_iconst (x := nI 1) O dL_law_728 (by decide) (zr_iadd O dL_law_729 (zr_sl O S dL_law_730 (zr_cV (X := X) (Y := Y) (u := u + 5) (v := v + 30) (ci := 10) (n := 1) O m_X11_told (bn_X11_told _ ⟨rfl, rfl⟩) vw_X11_told tv_1491 rc_X11_told (zrLw hR rfl rfl (by omega) (by omega)) dL_law_731 B_734)))))))
  have B_711 : zSd X Y u v 711 _ := zr_aload_n O dL_law_711 rfl (zr_aload_n O dL_law_712 rfl (zr_iload O dL_law_713 (zr_iconst (x := nI 1) O dL_law_715 (by decide) (zr_iadd O dL_law_716 (zr_sl O S dL_law_717 (zr_aload_n O dL_law_718 rfl (zr_cW (X := X) (Y := Y) (u := u) (v := v) (u' := u + 5) (v' := v + 30) (n := 3) O hst w_told ⟨tv_870, tv_0, tv_869, by decide, by decide, by decide +kernel⟩ tv_868 (zrLw hR rfl rfl (by omega) (by omega)) (by show u + 1 ≤ u + 5; omega) (by show v + 6 ≤ v + 30; omega) dL_law_719 B_722)))))))
  refine zSd_weak B_711 ?_
  rintro ls st h ⟨w5, w6, w7, rfl, rfl, ⟨Q, Hs, c, p, k0, π⟩, tl, hJ⟩
  have C := cs_told (w := xs (6 * i + 1)) hJ
  refine ⟨rfl, 6 * i + 1, si_ i 1, by omega, ((Q, x, xs (6 * i + 1), c, tl), x + 247), rfl, C.1, fun r h1 hq => ?_⟩
  obtain ⟨k, rfl, pm, hm⟩ := C.2 r h1 hq
  refine ⟨rfl, 6 * i + 1, si_ i 1, by omega, (Q, x + 229, xs (6 * i + 1), c, tl), rfl, pm, fun r2 h2 hq2 => ?_⟩
  obtain ⟨w2, rfl, ⟨bb, rfl⟩, e0, ek, hJ2⟩ := hm r2 h2 hq2
  refine ⟨x + 229, rfl, trivial, fun _ => ?_, fun z => absurd e0 z⟩
  refine ⟨fun _ => ⟨_, _, _, rfl, rfl, hJ2⟩, fun z => ⟨0, rfl, by omega, ?_⟩⟩
  exact ⟨fun _ => ⟨_, _, _, rfl, rfl, hJ2⟩, fun q => absurd (lg_eq (ek z)) q⟩
set_option maxHeartbeats 4000000 in
set_option maxRecDepth 100000 in
theorem lc_ring {X : zX} {Y : zY} {b L u v i x : Nat} {xs : Nat → Int32} {kd : Nat × Nat} (hO : LO X Y b L xs u v i) (hnx : zSd X Y (u + 5) (v + 30) 1991 (LI x (kd, b) i)) : zSd X Y u v 767 (LI x (kd, b) i) := by
  obtain ⟨O, hst, S, hR, hi, hu, hv⟩ := hO
  have B_832 : zSd X Y (u + 5) (v + 30) 832 _ := zr_goto (X := X) (Y := Y) (u := u + 5) (v := v + 30) (tgt := 1991) O dL_law_832 rfl hnx
  have B_830 : zSd X Y (u + 5) (v + 30) 830 _ := zr_dead (X := X) (Y := Y) (u := u + 5) (v := v + 30) (pc := 830)
  have B_820 : zSd X Y (u + 5) (v + 30) 820 _ := zr_aload_n O dL_law_820 rfl (zr_iconst (x := nI 0) O dL_law_821 (by decide) (zr_lald O dL_law_822 (zr_iload O dL_law_823 (zr_i2l O dL_law_825 (zr_lcmp O dL_law_826 (zr_ifeq (X := X) (Y := Y) (u := u + 5) (v := v + 30) (tgt := 832) O dL_law_827 rfl B_832 B_830))))))
  have B_815 : zSd X Y (u + 5) (v + 30) 815 _ := zr_iload O dL_law_815 (zr_ifne (X := X) (Y := Y) (u := u + 5) (v := v + 30) (tgt := 832) O dL_law_817 rfl B_832 B_820)
  have B_813 : zSd X Y (u + 5) (v + 30) 813 _ := zr_dead (X := X) (Y := Y) (u := u + 5) (v := v + 30) (pc := 813)
  have B_808 : zSd X Y (u + 5) (v + 30) 808 _ := zr_iload O dL_law_808 (zr_iceq (X := X) (Y := Y) (u := u + 5) (v := v + 30) (tgt := 815) O dL_law_810 rfl B_815 B_813)
  have B_802 : zSd X Y (u + 5) (v + 30) 802 _ := zr_istore O dL_law_802 (zr_aload_n O dL_law_804 rfl (zr_cI (zr_cV (X := X) (Y := Y) (u := u + 5) (v := v + 30) (ci := 10) (n := 0) O m_X11_thrown (bn_X11_thrown _ ⟨rfl, rfl⟩) vw_X11_thrown tv_1174 rc_X11_thrown (zrLw hR rfl rfl (by omega) (by omega)) dL_law_805 B_808)))
  have B_784 : zSd X Y (u + 5) (v + 30) 784 _ := zr_istore O dL_law_784 (zr_aload_n O dL_law_786 rfl (zr_aload_n O dL_law_787 rfl (zr_iload O dL_law_788 (zr_iconst (x := nI 1) O dL_law_790 (by decide) (zr_iadd O dL_law_791 (zr_sl O S dL_law_792 (zr_aload_n O dL_law_793 rfl (zr_iload O dL_law_794 (zr_iconst (x := nI 2) O dL_law_796 (by decide) (zr_iadd O dL_law_797 (zr_sl O S dL_law_798 (zr_cV (X := X) (Y := Y) (u := u + 5) (v := v + 30) (ci := 10) (n := 2) O m_X11_ring (bn_X11_ring _ ⟨rfl, rfl⟩) vw_X11_ring tv_1503 rc_X11_ring (zrLw hR rfl rfl (by omega) (by omega)) dL_law_799 B_802))))))))))))
  have B_767 : zSd X Y u v 767 _ := zr_aload_n O dL_law_767 rfl (zr_aload_n O dL_law_768 rfl (zr_iload O dL_law_769 (zr_iconst (x := nI 1) O dL_law_771 (by decide) (zr_iadd O dL_law_772 (zr_sl O S dL_law_773 (zr_aload_n O dL_law_774 rfl (zr_iload O dL_law_775 (zr_iconst (x := nI 2) O dL_law_777 (by decide) (zr_iadd O dL_law_778 (zr_sl O S dL_law_779 (zr_aload_n O dL_law_780 rfl (zr_cW (X := X) (Y := Y) (u := u) (v := v) (u' := u + 5) (v' := v + 30) (n := 4) O hst w_ring ⟨tv_884, tv_0, tv_883, by decide, by decide, by decide +kernel⟩ tv_882 (zrLw hR rfl rfl (by omega) (by omega)) (by show u + 2 ≤ u + 5; omega) (by show v + 12 ≤ v + 30; omega) dL_law_781 B_784))))))))))))
  refine zSd_weak B_767 ?_
  rintro ls st h ⟨w5, w6, w7, rfl, rfl, ⟨Q, Hs, c, p, k0, π⟩, tl, hJ⟩
  have C := cs_ring (i := xs (6 * i + 1)) (w := xs (6 * i + 2)) hJ
  refine ⟨rfl, 6 * i + 1, si_ i 1, by omega, rfl, 6 * i + 2, si_ i 2, by omega, ((Q, x, xs (6 * i + 1), xs (6 * i + 2)), x + 247), rfl, C.1, fun r h1 hq => ?_⟩
  obtain ⟨k, rfl, pm, hm⟩ := C.2 r h1 hq
  refine ⟨rfl, 6 * i + 1, si_ i 1, by omega, rfl, 6 * i + 2, si_ i 2, by omega, (Q, x + 229, xs (6 * i + 1), xs (6 * i + 2)), rfl, pm, fun r2 h2 hq2 => ?_⟩
  obtain ⟨w2, rfl, ⟨bb, rfl⟩, e0, ek, hJ2⟩ := hm r2 h2 hq2
  refine ⟨x + 229, rfl, trivial, fun _ => ?_, fun z => absurd e0 z⟩
  refine ⟨fun _ => ⟨_, _, _, rfl, rfl, hJ2⟩, fun z => ⟨0, rfl, by omega, ?_⟩⟩
  exact ⟨fun _ => ⟨_, _, _, rfl, rfl, hJ2⟩, fun q => absurd (lg_eq (ek z)) q⟩
set_option maxHeartbeats 4000000 in
set_option maxRecDepth 100000 in
theorem lc_speed {X : zX} {Y : zY} {b L u v i x : Nat} {xs : Nat → Int32} {kd : Nat × Nat} (hO : LO X Y b L xs u v i) (hnx : zSd X Y (u + 5) (v + 30) 1991 (LI x (kd, b) i)) : zSd X Y u v 835 (LI x (kd, b) i) := by
  obtain ⟨O, hst, S, hR, hi, hu, hv⟩ := hO
  have B_900 : zSd X Y (u + 5) (v + 30) 900 _ := zr_goto (X := X) (Y := Y) (u := u + 5) (v := v + 30) (tgt := 1991) O dL_law_900 rfl hnx
  have B_898 : zSd X Y (u + 5) (v + 30) 898 _ := zr_dead (X := X) (Y := Y) (u := u + 5) (v := v + 30) (pc := 898)
  have B_888 : zSd X Y (u + 5) (v + 30) 888 _ := zr_aload_n O dL_law_888 rfl (zr_iconst (x := nI 0) O dL_law_889 (by decide) (zr_lald O dL_law_890 (zr_iload O dL_law_891 (zr_i2l O dL_law_893 (zr_lcmp O dL_law_894 (zr_ifeq (X := X) (Y := Y) (u := u + 5) (v := v + 30) (tgt := 900) O dL_law_895 rfl B_900 B_898))))))
  have B_883 : zSd X Y (u + 5) (v + 30) 883 _ := zr_iload O dL_law_883 (zr_ifne (X := X) (Y := Y) (u := u + 5) (v := v + 30) (tgt := 900) O dL_law_885 rfl B_900 B_888)
  have B_881 : zSd X Y (u + 5) (v + 30) 881 _ := zr_dead (X := X) (Y := Y) (u := u + 5) (v := v + 30) (pc := 881)
  have B_876 : zSd X Y (u + 5) (v + 30) 876 _ := zr_iload O dL_law_876 (zr_iceq (X := X) (Y := Y) (u := u + 5) (v := v + 30) (tgt := 883) O dL_law_878 rfl B_883 B_881)
  have B_870 : zSd X Y (u + 5) (v + 30) 870 _ := zr_istore O dL_law_870 (zr_aload_n O dL_law_872 rfl (zr_cI (zr_cV (X := X) (Y := Y) (u := u + 5) (v := v + 30) (ci := 10) (n := 0) O m_X11_thrown (bn_X11_thrown _ ⟨rfl, rfl⟩) vw_X11_thrown tv_1174 rc_X11_thrown (zrLw hR rfl rfl (by omega) (by omega)) dL_law_873 B_876)))
  have B_852 : zSd X Y (u + 5) (v + 30) 852 _ := zr_istore O dL_law_852 (zr_aload_n O dL_law_854 rfl (zr_aload_n O dL_law_855 rfl (zr_iload O dL_law_856 (zr_iconst (x := nI 1) O dL_law_858 (by decide) (zr_iadd O dL_law_859 (zr_sl O S dL_law_860 (zr_aload_n O dL_law_861 rfl (zr_iload O dL_law_862 (zr_iconst (x := nI 2) O dL_law_864 (by decide) (zr_iadd O dL_law_865 (zr_sl O S dL_law_866 (zr_cV (X := X) (Y := Y) (u := u + 5) (v := v + 30) (ci := 10) (n := 2) O m_X11_speed (bn_X11_speed _ ⟨rfl, rfl⟩) vw_X11_speed tv_1511 rc_X11_speed (zrLw hR rfl rfl (by omega) (by omega)) dL_law_867 B_870))))))))))))
  have B_835 : zSd X Y u v 835 _ := zr_aload_n O dL_law_835 rfl (zr_aload_n O dL_law_836 rfl (zr_iload O dL_law_837 (zr_iconst (x := nI 1) O dL_law_839 (by decide) (zr_iadd O dL_law_840 (zr_sl O S dL_law_841 (zr_aload_n O dL_law_842 rfl (zr_iload O dL_law_843 (zr_iconst (x := nI 2) O dL_law_845 (by decide) (zr_iadd O dL_law_846 (zr_sl O S dL_law_847 (zr_aload_n O dL_law_848 rfl (zr_cW (X := X) (Y := Y) (u := u) (v := v) (u' := u + 5) (v' := v + 30) (n := 4) O hst w_speed ⟨tv_895, tv_0, tv_894, by decide, by decide, by decide +kernel⟩ tv_893 (zrLw hR rfl rfl (by omega) (by omega)) (by show u + 2 ≤ u + 5; omega) (by show v + 12 ≤ v + 30; omega) dL_law_849 B_852))))))))))))
  refine zSd_weak B_835 ?_
  rintro ls st h ⟨w5, w6, w7, rfl, rfl, ⟨Q, Hs, c, p, k0, π⟩, tl, hJ⟩
  have C := cs_speed (i := xs (6 * i + 1)) (te := xs (6 * i + 2)) hJ
  refine ⟨rfl, 6 * i + 1, si_ i 1, by omega, rfl, 6 * i + 2, si_ i 2, by omega, ((Q, x, xs (6 * i + 1), xs (6 * i + 2)), x + 247), rfl, C.1, fun r h1 hq => ?_⟩
  obtain ⟨k, rfl, pm, hm⟩ := C.2 r h1 hq
  refine ⟨rfl, 6 * i + 1, si_ i 1, by omega, rfl, 6 * i + 2, si_ i 2, by omega, (Q.1, x + 229, xs (6 * i + 1), xs (6 * i + 2)), rfl, pm, fun r2 h2 hq2 => ?_⟩
  obtain ⟨w2, rfl, ⟨bb, rfl⟩, e0, ek, hJ2⟩ := hm r2 h2 hq2
  refine ⟨x + 229, rfl, trivial, fun _ => ?_, fun z => absurd e0 z⟩
  refine ⟨fun _ => ⟨_, _, _, rfl, rfl, hJ2⟩, fun z => ⟨0, rfl, by omega, ?_⟩⟩
  exact ⟨fun _ => ⟨_, _, _, rfl, rfl, hJ2⟩, fun q => absurd (lg_eq (ek z)) q⟩
set_option maxHeartbeats 4000000 in
set_option maxRecDepth 100000 in
theorem lc_rank {X : zX} {Y : zY} {b L u v i x : Nat} {xs : Nat → Int32} {kd : Nat × Nat} (hO : LO X Y b L xs u v i) (hnx : zSd X Y (u + 5) (v + 30) 1991 (LI x (kd, b) i)) : zSd X Y u v 903 (LI x (kd, b) i) := by
  obtain ⟨O, hst, S, hR, hi, hu, hv⟩ := hO
  have B_968 : zSd X Y (u + 5) (v + 30) 968 _ := zr_goto (X := X) (Y := Y) (u := u + 5) (v := v + 30) (tgt := 1991) O dL_law_968 rfl hnx
  have B_966 : zSd X Y (u + 5) (v + 30) 966 _ := zr_dead (X := X) (Y := Y) (u := u + 5) (v := v + 30) (pc := 966)
  have B_956 : zSd X Y (u + 5) (v + 30) 956 _ := zr_aload_n O dL_law_956 rfl (zr_iconst (x := nI 0) O dL_law_957 (by decide) (zr_lald O dL_law_958 (zr_iload O dL_law_959 (zr_i2l O dL_law_961 (zr_lcmp O dL_law_962 (zr_ifeq (X := X) (Y := Y) (u := u + 5) (v := v + 30) (tgt := 968) O dL_law_963 rfl B_968 B_966))))))
  have B_951 : zSd X Y (u + 5) (v + 30) 951 _ := zr_iload O dL_law_951 (zr_ifne (X := X) (Y := Y) (u := u + 5) (v := v + 30) (tgt := 968) O dL_law_953 rfl B_968 B_956)
  have B_949 : zSd X Y (u + 5) (v + 30) 949 _ := zr_dead (X := X) (Y := Y) (u := u + 5) (v := v + 30) (pc := 949)
  have B_944 : zSd X Y (u + 5) (v + 30) 944 _ := zr_iload O dL_law_944 (zr_iceq (X := X) (Y := Y) (u := u + 5) (v := v + 30) (tgt := 951) O dL_law_946 rfl B_951 B_949)
  have B_938 : zSd X Y (u + 5) (v + 30) 938 _ := zr_istore O dL_law_938 (zr_aload_n O dL_law_940 rfl (zr_cI (zr_cV (X := X) (Y := Y) (u := u + 5) (v := v + 30) (ci := 10) (n := 0) O m_X11_thrown (bn_X11_thrown _ ⟨rfl, rfl⟩) vw_X11_thrown tv_1174 rc_X11_thrown (zrLw hR rfl rfl (by omega) (by omega)) dL_law_941 B_944)))
  have B_920 : zSd X Y (u + 5) (v + 30) 920 _ := zr_istore O dL_law_920 (zr_aload_n O dL_law_922 rfl (zr_aload_n O dL_law_923 rfl (zr_iload O dL_law_924 (zr_iconst (x := nI 1) O dL_law_926 (by decide) (zr_iadd O dL_law_927 (zr_sl O S dL_law_928 (zr_aload_n O dL_law_929 rfl (zr_iload O dL_law_930 (zr_iconst (x := nI 2) O dL_law_932 (by decide) (zr_iadd O dL_law_933 (zr_sl O S dL_law_934 (zr_cV (X := X) (Y := Y) (u := u + 5) (v := v + 30) (ci := 10) (n := 2) O m_X11_rank (bn_X11_rank _ ⟨rfl, rfl⟩) vw_X11_rank tv_1519 rc_X11_rank (zrLw hR rfl rfl (by omega) (by omega)) dL_law_935 B_938))))))))))))
  have B_903 : zSd X Y u v 903 _ := zr_aload_n O dL_law_903 rfl (zr_aload_n O dL_law_904 rfl (zr_iload O dL_law_905 (zr_iconst (x := nI 1) O dL_law_907 (by decide) (zr_iadd O dL_law_908 (zr_sl O S dL_law_909 (zr_aload_n O dL_law_910 rfl (zr_iload O dL_law_911 (zr_iconst (x := nI 2) O dL_law_913 (by decide) (zr_iadd O dL_law_914 (zr_sl O S dL_law_915 (zr_aload_n O dL_law_916 rfl (zr_cW (X := X) (Y := Y) (u := u) (v := v) (u' := u + 5) (v' := v + 30) (n := 4) O hst w_rank ⟨tv_907, tv_0, tv_906, by decide, by decide, by decide +kernel⟩ tv_905 (zrLw hR rfl rfl (by omega) (by omega)) (by show u + 2 ≤ u + 5; omega) (by show v + 12 ≤ v + 30; omega) dL_law_917 B_920))))))))))))
  refine zSd_weak B_903 ?_
  rintro ls st h ⟨w5, w6, w7, rfl, rfl, ⟨Q, Hs, c, p, k0, π⟩, tl, hJ⟩
  have C := cs_rank (i := xs (6 * i + 1)) (te := xs (6 * i + 2)) hJ
  refine ⟨rfl, 6 * i + 1, si_ i 1, by omega, rfl, 6 * i + 2, si_ i 2, by omega, ((Q, x, xs (6 * i + 1), xs (6 * i + 2)), x + 247), rfl, C.1, fun r h1 hq => ?_⟩
  obtain ⟨k, rfl, pm, hm⟩ := C.2 r h1 hq
  refine ⟨rfl, 6 * i + 1, si_ i 1, by omega, rfl, 6 * i + 2, si_ i 2, by omega, (Q.1, x + 229, xs (6 * i + 1), xs (6 * i + 2)), rfl, pm, fun r2 h2 hq2 => ?_⟩
  obtain ⟨w2, rfl, ⟨bb, rfl⟩, e0, ek, hJ2⟩ := hm r2 h2 hq2
  refine ⟨x + 229, rfl, trivial, fun _ => ?_, fun z => absurd e0 z⟩
  refine ⟨fun _ => ⟨_, _, _, rfl, rfl, hJ2⟩, fun z => ⟨0, rfl, by omega, ?_⟩⟩
  exact ⟨fun _ => ⟨_, _, _, rfl, rfl, hJ2⟩, fun q => absurd (lg_eq (ek z)) q⟩
set_option maxHeartbeats 4000000 in
set_option maxRecDepth 100000 in
theorem lc_pair {X : zX} {Y : zY} {b L u v i x : Nat} {xs : Nat → Int32} {kd : Nat × Nat} (hO : LO X Y b L xs u v i) (hnx : zSd X Y (u + 5) (v + 30) 1991 (LI x (kd, b) i)) : zSd X Y u v 971 (LI x (kd, b) i) := by
  obtain ⟨O, hst, S, hR, hi, hu, hv⟩ := hO
  have B_1036 : zSd X Y (u + 5) (v + 30) 1036 _ := zr_goto (X := X) (Y := Y) (u := u + 5) (v := v + 30) (tgt := 1991) O dL_law_1036 rfl hnx
  have B_1034 : zSd X Y (u + 5) (v + 30) 1034 _ := zr_dead (X := X) (Y := Y) (u := u + 5) (v := v + 30) (pc := 1034)
  have B_1024 : zSd X Y (u + 5) (v + 30) 1024 _ := zr_aload_n O dL_law_1024 rfl (zr_iconst (x := nI 0) O dL_law_1025 (by decide) (zr_lald O dL_law_1026 (zr_iload O dL_law_1027 (zr_i2l O dL_law_1029 (zr_lcmp O dL_law_1030 (zr_ifeq (X := X) (Y := Y) (u := u + 5) (v := v + 30) (tgt := 1036) O dL_law_1031 rfl B_1036 B_1034))))))
  have B_1019 : zSd X Y (u + 5) (v + 30) 1019 _ := zr_iload O dL_law_1019 (zr_ifne (X := X) (Y := Y) (u := u + 5) (v := v + 30) (tgt := 1036) O dL_law_1021 rfl B_1036 B_1024)
  have B_1017 : zSd X Y (u + 5) (v + 30) 1017 _ := zr_dead (X := X) (Y := Y) (u := u + 5) (v := v + 30) (pc := 1017)
  have B_1012 : zSd X Y (u + 5) (v + 30) 1012 _ := zr_iload O dL_law_1012 (zr_iceq (X := X) (Y := Y) (u := u + 5) (v := v + 30) (tgt := 1019) O dL_law_1014 rfl B_1019 B_1017)
  have B_1006 : zSd X Y (u + 5) (v + 30) 1006 _ := zr_istore O dL_law_1006 (zr_aload_n O dL_law_1008 rfl (zr_cI (zr_cV (X := X) (Y := Y) (u := u + 5) (v := v + 30) (ci := 10) (n := 0) O m_X11_thrown (bn_X11_thrown _ ⟨rfl, rfl⟩) vw_X11_thrown tv_1174 rc_X11_thrown (zrLw hR rfl rfl (by omega) (by omega)) dL_law_1009 B_1012)))
  have B_988 : zSd X Y (u + 5) (v + 30) 988 _ := zr_istore O dL_law_988 (zr_aload_n O dL_law_990 rfl (zr_aload_n O dL_law_991 rfl (zr_iload O dL_law_992 (zr_iconst (x := nI 1) O dL_law_994 (by decide) (zr_iadd O dL_law_995 (zr_sl O S dL_law_996 (zr_aload_n O dL_law_997 rfl (zr_iload O dL_law_998 (zr_iconst (x := nI 2) O dL_law_1000 (by decide) (zr_iadd O dL_law_1001 (zr_sl O S dL_law_1002 (zr_cV (X := X) (Y := Y) (u := u + 5) (v := v + 30) (ci := 10) (n := 2) O m_X11_pair (bn_X11_pair _ ⟨rfl, rfl⟩) vw_X11_pair tv_1523 rc_X11_pair (zrLw hR rfl rfl (by omega) (by omega)) dL_law_1003 B_1006))))))))))))
  have B_971 : zSd X Y u v 971 _ := zr_aload_n O dL_law_971 rfl (zr_aload_n O dL_law_972 rfl (zr_iload O dL_law_973 (zr_iconst (x := nI 1) O dL_law_975 (by decide) (zr_iadd O dL_law_976 (zr_sl O S dL_law_977 (zr_aload_n O dL_law_978 rfl (zr_iload O dL_law_979 (zr_iconst (x := nI 2) O dL_law_981 (by decide) (zr_iadd O dL_law_982 (zr_sl O S dL_law_983 (zr_aload_n O dL_law_984 rfl (zr_cW (X := X) (Y := Y) (u := u) (v := v) (u' := u + 5) (v' := v + 30) (n := 4) O hst w_pair ⟨tv_918, tv_0, tv_917, by decide, by decide, by decide +kernel⟩ tv_916 (zrLw hR rfl rfl (by omega) (by omega)) (by show u + 2 ≤ u + 5; omega) (by show v + 12 ≤ v + 30; omega) dL_law_985 B_988))))))))))))
  refine zSd_weak B_971 ?_
  rintro ls st h ⟨w5, w6, w7, rfl, rfl, ⟨Q, Hs, c, p, k0, π⟩, tl, hJ⟩
  have C := cs_pair (i := xs (6 * i + 1)) (w := xs (6 * i + 2)) hJ
  refine ⟨rfl, 6 * i + 1, si_ i 1, by omega, rfl, 6 * i + 2, si_ i 2, by omega, ((Q, x, xs (6 * i + 1), xs (6 * i + 2)), x + 247), rfl, C.1, fun r h1 hq => ?_⟩
  obtain ⟨k, rfl, pm, hm⟩ := C.2 r h1 hq
  refine ⟨rfl, 6 * i + 1, si_ i 1, by omega, rfl, 6 * i + 2, si_ i 2, by omega, (Q, x + 229, xs (6 * i + 1), xs (6 * i + 2)), rfl, pm, fun r2 h2 hq2 => ?_⟩
  obtain ⟨w2, rfl, ⟨bb, rfl⟩, e0, ek, hJ2⟩ := hm r2 h2 hq2
  refine ⟨x + 229, rfl, trivial, fun _ => ?_, fun z => absurd e0 z⟩
  refine ⟨fun _ => ⟨_, _, _, rfl, rfl, hJ2⟩, fun z => ⟨0, rfl, by omega, ?_⟩⟩
  exact ⟨fun _ => ⟨_, _, _, rfl, rfl, hJ2⟩, fun q => absurd (lg_eq (ek z)) q⟩
set_option maxHeartbeats 4000000 in
set_option maxRecDepth 100000 in
theorem lc_bit {X : zX} {Y : zY} {b L u v i x : Nat} {xs : Nat → Int32} {kd : Nat × Nat} (hO : LO X Y b L xs u v i) (hnx : zSd X Y (u + 5) (v + 30) 1991 (LI x (kd, b) i)) : zSd X Y u v 1039 (LI x (kd, b) i) := by
  obtain ⟨O, hst, S, hR, hi, hu, hv⟩ := hO
  have B_1104 : zSd X Y (u + 5) (v + 30) 1104 _ := zr_goto (X := X) (Y := Y) (u := u + 5) (v := v + 30) (tgt := 1991) O dL_law_1104 rfl hnx
  have B_1102 : zSd X Y (u + 5) (v + 30) 1102 _ := zr_dead (X := X) (Y := Y) (u := u + 5) (v := v + 30) (pc := 1102)
  have B_1092 : zSd X Y (u + 5) (v + 30) 1092 _ := zr_aload_n O dL_law_1092 rfl (zr_iconst (x := nI 0) O dL_law_1093 (by decide) (zr_lald O dL_law_1094 (zr_iload O dL_law_1095 (zr_i2l O dL_law_1097 (zr_lcmp O dL_law_1098 (zr_ifeq (X := X) (Y := Y) (u := u + 5) (v := v + 30) (tgt := 1104) O dL_law_1099 rfl B_1104 B_1102))))))
  have B_1087 : zSd X Y (u + 5) (v + 30) 1087 _ := zr_iload O dL_law_1087 (zr_ifne (X := X) (Y := Y) (u := u + 5) (v := v + 30) (tgt := 1104) O dL_law_1089 rfl B_1104 B_1092)
  have B_1085 : zSd X Y (u + 5) (v + 30) 1085 _ := zr_dead (X := X) (Y := Y) (u := u + 5) (v := v + 30) (pc := 1085)
  have B_1080 : zSd X Y (u + 5) (v + 30) 1080 _ := zr_iload O dL_law_1080 (zr_iceq (X := X) (Y := Y) (u := u + 5) (v := v + 30) (tgt := 1087) O dL_law_1082 rfl B_1087 B_1085)
  have B_1074 : zSd X Y (u + 5) (v + 30) 1074 _ := zr_istore O dL_law_1074 (zr_aload_n O dL_law_1076 rfl (zr_cI (zr_cV (X := X) (Y := Y) (u := u + 5) (v := v + 30) (ci := 10) (n := 0) O m_X11_thrown (bn_X11_thrown _ ⟨rfl, rfl⟩) vw_X11_thrown tv_1174 rc_X11_thrown (zrLw hR rfl rfl (by omega) (by omega)) dL_law_1077 B_1080)))
  have B_1056 : zSd X Y (u + 5) (v + 30) 1056 _ := zr_istore O dL_law_1056 (zr_aload_n O dL_law_1058 rfl (zr_aload_n O dL_law_1059 rfl (zr_iload O dL_law_1060 (zr_iconst (x := nI 1) O dL_law_1062 (by decide) (zr_iadd O dL_law_1063 (zr_sl O S dL_law_1064 (zr_aload_n O dL_law_1065 rfl (zr_iload O dL_law_1066 (zr_iconst (x := nI 2) O dL_law_1068 (by decide) (zr_iadd O dL_law_1069 (zr_sl O S dL_law_1070 (zr_cV (X := X) (Y := Y) (u := u + 5) (v := v + 30) (ci := 10) (n := 2) O m_X11_bit (bn_X11_bit _ ⟨rfl, rfl⟩) vw_X11_bit tv_1563 rc_X11_bit (zrLw hR rfl rfl (by omega) (by omega)) dL_law_1071 B_1074))))))))))))
  have B_1039 : zSd X Y u v 1039 _ := zr_aload_n O dL_law_1039 rfl (zr_aload_n O dL_law_1040 rfl (zr_iload O dL_law_1041 (zr_iconst (x := nI 1) O dL_law_1043 (by decide) (zr_iadd O dL_law_1044 (zr_sl O S dL_law_1045 (zr_aload_n O dL_law_1046 rfl (zr_iload O dL_law_1047 (zr_iconst (x := nI 2) O dL_law_1049 (by decide) (zr_iadd O dL_law_1050 (zr_sl O S dL_law_1051 (zr_aload_n O dL_law_1052 rfl (zr_cW (X := X) (Y := Y) (u := u) (v := v) (u' := u + 5) (v' := v + 30) (n := 4) O hst w_bit ⟨tv_938, tv_0, tv_937, by decide, by decide, by decide +kernel⟩ tv_936 (zrLw hR rfl rfl (by omega) (by omega)) (by show u + 2 ≤ u + 5; omega) (by show v + 12 ≤ v + 30; omega) dL_law_1053 B_1056))))))))))))
  refine zSd_weak B_1039 ?_
  rintro ls st h ⟨w5, w6, w7, rfl, rfl, ⟨Q, Hs, c, p, k0, π⟩, tl, hJ⟩
  have C := cs_bit (i := xs (6 * i + 1)) (te := xs (6 * i + 2)) hJ
  refine ⟨rfl, 6 * i + 1, si_ i 1, by omega, rfl, 6 * i + 2, si_ i 2, by omega, ((Q, x, xs (6 * i + 1), xs (6 * i + 2)), x + 247), rfl, C.1, fun r h1 hq => ?_⟩
  obtain ⟨k, rfl, pm, hm⟩ := C.2 r h1 hq
  refine ⟨rfl, 6 * i + 1, si_ i 1, by omega, rfl, 6 * i + 2, si_ i 2, by omega, (Q.1, x + 229, xs (6 * i + 1), xs (6 * i + 2)), rfl, pm, fun r2 h2 hq2 => ?_⟩
  obtain ⟨w2, rfl, ⟨bb, rfl⟩, e0, ek, hJ2⟩ := hm r2 h2 hq2
  refine ⟨x + 229, rfl, trivial, fun _ => ?_, fun z => absurd e0 z⟩
  refine ⟨fun _ => ⟨_, _, _, rfl, rfl, hJ2⟩, fun z => ⟨0, rfl, by omega, ?_⟩⟩
  exact ⟨fun _ => ⟨_, _, _, rfl, rfl, hJ2⟩, fun q => absurd (lg_eq (ek z)) q⟩
set_option maxHeartbeats 4000000 in
set_option maxRecDepth 100000 in
theorem lc_flips {X : zX} {Y : zY} {b L u v i x : Nat} {xs : Nat → Int32} {kd : Nat × Nat} (hO : LO X Y b L xs u v i) (hnx : zSd X Y (u + 5) (v + 30) 1991 (LI x (kd, b) i)) : zSd X Y u v 1107 (LI x (kd, b) i) := by
  obtain ⟨O, hst, S, hR, hi, hu, hv⟩ := hO
  have B_1172 : zSd X Y (u + 5) (v + 30) 1172 _ := zr_goto (X := X) (Y := Y) (u := u + 5) (v := v + 30) (tgt := 1991) O dL_law_1172 rfl hnx
  have B_1170 : zSd X Y (u + 5) (v + 30) 1170 _ := zr_dead (X := X) (Y := Y) (u := u + 5) (v := v + 30) (pc := 1170)
  have B_1160 : zSd X Y (u + 5) (v + 30) 1160 _ := zr_aload_n O dL_law_1160 rfl (zr_iconst (x := nI 0) O dL_law_1161 (by decide) (zr_lald O dL_law_1162 (zr_iload O dL_law_1163 (zr_i2l O dL_law_1165 (zr_lcmp O dL_law_1166 (zr_ifeq (X := X) (Y := Y) (u := u + 5) (v := v + 30) (tgt := 1172) O dL_law_1167 rfl B_1172 B_1170))))))
  have B_1155 : zSd X Y (u + 5) (v + 30) 1155 _ := zr_iload O dL_law_1155 (zr_ifne (X := X) (Y := Y) (u := u + 5) (v := v + 30) (tgt := 1172) O dL_law_1157 rfl B_1172 B_1160)
  have B_1153 : zSd X Y (u + 5) (v + 30) 1153 _ := zr_dead (X := X) (Y := Y) (u := u + 5) (v := v + 30) (pc := 1153)
  have B_1148 : zSd X Y (u + 5) (v + 30) 1148 _ := zr_iload O dL_law_1148 (zr_iceq (X := X) (Y := Y) (u := u + 5) (v := v + 30) (tgt := 1155) O dL_law_1150 rfl B_1155 B_1153)
  have B_1142 : zSd X Y (u + 5) (v + 30) 1142 _ := zr_istore O dL_law_1142 (zr_aload_n O dL_law_1144 rfl (zr_cI (zr_cV (X := X) (Y := Y) (u := u + 5) (v := v + 30) (ci := 10) (n := 0) O m_X11_thrown (bn_X11_thrown _ ⟨rfl, rfl⟩) vw_X11_thrown tv_1174 rc_X11_thrown (zrLw hR rfl rfl (by omega) (by omega)) dL_law_1145 B_1148)))
  have B_1124 : zSd X Y (u + 5) (v + 30) 1124 _ := zr_istore O dL_law_1124 (zr_aload_n O dL_law_1126 rfl (zr_aload_n O dL_law_1127 rfl (zr_iload O dL_law_1128 (zr_iconst (x := nI 1) O dL_law_1130 (by decide) (zr_iadd O dL_law_1131 (zr_sl O S dL_law_1132 (zr_aload_n O dL_law_1133 rfl (zr_iload O dL_law_1134 (zr_iconst (x := nI 2) O dL_law_1136 (by decide) (zr_iadd O dL_law_1137 (zr_sl O S dL_law_1138 (zr_cV (X := X) (Y := Y) (u := u + 5) (v := v + 30) (ci := 10) (n := 2) O m_X11_flips (bn_X11_flips _ ⟨rfl, rfl⟩) vw_X11_flips tv_1567 rc_X11_flips (zrLw hR rfl rfl (by omega) (by omega)) dL_law_1139 B_1142))))))))))))
  have B_1107 : zSd X Y u v 1107 _ := zr_aload_n O dL_law_1107 rfl (zr_aload_n O dL_law_1108 rfl (zr_iload O dL_law_1109 (zr_iconst (x := nI 1) O dL_law_1111 (by decide) (zr_iadd O dL_law_1112 (zr_sl O S dL_law_1113 (zr_aload_n O dL_law_1114 rfl (zr_iload O dL_law_1115 (zr_iconst (x := nI 2) O dL_law_1117 (by decide) (zr_iadd O dL_law_1118 (zr_sl O S dL_law_1119 (zr_aload_n O dL_law_1120 rfl (zr_cW (X := X) (Y := Y) (u := u) (v := v) (u' := u + 5) (v' := v + 30) (n := 4) O hst w_flips ⟨tv_949, tv_0, tv_948, by decide, by decide, by decide +kernel⟩ tv_947 (zrLw hR rfl rfl (by omega) (by omega)) (by show u + 2 ≤ u + 5; omega) (by show v + 12 ≤ v + 30; omega) dL_law_1121 B_1124))))))))))))
  refine zSd_weak B_1107 ?_
  rintro ls st h ⟨w5, w6, w7, rfl, rfl, ⟨Q, Hs, c, p, k0, π⟩, tl, hJ⟩
  have C := cs_flips (i := xs (6 * i + 1)) (w := xs (6 * i + 2)) hJ
  refine ⟨rfl, 6 * i + 1, si_ i 1, by omega, rfl, 6 * i + 2, si_ i 2, by omega, ((Q, x, xs (6 * i + 1), xs (6 * i + 2)), x + 247), rfl, C.1, fun r h1 hq => ?_⟩
  obtain ⟨k, rfl, pm, hm⟩ := C.2 r h1 hq
  refine ⟨rfl, 6 * i + 1, si_ i 1, by omega, rfl, 6 * i + 2, si_ i 2, by omega, (Q.1, x + 229, xs (6 * i + 1), xs (6 * i + 2)), rfl, pm, fun r2 h2 hq2 => ?_⟩
  obtain ⟨w2, rfl, ⟨bb, rfl⟩, e0, ek, hJ2⟩ := hm r2 h2 hq2
  refine ⟨x + 229, rfl, trivial, fun _ => ?_, fun z => absurd e0 z⟩
  refine ⟨fun _ => ⟨_, _, _, rfl, rfl, hJ2⟩, fun z => ⟨0, rfl, by omega, ?_⟩⟩
  exact ⟨fun _ => ⟨_, _, _, rfl, rfl, hJ2⟩, fun q => absurd (lg_eq (ek z)) q⟩
set_option maxHeartbeats 4000000 in
set_option maxRecDepth 100000 in
theorem lc_odds {X : zX} {Y : zY} {b L u v i x : Nat} {xs : Nat → Int32} {kd : Nat × Nat} (hO : LO X Y b L xs u v i) (hnx : zSd X Y (u + 5) (v + 30) 1991 (LI x (kd, b) i)) : zSd X Y u v 1175 (LI x (kd, b) i) := by
  obtain ⟨O, hst, S, hR, hi, hu, hv⟩ := hO
  have B_1268 : zSd X Y (u + 5) (v + 30) 1268 _ := zr_goto (X := X) (Y := Y) (u := u + 5) (v := v + 30) (tgt := 1991) O dL_law_1268 rfl hnx
  have B_1266 : zSd X Y (u + 5) (v + 30) 1266 _ := zr_dead (X := X) (Y := Y) (u := u + 5) (v := v + 30) (pc := 1266)
  have B_1256 : zSd X Y (u + 5) (v + 30) 1256 _ := zr_aload_n O dL_law_1256 rfl (zr_iconst (x := nI 0) O dL_law_1257 (by decide) (zr_lald O dL_law_1258 (zr_iload O dL_law_1259 (zr_i2l O dL_law_1261 (zr_lcmp O dL_law_1262 (zr_ifeq (X := X) (Y := Y) (u := u + 5) (v := v + 30) (tgt := 1268) O dL_law_1263 rfl B_1268 B_1266))))))
  have B_1251 : zSd X Y (u + 5) (v + 30) 1251 _ := zr_iload O dL_law_1251 (zr_ifne (X := X) (Y := Y) (u := u + 5) (v := v + 30) (tgt := 1268) O dL_law_1253 rfl B_1268 B_1256)
  have B_1249 : zSd X Y (u + 5) (v + 30) 1249 _ := zr_dead (X := X) (Y := Y) (u := u + 5) (v := v + 30) (pc := 1249)
  have B_1244 : zSd X Y (u + 5) (v + 30) 1244 _ := zr_iload O dL_law_1244 (zr_iceq (X := X) (Y := Y) (u := u + 5) (v := v + 30) (tgt := 1251) O dL_law_1246 rfl B_1251 B_1249)
  have B_1238 : zSd X Y (u + 5) (v + 30) 1238 _ := zr_istore O dL_law_1238 (zr_aload_n O dL_law_1240 rfl (zr_cI (zr_cV (X := X) (Y := Y) (u := u + 5) (v := v + 30) (ci := 10) (n := 0) O m_X11_thrown (bn_X11_thrown _ ⟨rfl, rfl⟩) vw_X11_thrown tv_1174 rc_X11_thrown (zrLw hR rfl rfl (by omega) (by omega)) dL_law_1241 B_1244)))
  have B_1234 : zSd X Y (u + 5) (v + 30) 1234 _ := zr_iconst (x := nI 0) O dL_law_1234 (by decide) (zr_cV (X := X) (Y := Y) (u := u + 5) (v := v + 30) (ci := 10) (n := 3) O m_X11_odds (bn_X11_odds _ ⟨rfl, rfl⟩) vw_X11_odds tv_1571 rc_X11_odds (zrLw hR rfl rfl (by omega) (by omega)) dL_law_1235 B_1238)
  have B_1235 : zSd X Y (u + 5) (v + 30) 1235 _ := zr_cV (X := X) (Y := Y) (u := u + 5) (v := v + 30) (ci := 10) (n := 3) O m_X11_odds (bn_X11_odds _ ⟨rfl, rfl⟩) vw_X11_odds tv_1571 rc_X11_odds (zrLw hR rfl rfl (by omega) (by omega)) dL_law_1235 B_1238
  have B_1230 : zSd X Y (u + 5) (v + 30) 1230 _ := zr_iconst (x := nI 1) O dL_law_1230 (by decide) (zr_goto (X := X) (Y := Y) (u := u + 5) (v := v + 30) (tgt := 1235) O dL_law_1231 rfl B_1235)
  have B_1206 : zSd X Y (u + 5) (v + 30) 1206 _ := zr_istore O dL_law_1206 (zr_aload_n O dL_law_1208 rfl (zr_aload_n O dL_law_1209 rfl (zr_iload O dL_law_1210 (zr_iconst (x := nI 1) O dL_law_1212 (by decide) (zr_iadd O dL_law_1213 (zr_sl O S dL_law_1214 (zr_aload_n O dL_law_1215 rfl (zr_iload O dL_law_1216 (zr_iconst (x := nI 2) O dL_law_1218 (by decide) (zr_iadd O dL_law_1219 (zr_sl O S dL_law_1220 (zr_aload_n O dL_law_1221 rfl (zr_iload O dL_law_1222 (zr_iconst (x := nI 3) O dL_law_1224 (by decide) (zr_iadd O dL_law_1225 (zr_sl O S dL_law_1226 (zr_ifeq (X := X) (Y := Y) (u := u + 5) (v := v + 30) (tgt := 1234) O dL_law_1227 rfl B_1234 B_1230)))))))))))))))))
  have B_1201 : zSd X Y u v 1201 _ := zr_iconst (x := nI 0) O dL_law_1201 (by decide) (zr_aload_n O dL_law_1202 rfl (zr_cW (X := X) (Y := Y) (u := u) (v := v) (u' := u + 5) (v' := v + 30) (n := 5) O hst w_odds ⟨tv_956, tv_0, tv_955, by decide, by decide, by decide +kernel⟩ tv_954 (zrLw hR rfl rfl (by omega) (by omega)) (by show u + 2 ≤ u + 5; omega) (by show v + 12 ≤ v + 30; omega) dL_law_1203 B_1206))
  have B_1202 : zSd X Y u v 1202 _ := zr_aload_n O dL_law_1202 rfl (zr_cW (X := X) (Y := Y) (u := u) (v := v) (u' := u + 5) (v' := v + 30) (n := 5) O hst w_odds ⟨tv_956, tv_0, tv_955, by decide, by decide, by decide +kernel⟩ tv_954 (zrLw hR rfl rfl (by omega) (by omega)) (by show u + 2 ≤ u + 5; omega) (by show v + 12 ≤ v + 30; omega) dL_law_1203 B_1206)
  have B_1197 : zSd X Y u v 1197 _ := zr_iconst (x := nI 1) O dL_law_1197 (by decide) (zr_goto (X := X) (Y := Y) (u := u) (v := v) (tgt := 1202) O dL_law_1198 rfl B_1202)
  have B_1175 : zSd X Y u v 1175 _ := zr_aload_n O dL_law_1175 rfl (zr_aload_n O dL_law_1176 rfl (zr_iload O dL_law_1177 (zr_iconst (x := nI 1) O dL_law_1179 (by decide) (zr_iadd O dL_law_1180 (zr_sl O S dL_law_1181 (zr_aload_n O dL_law_1182 rfl (zr_iload O dL_law_1183 (zr_iconst (x := nI 2) O dL_law_1185 (by decide) (zr_iadd O dL_law_1186 (zr_sl O S dL_law_1187 (zr_aload_n O dL_law_1188 rfl (zr_iload O dL_law_1189 (zr_iconst (x := nI 3) O dL_law_1191 (by decide) (zr_iadd O dL_law_1192 (zr_sl O S dL_law_1193 (zr_ifeq (X := X) (Y := Y) (u := u) (v := v) (tgt := 1201) O dL_law_1194 rfl B_1201 B_1197))))))))))))))))
  refine zSd_weak B_1175 ?_
  rintro ls st h ⟨w5, w6, w7, rfl, rfl, ⟨Q, Hs, c, p, k0, π⟩, tl, hJ⟩
  refine ⟨rfl, 6 * i + 1, si_ i 1, by omega, rfl, 6 * i + 2, si_ i 2, by omega, rfl, 6 * i + 3, si_ i 3, by omega, fun z => ?_, fun z => ?_⟩
  · have C := cs_odds (i := xs (6 * i + 1)) (te := xs (6 * i + 2)) (lo := nI 0) hJ
    refine ⟨((Q, x, xs (6 * i + 1), xs (6 * i + 2), nI 0), x + 247), rfl, C.1, fun r h1 hq => ?_⟩
    obtain ⟨k, rfl, pm, hm⟩ := C.2 r h1 hq
    refine ⟨rfl, 6 * i + 1, si_ i 1, by omega, rfl, 6 * i + 2, si_ i 2, by omega, rfl, 6 * i + 3, si_ i 3, by omega, fun z2 => ?_, fun z2 => absurd z z2⟩
    refine ⟨(Q.1, x + 229, xs (6 * i + 1), xs (6 * i + 2), nI 0), rfl, pm, fun r2 h2 hq2 => ?_⟩
    obtain ⟨w2, rfl, ⟨bb, rfl⟩, e0, ek, hJ2⟩ := hm r2 h2 hq2
    refine ⟨x + 229, rfl, trivial, fun _ => ?_, fun z => absurd e0 z⟩
    refine ⟨fun _ => ⟨_, _, _, rfl, rfl, hJ2⟩, fun z => ⟨0, rfl, by omega, ?_⟩⟩
    exact ⟨fun _ => ⟨_, _, _, rfl, rfl, hJ2⟩, fun q => absurd (lg_eq (ek z)) q⟩
  · have C := cs_odds (i := xs (6 * i + 1)) (te := xs (6 * i + 2)) (lo := nI 1) hJ
    refine ⟨((Q, x, xs (6 * i + 1), xs (6 * i + 2), nI 1), x + 247), rfl, C.1, fun r h1 hq => ?_⟩
    obtain ⟨k, rfl, pm, hm⟩ := C.2 r h1 hq
    refine ⟨rfl, 6 * i + 1, si_ i 1, by omega, rfl, 6 * i + 2, si_ i 2, by omega, rfl, 6 * i + 3, si_ i 3, by omega, fun z2 => absurd z2 z, fun z2 => ?_⟩
    refine ⟨(Q.1, x + 229, xs (6 * i + 1), xs (6 * i + 2), nI 1), rfl, pm, fun r2 h2 hq2 => ?_⟩
    obtain ⟨w2, rfl, ⟨bb, rfl⟩, e0, ek, hJ2⟩ := hm r2 h2 hq2
    refine ⟨x + 229, rfl, trivial, fun _ => ?_, fun z => absurd e0 z⟩
    refine ⟨fun _ => ⟨_, _, _, rfl, rfl, hJ2⟩, fun z => ⟨0, rfl, by omega, ?_⟩⟩
    exact ⟨fun _ => ⟨_, _, _, rfl, rfl, hJ2⟩, fun q => absurd (lg_eq (ek z)) q⟩
set_option maxHeartbeats 4000000 in
set_option maxRecDepth 100000 in
theorem lc_block {X : zX} {Y : zY} {b L u v i x : Nat} {xs : Nat → Int32} {kd : Nat × Nat} (hO : LO X Y b L xs u v i) (hnx : zSd X Y (u + 5) (v + 30) 1991 (LI x (kd, b) i)) : zSd X Y u v 1271 (LI x (kd, b) i) := by
  obtain ⟨O, hst, S, hR, hi, hu, hv⟩ := hO
  have B_1336 : zSd X Y (u + 5) (v + 30) 1336 _ := zr_goto (X := X) (Y := Y) (u := u + 5) (v := v + 30) (tgt := 1991) O dL_law_1336 rfl hnx
  have B_1334 : zSd X Y (u + 5) (v + 30) 1334 _ := zr_dead (X := X) (Y := Y) (u := u + 5) (v := v + 30) (pc := 1334)
  have B_1324 : zSd X Y (u + 5) (v + 30) 1324 _ := zr_aload_n O dL_law_1324 rfl (zr_iconst (x := nI 0) O dL_law_1325 (by decide) (zr_lald O dL_law_1326 (zr_iload O dL_law_1327 (zr_i2l O dL_law_1329 (zr_lcmp O dL_law_1330 (zr_ifeq (X := X) (Y := Y) (u := u + 5) (v := v + 30) (tgt := 1336) O dL_law_1331 rfl B_1336 B_1334))))))
  have B_1319 : zSd X Y (u + 5) (v + 30) 1319 _ := zr_iload O dL_law_1319 (zr_ifne (X := X) (Y := Y) (u := u + 5) (v := v + 30) (tgt := 1336) O dL_law_1321 rfl B_1336 B_1324)
  have B_1317 : zSd X Y (u + 5) (v + 30) 1317 _ := zr_dead (X := X) (Y := Y) (u := u + 5) (v := v + 30) (pc := 1317)
  have B_1312 : zSd X Y (u + 5) (v + 30) 1312 _ := zr_iload O dL_law_1312 (zr_iceq (X := X) (Y := Y) (u := u + 5) (v := v + 30) (tgt := 1319) O dL_law_1314 rfl B_1319 B_1317)
  have B_1306 : zSd X Y (u + 5) (v + 30) 1306 _ := zr_istore O dL_law_1306 (zr_aload_n O dL_law_1308 rfl (zr_cI (zr_cV (X := X) (Y := Y) (u := u + 5) (v := v + 30) (ci := 10) (n := 0) O m_X11_thrown (bn_X11_thrown _ ⟨rfl, rfl⟩) vw_X11_thrown tv_1174 rc_X11_thrown (zrLw hR rfl rfl (by omega) (by omega)) dL_law_1309 B_1312)))
  have B_1288 : zSd X Y (u + 5) (v + 30) 1288 _ := zr_istore O dL_law_1288 (zr_aload_n O dL_law_1290 rfl (zr_aload_n O dL_law_1291 rfl (zr_iload O dL_law_1292 (zr_iconst (x := nI 1) O dL_law_1294 (by decide) (zr_iadd O dL_law_1295 (zr_sl O S dL_law_1296 (zr_aload_n O dL_law_1297 rfl (zr_iload O dL_law_1298 (zr_iconst (x := nI 2) O dL_law_1300 (by decide) (zr_iadd O dL_law_1301 (zr_sl O S dL_law_1302 (zr_cV (X := X) (Y := Y) (u := u + 5) (v := v + 30) (ci := 10) (n := 2) O m_X11_block (bn_X11_block _ ⟨rfl, rfl⟩) vw_X11_block tv_1578 rc_X11_block (zrLw hR rfl rfl (by omega) (by omega)) dL_law_1303 B_1306))))))))))))
  have B_1271 : zSd X Y u v 1271 _ := zr_aload_n O dL_law_1271 rfl (zr_aload_n O dL_law_1272 rfl (zr_iload O dL_law_1273 (zr_iconst (x := nI 1) O dL_law_1275 (by decide) (zr_iadd O dL_law_1276 (zr_sl O S dL_law_1277 (zr_aload_n O dL_law_1278 rfl (zr_iload O dL_law_1279 (zr_iconst (x := nI 2) O dL_law_1281 (by decide) (zr_iadd O dL_law_1282 (zr_sl O S dL_law_1283 (zr_aload_n O dL_law_1284 rfl (zr_cW (X := X) (Y := Y) (u := u) (v := v) (u' := u + 5) (v' := v + 30) (n := 4) O hst w_block ⟨tv_976, tv_0, tv_975, by decide, by decide, by decide +kernel⟩ tv_974 (zrLw hR rfl rfl (by omega) (by omega)) (by show u + 1 ≤ u + 5; omega) (by show v + 6 ≤ v + 30; omega) dL_law_1285 B_1288))))))))))))
  refine zSd_weak B_1271 ?_
  rintro ls st h ⟨w5, w6, w7, rfl, rfl, ⟨Q, Hs, c, p, k0, π⟩, tl, hJ⟩
  have C := cs_block (i := xs (6 * i + 1)) (k := xs (6 * i + 2)) hJ
  refine ⟨rfl, 6 * i + 1, si_ i 1, by omega, rfl, 6 * i + 2, si_ i 2, by omega, ((Q, x, xs (6 * i + 1), xs (6 * i + 2)), x + 247), rfl, C.1, fun r h1 hq => ?_⟩
  obtain ⟨k, rfl, pm, hm⟩ := C.2 r h1 hq
  refine ⟨rfl, 6 * i + 1, si_ i 1, by omega, rfl, 6 * i + 2, si_ i 2, by omega, (Q.1, x + 229, xs (6 * i + 1), xs (6 * i + 2)), rfl, pm, fun r2 h2 hq2 => ?_⟩
  obtain ⟨w2, rfl, ⟨bb, rfl⟩, e0, ek, hJ2⟩ := hm r2 h2 hq2
  refine ⟨x + 229, rfl, trivial, fun _ => ?_, fun z => absurd e0 z⟩
  refine ⟨fun _ => ⟨_, _, _, rfl, rfl, hJ2⟩, fun z => ⟨0, rfl, by omega, ?_⟩⟩
  exact ⟨fun _ => ⟨_, _, _, rfl, rfl, hJ2⟩, fun q => absurd (lg_eq (ek z)) q⟩
set_option maxHeartbeats 4000000 in
set_option maxRecDepth 100000 in
theorem lc_recover {X : zX} {Y : zY} {b L u v i x : Nat} {xs : Nat → Int32} {kd : Nat × Nat} (hO : LO X Y b L xs u v i) (hnx : zSd X Y (u + 5) (v + 30) 1991 (LI x (kd, b) i)) : zSd X Y u v 1339 (LI x (kd, b) i) := by
  obtain ⟨O, hst, S, hR, hi, hu, hv⟩ := hO
  have B_1416 : zSd X Y (u + 5) (v + 30) 1416 _ := zr_goto (X := X) (Y := Y) (u := u + 5) (v := v + 30) (tgt := 1991) O dL_law_1416 rfl hnx
  have B_1414 : zSd X Y (u + 5) (v + 30) 1414 _ := zr_dead (X := X) (Y := Y) (u := u + 5) (v := v + 30) (pc := 1414)
  have B_1404 : zSd X Y (u + 5) (v + 30) 1404 _ := zr_aload_n O dL_law_1404 rfl (zr_iconst (x := nI 0) O dL_law_1405 (by decide) (zr_lald O dL_law_1406 (zr_iload O dL_law_1407 (zr_i2l O dL_law_1409 (zr_lcmp O dL_law_1410 (zr_ifeq (X := X) (Y := Y) (u := u + 5) (v := v + 30) (tgt := 1416) O dL_law_1411 rfl B_1416 B_1414))))))
  have B_1399 : zSd X Y (u + 5) (v + 30) 1399 _ := zr_iload O dL_law_1399 (zr_ifne (X := X) (Y := Y) (u := u + 5) (v := v + 30) (tgt := 1416) O dL_law_1401 rfl B_1416 B_1404)
  have B_1397 : zSd X Y (u + 5) (v + 30) 1397 _ := zr_dead (X := X) (Y := Y) (u := u + 5) (v := v + 30) (pc := 1397)
  have B_1392 : zSd X Y (u + 5) (v + 30) 1392 _ := zr_iload O dL_law_1392 (zr_iceq (X := X) (Y := Y) (u := u + 5) (v := v + 30) (tgt := 1399) O dL_law_1394 rfl B_1399 B_1397)
  have B_1386 : zSd X Y (u + 5) (v + 30) 1386 _ := zr_istore O dL_law_1386 (zr_aload_n O dL_law_1388 rfl (zr_cI (zr_cV (X := X) (Y := Y) (u := u + 5) (v := v + 30) (ci := 10) (n := 0) O m_X11_thrown (bn_X11_thrown _ ⟨rfl, rfl⟩) vw_X11_thrown tv_1174 rc_X11_thrown (zrLw hR rfl rfl (by omega) (by omega)) dL_law_1389 B_1392)))
  have B_1362 : zSd X Y (u + 5) (v + 30) 1362 _ := zr_istore O dL_law_1362 (zr_aload_n O dL_law_1364 rfl (zr_aload_n O dL_law_1365 rfl (zr_iload O dL_law_1366 (zr_iconst (x := nI 1) O dL_law_1368 (by decide) (zr_iadd O dL_law_1369 (zr_sl O S dL_law_1370 (zr_aload_n O dL_law_1371 rfl (zr_iload O dL_law_1372 (zr_iconst (x := nI 2) O dL_law_1374 (by decide) (zr_iadd O dL_law_1375 (zr_sl O S dL_law_1376 (zr_aload_n O dL_law_1377 rfl (zr_iload O dL_law_1378 (zr_iconst (x := nI 3) O dL_law_1380 (by decide) (zr_iadd O dL_law_1381 (zr_sl O S dL_law_1382 (zr_cV (X := X) (Y := Y) (u := u + 5) (v := v + 30) (ci := 10) (n := 3) O m_X11_recover (bn_X11_recover _ ⟨rfl, rfl⟩) vw_X11_recover tv_1582 rc_X11_recover (zrLw hR rfl rfl (by omega) (by omega)) dL_law_1383 B_1386)))))))))))))))))
  have B_1339 : zSd X Y u v 1339 _ := zr_aload_n O dL_law_1339 rfl (zr_aload_n O dL_law_1340 rfl (zr_iload O dL_law_1341 (zr_iconst (x := nI 1) O dL_law_1343 (by decide) (zr_iadd O dL_law_1344 (zr_sl O S dL_law_1345 (zr_aload_n O dL_law_1346 rfl (zr_iload O dL_law_1347 (zr_iconst (x := nI 2) O dL_law_1349 (by decide) (zr_iadd O dL_law_1350 (zr_sl O S dL_law_1351 (zr_aload_n O dL_law_1352 rfl (zr_iload O dL_law_1353 (zr_iconst (x := nI 3) O dL_law_1355 (by decide) (zr_iadd O dL_law_1356 (zr_sl O S dL_law_1357 (zr_aload_n O dL_law_1358 rfl (zr_cW (X := X) (Y := Y) (u := u) (v := v) (u' := u + 5) (v' := v + 30) (n := 5) O hst w_recover ⟨tv_988, tv_0, tv_987, by decide, by decide, by decide +kernel⟩ tv_986 (zrLw hR rfl rfl (by omega) (by omega)) (by show u + 4 ≤ u + 5; omega) (by show v + 24 ≤ v + 30; omega) dL_law_1359 B_1362)))))))))))))))))
  refine zSd_weak B_1339 ?_
  rintro ls st h ⟨w5, w6, w7, rfl, rfl, ⟨Q, Hs, c, p, k0, π⟩, tl, hJ⟩
  have C := cs_recover (te := xs (6 * i + 1)) (s := xs (6 * i + 2)) (w := xs (6 * i + 3)) hJ
  refine ⟨rfl, 6 * i + 1, si_ i 1, by omega, rfl, 6 * i + 2, si_ i 2, by omega, rfl, 6 * i + 3, si_ i 3, by omega, ((Q, x, xs (6 * i + 1), xs (6 * i + 2), xs (6 * i + 3)), x + 247), rfl, C.1, fun r h1 hq => ?_⟩
  obtain ⟨k, rfl, pm, hm⟩ := C.2 r h1 hq
  refine ⟨rfl, 6 * i + 1, si_ i 1, by omega, rfl, 6 * i + 2, si_ i 2, by omega, rfl, 6 * i + 3, si_ i 3, by omega, (Q, x + 229, xs (6 * i + 1), xs (6 * i + 2), xs (6 * i + 3)), rfl, pm, fun r2 h2 hq2 => ?_⟩
  obtain ⟨w2, rfl, ⟨bb, rfl⟩, e0, ek, hJ2⟩ := hm r2 h2 hq2
  refine ⟨x + 229, rfl, trivial, fun _ => ?_, fun z => absurd e0 z⟩
  refine ⟨fun _ => ⟨_, _, _, rfl, rfl, hJ2⟩, fun z => ⟨0, rfl, by omega, ?_⟩⟩
  exact ⟨fun _ => ⟨_, _, _, rfl, rfl, hJ2⟩, fun q => absurd (lg_eq (ek z)) q⟩
set_option maxHeartbeats 4000000 in
set_option maxRecDepth 100000 in
theorem lc_fails {X : zX} {Y : zY} {b L u v i x : Nat} {xs : Nat → Int32} {kd : Nat × Nat} (hO : LO X Y b L xs u v i) (hnx : zSd X Y (u + 5) (v + 30) 1991 (LI x (kd, b) i)) : zSd X Y u v 1419 (LI x (kd, b) i) := by
  obtain ⟨O, hst, S, hR, hi, hu, hv⟩ := hO
  have B_1508 : zSd X Y (u + 5) (v + 30) 1508 _ := zr_goto (X := X) (Y := Y) (u := u + 5) (v := v + 30) (tgt := 1991) O dL_law_1508 rfl hnx
  have B_1506 : zSd X Y (u + 5) (v + 30) 1506 _ := zr_dead (X := X) (Y := Y) (u := u + 5) (v := v + 30) (pc := 1506)
  have B_1496 : zSd X Y (u + 5) (v + 30) 1496 _ := zr_aload_n O dL_law_1496 rfl (zr_iconst (x := nI 0) O dL_law_1497 (by decide) (zr_lald O dL_law_1498 (zr_iload O dL_law_1499 (zr_i2l O dL_law_1501 (zr_lcmp O dL_law_1502 (zr_ifeq (X := X) (Y := Y) (u := u + 5) (v := v + 30) (tgt := 1508) O dL_law_1503 rfl B_1508 B_1506))))))
  have B_1491 : zSd X Y (u + 5) (v + 30) 1491 _ := zr_iload O dL_law_1491 (zr_ifne (X := X) (Y := Y) (u := u + 5) (v := v + 30) (tgt := 1508) O dL_law_1493 rfl B_1508 B_1496)
  have B_1489 : zSd X Y (u + 5) (v + 30) 1489 _ := zr_dead (X := X) (Y := Y) (u := u + 5) (v := v + 30) (pc := 1489)
  have B_1484 : zSd X Y (u + 5) (v + 30) 1484 _ := zr_iload O dL_law_1484 (zr_iceq (X := X) (Y := Y) (u := u + 5) (v := v + 30) (tgt := 1491) O dL_law_1486 rfl B_1491 B_1489)
  have B_1478 : zSd X Y (u + 5) (v + 30) 1478 _ := zr_istore O dL_law_1478 (zr_aload_n O dL_law_1480 rfl (zr_cI (zr_cV (X := X) (Y := Y) (u := u + 5) (v := v + 30) (ci := 10) (n := 0) O m_X11_thrown (bn_X11_thrown _ ⟨rfl, rfl⟩) vw_X11_thrown tv_1174 rc_X11_thrown (zrLw hR rfl rfl (by omega) (by omega)) dL_law_1481 B_1484)))
  have B_1448 : zSd X Y (u + 5) (v + 30) 1448 _ := zr_istore O dL_law_1448 (zr_aload_n O dL_law_1450 rfl (zr_aload_n O dL_law_1451 rfl (zr_iload O dL_law_1452 (zr_iconst (x := nI 1) O dL_law_1454 (by decide) (zr_iadd O dL_law_1455 (zr_sl O S dL_law_1456 (zr_aload_n O dL_law_1457 rfl (zr_iload O dL_law_1458 (zr_iconst (x := nI 2) O dL_law_1460 (by decide) (zr_iadd O dL_law_1461 (zr_sl O S dL_law_1462 (zr_aload_n O dL_law_1463 rfl (zr_iload O dL_law_1464 (zr_iconst (x := nI 3) O dL_law_1466 (by decide) (zr_iadd O dL_law_1467 (zr_sl O S dL_law_1468 (zr_aload_n O dL_law_1469 rfl (zr_iload O dL_law_1470 (zr_iconst (x := nI 4) O dL_law_1472 (by decide) (zr_iadd O dL_law_1473 (zr_sl O S dL_law_1474 (zr_cV (X := X) (Y := Y) (u := u + 5) (v := v + 30) (ci := 10) (n := 4) O m_X11_fails (bn_X11_fails _ ⟨rfl, rfl⟩) vw_X11_fails tv_1604 rc_X11_fails (zrLw hR rfl rfl (by omega) (by omega)) dL_law_1475 B_1478))))))))))))))))))))))
  have B_1419 : zSd X Y u v 1419 _ := zr_aload_n O dL_law_1419 rfl (zr_aload_n O dL_law_1420 rfl (zr_iload O dL_law_1421 (zr_iconst (x := nI 1) O dL_law_1423 (by decide) (zr_iadd O dL_law_1424 (zr_sl O S dL_law_1425 (zr_aload_n O dL_law_1426 rfl (zr_iload O dL_law_1427 (zr_iconst (x := nI 2) O dL_law_1429 (by decide) (zr_iadd O dL_law_1430 (zr_sl O S dL_law_1431 (zr_aload_n O dL_law_1432 rfl (zr_iload O dL_law_1433 (zr_iconst (x := nI 3) O dL_law_1435 (by decide) (zr_iadd O dL_law_1436 (zr_sl O S dL_law_1437 (zr_aload_n O dL_law_1438 rfl (zr_iload O dL_law_1439 (zr_iconst (x := nI 4) O dL_law_1441 (by decide) (zr_iadd O dL_law_1442 (zr_sl O S dL_law_1443 (zr_aload_n O dL_law_1444 rfl (zr_cW (X := X) (Y := Y) (u := u) (v := v) (u' := u + 5) (v' := v + 30) (n := 6) O hst w_fails ⟨tv_1023, tv_0, tv_1022, by decide, by decide, by decide +kernel⟩ tv_1021 (zrLw hR rfl rfl (by omega) (by omega)) (by show u + 5 ≤ u + 5; omega) (by show v + 30 ≤ v + 30; omega) dL_law_1445 B_1448))))))))))))))))))))))
  refine zSd_weak B_1419 ?_
  rintro ls st h ⟨w5, w6, w7, rfl, rfl, ⟨Q, Hs, c, p, k0, π⟩, tl, hJ⟩
  have C := cs_fails (te := xs (6 * i + 1)) (s := xs (6 * i + 2)) (m := xs (6 * i + 3)) (w := xs (6 * i + 4)) hJ
  refine ⟨rfl, 6 * i + 1, si_ i 1, by omega, rfl, 6 * i + 2, si_ i 2, by omega, rfl, 6 * i + 3, si_ i 3, by omega, rfl, 6 * i + 4, si_ i 4, by omega, ((Q, x, xs (6 * i + 1), xs (6 * i + 2), xs (6 * i + 3), xs (6 * i + 4)), x + 247), rfl, C.1, fun r h1 hq => ?_⟩
  obtain ⟨k, rfl, pm, hm⟩ := C.2 r h1 hq
  refine ⟨rfl, 6 * i + 1, si_ i 1, by omega, rfl, 6 * i + 2, si_ i 2, by omega, rfl, 6 * i + 3, si_ i 3, by omega, rfl, 6 * i + 4, si_ i 4, by omega, (Q, x + 229, xs (6 * i + 1), xs (6 * i + 2), xs (6 * i + 3), xs (6 * i + 4)), rfl, pm, fun r2 h2 hq2 => ?_⟩
  obtain ⟨w2, rfl, ⟨bb, rfl⟩, e0, ek, hJ2⟩ := hm r2 h2 hq2
  refine ⟨x + 229, rfl, trivial, fun _ => ?_, fun z => absurd e0 z⟩
  refine ⟨fun _ => ⟨_, _, _, rfl, rfl, hJ2⟩, fun z => ⟨0, rfl, by omega, ?_⟩⟩
  exact ⟨fun _ => ⟨_, _, _, rfl, rfl, hJ2⟩, fun q => absurd (lg_eq (ek z)) q⟩
set_option maxHeartbeats 4000000 in
set_option maxRecDepth 100000 in
theorem lc_safe {X : zX} {Y : zY} {b L u v i x : Nat} {xs : Nat → Int32} {kd : Nat × Nat} (hO : LO X Y b L xs u v i) (hnx : zSd X Y (u + 5) (v + 30) 1991 (LI x (kd, b) i)) : zSd X Y u v 1511 (LI x (kd, b) i) := by
  obtain ⟨O, hst, S, hR, hi, hu, hv⟩ := hO
  have B_1576 : zSd X Y (u + 5) (v + 30) 1576 _ := zr_goto (X := X) (Y := Y) (u := u + 5) (v := v + 30) (tgt := 1991) O dL_law_1576 rfl hnx
  have B_1574 : zSd X Y (u + 5) (v + 30) 1574 _ := zr_dead (X := X) (Y := Y) (u := u + 5) (v := v + 30) (pc := 1574)
  have B_1564 : zSd X Y (u + 5) (v + 30) 1564 _ := zr_aload_n O dL_law_1564 rfl (zr_iconst (x := nI 0) O dL_law_1565 (by decide) (zr_lald O dL_law_1566 (zr_iload O dL_law_1567 (zr_i2l O dL_law_1569 (zr_lcmp O dL_law_1570 (zr_ifeq (X := X) (Y := Y) (u := u + 5) (v := v + 30) (tgt := 1576) O dL_law_1571 rfl B_1576 B_1574))))))
  have B_1559 : zSd X Y (u + 5) (v + 30) 1559 _ := zr_iload O dL_law_1559 (zr_ifne (X := X) (Y := Y) (u := u + 5) (v := v + 30) (tgt := 1576) O dL_law_1561 rfl B_1576 B_1564)
  have B_1557 : zSd X Y (u + 5) (v + 30) 1557 _ := zr_dead (X := X) (Y := Y) (u := u + 5) (v := v + 30) (pc := 1557)
  have B_1552 : zSd X Y (u + 5) (v + 30) 1552 _ := zr_iload O dL_law_1552 (zr_iceq (X := X) (Y := Y) (u := u + 5) (v := v + 30) (tgt := 1559) O dL_law_1554 rfl B_1559 B_1557)
  have B_1546 : zSd X Y (u + 5) (v + 30) 1546 _ := zr_istore O dL_law_1546 (zr_aload_n O dL_law_1548 rfl (zr_cI (zr_cV (X := X) (Y := Y) (u := u + 5) (v := v + 30) (ci := 10) (n := 0) O m_X11_thrown (bn_X11_thrown _ ⟨rfl, rfl⟩) vw_X11_thrown tv_1174 rc_X11_thrown (zrLw hR rfl rfl (by omega) (by omega)) dL_law_1549 B_1552)))
  have B_1528 : zSd X Y (u + 5) (v + 30) 1528 _ := zr_istore O dL_law_1528 (zr_aload_n O dL_law_1530 rfl (zr_aload_n O dL_law_1531 rfl (zr_iload O dL_law_1532 (zr_iconst (x := nI 1) O dL_law_1534 (by decide) (zr_iadd O dL_law_1535 (zr_sl O S dL_law_1536 (zr_aload_n O dL_law_1537 rfl (zr_iload O dL_law_1538 (zr_iconst (x := nI 2) O dL_law_1540 (by decide) (zr_iadd O dL_law_1541 (zr_sl O S dL_law_1542 (zr_cV (X := X) (Y := Y) (u := u + 5) (v := v + 30) (ci := 10) (n := 2) O m_X11_safe (bn_X11_safe _ ⟨rfl, rfl⟩) vw_X11_safe tv_1609 rc_X11_safe (zrLw hR rfl rfl (by omega) (by omega)) dL_law_1543 B_1546))))))))))))
  have B_1511 : zSd X Y u v 1511 _ := zr_aload_n O dL_law_1511 rfl (zr_aload_n O dL_law_1512 rfl (zr_iload O dL_law_1513 (zr_iconst (x := nI 1) O dL_law_1515 (by decide) (zr_iadd O dL_law_1516 (zr_sl O S dL_law_1517 (zr_aload_n O dL_law_1518 rfl (zr_iload O dL_law_1519 (zr_iconst (x := nI 2) O dL_law_1521 (by decide) (zr_iadd O dL_law_1522 (zr_sl O S dL_law_1523 (zr_aload_n O dL_law_1524 rfl (zr_cW (X := X) (Y := Y) (u := u) (v := v) (u' := u + 5) (v' := v + 30) (n := 4) O hst w_safe ⟨tv_1030, tv_0, tv_1029, by decide, by decide, by decide +kernel⟩ tv_1028 (zrLw hR rfl rfl (by omega) (by omega)) (by show u + 3 ≤ u + 5; omega) (by show v + 18 ≤ v + 30; omega) dL_law_1525 B_1528))))))))))))
  refine zSd_weak B_1511 ?_
  rintro ls st h ⟨w5, w6, w7, rfl, rfl, ⟨Q, Hs, c, p, k0, π⟩, tl, hJ⟩
  have C := cs_safe (te := xs (6 * i + 1)) (w := xs (6 * i + 2)) hJ
  refine ⟨rfl, 6 * i + 1, si_ i 1, by omega, rfl, 6 * i + 2, si_ i 2, by omega, ((Q, x, xs (6 * i + 1), xs (6 * i + 2)), x + 247), rfl, C.1, fun r h1 hq => ?_⟩
  obtain ⟨k, rfl, pm, hm⟩ := C.2 r h1 hq
  refine ⟨rfl, 6 * i + 1, si_ i 1, by omega, rfl, 6 * i + 2, si_ i 2, by omega, (Q, x + 229, xs (6 * i + 1), xs (6 * i + 2)), rfl, pm, fun r2 h2 hq2 => ?_⟩
  obtain ⟨w2, rfl, ⟨bb, rfl⟩, e0, ek, hJ2⟩ := hm r2 h2 hq2
  refine ⟨x + 229, rfl, trivial, fun _ => ?_, fun z => absurd e0 z⟩
  refine ⟨fun _ => ⟨_, _, _, rfl, rfl, hJ2⟩, fun z => ⟨0, rfl, by omega, ?_⟩⟩
  exact ⟨fun _ => ⟨_, _, _, rfl, rfl, hJ2⟩, fun q => absurd (lg_eq (ek z)) q⟩
set_option maxHeartbeats 4000000 in
set_option maxRecDepth 100000 in
theorem lc_range {X : zX} {Y : zY} {b L u v i x : Nat} {xs : Nat → Int32} {kd : Nat × Nat} (hO : LO X Y b L xs u v i) (hnx : zSd X Y (u + 5) (v + 30) 1991 (LI x (kd, b) i)) : zSd X Y u v 1579 (LI x (kd, b) i) := by
  obtain ⟨O, hst, S, hR, hi, hu, hv⟩ := hO
  have B_1632 : zSd X Y (u + 5) (v + 30) 1632 _ := zr_goto (X := X) (Y := Y) (u := u + 5) (v := v + 30) (tgt := 1991) O dL_law_1632 rfl hnx
  have B_1630 : zSd X Y (u + 5) (v + 30) 1630 _ := zr_dead (X := X) (Y := Y) (u := u + 5) (v := v + 30) (pc := 1630)
  have B_1620 : zSd X Y (u + 5) (v + 30) 1620 _ := zr_aload_n O dL_law_1620 rfl (zr_iconst (x := nI 0) O dL_law_1621 (by decide) (zr_lald O dL_law_1622 (zr_iload O dL_law_1623 (zr_i2l O dL_law_1625 (zr_lcmp O dL_law_1626 (zr_ifeq (X := X) (Y := Y) (u := u + 5) (v := v + 30) (tgt := 1632) O dL_law_1627 rfl B_1632 B_1630))))))
  have B_1615 : zSd X Y (u + 5) (v + 30) 1615 _ := zr_iload O dL_law_1615 (zr_ifne (X := X) (Y := Y) (u := u + 5) (v := v + 30) (tgt := 1632) O dL_law_1617 rfl B_1632 B_1620)
  have B_1613 : zSd X Y (u + 5) (v + 30) 1613 _ := zr_dead (X := X) (Y := Y) (u := u + 5) (v := v + 30) (pc := 1613)
  have B_1608 : zSd X Y (u + 5) (v + 30) 1608 _ := zr_iload O dL_law_1608 (zr_iceq (X := X) (Y := Y) (u := u + 5) (v := v + 30) (tgt := 1615) O dL_law_1610 rfl B_1615 B_1613)
  have B_1602 : zSd X Y (u + 5) (v + 30) 1602 _ := zr_istore O dL_law_1602 (zr_aload_n O dL_law_1604 rfl (zr_cI (zr_cV (X := X) (Y := Y) (u := u + 5) (v := v + 30) (ci := 10) (n := 0) O m_X11_thrown (bn_X11_thrown _ ⟨rfl, rfl⟩) vw_X11_thrown tv_1174 rc_X11_thrown (zrLw hR rfl rfl (by omega) (by omega)) dL_law_1605 B_1608)))
  have B_1590 : zSd X Y (u + 5) (v + 30) 1590 _ := zr_istore O dL_law_1590 (zr_aload_n O dL_law_1592 rfl (zr_aload_n O dL_law_1593 rfl (zr_iload O dL_law_1594 (zr_iconst (x := nI 1) O dL_law_1596 (by decide) (zr_iadd O dL_law_1597 (zr_sl O S dL_law_1598 (zr_cV (X := X) (Y := Y) (u := u + 5) (v := v + 30) (ci := 10) (n := 1) O m_X11_range (bn_X11_range _ ⟨rfl, rfl⟩) vw_X11_range tv_1629 rc_X11_range (zrLw hR rfl rfl (by omega) (by omega)) dL_law_1599 B_1602)))))))
  have B_1579 : zSd X Y u v 1579 _ := zr_aload_n O dL_law_1579 rfl (zr_aload_n O dL_law_1580 rfl (zr_iload O dL_law_1581 (zr_iconst (x := nI 1) O dL_law_1583 (by decide) (zr_iadd O dL_law_1584 (zr_sl O S dL_law_1585 (zr_aload_n O dL_law_1586 rfl (zr_cW (X := X) (Y := Y) (u := u) (v := v) (u' := u + 5) (v' := v + 30) (n := 3) O hst w_range ⟨tv_1061, tv_0, tv_1060, by decide, by decide, by decide +kernel⟩ tv_1059 (zrLw hR rfl rfl (by omega) (by omega)) (by show u + 2 ≤ u + 5; omega) (by show v + 12 ≤ v + 30; omega) dL_law_1587 B_1590)))))))
  refine zSd_weak B_1579 ?_
  rintro ls st h ⟨w5, w6, w7, rfl, rfl, ⟨Q, Hs, c, p, k0, π⟩, tl, hJ⟩
  have C := cs_range (w := xs (6 * i + 1)) hJ
  refine ⟨rfl, 6 * i + 1, si_ i 1, by omega, ((Q, x, xs (6 * i + 1)), x + 247), rfl, C.1, fun r h1 hq => ?_⟩
  obtain ⟨k, rfl, pm, hm⟩ := C.2 r h1 hq
  refine ⟨rfl, 6 * i + 1, si_ i 1, by omega, (Q, x + 229, xs (6 * i + 1)), rfl, pm, fun r2 h2 hq2 => ?_⟩
  obtain ⟨w2, rfl, ⟨bb, rfl⟩, e0, ek, hJ2⟩ := hm r2 h2 hq2
  refine ⟨x + 229, rfl, trivial, fun _ => ?_, fun z => absurd e0 z⟩
  refine ⟨fun _ => ⟨_, _, _, rfl, rfl, hJ2⟩, fun z => ⟨0, rfl, by omega, ?_⟩⟩
  exact ⟨fun _ => ⟨_, _, _, rfl, rfl, hJ2⟩, fun q => absurd (lg_eq (ek z)) q⟩
set_option maxHeartbeats 4000000 in
set_option maxRecDepth 100000 in
theorem lc_guardFor {X : zX} {Y : zY} {b L u v i x : Nat} {xs : Nat → Int32} {kd : Nat × Nat} (hO : LO X Y b L xs u v i) (hnx : zSd X Y (u + 5) (v + 30) 1991 (LI x (kd, b) i)) : zSd X Y u v 1635 (LI x (kd, b) i) := by
  obtain ⟨O, hst, S, hR, hi, hu, hv⟩ := hO
  have B_1688 : zSd X Y (u + 5) (v + 30) 1688 _ := zr_goto (X := X) (Y := Y) (u := u + 5) (v := v + 30) (tgt := 1991) O dL_law_1688 rfl hnx
  have B_1686 : zSd X Y (u + 5) (v + 30) 1686 _ := zr_dead (X := X) (Y := Y) (u := u + 5) (v := v + 30) (pc := 1686)
  have B_1676 : zSd X Y (u + 5) (v + 30) 1676 _ := zr_aload_n O dL_law_1676 rfl (zr_iconst (x := nI 0) O dL_law_1677 (by decide) (zr_lald O dL_law_1678 (zr_iload O dL_law_1679 (zr_i2l O dL_law_1681 (zr_lcmp O dL_law_1682 (zr_ifeq (X := X) (Y := Y) (u := u + 5) (v := v + 30) (tgt := 1688) O dL_law_1683 rfl B_1688 B_1686))))))
  have B_1671 : zSd X Y (u + 5) (v + 30) 1671 _ := zr_iload O dL_law_1671 (zr_ifne (X := X) (Y := Y) (u := u + 5) (v := v + 30) (tgt := 1688) O dL_law_1673 rfl B_1688 B_1676)
  have B_1669 : zSd X Y (u + 5) (v + 30) 1669 _ := zr_dead (X := X) (Y := Y) (u := u + 5) (v := v + 30) (pc := 1669)
  have B_1664 : zSd X Y (u + 5) (v + 30) 1664 _ := zr_iload O dL_law_1664 (zr_iceq (X := X) (Y := Y) (u := u + 5) (v := v + 30) (tgt := 1671) O dL_law_1666 rfl B_1671 B_1669)
  have B_1658 : zSd X Y (u + 5) (v + 30) 1658 _ := zr_istore O dL_law_1658 (zr_aload_n O dL_law_1660 rfl (zr_cI (zr_cV (X := X) (Y := Y) (u := u + 5) (v := v + 30) (ci := 10) (n := 0) O m_X11_thrown (bn_X11_thrown _ ⟨rfl, rfl⟩) vw_X11_thrown tv_1174 rc_X11_thrown (zrLw hR rfl rfl (by omega) (by omega)) dL_law_1661 B_1664)))
  have B_1646 : zSd X Y (u + 5) (v + 30) 1646 _ := zr_istore O dL_law_1646 (zr_aload_n O dL_law_1648 rfl (zr_aload_n O dL_law_1649 rfl (zr_iload O dL_law_1650 (zr_iconst (x := nI 1) O dL_law_1652 (by decide) (zr_iadd O dL_law_1653 (zr_sl O S dL_law_1654 (zr_cV (X := X) (Y := Y) (u := u + 5) (v := v + 30) (ci := 10) (n := 1) O m_X11_guardFor (bn_X11_guardFor _ ⟨rfl, rfl⟩) vw_X11_guardFor tv_1633 rc_X11_guardFor (zrLw hR rfl rfl (by omega) (by omega)) dL_law_1655 B_1658)))))))
  have B_1635 : zSd X Y u v 1635 _ := zr_aload_n O dL_law_1635 rfl (zr_aload_n O dL_law_1636 rfl (zr_iload O dL_law_1637 (zr_iconst (x := nI 1) O dL_law_1639 (by decide) (zr_iadd O dL_law_1640 (zr_sl O S dL_law_1641 (zr_aload_n O dL_law_1642 rfl (zr_cW (X := X) (Y := Y) (u := u) (v := v) (u' := u + 5) (v' := v + 30) (n := 3) O hst w_guardFor ⟨tv_1072, tv_0, tv_1071, by decide, by decide, by decide +kernel⟩ tv_1070 (zrLw hR rfl rfl (by omega) (by omega)) (by show u + 1 ≤ u + 5; omega) (by show v + 6 ≤ v + 30; omega) dL_law_1643 B_1646)))))))
  refine zSd_weak B_1635 ?_
  rintro ls st h ⟨w5, w6, w7, rfl, rfl, ⟨Q, Hs, c, p, k0, π⟩, tl, hJ⟩
  have C := cs_guardFor (b := xs (6 * i + 1)) hJ
  refine ⟨rfl, 6 * i + 1, si_ i 1, by omega, ((Q, x, xs (6 * i + 1)), x + 247), rfl, C.1, fun r h1 hq => ?_⟩
  obtain ⟨k, rfl, pm, hm⟩ := C.2 r h1 hq
  refine ⟨rfl, 6 * i + 1, si_ i 1, by omega, (Q.1, x + 229, xs (6 * i + 1)), rfl, pm, fun r2 h2 hq2 => ?_⟩
  obtain ⟨w2, rfl, ⟨bb, rfl⟩, e0, ek, hJ2⟩ := hm r2 h2 hq2
  refine ⟨x + 229, rfl, trivial, fun _ => ?_, fun z => absurd e0 z⟩
  refine ⟨fun _ => ⟨_, _, _, rfl, rfl, hJ2⟩, fun z => ⟨0, rfl, by omega, ?_⟩⟩
  exact ⟨fun _ => ⟨_, _, _, rfl, rfl, hJ2⟩, fun q => absurd (lg_eq (ek z)) q⟩
set_option maxHeartbeats 4000000 in
set_option maxRecDepth 100000 in
theorem lc_ways {X : zX} {Y : zY} {b L u v i x : Nat} {xs : Nat → Int32} {kd : Nat × Nat} (hO : LO X Y b L xs u v i) (hnx : zSd X Y (u + 5) (v + 30) 1991 (LI x (kd, b) i)) : zSd X Y u v 1691 (LI x (kd, b) i) := by
  obtain ⟨O, hst, S, hR, hi, hu, hv⟩ := hO
  have B_1743 : zSd X Y (u + 5) (v + 30) 1743 _ := zr_goto (X := X) (Y := Y) (u := u + 5) (v := v + 30) (tgt := 1991) O dL_law_1743 rfl hnx
  have B_1741 : zSd X Y (u + 5) (v + 30) 1741 _ := zr_dead (X := X) (Y := Y) (u := u + 5) (v := v + 30) (pc := 1741)
  have B_1732 : zSd X Y (u + 5) (v + 30) 1732 _ := zr_aload_n O dL_law_1732 rfl (zr_iconst (x := nI 0) O dL_law_1733 (by decide) (zr_lald O dL_law_1734 (zr_lload O dL_law_1735 (zr_lcmp O dL_law_1737 (zr_ifeq (X := X) (Y := Y) (u := u + 5) (v := v + 30) (tgt := 1743) O dL_law_1738 rfl B_1743 B_1741)))))
  have B_1727 : zSd X Y (u + 5) (v + 30) 1727 _ := zr_iload O dL_law_1727 (zr_ifne (X := X) (Y := Y) (u := u + 5) (v := v + 30) (tgt := 1743) O dL_law_1729 rfl B_1743 B_1732)
  have B_1725 : zSd X Y (u + 5) (v + 30) 1725 _ := zr_dead (X := X) (Y := Y) (u := u + 5) (v := v + 30) (pc := 1725)
  have B_1720 : zSd X Y (u + 5) (v + 30) 1720 _ := zr_iload O dL_law_1720 (zr_iceq (X := X) (Y := Y) (u := u + 5) (v := v + 30) (tgt := 1727) O dL_law_1722 rfl B_1727 B_1725)
  have B_1714 : zSd X Y (u + 5) (v + 30) 1714 _ := zr_lstore O dL_law_1714 (zr_aload_n O dL_law_1716 rfl (zr_cI (zr_cV (X := X) (Y := Y) (u := u + 5) (v := v + 30) (ci := 10) (n := 0) O m_X11_thrown (bn_X11_thrown _ ⟨rfl, rfl⟩) vw_X11_thrown tv_1174 rc_X11_thrown (zrLw hR rfl rfl (by omega) (by omega)) dL_law_1717 B_1720)))
  have B_1702 : zSd X Y (u + 5) (v + 30) 1702 _ := zr_istore O dL_law_1702 (zr_aload_n O dL_law_1704 rfl (zr_aload_n O dL_law_1705 rfl (zr_iload O dL_law_1706 (zr_iconst (x := nI 1) O dL_law_1708 (by decide) (zr_iadd O dL_law_1709 (zr_sl O S dL_law_1710 (zr_cV (X := X) (Y := Y) (u := u + 5) (v := v + 30) (ci := 10) (n := 1) O m_X11_ways (bn_X11_ways _ ⟨rfl, rfl⟩) vw_X11_ways tv_1637 rc_X11_ways (zrLw hR rfl rfl (by omega) (by omega)) dL_law_1711 B_1714)))))))
  have B_1691 : zSd X Y u v 1691 _ := zr_aload_n O dL_law_1691 rfl (zr_aload_n O dL_law_1692 rfl (zr_iload O dL_law_1693 (zr_iconst (x := nI 1) O dL_law_1695 (by decide) (zr_iadd O dL_law_1696 (zr_sl O S dL_law_1697 (zr_aload_n O dL_law_1698 rfl (zr_cW (X := X) (Y := Y) (u := u) (v := v) (u' := u + 5) (v' := v + 30) (n := 3) O hst w_ways ⟨tv_1083, tv_0, tv_1082, by decide, by decide, by decide +kernel⟩ tv_1081 (zrLw hR rfl rfl (by omega) (by omega)) (by show u + 1 ≤ u + 5; omega) (by show v + 6 ≤ v + 30; omega) dL_law_1699 B_1702)))))))
  refine zSd_weak B_1691 ?_
  rintro ls st h ⟨w5, w6, w7, rfl, rfl, ⟨Q, Hs, c, p, k0, π⟩, tl, hJ⟩
  have C := cs_ways (w := xs (6 * i + 1)) hJ
  refine ⟨rfl, 6 * i + 1, si_ i 1, by omega, ((Q, x, xs (6 * i + 1)), x + 247), rfl, C.1, fun r h1 hq => ?_⟩
  obtain ⟨k, rfl, pm, hm⟩ := C.2 r h1 hq
  refine ⟨rfl, 6 * i + 1, si_ i 1, by omega, (Q, x + 229, xs (6 * i + 1)), rfl, pm, fun r2 h2 hq2 => ?_⟩
  obtain ⟨w2, rfl, ⟨bb, rfl⟩, e0, ek, hJ2⟩ := hm r2 h2 hq2
  rcases w6 with _ | a6 | a6 | a6
  all_goals
    refine ⟨x + 229, rfl, trivial, fun _ => ?_, fun z => absurd e0 z⟩
    refine ⟨fun _ => ⟨_, _, _, rfl, rfl, hJ2⟩, fun z => ⟨0, rfl, by omega, ?_⟩⟩
    exact ⟨fun _ => ⟨_, _, _, rfl, rfl, hJ2⟩, fun q => absurd (lg_eq (ek z)) q⟩
set_option maxHeartbeats 4000000 in
set_option maxRecDepth 100000 in
theorem lc_leak {X : zX} {Y : zY} {b L u v i x : Nat} {xs : Nat → Int32} {kd : Nat × Nat} (hO : LO X Y b L xs u v i) (hnx : zSd X Y (u + 5) (v + 30) 1991 (LI x (kd, b) i)) : zSd X Y u v 1746 (LI x (kd, b) i) := by
  obtain ⟨O, hst, S, hR, hi, hu, hv⟩ := hO
  have B_1799 : zSd X Y (u + 5) (v + 30) 1799 _ := zr_goto (X := X) (Y := Y) (u := u + 5) (v := v + 30) (tgt := 1991) O dL_law_1799 rfl hnx
  have B_1797 : zSd X Y (u + 5) (v + 30) 1797 _ := zr_dead (X := X) (Y := Y) (u := u + 5) (v := v + 30) (pc := 1797)
  have B_1787 : zSd X Y (u + 5) (v + 30) 1787 _ := zr_aload_n O dL_law_1787 rfl (zr_iconst (x := nI 0) O dL_law_1788 (by decide) (zr_lald O dL_law_1789 (zr_iload O dL_law_1790 (zr_i2l O dL_law_1792 (zr_lcmp O dL_law_1793 (zr_ifeq (X := X) (Y := Y) (u := u + 5) (v := v + 30) (tgt := 1799) O dL_law_1794 rfl B_1799 B_1797))))))
  have B_1782 : zSd X Y (u + 5) (v + 30) 1782 _ := zr_iload O dL_law_1782 (zr_ifne (X := X) (Y := Y) (u := u + 5) (v := v + 30) (tgt := 1799) O dL_law_1784 rfl B_1799 B_1787)
  have B_1780 : zSd X Y (u + 5) (v + 30) 1780 _ := zr_dead (X := X) (Y := Y) (u := u + 5) (v := v + 30) (pc := 1780)
  have B_1775 : zSd X Y (u + 5) (v + 30) 1775 _ := zr_iload O dL_law_1775 (zr_iceq (X := X) (Y := Y) (u := u + 5) (v := v + 30) (tgt := 1782) O dL_law_1777 rfl B_1782 B_1780)
  have B_1769 : zSd X Y (u + 5) (v + 30) 1769 _ := zr_istore O dL_law_1769 (zr_aload_n O dL_law_1771 rfl (zr_cI (zr_cV (X := X) (Y := Y) (u := u + 5) (v := v + 30) (ci := 10) (n := 0) O m_X11_thrown (bn_X11_thrown _ ⟨rfl, rfl⟩) vw_X11_thrown tv_1174 rc_X11_thrown (zrLw hR rfl rfl (by omega) (by omega)) dL_law_1772 B_1775)))
  have B_1757 : zSd X Y (u + 5) (v + 30) 1757 _ := zr_istore O dL_law_1757 (zr_aload_n O dL_law_1759 rfl (zr_aload_n O dL_law_1760 rfl (zr_iload O dL_law_1761 (zr_iconst (x := nI 1) O dL_law_1763 (by decide) (zr_iadd O dL_law_1764 (zr_sl O S dL_law_1765 (zr_cV (X := X) (Y := Y) (u := u + 5) (v := v + 30) (ci := 10) (n := 1) O m_X11_leak (bn_X11_leak _ ⟨rfl, rfl⟩) vw_X11_leak tv_1660 rc_X11_leak (zrLw hR rfl rfl (by omega) (by omega)) dL_law_1766 B_1769)))))))
  have B_1746 : zSd X Y u v 1746 _ := zr_aload_n O dL_law_1746 rfl (zr_aload_n O dL_law_1747 rfl (zr_iload O dL_law_1748 (zr_iconst (x := nI 1) O dL_law_1750 (by decide) (zr_iadd O dL_law_1751 (zr_sl O S dL_law_1752 (zr_aload_n O dL_law_1753 rfl (zr_cW (X := X) (Y := Y) (u := u) (v := v) (u' := u + 5) (v' := v + 30) (n := 3) O hst w_leak ⟨tv_1108, tv_0, tv_1107, by decide, by decide, by decide +kernel⟩ tv_1106 (zrLw hR rfl rfl (by omega) (by omega)) (by show u + 2 ≤ u + 5; omega) (by show v + 12 ≤ v + 30; omega) dL_law_1754 B_1757)))))))
  refine zSd_weak B_1746 ?_
  rintro ls st h ⟨w5, w6, w7, rfl, rfl, ⟨Q, Hs, c, p, k0, π⟩, tl, hJ⟩
  have C := cs_leak (w := xs (6 * i + 1)) hJ
  refine ⟨rfl, 6 * i + 1, si_ i 1, by omega, ((Q, x, xs (6 * i + 1)), x + 247), rfl, C.1, fun r h1 hq => ?_⟩
  obtain ⟨k, rfl, pm, hm⟩ := C.2 r h1 hq
  refine ⟨rfl, 6 * i + 1, si_ i 1, by omega, (Q, x + 229, xs (6 * i + 1)), rfl, pm, fun r2 h2 hq2 => ?_⟩
  obtain ⟨w2, rfl, ⟨bb, rfl⟩, e0, ek, hJ2⟩ := hm r2 h2 hq2
  refine ⟨x + 229, rfl, trivial, fun _ => ?_, fun z => absurd e0 z⟩
  refine ⟨fun _ => ⟨_, _, _, rfl, rfl, hJ2⟩, fun z => ⟨0, rfl, by omega, ?_⟩⟩
  exact ⟨fun _ => ⟨_, _, _, rfl, rfl, hJ2⟩, fun q => absurd (lg_eq (ek z)) q⟩
set_option maxHeartbeats 4000000 in
set_option maxRecDepth 100000 in
theorem lc_success {X : zX} {Y : zY} {b L u v i x : Nat} {xs : Nat → Int32} {kd : Nat × Nat} (hO : LO X Y b L xs u v i) (hnx : zSd X Y (u + 5) (v + 30) 1991 (LI x (kd, b) i)) : zSd X Y u v 1802 (LI x (kd, b) i) := by
  obtain ⟨O, hst, S, hR, hi, hu, hv⟩ := hO
  have B_1855 : zSd X Y (u + 5) (v + 30) 1855 _ := zr_goto (X := X) (Y := Y) (u := u + 5) (v := v + 30) (tgt := 1991) O dL_law_1855 rfl hnx
  have B_1853 : zSd X Y (u + 5) (v + 30) 1853 _ := zr_dead (X := X) (Y := Y) (u := u + 5) (v := v + 30) (pc := 1853)
  have B_1843 : zSd X Y (u + 5) (v + 30) 1843 _ := zr_aload_n O dL_law_1843 rfl (zr_iconst (x := nI 0) O dL_law_1844 (by decide) (zr_lald O dL_law_1845 (zr_iload O dL_law_1846 (zr_i2l O dL_law_1848 (zr_lcmp O dL_law_1849 (zr_ifeq (X := X) (Y := Y) (u := u + 5) (v := v + 30) (tgt := 1855) O dL_law_1850 rfl B_1855 B_1853))))))
  have B_1838 : zSd X Y (u + 5) (v + 30) 1838 _ := zr_iload O dL_law_1838 (zr_ifne (X := X) (Y := Y) (u := u + 5) (v := v + 30) (tgt := 1855) O dL_law_1840 rfl B_1855 B_1843)
  have B_1836 : zSd X Y (u + 5) (v + 30) 1836 _ := zr_dead (X := X) (Y := Y) (u := u + 5) (v := v + 30) (pc := 1836)
  have B_1831 : zSd X Y (u + 5) (v + 30) 1831 _ := zr_iload O dL_law_1831 (zr_iceq (X := X) (Y := Y) (u := u + 5) (v := v + 30) (tgt := 1838) O dL_law_1833 rfl B_1838 B_1836)
  have B_1825 : zSd X Y (u + 5) (v + 30) 1825 _ := zr_istore O dL_law_1825 (zr_aload_n O dL_law_1827 rfl (zr_cI (zr_cV (X := X) (Y := Y) (u := u + 5) (v := v + 30) (ci := 10) (n := 0) O m_X11_thrown (bn_X11_thrown _ ⟨rfl, rfl⟩) vw_X11_thrown tv_1174 rc_X11_thrown (zrLw hR rfl rfl (by omega) (by omega)) dL_law_1828 B_1831)))
  have B_1813 : zSd X Y (u + 5) (v + 30) 1813 _ := zr_istore O dL_law_1813 (zr_aload_n O dL_law_1815 rfl (zr_aload_n O dL_law_1816 rfl (zr_iload O dL_law_1817 (zr_iconst (x := nI 1) O dL_law_1819 (by decide) (zr_iadd O dL_law_1820 (zr_sl O S dL_law_1821 (zr_cV (X := X) (Y := Y) (u := u + 5) (v := v + 30) (ci := 10) (n := 1) O m_X11_success (bn_X11_success _ ⟨rfl, rfl⟩) vw_X11_success tv_1684 rc_X11_success (zrLw hR rfl rfl (by omega) (by omega)) dL_law_1822 B_1825)))))))
  have B_1802 : zSd X Y u v 1802 _ := zr_aload_n O dL_law_1802 rfl (zr_aload_n O dL_law_1803 rfl (zr_iload O dL_law_1804 (zr_iconst (x := nI 1) O dL_law_1806 (by decide) (zr_iadd O dL_law_1807 (zr_sl O S dL_law_1808 (zr_aload_n O dL_law_1809 rfl (zr_cW (X := X) (Y := Y) (u := u) (v := v) (u' := u + 5) (v' := v + 30) (n := 3) O hst w_success ⟨tv_1154, tv_0, tv_1153, by decide, by decide, by decide +kernel⟩ tv_1152 (zrLw hR rfl rfl (by omega) (by omega)) (by show u + 1 ≤ u + 5; omega) (by show v + 6 ≤ v + 30; omega) dL_law_1810 B_1813)))))))
  refine zSd_weak B_1802 ?_
  rintro ls st h ⟨w5, w6, w7, rfl, rfl, ⟨Q, Hs, c, p, k0, π⟩, tl, hJ⟩
  have C := cs_success (w := xs (6 * i + 1)) hJ
  refine ⟨rfl, 6 * i + 1, si_ i 1, by omega, ((Q, x, xs (6 * i + 1)), x + 247), rfl, C.1, fun r h1 hq => ?_⟩
  obtain ⟨k, rfl, pm, hm⟩ := C.2 r h1 hq
  refine ⟨rfl, 6 * i + 1, si_ i 1, by omega, (Q, x + 229, xs (6 * i + 1)), rfl, pm, fun r2 h2 hq2 => ?_⟩
  obtain ⟨w2, rfl, ⟨bb, rfl⟩, e0, ek, hJ2⟩ := hm r2 h2 hq2
  refine ⟨x + 229, rfl, trivial, fun _ => ?_, fun z => absurd e0 z⟩
  refine ⟨fun _ => ⟨_, _, _, rfl, rfl, hJ2⟩, fun z => ⟨0, rfl, by omega, ?_⟩⟩
  exact ⟨fun _ => ⟨_, _, _, rfl, rfl, hJ2⟩, fun q => absurd (lg_eq (ek z)) q⟩
set_option maxHeartbeats 4000000 in
set_option maxRecDepth 100000 in
theorem lc_curve {X : zX} {Y : zY} {b L u v i x : Nat} {xs : Nat → Int32} {kd : Nat × Nat} (hO : LO X Y b L xs u v i) (hnx : zSd X Y (u + 5) (v + 30) 1991 (LI x (kd, b) i)) : zSd X Y u v 1858 (LI x (kd, b) i) := by
  obtain ⟨O, hst, S, hR, hi, hu, hv⟩ := hO
  have B_1923 : zSd X Y (u + 5) (v + 30) 1923 _ := zr_goto (X := X) (Y := Y) (u := u + 5) (v := v + 30) (tgt := 1991) O dL_law_1923 rfl hnx
  have B_1921 : zSd X Y (u + 5) (v + 30) 1921 _ := zr_dead (X := X) (Y := Y) (u := u + 5) (v := v + 30) (pc := 1921)
  have B_1911 : zSd X Y (u + 5) (v + 30) 1911 _ := zr_aload_n O dL_law_1911 rfl (zr_iconst (x := nI 0) O dL_law_1912 (by decide) (zr_lald O dL_law_1913 (zr_iload O dL_law_1914 (zr_i2l O dL_law_1916 (zr_lcmp O dL_law_1917 (zr_ifeq (X := X) (Y := Y) (u := u + 5) (v := v + 30) (tgt := 1923) O dL_law_1918 rfl B_1923 B_1921))))))
  have B_1906 : zSd X Y (u + 5) (v + 30) 1906 _ := zr_iload O dL_law_1906 (zr_ifne (X := X) (Y := Y) (u := u + 5) (v := v + 30) (tgt := 1923) O dL_law_1908 rfl B_1923 B_1911)
  have B_1904 : zSd X Y (u + 5) (v + 30) 1904 _ := zr_dead (X := X) (Y := Y) (u := u + 5) (v := v + 30) (pc := 1904)
  have B_1899 : zSd X Y (u + 5) (v + 30) 1899 _ := zr_iload O dL_law_1899 (zr_iceq (X := X) (Y := Y) (u := u + 5) (v := v + 30) (tgt := 1906) O dL_law_1901 rfl B_1906 B_1904)
  have B_1893 : zSd X Y (u + 5) (v + 30) 1893 _ := zr_istore O dL_law_1893 (zr_aload_n O dL_law_1895 rfl (zr_cI (zr_cV (X := X) (Y := Y) (u := u + 5) (v := v + 30) (ci := 10) (n := 0) O m_X11_thrown (bn_X11_thrown _ ⟨rfl, rfl⟩) vw_X11_thrown tv_1174 rc_X11_thrown (zrLw hR rfl rfl (by omega) (by omega)) dL_law_1896 B_1899)))
  have B_1875 : zSd X Y (u + 5) (v + 30) 1875 _ := zr_istore O dL_law_1875 (zr_aload_n O dL_law_1877 rfl (zr_aload_n O dL_law_1878 rfl (zr_iload O dL_law_1879 (zr_iconst (x := nI 1) O dL_law_1881 (by decide) (zr_iadd O dL_law_1882 (zr_sl O S dL_law_1883 (zr_aload_n O dL_law_1884 rfl (zr_iload O dL_law_1885 (zr_iconst (x := nI 2) O dL_law_1887 (by decide) (zr_iadd O dL_law_1888 (zr_sl O S dL_law_1889 (zr_cV (X := X) (Y := Y) (u := u + 5) (v := v + 30) (ci := 10) (n := 2) O m_X11_curve (bn_X11_curve _ ⟨rfl, rfl⟩) vw_X11_curve tv_1688 rc_X11_curve (zrLw hR rfl rfl (by omega) (by omega)) dL_law_1890 B_1893))))))))))))
  have B_1858 : zSd X Y u v 1858 _ := zr_aload_n O dL_law_1858 rfl (zr_aload_n O dL_law_1859 rfl (zr_iload O dL_law_1860 (zr_iconst (x := nI 1) O dL_law_1862 (by decide) (zr_iadd O dL_law_1863 (zr_sl O S dL_law_1864 (zr_aload_n O dL_law_1865 rfl (zr_iload O dL_law_1866 (zr_iconst (x := nI 2) O dL_law_1868 (by decide) (zr_iadd O dL_law_1869 (zr_sl O S dL_law_1870 (zr_aload_n O dL_law_1871 rfl (zr_cW (X := X) (Y := Y) (u := u) (v := v) (u' := u + 5) (v' := v + 30) (n := 4) O hst w_curve ⟨tv_1161, tv_0, tv_1160, by decide, by decide, by decide +kernel⟩ tv_1159 (zrLw hR rfl rfl (by omega) (by omega)) (by show u + 2 ≤ u + 5; omega) (by show v + 12 ≤ v + 30; omega) dL_law_1872 B_1875))))))))))))
  refine zSd_weak B_1858 ?_
  rintro ls st h ⟨w5, w6, w7, rfl, rfl, ⟨Q, Hs, c, p, k0, π⟩, tl, hJ⟩
  have C := cs_curve (m := xs (6 * i + 1)) (w := xs (6 * i + 2)) hJ
  refine ⟨rfl, 6 * i + 1, si_ i 1, by omega, rfl, 6 * i + 2, si_ i 2, by omega, ((Q, x, xs (6 * i + 1), xs (6 * i + 2)), x + 247), rfl, C.1, fun r h1 hq => ?_⟩
  obtain ⟨k, rfl, pm, hm⟩ := C.2 r h1 hq
  refine ⟨rfl, 6 * i + 1, si_ i 1, by omega, rfl, 6 * i + 2, si_ i 2, by omega, (Q.1, x + 229, xs (6 * i + 1), xs (6 * i + 2)), rfl, pm, fun r2 h2 hq2 => ?_⟩
  obtain ⟨w2, rfl, ⟨bb, rfl⟩, e0, ek, hJ2⟩ := hm r2 h2 hq2
  refine ⟨x + 229, rfl, trivial, fun _ => ?_, fun z => absurd e0 z⟩
  refine ⟨fun _ => ⟨_, _, _, rfl, rfl, hJ2⟩, fun z => ⟨0, rfl, by omega, ?_⟩⟩
  exact ⟨fun _ => ⟨_, _, _, rfl, rfl, hJ2⟩, fun q => absurd (lg_eq (ek z)) q⟩
set_option maxHeartbeats 4000000 in
set_option maxRecDepth 100000 in
theorem lc_nextPair {X : zX} {Y : zY} {b L u v i x : Nat} {xs : Nat → Int32} {kd : Nat × Nat} (hO : LO X Y b L xs u v i) (hnx : zSd X Y (u + 5) (v + 30) 1991 (LI x (kd, b) i)) : zSd X Y u v 1926 (LI x (kd, b) i) := by
  obtain ⟨O, hst, S, hR, hi, hu, hv⟩ := hO
  have B_1937 : zSd X Y u v 1937 _ := zr_dead (X := X) (Y := Y) (u := u) (v := v) (pc := 1937)
  have B_1934 : zSd X Y u v 1934 _ := zr_iceq (X := X) (Y := Y) (u := u) (v := v) (tgt := 1991) O dL_law_1934 rfl (zSd_more hnx (by omega) (by omega)) B_1937
  have B_1930 : zSd X Y u v 1930 _ := zr_aload_n O dL_law_1930 rfl (zr_cV (X := X) (Y := Y) (u := u) (v := v) (ci := 10) (n := 0) O m_X11_nextPair (bn_X11_nextPair _ ⟨rfl, rfl⟩) vw_X11_nextPair tv_1692 rc_X11_nextPair (zrLw hR rfl rfl (by omega) (by omega)) dL_law_1931 B_1934)
  have B_1926 : zSd X Y u v 1926 _ := zr_aload_n O dL_law_1926 rfl (zr_cV (X := X) (Y := Y) (u := u) (v := v) (ci := 9) (n := 0) O m_X10_nextPair (bn_X10_nextPair _ ⟨rfl, rfl⟩) vw_X10_nextPair tv_349 rc_X10_nextPair (zrLw hR rfl rfl (by omega) (by omega)) dL_law_1927 B_1930)
  refine zSd_weak B_1926 ?_
  rintro ls st h ⟨w5, w6, w7, rfl, rfl, ⟨Q, Hs, c, p, k0, π⟩, tl, hJ⟩
  have C := cs_nextPair hJ
  refine ⟨(Q, x), rfl, C.1, fun r h1 hq => ?_⟩
  obtain ⟨pm, w, rfl, ⟨bb, rfl⟩, hm⟩ := C.2 r h1 hq
  refine ⟨(Q.1, Q.2.2, x + 229), rfl, pm, fun r2 h2 hq2 => ?_⟩
  obtain ⟨rfl, hJ2⟩ := hm r2 h2 hq2
  exact ⟨fun _ => ⟨_, _, _, rfl, rfl, hJ2⟩, fun q => absurd rfl q⟩
set_option maxHeartbeats 4000000 in
set_option maxRecDepth 100000 in
theorem lc_needs {X : zX} {Y : zY} {b L u v i x : Nat} {xs : Nat → Int32} {kd : Nat × Nat} (hO : LO X Y b L xs u v i) (hnx : zSd X Y (u + 5) (v + 30) 1991 (LI x (kd, b) i)) : zSd X Y u v 1939 (LI x (kd, b) i) := by
  obtain ⟨O, hst, S, hR, hi, hu, hv⟩ := hO
  have B_1950 : zSd X Y u v 1950 _ := zr_dead (X := X) (Y := Y) (u := u) (v := v) (pc := 1950)
  have B_1947 : zSd X Y u v 1947 _ := zr_iceq (X := X) (Y := Y) (u := u) (v := v) (tgt := 1991) O dL_law_1947 rfl (zSd_more hnx (by omega) (by omega)) B_1950
  have B_1943 : zSd X Y u v 1943 _ := zr_aload_n O dL_law_1943 rfl (zr_cV (X := X) (Y := Y) (u := u) (v := v) (ci := 10) (n := 0) O m_X11_needs (bn_X11_needs _ ⟨rfl, rfl⟩) vw_X11_needs tv_1708 rc_X11_needs (zrLw hR rfl rfl (by omega) (by omega)) dL_law_1944 B_1947)
  have B_1939 : zSd X Y u v 1939 _ := zr_aload_n O dL_law_1939 rfl (zr_cV (X := X) (Y := Y) (u := u) (v := v) (ci := 9) (n := 0) O m_X10_needs (bn_X10_needs _ ⟨rfl, rfl⟩) vw_X10_needs tv_409 rc_X10_needs (zrLw hR rfl rfl (by omega) (by omega)) dL_law_1940 B_1943)
  refine zSd_weak B_1939 ?_
  rintro ls st h ⟨w5, w6, w7, rfl, rfl, ⟨Q, Hs, c, p, k0, π⟩, tl, hJ⟩
  have C := cs_needs hJ
  refine ⟨(Q, x), rfl, C.1, fun r h1 hq => ?_⟩
  obtain ⟨pm, w, rfl, ⟨bb, rfl⟩, hm⟩ := C.2 r h1 hq
  refine ⟨(Q, Hs, c, x + 229), rfl, pm, fun r2 h2 hq2 => ?_⟩
  obtain ⟨rfl, hJ2⟩ := hm r2 h2 hq2
  exact ⟨fun _ => ⟨_, _, _, rfl, rfl, hJ2⟩, fun q => absurd rfl q⟩
set_option maxHeartbeats 4000000 in
set_option maxRecDepth 100000 in
theorem lc_print {X : zX} {Y : zY} {b L u v i x : Nat} {xs : Nat → Int32} {kd : Nat × Nat} (hO : LO X Y b L xs u v i) (hnx : zSd X Y (u + 5) (v + 30) 1991 (LI x (kd, b) i)) : zSd X Y u v 1952 (LI x (kd, b) i) := by
  obtain ⟨O, hst, S, hR, hi, hu, hv⟩ := hO
  have B_1964 : zSd X Y u v 1964 _ := zr_dead (X := X) (Y := Y) (u := u) (v := v) (pc := 1964)
  have B_1960 : zSd X Y u v 1960 _ := zr_lcmp O dL_law_1960 (zr_ifeq (X := X) (Y := Y) (u := u) (v := v) (tgt := 1991) O dL_law_1961 rfl (zSd_more hnx (by omega) (by omega)) B_1964)
  have B_1956 : zSd X Y u v 1956 _ := zr_aload_n O dL_law_1956 rfl (zr_cV (X := X) (Y := Y) (u := u) (v := v) (ci := 10) (n := 0) O m_X11_print (bn_X11_print _ ⟨rfl, rfl⟩) vw_X11_print tv_1712 rc_X11_print (zrLw hR rfl rfl (by omega) (by omega)) dL_law_1957 B_1960)
  have B_1952 : zSd X Y u v 1952 _ := zr_aload_n O dL_law_1952 rfl (zr_cL (zr_cV (X := X) (Y := Y) (u := u) (v := v) (ci := 9) (n := 0) O m_X10_print (bn_X10_print _ ⟨rfl, rfl⟩) vw_X10_print tv_430 rc_X10_print (zrLw hR rfl rfl (by omega) (by omega)) dL_law_1953 B_1956))
  refine zSd_weak B_1952 ?_
  rintro ls st h ⟨w5, w6, w7, rfl, rfl, ⟨Q, Hs, c, p, k0, π⟩, tl, hJ⟩
  have C := cs_print hJ
  obtain ⟨pm, w, e, ⟨bb, rfl⟩, hm⟩ := C.2 _ h ⟨rfl, rfl⟩
  cases e
  refine ⟨(Q, x), rfl, C.1, (Q.1, x + 229), rfl, pm, fun r2 h2 hq2 => ?_⟩
  obtain ⟨rfl, hJ2⟩ := hm r2 h2 hq2
  exact ⟨fun _ => ⟨_, _, _, rfl, rfl, hJ2⟩, fun q => absurd (lg_eq rfl) q⟩
set_option maxHeartbeats 4000000 in
set_option maxRecDepth 100000 in
theorem lc_status {X : zX} {Y : zY} {b L u v i x : Nat} {xs : Nat → Int32} {kd : Nat × Nat} (hO : LO X Y b L xs u v i) (hnx : zSd X Y (u + 5) (v + 30) 1991 (LI x (kd, b) i)) : zSd X Y u v 1966 (LI x (kd, b) i) := by
  obtain ⟨O, hst, S, hR, hi, hu, hv⟩ := hO
  have B_1989 : zSd X Y u v 1989 _ := zr_dead (X := X) (Y := Y) (u := u) (v := v) (pc := 1989)
  have B_1986 : zSd X Y u v 1986 _ := zr_iceq (X := X) (Y := Y) (u := u) (v := v) (tgt := 1991) O dL_law_1986 rfl (zSd_more hnx (by omega) (by omega)) B_1989
  have B_1976 : zSd X Y u v 1976 _ := zr_aload_n O dL_law_1976 rfl (zr_aload_n O dL_law_1977 rfl (zr_iload O dL_law_1978 (zr_iconst (x := nI 1) O dL_law_1980 (by decide) (zr_iadd O dL_law_1981 (zr_sl O S dL_law_1982 (zr_cV (X := X) (Y := Y) (u := u) (v := v) (ci := 10) (n := 1) O m_X11_status (bn_X11_status _ ⟨rfl, rfl⟩) vw_X11_status tv_1717 rc_X11_status (zrLw hR rfl rfl (by omega) (by omega)) dL_law_1983 B_1986))))))
  have B_1966 : zSd X Y u v 1966 _ := zr_aload_n O dL_law_1966 rfl (zr_aload_n O dL_law_1967 rfl (zr_iload O dL_law_1968 (zr_iconst (x := nI 1) O dL_law_1970 (by decide) (zr_iadd O dL_law_1971 (zr_sl O S dL_law_1972 (zr_cI (zr_cV (X := X) (Y := Y) (u := u) (v := v) (ci := 9) (n := 1) O m_X10_status (bn_X10_status _ ⟨rfl, rfl⟩) vw_X10_status tv_445 rc_X10_status (zrLw hR rfl rfl (by omega) (by omega)) dL_law_1973 B_1976)))))))
  refine zSd_weak B_1966 ?_
  rintro ls st h ⟨w5, w6, w7, rfl, rfl, ⟨Q, Hs, c, p, k0, π⟩, tl, hJ⟩
  have C := cs_status (w := xs (6 * i + 1)) hJ
  obtain ⟨pm, w, e, ⟨bb, rfl⟩, hm⟩ := C.2 _ h ⟨rfl, rfl⟩
  cases e
  refine ⟨rfl, 6 * i + 1, si_ i 1, by omega, (x, xs (6 * i + 1)), rfl, C.1, rfl, 6 * i + 1, si_ i 1, by omega, (x + 229, xs (6 * i + 1)), rfl, pm, fun r2 h2 hq2 => ?_⟩
  obtain ⟨rfl, hJ2⟩ := hm r2 h2 hq2
  exact ⟨fun _ => ⟨_, _, _, rfl, rfl, hJ2⟩, fun q => absurd rfl q⟩

