/-! the law: the changes -/
set_option maxHeartbeats 2000000 in
theorem lc_house {D : va_G} {s0 : State} {mn : String} {nL : Nat} {ret : Option FieldType} {hh : List (Nat × Nat × Nat × Nat)} {l : Launch} {R : Room} {Z : ZT} {A : AT} {b0 L i : Nat} {xs : Nat → Int32} {cells slots m : Nat} {σ : Sg} (hl : l.stackTraces = false) (hA : AOK s0.heap.size A) (H : LH s0 R nL b0 L i xs cells slots) (hm9 : m ≤ 600) (iv : IV A m σ) (kk : ∀ σ2 : Sg, IV A (m + 1) σ2 → V D s0 RL mn cL_law nL ret hh l R Z 2081 (LO A b0 i) [] (HP A σ2) (cells + 24) (slots + 816)) : V D s0 RL mn cL_law nL ret hh l R Z 204 (LO A b0 i) [] (HP A σ) cells slots := by
  have iv9 := iv
  obtain ⟨nx, w, cn, h, sf, sv, rr, tl, tx, ft, T, c, q, mi, sb⟩ := iv
  have ew := c.1
  subst ew
  have hW := mi.1.wok
  have bo := mi.1.bo
  obtain ⟨hb, nh, nc, pl, ⟨h1, hn⟩, ⟨h2, hc⟩, ⟨h3, hp⟩, hd⟩ := mi.1
  obtain ⟨hnx, hx9, hcn, hc8⟩ := c.2.1
  have hO : (S_house (σ.1 5 0) nh (xs (i + 1)) (xs (i + 2))).1.1 = 0 → Ow (m + 1) (S_house (σ.1 5 0) nh (xs (i + 1)) (xs (i + 2))).2.2 := fun z => hO_house hb h1 hn h2 hc h3 hp hd z
  refine law_c2 (p := 204) (e2 := 3) (RR := fun k b σ2 => RDY A (m + 1) σ2 k b) hA H csh_L_126 cv_L_131 rfl (t_L_house hA (d := 10) (t_X7_house hA hl hnx hx9 hcn hc8 bo.2 h1 hn (a := (xs (i + 1))) (b := (xs (i + 2))) (C_house hb h1 hn h2 hc h3 hp).hne) (fun r G' z => ⟨_, _, z.2.1, z.2.2⟩) (fun E G' z => ⟨z.2.1, _, z.2.2⟩) (by decide)) (chg_q hA c q sb (fun z => (hO z).bo)) (fun k σ1 qq => ?_) (by decide) (by decide) (by decide) (by decide) dL_law_204 dL_law_205 dL_law_206 dL_law_208 dL_law_209 dL_law_210 dL_law_211 dL_law_212 dL_law_214 dL_law_215 dL_law_216 dL_law_217 dL_law_218 dL_law_221 dL_law_223 dL_law_224 dL_law_225 dL_law_227 dL_law_228 dL_law_229 dL_law_230 dL_law_231 dL_law_233 dL_law_234 dL_law_235 dL_law_236 dL_law_239 (fun k b σ2 hr => law_tail hA H hr dL_law_241 dL_law_242 dL_law_245 dL_law_247 dL_law_252 dL_law_254 dL_law_257 dL_law_258 dL_law_259 dL_law_260 dL_law_262 dL_law_263 dL_law_264 dL_law_269 (by decide) (kk σ2 hr.2.2.2))
  have e21 : σ1.1 21 0 = σ.1 5 0 := qq.1.1
  have M := t_X8_house (D := D) (s0 := s0) (l := l) (σ := σ1) hA qq.1.2.2.1.1 qq.1.2.2.1.2.1 ((congrFun e21 1).trans h1) hn (a := (xs (i + 1))) (b := (xs (i + 2)))
  rw [e21] at M
  exact M.weaken (fun r G' z => ⟨_, _, z.1, z.2, chg_r qq mi hO (RS_house h1 hn) (fun j hj => (R_house_t h1 hn hj).trans (hb.z hj))⟩) (fun _ _ z => z)

set_option maxHeartbeats 2000000 in
theorem lc_order {D : va_G} {s0 : State} {mn : String} {nL : Nat} {ret : Option FieldType} {hh : List (Nat × Nat × Nat × Nat)} {l : Launch} {R : Room} {Z : ZT} {A : AT} {b0 L i : Nat} {xs : Nat → Int32} {cells slots m : Nat} {σ : Sg} (hl : l.stackTraces = false) (hA : AOK s0.heap.size A) (H : LH s0 R nL b0 L i xs cells slots) (hm9 : m ≤ 600) (iv : IV A m σ) (kk : ∀ σ2 : Sg, IV A (m + 1) σ2 → V D s0 RL mn cL_law nL ret hh l R Z 2081 (LO A b0 i) [] (HP A σ2) (cells + 24) (slots + 816)) : V D s0 RL mn cL_law nL ret hh l R Z 272 (LO A b0 i) [] (HP A σ) cells slots := by
  have iv9 := iv
  obtain ⟨nx, w, cn, h, sf, sv, rr, tl, tx, ft, T, c, q, mi, sb⟩ := iv
  have ew := c.1
  subst ew
  have hW := mi.1.wok
  have bo := mi.1.bo
  obtain ⟨hb, nh, nc, pl, ⟨h1, hn⟩, ⟨h2, hc⟩, ⟨h3, hp⟩, hd⟩ := mi.1
  obtain ⟨hnx, hx9, hcn, hc8⟩ := c.2.1
  have hO : (S_order (σ.1 5 0) nh (xs (i + 1)) (xs (i + 2))).1.1 = 0 → Ow (m + 1) (S_order (σ.1 5 0) nh (xs (i + 1)) (xs (i + 2))).2.2 := fun z => hO_order hb h1 hn h2 hc h3 hp hd z
  refine law_c2 (p := 272) (e2 := 3) (RR := fun k b σ2 => RDY A (m + 1) σ2 k b) hA H csh_L_135 cv_L_137 rfl (t_L_order hA (d := 10) (t_X7_order hA hl hnx hx9 hcn hc8 bo.2 h1 hn (a := (xs (i + 1))) (b := (xs (i + 2))) (C_order hb h1 hn h2 hc h3 hp).hne) (fun r G' z => ⟨_, _, z.2.1, z.2.2⟩) (fun E G' z => ⟨z.2.1, _, z.2.2⟩) (by decide)) (chg_q hA c q sb (fun z => (hO z).bo)) (fun k σ1 qq => ?_) (by decide) (by decide) (by decide) (by decide) dL_law_272 dL_law_273 dL_law_274 dL_law_276 dL_law_277 dL_law_278 dL_law_279 dL_law_280 dL_law_282 dL_law_283 dL_law_284 dL_law_285 dL_law_286 dL_law_289 dL_law_291 dL_law_292 dL_law_293 dL_law_295 dL_law_296 dL_law_297 dL_law_298 dL_law_299 dL_law_301 dL_law_302 dL_law_303 dL_law_304 dL_law_307 (fun k b σ2 hr => law_tail hA H hr dL_law_309 dL_law_310 dL_law_313 dL_law_315 dL_law_320 dL_law_322 dL_law_325 dL_law_326 dL_law_327 dL_law_328 dL_law_330 dL_law_331 dL_law_332 dL_law_337 (by decide) (kk σ2 hr.2.2.2))
  have e21 : σ1.1 21 0 = σ.1 5 0 := qq.1.1
  have M := t_X8_order (D := D) (s0 := s0) (l := l) (σ := σ1) hA qq.1.2.2.1.1 qq.1.2.2.1.2.1 ((congrFun e21 1).trans h1) hn (a := (xs (i + 1))) (b := (xs (i + 2)))
  rw [e21] at M
  exact M.weaken (fun r G' z => ⟨_, _, z.1, z.2, chg_r qq mi hO (RS_order) (fun j hj => (R_order_t hn hj).trans (hb.z hj))⟩) (fun _ _ z => z)

set_option maxHeartbeats 2000000 in
theorem lc_carrier {D : va_G} {s0 : State} {mn : String} {nL : Nat} {ret : Option FieldType} {hh : List (Nat × Nat × Nat × Nat)} {l : Launch} {R : Room} {Z : ZT} {A : AT} {b0 L i : Nat} {xs : Nat → Int32} {cells slots m : Nat} {σ : Sg} (hl : l.stackTraces = false) (hA : AOK s0.heap.size A) (H : LH s0 R nL b0 L i xs cells slots) (hm9 : m ≤ 600) (iv : IV A m σ) (kk : ∀ σ2 : Sg, IV A (m + 1) σ2 → V D s0 RL mn cL_law nL ret hh l R Z 2081 (LO A b0 i) [] (HP A σ2) (cells + 24) (slots + 816)) : V D s0 RL mn cL_law nL ret hh l R Z 340 (LO A b0 i) [] (HP A σ) cells slots := by
  have iv9 := iv
  obtain ⟨nx, w, cn, h, sf, sv, rr, tl, tx, ft, T, c, q, mi, sb⟩ := iv
  have ew := c.1
  subst ew
  have hW := mi.1.wok
  have bo := mi.1.bo
  obtain ⟨hb, nh, nc, pl, ⟨h1, hn⟩, ⟨h2, hc⟩, ⟨h3, hp⟩, hd⟩ := mi.1
  obtain ⟨hnx, hx9, hcn, hc8⟩ := c.2.1
  have hO : (S_carrier (σ.1 5 0) nc (xs (i + 1))).1.1 = 0 → Ow (m + 1) (S_carrier (σ.1 5 0) nc (xs (i + 1))).2.2 := fun z => hO_carrier hb h1 hn h2 hc h3 hp hd z
  refine law_c1 (p := 340) (e2 := 3) (RR := fun k b σ2 => RDY A (m + 1) σ2 k b) hA H csh_L_138 cv_L_141 rfl (t_L_carrier hA (d := 10) (t_X7_carrier hA hl hnx hx9 hcn hc8 bo.2 h2 hc (a := (xs (i + 1))) (C_carrier hb h1 hn h2 hc h3 hp).hne) (fun r G' z => ⟨_, _, z.2.1, z.2.2⟩) (fun E G' z => ⟨z.2.1, _, z.2.2⟩) (by decide)) (chg_q hA c q sb (fun z => (hO z).bo)) (fun k σ1 qq => ?_) (by decide) (by decide) (by decide) (by decide) dL_law_340 dL_law_341 dL_law_342 dL_law_344 dL_law_345 dL_law_346 dL_law_347 dL_law_348 dL_law_351 dL_law_353 dL_law_354 dL_law_355 dL_law_357 dL_law_358 dL_law_359 dL_law_360 dL_law_363 (fun k b σ2 hr => law_tail hA H hr dL_law_365 dL_law_366 dL_law_369 dL_law_371 dL_law_376 dL_law_378 dL_law_381 dL_law_382 dL_law_383 dL_law_384 dL_law_386 dL_law_387 dL_law_388 dL_law_393 (by decide) (kk σ2 hr.2.2.2))
  have e21 : σ1.1 21 0 = σ.1 5 0 := qq.1.1
  have M := t_X8_carrier (D := D) (s0 := s0) (l := l) (σ := σ1) hA qq.1.2.2.1.1 qq.1.2.2.1.2.1 ((congrFun e21 2).trans h2) hc (a := (xs (i + 1)))
  rw [e21] at M
  exact M.weaken (fun r G' z => ⟨_, _, z.1, z.2, chg_r qq mi hO (RS_carrier h2 hc) (fun j hj => (R_carrier_t h2 hc hj).trans (hb.z hj))⟩) (fun _ _ z => z)

set_option maxHeartbeats 2000000 in
theorem lc_load {D : va_G} {s0 : State} {mn : String} {nL : Nat} {ret : Option FieldType} {hh : List (Nat × Nat × Nat × Nat)} {l : Launch} {R : Room} {Z : ZT} {A : AT} {b0 L i : Nat} {xs : Nat → Int32} {cells slots m : Nat} {σ : Sg} (hl : l.stackTraces = false) (hA : AOK s0.heap.size A) (H : LH s0 R nL b0 L i xs cells slots) (hm9 : m ≤ 600) (iv : IV A m σ) (kk : ∀ σ2 : Sg, IV A (m + 1) σ2 → V D s0 RL mn cL_law nL ret hh l R Z 2081 (LO A b0 i) [] (HP A σ2) (cells + 24) (slots + 816)) : V D s0 RL mn cL_law nL ret hh l R Z 396 (LO A b0 i) [] (HP A σ) cells slots := by
  have iv9 := iv
  obtain ⟨nx, w, cn, h, sf, sv, rr, tl, tx, ft, T, c, q, mi, sb⟩ := iv
  have ew := c.1
  subst ew
  have hW := mi.1.wok
  have bo := mi.1.bo
  obtain ⟨hb, nh, nc, pl, ⟨h1, hn⟩, ⟨h2, hc⟩, ⟨h3, hp⟩, hd⟩ := mi.1
  obtain ⟨hnx, hx9, hcn, hc8⟩ := c.2.1
  have hO : (S_load (σ.1 5 0) (xs (i + 1))).1.1 = 0 → Ow (m + 1) (S_load (σ.1 5 0) (xs (i + 1))).2.2 := fun z => hO_cmd (q := 1) (a := (xs (i + 1))) (b := 0) (by omega) hb h1 hn h2 hc h3 hp hd z
  refine law_c1 (p := 396) (e2 := 3) (RR := fun k b σ2 => RDY A (m + 1) σ2 k b) hA H csh_L_142 cv_L_144 rfl (t_L_load hA (d := 10) (t_X7_load hA hl hnx hx9 hcn hc8 bo.2  (a := (xs (i + 1))) (C_cmd (q := 1) (x := (xs (i + 1))) (n := 0) (by omega) hb h1 hn h2 hc h3 hp).hne) (fun r G' z => ⟨_, _, z.2.1, z.2.2⟩) (fun E G' z => ⟨z.2.1, _, z.2.2⟩) (by decide)) (chg_q hA c q sb (fun z => (hO z).bo)) (fun k σ1 qq => ?_) (by decide) (by decide) (by decide) (by decide) dL_law_396 dL_law_397 dL_law_398 dL_law_400 dL_law_401 dL_law_402 dL_law_403 dL_law_404 dL_law_407 dL_law_409 dL_law_410 dL_law_411 dL_law_413 dL_law_414 dL_law_415 dL_law_416 dL_law_419 (fun k b σ2 hr => law_tail hA H hr dL_law_421 dL_law_422 dL_law_425 dL_law_427 dL_law_432 dL_law_434 dL_law_437 dL_law_438 dL_law_439 dL_law_440 dL_law_442 dL_law_443 dL_law_444 dL_law_449 (by decide) (kk σ2 hr.2.2.2))
  have e21 : σ1.1 21 0 = σ.1 5 0 := qq.1.1
  have M := t_X8_load (D := D) (s0 := s0) (l := l) (σ := σ1) hA qq.1.2.2.1.1 qq.1.2.2.1.2.1  (a := (xs (i + 1)))
  rw [e21] at M
  exact M.weaken (fun r G' z => ⟨_, _, z.1, z.2, chg_r qq mi hO (RS_cmd (q := 1) (x := (xs (i + 1))) (n := 0) hW (by omega) h1 hn hc h3 (by omega)) (fun j hj => (R_cmd_t (q := 1) (nh := nh) (x := (xs (i + 1))) (n := 0) hn hc (by omega : pl ≤ 8) hj).trans (hb.z hj))⟩) (fun _ _ z => z)

set_option maxHeartbeats 2000000 in
theorem lc_drive {D : va_G} {s0 : State} {mn : String} {nL : Nat} {ret : Option FieldType} {hh : List (Nat × Nat × Nat × Nat)} {l : Launch} {R : Room} {Z : ZT} {A : AT} {b0 L i : Nat} {xs : Nat → Int32} {cells slots m : Nat} {σ : Sg} (hl : l.stackTraces = false) (hA : AOK s0.heap.size A) (H : LH s0 R nL b0 L i xs cells slots) (hm9 : m ≤ 600) (iv : IV A m σ) (kk : ∀ σ2 : Sg, IV A (m + 1) σ2 → V D s0 RL mn cL_law nL ret hh l R Z 2081 (LO A b0 i) [] (HP A σ2) (cells + 24) (slots + 816)) : V D s0 RL mn cL_law nL ret hh l R Z 452 (LO A b0 i) [] (HP A σ) cells slots := by
  have iv9 := iv
  obtain ⟨nx, w, cn, h, sf, sv, rr, tl, tx, ft, T, c, q, mi, sb⟩ := iv
  have ew := c.1
  subst ew
  have hW := mi.1.wok
  have bo := mi.1.bo
  obtain ⟨hb, nh, nc, pl, ⟨h1, hn⟩, ⟨h2, hc⟩, ⟨h3, hp⟩, hd⟩ := mi.1
  obtain ⟨hnx, hx9, hcn, hc8⟩ := c.2.1
  have hO : (S_drive (σ.1 5 0) nh (xs (i + 1))).1.1 = 0 → Ow (m + 1) (S_drive (σ.1 5 0) nh (xs (i + 1))).2.2 := fun z => hO_cmd (q := 0) (a := (xs (i + 1))) (b := 0) (by omega) hb h1 hn h2 hc h3 hp hd z
  refine law_c1 (p := 452) (e2 := 3) (RR := fun k b σ2 => RDY A (m + 1) σ2 k b) hA H csh_L_145 cv_L_147 rfl (t_L_drive hA (d := 10) (t_X7_drive hA hl hnx hx9 hcn hc8 bo.2 h1 hn (a := (xs (i + 1))) (C_cmd (q := 0) (x := (xs (i + 1))) (n := 0) (by omega) hb h1 hn h2 hc h3 hp).hne) (fun r G' z => ⟨_, _, z.2.1, z.2.2⟩) (fun E G' z => ⟨z.2.1, _, z.2.2⟩) (by decide)) (chg_q hA c q sb (fun z => (hO z).bo)) (fun k σ1 qq => ?_) (by decide) (by decide) (by decide) (by decide) dL_law_452 dL_law_453 dL_law_454 dL_law_456 dL_law_457 dL_law_458 dL_law_459 dL_law_460 dL_law_463 dL_law_465 dL_law_466 dL_law_467 dL_law_469 dL_law_470 dL_law_471 dL_law_472 dL_law_475 (fun k b σ2 hr => law_tail hA H hr dL_law_477 dL_law_478 dL_law_481 dL_law_483 dL_law_488 dL_law_490 dL_law_493 dL_law_494 dL_law_495 dL_law_496 dL_law_498 dL_law_499 dL_law_500 dL_law_505 (by decide) (kk σ2 hr.2.2.2))
  have e21 : σ1.1 21 0 = σ.1 5 0 := qq.1.1
  have M := t_X8_drive (D := D) (s0 := s0) (l := l) (σ := σ1) hA qq.1.2.2.1.1 qq.1.2.2.1.2.1  (a := (xs (i + 1)))
  rw [e21] at M
  exact M.weaken (fun r G' z => ⟨_, _, z.1, z.2, chg_r qq mi hO (RS_cmd (q := 0) (x := (xs (i + 1))) (n := 0) hW (by omega) h1 hn hc h3 (by omega)) (fun j hj => (R_cmd_t (q := 0) (nh := nh) (x := (xs (i + 1))) (n := 0) hn hc (by omega : pl ≤ 8) hj).trans (hb.z hj))⟩) (fun _ _ z => z)

set_option maxHeartbeats 2000000 in
theorem lc_carry {D : va_G} {s0 : State} {mn : String} {nL : Nat} {ret : Option FieldType} {hh : List (Nat × Nat × Nat × Nat)} {l : Launch} {R : Room} {Z : ZT} {A : AT} {b0 L i : Nat} {xs : Nat → Int32} {cells slots m : Nat} {σ : Sg} (hl : l.stackTraces = false) (hA : AOK s0.heap.size A) (H : LH s0 R nL b0 L i xs cells slots) (hm9 : m ≤ 600) (iv : IV A m σ) (kk : ∀ σ2 : Sg, IV A (m + 1) σ2 → V D s0 RL mn cL_law nL ret hh l R Z 2081 (LO A b0 i) [] (HP A σ2) (cells + 24) (slots + 816)) : V D s0 RL mn cL_law nL ret hh l R Z 508 (LO A b0 i) [] (HP A σ) cells slots := by
  have iv9 := iv
  obtain ⟨nx, w, cn, h, sf, sv, rr, tl, tx, ft, T, c, q, mi, sb⟩ := iv
  have ew := c.1
  subst ew
  have hW := mi.1.wok
  have bo := mi.1.bo
  obtain ⟨hb, nh, nc, pl, ⟨h1, hn⟩, ⟨h2, hc⟩, ⟨h3, hp⟩, hd⟩ := mi.1
  obtain ⟨hnx, hx9, hcn, hc8⟩ := c.2.1
  have hO : (S_carry (σ.1 5 0) nc pl (xs (i + 1)) (xs (i + 2))).1.1 = 0 → Ow (m + 1) (S_carry (σ.1 5 0) nc pl (xs (i + 1)) (xs (i + 2))).2.2 := fun z => hO_cmd (q := 2) (a := (xs (i + 1))) (b := (xs (i + 2))) (by omega) hb h1 hn h2 hc h3 hp hd z
  refine law_c2 (p := 508) (e2 := 4) (RR := fun k b σ2 => RDY A (m + 1) σ2 k b) hA H csh_L_148 cv_L_150 rfl (t_L_carry hA (d := 10) (t_X7_carry hA hl hnx hx9 hcn hc8 bo.2 h1 hn h2 hc h3 hp (a := (xs (i + 1))) (b := (xs (i + 2))) (C_cmd (q := 2) (x := (xs (i + 1))) (n := (xs (i + 2))) (by omega) hb h1 hn h2 hc h3 hp).hne) (fun r G' z => ⟨_, _, z.2.1, z.2.2⟩) (fun E G' z => ⟨z.2.1, _, z.2.2⟩) (by decide)) (chg_q hA c q sb (fun z => (hO z).bo)) (fun k σ1 qq => ?_) (by decide) (by decide) (by decide) (by decide) dL_law_508 dL_law_509 dL_law_510 dL_law_512 dL_law_513 dL_law_514 dL_law_515 dL_law_516 dL_law_518 dL_law_519 dL_law_520 dL_law_521 dL_law_522 dL_law_525 dL_law_527 dL_law_528 dL_law_529 dL_law_531 dL_law_532 dL_law_533 dL_law_534 dL_law_535 dL_law_537 dL_law_538 dL_law_539 dL_law_540 dL_law_543 (fun k b σ2 hr => law_tail hA H hr dL_law_545 dL_law_546 dL_law_549 dL_law_551 dL_law_556 dL_law_558 dL_law_561 dL_law_562 dL_law_563 dL_law_564 dL_law_566 dL_law_567 dL_law_568 dL_law_573 (by decide) (kk σ2 hr.2.2.2))
  have e21 : σ1.1 21 0 = σ.1 5 0 := qq.1.1
  have M := t_X8_carry (D := D) (s0 := s0) (l := l) (σ := σ1) hA qq.1.2.2.1.1 qq.1.2.2.1.2.1 ((congrFun e21 2).trans h2) hc ((congrFun e21 3).trans h3) (by omega) (fun c9 hc9 => by rw [e21]; exact (hW.tir (i := 0) (by omega) (by decide)).1) (fun h9 hh9 => by rw [e21]; exact hW.dog hh9) (fun h9 hh9 => by rw [e21]; exact hW.bon hh9) (a := (xs (i + 1))) (b := (xs (i + 2)))
  rw [e21] at M
  exact M.weaken (fun r G' z => ⟨_, _, z.1, z.2, chg_r qq mi hO (RS_cmd (q := 2) (x := (xs (i + 1))) (n := (xs (i + 2))) hW (by omega) h1 hn hc h3 (by omega)) (fun j hj => (R_cmd_t (q := 2) (nh := nh) (x := (xs (i + 1))) (n := (xs (i + 2))) hn hc (by omega : pl ≤ 8) hj).trans (hb.z hj))⟩) (fun _ _ z => z)

set_option maxHeartbeats 2000000 in
theorem lc_bone {D : va_G} {s0 : State} {mn : String} {nL : Nat} {ret : Option FieldType} {hh : List (Nat × Nat × Nat × Nat)} {l : Launch} {R : Room} {Z : ZT} {A : AT} {b0 L i : Nat} {xs : Nat → Int32} {cells slots m : Nat} {σ : Sg} (hl : l.stackTraces = false) (hA : AOK s0.heap.size A) (H : LH s0 R nL b0 L i xs cells slots) (hm9 : m ≤ 600) (iv : IV A m σ) (kk : ∀ σ2 : Sg, IV A (m + 1) σ2 → V D s0 RL mn cL_law nL ret hh l R Z 2081 (LO A b0 i) [] (HP A σ2) (cells + 24) (slots + 816)) : V D s0 RL mn cL_law nL ret hh l R Z 576 (LO A b0 i) [] (HP A σ) cells slots := by
  have iv9 := iv
  obtain ⟨nx, w, cn, h, sf, sv, rr, tl, tx, ft, T, c, q, mi, sb⟩ := iv
  have ew := c.1
  subst ew
  have hW := mi.1.wok
  have bo := mi.1.bo
  obtain ⟨hb, nh, nc, pl, ⟨h1, hn⟩, ⟨h2, hc⟩, ⟨h3, hp⟩, hd⟩ := mi.1
  obtain ⟨hnx, hx9, hcn, hc8⟩ := c.2.1
  have hO : (S_bone (σ.1 5 0) pl).1.1 = 0 → Ow (m + 1) (S_bone (σ.1 5 0) pl).2.2 := fun z => hO_cmd (q := 3) (a := 0) (b := 0) (by omega) hb h1 hn h2 hc h3 hp hd z
  refine law_c0 (p := 576) (e2 := 3) (RR := fun k b σ2 => RDY A (m + 1) σ2 k b) hA H csh_L_151 cv_L_154 rfl (t_L_bone hA (d := 10) (t_X7_bone hA hl hnx hx9 hcn hc8 bo.2 h1 hn h3 hp (C_cmd (q := 3) (x := 0) (n := 0) (by omega) hb h1 hn h2 hc h3 hp).hne) (fun r G' z => ⟨_, _, z.2.1, z.2.2⟩) (fun E G' z => ⟨z.2.1, _, z.2.2⟩) (by decide)) (chg_q hA c q sb (fun z => (hO z).bo)) (fun k σ1 qq => ?_) (by decide) (by decide) (by decide) (by decide) dL_law_576 dL_law_577 dL_law_578 dL_law_581 dL_law_583 dL_law_584 dL_law_587 (fun k b σ2 hr => law_tail hA H hr dL_law_589 dL_law_590 dL_law_593 dL_law_595 dL_law_600 dL_law_602 dL_law_605 dL_law_606 dL_law_607 dL_law_608 dL_law_610 dL_law_611 dL_law_612 dL_law_617 (by decide) (kk σ2 hr.2.2.2))
  have e21 : σ1.1 21 0 = σ.1 5 0 := qq.1.1
  have M := t_X8_bone (D := D) (s0 := s0) (l := l) (σ := σ1) hA qq.1.2.2.1.1 qq.1.2.2.1.2.1 ((congrFun e21 3).trans h3) (by omega)
  rw [e21] at M
  exact M.weaken (fun r G' z => ⟨_, _, z.1, z.2, chg_r qq mi hO (RS_cmd (q := 3) (x := 0) (n := 0) hW (by omega) h1 hn hc h3 (by omega)) (fun j hj => (R_cmd_t (q := 3) (nh := nh) (x := 0) (n := 0) hn hc (by omega : pl ≤ 8) hj).trans (hb.z hj))⟩) (fun _ _ z => z)

set_option maxHeartbeats 2000000 in
theorem lc_bones {D : va_G} {s0 : State} {mn : String} {nL : Nat} {ret : Option FieldType} {hh : List (Nat × Nat × Nat × Nat)} {l : Launch} {R : Room} {Z : ZT} {A : AT} {b0 L i : Nat} {xs : Nat → Int32} {cells slots m : Nat} {σ : Sg} (hl : l.stackTraces = false) (hA : AOK s0.heap.size A) (H : LH s0 R nL b0 L i xs cells slots) (hm9 : m ≤ 600) (iv : IV A m σ) (kk : ∀ σ2 : Sg, IV A (m + 1) σ2 → V D s0 RL mn cL_law nL ret hh l R Z 2081 (LO A b0 i) [] (HP A σ2) (cells + 24) (slots + 816)) : V D s0 RL mn cL_law nL ret hh l R Z 620 (LO A b0 i) [] (HP A σ) cells slots := by
  have iv9 := iv
  obtain ⟨nx, w, cn, h, sf, sv, rr, tl, tx, ft, T, c, q, mi, sb⟩ := iv
  have ew := c.1
  subst ew
  have hW := mi.1.wok
  have bo := mi.1.bo
  obtain ⟨hb, nh, nc, pl, ⟨h1, hn⟩, ⟨h2, hc⟩, ⟨h3, hp⟩, hd⟩ := mi.1
  obtain ⟨hnx, hx9, hcn, hc8⟩ := c.2.1
  have hO : (S_bones (σ.1 5 0) (xs (i + 1))).1.1 = 0 → Ow (m + 1) (S_bones (σ.1 5 0) (xs (i + 1))).2.2 := fun z => hO_bones (by omega) hW h1 hn hd z
  refine law_c1 (p := 620) (e2 := 3) (RR := fun k b σ2 => RDY A (m + 1) σ2 k b) hA H csh_L_155 cv_L_157 rfl (t_L_bones hA (d := 10) (t_X7_bones hA hl hnx hx9 hcn hc8 bo.2  (a := (xs (i + 1))) (C_bones (by omega) hW).hne) (fun r G' z => ⟨_, _, z.2.1, z.2.2⟩) (fun E G' z => ⟨z.2.1, _, z.2.2⟩) (by decide)) (chg_q hA c q sb (fun z => (hO z).bo)) (fun k σ1 qq => ?_) (by decide) (by decide) (by decide) (by decide) dL_law_620 dL_law_621 dL_law_622 dL_law_624 dL_law_625 dL_law_626 dL_law_627 dL_law_628 dL_law_631 dL_law_633 dL_law_634 dL_law_635 dL_law_637 dL_law_638 dL_law_639 dL_law_640 dL_law_643 (fun k b σ2 hr => law_tail hA H hr dL_law_645 dL_law_646 dL_law_649 dL_law_651 dL_law_656 dL_law_658 dL_law_661 dL_law_662 dL_law_663 dL_law_664 dL_law_666 dL_law_667 dL_law_668 dL_law_673 (by decide) (kk σ2 hr.2.2.2))
  have e21 : σ1.1 21 0 = σ.1 5 0 := qq.1.1
  have M := t_X8_bones (D := D) (s0 := s0) (l := l) (σ := σ1) hA qq.1.2.2.1.1 qq.1.2.2.1.2.1  (a := (xs (i + 1)))
  rw [e21] at M
  exact M.weaken (fun r G' z => ⟨_, _, z.1, z.2, chg_r qq mi hO (RS_bones) (fun j hj => (R_bones_t hj).trans (hb.z hj))⟩) (fun _ _ z => z)

set_option maxHeartbeats 2000000 in
theorem lc_mop {D : va_G} {s0 : State} {mn : String} {nL : Nat} {ret : Option FieldType} {hh : List (Nat × Nat × Nat × Nat)} {l : Launch} {R : Room} {Z : ZT} {A : AT} {b0 L i : Nat} {xs : Nat → Int32} {cells slots m : Nat} {σ : Sg} (hl : l.stackTraces = false) (hA : AOK s0.heap.size A) (H : LH s0 R nL b0 L i xs cells slots) (hm9 : m ≤ 600) (iv : IV A m σ) (kk : ∀ σ2 : Sg, IV A (m + 1) σ2 → V D s0 RL mn cL_law nL ret hh l R Z 2081 (LO A b0 i) [] (HP A σ2) (cells + 24) (slots + 816)) : V D s0 RL mn cL_law nL ret hh l R Z 676 (LO A b0 i) [] (HP A σ) cells slots := by
  have iv9 := iv
  obtain ⟨nx, w, cn, h, sf, sv, rr, tl, tx, ft, T, c, q, mi, sb⟩ := iv
  have ew := c.1
  subst ew
  have hW := mi.1.wok
  have bo := mi.1.bo
  obtain ⟨hb, nh, nc, pl, ⟨h1, hn⟩, ⟨h2, hc⟩, ⟨h3, hp⟩, hd⟩ := mi.1
  obtain ⟨hnx, hx9, hcn, hc8⟩ := c.2.1
  have hO : (S_mop (σ.1 5 0) nc pl (xs (i + 1))).1.1 = 0 → Ow (m + 1) (S_mop (σ.1 5 0) nc pl (xs (i + 1))).2.2 := fun z => hO_cmd (q := 4) (a := (xs (i + 1))) (b := 0) (by omega) hb h1 hn h2 hc h3 hp hd z
  refine law_c1 (p := 676) (e2 := 3) (RR := fun k b σ2 => RDY A (m + 1) σ2 k b) hA H csh_L_158 cv_L_160 rfl (t_L_mop hA (d := 10) (t_X7_mop hA hl hnx hx9 hcn hc8 bo.2 h1 hn h2 hc h3 hp (a := (xs (i + 1))) (C_cmd (q := 4) (x := (xs (i + 1))) (n := 0) (by omega) hb h1 hn h2 hc h3 hp).hne) (fun r G' z => ⟨_, _, z.2.1, z.2.2⟩) (fun E G' z => ⟨z.2.1, _, z.2.2⟩) (by decide)) (chg_q hA c q sb (fun z => (hO z).bo)) (fun k σ1 qq => ?_) (by decide) (by decide) (by decide) (by decide) dL_law_676 dL_law_677 dL_law_678 dL_law_680 dL_law_681 dL_law_682 dL_law_683 dL_law_684 dL_law_687 dL_law_689 dL_law_690 dL_law_691 dL_law_693 dL_law_694 dL_law_695 dL_law_696 dL_law_699 (fun k b σ2 hr => law_tail hA H hr dL_law_701 dL_law_702 dL_law_705 dL_law_707 dL_law_712 dL_law_714 dL_law_717 dL_law_718 dL_law_719 dL_law_720 dL_law_722 dL_law_723 dL_law_724 dL_law_729 (by decide) (kk σ2 hr.2.2.2))
  have e21 : σ1.1 21 0 = σ.1 5 0 := qq.1.1
  have M := t_X8_mop (D := D) (s0 := s0) (l := l) (σ := σ1) hA qq.1.2.2.1.1 qq.1.2.2.1.2.1 ((congrFun e21 2).trans h2) hc ((congrFun e21 3).trans h3) (by omega) (a := (xs (i + 1)))
  rw [e21] at M
  exact M.weaken (fun r G' z => ⟨_, _, z.1, z.2, chg_r qq mi hO (RS_cmd (q := 4) (x := (xs (i + 1))) (n := 0) hW (by omega) h1 hn hc h3 (by omega)) (fun j hj => (R_cmd_t (q := 4) (nh := nh) (x := (xs (i + 1))) (n := 0) hn hc (by omega : pl ≤ 8) hj).trans (hb.z hj))⟩) (fun _ _ z => z)

set_option maxHeartbeats 2000000 in
theorem lc_pay {D : va_G} {s0 : State} {mn : String} {nL : Nat} {ret : Option FieldType} {hh : List (Nat × Nat × Nat × Nat)} {l : Launch} {R : Room} {Z : ZT} {A : AT} {b0 L i : Nat} {xs : Nat → Int32} {cells slots m : Nat} {σ : Sg} (hl : l.stackTraces = false) (hA : AOK s0.heap.size A) (H : LH s0 R nL b0 L i xs cells slots) (hm9 : m ≤ 600) (iv : IV A m σ) (kk : ∀ σ2 : Sg, IV A (m + 1) σ2 → V D s0 RL mn cL_law nL ret hh l R Z 2081 (LO A b0 i) [] (HP A σ2) (cells + 24) (slots + 816)) : V D s0 RL mn cL_law nL ret hh l R Z 732 (LO A b0 i) [] (HP A σ) cells slots := by
  have iv9 := iv
  obtain ⟨nx, w, cn, h, sf, sv, rr, tl, tx, ft, T, c, q, mi, sb⟩ := iv
  have ew := c.1
  subst ew
  have hW := mi.1.wok
  have bo := mi.1.bo
  obtain ⟨hb, nh, nc, pl, ⟨h1, hn⟩, ⟨h2, hc⟩, ⟨h3, hp⟩, hd⟩ := mi.1
  obtain ⟨hnx, hx9, hcn, hc8⟩ := c.2.1
  have hO : (S_pay (σ.1 5 0) nh (xs (i + 1)) (xs (i + 2))).1.1 = 0 → Ow (m + 1) (S_pay (σ.1 5 0) nh (xs (i + 1)) (xs (i + 2))).2.2 := fun z => hO_cmd (q := 5) (a := (xs (i + 1))) (b := (xs (i + 2))) (by omega) hb h1 hn h2 hc h3 hp hd z
  refine law_c2 (p := 732) (e2 := 3) (RR := fun k b σ2 => RDY A (m + 1) σ2 k b) hA H csh_L_161 cv_L_163 rfl (t_L_pay hA (d := 10) (t_X7_pay hA hl hnx hx9 hcn hc8 bo.2 h1 hn (a := (xs (i + 1))) (b := (xs (i + 2))) (C_cmd (q := 5) (x := (xs (i + 1))) (n := (xs (i + 2))) (by omega) hb h1 hn h2 hc h3 hp).hne) (fun r G' z => ⟨_, _, z.2.1, z.2.2⟩) (fun E G' z => ⟨z.2.1, _, z.2.2⟩) (by decide)) (chg_q hA c q sb (fun z => (hO z).bo)) (fun k σ1 qq => ?_) (by decide) (by decide) (by decide) (by decide) dL_law_732 dL_law_733 dL_law_734 dL_law_736 dL_law_737 dL_law_738 dL_law_739 dL_law_740 dL_law_742 dL_law_743 dL_law_744 dL_law_745 dL_law_746 dL_law_749 dL_law_751 dL_law_752 dL_law_753 dL_law_755 dL_law_756 dL_law_757 dL_law_758 dL_law_759 dL_law_761 dL_law_762 dL_law_763 dL_law_764 dL_law_767 (fun k b σ2 hr => law_tail hA H hr dL_law_769 dL_law_770 dL_law_773 dL_law_775 dL_law_780 dL_law_782 dL_law_785 dL_law_786 dL_law_787 dL_law_788 dL_law_790 dL_law_791 dL_law_792 dL_law_797 (by decide) (kk σ2 hr.2.2.2))
  have e21 : σ1.1 21 0 = σ.1 5 0 := qq.1.1
  have M := t_X8_pay (D := D) (s0 := s0) (l := l) (σ := σ1) hA qq.1.2.2.1.1 qq.1.2.2.1.2.1 ((congrFun e21 1).trans h1) hn (a := (xs (i + 1))) (b := (xs (i + 2)))
  rw [e21] at M
  exact M.weaken (fun r G' z => ⟨_, _, z.1, z.2, chg_r qq mi hO (RS_cmd (q := 5) (x := (xs (i + 1))) (n := (xs (i + 2))) hW (by omega) h1 hn hc h3 (by omega)) (fun j hj => (R_cmd_t (q := 5) (nh := nh) (x := (xs (i + 1))) (n := (xs (i + 2))) hn hc (by omega : pl ≤ 8) hj).trans (hb.z hj))⟩) (fun _ _ z => z)

set_option maxHeartbeats 2000000 in
theorem lc_shoe {D : va_G} {s0 : State} {mn : String} {nL : Nat} {ret : Option FieldType} {hh : List (Nat × Nat × Nat × Nat)} {l : Launch} {R : Room} {Z : ZT} {A : AT} {b0 L i : Nat} {xs : Nat → Int32} {cells slots m : Nat} {σ : Sg} (hl : l.stackTraces = false) (hA : AOK s0.heap.size A) (H : LH s0 R nL b0 L i xs cells slots) (hm9 : m ≤ 600) (iv : IV A m σ) (kk : ∀ σ2 : Sg, IV A (m + 1) σ2 → V D s0 RL mn cL_law nL ret hh l R Z 2081 (LO A b0 i) [] (HP A σ2) (cells + 24) (slots + 816)) : V D s0 RL mn cL_law nL ret hh l R Z 800 (LO A b0 i) [] (HP A σ) cells slots := by
  have iv9 := iv
  obtain ⟨nx, w, cn, h, sf, sv, rr, tl, tx, ft, T, c, q, mi, sb⟩ := iv
  have ew := c.1
  subst ew
  have hW := mi.1.wok
  have bo := mi.1.bo
  obtain ⟨hb, nh, nc, pl, ⟨h1, hn⟩, ⟨h2, hc⟩, ⟨h3, hp⟩, hd⟩ := mi.1
  obtain ⟨hnx, hx9, hcn, hc8⟩ := c.2.1
  have hO : (S_shoe (σ.1 5 0) (xs (i + 1))).1.1 = 0 → Ow (m + 1) (S_shoe (σ.1 5 0) (xs (i + 1))).2.2 := fun z => hO_cmd (q := 6) (a := (xs (i + 1))) (b := 0) (by omega) hb h1 hn h2 hc h3 hp hd z
  refine law_c1 (p := 800) (e2 := 3) (RR := fun k b σ2 => RDY A (m + 1) σ2 k b) hA H csh_L_164 cv_L_166 rfl (t_L_shoe hA (d := 10) (t_X7_shoe hA hl hnx hx9 hcn hc8 bo.2  (a := (xs (i + 1))) (C_cmd (q := 6) (x := (xs (i + 1))) (n := 0) (by omega) hb h1 hn h2 hc h3 hp).hne) (fun r G' z => ⟨_, _, z.2.1, z.2.2⟩) (fun E G' z => ⟨z.2.1, _, z.2.2⟩) (by decide)) (chg_q hA c q sb (fun z => (hO z).bo)) (fun k σ1 qq => ?_) (by decide) (by decide) (by decide) (by decide) dL_law_800 dL_law_801 dL_law_802 dL_law_804 dL_law_805 dL_law_806 dL_law_807 dL_law_808 dL_law_811 dL_law_813 dL_law_814 dL_law_815 dL_law_817 dL_law_818 dL_law_819 dL_law_820 dL_law_823 (fun k b σ2 hr => law_tail hA H hr dL_law_825 dL_law_826 dL_law_829 dL_law_831 dL_law_836 dL_law_838 dL_law_841 dL_law_842 dL_law_843 dL_law_844 dL_law_846 dL_law_847 dL_law_848 dL_law_853 (by decide) (kk σ2 hr.2.2.2))
  have e21 : σ1.1 21 0 = σ.1 5 0 := qq.1.1
  have M := t_X8_shoe (D := D) (s0 := s0) (l := l) (σ := σ1) hA qq.1.2.2.1.1 qq.1.2.2.1.2.1  (a := (xs (i + 1)))
  rw [e21] at M
  exact M.weaken (fun r G' z => ⟨_, _, z.1, z.2, chg_r qq mi hO (RS_cmd (q := 6) (x := (xs (i + 1))) (n := 0) hW (by omega) h1 hn hc h3 (by omega)) (fun j hj => (R_cmd_t (q := 6) (nh := nh) (x := (xs (i + 1))) (n := 0) hn hc (by omega : pl ≤ 8) hj).trans (hb.z hj))⟩) (fun _ _ z => z)

set_option maxHeartbeats 2000000 in
theorem lc_days {D : va_G} {s0 : State} {mn : String} {nL : Nat} {ret : Option FieldType} {hh : List (Nat × Nat × Nat × Nat)} {l : Launch} {R : Room} {Z : ZT} {A : AT} {b0 L i : Nat} {xs : Nat → Int32} {cells slots m : Nat} {σ : Sg} (hl : l.stackTraces = false) (hA : AOK s0.heap.size A) (H : LH s0 R nL b0 L i xs cells slots) (hm9 : m ≤ 600) (iv : IV A m σ) (kk : ∀ σ2 : Sg, IV A (m + 1) σ2 → V D s0 RL mn cL_law nL ret hh l R Z 2081 (LO A b0 i) [] (HP A σ2) (cells + 24) (slots + 816)) : V D s0 RL mn cL_law nL ret hh l R Z 856 (LO A b0 i) [] (HP A σ) cells slots := by
  have iv9 := iv
  obtain ⟨nx, w, cn, h, sf, sv, rr, tl, tx, ft, T, c, q, mi, sb⟩ := iv
  have ew := c.1
  subst ew
  have hW := mi.1.wok
  have bo := mi.1.bo
  obtain ⟨hb, nh, nc, pl, ⟨h1, hn⟩, ⟨h2, hc⟩, ⟨h3, hp⟩, hd⟩ := mi.1
  obtain ⟨hnx, hx9, hcn, hc8⟩ := c.2.1
  have hO : (S_days (σ.1 5 0) nh nc (xs (i + 1))).1.1 = 0 → Ow (m + 1) (S_days (σ.1 5 0) nh nc (xs (i + 1))).2.2 := fun z => hO_cmd (q := 7) (a := (xs (i + 1))) (b := 0) (by omega) hb h1 hn h2 hc h3 hp hd z
  refine law_c1 (p := 856) (e2 := 3) (RR := fun k b σ2 => RDY A (m + 1) σ2 k b) hA H csh_L_167 cv_L_169 rfl (t_L_days hA (d := 10) (t_X7_days hA hl hnx hx9 hcn hc8 bo.2 h1 hn h2 hc (a := (xs (i + 1))) (C_cmd (q := 7) (x := (xs (i + 1))) (n := 0) (by omega) hb h1 hn h2 hc h3 hp).hne) (fun r G' z => ⟨_, _, z.2.1, z.2.2⟩) (fun E G' z => ⟨z.2.1, _, z.2.2⟩) (by decide)) (chg_q hA c q sb (fun z => (hO z).bo)) (fun k σ1 qq => ?_) (by decide) (by decide) (by decide) (by decide) dL_law_856 dL_law_857 dL_law_858 dL_law_860 dL_law_861 dL_law_862 dL_law_863 dL_law_864 dL_law_867 dL_law_869 dL_law_870 dL_law_871 dL_law_873 dL_law_874 dL_law_875 dL_law_876 dL_law_879 (fun k b σ2 hr => law_tail hA H hr dL_law_881 dL_law_882 dL_law_885 dL_law_887 dL_law_892 dL_law_894 dL_law_897 dL_law_898 dL_law_899 dL_law_900 dL_law_902 dL_law_903 dL_law_904 dL_law_909 (by decide) (kk σ2 hr.2.2.2))
  have e21 : σ1.1 21 0 = σ.1 5 0 := qq.1.1
  have M := t_X8_days (D := D) (s0 := s0) (l := l) (σ := σ1) hA qq.1.2.2.1.1 qq.1.2.2.1.2.1 ((congrFun e21 1).trans h1) hn ((congrFun e21 2).trans h2) hc (a := (xs (i + 1)))
  rw [e21] at M
  exact M.weaken (fun r G' z => ⟨_, _, z.1, z.2, chg_r qq mi hO (RS_cmd (q := 7) (x := (xs (i + 1))) (n := 0) hW (by omega) h1 hn hc h3 (by omega)) (fun j hj => (R_cmd_t (q := 7) (nh := nh) (x := (xs (i + 1))) (n := 0) hn hc (by omega : pl ≤ 8) hj).trans (hb.z hj))⟩) (fun _ _ z => z)

