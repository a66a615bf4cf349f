set_option maxHeartbeats 4000000 in
set_option maxRecDepth 100000 in
theorem law_word {p : Program} (l : Launch) {e : Env} {s : State} {m : MethodId} {below : List Frame} {meth : Method} {c : Code} {H : Heap} {locs : List Loc} {cells slots : Nat} {Q : State → Prop} {ls : Array Slot} {bs L lo : Nat} {xs : Nat → Int32} {D : va_G} {cI cO cL : ClassId} {A : Nat → Prop} {a b : Nat → Nat} {g : Nat → Int64} {w w' : va_W} (C : Cx p s m c #[Value.ref bs] cL_law 7 wsL_law RL D (TY cI cO cL)) (hA : ∀ q : Nat, s.heap.size ≤ q → A q) (hX : va_X bs L xs s s.heap) (hbl : bs < s.heap.size) (hbA : ¬ A bs) (hL : L ≤ 3584) (i : Nat) (hi : i + 7 ≤ L) (hcs : cells + 3 ≤ 601024) (hss : slots + 1700 ≤ 7293034) (hR : RelW cI cO a b w w') (G : Wd A s.heap D (w ++ (w' ++ lgW cL lo g)) H locs) (hl : lv_has ls 7 [(0, .ref bs), (1, .ref (a 0)), (2, .ref (b 0)), (3, .ref lo), (4, .int (nI i))])
    (NEXT : ∀ (w1 w2 : va_W) (g' : Nat → Int64) (H1 : Heap) (locs1 : List Loc) (ls1 : Array Slot), RelW cI cO a b w1 w2 → Wd A s.heap D (w1 ++ (w2 ++ lgW cL lo g')) H1 locs1 → lv_has ls1 7 [(0, .ref bs), (1, .ref (a 0)), (2, .ref (b 0)), (3, .ref lo), (4, .int (nI i))] → W p l e room_1 s m #[Value.ref bs] below meth c H1 locs1 (cells + 3) (slots + 1700) Q (F0 m 964 ls1 [])) : W p l e room_1 s m #[Value.ref bs] below meth c H locs cells slots Q (F0 m 238 ls []) := by
  obtain ⟨ca, ia, n, O, I, J, F, E, K, G0, I', J', F', G', rfl, rfl, h⟩ := hR
  obtain ⟨⟨hx, hb, hml, hown, hts⟩, hK, hN⟩ := id C
  refine lv_aload_n hx hb dL_law_238 rfl (lv_at hl 1 rfl) ?_
  refine lv_aload_n hx hb dL_law_239 rfl (lv_at hl 0 rfl) ?_
  refine lv_iload hx hb dL_law_240 (lv_at hl 4 rfl) ?_
  refine lv_iconst (v := (nI (1))) hx hb dL_law_242 (by decide) ?_
  refine r_iadd hx hb dL_law_243 ?_
  refine r_sld C hX hbl hbA G (j := i + 1) rfl (by omega) (by omega) dL_law_244 ?_
  refine lv_aload_n hx hb dL_law_245 rfl (lv_at hl 0 rfl) ?_
  refine lv_iload hx hb dL_law_246 (lv_at hl 4 rfl) ?_
  refine lv_iconst (v := (nI (2))) hx hb dL_law_248 (by decide) ?_
  refine r_iadd hx hb dL_law_249 ?_
  refine r_sld C hX hbl hbA G (j := i + 2) rfl (by omega) (by omega) dL_law_250 ?_
  refine r_aiL G hA (r_rV (na := 2) (As := [.int (xs (i + 1)), .int (xs (i + 2))]) (rest := []) C G.left (c_X6_word l D cI cO cL a ca ia n O I J F E K G0 (xs (i + 1)) (xs (i + 2)) h.b3 h.hO h.hin h.hRm h.hK0 h.hR4) gL_law_X6_word rfl (by decide +kernel) ⟨Nat.le_of_ble_eq_true rfl, Nat.le_of_ble_eq_true rfl⟩ 0 rfl rfl rfl hl.1 rfl (Nat.le_of_ble_eq_true rfl) dL_law_251 ⟨by show cells + 0 ≤ 601024; omega, by show slots + 0 ≤ 7293034; omega⟩) (fun r1 w1 H locs hp1 G => ?_)
  have G := G.swap
  refine lv_aload_n hx hb dL_law_254 rfl (lv_at hl 2 rfl) ?_
  refine lv_aload_n hx hb dL_law_255 rfl (lv_at hl 0 rfl) ?_
  refine lv_iload hx hb dL_law_256 (lv_at hl 4 rfl) ?_
  refine lv_iconst (v := (nI (1))) hx hb dL_law_258 (by decide) ?_
  refine r_iadd hx hb dL_law_259 ?_
  refine r_sld C hX hbl hbA G (j := i + 1) rfl (by omega) (by omega) dL_law_260 ?_
  refine lv_aload_n hx hb dL_law_261 rfl (lv_at hl 0 rfl) ?_
  refine lv_iload hx hb dL_law_262 (lv_at hl 4 rfl) ?_
  refine lv_iconst (v := (nI (2))) hx hb dL_law_264 (by decide) ?_
  refine r_iadd hx hb dL_law_265 ?_
  refine r_sld C hX hbl hbA G (j := i + 2) rfl (by omega) (by omega) dL_law_266 ?_
  refine r_aiL G hA (r_rV (na := 2) (As := [.int (xs (i + 1)), .int (xs (i + 2))]) (rest := [.int (r1)]) C G.left (c_X7_word l D cI cO cL b I' J' F' G' (xs (i + 1)) (xs (i + 2)) h.m1 h.mL h.mKd h.mWw) gL_law_X7_word rfl (by decide +kernel) ⟨Nat.le_of_ble_eq_true rfl, Nat.le_of_ble_eq_true rfl⟩ 0 rfl rfl rfl hl.1 rfl (Nat.le_of_ble_eq_true rfl) dL_law_267 ⟨by show cells + 0 + 0 ≤ 601024; omega, by show slots + 0 + 0 ≤ 7293034; omega⟩) (fun r2 w2 H locs hp2 G => ?_)
  have G := G.swap
  obtain ⟨er, hR2⟩ := sim_word h hp1 hp2
  refine lv_icmp_eq (tgt := 964) hx hb dL_law_270 (by decide) (fun _ => ?_) (fun cq => absurd er cq)
  refine W.widen (k := cells + 3) (n := slots + 1700) (by show cells + 0 + 0 + 0 ≤ cells + 3; omega) (by show slots + 0 + 0 + 0 ≤ slots + 1700; omega) ?_
  exact NEXT _ _ _ _ _ _ hR2 G hl
set_option maxHeartbeats 4000000 in
set_option maxRecDepth 100000 in
theorem law_paint {p : Program} (l : Launch) {e : Env} {s : State} {m : MethodId} {below : List Frame} {meth : Method} {c : Code} {H : Heap} {locs : List Loc} {cells slots : Nat} {Q : State → Prop} {ls : Array Slot} {bs L lo : Nat} {xs : Nat → Int32} {D : va_G} {cI cO cL : ClassId} {A : Nat → Prop} {a b : Nat → Nat} {g : Nat → Int64} {w w' : va_W} (C : Cx p s m c #[Value.ref bs] cL_law 7 wsL_law RL D (TY cI cO cL)) (hA : ∀ q : Nat, s.heap.size ≤ q → A q) (hX : va_X bs L xs s s.heap) (hbl : bs < s.heap.size) (hbA : ¬ A bs) (hL : L ≤ 3584) (i : Nat) (hi : i + 7 ≤ L) (hcs : cells + 3 ≤ 601024) (hss : slots + 1700 ≤ 7293034) (hR : RelW cI cO a b w w') (G : Wd A s.heap D (w ++ (w' ++ lgW cL lo g)) H locs) (hl : lv_has ls 7 [(0, .ref bs), (1, .ref (a 0)), (2, .ref (b 0)), (3, .ref lo), (4, .int (nI i))])
    (NEXT : ∀ (w1 w2 : va_W) (g' : Nat → Int64) (H1 : Heap) (locs1 : List Loc) (ls1 : Array Slot), RelW cI cO a b w1 w2 → Wd A s.heap D (w1 ++ (w2 ++ lgW cL lo g')) H1 locs1 → lv_has ls1 7 [(0, .ref bs), (1, .ref (a 0)), (2, .ref (b 0)), (3, .ref lo), (4, .int (nI i))] → W p l e room_1 s m #[Value.ref bs] below meth c H1 locs1 (cells + 3) (slots + 1700) Q (F0 m 964 ls1 [])) : W p l e room_1 s m #[Value.ref bs] below meth c H locs cells slots Q (F0 m 275 ls []) := by
  obtain ⟨ca, ia, n, O, I, J, F, E, K, G0, I', J', F', G', rfl, rfl, h⟩ := hR
  obtain ⟨⟨hx, hb, hml, hown, hts⟩, hK, hN⟩ := id C
  refine lv_aload_n hx hb dL_law_275 rfl (lv_at hl 1 rfl) ?_
  refine lv_aload_n hx hb dL_law_276 rfl (lv_at hl 0 rfl) ?_
  refine lv_iload hx hb dL_law_277 (lv_at hl 4 rfl) ?_
  refine lv_iconst (v := (nI (1))) hx hb dL_law_279 (by decide) ?_
  refine r_iadd hx hb dL_law_280 ?_
  refine r_sld C hX hbl hbA G (j := i + 1) rfl (by omega) (by omega) dL_law_281 ?_
  refine lv_aload_n hx hb dL_law_282 rfl (lv_at hl 0 rfl) ?_
  refine lv_iload hx hb dL_law_283 (lv_at hl 4 rfl) ?_
  refine lv_iconst (v := (nI (2))) hx hb dL_law_285 (by decide) ?_
  refine r_iadd hx hb dL_law_286 ?_
  refine r_sld C hX hbl hbA G (j := i + 2) rfl (by omega) (by omega) dL_law_287 ?_
  refine lv_aload_n hx hb dL_law_288 rfl (lv_at hl 0 rfl) ?_
  refine lv_iload hx hb dL_law_289 (lv_at hl 4 rfl) ?_
  refine lv_iconst (v := (nI (3))) hx hb dL_law_291 (by decide) ?_
  refine r_iadd hx hb dL_law_292 ?_
  refine r_sld C hX hbl hbA G (j := i + 3) rfl (by omega) (by omega) dL_law_293 ?_
  refine lv_i2l hx hb dL_law_294 rfl ?_
  refine lv_bipush (v := (nI (32))) hx hb dL_law_295 (by decide) ?_
  refine lv_lshl hx hb dL_law_297 rfl ?_
  refine lv_aload_n hx hb dL_law_298 rfl (lv_at hl 0 rfl) ?_
  refine lv_iload hx hb dL_law_299 (lv_at hl 4 rfl) ?_
  refine lv_iconst (v := (nI (4))) hx hb dL_law_301 (by decide) ?_
  refine r_iadd hx hb dL_law_302 ?_
  refine r_sld C hX hbl hbA G (j := i + 4) rfl (by omega) (by omega) dL_law_303 ?_
  refine lv_i2l hx hb dL_law_304 rfl ?_
  refine lv_ldc2 (v := (4294967295)) hx hb hown (hts (.constantLong RL 34 (4294967295)) (by decide +kernel)) dL_law_305 ?_
  refine lv_land hx hb dL_law_308 ?_
  refine lv_lor hx hb dL_law_309 ?_
  refine r_aiL G hA (r_rV (na := 3) (As := [.int (xs (i + 1)), .int (xs (i + 2)), .long ((((xs (i + 3)).toInt64) <<< ((nI (32)).toInt64 &&& 63)) ||| (((xs (i + 4)).toInt64) &&& ((4294967295))))]) (rest := []) C G.left (c_X6_paint l D cI cO cL a ca ia n O I J F E K G0 (xs (i + 1)) (xs (i + 2)) ((((xs (i + 3)).toInt64) <<< ((nI (32)).toInt64 &&& 63)) ||| (((xs (i + 4)).toInt64) &&& ((4294967295)))) h.b3 h.hO h.hin h.hRm h.hK0) gL_law_X6_paint rfl (by decide +kernel) ⟨Nat.le_of_ble_eq_true rfl, Nat.le_of_ble_eq_true rfl⟩ 0 rfl rfl rfl hl.1 rfl (Nat.le_of_ble_eq_true rfl) dL_law_310 ⟨by show cells + 0 ≤ 601024; omega, by show slots + 0 ≤ 7293034; omega⟩) (fun r1 w1 H locs hp1 G => ?_)
  have G := G.swap
  refine lv_aload_n hx hb dL_law_313 rfl (lv_at hl 2 rfl) ?_
  refine lv_aload_n hx hb dL_law_314 rfl (lv_at hl 0 rfl) ?_
  refine lv_iload hx hb dL_law_315 (lv_at hl 4 rfl) ?_
  refine lv_iconst (v := (nI (1))) hx hb dL_law_317 (by decide) ?_
  refine r_iadd hx hb dL_law_318 ?_
  refine r_sld C hX hbl hbA G (j := i + 1) rfl (by omega) (by omega) dL_law_319 ?_
  refine lv_aload_n hx hb dL_law_320 rfl (lv_at hl 0 rfl) ?_
  refine lv_iload hx hb dL_law_321 (lv_at hl 4 rfl) ?_
  refine lv_iconst (v := (nI (2))) hx hb dL_law_323 (by decide) ?_
  refine r_iadd hx hb dL_law_324 ?_
  refine r_sld C hX hbl hbA G (j := i + 2) rfl (by omega) (by omega) dL_law_325 ?_
  refine lv_aload_n hx hb dL_law_326 rfl (lv_at hl 0 rfl) ?_
  refine lv_iload hx hb dL_law_327 (lv_at hl 4 rfl) ?_
  refine lv_iconst (v := (nI (3))) hx hb dL_law_329 (by decide) ?_
  refine r_iadd hx hb dL_law_330 ?_
  refine r_sld C hX hbl hbA G (j := i + 3) rfl (by omega) (by omega) dL_law_331 ?_
  refine lv_i2l hx hb dL_law_332 rfl ?_
  refine lv_bipush (v := (nI (32))) hx hb dL_law_333 (by decide) ?_
  refine lv_lshl hx hb dL_law_335 rfl ?_
  refine lv_aload_n hx hb dL_law_336 rfl (lv_at hl 0 rfl) ?_
  refine lv_iload hx hb dL_law_337 (lv_at hl 4 rfl) ?_
  refine lv_iconst (v := (nI (4))) hx hb dL_law_339 (by decide) ?_
  refine r_iadd hx hb dL_law_340 ?_
  refine r_sld C hX hbl hbA G (j := i + 4) rfl (by omega) (by omega) dL_law_341 ?_
  refine lv_i2l hx hb dL_law_342 rfl ?_
  refine lv_ldc2 (v := (4294967295)) hx hb hown (hts (.constantLong RL 34 (4294967295)) (by decide +kernel)) dL_law_343 ?_
  refine lv_land hx hb dL_law_346 ?_
  refine lv_lor hx hb dL_law_347 ?_
  refine r_aiL G hA (r_rV (na := 3) (As := [.int (xs (i + 1)), .int (xs (i + 2)), .long ((((xs (i + 3)).toInt64) <<< ((nI (32)).toInt64 &&& 63)) ||| (((xs (i + 4)).toInt64) &&& ((4294967295))))]) (rest := [.int (r1)]) C G.left (c_X7_paint l D cI cO cL b I' J' F' G' (xs (i + 1)) (xs (i + 2)) ((((xs (i + 3)).toInt64) <<< ((nI (32)).toInt64 &&& 63)) ||| (((xs (i + 4)).toInt64) &&& ((4294967295)))) h.m1 h.mL h.mKd) gL_law_X7_paint rfl (by decide +kernel) ⟨Nat.le_of_ble_eq_true rfl, Nat.le_of_ble_eq_true rfl⟩ 0 rfl rfl rfl hl.1 rfl (Nat.le_of_ble_eq_true rfl) dL_law_348 ⟨by show cells + 0 + 0 ≤ 601024; omega, by show slots + 0 + 0 ≤ 7293034; omega⟩) (fun r2 w2 H locs hp2 G => ?_)
  have G := G.swap
  obtain ⟨er, hR2⟩ := sim_paint h hp1 hp2
  refine lv_icmp_eq (tgt := 964) hx hb dL_law_351 (by decide) (fun _ => ?_) (fun cq => absurd er cq)
  refine W.widen (k := cells + 3) (n := slots + 1700) (by show cells + 0 + 0 + 0 ≤ cells + 3; omega) (by show slots + 0 + 0 + 0 ≤ slots + 1700; omega) ?_
  exact NEXT _ _ _ _ _ _ hR2 G hl
set_option maxHeartbeats 4000000 in
set_option maxRecDepth 100000 in
theorem law_mark {p : Program} (l : Launch) {e : Env} {s : State} {m : MethodId} {below : List Frame} {meth : Method} {c : Code} {H : Heap} {locs : List Loc} {cells slots : Nat} {Q : State → Prop} {ls : Array Slot} {bs L lo : Nat} {xs : Nat → Int32} {D : va_G} {cI cO cL : ClassId} {A : Nat → Prop} {a b : Nat → Nat} {g : Nat → Int64} {w w' : va_W} (C : Cx p s m c #[Value.ref bs] cL_law 7 wsL_law RL D (TY cI cO cL)) (hA : ∀ q : Nat, s.heap.size ≤ q → A q) (hX : va_X bs L xs s s.heap) (hbl : bs < s.heap.size) (hbA : ¬ A bs) (hL : L ≤ 3584) (i : Nat) (hi : i + 7 ≤ L) (hcs : cells + 3 ≤ 601024) (hss : slots + 1700 ≤ 7293034) (hR : RelW cI cO a b w w') (G : Wd A s.heap D (w ++ (w' ++ lgW cL lo g)) H locs) (hl : lv_has ls 7 [(0, .ref bs), (1, .ref (a 0)), (2, .ref (b 0)), (3, .ref lo), (4, .int (nI i))])
    (NEXT : ∀ (w1 w2 : va_W) (g' : Nat → Int64) (H1 : Heap) (locs1 : List Loc) (ls1 : Array Slot), RelW cI cO a b w1 w2 → Wd A s.heap D (w1 ++ (w2 ++ lgW cL lo g')) H1 locs1 → lv_has ls1 7 [(0, .ref bs), (1, .ref (a 0)), (2, .ref (b 0)), (3, .ref lo), (4, .int (nI i))] → W p l e room_1 s m #[Value.ref bs] below meth c H1 locs1 (cells + 3) (slots + 1700) Q (F0 m 964 ls1 [])) : W p l e room_1 s m #[Value.ref bs] below meth c H locs cells slots Q (F0 m 356 ls []) := by
  obtain ⟨ca, ia, n, O, I, J, F, E, K, G0, I', J', F', G', rfl, rfl, h⟩ := hR
  obtain ⟨⟨hx, hb, hml, hown, hts⟩, hK, hN⟩ := id C
  refine lv_aload_n hx hb dL_law_356 rfl (lv_at hl 1 rfl) ?_
  refine lv_aload_n hx hb dL_law_357 rfl (lv_at hl 0 rfl) ?_
  refine lv_iload hx hb dL_law_358 (lv_at hl 4 rfl) ?_
  refine lv_iconst (v := (nI (1))) hx hb dL_law_360 (by decide) ?_
  refine r_iadd hx hb dL_law_361 ?_
  refine r_sld C hX hbl hbA G (j := i + 1) rfl (by omega) (by omega) dL_law_362 ?_
  refine lv_aload_n hx hb dL_law_363 rfl (lv_at hl 0 rfl) ?_
  refine lv_iload hx hb dL_law_364 (lv_at hl 4 rfl) ?_
  refine lv_iconst (v := (nI (2))) hx hb dL_law_366 (by decide) ?_
  refine r_iadd hx hb dL_law_367 ?_
  refine r_sld C hX hbl hbA G (j := i + 2) rfl (by omega) (by omega) dL_law_368 ?_
  refine lv_aload_n hx hb dL_law_369 rfl (lv_at hl 0 rfl) ?_
  refine lv_iload hx hb dL_law_370 (lv_at hl 4 rfl) ?_
  refine lv_iconst (v := (nI (3))) hx hb dL_law_372 (by decide) ?_
  refine r_iadd hx hb dL_law_373 ?_
  refine r_sld C hX hbl hbA G (j := i + 3) rfl (by omega) (by omega) dL_law_374 ?_
  refine r_aiL G hA (r_rV (na := 3) (As := [.int (xs (i + 1)), .int (xs (i + 2)), .int (xs (i + 3))]) (rest := []) C G.left (c_X6_mark l D cI cO cL a ca ia n O I J F E K G0 (xs (i + 1)) (xs (i + 2)) (xs (i + 3)) h.b3) gL_law_X6_mark rfl (by decide +kernel) ⟨Nat.le_of_ble_eq_true rfl, Nat.le_of_ble_eq_true rfl⟩ 0 rfl rfl rfl hl.1 rfl (Nat.le_of_ble_eq_true rfl) dL_law_375 ⟨by show cells + 0 ≤ 601024; omega, by show slots + 0 ≤ 7293034; omega⟩) (fun r1 w1 H locs hp1 G => ?_)
  have G := G.swap
  refine lv_aload_n hx hb dL_law_378 rfl (lv_at hl 2 rfl) ?_
  refine lv_aload_n hx hb dL_law_379 rfl (lv_at hl 0 rfl) ?_
  refine lv_iload hx hb dL_law_380 (lv_at hl 4 rfl) ?_
  refine lv_iconst (v := (nI (1))) hx hb dL_law_382 (by decide) ?_
  refine r_iadd hx hb dL_law_383 ?_
  refine r_sld C hX hbl hbA G (j := i + 1) rfl (by omega) (by omega) dL_law_384 ?_
  refine lv_aload_n hx hb dL_law_385 rfl (lv_at hl 0 rfl) ?_
  refine lv_iload hx hb dL_law_386 (lv_at hl 4 rfl) ?_
  refine lv_iconst (v := (nI (2))) hx hb dL_law_388 (by decide) ?_
  refine r_iadd hx hb dL_law_389 ?_
  refine r_sld C hX hbl hbA G (j := i + 2) rfl (by omega) (by omega) dL_law_390 ?_
  refine lv_aload_n hx hb dL_law_391 rfl (lv_at hl 0 rfl) ?_
  refine lv_iload hx hb dL_law_392 (lv_at hl 4 rfl) ?_
  refine lv_iconst (v := (nI (3))) hx hb dL_law_394 (by decide) ?_
  refine r_iadd hx hb dL_law_395 ?_
  refine r_sld C hX hbl hbA G (j := i + 3) rfl (by omega) (by omega) dL_law_396 ?_
  refine r_aiL G hA (r_rV (na := 3) (As := [.int (xs (i + 1)), .int (xs (i + 2)), .int (xs (i + 3))]) (rest := [.int (r1)]) C G.left (c_X7_mark l D cI cO cL b I' J' F' G' (xs (i + 1)) (xs (i + 2)) (xs (i + 3)) h.m1) gL_law_X7_mark rfl (by decide +kernel) ⟨Nat.le_of_ble_eq_true rfl, Nat.le_of_ble_eq_true rfl⟩ 0 rfl rfl rfl hl.1 rfl (Nat.le_of_ble_eq_true rfl) dL_law_397 ⟨by show cells + 0 + 0 ≤ 601024; omega, by show slots + 0 + 0 ≤ 7293034; omega⟩) (fun r2 w2 H locs hp2 G => ?_)
  have G := G.swap
  obtain ⟨er, hR2⟩ := sim_mark h hp1 hp2
  refine lv_icmp_eq (tgt := 964) hx hb dL_law_400 (by decide) (fun _ => ?_) (fun cq => absurd er cq)
  refine W.widen (k := cells + 3) (n := slots + 1700) (by show cells + 0 + 0 + 0 ≤ cells + 3; omega) (by show slots + 0 + 0 + 0 ≤ slots + 1700; omega) ?_
  exact NEXT _ _ _ _ _ _ hR2 G hl
set_option maxHeartbeats 4000000 in
set_option maxRecDepth 100000 in
theorem law_of {p : Program} (l : Launch) {e : Env} {s : State} {m : MethodId} {below : List Frame} {meth : Method} {c : Code} {H : Heap} {locs : List Loc} {cells slots : Nat} {Q : State → Prop} {ls : Array Slot} {bs L lo : Nat} {xs : Nat → Int32} {D : va_G} {cI cO cL : ClassId} {A : Nat → Prop} {a b : Nat → Nat} {g : Nat → Int64} {w w' : va_W} (C : Cx p s m c #[Value.ref bs] cL_law 7 wsL_law RL D (TY cI cO cL)) (hA : ∀ q : Nat, s.heap.size ≤ q → A q) (hX : va_X bs L xs s s.heap) (hbl : bs < s.heap.size) (hbA : ¬ A bs) (hL : L ≤ 3584) (i : Nat) (hi : i + 7 ≤ L) (hcs : cells + 3 ≤ 601024) (hss : slots + 1700 ≤ 7293034) (hR : RelW cI cO a b w w') (G : Wd A s.heap D (w ++ (w' ++ lgW cL lo g)) H locs) (hl : lv_has ls 7 [(0, .ref bs), (1, .ref (a 0)), (2, .ref (b 0)), (3, .ref lo), (4, .int (nI i))])
    (NEXT : ∀ (w1 w2 : va_W) (g' : Nat → Int64) (H1 : Heap) (locs1 : List Loc) (ls1 : Array Slot), RelW cI cO a b w1 w2 → Wd A s.heap D (w1 ++ (w2 ++ lgW cL lo g')) H1 locs1 → lv_has ls1 7 [(0, .ref bs), (1, .ref (a 0)), (2, .ref (b 0)), (3, .ref lo), (4, .int (nI i))] → W p l e room_1 s m #[Value.ref bs] below meth c H1 locs1 (cells + 3) (slots + 1700) Q (F0 m 964 ls1 [])) : W p l e room_1 s m #[Value.ref bs] below meth c H locs cells slots Q (F0 m 405 ls []) := by
  obtain ⟨ca, ia, n, O, I, J, F, E, K, G0, I', J', F', G', rfl, rfl, h⟩ := hR
  obtain ⟨⟨hx, hb, hml, hown, hts⟩, hK, hN⟩ := id C
  refine lv_aload_n hx hb dL_law_405 rfl (lv_at hl 1 rfl) ?_
  refine lv_aload_n hx hb dL_law_406 rfl (lv_at hl 0 rfl) ?_
  refine lv_iload hx hb dL_law_407 (lv_at hl 4 rfl) ?_
  refine lv_iconst (v := (nI (1))) hx hb dL_law_409 (by decide) ?_
  refine r_iadd hx hb dL_law_410 ?_
  refine r_sld C hX hbl hbA G (j := i + 1) rfl (by omega) (by omega) dL_law_411 ?_
  refine lv_aload_n hx hb dL_law_412 rfl (lv_at hl 0 rfl) ?_
  refine lv_iload hx hb dL_law_413 (lv_at hl 4 rfl) ?_
  refine lv_iconst (v := (nI (2))) hx hb dL_law_415 (by decide) ?_
  refine r_iadd hx hb dL_law_416 ?_
  refine r_sld C hX hbl hbA G (j := i + 2) rfl (by omega) (by omega) dL_law_417 ?_
  refine r_aiL G hA (r_rV (na := 2) (As := [.int (xs (i + 1)), .int (xs (i + 2))]) (rest := []) C G.left (c_X6_of l D cI cO cL a ca ia n O I J F E K G0 (xs (i + 1)) (xs (i + 2)) h.b3 h.hO h.hin) gL_law_X6_of rfl (by decide +kernel) ⟨Nat.le_of_ble_eq_true rfl, Nat.le_of_ble_eq_true rfl⟩ 0 rfl rfl rfl hl.1 rfl (Nat.le_of_ble_eq_true rfl) dL_law_418 ⟨by show cells + 0 ≤ 601024; omega, by show slots + 0 ≤ 7293034; omega⟩) (fun r1 w1 H locs hp1 G => ?_)
  have G := G.swap
  refine lv_aload_n hx hb dL_law_421 rfl (lv_at hl 2 rfl) ?_
  refine lv_aload_n hx hb dL_law_422 rfl (lv_at hl 0 rfl) ?_
  refine lv_iload hx hb dL_law_423 (lv_at hl 4 rfl) ?_
  refine lv_iconst (v := (nI (1))) hx hb dL_law_425 (by decide) ?_
  refine r_iadd hx hb dL_law_426 ?_
  refine r_sld C hX hbl hbA G (j := i + 1) rfl (by omega) (by omega) dL_law_427 ?_
  refine lv_aload_n hx hb dL_law_428 rfl (lv_at hl 0 rfl) ?_
  refine lv_iload hx hb dL_law_429 (lv_at hl 4 rfl) ?_
  refine lv_iconst (v := (nI (2))) hx hb dL_law_431 (by decide) ?_
  refine r_iadd hx hb dL_law_432 ?_
  refine r_sld C hX hbl hbA G (j := i + 2) rfl (by omega) (by omega) dL_law_433 ?_
  refine r_aiL G hA (r_rV (na := 2) (As := [.int (xs (i + 1)), .int (xs (i + 2))]) (rest := [.int (r1)]) C G.left (c_X7_of l D cI cO cL b I' J' F' G' (xs (i + 1)) (xs (i + 2)) h.m1) gL_law_X7_of rfl (by decide +kernel) ⟨Nat.le_of_ble_eq_true rfl, Nat.le_of_ble_eq_true rfl⟩ 0 rfl rfl rfl hl.1 rfl (Nat.le_of_ble_eq_true rfl) dL_law_434 ⟨by show cells + 0 + 0 ≤ 601024; omega, by show slots + 0 + 0 ≤ 7293034; omega⟩) (fun r2 w2 H locs hp2 G => ?_)
  have G := G.swap
  obtain ⟨er, hR2⟩ := sim_of h hp1 hp2
  refine lv_icmp_eq (tgt := 964) hx hb dL_law_437 (by decide) (fun _ => ?_) (fun cq => absurd er cq)
  refine W.widen (k := cells + 3) (n := slots + 1700) (by show cells + 0 + 0 + 0 ≤ cells + 3; omega) (by show slots + 0 + 0 + 0 ≤ slots + 1700; omega) ?_
  exact NEXT _ _ _ _ _ _ hR2 G hl
set_option maxHeartbeats 4000000 in
set_option maxRecDepth 100000 in
theorem law_seed {p : Program} (l : Launch) {e : Env} {s : State} {m : MethodId} {below : List Frame} {meth : Method} {c : Code} {H : Heap} {locs : List Loc} {cells slots : Nat} {Q : State → Prop} {ls : Array Slot} {bs L lo : Nat} {xs : Nat → Int32} {D : va_G} {cI cO cL : ClassId} {A : Nat → Prop} {a b : Nat → Nat} {g : Nat → Int64} {w w' : va_W} (C : Cx p s m c #[Value.ref bs] cL_law 7 wsL_law RL D (TY cI cO cL)) (hA : ∀ q : Nat, s.heap.size ≤ q → A q) (hX : va_X bs L xs s s.heap) (hbl : bs < s.heap.size) (hbA : ¬ A bs) (hL : L ≤ 3584) (i : Nat) (hi : i + 7 ≤ L) (hcs : cells + 3 ≤ 601024) (hss : slots + 1700 ≤ 7293034) (hR : RelW cI cO a b w w') (G : Wd A s.heap D (w ++ (w' ++ lgW cL lo g)) H locs) (hl : lv_has ls 7 [(0, .ref bs), (1, .ref (a 0)), (2, .ref (b 0)), (3, .ref lo), (4, .int (nI i))])
    (NEXT : ∀ (w1 w2 : va_W) (g' : Nat → Int64) (H1 : Heap) (locs1 : List Loc) (ls1 : Array Slot), RelW cI cO a b w1 w2 → Wd A s.heap D (w1 ++ (w2 ++ lgW cL lo g')) H1 locs1 → lv_has ls1 7 [(0, .ref bs), (1, .ref (a 0)), (2, .ref (b 0)), (3, .ref lo), (4, .int (nI i))] → W p l e room_1 s m #[Value.ref bs] below meth c H1 locs1 (cells + 3) (slots + 1700) Q (F0 m 964 ls1 [])) : W p l e room_1 s m #[Value.ref bs] below meth c H locs cells slots Q (F0 m 442 ls []) := by
  obtain ⟨ca, ia, n, O, I, J, F, E, K, G0, I', J', F', G', rfl, rfl, h⟩ := hR
  obtain ⟨⟨hx, hb, hml, hown, hts⟩, hK, hN⟩ := id C
  refine lv_aload_n hx hb dL_law_442 rfl (lv_at hl 1 rfl) ?_
  refine lv_aload_n hx hb dL_law_443 rfl (lv_at hl 0 rfl) ?_
  refine lv_iload hx hb dL_law_444 (lv_at hl 4 rfl) ?_
  refine lv_iconst (v := (nI (1))) hx hb dL_law_446 (by decide) ?_
  refine r_iadd hx hb dL_law_447 ?_
  refine r_sld C hX hbl hbA G (j := i + 1) rfl (by omega) (by omega) dL_law_448 ?_
  refine lv_i2l hx hb dL_law_449 rfl ?_
  refine lv_bipush (v := (nI (32))) hx hb dL_law_450 (by decide) ?_
  refine lv_lshl hx hb dL_law_452 rfl ?_
  refine lv_aload_n hx hb dL_law_453 rfl (lv_at hl 0 rfl) ?_
  refine lv_iload hx hb dL_law_454 (lv_at hl 4 rfl) ?_
  refine lv_iconst (v := (nI (2))) hx hb dL_law_456 (by decide) ?_
  refine r_iadd hx hb dL_law_457 ?_
  refine r_sld C hX hbl hbA G (j := i + 2) rfl (by omega) (by omega) dL_law_458 ?_
  refine lv_i2l hx hb dL_law_459 rfl ?_
  refine lv_ldc2 (v := (4294967295)) hx hb hown (hts (.constantLong RL 34 (4294967295)) (by decide +kernel)) dL_law_460 ?_
  refine lv_land hx hb dL_law_463 ?_
  refine lv_lor hx hb dL_law_464 ?_
  refine r_alL G hA (r_rV (na := 1) (As := [.long ((((xs (i + 1)).toInt64) <<< ((nI (32)).toInt64 &&& 63)) ||| (((xs (i + 2)).toInt64) &&& ((4294967295))))]) (rest := []) C G.left (c_X6_seed l D cI cO cL a ca ia n O I J F E K G0 ((((xs (i + 1)).toInt64) <<< ((nI (32)).toInt64 &&& 63)) ||| (((xs (i + 2)).toInt64) &&& ((4294967295))))) gL_law_X6_seed rfl (by decide +kernel) ⟨Nat.le_of_ble_eq_true rfl, Nat.le_of_ble_eq_true rfl⟩ 0 rfl rfl rfl hl.1 rfl (Nat.le_of_ble_eq_true rfl) dL_law_465 ⟨by show cells + 0 ≤ 601024; omega, by show slots + 0 ≤ 7293034; omega⟩) (fun r1 w1 H locs hp1 G => ?_)
  have G := G.swap
  refine lv_aload_n hx hb dL_law_468 rfl (lv_at hl 2 rfl) ?_
  refine lv_aload_n hx hb dL_law_469 rfl (lv_at hl 0 rfl) ?_
  refine lv_iload hx hb dL_law_470 (lv_at hl 4 rfl) ?_
  refine lv_iconst (v := (nI (1))) hx hb dL_law_472 (by decide) ?_
  refine r_iadd hx hb dL_law_473 ?_
  refine r_sld C hX hbl hbA G (j := i + 1) rfl (by omega) (by omega) dL_law_474 ?_
  refine lv_i2l hx hb dL_law_475 rfl ?_
  refine lv_bipush (v := (nI (32))) hx hb dL_law_476 (by decide) ?_
  refine lv_lshl hx hb dL_law_478 rfl ?_
  refine lv_aload_n hx hb dL_law_479 rfl (lv_at hl 0 rfl) ?_
  refine lv_iload hx hb dL_law_480 (lv_at hl 4 rfl) ?_
  refine lv_iconst (v := (nI (2))) hx hb dL_law_482 (by decide) ?_
  refine r_iadd hx hb dL_law_483 ?_
  refine r_sld C hX hbl hbA G (j := i + 2) rfl (by omega) (by omega) dL_law_484 ?_
  refine lv_i2l hx hb dL_law_485 rfl ?_
  refine lv_ldc2 (v := (4294967295)) hx hb hown (hts (.constantLong RL 34 (4294967295)) (by decide +kernel)) dL_law_486 ?_
  refine lv_land hx hb dL_law_489 ?_
  refine lv_lor hx hb dL_law_490 ?_
  refine r_alL G hA (r_rV (na := 1) (As := [.long ((((xs (i + 1)).toInt64) <<< ((nI (32)).toInt64 &&& 63)) ||| (((xs (i + 2)).toInt64) &&& ((4294967295))))]) (rest := [.long (r1)]) C G.left (c_X7_seed l D cI cO cL b I' J' F' G' ((((xs (i + 1)).toInt64) <<< ((nI (32)).toInt64 &&& 63)) ||| (((xs (i + 2)).toInt64) &&& ((4294967295))))) gL_law_X7_seed rfl (by decide +kernel) ⟨Nat.le_of_ble_eq_true rfl, Nat.le_of_ble_eq_true rfl⟩ 0 rfl rfl rfl hl.1 rfl (Nat.le_of_ble_eq_true rfl) dL_law_491 ⟨by show cells + 0 + 0 ≤ 601024; omega, by show slots + 0 + 0 ≤ 7293034; omega⟩) (fun r2 w2 H locs hp2 G => ?_)
  have G := G.swap
  obtain ⟨er, hR2⟩ := sim_seed h hp1 hp2
  refine W.lcmp hx hb dL_law_494 ?_
  refine lv_if_eq (tgt := 964) hx hb dL_law_495 (by decide) (fun _ => ?_) (fun cq => absurd ((lg_cmp_eq _ _).mpr er) cq)
  refine W.widen (k := cells + 3) (n := slots + 1700) (by show cells + 0 + 0 + 0 ≤ cells + 3; omega) (by show slots + 0 + 0 + 0 ≤ slots + 1700; omega) ?_
  exact NEXT _ _ _ _ _ _ hR2 G hl
set_option maxHeartbeats 4000000 in
set_option maxRecDepth 100000 in
theorem law_set {p : Program} (l : Launch) {e : Env} {s : State} {m : MethodId} {below : List Frame} {meth : Method} {c : Code} {H : Heap} {locs : List Loc} {cells slots : Nat} {Q : State → Prop} {ls : Array Slot} {bs L lo : Nat} {xs : Nat → Int32} {D : va_G} {cI cO cL : ClassId} {A : Nat → Prop} {a b : Nat → Nat} {g : Nat → Int64} {w w' : va_W} (C : Cx p s m c #[Value.ref bs] cL_law 7 wsL_law RL D (TY cI cO cL)) (hA : ∀ q : Nat, s.heap.size ≤ q → A q) (hX : va_X bs L xs s s.heap) (hbl : bs < s.heap.size) (hbA : ¬ A bs) (hL : L ≤ 3584) (i : Nat) (hi : i + 7 ≤ L) (hcs : cells + 3 ≤ 601024) (hss : slots + 1700 ≤ 7293034) (hR : RelW cI cO a b w w') (G : Wd A s.heap D (w ++ (w' ++ lgW cL lo g)) H locs) (hl : lv_has ls 7 [(0, .ref bs), (1, .ref (a 0)), (2, .ref (b 0)), (3, .ref lo), (4, .int (nI i))])
    (NEXT : ∀ (w1 w2 : va_W) (g' : Nat → Int64) (H1 : Heap) (locs1 : List Loc) (ls1 : Array Slot), RelW cI cO a b w1 w2 → Wd A s.heap D (w1 ++ (w2 ++ lgW cL lo g')) H1 locs1 → lv_has ls1 7 [(0, .ref bs), (1, .ref (a 0)), (2, .ref (b 0)), (3, .ref lo), (4, .int (nI i))] → W p l e room_1 s m #[Value.ref bs] below meth c H1 locs1 (cells + 3) (slots + 1700) Q (F0 m 964 ls1 [])) : W p l e room_1 s m #[Value.ref bs] below meth c H locs cells slots Q (F0 m 500 ls []) := by
  obtain ⟨ca, ia, n, O, I, J, F, E, K, G0, I', J', F', G', rfl, rfl, h⟩ := hR
  obtain ⟨⟨hx, hb, hml, hown, hts⟩, hK, hN⟩ := id C
  refine lv_aload_n hx hb dL_law_500 rfl (lv_at hl 1 rfl) ?_
  refine lv_aload_n hx hb dL_law_501 rfl (lv_at hl 0 rfl) ?_
  refine lv_iload hx hb dL_law_502 (lv_at hl 4 rfl) ?_
  refine lv_iconst (v := (nI (1))) hx hb dL_law_504 (by decide) ?_
  refine r_iadd hx hb dL_law_505 ?_
  refine r_sld C hX hbl hbA G (j := i + 1) rfl (by omega) (by omega) dL_law_506 ?_
  refine lv_aload_n hx hb dL_law_507 rfl (lv_at hl 0 rfl) ?_
  refine lv_iload hx hb dL_law_508 (lv_at hl 4 rfl) ?_
  refine lv_iconst (v := (nI (2))) hx hb dL_law_510 (by decide) ?_
  refine r_iadd hx hb dL_law_511 ?_
  refine r_sld C hX hbl hbA G (j := i + 2) rfl (by omega) (by omega) dL_law_512 ?_
  refine r_aiL G hA (r_rV (na := 2) (As := [.int (xs (i + 1)), .int (xs (i + 2))]) (rest := []) C G.left (c_X6_set l D cI cO cL a ca ia n O I J F E K G0 (xs (i + 1)) (xs (i + 2))) gL_law_X6_set rfl (by decide +kernel) ⟨Nat.le_of_ble_eq_true rfl, Nat.le_of_ble_eq_true rfl⟩ 0 rfl rfl rfl hl.1 rfl (Nat.le_of_ble_eq_true rfl) dL_law_513 ⟨by show cells + 0 ≤ 601024; omega, by show slots + 0 ≤ 7293034; omega⟩) (fun r1 w1 H locs hp1 G => ?_)
  have G := G.swap
  refine lv_aload_n hx hb dL_law_516 rfl (lv_at hl 2 rfl) ?_
  refine lv_aload_n hx hb dL_law_517 rfl (lv_at hl 0 rfl) ?_
  refine lv_iload hx hb dL_law_518 (lv_at hl 4 rfl) ?_
  refine lv_iconst (v := (nI (1))) hx hb dL_law_520 (by decide) ?_
  refine r_iadd hx hb dL_law_521 ?_
  refine r_sld C hX hbl hbA G (j := i + 1) rfl (by omega) (by omega) dL_law_522 ?_
  refine lv_aload_n hx hb dL_law_523 rfl (lv_at hl 0 rfl) ?_
  refine lv_iload hx hb dL_law_524 (lv_at hl 4 rfl) ?_
  refine lv_iconst (v := (nI (2))) hx hb dL_law_526 (by decide) ?_
  refine r_iadd hx hb dL_law_527 ?_
  refine r_sld C hX hbl hbA G (j := i + 2) rfl (by omega) (by omega) dL_law_528 ?_
  refine r_aiL G hA (r_rV (na := 2) (As := [.int (xs (i + 1)), .int (xs (i + 2))]) (rest := [.int (r1)]) C G.left (c_X7_set l D cI cO cL b I' J' F' G' (xs (i + 1)) (xs (i + 2))) gL_law_X7_set rfl (by decide +kernel) ⟨Nat.le_of_ble_eq_true rfl, Nat.le_of_ble_eq_true rfl⟩ 0 rfl rfl rfl hl.1 rfl (Nat.le_of_ble_eq_true rfl) dL_law_529 ⟨by show cells + 0 + 0 ≤ 601024; omega, by show slots + 0 + 0 ≤ 7293034; omega⟩) (fun r2 w2 H locs hp2 G => ?_)
  have G := G.swap
  obtain ⟨er, hR2⟩ := sim_set h hp1 hp2
  refine lv_icmp_eq (tgt := 964) hx hb dL_law_532 (by decide) (fun _ => ?_) (fun cq => absurd er cq)
  refine W.widen (k := cells + 3) (n := slots + 1700) (by show cells + 0 + 0 + 0 ≤ cells + 3; omega) (by show slots + 0 + 0 + 0 ≤ slots + 1700; omega) ?_
  exact NEXT _ _ _ _ _ _ hR2 G hl
set_option maxHeartbeats 4000000 in
set_option maxRecDepth 100000 in
theorem law_batch {p : Program} (l : Launch) {e : Env} {s : State} {m : MethodId} {below : List Frame} {meth : Method} {c : Code} {H : Heap} {locs : List Loc} {cells slots : Nat} {Q : State → Prop} {ls : Array Slot} {bs L lo : Nat} {xs : Nat → Int32} {D : va_G} {cI cO cL : ClassId} {A : Nat → Prop} {a b : Nat → Nat} {g : Nat → Int64} {w w' : va_W} (C : Cx p s m c #[Value.ref bs] cL_law 7 wsL_law RL D (TY cI cO cL)) (hA : ∀ q : Nat, s.heap.size ≤ q → A q) (hX : va_X bs L xs s s.heap) (hbl : bs < s.heap.size) (hbA : ¬ A bs) (hL : L ≤ 3584) (i : Nat) (hi : i + 7 ≤ L) (hcs : cells + 3 ≤ 601024) (hss : slots + 1700 ≤ 7293034) (hR : RelW cI cO a b w w') (G : Wd A s.heap D (w ++ (w' ++ lgW cL lo g)) H locs) (hl : lv_has ls 7 [(0, .ref bs), (1, .ref (a 0)), (2, .ref (b 0)), (3, .ref lo), (4, .int (nI i))])
    (NEXT : ∀ (w1 w2 : va_W) (g' : Nat → Int64) (H1 : Heap) (locs1 : List Loc) (ls1 : Array Slot), RelW cI cO a b w1 w2 → Wd A s.heap D (w1 ++ (w2 ++ lgW cL lo g')) H1 locs1 → lv_has ls1 7 [(0, .ref bs), (1, .ref (a 0)), (2, .ref (b 0)), (3, .ref lo), (4, .int (nI i))] → W p l e room_1 s m #[Value.ref bs] below meth c H1 locs1 (cells + 3) (slots + 1700) Q (F0 m 964 ls1 [])) : W p l e room_1 s m #[Value.ref bs] below meth c H locs cells slots Q (F0 m 581 ls []) := by
  obtain ⟨ca, ia, n, O, I, J, F, E, K, G0, I', J', F', G', rfl, rfl, h⟩ := hR
  obtain ⟨⟨hx, hb, hml, hown, hts⟩, hK, hN⟩ := id C
  refine lv_aload_n hx hb dL_law_581 rfl (lv_at hl 1 rfl) ?_
  refine lv_aload_n hx hb dL_law_582 rfl (lv_at hl 0 rfl) ?_
  refine lv_iload hx hb dL_law_583 (lv_at hl 4 rfl) ?_
  refine lv_iconst (v := (nI (1))) hx hb dL_law_585 (by decide) ?_
  refine r_iadd hx hb dL_law_586 ?_
  refine r_sld C hX hbl hbA G (j := i + 1) rfl (by omega) (by omega) dL_law_587 ?_
  refine lv_aload_n hx hb dL_law_588 rfl (lv_at hl 0 rfl) ?_
  refine lv_iload hx hb dL_law_589 (lv_at hl 4 rfl) ?_
  refine lv_iconst (v := (nI (2))) hx hb dL_law_591 (by decide) ?_
  refine r_iadd hx hb dL_law_592 ?_
  refine r_sld C hX hbl hbA G (j := i + 2) rfl (by omega) (by omega) dL_law_593 ?_
  refine lv_aload_n hx hb dL_law_594 rfl (lv_at hl 0 rfl) ?_
  refine lv_iload hx hb dL_law_595 (lv_at hl 4 rfl) ?_
  refine lv_iconst (v := (nI (3))) hx hb dL_law_597 (by decide) ?_
  refine r_iadd hx hb dL_law_598 ?_
  refine r_sld C hX hbl hbA G (j := i + 3) rfl (by omega) (by omega) dL_law_599 ?_
  refine lv_aload_n hx hb dL_law_600 rfl (lv_at hl 0 rfl) ?_
  refine lv_iload hx hb dL_law_601 (lv_at hl 4 rfl) ?_
  refine lv_iconst (v := (nI (4))) hx hb dL_law_603 (by decide) ?_
  refine r_iadd hx hb dL_law_604 ?_
  refine r_sld C hX hbl hbA G (j := i + 4) rfl (by omega) (by omega) dL_law_605 ?_
  refine r_aiL G hA (r_rV (na := 4) (As := [.int (xs (i + 1)), .int (xs (i + 2)), .int (xs (i + 3)), .int (xs (i + 4))]) (rest := []) C G.left (c_X6_batch l D cI cO cL a ca ia n O I J F E K G0 (xs (i + 1)) (xs (i + 2)) (xs (i + 3)) (xs (i + 4)) h.b3 h.hO h.hin h.hLb h.hWt h.hK3 h.b5 h.b6 h.b4 h.b7) gL_law_X6_batch rfl (by decide +kernel) ⟨Nat.le_of_ble_eq_true rfl, Nat.le_of_ble_eq_true rfl⟩ 0 rfl rfl rfl hl.1 rfl (Nat.le_of_ble_eq_true rfl) dL_law_606 ⟨by show cells + 0 ≤ 601024; omega, by show slots + 0 ≤ 7293034; omega⟩) (fun r1 w1 H locs hp1 G => ?_)
  have G := G.swap
  refine lv_aload_n hx hb dL_law_609 rfl (lv_at hl 2 rfl) ?_
  refine lv_aload_n hx hb dL_law_610 rfl (lv_at hl 0 rfl) ?_
  refine lv_iload hx hb dL_law_611 (lv_at hl 4 rfl) ?_
  refine lv_iconst (v := (nI (1))) hx hb dL_law_613 (by decide) ?_
  refine r_iadd hx hb dL_law_614 ?_
  refine r_sld C hX hbl hbA G (j := i + 1) rfl (by omega) (by omega) dL_law_615 ?_
  refine lv_aload_n hx hb dL_law_616 rfl (lv_at hl 0 rfl) ?_
  refine lv_iload hx hb dL_law_617 (lv_at hl 4 rfl) ?_
  refine lv_iconst (v := (nI (2))) hx hb dL_law_619 (by decide) ?_
  refine r_iadd hx hb dL_law_620 ?_
  refine r_sld C hX hbl hbA G (j := i + 2) rfl (by omega) (by omega) dL_law_621 ?_
  refine lv_aload_n hx hb dL_law_622 rfl (lv_at hl 0 rfl) ?_
  refine lv_iload hx hb dL_law_623 (lv_at hl 4 rfl) ?_
  refine lv_iconst (v := (nI (3))) hx hb dL_law_625 (by decide) ?_
  refine r_iadd hx hb dL_law_626 ?_
  refine r_sld C hX hbl hbA G (j := i + 3) rfl (by omega) (by omega) dL_law_627 ?_
  refine lv_aload_n hx hb dL_law_628 rfl (lv_at hl 0 rfl) ?_
  refine lv_iload hx hb dL_law_629 (lv_at hl 4 rfl) ?_
  refine lv_iconst (v := (nI (4))) hx hb dL_law_631 (by decide) ?_
  refine r_iadd hx hb dL_law_632 ?_
  refine r_sld C hX hbl hbA G (j := i + 4) rfl (by omega) (by omega) dL_law_633 ?_
  refine r_aiL G hA (r_rV (na := 4) (As := [.int (xs (i + 1)), .int (xs (i + 2)), .int (xs (i + 3)), .int (xs (i + 4))]) (rest := [.int (r1)]) C G.left (c_X7_batch l D cI cO cL b I' J' F' G' (xs (i + 1)) (xs (i + 2)) (xs (i + 3)) (xs (i + 4)) h.m1 h.mLb h.mWt h.mL h.m3 h.m4 h.m2 h.m5) gL_law_X7_batch rfl (by decide +kernel) ⟨Nat.le_of_ble_eq_true rfl, Nat.le_of_ble_eq_true rfl⟩ 0 rfl rfl rfl hl.1 rfl (Nat.le_of_ble_eq_true rfl) dL_law_634 ⟨by show cells + 0 + 0 ≤ 601024; omega, by show slots + 0 + 0 ≤ 7293034; omega⟩) (fun r2 w2 H locs hp2 G => ?_)
  have G := G.swap
  obtain ⟨er, hR2⟩ := sim_batch h hp1 hp2
  refine lv_icmp_eq (tgt := 964) hx hb dL_law_637 (by decide) (fun _ => ?_) (fun cq => absurd er cq)
  refine W.widen (k := cells + 3) (n := slots + 1700) (by show cells + 0 + 0 + 0 ≤ cells + 3; omega) (by show slots + 0 + 0 + 0 ≤ slots + 1700; omega) ?_
  exact NEXT _ _ _ _ _ _ hR2 G hl
set_option maxHeartbeats 4000000 in
set_option maxRecDepth 100000 in
theorem law_share {p : Program} (l : Launch) {e : Env} {s : State} {m : MethodId} {below : List Frame} {meth : Method} {c : Code} {H : Heap} {locs : List Loc} {cells slots : Nat} {Q : State → Prop} {ls : Array Slot} {bs L lo : Nat} {xs : Nat → Int32} {D : va_G} {cI cO cL : ClassId} {A : Nat → Prop} {a b : Nat → Nat} {g : Nat → Int64} {w w' : va_W} (C : Cx p s m c #[Value.ref bs] cL_law 7 wsL_law RL D (TY cI cO cL)) (hA : ∀ q : Nat, s.heap.size ≤ q → A q) (hX : va_X bs L xs s s.heap) (hbl : bs < s.heap.size) (hbA : ¬ A bs) (hL : L ≤ 3584) (i : Nat) (hi : i + 7 ≤ L) (hcs : cells + 3 ≤ 601024) (hss : slots + 1700 ≤ 7293034) (hR : RelW cI cO a b w w') (G : Wd A s.heap D (w ++ (w' ++ lgW cL lo g)) H locs) (hl : lv_has ls 7 [(0, .ref bs), (1, .ref (a 0)), (2, .ref (b 0)), (3, .ref lo), (4, .int (nI i))])
    (NEXT : ∀ (w1 w2 : va_W) (g' : Nat → Int64) (H1 : Heap) (locs1 : List Loc) (ls1 : Array Slot), RelW cI cO a b w1 w2 → Wd A s.heap D (w1 ++ (w2 ++ lgW cL lo g')) H1 locs1 → lv_has ls1 7 [(0, .ref bs), (1, .ref (a 0)), (2, .ref (b 0)), (3, .ref lo), (4, .int (nI i))] → W p l e room_1 s m #[Value.ref bs] below meth c H1 locs1 (cells + 3) (slots + 1700) Q (F0 m 964 ls1 [])) : W p l e room_1 s m #[Value.ref bs] below meth c H locs cells slots Q (F0 m 642 ls []) := by
  obtain ⟨ca, ia, n, O, I, J, F, E, K, G0, I', J', F', G', rfl, rfl, h⟩ := hR
  obtain ⟨⟨hx, hb, hml, hown, hts⟩, hK, hN⟩ := id C
  refine lv_aload_n hx hb dL_law_642 rfl (lv_at hl 1 rfl) ?_
  refine lv_aload_n hx hb dL_law_643 rfl (lv_at hl 0 rfl) ?_
  refine lv_iload hx hb dL_law_644 (lv_at hl 4 rfl) ?_
  refine lv_iconst (v := (nI (1))) hx hb dL_law_646 (by decide) ?_
  refine r_iadd hx hb dL_law_647 ?_
  refine r_sld C hX hbl hbA G (j := i + 1) rfl (by omega) (by omega) dL_law_648 ?_
  refine lv_aload_n hx hb dL_law_649 rfl (lv_at hl 0 rfl) ?_
  refine lv_iload hx hb dL_law_650 (lv_at hl 4 rfl) ?_
  refine lv_iconst (v := (nI (2))) hx hb dL_law_652 (by decide) ?_
  refine r_iadd hx hb dL_law_653 ?_
  refine r_sld C hX hbl hbA G (j := i + 2) rfl (by omega) (by omega) dL_law_654 ?_
  refine lv_aload_n hx hb dL_law_655 rfl (lv_at hl 0 rfl) ?_
  refine lv_iload hx hb dL_law_656 (lv_at hl 4 rfl) ?_
  refine lv_iconst (v := (nI (3))) hx hb dL_law_658 (by decide) ?_
  refine r_iadd hx hb dL_law_659 ?_
  refine r_sld C hX hbl hbA G (j := i + 3) rfl (by omega) (by omega) dL_law_660 ?_
  refine lv_aload_n hx hb dL_law_661 rfl (lv_at hl 0 rfl) ?_
  refine lv_iload hx hb dL_law_662 (lv_at hl 4 rfl) ?_
  refine lv_iconst (v := (nI (4))) hx hb dL_law_664 (by decide) ?_
  refine r_iadd hx hb dL_law_665 ?_
  refine r_sld C hX hbl hbA G (j := i + 4) rfl (by omega) (by omega) dL_law_666 ?_
  refine lv_aload_n hx hb dL_law_667 rfl (lv_at hl 0 rfl) ?_
  refine lv_iload hx hb dL_law_668 (lv_at hl 4 rfl) ?_
  refine lv_iconst (v := (nI (5))) hx hb dL_law_670 (by decide) ?_
  refine r_iadd hx hb dL_law_671 ?_
  refine r_sld C hX hbl hbA G (j := i + 5) rfl (by omega) (by omega) dL_law_672 ?_
  refine lv_aload_n hx hb dL_law_673 rfl (lv_at hl 0 rfl) ?_
  refine lv_iload hx hb dL_law_674 (lv_at hl 4 rfl) ?_
  refine lv_bipush (v := (nI (6))) hx hb dL_law_676 (by decide) ?_
  refine r_iadd hx hb dL_law_678 ?_
  refine r_sld C hX hbl hbA G (j := i + 6) rfl (by omega) (by omega) dL_law_679 ?_
  refine r_aiL G hA (r_rV (na := 6) (As := [.int (xs (i + 1)), .int (xs (i + 2)), .int (xs (i + 3)), .int (xs (i + 4)), .int (xs (i + 5)), .int (xs (i + 6))]) (rest := []) C G.left (c_X6_share l D cI cO cL a ca ia n O I J F E K G0 (xs (i + 1)) (xs (i + 2)) (xs (i + 3)) (xs (i + 4)) (xs (i + 5)) (xs (i + 6)) h.b3 h.hO h.hin h.hLb h.hWt h.hK3 h.b5 h.b6 h.b4 h.b7) gL_law_X6_share rfl (by decide +kernel) ⟨Nat.le_of_ble_eq_true rfl, Nat.le_of_ble_eq_true rfl⟩ 0 rfl rfl rfl hl.1 rfl (Nat.le_of_ble_eq_true rfl) dL_law_680 ⟨by show cells + 0 ≤ 601024; omega, by show slots + 0 ≤ 7293034; omega⟩) (fun r1 w1 H locs hp1 G => ?_)
  have G := G.swap
  refine lv_aload_n hx hb dL_law_683 rfl (lv_at hl 2 rfl) ?_
  refine lv_aload_n hx hb dL_law_684 rfl (lv_at hl 0 rfl) ?_
  refine lv_iload hx hb dL_law_685 (lv_at hl 4 rfl) ?_
  refine lv_iconst (v := (nI (1))) hx hb dL_law_687 (by decide) ?_
  refine r_iadd hx hb dL_law_688 ?_
  refine r_sld C hX hbl hbA G (j := i + 1) rfl (by omega) (by omega) dL_law_689 ?_
  refine lv_aload_n hx hb dL_law_690 rfl (lv_at hl 0 rfl) ?_
  refine lv_iload hx hb dL_law_691 (lv_at hl 4 rfl) ?_
  refine lv_iconst (v := (nI (2))) hx hb dL_law_693 (by decide) ?_
  refine r_iadd hx hb dL_law_694 ?_
  refine r_sld C hX hbl hbA G (j := i + 2) rfl (by omega) (by omega) dL_law_695 ?_
  refine lv_aload_n hx hb dL_law_696 rfl (lv_at hl 0 rfl) ?_
  refine lv_iload hx hb dL_law_697 (lv_at hl 4 rfl) ?_
  refine lv_iconst (v := (nI (3))) hx hb dL_law_699 (by decide) ?_
  refine r_iadd hx hb dL_law_700 ?_
  refine r_sld C hX hbl hbA G (j := i + 3) rfl (by omega) (by omega) dL_law_701 ?_
  refine lv_aload_n hx hb dL_law_702 rfl (lv_at hl 0 rfl) ?_
  refine lv_iload hx hb dL_law_703 (lv_at hl 4 rfl) ?_
  refine lv_iconst (v := (nI (4))) hx hb dL_law_705 (by decide) ?_
  refine r_iadd hx hb dL_law_706 ?_
  refine r_sld C hX hbl hbA G (j := i + 4) rfl (by omega) (by omega) dL_law_707 ?_
  refine lv_aload_n hx hb dL_law_708 rfl (lv_at hl 0 rfl) ?_
  refine lv_iload hx hb dL_law_709 (lv_at hl 4 rfl) ?_
  refine lv_iconst (v := (nI (5))) hx hb dL_law_711 (by decide) ?_
  refine r_iadd hx hb dL_law_712 ?_
  refine r_sld C hX hbl hbA G (j := i + 5) rfl (by omega) (by omega) dL_law_713 ?_
  refine lv_aload_n hx hb dL_law_714 rfl (lv_at hl 0 rfl) ?_
  refine lv_iload hx hb dL_law_715 (lv_at hl 4 rfl) ?_
  refine lv_bipush (v := (nI (6))) hx hb dL_law_717 (by decide) ?_
  refine r_iadd hx hb dL_law_719 ?_
  refine r_sld C hX hbl hbA G (j := i + 6) rfl (by omega) (by omega) dL_law_720 ?_
  refine r_aiL G hA (r_rV (na := 6) (As := [.int (xs (i + 1)), .int (xs (i + 2)), .int (xs (i + 3)), .int (xs (i + 4)), .int (xs (i + 5)), .int (xs (i + 6))]) (rest := [.int (r1)]) C G.left (c_X7_share l D cI cO cL b I' J' F' G' (xs (i + 1)) (xs (i + 2)) (xs (i + 3)) (xs (i + 4)) (xs (i + 5)) (xs (i + 6)) h.m1 h.mLb h.mWt h.mL h.m3 h.m4 h.m2 h.m5) gL_law_X7_share rfl (by decide +kernel) ⟨Nat.le_of_ble_eq_true rfl, Nat.le_of_ble_eq_true rfl⟩ 0 rfl rfl rfl hl.1 rfl (Nat.le_of_ble_eq_true rfl) dL_law_721 ⟨by show cells + 0 + 0 ≤ 601024; omega, by show slots + 0 + 0 ≤ 7293034; omega⟩) (fun r2 w2 H locs hp2 G => ?_)
  have G := G.swap
  obtain ⟨er, hR2⟩ := sim_share h hp1 hp2
  refine lv_icmp_eq (tgt := 964) hx hb dL_law_724 (by decide) (fun _ => ?_) (fun cq => absurd er cq)
  refine W.widen (k := cells + 3) (n := slots + 1700) (by show cells + 0 + 0 + 0 ≤ cells + 3; omega) (by show slots + 0 + 0 + 0 ≤ slots + 1700; omega) ?_
  exact NEXT _ _ _ _ _ _ hR2 G hl
set_option maxHeartbeats 4000000 in
set_option maxRecDepth 100000 in
theorem law_once {p : Program} (l : Launch) {e : Env} {s : State} {m : MethodId} {below : List Frame} {meth : Method} {c : Code} {H : Heap} {locs : List Loc} {cells slots : Nat} {Q : State → Prop} {ls : Array Slot} {bs L lo : Nat} {xs : Nat → Int32} {D : va_G} {cI cO cL : ClassId} {A : Nat → Prop} {a b : Nat → Nat} {g : Nat → Int64} {w w' : va_W} (C : Cx p s m c #[Value.ref bs] cL_law 7 wsL_law RL D (TY cI cO cL)) (hA : ∀ q : Nat, s.heap.size ≤ q → A q) (hX : va_X bs L xs s s.heap) (hbl : bs < s.heap.size) (hbA : ¬ A bs) (hL : L ≤ 3584) (i : Nat) (hi : i + 7 ≤ L) (hcs : cells + 3 ≤ 601024) (hss : slots + 1700 ≤ 7293034) (hR : RelW cI cO a b w w') (G : Wd A s.heap D (w ++ (w' ++ lgW cL lo g)) H locs) (hl : lv_has ls 7 [(0, .ref bs), (1, .ref (a 0)), (2, .ref (b 0)), (3, .ref lo), (4, .int (nI i))])
    (NEXT : ∀ (w1 w2 : va_W) (g' : Nat → Int64) (H1 : Heap) (locs1 : List Loc) (ls1 : Array Slot), RelW cI cO a b w1 w2 → Wd A s.heap D (w1 ++ (w2 ++ lgW cL lo g')) H1 locs1 → lv_has ls1 7 [(0, .ref bs), (1, .ref (a 0)), (2, .ref (b 0)), (3, .ref lo), (4, .int (nI i))] → W p l e room_1 s m #[Value.ref bs] below meth c H1 locs1 (cells + 3) (slots + 1700) Q (F0 m 964 ls1 [])) : W p l e room_1 s m #[Value.ref bs] below meth c H locs cells slots Q (F0 m 729 ls []) := by
  obtain ⟨ca, ia, n, O, I, J, F, E, K, G0, I', J', F', G', rfl, rfl, h⟩ := hR
  obtain ⟨⟨hx, hb, hml, hown, hts⟩, hK, hN⟩ := id C
  refine lv_aload_n hx hb dL_law_729 rfl (lv_at hl 1 rfl) ?_
  refine lv_aload_n hx hb dL_law_730 rfl (lv_at hl 0 rfl) ?_
  refine lv_iload hx hb dL_law_731 (lv_at hl 4 rfl) ?_
  refine lv_iconst (v := (nI (1))) hx hb dL_law_733 (by decide) ?_
  refine r_iadd hx hb dL_law_734 ?_
  refine r_sld C hX hbl hbA G (j := i + 1) rfl (by omega) (by omega) dL_law_735 ?_
  refine lv_aload_n hx hb dL_law_736 rfl (lv_at hl 0 rfl) ?_
  refine lv_iload hx hb dL_law_737 (lv_at hl 4 rfl) ?_
  refine lv_iconst (v := (nI (2))) hx hb dL_law_739 (by decide) ?_
  refine r_iadd hx hb dL_law_740 ?_
  refine r_sld C hX hbl hbA G (j := i + 2) rfl (by omega) (by omega) dL_law_741 ?_
  refine r_aiL G hA (r_rV (na := 2) (As := [.int (xs (i + 1)), .int (xs (i + 2))]) (rest := []) C G.left (c_X6_once l D cI cO cL a ca ia n O I J F E K G0 (xs (i + 1)) (xs (i + 2)) h.b3 h.hO h.hin h.hLb h.hWt h.hK3 h.b5 h.b6 h.b4 h.b7) gL_law_X6_once rfl (by decide +kernel) ⟨Nat.le_of_ble_eq_true rfl, Nat.le_of_ble_eq_true rfl⟩ 0 rfl rfl rfl hl.1 rfl (Nat.le_of_ble_eq_true rfl) dL_law_742 ⟨by show cells + 0 ≤ 601024; omega, by show slots + 0 ≤ 7293034; omega⟩) (fun r1 w1 H locs hp1 G => ?_)
  have G := G.swap
  refine lv_aload_n hx hb dL_law_745 rfl (lv_at hl 2 rfl) ?_
  refine lv_aload_n hx hb dL_law_746 rfl (lv_at hl 0 rfl) ?_
  refine lv_iload hx hb dL_law_747 (lv_at hl 4 rfl) ?_
  refine lv_iconst (v := (nI (1))) hx hb dL_law_749 (by decide) ?_
  refine r_iadd hx hb dL_law_750 ?_
  refine r_sld C hX hbl hbA G (j := i + 1) rfl (by omega) (by omega) dL_law_751 ?_
  refine lv_aload_n hx hb dL_law_752 rfl (lv_at hl 0 rfl) ?_
  refine lv_iload hx hb dL_law_753 (lv_at hl 4 rfl) ?_
  refine lv_iconst (v := (nI (2))) hx hb dL_law_755 (by decide) ?_
  refine r_iadd hx hb dL_law_756 ?_
  refine r_sld C hX hbl hbA G (j := i + 2) rfl (by omega) (by omega) dL_law_757 ?_
  refine r_aiL G hA (r_rV (na := 2) (As := [.int (xs (i + 1)), .int (xs (i + 2))]) (rest := [.int (r1)]) C G.left (c_X7_once l D cI cO cL b I' J' F' G' (xs (i + 1)) (xs (i + 2)) h.m1 h.mLb h.mWt h.mL h.m3 h.m4 h.m2 h.m5) gL_law_X7_once rfl (by decide +kernel) ⟨Nat.le_of_ble_eq_true rfl, Nat.le_of_ble_eq_true rfl⟩ 0 rfl rfl rfl hl.1 rfl (Nat.le_of_ble_eq_true rfl) dL_law_758 ⟨by show cells + 0 + 0 ≤ 601024; omega, by show slots + 0 + 0 ≤ 7293034; omega⟩) (fun r2 w2 H locs hp2 G => ?_)
  have G := G.swap
  obtain ⟨er, hR2⟩ := sim_once h hp1 hp2
  refine lv_icmp_eq (tgt := 964) hx hb dL_law_761 (by decide) (fun _ => ?_) (fun cq => absurd er cq)
  refine W.widen (k := cells + 3) (n := slots + 1700) (by show cells + 0 + 0 + 0 ≤ cells + 3; omega) (by show slots + 0 + 0 + 0 ≤ slots + 1700; omega) ?_
  exact NEXT _ _ _ _ _ _ hR2 G hl
set_option maxHeartbeats 4000000 in
set_option maxRecDepth 100000 in
theorem law_resume {p : Program} (l : Launch) {e : Env} {s : State} {m : MethodId} {below : List Frame} {meth : Method} {c : Code} {H : Heap} {locs : List Loc} {cells slots : Nat} {Q : State → Prop} {ls : Array Slot} {bs L lo : Nat} {xs : Nat → Int32} {D : va_G} {cI cO cL : ClassId} {A : Nat → Prop} {a b : Nat → Nat} {g : Nat → Int64} {w w' : va_W} (C : Cx p s m c #[Value.ref bs] cL_law 7 wsL_law RL D (TY cI cO cL)) (hA : ∀ q : Nat, s.heap.size ≤ q → A q) (hX : va_X bs L xs s s.heap) (hbl : bs < s.heap.size) (hbA : ¬ A bs) (hL : L ≤ 3584) (i : Nat) (hi : i + 7 ≤ L) (hcs : cells + 3 ≤ 601024) (hss : slots + 1700 ≤ 7293034) (hR : RelW cI cO a b w w') (G : Wd A s.heap D (w ++ (w' ++ lgW cL lo g)) H locs) (hl : lv_has ls 7 [(0, .ref bs), (1, .ref (a 0)), (2, .ref (b 0)), (3, .ref lo), (4, .int (nI i))])
    (NEXT : ∀ (w1 w2 : va_W) (g' : Nat → Int64) (H1 : Heap) (locs1 : List Loc) (ls1 : Array Slot), RelW cI cO a b w1 w2 → Wd A s.heap D (w1 ++ (w2 ++ lgW cL lo g')) H1 locs1 → lv_has ls1 7 [(0, .ref bs), (1, .ref (a 0)), (2, .ref (b 0)), (3, .ref lo), (4, .int (nI i))] → W p l e room_1 s m #[Value.ref bs] below meth c H1 locs1 (cells + 3) (slots + 1700) Q (F0 m 964 ls1 [])) : W p l e room_1 s m #[Value.ref bs] below meth c H locs cells slots Q (F0 m 766 ls []) := by
  obtain ⟨ca, ia, n, O, I, J, F, E, K, G0, I', J', F', G', rfl, rfl, h⟩ := hR
  obtain ⟨⟨hx, hb, hml, hown, hts⟩, hK, hN⟩ := id C
  refine lv_aload_n hx hb dL_law_766 rfl (lv_at hl 1 rfl) ?_
  refine lv_aload_n hx hb dL_law_767 rfl (lv_at hl 0 rfl) ?_
  refine lv_iload hx hb dL_law_768 (lv_at hl 4 rfl) ?_
  refine lv_iconst (v := (nI (1))) hx hb dL_law_770 (by decide) ?_
  refine r_iadd hx hb dL_law_771 ?_
  refine r_sld C hX hbl hbA G (j := i + 1) rfl (by omega) (by omega) dL_law_772 ?_
  refine lv_aload_n hx hb dL_law_773 rfl (lv_at hl 0 rfl) ?_
  refine lv_iload hx hb dL_law_774 (lv_at hl 4 rfl) ?_
  refine lv_iconst (v := (nI (2))) hx hb dL_law_776 (by decide) ?_
  refine r_iadd hx hb dL_law_777 ?_
  refine r_sld C hX hbl hbA G (j := i + 2) rfl (by omega) (by omega) dL_law_778 ?_
  refine lv_aload_n hx hb dL_law_779 rfl (lv_at hl 0 rfl) ?_
  refine lv_iload hx hb dL_law_780 (lv_at hl 4 rfl) ?_
  refine lv_iconst (v := (nI (3))) hx hb dL_law_782 (by decide) ?_
  refine r_iadd hx hb dL_law_783 ?_
  refine r_sld C hX hbl hbA G (j := i + 3) rfl (by omega) (by omega) dL_law_784 ?_
  refine r_aiL G hA (r_rV (na := 3) (As := [.int (xs (i + 1)), .int (xs (i + 2)), .int (xs (i + 3))]) (rest := []) C G.left (c_X6_resume l D cI cO cL a ca ia n O I J F E K G0 (xs (i + 1)) (xs (i + 2)) (xs (i + 3)) h.b3) gL_law_X6_resume rfl (by decide +kernel) ⟨Nat.le_of_ble_eq_true rfl, Nat.le_of_ble_eq_true rfl⟩ 0 rfl rfl rfl hl.1 rfl (Nat.le_of_ble_eq_true rfl) dL_law_785 ⟨by show cells + 0 ≤ 601024; omega, by show slots + 0 ≤ 7293034; omega⟩) (fun r1 w1 H locs hp1 G => ?_)
  have G := G.swap
  refine lv_aload_n hx hb dL_law_788 rfl (lv_at hl 2 rfl) ?_
  refine lv_aload_n hx hb dL_law_789 rfl (lv_at hl 0 rfl) ?_
  refine lv_iload hx hb dL_law_790 (lv_at hl 4 rfl) ?_
  refine lv_iconst (v := (nI (1))) hx hb dL_law_792 (by decide) ?_
  refine r_iadd hx hb dL_law_793 ?_
  refine r_sld C hX hbl hbA G (j := i + 1) rfl (by omega) (by omega) dL_law_794 ?_
  refine lv_aload_n hx hb dL_law_795 rfl (lv_at hl 0 rfl) ?_
  refine lv_iload hx hb dL_law_796 (lv_at hl 4 rfl) ?_
  refine lv_iconst (v := (nI (2))) hx hb dL_law_798 (by decide) ?_
  refine r_iadd hx hb dL_law_799 ?_
  refine r_sld C hX hbl hbA G (j := i + 2) rfl (by omega) (by omega) dL_law_800 ?_
  refine lv_aload_n hx hb dL_law_801 rfl (lv_at hl 0 rfl) ?_
  refine lv_iload hx hb dL_law_802 (lv_at hl 4 rfl) ?_
  refine lv_iconst (v := (nI (3))) hx hb dL_law_804 (by decide) ?_
  refine r_iadd hx hb dL_law_805 ?_
  refine r_sld C hX hbl hbA G (j := i + 3) rfl (by omega) (by omega) dL_law_806 ?_
  refine r_aiL G hA (r_rV (na := 3) (As := [.int (xs (i + 1)), .int (xs (i + 2)), .int (xs (i + 3))]) (rest := [.int (r1)]) C G.left (c_X7_resume l D cI cO cL b I' J' F' G' (xs (i + 1)) (xs (i + 2)) (xs (i + 3)) h.m1) gL_law_X7_resume rfl (by decide +kernel) ⟨Nat.le_of_ble_eq_true rfl, Nat.le_of_ble_eq_true rfl⟩ 0 rfl rfl rfl hl.1 rfl (Nat.le_of_ble_eq_true rfl) dL_law_807 ⟨by show cells + 0 + 0 ≤ 601024; omega, by show slots + 0 + 0 ≤ 7293034; omega⟩) (fun r2 w2 H locs hp2 G => ?_)
  have G := G.swap
  obtain ⟨er, hR2⟩ := sim_resume h hp1 hp2
  refine lv_icmp_eq (tgt := 964) hx hb dL_law_810 (by decide) (fun _ => ?_) (fun cq => absurd er cq)
  refine W.widen (k := cells + 3) (n := slots + 1700) (by show cells + 0 + 0 + 0 ≤ cells + 3; omega) (by show slots + 0 + 0 + 0 ≤ slots + 1700; omega) ?_
  exact NEXT _ _ _ _ _ _ hR2 G hl
set_option maxHeartbeats 4000000 in
set_option maxRecDepth 100000 in
theorem law_next {p : Program} (l : Launch) {e : Env} {s : State} {m : MethodId} {below : List Frame} {meth : Method} {c : Code} {H : Heap} {locs : List Loc} {cells slots : Nat} {Q : State → Prop} {ls : Array Slot} {bs L lo : Nat} {xs : Nat → Int32} {D : va_G} {cI cO cL : ClassId} {A : Nat → Prop} {a b : Nat → Nat} {g : Nat → Int64} {w w' : va_W} (C : Cx p s m c #[Value.ref bs] cL_law 7 wsL_law RL D (TY cI cO cL)) (hA : ∀ q : Nat, s.heap.size ≤ q → A q) (hX : va_X bs L xs s s.heap) (hbl : bs < s.heap.size) (hbA : ¬ A bs) (hL : L ≤ 3584) (i : Nat) (hi : i + 7 ≤ L) (hcs : cells + 3 ≤ 601024) (hss : slots + 1700 ≤ 7293034) (hR : RelW cI cO a b w w') (G : Wd A s.heap D (w ++ (w' ++ lgW cL lo g)) H locs) (hl : lv_has ls 7 [(0, .ref bs), (1, .ref (a 0)), (2, .ref (b 0)), (3, .ref lo), (4, .int (nI i))])
    (NEXT : ∀ (w1 w2 : va_W) (g' : Nat → Int64) (H1 : Heap) (locs1 : List Loc) (ls1 : Array Slot), RelW cI cO a b w1 w2 → Wd A s.heap D (w1 ++ (w2 ++ lgW cL lo g')) H1 locs1 → lv_has ls1 7 [(0, .ref bs), (1, .ref (a 0)), (2, .ref (b 0)), (3, .ref lo), (4, .int (nI i))] → W p l e room_1 s m #[Value.ref bs] below meth c H1 locs1 (cells + 3) (slots + 1700) Q (F0 m 964 ls1 [])) : W p l e room_1 s m #[Value.ref bs] below meth c H locs cells slots Q (F0 m 815 ls []) := by
  obtain ⟨ca, ia, n, O, I, J, F, E, K, G0, I', J', F', G', rfl, rfl, h⟩ := hR
  obtain ⟨⟨hx, hb, hml, hown, hts⟩, hK, hN⟩ := id C
  refine lv_aload_n hx hb dL_law_815 rfl (lv_at hl 1 rfl) ?_
  refine r_aiL G hA (r_rV (na := 0) (As := []) (rest := []) C G.left (c_X6_next l D cI cO cL a ca ia n O I J F E K G0 h.b3 h.hO h.hin h.hLb h.hWt h.hK3 h.b5 h.b6 h.b4 h.b7 h.b0 h.b1 h.b2) gL_law_X6_next rfl (by decide +kernel) ⟨Nat.le_of_ble_eq_true rfl, Nat.le_of_ble_eq_true rfl⟩ 0 rfl rfl rfl hl.1 rfl (Nat.le_of_ble_eq_true rfl) dL_law_816 ⟨by show cells + 0 ≤ 601024; omega, by show slots + 0 ≤ 7293034; omega⟩) (fun r1 w1 H locs hp1 G => ?_)
  have G := G.swap
  refine lv_aload_n hx hb dL_law_819 rfl (lv_at hl 2 rfl) ?_
  refine r_aiL G hA (r_rV (na := 0) (As := []) (rest := [.int (r1)]) C G.left (c_X7_next l D cI cO cL b I' J' F' G' h.m1 h.mLb h.mWt h.mL h.m3 h.m4 h.m2 h.m5 h.m6 h.m7 h.m8) gL_law_X7_next rfl (by decide +kernel) ⟨Nat.le_of_ble_eq_true rfl, Nat.le_of_ble_eq_true rfl⟩ 0 rfl rfl rfl hl.1 rfl (Nat.le_of_ble_eq_true rfl) dL_law_820 ⟨by show cells + 0 + 0 ≤ 601024; omega, by show slots + 0 + 0 ≤ 7293034; omega⟩) (fun r2 w2 H locs hp2 G => ?_)
  have G := G.swap
  obtain ⟨er, hR2⟩ := sim_next h hp1 hp2
  refine lv_icmp_eq (tgt := 964) hx hb dL_law_823 (by decide) (fun _ => ?_) (fun cq => absurd er cq)
  refine W.widen (k := cells + 3) (n := slots + 1700) (by show cells + 0 + 0 + 0 ≤ cells + 3; omega) (by show slots + 0 + 0 + 0 ≤ slots + 1700; omega) ?_
  exact NEXT _ _ _ _ _ _ hR2 G hl
set_option maxHeartbeats 4000000 in
set_option maxRecDepth 100000 in
theorem law_at {p : Program} (l : Launch) {e : Env} {s : State} {m : MethodId} {below : List Frame} {meth : Method} {c : Code} {H : Heap} {locs : List Loc} {cells slots : Nat} {Q : State → Prop} {ls : Array Slot} {bs L lo : Nat} {xs : Nat → Int32} {D : va_G} {cI cO cL : ClassId} {A : Nat → Prop} {a b : Nat → Nat} {g : Nat → Int64} {w w' : va_W} (C : Cx p s m c #[Value.ref bs] cL_law 7 wsL_law RL D (TY cI cO cL)) (hA : ∀ q : Nat, s.heap.size ≤ q → A q) (hX : va_X bs L xs s s.heap) (hbl : bs < s.heap.size) (hbA : ¬ A bs) (hL : L ≤ 3584) (i : Nat) (hi : i + 7 ≤ L) (hcs : cells + 3 ≤ 601024) (hss : slots + 1700 ≤ 7293034) (hR : RelW cI cO a b w w') (G : Wd A s.heap D (w ++ (w' ++ lgW cL lo g)) H locs) (hl : lv_has ls 7 [(0, .ref bs), (1, .ref (a 0)), (2, .ref (b 0)), (3, .ref lo), (4, .int (nI i))])
    (NEXT : ∀ (w1 w2 : va_W) (g' : Nat → Int64) (H1 : Heap) (locs1 : List Loc) (ls1 : Array Slot), RelW cI cO a b w1 w2 → Wd A s.heap D (w1 ++ (w2 ++ lgW cL lo g')) H1 locs1 → lv_has ls1 7 [(0, .ref bs), (1, .ref (a 0)), (2, .ref (b 0)), (3, .ref lo), (4, .int (nI i))] → W p l e room_1 s m #[Value.ref bs] below meth c H1 locs1 (cells + 3) (slots + 1700) Q (F0 m 964 ls1 [])) : W p l e room_1 s m #[Value.ref bs] below meth c H locs cells slots Q (F0 m 828 ls []) := by
  obtain ⟨ca, ia, n, O, I, J, F, E, K, G0, I', J', F', G', rfl, rfl, h⟩ := hR
  obtain ⟨⟨hx, hb, hml, hown, hts⟩, hK, hN⟩ := id C
  refine lv_aload_n hx hb dL_law_828 rfl (lv_at hl 1 rfl) ?_
  refine lv_aload_n hx hb dL_law_829 rfl (lv_at hl 0 rfl) ?_
  refine lv_iload hx hb dL_law_830 (lv_at hl 4 rfl) ?_
  refine lv_iconst (v := (nI (1))) hx hb dL_law_832 (by decide) ?_
  refine r_iadd hx hb dL_law_833 ?_
  refine r_sld C hX hbl hbA G (j := i + 1) rfl (by omega) (by omega) dL_law_834 ?_
  refine r_aiL G hA (r_rV (na := 1) (As := [.int (xs (i + 1))]) (rest := []) C G.left (c_X6_at l D cI cO cL a ca ia n O I J F E K G0 (xs (i + 1))) gL_law_X6_at rfl (by decide +kernel) ⟨Nat.le_of_ble_eq_true rfl, Nat.le_of_ble_eq_true rfl⟩ 0 rfl rfl rfl hl.1 rfl (Nat.le_of_ble_eq_true rfl) dL_law_835 ⟨by show cells + 0 ≤ 601024; omega, by show slots + 0 ≤ 7293034; omega⟩) (fun r1 w1 H locs hp1 G => ?_)
  have G := G.swap
  refine lv_aload_n hx hb dL_law_838 rfl (lv_at hl 2 rfl) ?_
  refine lv_aload_n hx hb dL_law_839 rfl (lv_at hl 0 rfl) ?_
  refine lv_iload hx hb dL_law_840 (lv_at hl 4 rfl) ?_
  refine lv_iconst (v := (nI (1))) hx hb dL_law_842 (by decide) ?_
  refine r_iadd hx hb dL_law_843 ?_
  refine r_sld C hX hbl hbA G (j := i + 1) rfl (by omega) (by omega) dL_law_844 ?_
  refine r_aiL G hA (r_rV (na := 1) (As := [.int (xs (i + 1))]) (rest := [.int (r1)]) C G.left (c_X7_at l D cI cO cL b I' J' F' G' (xs (i + 1))) gL_law_X7_at rfl (by decide +kernel) ⟨Nat.le_of_ble_eq_true rfl, Nat.le_of_ble_eq_true rfl⟩ 0 rfl rfl rfl hl.1 rfl (Nat.le_of_ble_eq_true rfl) dL_law_845 ⟨by show cells + 0 + 0 ≤ 601024; omega, by show slots + 0 + 0 ≤ 7293034; omega⟩) (fun r2 w2 H locs hp2 G => ?_)
  have G := G.swap
  obtain ⟨er, hR2⟩ := sim_at h hp1 hp2
  refine lv_icmp_eq (tgt := 964) hx hb dL_law_848 (by decide) (fun _ => ?_) (fun cq => absurd er cq)
  refine W.widen (k := cells + 3) (n := slots + 1700) (by show cells + 0 + 0 + 0 ≤ cells + 3; omega) (by show slots + 0 + 0 + 0 ≤ slots + 1700; omega) ?_
  exact NEXT _ _ _ _ _ _ hR2 G hl
set_option maxHeartbeats 4000000 in
set_option maxRecDepth 100000 in
theorem law_act {p : Program} (l : Launch) {e : Env} {s : State} {m : MethodId} {below : List Frame} {meth : Method} {c : Code} {H : Heap} {locs : List Loc} {cells slots : Nat} {Q : State → Prop} {ls : Array Slot} {bs L lo : Nat} {xs : Nat → Int32} {D : va_G} {cI cO cL : ClassId} {A : Nat → Prop} {a b : Nat → Nat} {g : Nat → Int64} {w w' : va_W} (C : Cx p s m c #[Value.ref bs] cL_law 7 wsL_law RL D (TY cI cO cL)) (hA : ∀ q : Nat, s.heap.size ≤ q → A q) (hX : va_X bs L xs s s.heap) (hbl : bs < s.heap.size) (hbA : ¬ A bs) (hL : L ≤ 3584) (i : Nat) (hi : i + 7 ≤ L) (hcs : cells + 3 ≤ 601024) (hss : slots + 1700 ≤ 7293034) (hR : RelW cI cO a b w w') (G : Wd A s.heap D (w ++ (w' ++ lgW cL lo g)) H locs) (hl : lv_has ls 7 [(0, .ref bs), (1, .ref (a 0)), (2, .ref (b 0)), (3, .ref lo), (4, .int (nI i))])
    (NEXT : ∀ (w1 w2 : va_W) (g' : Nat → Int64) (H1 : Heap) (locs1 : List Loc) (ls1 : Array Slot), RelW cI cO a b w1 w2 → Wd A s.heap D (w1 ++ (w2 ++ lgW cL lo g')) H1 locs1 → lv_has ls1 7 [(0, .ref bs), (1, .ref (a 0)), (2, .ref (b 0)), (3, .ref lo), (4, .int (nI i))] → W p l e room_1 s m #[Value.ref bs] below meth c H1 locs1 (cells + 3) (slots + 1700) Q (F0 m 964 ls1 [])) : W p l e room_1 s m #[Value.ref bs] below meth c H locs cells slots Q (F0 m 853 ls []) := by
  obtain ⟨ca, ia, n, O, I, J, F, E, K, G0, I', J', F', G', rfl, rfl, h⟩ := hR
  obtain ⟨⟨hx, hb, hml, hown, hts⟩, hK, hN⟩ := id C
  refine lv_aload_n hx hb dL_law_853 rfl (lv_at hl 1 rfl) ?_
  refine lv_aload_n hx hb dL_law_854 rfl (lv_at hl 0 rfl) ?_
  refine lv_iload hx hb dL_law_855 (lv_at hl 4 rfl) ?_
  refine lv_iconst (v := (nI (1))) hx hb dL_law_857 (by decide) ?_
  refine r_iadd hx hb dL_law_858 ?_
  refine r_sld C hX hbl hbA G (j := i + 1) rfl (by omega) (by omega) dL_law_859 ?_
  refine lv_aload_n hx hb dL_law_860 rfl (lv_at hl 0 rfl) ?_
  refine lv_iload hx hb dL_law_861 (lv_at hl 4 rfl) ?_
  refine lv_iconst (v := (nI (2))) hx hb dL_law_863 (by decide) ?_
  refine r_iadd hx hb dL_law_864 ?_
  refine r_sld C hX hbl hbA G (j := i + 2) rfl (by omega) (by omega) dL_law_865 ?_
  refine lv_aload_n hx hb dL_law_866 rfl (lv_at hl 0 rfl) ?_
  refine lv_iload hx hb dL_law_867 (lv_at hl 4 rfl) ?_
  refine lv_iconst (v := (nI (3))) hx hb dL_law_869 (by decide) ?_
  refine r_iadd hx hb dL_law_870 ?_
  refine r_sld C hX hbl hbA G (j := i + 3) rfl (by omega) (by omega) dL_law_871 ?_
  refine lv_aload_n hx hb dL_law_872 rfl (lv_at hl 0 rfl) ?_
  refine lv_iload hx hb dL_law_873 (lv_at hl 4 rfl) ?_
  refine lv_iconst (v := (nI (4))) hx hb dL_law_875 (by decide) ?_
  refine r_iadd hx hb dL_law_876 ?_
  refine r_sld C hX hbl hbA G (j := i + 4) rfl (by omega) (by omega) dL_law_877 ?_
  refine r_aiL G hA (r_rV (na := 4) (As := [.int (xs (i + 1)), .int (xs (i + 2)), .int (xs (i + 3)), .int (xs (i + 4))]) (rest := []) C G.left (c_X6_act l D cI cO cL a ca ia n O I J F E K G0 (xs (i + 1)) (xs (i + 2)) (xs (i + 3)) (xs (i + 4)) h.b3 h.hO h.hin h.hRm h.hK0 h.hPc h.hWd) gL_law_X6_act rfl (by decide +kernel) ⟨Nat.le_of_ble_eq_true rfl, Nat.le_of_ble_eq_true rfl⟩ 0 rfl rfl rfl hl.1 rfl (Nat.le_of_ble_eq_true rfl) dL_law_878 ⟨by show cells + 0 ≤ 601024; omega, by show slots + 0 ≤ 7293034; omega⟩) (fun r1 w1 H locs hp1 G => ?_)
  have G := G.swap
  refine lv_aload_n hx hb dL_law_881 rfl (lv_at hl 2 rfl) ?_
  refine lv_aload_n hx hb dL_law_882 rfl (lv_at hl 0 rfl) ?_
  refine lv_iload hx hb dL_law_883 (lv_at hl 4 rfl) ?_
  refine lv_iconst (v := (nI (1))) hx hb dL_law_885 (by decide) ?_
  refine r_iadd hx hb dL_law_886 ?_
  refine r_sld C hX hbl hbA G (j := i + 1) rfl (by omega) (by omega) dL_law_887 ?_
  refine lv_aload_n hx hb dL_law_888 rfl (lv_at hl 0 rfl) ?_
  refine lv_iload hx hb dL_law_889 (lv_at hl 4 rfl) ?_
  refine lv_iconst (v := (nI (2))) hx hb dL_law_891 (by decide) ?_
  refine r_iadd hx hb dL_law_892 ?_
  refine r_sld C hX hbl hbA G (j := i + 2) rfl (by omega) (by omega) dL_law_893 ?_
  refine lv_aload_n hx hb dL_law_894 rfl (lv_at hl 0 rfl) ?_
  refine lv_iload hx hb dL_law_895 (lv_at hl 4 rfl) ?_
  refine lv_iconst (v := (nI (3))) hx hb dL_law_897 (by decide) ?_
  refine r_iadd hx hb dL_law_898 ?_
  refine r_sld C hX hbl hbA G (j := i + 3) rfl (by omega) (by omega) dL_law_899 ?_
  refine lv_aload_n hx hb dL_law_900 rfl (lv_at hl 0 rfl) ?_
  refine lv_iload hx hb dL_law_901 (lv_at hl 4 rfl) ?_
  refine lv_iconst (v := (nI (4))) hx hb dL_law_903 (by decide) ?_
  refine r_iadd hx hb dL_law_904 ?_
  refine r_sld C hX hbl hbA G (j := i + 4) rfl (by omega) (by omega) dL_law_905 ?_
  refine r_aiL G hA (r_rV (na := 4) (As := [.int (xs (i + 1)), .int (xs (i + 2)), .int (xs (i + 3)), .int (xs (i + 4))]) (rest := [.int (r1)]) C G.left (c_X7_act l D cI cO cL b I' J' F' G' (xs (i + 1)) (xs (i + 2)) (xs (i + 3)) (xs (i + 4)) h.m1 h.mKd h.mL h.mHi h.mWi h.mPc h.mWd) gL_law_X7_act rfl (by decide +kernel) ⟨Nat.le_of_ble_eq_true rfl, Nat.le_of_ble_eq_true rfl⟩ 0 rfl rfl rfl hl.1 rfl (Nat.le_of_ble_eq_true rfl) dL_law_906 ⟨by show cells + 0 + 0 ≤ 601024; omega, by show slots + 0 + 0 ≤ 7293034; omega⟩) (fun r2 w2 H locs hp2 G => ?_)
  have G := G.swap
  obtain ⟨er, hR2⟩ := sim_act h hp1 hp2
  refine lv_icmp_eq (tgt := 964) hx hb dL_law_909 (by decide) (fun _ => ?_) (fun cq => absurd er cq)
  refine W.widen (k := cells + 3) (n := slots + 1700) (by show cells + 0 + 0 + 0 ≤ cells + 3; omega) (by show slots + 0 + 0 + 0 ≤ slots + 1700; omega) ?_
  exact NEXT _ _ _ _ _ _ hR2 G hl
set_option maxHeartbeats 4000000 in
set_option maxRecDepth 100000 in
theorem law_out {p : Program} (l : Launch) {e : Env} {s : State} {m : MethodId} {below : List Frame} {meth : Method} {c : Code} {H : Heap} {locs : List Loc} {cells slots : Nat} {Q : State → Prop} {ls : Array Slot} {bs L lo : Nat} {xs : Nat → Int32} {D : va_G} {cI cO cL : ClassId} {A : Nat → Prop} {a b : Nat → Nat} {g : Nat → Int64} {w w' : va_W} (C : Cx p s m c #[Value.ref bs] cL_law 7 wsL_law RL D (TY cI cO cL)) (hA : ∀ q : Nat, s.heap.size ≤ q → A q) (hX : va_X bs L xs s s.heap) (hbl : bs < s.heap.size) (hbA : ¬ A bs) (hL : L ≤ 3584) (i : Nat) (hi : i + 7 ≤ L) (hcs : cells + 3 ≤ 601024) (hss : slots + 1700 ≤ 7293034) (hR : RelW cI cO a b w w') (G : Wd A s.heap D (w ++ (w' ++ lgW cL lo g)) H locs) (hl : lv_has ls 7 [(0, .ref bs), (1, .ref (a 0)), (2, .ref (b 0)), (3, .ref lo), (4, .int (nI i))])
    (NEXT : ∀ (w1 w2 : va_W) (g' : Nat → Int64) (H1 : Heap) (locs1 : List Loc) (ls1 : Array Slot), RelW cI cO a b w1 w2 → Wd A s.heap D (w1 ++ (w2 ++ lgW cL lo g')) H1 locs1 → lv_has ls1 7 [(0, .ref bs), (1, .ref (a 0)), (2, .ref (b 0)), (3, .ref lo), (4, .int (nI i))] → W p l e room_1 s m #[Value.ref bs] below meth c H1 locs1 (cells + 3) (slots + 1700) Q (F0 m 964 ls1 [])) : W p l e room_1 s m #[Value.ref bs] below meth c H locs cells slots Q (F0 m 914 ls []) := by
  obtain ⟨ca, ia, n, O, I, J, F, E, K, G0, I', J', F', G', rfl, rfl, h⟩ := hR
  obtain ⟨⟨hx, hb, hml, hown, hts⟩, hK, hN⟩ := id C
  refine lv_aload_n hx hb dL_law_914 rfl (lv_at hl 1 rfl) ?_
  refine lv_aload_n hx hb dL_law_915 rfl (lv_at hl 0 rfl) ?_
  refine lv_iload hx hb dL_law_916 (lv_at hl 4 rfl) ?_
  refine lv_iconst (v := (nI (1))) hx hb dL_law_918 (by decide) ?_
  refine r_iadd hx hb dL_law_919 ?_
  refine r_sld C hX hbl hbA G (j := i + 1) rfl (by omega) (by omega) dL_law_920 ?_
  refine r_aiL G hA (r_rV (na := 1) (As := [.int (xs (i + 1))]) (rest := []) C G.left (c_X6_out l D cI cO cL a ca ia n O I J F E K G0 (xs (i + 1)) h.b9 h.b10 h.b11 h.b12) gL_law_X6_out rfl (by decide +kernel) ⟨Nat.le_of_ble_eq_true rfl, Nat.le_of_ble_eq_true rfl⟩ 0 rfl rfl rfl hl.1 rfl (Nat.le_of_ble_eq_true rfl) dL_law_921 ⟨by show cells + 0 ≤ 601024; omega, by show slots + 0 ≤ 7293034; omega⟩) (fun r1 w1 H locs hp1 G => ?_)
  have G := G.swap
  refine lv_aload_n hx hb dL_law_924 rfl (lv_at hl 2 rfl) ?_
  refine lv_aload_n hx hb dL_law_925 rfl (lv_at hl 0 rfl) ?_
  refine lv_iload hx hb dL_law_926 (lv_at hl 4 rfl) ?_
  refine lv_iconst (v := (nI (1))) hx hb dL_law_928 (by decide) ?_
  refine r_iadd hx hb dL_law_929 ?_
  refine r_sld C hX hbl hbA G (j := i + 1) rfl (by omega) (by omega) dL_law_930 ?_
  refine r_aiL G hA (r_rV (na := 1) (As := [.int (xs (i + 1))]) (rest := [.int (r1)]) C G.left (c_X7_out l D cI cO cL b I' J' F' G' (xs (i + 1)) h.m9 h.m10 h.m11 h.m12) gL_law_X7_out rfl (by decide +kernel) ⟨Nat.le_of_ble_eq_true rfl, Nat.le_of_ble_eq_true rfl⟩ 0 rfl rfl rfl hl.1 rfl (Nat.le_of_ble_eq_true rfl) dL_law_931 ⟨by show cells + 0 + 0 ≤ 601024; omega, by show slots + 0 + 0 ≤ 7293034; omega⟩) (fun r2 w2 H locs hp2 G => ?_)
  have G := G.swap
  obtain ⟨er, hR2⟩ := sim_out h hp1 hp2
  refine lv_icmp_eq (tgt := 964) hx hb dL_law_934 (by decide) (fun _ => ?_) (fun cq => absurd er cq)
  refine W.widen (k := cells + 3) (n := slots + 1700) (by show cells + 0 + 0 + 0 ≤ cells + 3; omega) (by show slots + 0 + 0 + 0 ≤ slots + 1700; omega) ?_
  exact NEXT _ _ _ _ _ _ hR2 G hl
set_option maxHeartbeats 4000000 in
set_option maxRecDepth 100000 in
theorem law_like {p : Program} (l : Launch) {e : Env} {s : State} {m : MethodId} {below : List Frame} {meth : Method} {c : Code} {H : Heap} {locs : List Loc} {cells slots : Nat} {Q : State → Prop} {ls : Array Slot} {bs L lo : Nat} {xs : Nat → Int32} {D : va_G} {cI cO cL : ClassId} {A : Nat → Prop} {a b : Nat → Nat} {g : Nat → Int64} {w w' : va_W} (C : Cx p s m c #[Value.ref bs] cL_law 7 wsL_law RL D (TY cI cO cL)) (hA : ∀ q : Nat, s.heap.size ≤ q → A q) (hX : va_X bs L xs s s.heap) (hbl : bs < s.heap.size) (hbA : ¬ A bs) (hL : L ≤ 3584) (i : Nat) (hi : i + 7 ≤ L) (hcs : cells + 3 ≤ 601024) (hss : slots + 1700 ≤ 7293034) (hR : RelW cI cO a b w w') (G : Wd A s.heap D (w ++ (w' ++ lgW cL lo g)) H locs) (hl : lv_has ls 7 [(0, .ref bs), (1, .ref (a 0)), (2, .ref (b 0)), (3, .ref lo), (4, .int (nI i))])
    (NEXT : ∀ (w1 w2 : va_W) (g' : Nat → Int64) (H1 : Heap) (locs1 : List Loc) (ls1 : Array Slot), RelW cI cO a b w1 w2 → Wd A s.heap D (w1 ++ (w2 ++ lgW cL lo g')) H1 locs1 → lv_has ls1 7 [(0, .ref bs), (1, .ref (a 0)), (2, .ref (b 0)), (3, .ref lo), (4, .int (nI i))] → W p l e room_1 s m #[Value.ref bs] below meth c H1 locs1 (cells + 3) (slots + 1700) Q (F0 m 964 ls1 [])) : W p l e room_1 s m #[Value.ref bs] below meth c H locs cells slots Q (F0 m 939 ls []) := by
  obtain ⟨ca, ia, n, O, I, J, F, E, K, G0, I', J', F', G', rfl, rfl, h⟩ := hR
  obtain ⟨⟨hx, hb, hml, hown, hts⟩, hK, hN⟩ := id C
  refine lv_aload_n hx hb dL_law_939 rfl (lv_at hl 1 rfl) ?_
  refine lv_aload_n hx hb dL_law_940 rfl (lv_at hl 0 rfl) ?_
  refine lv_iload hx hb dL_law_941 (lv_at hl 4 rfl) ?_
  refine lv_iconst (v := (nI (1))) hx hb dL_law_943 (by decide) ?_
  refine r_iadd hx hb dL_law_944 ?_
  refine r_sld C hX hbl hbA G (j := i + 1) rfl (by omega) (by omega) dL_law_945 ?_
  refine r_aiL G hA (r_rV (na := 1) (As := [.int (xs (i + 1))]) (rest := []) C G.left (c_X6_like l D cI cO cL a ca ia n O I J F E K G0 (xs (i + 1)) h.b3 h.hO h.hin h.hRm h.hK0 h.b9 h.b10 h.b11 h.b12) gL_law_X6_like rfl (by decide +kernel) ⟨Nat.le_of_ble_eq_true rfl, Nat.le_of_ble_eq_true rfl⟩ 0 rfl rfl rfl hl.1 rfl (Nat.le_of_ble_eq_true rfl) dL_law_946 ⟨by show cells + 0 ≤ 601024; omega, by show slots + 0 ≤ 7293034; omega⟩) (fun r1 w1 H locs hp1 G => ?_)
  have G := G.swap
  refine lv_aload_n hx hb dL_law_949 rfl (lv_at hl 2 rfl) ?_
  refine lv_aload_n hx hb dL_law_950 rfl (lv_at hl 0 rfl) ?_
  refine lv_iload hx hb dL_law_951 (lv_at hl 4 rfl) ?_
  refine lv_iconst (v := (nI (1))) hx hb dL_law_953 (by decide) ?_
  refine r_iadd hx hb dL_law_954 ?_
  refine r_sld C hX hbl hbA G (j := i + 1) rfl (by omega) (by omega) dL_law_955 ?_
  refine r_aiL G hA (r_rV (na := 1) (As := [.int (xs (i + 1))]) (rest := [.int (r1)]) C G.left (c_X7_like l D cI cO cL b I' J' F' G' (xs (i + 1)) h.m1 h.mL h.mKd h.mHi h.mWi h.m9 h.m10 h.m11 h.m12) gL_law_X7_like rfl (by decide +kernel) ⟨Nat.le_of_ble_eq_true rfl, Nat.le_of_ble_eq_true rfl⟩ 0 rfl rfl rfl hl.1 rfl (Nat.le_of_ble_eq_true rfl) dL_law_956 ⟨by show cells + 0 + 0 ≤ 601024; omega, by show slots + 0 + 0 ≤ 7293034; omega⟩) (fun r2 w2 H locs hp2 G => ?_)
  have G := G.swap
  obtain ⟨er, hR2⟩ := sim_like h hp1 hp2
  refine lv_icmp_eq (tgt := 964) hx hb dL_law_959 (by decide) (fun _ => ?_) (fun cq => absurd er cq)
  refine W.widen (k := cells + 3) (n := slots + 1700) (by show cells + 0 + 0 + 0 ≤ cells + 3; omega) (by show slots + 0 + 0 + 0 ≤ slots + 1700; omega) ?_
  exact NEXT _ _ _ _ _ _ hR2 G hl
