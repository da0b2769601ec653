/-! ===== the law's calls ===== -/
set_option maxHeartbeats 1000000 in
theorem L_stem {p : Program} {l : Launch} {e : Env} {s : State} {m : MethodId} {below : List Frame} {meth : Method} {c : Code} {b L : Nat} {xs : Nat → Int32} {D : va_G} {T : Nat → ClassId} {a1 a2 : Nat → Nat} (X : LX p s m c b L xs D T) {i : Int} (hi : 0 ≤ i ∧ i + 3 ≤ (L : Int)) {MC MR : Mem} (h : REL MC MR) (nx : ∀ MC' MR' : Mem, REL MC' MR' → LG p l e s m below meth c b D T a1 a2 i MC' MR' 622 []) : LG p l e s m below meth c b D T a1 a2 i MC MR 275 [] := by
  obtain ⟨ord, ho, hs, ha⟩ := REL_lay h
  have hR := REL_ref h
  have hL := laid_ok hR ho
  have hV := same_lOK hL hs
  have hU := CBo_rul h.1
  refine lg_c X dL_law_275 rfl ?_
  refine lg_arg X (k := 1) (by decide) hi dL_law_276 dL_law_277 dL_law_278 dL_law_279 dL_law_280 rfl ?_
  refine lg_arg X (k := 2) (by decide) hi dL_law_281 dL_law_282 dL_law_283 dL_law_284 dL_law_285 rfl ?_
  refine lg_callCI X (n := 2) (c4_stem l a1 _ _ (xz_R xs (i + 1)) (xz_R xs (i + 2)) MC hV hU h.1.2.2.1.1) (cwV 2 X.1.2.2.2.2 (goodIn_L gL_law_X4_stem) rfl rfl rfl (by decide +kernel) ⟨Nat.le_of_ble_eq_true rfl, Nat.le_of_ble_eq_true rfl⟩) rfl rfl (Nat.le_of_ble_eq_true rfl) dL_law_286 rfl (fun z MC' hc => ?_)
  refine lg_r X dL_law_289 rfl ?_
  refine lg_arg X (k := 1) (by decide) hi dL_law_290 dL_law_291 dL_law_292 dL_law_293 dL_law_294 rfl ?_
  refine lg_arg X (k := 2) (by decide) hi dL_law_295 dL_law_296 dL_law_297 dL_law_298 dL_law_299 rfl ?_
  refine lg_callRI X (n := 2) (c5_stem l a2 _ _ (xz_R xs (i + 1)) (xz_R xs (i + 2)) MR ord hR ho) (cwV 2 X.1.2.2.2.2 (goodIn_L gL_law_X5_stem) rfl rfl rfl (by decide +kernel) ⟨Nat.le_of_ble_eq_true rfl, Nat.le_of_ble_eq_true rfl⟩) rfl rfl (Nat.le_of_ble_eq_true rfl) dL_law_300 rfl (fun z2 MR' hr => ?_)
  have ez : z = z2 := by rw [hc.1, hr.1]; exact same_stem hs _ _
  have h2 : REL MC' MR' := REL_c h (fun k _ => by rw [hc.2]) (by rw [hc.2]; exact h.2.1) hr.2
  subst ez
  exact lg_eq X dL_law_303 (by decide) (nx MC' MR' h2)
set_option maxHeartbeats 1000000 in
theorem L_kind {p : Program} {l : Launch} {e : Env} {s : State} {m : MethodId} {below : List Frame} {meth : Method} {c : Code} {b L : Nat} {xs : Nat → Int32} {D : va_G} {T : Nat → ClassId} {a1 a2 : Nat → Nat} (X : LX p s m c b L xs D T) {i : Int} (hi : 0 ≤ i ∧ i + 3 ≤ (L : Int)) {MC MR : Mem} (h : REL MC MR) (nx : ∀ MC' MR' : Mem, REL MC' MR' → LG p l e s m below meth c b D T a1 a2 i MC' MR' 622 []) : LG p l e s m below meth c b D T a1 a2 i MC MR 308 [] := by
  obtain ⟨ord, ho, hs, ha⟩ := REL_lay h
  have hR := REL_ref h
  have hL := laid_ok hR ho
  have hV := same_lOK hL hs
  have hU := CBo_rul h.1
  refine lg_c X dL_law_308 rfl ?_
  refine lg_arg X (k := 1) (by decide) hi dL_law_309 dL_law_310 dL_law_311 dL_law_312 dL_law_313 rfl ?_
  refine lg_arg X (k := 2) (by decide) hi dL_law_314 dL_law_315 dL_law_316 dL_law_317 dL_law_318 rfl ?_
  refine lg_callCI X (n := 2) (c4_kind l a1 _ _ (xz_R xs (i + 1)) (xz_R xs (i + 2)) MC hV hU h.1.2.2.1.1) (cwV 2 X.1.2.2.2.2 (goodIn_L gL_law_X4_kind) rfl rfl rfl (by decide +kernel) ⟨Nat.le_of_ble_eq_true rfl, Nat.le_of_ble_eq_true rfl⟩) rfl rfl (Nat.le_of_ble_eq_true rfl) dL_law_319 rfl (fun z MC' hc => ?_)
  refine lg_r X dL_law_322 rfl ?_
  refine lg_arg X (k := 1) (by decide) hi dL_law_323 dL_law_324 dL_law_325 dL_law_326 dL_law_327 rfl ?_
  refine lg_arg X (k := 2) (by decide) hi dL_law_328 dL_law_329 dL_law_330 dL_law_331 dL_law_332 rfl ?_
  refine lg_callRI X (n := 2) (c5_kind l a2 _ _ (xz_R xs (i + 1)) (xz_R xs (i + 2)) MR ord hR ho) (cwV 2 X.1.2.2.2.2 (goodIn_L gL_law_X5_kind) rfl rfl rfl (by decide +kernel) ⟨Nat.le_of_ble_eq_true rfl, Nat.le_of_ble_eq_true rfl⟩) rfl rfl (Nat.le_of_ble_eq_true rfl) dL_law_333 rfl (fun z2 MR' hr => ?_)
  have ez : z = z2 := by rw [hc.1, hr.1]; exact same_kind hs _ _
  have h2 : REL MC' MR' := REL_c h (fun k _ => by rw [hc.2]) (by rw [hc.2]; exact h.2.1) hr.2
  subst ez
  exact lg_eq X dL_law_336 (by decide) (nx MC' MR' h2)
set_option maxHeartbeats 1000000 in
theorem L_dots {p : Program} {l : Launch} {e : Env} {s : State} {m : MethodId} {below : List Frame} {meth : Method} {c : Code} {b L : Nat} {xs : Nat → Int32} {D : va_G} {T : Nat → ClassId} {a1 a2 : Nat → Nat} (X : LX p s m c b L xs D T) {i : Int} (hi : 0 ≤ i ∧ i + 3 ≤ (L : Int)) {MC MR : Mem} (h : REL MC MR) (nx : ∀ MC' MR' : Mem, REL MC' MR' → LG p l e s m below meth c b D T a1 a2 i MC' MR' 622 []) : LG p l e s m below meth c b D T a1 a2 i MC MR 341 [] := by
  obtain ⟨ord, ho, hs, ha⟩ := REL_lay h
  have hR := REL_ref h
  have hL := laid_ok hR ho
  have hV := same_lOK hL hs
  have hU := CBo_rul h.1
  refine lg_c X dL_law_341 rfl ?_
  refine lg_arg X (k := 1) (by decide) hi dL_law_342 dL_law_343 dL_law_344 dL_law_345 dL_law_346 rfl ?_
  refine lg_arg X (k := 2) (by decide) hi dL_law_347 dL_law_348 dL_law_349 dL_law_350 dL_law_351 rfl ?_
  refine lg_callCI X (n := 2) (c4_dots l a1 _ _ (xz_R xs (i + 1)) (xz_R xs (i + 2)) MC hV hU h.1.2.2.1.1) (cwV 2 X.1.2.2.2.2 (goodIn_L gL_law_X4_dots) rfl rfl rfl (by decide +kernel) ⟨Nat.le_of_ble_eq_true rfl, Nat.le_of_ble_eq_true rfl⟩) rfl rfl (Nat.le_of_ble_eq_true rfl) dL_law_352 rfl (fun z MC' hc => ?_)
  refine lg_r X dL_law_355 rfl ?_
  refine lg_arg X (k := 1) (by decide) hi dL_law_356 dL_law_357 dL_law_358 dL_law_359 dL_law_360 rfl ?_
  refine lg_arg X (k := 2) (by decide) hi dL_law_361 dL_law_362 dL_law_363 dL_law_364 dL_law_365 rfl ?_
  refine lg_callRI X (n := 2) (c5_dots l a2 _ _ (xz_R xs (i + 1)) (xz_R xs (i + 2)) MR ord hR ho) (cwV 2 X.1.2.2.2.2 (goodIn_L gL_law_X5_dots) rfl rfl rfl (by decide +kernel) ⟨Nat.le_of_ble_eq_true rfl, Nat.le_of_ble_eq_true rfl⟩) rfl rfl (Nat.le_of_ble_eq_true rfl) dL_law_366 rfl (fun z2 MR' hr => ?_)
  have ez : z = z2 := by rw [hc.1, hr.1]; exact same_dots hs _ _
  have h2 : REL MC' MR' := REL_c h (fun k _ => by rw [hc.2]) (by rw [hc.2]; exact h.2.1) hr.2
  subst ez
  exact lg_eq X dL_law_369 (by decide) (nx MC' MR' h2)
set_option maxHeartbeats 1000000 in
theorem L_grows {p : Program} {l : Launch} {e : Env} {s : State} {m : MethodId} {below : List Frame} {meth : Method} {c : Code} {b L : Nat} {xs : Nat → Int32} {D : va_G} {T : Nat → ClassId} {a1 a2 : Nat → Nat} (X : LX p s m c b L xs D T) {i : Int} (hi : 0 ≤ i ∧ i + 3 ≤ (L : Int)) {MC MR : Mem} (h : REL MC MR) (nx : ∀ MC' MR' : Mem, REL MC' MR' → LG p l e s m below meth c b D T a1 a2 i MC' MR' 622 []) : LG p l e s m below meth c b D T a1 a2 i MC MR 374 [] := by
  obtain ⟨ord, ho, hs, ha⟩ := REL_lay h
  have hR := REL_ref h
  have hL := laid_ok hR ho
  have hV := same_lOK hL hs
  have hU := CBo_rul h.1
  refine lg_c X dL_law_374 rfl ?_
  refine lg_arg X (k := 1) (by decide) hi dL_law_375 dL_law_376 dL_law_377 dL_law_378 dL_law_379 rfl ?_
  refine lg_arg X (k := 2) (by decide) hi dL_law_380 dL_law_381 dL_law_382 dL_law_383 dL_law_384 rfl ?_
  refine lg_callCI X (n := 2) (c4_grows l a1 _ _ (xz_R xs (i + 1)) (xz_R xs (i + 2)) MC hV hU h.1.2.2.1.1) (cwV 2 X.1.2.2.2.2 (goodIn_L gL_law_X4_grows) rfl rfl rfl (by decide +kernel) ⟨Nat.le_of_ble_eq_true rfl, Nat.le_of_ble_eq_true rfl⟩) rfl rfl (Nat.le_of_ble_eq_true rfl) dL_law_385 rfl (fun z MC' hc => ?_)
  refine lg_r X dL_law_388 rfl ?_
  refine lg_arg X (k := 1) (by decide) hi dL_law_389 dL_law_390 dL_law_391 dL_law_392 dL_law_393 rfl ?_
  refine lg_arg X (k := 2) (by decide) hi dL_law_394 dL_law_395 dL_law_396 dL_law_397 dL_law_398 rfl ?_
  refine lg_callRI X (n := 2) (c5_grows l a2 _ _ (xz_R xs (i + 1)) (xz_R xs (i + 2)) MR ord hR ho) (cwV 2 X.1.2.2.2.2 (goodIn_L gL_law_X5_grows) rfl rfl rfl (by decide +kernel) ⟨Nat.le_of_ble_eq_true rfl, Nat.le_of_ble_eq_true rfl⟩) rfl rfl (Nat.le_of_ble_eq_true rfl) dL_law_399 rfl (fun z2 MR' hr => ?_)
  have ez : z = z2 := by rw [hc.1, hr.1]; exact same_grows hs _ _
  have h2 : REL MC' MR' := REL_c h (fun k _ => by rw [hc.2]) (by rw [hc.2]; exact h.2.1) hr.2
  subst ez
  exact lg_eq X dL_law_402 (by decide) (nx MC' MR' h2)
set_option maxHeartbeats 1000000 in
theorem L_count {p : Program} {l : Launch} {e : Env} {s : State} {m : MethodId} {below : List Frame} {meth : Method} {c : Code} {b L : Nat} {xs : Nat → Int32} {D : va_G} {T : Nat → ClassId} {a1 a2 : Nat → Nat} (X : LX p s m c b L xs D T) {i : Int} (hi : 0 ≤ i ∧ i + 3 ≤ (L : Int)) {MC MR : Mem} (h : REL MC MR) (nx : ∀ MC' MR' : Mem, REL MC' MR' → LG p l e s m below meth c b D T a1 a2 i MC' MR' 622 []) : LG p l e s m below meth c b D T a1 a2 i MC MR 599 [] := by
  obtain ⟨ord, ho, hs, ha⟩ := REL_lay h
  have hR := REL_ref h
  have hL := laid_ok hR ho
  have hV := same_lOK hL hs
  have hU := CBo_rul h.1
  refine lg_c X dL_law_599 rfl ?_
  refine lg_arg X (k := 1) (by decide) hi dL_law_600 dL_law_601 dL_law_602 dL_law_603 dL_law_604 rfl ?_
  refine lg_callCI X (n := 1) (c4_count l a1 _ (xz_R xs (i + 1)) MC hV hU h.1.2.2.1.1) (cwV 1 X.1.2.2.2.2 (goodIn_L gL_law_X4_count) rfl rfl rfl (by decide +kernel) ⟨Nat.le_of_ble_eq_true rfl, Nat.le_of_ble_eq_true rfl⟩) rfl rfl (Nat.le_of_ble_eq_true rfl) dL_law_605 rfl (fun z MC' hc => ?_)
  refine lg_r X dL_law_608 rfl ?_
  refine lg_arg X (k := 1) (by decide) hi dL_law_609 dL_law_610 dL_law_611 dL_law_612 dL_law_613 rfl ?_
  refine lg_callRI X (n := 1) (c5_count l a2 _ (xz_R xs (i + 1)) MR ord hR ho) (cwV 1 X.1.2.2.2.2 (goodIn_L gL_law_X5_count) rfl rfl rfl (by decide +kernel) ⟨Nat.le_of_ble_eq_true rfl, Nat.le_of_ble_eq_true rfl⟩) rfl rfl (Nat.le_of_ble_eq_true rfl) dL_law_614 rfl (fun z2 MR' hr => ?_)
  have ez : z = z2 := by rw [hc.1, hr.1]; exact same_count hs _
  have h2 : REL MC' MR' := REL_c h (fun k _ => by rw [hc.2]) (by rw [hc.2]; exact h.2.1) hr.2
  subst ez
  exact lg_eq X dL_law_617 (by decide) (nx MC' MR' h2)
set_option maxHeartbeats 1000000 in
theorem L_image {p : Program} {l : Launch} {e : Env} {s : State} {m : MethodId} {below : List Frame} {meth : Method} {c : Code} {b L : Nat} {xs : Nat → Int32} {D : va_G} {T : Nat → ClassId} {a1 a2 : Nat → Nat} (X : LX p s m c b L xs D T) {i : Int} (hi : 0 ≤ i ∧ i + 3 ≤ (L : Int)) {MC MR : Mem} (h : REL MC MR) (nx : ∀ MC' MR' : Mem, REL MC' MR' → LG p l e s m below meth c b D T a1 a2 i MC' MR' 622 []) : LG p l e s m below meth c b D T a1 a2 i MC MR 553 [] := by
  refine lg_c X dL_law_553 rfl ?_
  refine lg_arg X (k := 1) (by decide) hi dL_law_554 dL_law_555 dL_law_556 dL_law_557 dL_law_558 rfl ?_
  by_cases hn : 0 ≤ xz xs (i + 1) ∧ xz xs (i + 1) ≤ 1
  · rcases (show xz xs (i + 1) = 0 ∨ xz xs (i + 1) = 1 by omega) with hv | hv
    · rw [hv]
      refine lg_callCI X (n := 1) (c4_image_0 l a1 MC) (cwV 1 X.1.2.2.2.2 (goodIn_L gL_law_X4_image) rfl rfl rfl (by decide +kernel) ⟨Nat.le_of_ble_eq_true rfl, Nat.le_of_ble_eq_true rfl⟩) rfl rfl (Nat.le_of_ble_eq_true rfl) dL_law_559 rfl (fun z MC' hc => ?_)
      refine lg_r X dL_law_562 rfl ?_
      refine lg_arg X (k := 1) (by decide) hi dL_law_563 dL_law_564 dL_law_565 dL_law_566 dL_law_567 rfl ?_
      rw [hv]
      refine lg_callRI X (n := 1) (c5_image l a2 MR 0 (by decide)) (cwV 1 X.1.2.2.2.2 (goodIn_L gL_law_X5_image) rfl rfl rfl (by decide +kernel) ⟨Nat.le_of_ble_eq_true rfl, Nat.le_of_ble_eq_true rfl⟩) rfl rfl (Nat.le_of_ble_eq_true rfl) dL_law_568 rfl (fun z2 MR' hr => ?_)
      obtain ⟨ez, h2⟩ := t_image_0 h hc hr
      subst ez
      exact lg_eq X dL_law_571 (by decide) (nx MC' MR' h2)
    · rw [hv]
      refine lg_callCI X (n := 1) (c4_image_1 l a1 MC) (cwV 1 X.1.2.2.2.2 (goodIn_L gL_law_X4_image) rfl rfl rfl (by decide +kernel) ⟨Nat.le_of_ble_eq_true rfl, Nat.le_of_ble_eq_true rfl⟩) rfl rfl (Nat.le_of_ble_eq_true rfl) dL_law_559 rfl (fun z MC' hc => ?_)
      refine lg_r X dL_law_562 rfl ?_
      refine lg_arg X (k := 1) (by decide) hi dL_law_563 dL_law_564 dL_law_565 dL_law_566 dL_law_567 rfl ?_
      rw [hv]
      refine lg_callRI X (n := 1) (c5_image l a2 MR 1 (by decide)) (cwV 1 X.1.2.2.2.2 (goodIn_L gL_law_X5_image) rfl rfl rfl (by decide +kernel) ⟨Nat.le_of_ble_eq_true rfl, Nat.le_of_ble_eq_true rfl⟩) rfl rfl (Nat.le_of_ble_eq_true rfl) dL_law_568 rfl (fun z2 MR' hr => ?_)
      obtain ⟨ez, h2⟩ := t_image_1 h hc hr
      subst ez
      exact lg_eq X dL_law_571 (by decide) (nx MC' MR' h2)
  · skip
    refine lg_callCI X (n := 1) (c4_image_n l a1 MC _ (xz_R xs (i + 1)) hn) (cwV 1 X.1.2.2.2.2 (goodIn_L gL_law_X4_image) rfl rfl rfl (by decide +kernel) ⟨Nat.le_of_ble_eq_true rfl, Nat.le_of_ble_eq_true rfl⟩) rfl rfl (Nat.le_of_ble_eq_true rfl) dL_law_559 rfl (fun z MC' hc => ?_)
    refine lg_r X dL_law_562 rfl ?_
    refine lg_arg X (k := 1) (by decide) hi dL_law_563 dL_law_564 dL_law_565 dL_law_566 dL_law_567 rfl ?_
    refine lg_callRI X (n := 1) (c5_image l a2 MR _ (xz_R xs (i + 1))) (cwV 1 X.1.2.2.2.2 (goodIn_L gL_law_X5_image) rfl rfl rfl (by decide +kernel) ⟨Nat.le_of_ble_eq_true rfl, Nat.le_of_ble_eq_true rfl⟩) rfl rfl (Nat.le_of_ble_eq_true rfl) dL_law_568 rfl (fun z2 MR' hr => ?_)
    obtain ⟨ez, h2⟩ := t_image_n hn h hc hr
    subst ez
    exact lg_eq X dL_law_571 (by decide) (nx MC' MR' h2)
set_option maxHeartbeats 1000000 in
theorem L_restore {p : Program} {l : Launch} {e : Env} {s : State} {m : MethodId} {below : List Frame} {meth : Method} {c : Code} {b L : Nat} {xs : Nat → Int32} {D : va_G} {T : Nat → ClassId} {a1 a2 : Nat → Nat} (X : LX p s m c b L xs D T) {i : Int} (hi : 0 ≤ i ∧ i + 3 ≤ (L : Int)) {MC MR : Mem} (h : REL MC MR) (nx : ∀ MC' MR' : Mem, REL MC' MR' → LG p l e s m below meth c b D T a1 a2 i MC' MR' 622 []) : LG p l e s m below meth c b D T a1 a2 i MC MR 576 [] := by
  refine lg_c X dL_law_576 rfl ?_
  refine lg_arg X (k := 1) (by decide) hi dL_law_577 dL_law_578 dL_law_579 dL_law_580 dL_law_581 rfl ?_
  by_cases hn : 0 ≤ xz xs (i + 1) ∧ xz xs (i + 1) ≤ 1
  · rcases (show xz xs (i + 1) = 0 ∨ xz xs (i + 1) = 1 by omega) with hv | hv
    · rw [hv]
      refine lg_callCI X (n := 1) (c4_restore_0 l a1 MC (h.1.2.2.2.2.2 0) h.1.2.2.2.1.1 h.1.2.2.2.1.2.1 h.1.2.2.2.1.2.2.1 h.1.2.2.2.1.2.2.2.1 h.1.2.2.2.1.2.2.2.2.1 h.1.2.2.2.1.2.2.2.2.2.1 h.1.2.2.1.2.1 h.1.2.2.1.2.2.1 h.1.2.2.1.2.2.2.1 h.1.2.2.1.2.2.2.2.1) (cwV 1 X.1.2.2.2.2 (goodIn_L gL_law_X4_restore) rfl rfl rfl (by decide +kernel) ⟨Nat.le_of_ble_eq_true rfl, Nat.le_of_ble_eq_true rfl⟩) rfl rfl (Nat.le_of_ble_eq_true rfl) dL_law_582 rfl (fun z MC' hc => ?_)
      refine lg_r X dL_law_585 rfl ?_
      refine lg_arg X (k := 1) (by decide) hi dL_law_586 dL_law_587 dL_law_588 dL_law_589 dL_law_590 rfl ?_
      rw [hv]
      refine lg_callRI X (n := 1) (c5_restore l a2 MR 0 (by decide) (by rw [← h.2.2.2.2.1.1]; exact h.1.2.2.2.2.2)) (cwV 1 X.1.2.2.2.2 (goodIn_L gL_law_X5_restore) rfl rfl rfl (by decide +kernel) ⟨Nat.le_of_ble_eq_true rfl, Nat.le_of_ble_eq_true rfl⟩) rfl rfl (Nat.le_of_ble_eq_true rfl) dL_law_591 rfl (fun z2 MR' hr => ?_)
      obtain ⟨ez, h2⟩ := t_restore_0 h hc hr
      subst ez
      exact lg_eq X dL_law_594 (by decide) (nx MC' MR' h2)
    · rw [hv]
      refine lg_callCI X (n := 1) (c4_restore_1 l a1 MC (h.1.2.2.2.2.2 1) h.1.2.2.2.2.1.1 h.1.2.2.2.2.1.2.1 h.1.2.2.2.2.1.2.2.1 h.1.2.2.2.2.1.2.2.2.1 h.1.2.2.2.2.1.2.2.2.2.1 h.1.2.2.2.2.1.2.2.2.2.2.1 h.1.2.2.1.2.1 h.1.2.2.1.2.2.1 h.1.2.2.1.2.2.2.1 h.1.2.2.1.2.2.2.2.1) (cwV 1 X.1.2.2.2.2 (goodIn_L gL_law_X4_restore) rfl rfl rfl (by decide +kernel) ⟨Nat.le_of_ble_eq_true rfl, Nat.le_of_ble_eq_true rfl⟩) rfl rfl (Nat.le_of_ble_eq_true rfl) dL_law_582 rfl (fun z MC' hc => ?_)
      refine lg_r X dL_law_585 rfl ?_
      refine lg_arg X (k := 1) (by decide) hi dL_law_586 dL_law_587 dL_law_588 dL_law_589 dL_law_590 rfl ?_
      rw [hv]
      refine lg_callRI X (n := 1) (c5_restore l a2 MR 1 (by decide) (by rw [← h.2.2.2.2.1.1]; exact h.1.2.2.2.2.2)) (cwV 1 X.1.2.2.2.2 (goodIn_L gL_law_X5_restore) rfl rfl rfl (by decide +kernel) ⟨Nat.le_of_ble_eq_true rfl, Nat.le_of_ble_eq_true rfl⟩) rfl rfl (Nat.le_of_ble_eq_true rfl) dL_law_591 rfl (fun z2 MR' hr => ?_)
      obtain ⟨ez, h2⟩ := t_restore_1 h hc hr
      subst ez
      exact lg_eq X dL_law_594 (by decide) (nx MC' MR' h2)
  · skip
    refine lg_callCI X (n := 1) (c4_restore_n l a1 MC _ (xz_R xs (i + 1)) hn) (cwV 1 X.1.2.2.2.2 (goodIn_L gL_law_X4_restore) rfl rfl rfl (by decide +kernel) ⟨Nat.le_of_ble_eq_true rfl, Nat.le_of_ble_eq_true rfl⟩) rfl rfl (Nat.le_of_ble_eq_true rfl) dL_law_582 rfl (fun z MC' hc => ?_)
    refine lg_r X dL_law_585 rfl ?_
    refine lg_arg X (k := 1) (by decide) hi dL_law_586 dL_law_587 dL_law_588 dL_law_589 dL_law_590 rfl ?_
    refine lg_callRI X (n := 1) (c5_restore l a2 MR _ (xz_R xs (i + 1)) (by rw [← h.2.2.2.2.1.1]; exact h.1.2.2.2.2.2)) (cwV 1 X.1.2.2.2.2 (goodIn_L gL_law_X5_restore) rfl rfl rfl (by decide +kernel) ⟨Nat.le_of_ble_eq_true rfl, Nat.le_of_ble_eq_true rfl⟩) rfl rfl (Nat.le_of_ble_eq_true rfl) dL_law_591 rfl (fun z2 MR' hr => ?_)
    obtain ⟨ez, h2⟩ := t_restore_n hn h hc hr
    subst ez
    exact lg_eq X dL_law_594 (by decide) (nx MC' MR' h2)
