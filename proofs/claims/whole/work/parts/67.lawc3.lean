/-! ===== the law's calls ===== -/
set_option maxHeartbeats 1000000 in
theorem L_fit {p : Program} {l : Launch} {e : Env} {s : State} {m : MethodId} {below : List Frame} {meth : Method} {c : Code} {b L : Nat} {xs : Nat → Int32} {D : va_G} {T : Nat → ClassId} {a1 a2 : Nat → Nat} (X : LX p s m c b L xs D T) {i : Int} (hi : 0 ≤ i ∧ i + 3 ≤ (L : Int)) {MC MR : Mem} (h : REL MC MR) (nx : ∀ MC' MR' : Mem, REL MC' MR' → LG p l e s m below meth c b D T a1 a2 i MC' MR' 622 []) : LG p l e s m below meth c b D T a1 a2 i MC MR 407 [] := by
  obtain ⟨ord, ho, hs, ha⟩ := REL_lay h
  have hR := REL_ref h
  have hL := laid_ok hR ho
  have hV := same_lOK hL hs
  have hU := CBo_rul h.1
  refine lg_c X dL_law_407 rfl ?_
  refine lg_arg X (k := 1) (by decide) hi dL_law_408 dL_law_409 dL_law_410 dL_law_411 dL_law_412 rfl ?_
  refine lg_arg X (k := 2) (by decide) hi dL_law_413 dL_law_414 dL_law_415 dL_law_416 dL_law_417 rfl ?_
  refine lg_callCI X (n := 2) (c4_fit l a1 _ _ (xz_R xs (i + 1)) (xz_R xs (i + 2)) MC hV hU h.2.1) (cwV 2 X.1.2.2.2.2 (goodIn_L gL_law_X4_fit) rfl rfl rfl (by decide +kernel) ⟨Nat.le_of_ble_eq_true rfl, Nat.le_of_ble_eq_true rfl⟩) rfl rfl (Nat.le_of_ble_eq_true rfl) dL_law_418 rfl (fun z MC' hc => ?_)
  refine lg_r X dL_law_421 rfl ?_
  refine lg_arg X (k := 1) (by decide) hi dL_law_422 dL_law_423 dL_law_424 dL_law_425 dL_law_426 rfl ?_
  refine lg_arg X (k := 2) (by decide) hi dL_law_427 dL_law_428 dL_law_429 dL_law_430 dL_law_431 rfl ?_
  refine lg_callRI X (n := 2) (c5_fit l a2 _ _ (xz_R xs (i + 1)) (xz_R xs (i + 2)) MR ord hR ho) (cwV 2 X.1.2.2.2.2 (goodIn_L gL_law_X5_fit) rfl rfl rfl (by decide +kernel) ⟨Nat.le_of_ble_eq_true rfl, Nat.le_of_ble_eq_true rfl⟩) rfl rfl (Nat.le_of_ble_eq_true rfl) dL_law_432 rfl (fun z2 MR' hr => ?_)
  have ez : z = z2 := by rw [hc.1, hr.1]; exact same_fit hL hs _ _
  have h2 : REL MC' MR' := REL_c h hc.2.1 hc.2.2 hr.2
  subst ez
  exact lg_eq X dL_law_435 (by decide) (nx MC' MR' h2)
set_option maxHeartbeats 1000000 in
theorem L_distortion {p : Program} {l : Launch} {e : Env} {s : State} {m : MethodId} {below : List Frame} {meth : Method} {c : Code} {b L : Nat} {xs : Nat → Int32} {D : va_G} {T : Nat → ClassId} {a1 a2 : Nat → Nat} (X : LX p s m c b L xs D T) {i : Int} (hi : 0 ≤ i ∧ i + 3 ≤ (L : Int)) {MC MR : Mem} (h : REL MC MR) (nx : ∀ MC' MR' : Mem, REL MC' MR' → LG p l e s m below meth c b D T a1 a2 i MC' MR' 622 []) : LG p l e s m below meth c b D T a1 a2 i MC MR 440 [] := by
  obtain ⟨ord, ho, hs, ha⟩ := REL_lay h
  have hR := REL_ref h
  have hL := laid_ok hR ho
  have hV := same_lOK hL hs
  have hU := CBo_rul h.1
  refine lg_c X dL_law_440 rfl ?_
  refine lg_arg X (k := 1) (by decide) hi dL_law_441 dL_law_442 dL_law_443 dL_law_444 dL_law_445 rfl ?_
  refine lg_callCJ X (n := 1) (c4_distortion l a1 _ (xz_R xs (i + 1)) MC hV hU h.2.1) (cwV 1 X.1.2.2.2.2 (goodIn_L gL_law_X4_distortion) rfl rfl rfl (by decide +kernel) ⟨Nat.le_of_ble_eq_true rfl, Nat.le_of_ble_eq_true rfl⟩) rfl rfl (Nat.le_of_ble_eq_true rfl) dL_law_446 rfl (fun z MC' hc => ?_)
  refine lg_r X dL_law_449 rfl ?_
  refine lg_arg X (k := 1) (by decide) hi dL_law_450 dL_law_451 dL_law_452 dL_law_453 dL_law_454 rfl ?_
  refine lg_callRJ X (n := 1) (c5_distortion l a2 _ (xz_R xs (i + 1)) MR ord hR ho) (cwV 1 X.1.2.2.2.2 (goodIn_L gL_law_X5_distortion) rfl rfl rfl (by decide +kernel) ⟨Nat.le_of_ble_eq_true rfl, Nat.le_of_ble_eq_true rfl⟩) rfl rfl (Nat.le_of_ble_eq_true rfl) dL_law_455 rfl (fun z2 MR' hr => ?_)
  have ez : z = z2 := by rw [hc.1, hr.1]; exact same_dist hL hs _
  have h2 : REL MC' MR' := REL_c h hc.2.1 hc.2.2 hr.2
  subst ez
  exact lg_eqJ X dL_law_458 dL_law_459 (by decide) (nx MC' MR' h2)
set_option maxHeartbeats 1000000 in
theorem L_why {p : Program} {l : Launch} {e : Env} {s : State} {m : MethodId} {below : List Frame} {meth : Method} {c : Code} {b L : Nat} {xs : Nat → Int32} {D : va_G} {T : Nat → ClassId} {a1 a2 : Nat → Nat} (X : LX p s m c b L xs D T) {i : Int} (hi : 0 ≤ i ∧ i + 3 ≤ (L : Int)) {MC MR : Mem} (h : REL MC MR) (nx : ∀ MC' MR' : Mem, REL MC' MR' → LG p l e s m below meth c b D T a1 a2 i MC' MR' 622 []) : LG p l e s m below meth c b D T a1 a2 i MC MR 464 [] := by
  obtain ⟨ord, ho, hs, ha⟩ := REL_lay h
  have hR := REL_ref h
  have hL := laid_ok hR ho
  have hV := same_lOK hL hs
  have hU := CBo_rul h.1
  refine lg_c X dL_law_464 rfl ?_
  refine lg_arg X (k := 1) (by decide) hi dL_law_465 dL_law_466 dL_law_467 dL_law_468 dL_law_469 rfl ?_
  refine lg_arg X (k := 2) (by decide) hi dL_law_470 dL_law_471 dL_law_472 dL_law_473 dL_law_474 rfl ?_
  refine lg_callCI X (n := 2) (c4_why l a1 _ _ (xz_R xs (i + 1)) (xz_R xs (i + 2)) MC hV hU h.2.1) (cwV 2 X.1.2.2.2.2 (goodIn_L gL_law_X4_why) rfl rfl rfl (by decide +kernel) ⟨Nat.le_of_ble_eq_true rfl, Nat.le_of_ble_eq_true rfl⟩) rfl rfl (Nat.le_of_ble_eq_true rfl) dL_law_475 rfl (fun z MC' hc => ?_)
  refine lg_r X dL_law_478 rfl ?_
  refine lg_arg X (k := 1) (by decide) hi dL_law_479 dL_law_480 dL_law_481 dL_law_482 dL_law_483 rfl ?_
  refine lg_arg X (k := 2) (by decide) hi dL_law_484 dL_law_485 dL_law_486 dL_law_487 dL_law_488 rfl ?_
  refine lg_callRI X (n := 2) (c5_why l a2 _ _ (xz_R xs (i + 1)) (xz_R xs (i + 2)) MR ord hR ho) (cwV 2 X.1.2.2.2.2 (goodIn_L gL_law_X5_why) rfl rfl rfl (by decide +kernel) ⟨Nat.le_of_ble_eq_true rfl, Nat.le_of_ble_eq_true rfl⟩) rfl rfl (Nat.le_of_ble_eq_true rfl) dL_law_489 rfl (fun z2 MR' hr => ?_)
  have ez : z = z2 := why_eq hL hs hc.1 hc.2.1 hr.1 hr.2.1
  have h2 : REL MC' MR' := REL_c h hc.2.2.1 hc.2.2.2 hr.2.2
  subst ez
  exact lg_eq X dL_law_492 (by decide) (nx MC' MR' h2)
set_option maxHeartbeats 1000000 in
theorem L_best {p : Program} {l : Launch} {e : Env} {s : State} {m : MethodId} {below : List Frame} {meth : Method} {c : Code} {b L : Nat} {xs : Nat → Int32} {D : va_G} {T : Nat → ClassId} {a1 a2 : Nat → Nat} (X : LX p s m c b L xs D T) {i : Int} (hi : 0 ≤ i ∧ i + 3 ≤ (L : Int)) {MC MR : Mem} (h : REL MC MR) (nx : ∀ MC' MR' : Mem, REL MC' MR' → LG p l e s m below meth c b D T a1 a2 i MC' MR' 622 []) : LG p l e s m below meth c b D T a1 a2 i MC MR 497 [] := by
  obtain ⟨ord, ho, hs, ha⟩ := REL_lay h
  have hR := REL_ref h
  have hL := laid_ok hR ho
  have hV := same_lOK hL hs
  have hU := CBo_rul h.1
  refine lg_c X dL_law_497 rfl ?_
  refine lg_arg X (k := 1) (by decide) hi dL_law_498 dL_law_499 dL_law_500 dL_law_501 dL_law_502 rfl ?_
  refine lg_callCI X (n := 1) (c4_best l a1 _ (xz_R xs (i + 1)) MC hV hU h.2.1) (cwV 1 X.1.2.2.2.2 (goodIn_L gL_law_X4_best) rfl rfl rfl (by decide +kernel) ⟨Nat.le_of_ble_eq_true rfl, Nat.le_of_ble_eq_true rfl⟩) rfl rfl (Nat.le_of_ble_eq_true rfl) dL_law_503 rfl (fun z MC' hc => ?_)
  refine lg_r X dL_law_506 rfl ?_
  refine lg_arg X (k := 1) (by decide) hi dL_law_507 dL_law_508 dL_law_509 dL_law_510 dL_law_511 rfl ?_
  refine lg_callRI X (n := 1) (c5_best l a2 _ (xz_R xs (i + 1)) MR ord hR ho) (cwV 1 X.1.2.2.2.2 (goodIn_L gL_law_X5_best) rfl rfl rfl (by decide +kernel) ⟨Nat.le_of_ble_eq_true rfl, Nat.le_of_ble_eq_true rfl⟩) rfl rfl (Nat.le_of_ble_eq_true rfl) dL_law_512 rfl (fun z2 MR' hr => ?_)
  have ez : z = z2 := by rw [hc.1, hr.1]; exact same_best hL hs _
  have h2 : REL MC' MR' := REL_c h hc.2.1 hc.2.2 hr.2
  subst ez
  exact lg_eq X dL_law_515 (by decide) (nx MC' MR' h2)
set_option maxHeartbeats 1000000 in
theorem L_place {p : Program} {l : Launch} {e : Env} {s : State} {m : MethodId} {below : List Frame} {meth : Method} {c : Code} {b L : Nat} {xs : Nat → Int32} {D : va_G} {T : Nat → ClassId} {a1 a2 : Nat → Nat} (X : LX p s m c b L xs D T) {i : Int} (hi : 0 ≤ i ∧ i + 3 ≤ (L : Int)) {MC MR : Mem} (h : REL MC MR) (nx : ∀ MC' MR' : Mem, REL MC' MR' → LG p l e s m below meth c b D T a1 a2 i MC' MR' 622 []) : LG p l e s m below meth c b D T a1 a2 i MC MR 520 [] := by
  obtain ⟨ord, ho, hs, ha⟩ := REL_lay h
  have hR := REL_ref h
  have hL := laid_ok hR ho
  have hV := same_lOK hL hs
  have hU := CBo_rul h.1
  refine lg_c X dL_law_520 rfl ?_
  refine lg_arg X (k := 1) (by decide) hi dL_law_521 dL_law_522 dL_law_523 dL_law_524 dL_law_525 rfl ?_
  refine lg_arg X (k := 2) (by decide) hi dL_law_526 dL_law_527 dL_law_528 dL_law_529 dL_law_530 rfl ?_
  refine lg_callCI X (n := 2) (c4_place l a1 _ _ (xz_R xs (i + 1)) (xz_R xs (i + 2)) MC hV hU h.2.1) (cwV 2 X.1.2.2.2.2 (goodIn_L gL_law_X4_place) rfl rfl rfl (by decide +kernel) ⟨Nat.le_of_ble_eq_true rfl, Nat.le_of_ble_eq_true rfl⟩) rfl rfl (Nat.le_of_ble_eq_true rfl) dL_law_531 rfl (fun z MC' hc => ?_)
  refine lg_r X dL_law_534 rfl ?_
  refine lg_arg X (k := 1) (by decide) hi dL_law_535 dL_law_536 dL_law_537 dL_law_538 dL_law_539 rfl ?_
  refine lg_arg X (k := 2) (by decide) hi dL_law_540 dL_law_541 dL_law_542 dL_law_543 dL_law_544 rfl ?_
  refine lg_callRI X (n := 2) (c5_place l a2 _ _ (xz_R xs (i + 1)) (xz_R xs (i + 2)) MR ord hR ho) (cwV 2 X.1.2.2.2.2 (goodIn_L gL_law_X5_place) rfl rfl rfl (by decide +kernel) ⟨Nat.le_of_ble_eq_true rfl, Nat.le_of_ble_eq_true rfl⟩) rfl rfl (Nat.le_of_ble_eq_true rfl) dL_law_545 rfl (fun z2 MR' hr => ?_)
  have ez : z = z2 := by rw [hc.1, hr.1]; exact same_place hL hs _ _
  have h2 : REL MC' MR' := REL_c h hc.2.1 hc.2.2 hr.2
  subst ez
  exact lg_eq X dL_law_548 (by decide) (nx MC' MR' h2)
