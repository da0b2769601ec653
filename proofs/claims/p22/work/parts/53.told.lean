/-! ===== the class, seen as a reference's memory ===== -/
def viewC (C : Mem) : Mem := fun k =>
  if k = 0 then (fun j => if j = 11 then C 24 0 else if j = 16 then C 24 6 else if j = 1 then C 4 4 else if j = 3 then C 1 1 else 0)
  else if k = 2 then C 9 else if k = 5 then C 25 else if k = 6 then C 26 else if k = 7 then C 27 else if k = 8 then C 28 else if k = 9 then C 29 else if k = 11 then C 30 else if k = 12 then C 31 else if k = 13 then C 32 else fun _ => 0
theorem view_ok {M : Mem} (h : lOK (viewC M)) : (0 ≤ M 24 0 ∧ M 24 0 ≤ 8) ∧ (0 ≤ M 24 6 ∧ M 24 6 ≤ 8) ∧ (∀ j, 0 ≤ j → j < M 24 0 → (0 ≤ M 25 j ∧ M 25 j ≤ 999) ∧ (0 ≤ M 26 j ∧ M 26 j ≤ 999) ∧ M 25 j < M 26 j ∧ (0 ≤ M 29 j ∧ M 29 j < M 24 6)) ∧ (∀ i j, 0 ≤ i → i < j → j < M 24 0 → M 26 i < M 25 j) ∧ ∀ c, 0 ≤ c → c < M 24 6 → (1 ≤ M 30 c ∧ M 30 c ≤ 8) ∧ (1 ≤ M 31 c ∧ M 31 c ≤ 300) ∧ (0 ≤ M 32 c ∧ M 32 c ≤ 300 * M 30 c) := h
theorem view_rul {M : Mem} (h : rulL (viewC M)) : (0 ≤ M 9 1 ∧ M 9 1 ≤ 9) ∧ (0 ≤ M 9 2 ∧ M 9 2 ≤ 9) ∧ (0 ≤ M 9 3 ∧ M 9 3 ≤ 3) ∧ (0 ≤ M 9 4 ∧ M 9 4 ≤ 3) := h
theorem view_stem {M : Mem} (h : lOK (viewC M)) (hR : rulL (viewC M)) : stemOK M := by
  obtain ⟨hn, hg, hs, hsep, hc⟩ := view_ok h
  obtain ⟨r1, r2, r3, r4⟩ := view_rul hR
  refine ⟨hn, r1, r2, r3, r4, fun j a b => ⟨(hs j a b).1, (hs j a b).2.1⟩, fun j a b => ?_⟩
  have p := (hs j a b).2.2.2
  have q := hc (M 29 j) p.1 p.2
  exact ⟨by omega, q.1, q.2.2⟩
def tldQ (M : Mem) (u w z : Int) : Prop := (¬ (0 ≤ u ∧ u ≤ M 4 4 - 1) → z = -1) ∧ ((0 ≤ u ∧ u ≤ M 4 4 - 1) → (w = 0 → z = M 5 u) ∧ (w = 1 → z = M 6 u) ∧ (w = 2 → z = M 7 u) ∧ (w = 3 → z = M 8 u) ∧ (w = 4 → wedge M u z) ∧ (¬ (0 ≤ w ∧ w ≤ 4) → z = -2))
theorem iX4_stem_X3 : ∀ w ∈ wsX30, w ∈ wsX4_stem := fun _ h => List.mem_cons_of_mem _ (List.mem_append_right _ h)
theorem iX4_stem_X4 : ∀ w ∈ wsX40, w ∈ wsX4_stem := fun _ h => List.mem_cons_of_mem _ (List.mem_append_left _ (List.mem_append_right _ h))
set_option maxHeartbeats 4000000 in
set_option maxRecDepth 100000 in
theorem c4_stem (l : Launch) (a : Nat → Nat) (j w : Int) (hj : -2147483648 ≤ j ∧ j < 2147483648) (hw : -2147483648 ≤ w ∧ w < 2147483648) (M : Mem) (hV : lOK (viewC M)) (hR : rulL (viewC M)) (hl : 0 ≤ M 4 4 ∧ M 4 4 ≤ 16) : CtI XS l yX4_stem wsX4_stem ({ frames := 1, cells := 0, slots := 0, locals := 22 } : Room) LC a M [.ref (a 0), .int (iI j), .int (iI w)] (fun z M' => z = stemZ (viewC M) j w ∧ M' = M) := by
  refine CtI.of (y := yX4_stem) (cc := cX4_stem) (maxL := 3) (ret := (some .int)) (lv := [some (.ref (a 0)), some (.int (iI j)), some (.int (iI w))]) (by decide) rfl (Nat.le_of_ble_eq_true rfl) (lvOK_of _ _ ⟨rfl, rfl⟩) ?_
  intro p e s m below meth c D T F K X0 hr hlk
  have hXc := XS_c
  obtain ⟨hn, hg, hs, hsep, hc⟩ := view_ok hV
  obtain ⟨r1, r2, r3, r4⟩ := view_rul hR
  refine g_iload_n F (pc' := 1) dX4_stem_0 rfl rfl ?_
  refine g_iconst F (pc' := 2) dX4_stem_1 rfl ?_
  refine g_aload_n F (pc' := 3) dX4_stem_2 rfl rfl ?_
  refine g_getR F K (k := 0) (fld := 4) (ci := 4) (q := 24) (pc' := 6) iX4_stem_X4 rfl rfl rfl (by decide) (List.mem_of_getElem? (i := 1) rfl) dX4_stem_3 rfl ?_
  refine g_getI F K (k := 24) (fld := 0) (ci := 3) (z := M 24 0) (pc' := 9) iX4_stem_X3 rfl rfl rfl (by decide) (List.mem_of_getElem? (i := 2) rfl) dX4_stem_6 rfl (by first | rfl | simp [upf, sc]) ?_
  refine g_iconst F (pc' := 10) dX4_stem_9 rfl ?_
  refine g_isub F (pc' := 11) dX4_stem_10 rfl ?_
  refine g_callP F (pc' := 14) (st := []) (c4_isWithin l j 0 ((M 24 0) - 1) (by omega) (by omega) (by omega)) (va_cwS 3 F.2.2.2.2 gX4_stem_X4_isWithin rfl rfl rfl (by decide +kernel) ⟨Nat.le_of_ble_eq_true rfl, Nat.le_of_ble_eq_true rfl⟩) rfl rfl (Nat.le_of_ble_eq_true rfl) dX4_stem_11 rfl ?_
  refine g_if_ne F (pc' := 17) (tgt := 19) dX4_stem_14 rfl (by decide) (zC_R _) (fun c_14 => ?_) (fun c_14 => ?_)
  · skip
    have c_14 := zC_1 c_14
    refine g_iload_n F (pc' := 20) dX4_stem_19 rfl rfl ?_
    rcases (show (w < 0 ∨ 4 < w) ∨ w = 0 ∨ w = 1 ∨ w = 2 ∨ w = 3 ∨ w = 4 by omega) with c_20 | c_20 | c_20 | c_20 | c_20 | c_20
    · skip
      refine g_tswO F (tgt := 106) dX4_stem_20 (by omega) c_20 (by decide) ?_
      refine g_bipush F (pc' := 108) dX4_stem_106 rfl (by decide +kernel) ?_
      exact g_iret F hr hlk dX4_stem_108 (⟨by show _ = if 0 ≤ j ∧ j ≤ M 24 0 - 1 then (if w = 0 then M 25 j else if w = 1 then M 26 j else if w = 2 then M 27 j else if w = 3 then M 28 j else if w = 4 then M 29 j else -2) else -1; (repeat (first | rw [if_pos (by omega)] | rw [if_neg (by omega)])), rfl⟩)
    · skip
      refine g_tswI F (tgt := 56) (i := 0) dX4_stem_20 (by omega) (by omega) (by decide) rfl (by decide) ?_
      refine g_aload_n F (pc' := 57) dX4_stem_56 rfl rfl ?_
      refine g_getR F K (k := 0) (fld := 4) (ci := 4) (q := 24) (pc' := 60) iX4_stem_X4 rfl rfl rfl (by decide) (List.mem_of_getElem? (i := 1) rfl) dX4_stem_57 rfl ?_
      refine g_getR F K (k := 24) (fld := 1) (ci := 3) (q := 25) (pc' := 63) iX4_stem_X3 rfl rfl rfl (by decide) (List.mem_of_getElem? (i := 3) rfl) dX4_stem_60 rfl ?_
      refine g_iload_n F (pc' := 64) dX4_stem_63 rfl rfl ?_
      refine g_iald F K (k := 25) (v := M 25 j) (pc' := 65) rfl (by decide) (by omega) dX4_stem_64 rfl (by first | rfl | simp [upf, sc]) ?_
      exact g_iret F hr hlk dX4_stem_65 (⟨by show _ = if 0 ≤ j ∧ j ≤ M 24 0 - 1 then (if w = 0 then M 25 j else if w = 1 then M 26 j else if w = 2 then M 27 j else if w = 3 then M 28 j else if w = 4 then M 29 j else -2) else -1; (repeat (first | rw [if_pos (by omega)] | rw [if_neg (by omega)])), rfl⟩)
    · skip
      refine g_tswI F (tgt := 66) (i := 1) dX4_stem_20 (by omega) (by omega) (by decide) rfl (by decide) ?_
      refine g_aload_n F (pc' := 67) dX4_stem_66 rfl rfl ?_
      refine g_getR F K (k := 0) (fld := 4) (ci := 4) (q := 24) (pc' := 70) iX4_stem_X4 rfl rfl rfl (by decide) (List.mem_of_getElem? (i := 1) rfl) dX4_stem_67 rfl ?_
      refine g_getR F K (k := 24) (fld := 2) (ci := 3) (q := 26) (pc' := 73) iX4_stem_X3 rfl rfl rfl (by decide) (List.mem_of_getElem? (i := 4) rfl) dX4_stem_70 rfl ?_
      refine g_iload_n F (pc' := 74) dX4_stem_73 rfl rfl ?_
      refine g_iald F K (k := 26) (v := M 26 j) (pc' := 75) rfl (by decide) (by omega) dX4_stem_74 rfl (by first | rfl | simp [upf, sc]) ?_
      exact g_iret F hr hlk dX4_stem_75 (⟨by show _ = if 0 ≤ j ∧ j ≤ M 24 0 - 1 then (if w = 0 then M 25 j else if w = 1 then M 26 j else if w = 2 then M 27 j else if w = 3 then M 28 j else if w = 4 then M 29 j else -2) else -1; (repeat (first | rw [if_pos (by omega)] | rw [if_neg (by omega)])), rfl⟩)
    · skip
      refine g_tswI F (tgt := 76) (i := 2) dX4_stem_20 (by omega) (by omega) (by decide) rfl (by decide) ?_
      refine g_aload_n F (pc' := 77) dX4_stem_76 rfl rfl ?_
      refine g_getR F K (k := 0) (fld := 4) (ci := 4) (q := 24) (pc' := 80) iX4_stem_X4 rfl rfl rfl (by decide) (List.mem_of_getElem? (i := 1) rfl) dX4_stem_77 rfl ?_
      refine g_getR F K (k := 24) (fld := 3) (ci := 3) (q := 27) (pc' := 83) iX4_stem_X3 rfl rfl rfl (by decide) (List.mem_of_getElem? (i := 5) rfl) dX4_stem_80 rfl ?_
      refine g_iload_n F (pc' := 84) dX4_stem_83 rfl rfl ?_
      refine g_iald F K (k := 27) (v := M 27 j) (pc' := 85) rfl (by decide) (by omega) dX4_stem_84 rfl (by first | rfl | simp [upf, sc]) ?_
      exact g_iret F hr hlk dX4_stem_85 (⟨by show _ = if 0 ≤ j ∧ j ≤ M 24 0 - 1 then (if w = 0 then M 25 j else if w = 1 then M 26 j else if w = 2 then M 27 j else if w = 3 then M 28 j else if w = 4 then M 29 j else -2) else -1; (repeat (first | rw [if_pos (by omega)] | rw [if_neg (by omega)])), rfl⟩)
    · skip
      refine g_tswI F (tgt := 86) (i := 3) dX4_stem_20 (by omega) (by omega) (by decide) rfl (by decide) ?_
      refine g_aload_n F (pc' := 87) dX4_stem_86 rfl rfl ?_
      refine g_getR F K (k := 0) (fld := 4) (ci := 4) (q := 24) (pc' := 90) iX4_stem_X4 rfl rfl rfl (by decide) (List.mem_of_getElem? (i := 1) rfl) dX4_stem_87 rfl ?_
      refine g_getR F K (k := 24) (fld := 4) (ci := 3) (q := 28) (pc' := 93) iX4_stem_X3 rfl rfl rfl (by decide) (List.mem_of_getElem? (i := 6) rfl) dX4_stem_90 rfl ?_
      refine g_iload_n F (pc' := 94) dX4_stem_93 rfl rfl ?_
      refine g_iald F K (k := 28) (v := M 28 j) (pc' := 95) rfl (by decide) (by omega) dX4_stem_94 rfl (by first | rfl | simp [upf, sc]) ?_
      exact g_iret F hr hlk dX4_stem_95 (⟨by show _ = if 0 ≤ j ∧ j ≤ M 24 0 - 1 then (if w = 0 then M 25 j else if w = 1 then M 26 j else if w = 2 then M 27 j else if w = 3 then M 28 j else if w = 4 then M 29 j else -2) else -1; (repeat (first | rw [if_pos (by omega)] | rw [if_neg (by omega)])), rfl⟩)
    · skip
      refine g_tswI F (tgt := 96) (i := 4) dX4_stem_20 (by omega) (by omega) (by decide) rfl (by decide) ?_
      refine g_aload_n F (pc' := 97) dX4_stem_96 rfl rfl ?_
      refine g_getR F K (k := 0) (fld := 4) (ci := 4) (q := 24) (pc' := 100) iX4_stem_X4 rfl rfl rfl (by decide) (List.mem_of_getElem? (i := 1) rfl) dX4_stem_97 rfl ?_
      refine g_getR F K (k := 24) (fld := 5) (ci := 3) (q := 29) (pc' := 103) iX4_stem_X3 rfl rfl rfl (by decide) (List.mem_of_getElem? (i := 7) rfl) dX4_stem_100 rfl ?_
      refine g_iload_n F (pc' := 104) dX4_stem_103 rfl rfl ?_
      refine g_iald F K (k := 29) (v := M 29 j) (pc' := 105) rfl (by decide) (by omega) dX4_stem_104 rfl (by first | rfl | simp [upf, sc]) ?_
      exact g_iret F hr hlk dX4_stem_105 (⟨by show _ = if 0 ≤ j ∧ j ≤ M 24 0 - 1 then (if w = 0 then M 25 j else if w = 1 then M 26 j else if w = 2 then M 27 j else if w = 3 then M 28 j else if w = 4 then M 29 j else -2) else -1; (repeat (first | rw [if_pos (by omega)] | rw [if_neg (by omega)])), rfl⟩)
  · skip
    have c_14 := zC_0 c_14
    refine g_iconst F (pc' := 18) dX4_stem_17 rfl ?_
    exact g_iret F hr hlk dX4_stem_18 (⟨by show _ = if 0 ≤ j ∧ j ≤ M 24 0 - 1 then (if w = 0 then M 25 j else if w = 1 then M 26 j else if w = 2 then M 27 j else if w = 3 then M 28 j else if w = 4 then M 29 j else -2) else -1; (repeat (first | rw [if_pos (by omega)] | rw [if_neg (by omega)])), rfl⟩)

theorem iX4_kind_X3 : ∀ w ∈ wsX30, w ∈ wsX4_kind := fun _ h => List.mem_cons_of_mem _ (List.mem_append_right _ h)
theorem iX4_kind_X4 : ∀ w ∈ wsX40, w ∈ wsX4_kind := fun _ h => List.mem_cons_of_mem _ (List.mem_append_left _ (List.mem_append_right _ h))
set_option maxHeartbeats 4000000 in
set_option maxRecDepth 100000 in
theorem c4_kind (l : Launch) (a : Nat → Nat) (k w : Int) (hk : -2147483648 ≤ k ∧ k < 2147483648) (hw : -2147483648 ≤ w ∧ w < 2147483648) (M : Mem) (hV : lOK (viewC M)) (hR : rulL (viewC M)) (hl : 0 ≤ M 4 4 ∧ M 4 4 ≤ 16) : CtI XS l yX4_kind wsX4_kind ({ frames := 1, cells := 0, slots := 0, locals := 22 } : Room) LC a M [.ref (a 0), .int (iI k), .int (iI w)] (fun z M' => z = kindZ (viewC M) k w ∧ M' = M) := by
  refine CtI.of (y := yX4_kind) (cc := cX4_kind) (maxL := 3) (ret := (some .int)) (lv := [some (.ref (a 0)), some (.int (iI k)), some (.int (iI w))]) (by decide) rfl (Nat.le_of_ble_eq_true rfl) (lvOK_of _ _ ⟨rfl, rfl⟩) ?_
  intro p e s m below meth c D T F K X0 hr hlk
  have hXc := XS_c
  obtain ⟨hn, hg, hs, hsep, hc⟩ := view_ok hV
  obtain ⟨r1, r2, r3, r4⟩ := view_rul hR
  refine g_iload_n F (pc' := 1) dX4_kind_0 rfl rfl ?_
  refine g_iconst F (pc' := 2) dX4_kind_1 rfl ?_
  refine g_aload_n F (pc' := 3) dX4_kind_2 rfl rfl ?_
  refine g_getR F K (k := 0) (fld := 4) (ci := 4) (q := 24) (pc' := 6) iX4_kind_X4 rfl rfl rfl (by decide) (List.mem_of_getElem? (i := 1) rfl) dX4_kind_3 rfl ?_
  refine g_getI F K (k := 24) (fld := 6) (ci := 3) (z := M 24 6) (pc' := 9) iX4_kind_X3 rfl rfl rfl (by decide) (List.mem_of_getElem? (i := 2) rfl) dX4_kind_6 rfl (by first | rfl | simp [upf, sc]) ?_
  refine g_iconst F (pc' := 10) dX4_kind_9 rfl ?_
  refine g_isub F (pc' := 11) dX4_kind_10 rfl ?_
  refine g_callP F (pc' := 14) (st := []) (c4_isWithin l k 0 ((M 24 6) - 1) (by omega) (by omega) (by omega)) (va_cwS 3 F.2.2.2.2 gX4_kind_X4_isWithin rfl rfl rfl (by decide +kernel) ⟨Nat.le_of_ble_eq_true rfl, Nat.le_of_ble_eq_true rfl⟩) rfl rfl (Nat.le_of_ble_eq_true rfl) dX4_kind_11 rfl ?_
  refine g_if_ne F (pc' := 17) (tgt := 19) dX4_kind_14 rfl (by decide) (zC_R _) (fun c_14 => ?_) (fun c_14 => ?_)
  · skip
    have c_14 := zC_1 c_14
    refine g_iload_n F (pc' := 20) dX4_kind_19 rfl rfl ?_
    rcases (show (w < 0 ∨ 2 < w) ∨ w = 0 ∨ w = 1 ∨ w = 2 by omega) with c_20 | c_20 | c_20 | c_20
    · skip
      refine g_tswO F (tgt := 77) dX4_kind_20 (by omega) c_20 (by decide) ?_
      refine g_bipush F (pc' := 79) dX4_kind_77 rfl (by decide +kernel) ?_
      exact g_iret F hr hlk dX4_kind_79 (⟨by show _ = if 0 ≤ k ∧ k ≤ M 24 6 - 1 then (if w = 0 then M 30 k else if w = 1 then M 31 k else if w = 2 then M 32 k / M 30 k else -2) else -1; (repeat (first | rw [if_pos (by omega)] | rw [if_neg (by omega)])), rfl⟩)
    · skip
      refine g_tswI F (tgt := 48) (i := 0) dX4_kind_20 (by omega) (by omega) (by decide) rfl (by decide) ?_
      refine g_aload_n F (pc' := 49) dX4_kind_48 rfl rfl ?_
      refine g_getR F K (k := 0) (fld := 4) (ci := 4) (q := 24) (pc' := 52) iX4_kind_X4 rfl rfl rfl (by decide) (List.mem_of_getElem? (i := 1) rfl) dX4_kind_49 rfl ?_
      refine g_getR F K (k := 24) (fld := 7) (ci := 3) (q := 30) (pc' := 55) iX4_kind_X3 rfl rfl rfl (by decide) (List.mem_of_getElem? (i := 3) rfl) dX4_kind_52 rfl ?_
      refine g_iload_n F (pc' := 56) dX4_kind_55 rfl rfl ?_
      refine g_iald F K (k := 30) (v := M 30 k) (pc' := 57) rfl (by decide) (by omega) dX4_kind_56 rfl (by first | rfl | simp [upf, sc]) ?_
      exact g_iret F hr hlk dX4_kind_57 (⟨by show _ = if 0 ≤ k ∧ k ≤ M 24 6 - 1 then (if w = 0 then M 30 k else if w = 1 then M 31 k else if w = 2 then M 32 k / M 30 k else -2) else -1; (repeat (first | rw [if_pos (by omega)] | rw [if_neg (by omega)])), rfl⟩)
    · skip
      refine g_tswI F (tgt := 58) (i := 1) dX4_kind_20 (by omega) (by omega) (by decide) rfl (by decide) ?_
      refine g_aload_n F (pc' := 59) dX4_kind_58 rfl rfl ?_
      refine g_getR F K (k := 0) (fld := 4) (ci := 4) (q := 24) (pc' := 62) iX4_kind_X4 rfl rfl rfl (by decide) (List.mem_of_getElem? (i := 1) rfl) dX4_kind_59 rfl ?_
      refine g_getR F K (k := 24) (fld := 8) (ci := 3) (q := 31) (pc' := 65) iX4_kind_X3 rfl rfl rfl (by decide) (List.mem_of_getElem? (i := 4) rfl) dX4_kind_62 rfl ?_
      refine g_iload_n F (pc' := 66) dX4_kind_65 rfl rfl ?_
      refine g_iald F K (k := 31) (v := M 31 k) (pc' := 67) rfl (by decide) (by omega) dX4_kind_66 rfl (by first | rfl | simp [upf, sc]) ?_
      exact g_iret F hr hlk dX4_kind_67 (⟨by show _ = if 0 ≤ k ∧ k ≤ M 24 6 - 1 then (if w = 0 then M 30 k else if w = 1 then M 31 k else if w = 2 then M 32 k / M 30 k else -2) else -1; (repeat (first | rw [if_pos (by omega)] | rw [if_neg (by omega)])), rfl⟩)
    · skip
      refine g_tswI F (tgt := 68) (i := 2) dX4_kind_20 (by omega) (by omega) (by decide) rfl (by decide) ?_
      refine g_aload_n F (pc' := 69) dX4_kind_68 rfl rfl ?_
      have hck := hc k (by omega) (by omega)
      refine g_getR F K (k := 0) (fld := 4) (ci := 4) (q := 24) (pc' := 72) iX4_kind_X4 rfl rfl rfl (by decide) (List.mem_of_getElem? (i := 1) rfl) dX4_kind_69 rfl ?_
      refine g_iload_n F (pc' := 73) dX4_kind_72 rfl rfl ?_
      refine g_callI F K hXc X0 (pc' := 76) (st := []) (c3_standard l a M k (by omega) (by omega) (by omega)) (cwV 1 F.2.2.2.2 gX4_kind_X3_standard rfl rfl rfl (by decide +kernel) ⟨Nat.le_of_ble_eq_true rfl, Nat.le_of_ble_eq_true rfl⟩) rfl rfl rfl rfl (Nat.le_of_ble_eq_true rfl) dX4_kind_73 rfl (fun z_73 M_73 q_73 => ?_)
      obtain ⟨rfl, mq_73⟩ := q_73
      have mq_73 := mq_73.symm; subst mq_73
      exact g_iret F hr hlk dX4_kind_76 (⟨by show _ = if 0 ≤ k ∧ k ≤ M 24 6 - 1 then (if w = 0 then M 30 k else if w = 1 then M 31 k else if w = 2 then M 32 k / M 30 k else -2) else -1; (repeat (first | rw [if_pos (by omega)] | rw [if_neg (by omega)])), rfl⟩)
  · skip
    have c_14 := zC_0 c_14
    refine g_iconst F (pc' := 18) dX4_kind_17 rfl ?_
    exact g_iret F hr hlk dX4_kind_18 (⟨by show _ = if 0 ≤ k ∧ k ≤ M 24 6 - 1 then (if w = 0 then M 30 k else if w = 1 then M 31 k else if w = 2 then M 32 k / M 30 k else -2) else -1; (repeat (first | rw [if_pos (by omega)] | rw [if_neg (by omega)])), rfl⟩)

theorem iX4_dots_X1 : ∀ w ∈ wsX10, w ∈ wsX4_dots := fun _ h => List.mem_cons_of_mem _ (List.mem_append_right _ h)
theorem iX4_dots_X3 : ∀ w ∈ wsX30, w ∈ wsX4_dots := fun _ h => List.mem_cons_of_mem _ (List.mem_append_left _ (List.mem_append_right _ h))
theorem iX4_dots_X4 : ∀ w ∈ wsX40, w ∈ wsX4_dots := fun _ h => List.mem_cons_of_mem _ (List.mem_append_left _ (List.mem_append_left _ (List.mem_append_right _ h)))
set_option maxHeartbeats 4000000 in
set_option maxRecDepth 100000 in
theorem c4_dots (l : Launch) (a : Nat → Nat) (k sz : Int) (hk : -2147483648 ≤ k ∧ k < 2147483648) (hz : -2147483648 ≤ sz ∧ sz < 2147483648) (M : Mem) (hV : lOK (viewC M)) (hR : rulL (viewC M)) (hl : 0 ≤ M 4 4 ∧ M 4 4 ≤ 16) : CtI XS l yX4_dots wsX4_dots ({ frames := 2, cells := 0, slots := 0, locals := 45 } : Room) LC a M [.ref (a 0), .int (iI k), .int (iI sz)] (fun z M' => z = dotsZ (viewC M) k sz ∧ M' = M) := by
  refine CtI.of (y := yX4_dots) (cc := cX4_dots) (maxL := 3) (ret := (some .int)) (lv := [some (.ref (a 0)), some (.int (iI k)), some (.int (iI sz))]) (by decide) rfl (Nat.le_of_ble_eq_true rfl) (lvOK_of _ _ ⟨rfl, rfl⟩) ?_
  intro p e s m below meth c D T F K X0 hr hlk
  have hXc := XS_c
  obtain ⟨hn, hg, hs, hsep, hc⟩ := view_ok hV
  obtain ⟨r1, r2, r3, r4⟩ := view_rul hR
  refine g_iload_n F (pc' := 1) dX4_dots_0 rfl rfl ?_
  refine g_iconst F (pc' := 2) dX4_dots_1 rfl ?_
  refine g_aload_n F (pc' := 3) dX4_dots_2 rfl rfl ?_
  refine g_getR F K (k := 0) (fld := 4) (ci := 4) (q := 24) (pc' := 6) iX4_dots_X4 rfl rfl rfl (by decide) (List.mem_of_getElem? (i := 1) rfl) dX4_dots_3 rfl ?_
  refine g_getI F K (k := 24) (fld := 6) (ci := 3) (z := M 24 6) (pc' := 9) iX4_dots_X3 rfl rfl rfl (by decide) (List.mem_of_getElem? (i := 2) rfl) dX4_dots_6 rfl (by first | rfl | simp [upf, sc]) ?_
  refine g_iconst F (pc' := 10) dX4_dots_9 rfl ?_
  refine g_isub F (pc' := 11) dX4_dots_10 rfl ?_
  refine g_callP F (pc' := 14) (st := []) (c4_isWithin l k 0 ((M 24 6) - 1) (by omega) (by omega) (by omega)) (va_cwS 3 F.2.2.2.2 gX4_dots_X4_isWithin rfl rfl rfl (by decide +kernel) ⟨Nat.le_of_ble_eq_true rfl, Nat.le_of_ble_eq_true rfl⟩) rfl rfl (Nat.le_of_ble_eq_true rfl) dX4_dots_11 rfl ?_
  refine g_if_ne F (pc' := 17) (tgt := 19) dX4_dots_14 rfl (by decide) (zC_R _) (fun c_14 => ?_) (fun c_14 => ?_)
  · skip
    have c_14 := zC_1 c_14
    refine g_iload_n F (pc' := 20) dX4_dots_19 rfl rfl ?_
    refine g_callP F (pc' := 23) (st := []) (c4_isSize l sz (by omega)) (va_cwS 1 F.2.2.2.2 gX4_dots_X4_isSize rfl rfl rfl (by decide +kernel) ⟨Nat.le_of_ble_eq_true rfl, Nat.le_of_ble_eq_true rfl⟩) rfl rfl (Nat.le_of_ble_eq_true rfl) dX4_dots_20 rfl ?_
    refine g_if_ne F (pc' := 26) (tgt := 29) dX4_dots_23 rfl (by decide) (zC_R _) (fun c_23 => ?_) (fun c_23 => ?_)
    · skip
      have c_23 := zC_1 c_23
      refine g_aload_n F (pc' := 30) dX4_dots_29 rfl rfl ?_
      have hck := hc k (by omega) (by omega)
      refine g_getR F K (k := 0) (fld := 4) (ci := 4) (q := 24) (pc' := 33) iX4_dots_X4 rfl rfl rfl (by decide) (List.mem_of_getElem? (i := 1) rfl) dX4_dots_30 rfl ?_
      refine g_iload_n F (pc' := 34) dX4_dots_33 rfl rfl ?_
      refine g_iload_n F (pc' := 35) dX4_dots_34 rfl rfl ?_
      refine g_aload_n F (pc' := 36) dX4_dots_35 rfl rfl ?_
      refine g_getR F K (k := 0) (fld := 1) (ci := 4) (q := 4) (pc' := 39) iX4_dots_X4 rfl rfl rfl (by decide) (List.mem_of_getElem? (i := 3) rfl) dX4_dots_36 rfl ?_
      refine g_getR F K (k := 4) (fld := 5) (ci := 1) (q := 9) (pc' := 42) iX4_dots_X1 rfl rfl rfl (by decide) (List.mem_of_getElem? (i := 4) rfl) dX4_dots_39 rfl ?_
      refine g_iconst F (pc' := 43) dX4_dots_42 rfl ?_
      refine g_iald F K (k := 9) (v := M 9 4) (pc' := 44) rfl (by decide) (by decide) dX4_dots_43 rfl (by first | rfl | simp [upf, sc]) ?_
      refine g_callI F K hXc X0 (pc' := 47) (st := []) (c3_dotsOfGroup l a M k sz (M 9 4) (by omega) (by omega) (by omega) (by omega) (by omega)) (cwV 3 F.2.2.2.2 gX4_dots_X3_dotsOfGroup rfl rfl rfl (by decide +kernel) ⟨Nat.le_of_ble_eq_true rfl, Nat.le_of_ble_eq_true rfl⟩) rfl rfl rfl rfl (Nat.le_of_ble_eq_true rfl) dX4_dots_44 rfl (fun z_44 M_44 q_44 => ?_)
      obtain ⟨rfl, mq_44⟩ := q_44
      have mq_44 := mq_44.symm; subst mq_44
      exact g_iret F hr hlk dX4_dots_47 (⟨by show _ = if 0 ≤ k ∧ k ≤ M 24 6 - 1 then (if 1 ≤ sz ∧ sz ≤ 60 then dz (M 32 k / M 30 k) sz (M 9 4) else -2) else -1; (repeat (first | rw [if_pos (by omega)] | rw [if_neg (by omega)])), rfl⟩)
    · skip
      have c_23 := zC_0 c_23
      refine g_bipush F (pc' := 28) dX4_dots_26 rfl (by decide +kernel) ?_
      exact g_iret F hr hlk dX4_dots_28 (⟨by show _ = if 0 ≤ k ∧ k ≤ M 24 6 - 1 then (if 1 ≤ sz ∧ sz ≤ 60 then dz (M 32 k / M 30 k) sz (M 9 4) else -2) else -1; (repeat (first | rw [if_pos (by omega)] | rw [if_neg (by omega)])), rfl⟩)
  · skip
    have c_14 := zC_0 c_14
    refine g_iconst F (pc' := 18) dX4_dots_17 rfl ?_
    exact g_iret F hr hlk dX4_dots_18 (⟨by show _ = if 0 ≤ k ∧ k ≤ M 24 6 - 1 then (if 1 ≤ sz ∧ sz ≤ 60 then dz (M 32 k / M 30 k) sz (M 9 4) else -2) else -1; (repeat (first | rw [if_pos (by omega)] | rw [if_neg (by omega)])), rfl⟩)

theorem iX4_grows_X1 : ∀ w ∈ wsX10, w ∈ wsX4_grows := fun _ h => List.mem_cons_of_mem _ (List.mem_append_right _ h)
theorem iX4_grows_X3 : ∀ w ∈ wsX30, w ∈ wsX4_grows := fun _ h => List.mem_cons_of_mem _ (List.mem_append_left _ (List.mem_append_right _ h))
theorem iX4_grows_X4 : ∀ w ∈ wsX40, w ∈ wsX4_grows := fun _ h => List.mem_cons_of_mem _ (List.mem_append_left _ (List.mem_append_left _ (List.mem_append_right _ h)))
set_option maxHeartbeats 4000000 in
set_option maxRecDepth 100000 in
theorem c4_grows (l : Launch) (a : Nat → Nat) (k d : Int) (hk : -2147483648 ≤ k ∧ k < 2147483648) (hd : -2147483648 ≤ d ∧ d < 2147483648) (M : Mem) (hV : lOK (viewC M)) (hR : rulL (viewC M)) (hl : 0 ≤ M 4 4 ∧ M 4 4 ≤ 16) : CtI XS l yX4_grows wsX4_grows ({ frames := 2, cells := 0, slots := 0, locals := 45 } : Room) LC a M [.ref (a 0), .int (iI k), .int (iI d)] (fun z M' => z = growsZ (viewC M) k d ∧ M' = M) := by
  refine CtI.of (y := yX4_grows) (cc := cX4_grows) (maxL := 4) (ret := (some .int)) (lv := [some (.ref (a 0)), some (.int (iI k)), some (.int (iI d)), none]) (by decide) rfl (Nat.le_of_ble_eq_true rfl) (lvOK_of _ _ ⟨rfl, rfl⟩) ?_
  intro p e s m below meth c D T F K X0 hr hlk
  have hXc := XS_c
  obtain ⟨hn, hg, hs, hsep, hc⟩ := view_ok hV
  obtain ⟨r1, r2, r3, r4⟩ := view_rul hR
  refine g_iload_n F (pc' := 1) dX4_grows_0 rfl rfl ?_
  refine g_iconst F (pc' := 2) dX4_grows_1 rfl ?_
  refine g_aload_n F (pc' := 3) dX4_grows_2 rfl rfl ?_
  refine g_getR F K (k := 0) (fld := 4) (ci := 4) (q := 24) (pc' := 6) iX4_grows_X4 rfl rfl rfl (by decide) (List.mem_of_getElem? (i := 1) rfl) dX4_grows_3 rfl ?_
  refine g_getI F K (k := 24) (fld := 6) (ci := 3) (z := M 24 6) (pc' := 9) iX4_grows_X3 rfl rfl rfl (by decide) (List.mem_of_getElem? (i := 2) rfl) dX4_grows_6 rfl (by first | rfl | simp [upf, sc]) ?_
  refine g_iconst F (pc' := 10) dX4_grows_9 rfl ?_
  refine g_isub F (pc' := 11) dX4_grows_10 rfl ?_
  refine g_callP F (pc' := 14) (st := []) (c4_isWithin l k 0 ((M 24 6) - 1) (by omega) (by omega) (by omega)) (va_cwS 3 F.2.2.2.2 gX4_grows_X4_isWithin rfl rfl rfl (by decide +kernel) ⟨Nat.le_of_ble_eq_true rfl, Nat.le_of_ble_eq_true rfl⟩) rfl rfl (Nat.le_of_ble_eq_true rfl) dX4_grows_11 rfl ?_
  refine g_if_ne F (pc' := 17) (tgt := 19) dX4_grows_14 rfl (by decide) (zC_R _) (fun c_14 => ?_) (fun c_14 => ?_)
  · skip
    have c_14 := zC_1 c_14
    refine g_iload_n F (pc' := 20) dX4_grows_19 rfl rfl ?_
    refine g_iconst F (pc' := 21) dX4_grows_20 rfl ?_
    refine g_bipush F (pc' := 23) dX4_grows_21 rfl (by decide +kernel) ?_
    refine g_callP F (pc' := 26) (st := []) (c4_isWithin l d 1 60 (by omega) (by omega) (by omega)) (va_cwS 3 F.2.2.2.2 gX4_grows_X4_isWithin rfl rfl rfl (by decide +kernel) ⟨Nat.le_of_ble_eq_true rfl, Nat.le_of_ble_eq_true rfl⟩) rfl rfl (Nat.le_of_ble_eq_true rfl) dX4_grows_23 rfl ?_
    refine g_if_ne F (pc' := 29) (tgt := 32) dX4_grows_26 rfl (by decide) (zC_R _) (fun c_26 => ?_) (fun c_26 => ?_)
    · skip
      have c_26 := zC_1 c_26
      refine g_iconst F (pc' := 33) dX4_grows_32 rfl ?_
      refine g_istore_n F (pc' := 34) (lv' := [some (.ref (a 0)), some (.int (iI k)), some (.int (iI d)), some (.int (iI 1))]) dX4_grows_33 rfl (by decide) rfl ?_
      have lp_34 : ∀ (n_34 : Nat) (v : Int) (hm_34 : 61 - v < (n_34 : Int)) (hv : 1 ≤ v ∧ v ≤ 61) (hgr : growsI (fun t => dz (M 32 k / M 30 k) t (M 9 4)) d 1 = growsI (fun t => dz (M 32 k / M 30 k) t (M 9 4)) d v), GG p l e ({ frames := 2, cells := 0, slots := 0, locals := 45 } : Room) s m ([.ref (a 0), .int (iI k), .int (iI d)].toArray) below meth c (PI D T a LC M (fun z M' => z = growsZ (viewC M) k d ∧ M' = M) below ([.ref (a 0), .int (iI k), .int (iI d)].toArray) s) D (AA T a LC M s.heap.size) 4 (wld T a LC M) 34 [some (.ref (a 0)), some (.int (iI k)), some (.int (iI d)), some (.int (iI v))] [] := by
        intro n_34
        induction n_34 with
        | zero => intro v hm_34 hv hgr; exfalso; omega
        | succ n_34 ih_34 =>
          intro v hm_34 hv hgr
          have hck := hc k (by omega) (by omega)
          refine g_iload_n F (pc' := 35) dX4_grows_34 rfl rfl ?_
          refine g_bipush F (pc' := 37) dX4_grows_35 rfl (by decide +kernel) ?_
          refine g_icmp_gt F (pc' := 40) (tgt := 70) dX4_grows_37 rfl (by decide) (by omega) (by decide) (fun c_37 => ?_) (fun c_37 => ?_)
          · skip
            refine g_bipush F (pc' := 72) dX4_grows_70 rfl (by decide +kernel) ?_
            exact g_iret F hr hlk dX4_grows_72 (⟨by show _ = if 0 ≤ k ∧ k ≤ M 24 6 - 1 then (if 1 ≤ d ∧ d ≤ 60 then growsI (fun t => dz (M 32 k / M 30 k) t (M 9 4)) d 1 else -2) else -1; rw [if_pos (by omega), if_pos (by omega), hgr]; exact (growsI_e (by omega)).symm, rfl⟩)
          · skip
            refine g_aload_n F (pc' := 41) dX4_grows_40 rfl rfl ?_
            refine g_getR F K (k := 0) (fld := 4) (ci := 4) (q := 24) (pc' := 44) iX4_grows_X4 rfl rfl rfl (by decide) (List.mem_of_getElem? (i := 1) rfl) dX4_grows_41 rfl ?_
            refine g_iload_n F (pc' := 45) dX4_grows_44 rfl rfl ?_
            refine g_iload_n F (pc' := 46) dX4_grows_45 rfl rfl ?_
            refine g_aload_n F (pc' := 47) dX4_grows_46 rfl rfl ?_
            refine g_getR F K (k := 0) (fld := 1) (ci := 4) (q := 4) (pc' := 50) iX4_grows_X4 rfl rfl rfl (by decide) (List.mem_of_getElem? (i := 3) rfl) dX4_grows_47 rfl ?_
            refine g_getR F K (k := 4) (fld := 5) (ci := 1) (q := 9) (pc' := 53) iX4_grows_X1 rfl rfl rfl (by decide) (List.mem_of_getElem? (i := 4) rfl) dX4_grows_50 rfl ?_
            refine g_iconst F (pc' := 54) dX4_grows_53 rfl ?_
            refine g_iald F K (k := 9) (v := M 9 4) (pc' := 55) rfl (by decide) (by decide) dX4_grows_54 rfl (by first | rfl | simp [upf, sc]) ?_
            refine g_callI F K hXc X0 (pc' := 58) (st := []) (c3_dotsOfGroup l a M k v (M 9 4) (by omega) (by omega) (by omega) (by omega) (by omega)) (cwV 3 F.2.2.2.2 gX4_grows_X3_dotsOfGroup rfl rfl rfl (by decide +kernel) ⟨Nat.le_of_ble_eq_true rfl, Nat.le_of_ble_eq_true rfl⟩) rfl rfl rfl rfl (Nat.le_of_ble_eq_true rfl) dX4_grows_55 rfl (fun z_55 M_55 q_55 => ?_)
            obtain ⟨rfl, mq_55⟩ := q_55
            have mq_55 := mq_55.symm; subst mq_55
            have hdR := dz_R (sz := v) hck.1 hck.2.2 (by omega) r4
            refine g_iload_n F (pc' := 59) dX4_grows_58 rfl rfl ?_
            refine g_icmp_lt F (pc' := 62) (tgt := 64) dX4_grows_59 rfl (by decide) (by omega) (by omega) (fun c_59 => ?_) (fun c_59 => ?_)
            · skip
              refine g_iinc F (pc' := 67) (lv' := [some (.ref (a 0)), some (.int (iI k)), some (.int (iI d)), some (.int (iI (v + 1)))]) dX4_grows_64 rfl rfl (by decide) rfl ?_
              refine g_goto F (tgt := 34) dX4_grows_67 (by decide) ?_
              exact ih_34 (v + 1) (by omega) (by omega) (by first | rfl | (rw [hgr]; exact growsI_f (by omega) (by show _ < d; omega)))
            · skip
              refine g_iload_n F (pc' := 63) dX4_grows_62 rfl rfl ?_
              exact g_iret F hr hlk dX4_grows_63 (⟨by show _ = if 0 ≤ k ∧ k ≤ M 24 6 - 1 then (if 1 ≤ d ∧ d ≤ 60 then growsI (fun t => dz (M 32 k / M 30 k) t (M 9 4)) d 1 else -2) else -1; rw [if_pos (by omega), if_pos (by omega), hgr]; exact (growsI_t (by omega) (by show d ≤ _; omega)).symm, rfl⟩)
      exact lp_34 ((61 - 1 : Int).toNat + 1) 1 (by omega) (by omega) (by first | rfl | (rw [hgr]; exact growsI_f (by omega) (by show _ < d; omega)))
    · skip
      have c_26 := zC_0 c_26
      refine g_bipush F (pc' := 31) dX4_grows_29 rfl (by decide +kernel) ?_
      exact g_iret F hr hlk dX4_grows_31 (⟨by show _ = if 0 ≤ k ∧ k ≤ M 24 6 - 1 then (if 1 ≤ d ∧ d ≤ 60 then growsI (fun t => dz (M 32 k / M 30 k) t (M 9 4)) d 1 else -2) else -1; (repeat (first | rw [if_pos (by omega)] | rw [if_neg (by omega)])), rfl⟩)
  · skip
    have c_14 := zC_0 c_14
    refine g_iconst F (pc' := 18) dX4_grows_17 rfl ?_
    exact g_iret F hr hlk dX4_grows_18 (⟨by show _ = if 0 ≤ k ∧ k ≤ M 24 6 - 1 then (if 1 ≤ d ∧ d ≤ 60 then growsI (fun t => dz (M 32 k / M 30 k) t (M 9 4)) d 1 else -2) else -1; (repeat (first | rw [if_pos (by omega)] | rw [if_neg (by omega)])), rfl⟩)

theorem iX4_told_X1 : ∀ w ∈ wsX10, w ∈ wsX4_told := fun _ h => List.mem_cons_of_mem _ (List.mem_append_left _ (List.mem_append_right _ h))
theorem iX4_told_X3 : ∀ w ∈ wsX30, w ∈ wsX4_told := fun _ h => List.mem_cons_of_mem _ (List.mem_append_right _ h)
theorem iX4_told_X4 : ∀ w ∈ wsX40, w ∈ wsX4_told := fun _ h => List.mem_cons_of_mem _ (List.mem_append_left _ (List.mem_append_left _ (List.mem_append_right _ h)))
set_option maxHeartbeats 4000000 in
set_option maxRecDepth 100000 in
theorem c4_told (l : Launch) (a : Nat → Nat) (u w : Int) (hu : -2147483648 ≤ u ∧ u < 2147483648) (hw : -2147483648 ≤ w ∧ w < 2147483648) (M : Mem) (hV : lOK (viewC M)) (hR : rulL (viewC M)) (hl : 0 ≤ M 4 4 ∧ M 4 4 ≤ 16) (hbe : ∀ j, 0 ≤ j → j < M 24 0 → (0 ≤ M 27 j ∧ M 27 j ≤ 16) ∧ (0 ≤ M 28 j ∧ M 28 j ≤ 16)) : CtI XS l yX4_told wsX4_told ({ frames := 1, cells := 0, slots := 0, locals := 22 } : Room) LC a M [.ref (a 0), .int (iI u), .int (iI w)] (fun z M' => tldQ M u w z ∧ M' = M) := by
  refine CtI.of (y := yX4_told) (cc := cX4_told) (maxL := 3) (ret := (some .int)) (lv := [some (.ref (a 0)), some (.int (iI u)), some (.int (iI w))]) (by decide) rfl (Nat.le_of_ble_eq_true rfl) (lvOK_of _ _ ⟨rfl, rfl⟩) ?_
  intro p e s m below meth c D T F K X0 hr hlk
  have hXc := XS_c
  obtain ⟨hn, hg, hs, hsep, hc⟩ := view_ok hV
  obtain ⟨r1, r2, r3, r4⟩ := view_rul hR
  refine g_iload_n F (pc' := 1) dX4_told_0 rfl rfl ?_
  refine g_iconst F (pc' := 2) dX4_told_1 rfl ?_
  refine g_aload_n F (pc' := 3) dX4_told_2 rfl rfl ?_
  refine g_getR F K (k := 0) (fld := 1) (ci := 4) (q := 4) (pc' := 6) iX4_told_X4 rfl rfl rfl (by decide) (List.mem_of_getElem? (i := 1) rfl) dX4_told_3 rfl ?_
  refine g_getI F K (k := 4) (fld := 4) (ci := 1) (z := M 4 4) (pc' := 9) iX4_told_X1 rfl rfl rfl (by decide) (List.mem_of_getElem? (i := 2) rfl) dX4_told_6 rfl (by first | rfl | simp [upf, sc]) ?_
  refine g_iconst F (pc' := 10) dX4_told_9 rfl ?_
  refine g_isub F (pc' := 11) dX4_told_10 rfl ?_
  refine g_callP F (pc' := 14) (st := []) (c4_isWithin l u 0 ((M 4 4) - 1) (by omega) (by omega) (by omega)) (va_cwS 3 F.2.2.2.2 gX4_told_X4_isWithin rfl rfl rfl (by decide +kernel) ⟨Nat.le_of_ble_eq_true rfl, Nat.le_of_ble_eq_true rfl⟩) rfl rfl (Nat.le_of_ble_eq_true rfl) dX4_told_11 rfl ?_
  refine g_if_ne F (pc' := 17) (tgt := 19) dX4_told_14 rfl (by decide) (zC_R _) (fun c_14 => ?_) (fun c_14 => ?_)
  · skip
    have c_14 := zC_1 c_14
    refine g_iload_n F (pc' := 20) dX4_told_19 rfl rfl ?_
    rcases (show (w < 0 ∨ 4 < w) ∨ w = 0 ∨ w = 1 ∨ w = 2 ∨ w = 3 ∨ w = 4 by omega) with c_20 | c_20 | c_20 | c_20 | c_20 | c_20
    · skip
      refine g_tswO F (tgt := 105) dX4_told_20 (by omega) c_20 (by decide) ?_
      refine g_bipush F (pc' := 107) dX4_told_105 rfl (by decide +kernel) ?_
      exact g_iret F hr hlk dX4_told_107 (⟨⟨fun q => by first | rfl | (exfalso; omega), fun q => ⟨fun q2 => by first | rfl | (exfalso; omega), fun q2 => by first | rfl | (exfalso; omega), fun q2 => by first | rfl | (exfalso; omega), fun q2 => by first | rfl | (exfalso; omega), fun q2 => by first | exact hwe | (exfalso; omega), fun q2 => by first | rfl | (exfalso; omega)⟩⟩, rfl⟩)
    · skip
      refine g_tswI F (tgt := 56) (i := 0) dX4_told_20 (by omega) (by omega) (by decide) rfl (by decide) ?_
      refine g_aload_n F (pc' := 57) dX4_told_56 rfl rfl ?_
      refine g_getR F K (k := 0) (fld := 1) (ci := 4) (q := 4) (pc' := 60) iX4_told_X4 rfl rfl rfl (by decide) (List.mem_of_getElem? (i := 1) rfl) dX4_told_57 rfl ?_
      refine g_getR F K (k := 4) (fld := 0) (ci := 1) (q := 5) (pc' := 63) iX4_told_X1 rfl rfl rfl (by decide) (List.mem_of_getElem? (i := 3) rfl) dX4_told_60 rfl ?_
      refine g_iload_n F (pc' := 64) dX4_told_63 rfl rfl ?_
      refine g_iald F K (k := 5) (v := M 5 u) (pc' := 65) rfl (by decide) (by omega) dX4_told_64 rfl (by first | rfl | simp [upf, sc]) ?_
      exact g_iret F hr hlk dX4_told_65 (⟨⟨fun q => by first | rfl | (exfalso; omega), fun q => ⟨fun q2 => by first | rfl | (exfalso; omega), fun q2 => by first | rfl | (exfalso; omega), fun q2 => by first | rfl | (exfalso; omega), fun q2 => by first | rfl | (exfalso; omega), fun q2 => by first | exact hwe | (exfalso; omega), fun q2 => by first | rfl | (exfalso; omega)⟩⟩, rfl⟩)
    · skip
      refine g_tswI F (tgt := 66) (i := 1) dX4_told_20 (by omega) (by omega) (by decide) rfl (by decide) ?_
      refine g_aload_n F (pc' := 67) dX4_told_66 rfl rfl ?_
      refine g_getR F K (k := 0) (fld := 1) (ci := 4) (q := 4) (pc' := 70) iX4_told_X4 rfl rfl rfl (by decide) (List.mem_of_getElem? (i := 1) rfl) dX4_told_67 rfl ?_
      refine g_getR F K (k := 4) (fld := 1) (ci := 1) (q := 6) (pc' := 73) iX4_told_X1 rfl rfl rfl (by decide) (List.mem_of_getElem? (i := 4) rfl) dX4_told_70 rfl ?_
      refine g_iload_n F (pc' := 74) dX4_told_73 rfl rfl ?_
      refine g_iald F K (k := 6) (v := M 6 u) (pc' := 75) rfl (by decide) (by omega) dX4_told_74 rfl (by first | rfl | simp [upf, sc]) ?_
      exact g_iret F hr hlk dX4_told_75 (⟨⟨fun q => by first | rfl | (exfalso; omega), fun q => ⟨fun q2 => by first | rfl | (exfalso; omega), fun q2 => by first | rfl | (exfalso; omega), fun q2 => by first | rfl | (exfalso; omega), fun q2 => by first | rfl | (exfalso; omega), fun q2 => by first | exact hwe | (exfalso; omega), fun q2 => by first | rfl | (exfalso; omega)⟩⟩, rfl⟩)
    · skip
      refine g_tswI F (tgt := 76) (i := 2) dX4_told_20 (by omega) (by omega) (by decide) rfl (by decide) ?_
      refine g_aload_n F (pc' := 77) dX4_told_76 rfl rfl ?_
      refine g_getR F K (k := 0) (fld := 1) (ci := 4) (q := 4) (pc' := 80) iX4_told_X4 rfl rfl rfl (by decide) (List.mem_of_getElem? (i := 1) rfl) dX4_told_77 rfl ?_
      refine g_getR F K (k := 4) (fld := 2) (ci := 1) (q := 7) (pc' := 83) iX4_told_X1 rfl rfl rfl (by decide) (List.mem_of_getElem? (i := 5) rfl) dX4_told_80 rfl ?_
      refine g_iload_n F (pc' := 84) dX4_told_83 rfl rfl ?_
      refine g_iald F K (k := 7) (v := M 7 u) (pc' := 85) rfl (by decide) (by omega) dX4_told_84 rfl (by first | rfl | simp [upf, sc]) ?_
      exact g_iret F hr hlk dX4_told_85 (⟨⟨fun q => by first | rfl | (exfalso; omega), fun q => ⟨fun q2 => by first | rfl | (exfalso; omega), fun q2 => by first | rfl | (exfalso; omega), fun q2 => by first | rfl | (exfalso; omega), fun q2 => by first | rfl | (exfalso; omega), fun q2 => by first | exact hwe | (exfalso; omega), fun q2 => by first | rfl | (exfalso; omega)⟩⟩, rfl⟩)
    · skip
      refine g_tswI F (tgt := 86) (i := 3) dX4_told_20 (by omega) (by omega) (by decide) rfl (by decide) ?_
      refine g_aload_n F (pc' := 87) dX4_told_86 rfl rfl ?_
      refine g_getR F K (k := 0) (fld := 1) (ci := 4) (q := 4) (pc' := 90) iX4_told_X4 rfl rfl rfl (by decide) (List.mem_of_getElem? (i := 1) rfl) dX4_told_87 rfl ?_
      refine g_getR F K (k := 4) (fld := 3) (ci := 1) (q := 8) (pc' := 93) iX4_told_X1 rfl rfl rfl (by decide) (List.mem_of_getElem? (i := 6) rfl) dX4_told_90 rfl ?_
      refine g_iload_n F (pc' := 94) dX4_told_93 rfl rfl ?_
      refine g_iald F K (k := 8) (v := M 8 u) (pc' := 95) rfl (by decide) (by omega) dX4_told_94 rfl (by first | rfl | simp [upf, sc]) ?_
      exact g_iret F hr hlk dX4_told_95 (⟨⟨fun q => by first | rfl | (exfalso; omega), fun q => ⟨fun q2 => by first | rfl | (exfalso; omega), fun q2 => by first | rfl | (exfalso; omega), fun q2 => by first | rfl | (exfalso; omega), fun q2 => by first | rfl | (exfalso; omega), fun q2 => by first | exact hwe | (exfalso; omega), fun q2 => by first | rfl | (exfalso; omega)⟩⟩, rfl⟩)
    · skip
      refine g_tswI F (tgt := 96) (i := 4) dX4_told_20 (by omega) (by omega) (by decide) rfl (by decide) ?_
      refine g_aload_n F (pc' := 97) dX4_told_96 rfl rfl ?_
      refine g_getR F K (k := 0) (fld := 4) (ci := 4) (q := 24) (pc' := 100) iX4_told_X4 rfl rfl rfl (by decide) (List.mem_of_getElem? (i := 7) rfl) dX4_told_97 rfl ?_
      refine g_iload_n F (pc' := 101) dX4_told_100 rfl rfl ?_
      refine g_callI F K hXc X0 (pc' := 104) (st := []) (c3_withEdge l a M u (by omega) (by omega) hbe) (cwV 1 F.2.2.2.2 gX4_told_X3_withEdge rfl rfl rfl (by decide +kernel) ⟨Nat.le_of_ble_eq_true rfl, Nat.le_of_ble_eq_true rfl⟩) rfl rfl rfl rfl (Nat.le_of_ble_eq_true rfl) dX4_told_101 rfl (fun z_101 M_101 q_101 => ?_)
      obtain ⟨hwe, mq_101⟩ := q_101
      have mq_101 := mq_101.symm; subst mq_101
      exact g_iret F hr hlk dX4_told_104 (⟨⟨fun q => by first | rfl | (exfalso; omega), fun q => ⟨fun q2 => by first | rfl | (exfalso; omega), fun q2 => by first | rfl | (exfalso; omega), fun q2 => by first | rfl | (exfalso; omega), fun q2 => by first | rfl | (exfalso; omega), fun q2 => by first | exact hwe | (exfalso; omega), fun q2 => by first | rfl | (exfalso; omega)⟩⟩, rfl⟩)
  · skip
    have c_14 := zC_0 c_14
    refine g_iconst F (pc' := 18) dX4_told_17 rfl ?_
    exact g_iret F hr hlk dX4_told_18 (⟨⟨fun q => by first | rfl | (exfalso; omega), fun q => ⟨fun q2 => by first | rfl | (exfalso; omega), fun q2 => by first | rfl | (exfalso; omega), fun q2 => by first | rfl | (exfalso; omega), fun q2 => by first | rfl | (exfalso; omega), fun q2 => by first | exact hwe | (exfalso; omega), fun q2 => by first | rfl | (exfalso; omega)⟩⟩, rfl⟩)

theorem iX4_count_X1 : ∀ w ∈ wsX10, w ∈ wsX4_count := fun _ h => List.mem_cons_of_mem _ (List.mem_append_left _ (List.mem_append_right _ h))
theorem iX4_count_X2 : ∀ w ∈ wsX20, w ∈ wsX4_count := fun _ h => List.mem_cons_of_mem _ (List.mem_append_left _ (List.mem_append_left _ (List.mem_append_right _ h)))
theorem iX4_count_X3 : ∀ w ∈ wsX30, w ∈ wsX4_count := fun _ h => List.mem_cons_of_mem _ (List.mem_append_right _ h)
theorem iX4_count_X4 : ∀ w ∈ wsX40, w ∈ wsX4_count := fun _ h => List.mem_cons_of_mem _ (List.mem_append_left _ (List.mem_append_left _ (List.mem_append_left _ (List.mem_append_right _ h))))
set_option maxHeartbeats 4000000 in
set_option maxRecDepth 100000 in
theorem c4_count (l : Launch) (a : Nat → Nat) (w : Int) (hw : -2147483648 ≤ w ∧ w < 2147483648) (M : Mem) (hV : lOK (viewC M)) (hR : rulL (viewC M)) (hl : 0 ≤ M 4 4 ∧ M 4 4 ≤ 16) : CtI XS l yX4_count wsX4_count ({ frames := 1, cells := 0, slots := 0, locals := 22 } : Room) LC a M [.ref (a 0), .int (iI w)] (fun z M' => z = countZ (viewC M) w ∧ M' = M) := by
  refine CtI.of (y := yX4_count) (cc := cX4_count) (maxL := 2) (ret := (some .int)) (lv := [some (.ref (a 0)), some (.int (iI w))]) (by decide) rfl (Nat.le_of_ble_eq_true rfl) (lvOK_of _ _ ⟨rfl, rfl⟩) ?_
  intro p e s m below meth c D T F K X0 hr hlk
  have hXc := XS_c
  obtain ⟨hn, hg, hs, hsep, hc⟩ := view_ok hV
  obtain ⟨r1, r2, r3, r4⟩ := view_rul hR
  refine g_iload_n F (pc' := 1) dX4_count_0 rfl rfl ?_
  rcases (show (w < 0 ∨ 3 < w) ∨ w = 0 ∨ w = 1 ∨ w = 2 ∨ w = 3 by omega) with c_1 | c_1 | c_1 | c_1 | c_1
  · skip
    refine g_tswO F (tgt := 64) dX4_count_1 (by omega) c_1 (by decide) ?_
    refine g_iload_n F (pc' := 65) dX4_count_64 rfl rfl ?_
    refine g_iconst F (pc' := 66) dX4_count_65 rfl ?_
    refine g_bipush F (pc' := 68) dX4_count_66 rfl (by decide +kernel) ?_
    refine g_callP F (pc' := 71) (st := []) (c4_isWithin l w 4 8 (by omega) (by omega) (by omega)) (va_cwS 3 F.2.2.2.2 gX4_count_X4_isWithin rfl rfl rfl (by decide +kernel) ⟨Nat.le_of_ble_eq_true rfl, Nat.le_of_ble_eq_true rfl⟩) rfl rfl (Nat.le_of_ble_eq_true rfl) dX4_count_68 rfl ?_
    refine g_if_eq F (pc' := 74) (tgt := 88) dX4_count_71 rfl (by decide) (zC_R _) (fun c_71 => ?_) (fun c_71 => ?_)
    · skip
      have c_71 := zC_0 c_71
      refine g_bipush F (pc' := 90) dX4_count_88 rfl (by decide +kernel) ?_
      exact g_iret F hr hlk dX4_count_90 (⟨by show _ = if w = 0 then M 1 1 else if w = 1 then M 4 4 else if w = 2 then M 24 0 else if w = 3 then M 24 6 else if 4 ≤ w ∧ w ≤ 8 then M 9 (w - 4) else -2; (repeat (first | rw [if_pos (by omega)] | rw [if_neg (by omega)])), rfl⟩)
    · skip
      have c_71 := zC_1 c_71
      refine g_aload_n F (pc' := 75) dX4_count_74 rfl rfl ?_
      refine g_getR F K (k := 0) (fld := 1) (ci := 4) (q := 4) (pc' := 78) iX4_count_X4 rfl rfl rfl (by decide) (List.mem_of_getElem? (i := 3) rfl) dX4_count_75 rfl ?_
      refine g_getR F K (k := 4) (fld := 5) (ci := 1) (q := 9) (pc' := 81) iX4_count_X1 rfl rfl rfl (by decide) (List.mem_of_getElem? (i := 8) rfl) dX4_count_78 rfl ?_
      refine g_iload_n F (pc' := 82) dX4_count_81 rfl rfl ?_
      refine g_iconst F (pc' := 83) dX4_count_82 rfl ?_
      refine g_isub F (pc' := 84) dX4_count_83 rfl ?_
      refine g_iald F K (k := 9) (v := M 9 (w - 4)) (pc' := 85) rfl (by decide) (by omega) dX4_count_84 rfl (by first | rfl | simp [upf, sc]) ?_
      refine g_goto F (tgt := 90) dX4_count_85 (by decide) ?_
      exact g_iret F hr hlk dX4_count_90 (⟨by show _ = if w = 0 then M 1 1 else if w = 1 then M 4 4 else if w = 2 then M 24 0 else if w = 3 then M 24 6 else if 4 ≤ w ∧ w ≤ 8 then M 9 (w - 4) else -2; (repeat (first | rw [if_pos (by omega)] | rw [if_neg (by omega)])), rfl⟩)
  · skip
    refine g_tswI F (tgt := 32) (i := 0) dX4_count_1 (by omega) (by omega) (by decide) rfl (by decide) ?_
    refine g_aload_n F (pc' := 33) dX4_count_32 rfl rfl ?_
    refine g_getR F K (k := 0) (fld := 0) (ci := 4) (q := 1) (pc' := 36) iX4_count_X4 rfl rfl rfl (by decide) (List.mem_of_getElem? (i := 1) rfl) dX4_count_33 rfl ?_
    refine g_getI F K (k := 1) (fld := 1) (ci := 2) (z := M 1 1) (pc' := 39) iX4_count_X2 rfl rfl rfl (by decide) (List.mem_of_getElem? (i := 2) rfl) dX4_count_36 rfl (by first | rfl | simp [upf, sc]) ?_
    exact g_iret F hr hlk dX4_count_39 (⟨by show _ = if w = 0 then M 1 1 else if w = 1 then M 4 4 else if w = 2 then M 24 0 else if w = 3 then M 24 6 else if 4 ≤ w ∧ w ≤ 8 then M 9 (w - 4) else -2; (repeat (first | rw [if_pos (by omega)] | rw [if_neg (by omega)])), rfl⟩)
  · skip
    refine g_tswI F (tgt := 40) (i := 1) dX4_count_1 (by omega) (by omega) (by decide) rfl (by decide) ?_
    refine g_aload_n F (pc' := 41) dX4_count_40 rfl rfl ?_
    refine g_getR F K (k := 0) (fld := 1) (ci := 4) (q := 4) (pc' := 44) iX4_count_X4 rfl rfl rfl (by decide) (List.mem_of_getElem? (i := 3) rfl) dX4_count_41 rfl ?_
    refine g_getI F K (k := 4) (fld := 4) (ci := 1) (z := M 4 4) (pc' := 47) iX4_count_X1 rfl rfl rfl (by decide) (List.mem_of_getElem? (i := 4) rfl) dX4_count_44 rfl (by first | rfl | simp [upf, sc]) ?_
    exact g_iret F hr hlk dX4_count_47 (⟨by show _ = if w = 0 then M 1 1 else if w = 1 then M 4 4 else if w = 2 then M 24 0 else if w = 3 then M 24 6 else if 4 ≤ w ∧ w ≤ 8 then M 9 (w - 4) else -2; (repeat (first | rw [if_pos (by omega)] | rw [if_neg (by omega)])), rfl⟩)
  · skip
    refine g_tswI F (tgt := 48) (i := 2) dX4_count_1 (by omega) (by omega) (by decide) rfl (by decide) ?_
    refine g_aload_n F (pc' := 49) dX4_count_48 rfl rfl ?_
    refine g_getR F K (k := 0) (fld := 4) (ci := 4) (q := 24) (pc' := 52) iX4_count_X4 rfl rfl rfl (by decide) (List.mem_of_getElem? (i := 5) rfl) dX4_count_49 rfl ?_
    refine g_getI F K (k := 24) (fld := 0) (ci := 3) (z := M 24 0) (pc' := 55) iX4_count_X3 rfl rfl rfl (by decide) (List.mem_of_getElem? (i := 6) rfl) dX4_count_52 rfl (by first | rfl | simp [upf, sc]) ?_
    exact g_iret F hr hlk dX4_count_55 (⟨by show _ = if w = 0 then M 1 1 else if w = 1 then M 4 4 else if w = 2 then M 24 0 else if w = 3 then M 24 6 else if 4 ≤ w ∧ w ≤ 8 then M 9 (w - 4) else -2; (repeat (first | rw [if_pos (by omega)] | rw [if_neg (by omega)])), rfl⟩)
  · skip
    refine g_tswI F (tgt := 56) (i := 3) dX4_count_1 (by omega) (by omega) (by decide) rfl (by decide) ?_
    refine g_aload_n F (pc' := 57) dX4_count_56 rfl rfl ?_
    refine g_getR F K (k := 0) (fld := 4) (ci := 4) (q := 24) (pc' := 60) iX4_count_X4 rfl rfl rfl (by decide) (List.mem_of_getElem? (i := 5) rfl) dX4_count_57 rfl ?_
    refine g_getI F K (k := 24) (fld := 6) (ci := 3) (z := M 24 6) (pc' := 63) iX4_count_X3 rfl rfl rfl (by decide) (List.mem_of_getElem? (i := 7) rfl) dX4_count_60 rfl (by first | rfl | simp [upf, sc]) ?_
    exact g_iret F hr hlk dX4_count_63 (⟨by show _ = if w = 0 then M 1 1 else if w = 1 then M 4 4 else if w = 2 then M 24 0 else if w = 3 then M 24 6 else if 4 ≤ w ∧ w ≤ 8 then M 9 (w - 4) else -2; (repeat (first | rw [if_pos (by omega)] | rw [if_neg (by omega)])), rfl⟩)

