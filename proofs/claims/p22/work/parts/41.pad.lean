/-! ===== the class: the pad ===== -/
theorem fg_all {p : Int → Int} {n t : Int} : ∀ j : Int, 0 ≤ j → j < fg p n t → isF p n (t + j) := by
  intro j h1 h2
  unfold fg at h2
  by_cases q1 : isF p n t
  · rw [pif_t q1] at h2
    by_cases q2 : isF p n (t + 1)
    · rw [pif_t q2] at h2
      have hc : j = 0 ∨ j = 1 ∨ (j = 2 ∧ isF p n (t + 2)) := by
        by_cases q3 : isF p n (t + 2)
        · rw [pif_t q3] at h2
          rcases (show j = 0 ∨ j = 1 ∨ j = 2 by omega) with z | z | z
          · exact Or.inl z
          · exact Or.inr (Or.inl z)
          · exact Or.inr (Or.inr ⟨z, q3⟩)
        · rw [pif_f q3] at h2
          omega
      rcases hc with rfl | rfl | ⟨rfl, q3⟩
      · simpa using q1
      · exact q2
      · exact q3
    · rw [pif_f q2] at h2
      have : j = 0 := by omega
      subst this
      simpa using q1
  · rw [pif_f q1] at h2
    omega
theorem vI_fg (p : Int → Int) (n t : Int) : 0 ≤ vI p t (fg p n t) ∧ vI p t (fg p n t) ≤ 999 := by
  have hr := fg_R p n t
  have h1 := vz_R (p := p) (n := n) (t := t) (fg p n t).toNat (fun j h1 h2 => fg_all j h1 (by omega))
  unfold vI
  rcases (show (fg p n t).toNat = 0 ∨ (fg p n t).toNat = 1 ∨ (fg p n t).toNat = 2 ∨ (fg p n t).toNat = 3 by omega) with h | h | h | h <;> rw [h] at h1 ⊢ <;> omega
set_option maxHeartbeats 4000000 in
set_option maxRecDepth 100000 in
theorem c4_isWithin (l : Launch) (v lo hi : Int) (hv : -2147483648 ≤ v ∧ v < 2147483648) (hl : -2147483648 ≤ lo ∧ lo < 2147483648) (hh : -2147483648 ≤ hi ∧ hi < 2147483648) : CtP l yX4_isWithin wsX4_isWithin ({ frames := 0, cells := 0, slots := 0, locals := 0 } : Room) [.int (iI v), .int (iI lo), .int (iI hi)] (zC (lo ≤ v ∧ v ≤ hi)) := by
  refine CtP.of (y := yX4_isWithin) (cc := cX4_isWithin) (maxL := 3) (ret := (some .boolean)) (lv := [some (.int (iI v)), some (.int (iI lo)), some (.int (iI hi))]) (by decide) rfl (Nat.le_of_ble_eq_true rfl) (lvOK_of _ _ ⟨rfl, rfl⟩) ?_
  intro p e s m below meth c D F hr hlk
  refine g_iload_n F (pc' := 1) dX4_isWithin_0 rfl rfl ?_
  refine g_iload_n F (pc' := 2) dX4_isWithin_1 rfl rfl ?_
  refine g_icmp_lt F (pc' := 5) (tgt := 14) dX4_isWithin_2 rfl (by decide) (by omega) (by omega) (fun c_2 => ?_) (fun c_2 => ?_)
  · skip
    refine g_iconst F (pc' := 15) dX4_isWithin_14 rfl ?_
    exact g_pzret F hr hlk dX4_isWithin_15 (Or.inl rfl) (by first | exact (zC_t (by omega)).symm | exact (zC_f (by omega)).symm)
  · skip
    refine g_iload_n F (pc' := 6) dX4_isWithin_5 rfl rfl ?_
    refine g_iload_n F (pc' := 7) dX4_isWithin_6 rfl rfl ?_
    refine g_icmp_gt F (pc' := 10) (tgt := 14) dX4_isWithin_7 rfl (by decide) (by omega) (by omega) (fun c_7 => ?_) (fun c_7 => ?_)
    · skip
      refine g_iconst F (pc' := 15) dX4_isWithin_14 rfl ?_
      exact g_pzret F hr hlk dX4_isWithin_15 (Or.inl rfl) (by first | exact (zC_t (by omega)).symm | exact (zC_f (by omega)).symm)
    · skip
      refine g_iconst F (pc' := 11) dX4_isWithin_10 rfl ?_
      refine g_goto F (tgt := 15) dX4_isWithin_11 (by decide) ?_
      exact g_pzret F hr hlk dX4_isWithin_15 (Or.inr rfl) (by first | exact (zC_t (by omega)).symm | exact (zC_f (by omega)).symm)

set_option maxHeartbeats 4000000 in
set_option maxRecDepth 100000 in
theorem c4_isSize (l : Launch) (v : Int) (hv : -2147483648 ≤ v ∧ v < 2147483648) : CtP l yX4_isSize wsX4_isSize ({ frames := 1, cells := 0, slots := 0, locals := 22 } : Room) [.int (iI v)] (zC (1 ≤ v ∧ v ≤ 60)) := by
  refine CtP.of (y := yX4_isSize) (cc := cX4_isSize) (maxL := 1) (ret := (some .boolean)) (lv := [some (.int (iI v))]) (by decide) rfl (Nat.le_of_ble_eq_true rfl) (lvOK_of _ _ ⟨rfl, rfl⟩) ?_
  intro p e s m below meth c D F hr hlk
  refine g_iload_n F (pc' := 1) dX4_isSize_0 rfl rfl ?_
  refine g_iconst F (pc' := 2) dX4_isSize_1 rfl ?_
  refine g_bipush F (pc' := 4) dX4_isSize_2 rfl (by decide +kernel) ?_
  refine g_callP F (pc' := 7) (st := []) (c4_isWithin l v 1 60 (by omega) (by omega) (by omega)) (va_cwS 3 F.2.2.2.2 gX4_isSize_X4_isWithin rfl rfl rfl (by decide +kernel) ⟨Nat.le_of_ble_eq_true rfl, Nat.le_of_ble_eq_true rfl⟩) rfl rfl (Nat.le_of_ble_eq_true rfl) dX4_isSize_4 rfl ?_
  exact g_pzret F hr hlk dX4_isSize_7 (zC_01 _) rfl

theorem iX2_add_X2 : ∀ w ∈ wsX20, w ∈ wsX2_add := fun _ h => List.mem_cons_of_mem _ (List.mem_append_right _ h)
set_option maxHeartbeats 4000000 in
set_option maxRecDepth 100000 in
theorem c2_add (l : Launch) (a : Nat → Nat) (M : Mem) (v : Int) (hn : 0 ≤ M 1 1 ∧ M 1 1 ≤ 30) : CtI XS l yX2_add wsX2_add ({ frames := 0, cells := 0, slots := 0, locals := 0 } : Room) LC a M [.ref (a 1), .int (iI v)] (fun z M' => (30 ≤ M 1 1 ∧ z = 0 ∧ M' = M) ∨ (M 1 1 < 30 ∧ z = 1 ∧ M' = sc (sc M 1 (upf (M 1) 1 (M 1 1 + 1))) 2 (upf (M 2) (M 1 1) v))) := by
  refine CtI.of (y := yX2_add) (cc := cX2_add) (maxL := 2) (ret := (some .boolean)) (lv := [some (.ref (a 1)), some (.int (iI v))]) (by decide) rfl (Nat.le_of_ble_eq_true rfl) (lvOK_of _ _ ⟨rfl, rfl⟩) ?_
  intro p e s m below meth c D T F K X0 hr hlk
  have hXc := XS_c
  refine g_aload_n F (pc' := 1) dX2_add_0 rfl rfl ?_
  refine g_getI F K (k := 1) (fld := 1) (ci := 2) (z := M 1 1) (pc' := 4) iX2_add_X2 rfl rfl rfl (by decide) (List.mem_of_getElem? (i := 1) rfl) dX2_add_1 rfl (by first | rfl | simp [upf, sc]) ?_
  refine g_bipush F (pc' := 6) dX2_add_4 rfl (by decide +kernel) ?_
  refine g_icmp_lt F (pc' := 9) (tgt := 11) dX2_add_6 rfl (by decide) (by omega) (by decide) (fun c_6 => ?_) (fun c_6 => ?_)
  · skip
    refine g_aload_n F (pc' := 12) dX2_add_11 rfl rfl ?_
    refine g_getR F K (k := 1) (fld := 0) (ci := 2) (q := 2) (pc' := 15) iX2_add_X2 rfl rfl rfl (by decide) (List.mem_of_getElem? (i := 2) rfl) dX2_add_12 rfl ?_
    refine g_aload_n F (pc' := 16) dX2_add_15 rfl rfl ?_
    refine g_getI F K (k := 1) (fld := 1) (ci := 2) (z := M 1 1) (pc' := 19) iX2_add_X2 rfl rfl rfl (by decide) (List.mem_of_getElem? (i := 1) rfl) dX2_add_16 rfl (by first | rfl | simp [upf, sc]) ?_
    refine g_iload_n F (pc' := 20) dX2_add_19 rfl rfl ?_
    refine h_iast F K (k := 2) (pc' := 21) (sc M 2 (upf (M 2) (M 1 1) v)) (mem_up (by rfl) (by intro j hj; simp only [sc, if_neg hj])) rfl (by decide) (by omega) dX2_add_20 rfl ?_
    refine g_aload_n F (pc' := 22) dX2_add_21 rfl rfl ?_
    refine g_dup F (pc' := 23) dX2_add_22 rfl rfl ?_
    refine g_getI F K (k := 1) (fld := 1) (ci := 2) (z := M 1 1) (pc' := 26) iX2_add_X2 rfl rfl rfl (by decide) (List.mem_of_getElem? (i := 1) rfl) dX2_add_23 rfl (by first | rfl | simp [upf, sc]) ?_
    refine g_iconst F (pc' := 27) dX2_add_26 rfl ?_
    refine g_iadd F (pc' := 28) dX2_add_27 rfl ?_
    refine h_putI F K (k := 1) (fld := 1) (ci := 2) (pc' := 31) (sc (sc M 1 (upf (M 1) 1 ((M 1 1) + 1))) 2 (upf (M 2) (M 1 1) v)) (mem_up (by rfl) (by intro j hj; simp only [sc, if_neg hj])) tyX2 tyX2_ok nmX2 iX2_add_X2 rfl rfl rfl (by decide) rfl rfl (List.mem_of_getElem? (i := 1) rfl) dX2_add_28 rfl ?_
    refine g_iconst F (pc' := 32) dX2_add_31 rfl ?_
    exact g_zret F hr hlk dX2_add_32 (Or.inr rfl) (Or.inr ⟨by omega, rfl, rfl⟩)
  · skip
    refine g_iconst F (pc' := 10) dX2_add_9 rfl ?_
    exact g_zret F hr hlk dX2_add_10 (Or.inl rfl) (Or.inl ⟨by omega, rfl, rfl⟩)

theorem iX2_clear_X2 : ∀ w ∈ wsX20, w ∈ wsX2_clear := fun _ h => List.mem_cons_of_mem _ (List.mem_append_right _ h)
set_option maxHeartbeats 4000000 in
set_option maxRecDepth 100000 in
theorem c2_clear (l : Launch) (a : Nat → Nat) (M : Mem) : CtV XS l yX2_clear wsX2_clear ({ frames := 0, cells := 0, slots := 0, locals := 0 } : Room) LC a M [.ref (a 1)] (fun M' => M' = sc M 1 (upf (M 1) 1 0)) := by
  refine CtV.of (y := yX2_clear) (cc := cX2_clear) (maxL := 1) (ret := none) (lv := [some (.ref (a 1))]) (by decide) rfl (Nat.le_of_ble_eq_true rfl) (lvOK_of _ _ ⟨rfl, rfl⟩) ?_
  intro p e s m below meth c D T F K X0 hr hlk
  have hXc := XS_c
  refine g_aload_n F (pc' := 1) dX2_clear_0 rfl rfl ?_
  refine g_iconst F (pc' := 2) dX2_clear_1 rfl ?_
  refine h_putI F K (k := 1) (fld := 1) (ci := 2) (pc' := 5) (sc M 1 (upf (M 1) 1 0)) (mem_up (by rfl) (by intro j hj; simp only [sc, if_neg hj])) tyX2 tyX2_ok nmX2 iX2_clear_X2 rfl rfl rfl (by decide) rfl rfl (List.mem_of_getElem? (i := 1) rfl) dX2_clear_2 rfl ?_
  exact g_vret F hr hlk dX2_clear_5 (rfl)

theorem iX2_isSign_X2 : ∀ w ∈ wsX20, w ∈ wsX2_isSign := fun _ h => List.mem_cons_of_mem _ (List.mem_append_right _ h)
set_option maxHeartbeats 4000000 in
set_option maxRecDepth 100000 in
theorem c2_isSign (l : Launch) (a : Nat → Nat) (M : Mem) (t c0 : Int) (ht : -2147483648 ≤ t ∧ t < 2147483648) (hc : 0 ≤ c0 ∧ c0 ≤ 126) (hn : 0 ≤ M 1 1 ∧ M 1 1 ≤ 30) (hP : ∀ j, 0 ≤ M 2 j ∧ M 2 j ≤ 126) : CtI XS l yX2_isSign wsX2_isSign ({ frames := 0, cells := 0, slots := 0, locals := 0 } : Room) LC a M [.ref (a 1), .int (iI t), .int (iI c0)] (fun z M' => z = zC (0 ≤ t ∧ t < M 1 1 ∧ M 2 t = c0) ∧ M' = M) := by
  refine CtI.of (y := yX2_isSign) (cc := cX2_isSign) (maxL := 3) (ret := (some .boolean)) (lv := [some (.ref (a 1)), some (.int (iI t)), some (.int (iI c0))]) (by decide) rfl (Nat.le_of_ble_eq_true rfl) (lvOK_of _ _ ⟨rfl, rfl⟩) ?_
  intro p e s m below meth c D T F K X0 hr hlk
  have hXc := XS_c
  refine g_iload_n F (pc' := 1) dX2_isSign_0 rfl rfl ?_
  refine g_if_lt F (pc' := 4) (tgt := 26) dX2_isSign_1 rfl (by decide) (by omega) (fun c_1 => ?_) (fun c_1 => ?_)
  · skip
    refine g_iconst F (pc' := 27) dX2_isSign_26 rfl ?_
    exact g_zret F hr hlk dX2_isSign_27 (Or.inl rfl) (⟨by first | exact (zC_t (by omega)).symm | exact (zC_f (by omega)).symm, rfl⟩)
  · skip
    refine g_iload_n F (pc' := 5) dX2_isSign_4 rfl rfl ?_
    refine g_aload_n F (pc' := 6) dX2_isSign_5 rfl rfl ?_
    refine g_getI F K (k := 1) (fld := 1) (ci := 2) (z := M 1 1) (pc' := 9) iX2_isSign_X2 rfl rfl rfl (by decide) (List.mem_of_getElem? (i := 1) rfl) dX2_isSign_6 rfl (by first | rfl | simp [upf, sc]) ?_
    refine g_icmp_ge F (pc' := 12) (tgt := 26) dX2_isSign_9 rfl (by decide) (by omega) (by omega) (fun c_9 => ?_) (fun c_9 => ?_)
    · skip
      refine g_iconst F (pc' := 27) dX2_isSign_26 rfl ?_
      exact g_zret F hr hlk dX2_isSign_27 (Or.inl rfl) (⟨by first | exact (zC_t (by omega)).symm | exact (zC_f (by omega)).symm, rfl⟩)
    · skip
      refine g_aload_n F (pc' := 13) dX2_isSign_12 rfl rfl ?_
      refine g_getR F K (k := 1) (fld := 0) (ci := 2) (q := 2) (pc' := 16) iX2_isSign_X2 rfl rfl rfl (by decide) (List.mem_of_getElem? (i := 2) rfl) dX2_isSign_13 rfl ?_
      refine g_iload_n F (pc' := 17) dX2_isSign_16 rfl rfl ?_
      refine g_iald F K (k := 2) (v := M 2 t) (pc' := 18) rfl (by decide) (by omega) dX2_isSign_17 rfl (by first | rfl | simp [upf, sc]) ?_
      have b_17 := hP t
      refine g_iload_n F (pc' := 19) dX2_isSign_18 rfl rfl ?_
      refine g_icmp_ne F (pc' := 22) (tgt := 26) dX2_isSign_19 rfl (by decide) (by omega) (by omega) (fun c_19 => ?_) (fun c_19 => ?_)
      · skip
        refine g_iconst F (pc' := 27) dX2_isSign_26 rfl ?_
        exact g_zret F hr hlk dX2_isSign_27 (Or.inl rfl) (⟨by first | exact (zC_t (by omega)).symm | exact (zC_f (by omega)).symm, rfl⟩)
      · skip
        refine g_iconst F (pc' := 23) dX2_isSign_22 rfl ?_
        refine g_goto F (tgt := 27) dX2_isSign_23 (by decide) ?_
        exact g_zret F hr hlk dX2_isSign_27 (Or.inr rfl) (⟨by first | exact (zC_t (by omega)).symm | exact (zC_f (by omega)).symm, rfl⟩)

theorem iX2_isFigure_X2 : ∀ w ∈ wsX20, w ∈ wsX2_isFigure := fun _ h => List.mem_cons_of_mem _ (List.mem_append_right _ h)
set_option maxHeartbeats 4000000 in
set_option maxRecDepth 100000 in
theorem c2_isFigure (l : Launch) (a : Nat → Nat) (M : Mem) (t : Int) (ht : -2147483648 ≤ t ∧ t < 2147483648) (hn : 0 ≤ M 1 1 ∧ M 1 1 ≤ 30) (hP : ∀ j, 0 ≤ M 2 j ∧ M 2 j ≤ 126) : CtI XS l yX2_isFigure wsX2_isFigure ({ frames := 1, cells := 0, slots := 0, locals := 22 } : Room) LC a M [.ref (a 1), .int (iI t)] (fun z M' => z = zC (0 ≤ t ∧ isF (M 2) (M 1 1) t) ∧ M' = M) := by
  refine CtI.of (y := yX2_isFigure) (cc := cX2_isFigure) (maxL := 2) (ret := (some .boolean)) (lv := [some (.ref (a 1)), some (.int (iI t))]) (by decide) rfl (Nat.le_of_ble_eq_true rfl) (lvOK_of _ _ ⟨rfl, rfl⟩) ?_
  intro p e s m below meth c D T F K X0 hr hlk
  have hXc := XS_c
  obtain ⟨⟨nw1, nw2, nw3⟩, -⟩ := id X0
  refine g_iload_n F (pc' := 1) dX2_isFigure_0 rfl rfl ?_
  refine g_if_lt F (pc' := 4) (tgt := 32) dX2_isFigure_1 rfl (by decide) (by omega) (fun c_1 => ?_) (fun c_1 => ?_)
  · skip
    refine g_iconst F (pc' := 33) dX2_isFigure_32 rfl ?_
    exact g_zret F hr hlk dX2_isFigure_33 (Or.inl rfl) (⟨by first | exact (zC_t ⟨by omega, by omega, by omega⟩).symm | exact (zC_f (by rintro ⟨q1, q2, q3⟩; omega)).symm, rfl⟩)
  · skip
    refine g_iload_n F (pc' := 5) dX2_isFigure_4 rfl rfl ?_
    refine g_aload_n F (pc' := 6) dX2_isFigure_5 rfl rfl ?_
    refine g_getI F K (k := 1) (fld := 1) (ci := 2) (z := M 1 1) (pc' := 9) iX2_isFigure_X2 rfl rfl rfl (by decide) (List.mem_of_getElem? (i := 1) rfl) dX2_isFigure_6 rfl (by first | rfl | simp [upf, sc]) ?_
    refine g_icmp_ge F (pc' := 12) (tgt := 32) dX2_isFigure_9 rfl (by decide) (by omega) (by omega) (fun c_9 => ?_) (fun c_9 => ?_)
    · skip
      refine g_iconst F (pc' := 33) dX2_isFigure_32 rfl ?_
      exact g_zret F hr hlk dX2_isFigure_33 (Or.inl rfl) (⟨by first | exact (zC_t ⟨by omega, by omega, by omega⟩).symm | exact (zC_f (by rintro ⟨q1, q2, q3⟩; omega)).symm, rfl⟩)
    · skip
      refine g_aload_n F (pc' := 13) dX2_isFigure_12 rfl rfl ?_
      refine g_getR F K (k := 1) (fld := 0) (ci := 2) (q := 2) (pc' := 16) iX2_isFigure_X2 rfl rfl rfl (by decide) (List.mem_of_getElem? (i := 2) rfl) dX2_isFigure_13 rfl ?_
      refine g_iload_n F (pc' := 17) dX2_isFigure_16 rfl rfl ?_
      refine g_iald F K (k := 2) (v := M 2 t) (pc' := 18) rfl (by decide) (by omega) dX2_isFigure_17 rfl (by first | rfl | simp [upf, sc]) ?_
      have b_17 := hP t
      refine g_bipush F (pc' := 20) dX2_isFigure_18 rfl (by decide +kernel) ?_
      refine g_bipush F (pc' := 22) dX2_isFigure_20 rfl (by decide +kernel) ?_
      refine g_callPN F (pc' := 25) (st := []) (c4_isWithin l (M 2 t) 48 57 (by omega) (by omega) (by omega)) ⟨va_cnB 3 F.2.2.2.2 gX2_isFigure_X4_isWithin_n38 rfl rfl rfl nw1 (F.2.2.2.2 _ (List.mem_of_getElem? (i := 4) rfl)) (by decide +kernel) ⟨Nat.le_of_ble_eq_true rfl, Nat.le_of_ble_eq_true rfl⟩, F.2.2.2.2 _ (List.mem_of_getElem? (i := 3) rfl), trivial⟩ rfl rfl (Nat.le_of_ble_eq_true rfl) dX2_isFigure_22 rfl ?_
      refine g_if_eq F (pc' := 28) (tgt := 32) dX2_isFigure_25 rfl (by decide) (zC_R _) (fun c_25 => ?_) (fun c_25 => ?_)
      · skip
        have c_25 := zC_0 c_25
        refine g_iconst F (pc' := 33) dX2_isFigure_32 rfl ?_
        exact g_zret F hr hlk dX2_isFigure_33 (Or.inl rfl) (⟨by first | exact (zC_t ⟨by omega, by omega, by omega⟩).symm | exact (zC_f (by rintro ⟨q1, q2, q3⟩; omega)).symm, rfl⟩)
      · skip
        have c_25 := zC_1 c_25
        refine g_iconst F (pc' := 29) dX2_isFigure_28 rfl ?_
        refine g_goto F (tgt := 33) dX2_isFigure_29 (by decide) ?_
        exact g_zret F hr hlk dX2_isFigure_33 (Or.inr rfl) (⟨by first | exact (zC_t ⟨by omega, by omega, by omega⟩).symm | exact (zC_f (by rintro ⟨q1, q2, q3⟩; omega)).symm, rfl⟩)

theorem iX2_readNumber_X2 : ∀ w ∈ wsX20, w ∈ wsX2_readNumber := fun _ h => List.mem_cons_of_mem _ (List.mem_append_right _ h)
set_option maxHeartbeats 4000000 in
set_option maxRecDepth 100000 in
theorem c2_readNumber (l : Launch) (a : Nat → Nat) (M : Mem) (i t : Int) (hi : 0 ≤ i ∧ i < 3) (ht : 0 ≤ t ∧ t ≤ 40) (hn : 0 ≤ M 1 1 ∧ M 1 1 ≤ 30) (hP : ∀ j, 0 ≤ M 2 j ∧ M 2 j ≤ 126) : CtI XS l yX2_readNumber wsX2_readNumber ({ frames := 2, cells := 0, slots := 0, locals := 43 } : Room) LC a M [.ref (a 1), .int (iI i), .int (iI t)] (fun z M' => z = fg (M 2) (M 1 1) t ∧ M' = sc M 3 (upf (M 3) i (vI (M 2) t (fg (M 2) (M 1 1) t)))) := by
  refine CtI.of (y := yX2_readNumber) (cc := cX2_readNumber) (maxL := 5) (ret := (some .int)) (lv := [some (.ref (a 1)), some (.int (iI i)), some (.int (iI t)), none, none]) (by decide) rfl (Nat.le_of_ble_eq_true rfl) (lvOK_of _ _ ⟨rfl, rfl⟩) ?_
  intro p e s m below meth c D T F K X0 hr hlk
  have hXc := XS_c
  refine g_iconst F (pc' := 1) dX2_readNumber_0 rfl ?_
  refine g_istore_n F (pc' := 2) (lv' := [some (.ref (a 1)), some (.int (iI i)), some (.int (iI t)), some (.int (iI 0)), none]) dX2_readNumber_1 rfl (by decide) rfl ?_
  refine g_iconst F (pc' := 3) dX2_readNumber_2 rfl ?_
  refine g_istore F (pc' := 5) (lv' := [some (.ref (a 1)), some (.int (iI i)), some (.int (iI t)), some (.int (iI 0)), some (.int (iI 0))]) dX2_readNumber_3 rfl (by decide) rfl ?_
  have lp_5 : ∀ (n_5 : Nat) (k : Int) (v : Int) (hm_5 : 3 - k < (n_5 : Int)) (hk : 0 ≤ k ∧ k ≤ 3) (hv : v = vI (M 2) t k) (hal : ∀ j, 0 ≤ j → j < k → isF (M 2) (M 1 1) (t + j)), GG p l e ({ frames := 2, cells := 0, slots := 0, locals := 43 } : Room) s m ([.ref (a 1), .int (iI i), .int (iI t)].toArray) below meth c (PI D T a LC M (fun z M' => z = fg (M 2) (M 1 1) t ∧ M' = sc M 3 (upf (M 3) i (vI (M 2) t (fg (M 2) (M 1 1) t)))) below ([.ref (a 1), .int (iI i), .int (iI t)].toArray) s) D (AA T a LC M s.heap.size) 5 (wld T a LC M) 5 [some (.ref (a 1)), some (.int (iI i)), some (.int (iI t)), some (.int (iI k)), some (.int (iI v))] [] := by
    intro n_5
    induction n_5 with
    | zero => intro k v hm_5 hk hv hal; exfalso; omega
    | succ n_5 ih_5 =>
      intro k v hm_5 hk hv hal
      refine g_iload_n F (pc' := 6) dX2_readNumber_5 rfl rfl ?_
      refine g_iconst F (pc' := 7) dX2_readNumber_6 rfl ?_
      refine g_icmp_ge F (pc' := 10) (tgt := 45) dX2_readNumber_7 rfl (by decide) (by omega) (by decide) (fun c_7 => ?_) (fun c_7 => ?_)
      · skip
        have hkk : fg (M 2) (M 1 1) t = k := fg_is hk hal (by first | (left; omega) | (right; intro q; exact c_17 ⟨by omega, q⟩))
        refine g_aload_n F (pc' := 46) dX2_readNumber_45 rfl rfl ?_
        refine g_getR F K (k := 1) (fld := 2) (ci := 2) (q := 3) (pc' := 49) iX2_readNumber_X2 rfl rfl rfl (by decide) (List.mem_of_getElem? (i := 2) rfl) dX2_readNumber_46 rfl ?_
        refine g_iload_n F (pc' := 50) dX2_readNumber_49 rfl rfl ?_
        refine g_iload F (pc' := 52) dX2_readNumber_50 rfl rfl ?_
        refine h_iast F K (k := 3) (pc' := 53) (sc M 3 (upf (M 3) i v)) (mem_up (by rfl) (by intro j hj; simp only [sc, if_neg hj])) rfl (by decide) (by omega) dX2_readNumber_52 rfl ?_
        refine g_iload_n F (pc' := 54) dX2_readNumber_53 rfl rfl ?_
        exact g_iret F hr hlk dX2_readNumber_54 (⟨hkk.symm, by rw [hkk, hv]⟩)
      · skip
        refine g_aload_n F (pc' := 11) dX2_readNumber_10 rfl rfl ?_
        refine g_iload_n F (pc' := 12) dX2_readNumber_11 rfl rfl ?_
        refine g_iload_n F (pc' := 13) dX2_readNumber_12 rfl rfl ?_
        refine g_iadd F (pc' := 14) dX2_readNumber_13 rfl ?_
        refine g_callI F K hXc X0 (pc' := 17) (st := []) (c2_isFigure l a M (t + k) (by omega) hn hP) (cwV 1 F.2.2.2.2 gX2_readNumber_X2_isFigure rfl rfl rfl (by decide +kernel) ⟨Nat.le_of_ble_eq_true rfl, Nat.le_of_ble_eq_true rfl⟩) rfl rfl rfl rfl (Nat.le_of_ble_eq_true rfl) dX2_readNumber_14 rfl (fun z_14 M_14 q_14 => ?_)
        obtain ⟨rfl, mq_14⟩ := q_14
        have mq_14 := mq_14.symm; subst mq_14
        refine g_if_eq F (pc' := 20) (tgt := 45) dX2_readNumber_17 rfl (by decide) (zC_R _) (fun c_17 => ?_) (fun c_17 => ?_)
        · skip
          have c_17 := zC_0 c_17
          have hkk : fg (M 2) (M 1 1) t = k := fg_is hk hal (by first | (left; omega) | (right; intro q; exact c_17 ⟨by omega, q⟩))
          refine g_aload_n F (pc' := 46) dX2_readNumber_45 rfl rfl ?_
          refine g_getR F K (k := 1) (fld := 2) (ci := 2) (q := 3) (pc' := 49) iX2_readNumber_X2 rfl rfl rfl (by decide) (List.mem_of_getElem? (i := 2) rfl) dX2_readNumber_46 rfl ?_
          refine g_iload_n F (pc' := 50) dX2_readNumber_49 rfl rfl ?_
          refine g_iload F (pc' := 52) dX2_readNumber_50 rfl rfl ?_
          refine h_iast F K (k := 3) (pc' := 53) (sc M 3 (upf (M 3) i v)) (mem_up (by rfl) (by intro j hj; simp only [sc, if_neg hj])) rfl (by decide) (by omega) dX2_readNumber_52 rfl ?_
          refine g_iload_n F (pc' := 54) dX2_readNumber_53 rfl rfl ?_
          exact g_iret F hr hlk dX2_readNumber_54 (⟨hkk.symm, by rw [hkk, hv]⟩)
        · skip
          have c_17 := zC_1 c_17
          refine g_bipush F (pc' := 22) dX2_readNumber_20 rfl (by decide +kernel) ?_
          refine g_iload F (pc' := 24) dX2_readNumber_22 rfl rfl ?_
          refine g_imul F (pc' := 25) dX2_readNumber_24 rfl ?_
          refine g_aload_n F (pc' := 26) dX2_readNumber_25 rfl rfl ?_
          have hlt := c_17.2.1
          refine g_getR F K (k := 1) (fld := 0) (ci := 2) (q := 2) (pc' := 29) iX2_readNumber_X2 rfl rfl rfl (by decide) (List.mem_of_getElem? (i := 1) rfl) dX2_readNumber_26 rfl ?_
          refine g_iload_n F (pc' := 30) dX2_readNumber_29 rfl rfl ?_
          refine g_iload_n F (pc' := 31) dX2_readNumber_30 rfl rfl ?_
          refine g_iadd F (pc' := 32) dX2_readNumber_31 rfl ?_
          refine g_iald F K (k := 2) (v := M 2 (t + k)) (pc' := 33) rfl (by decide) (by omega) dX2_readNumber_32 rfl (by first | rfl | simp [upf, sc]) ?_
          have b_32 := hP (t + k)
          refine g_iadd F (pc' := 34) dX2_readNumber_33 rfl ?_
          refine g_bipush F (pc' := 36) dX2_readNumber_34 rfl (by decide +kernel) ?_
          refine g_isub F (pc' := 37) dX2_readNumber_36 rfl ?_
          refine g_istore F (pc' := 39) (lv' := [some (.ref (a 1)), some (.int (iI i)), some (.int (iI t)), some (.int (iI k)), some (.int (iI (((10 * v) + (M 2 (t + k))) - 48)))]) dX2_readNumber_37 rfl (by decide) rfl ?_
          refine g_iinc F (pc' := 42) (lv' := [some (.ref (a 1)), some (.int (iI i)), some (.int (iI t)), some (.int (iI (k + 1))), some (.int (iI (((10 * v) + (M 2 (t + k))) - 48)))]) dX2_readNumber_39 rfl rfl (by decide) rfl ?_
          refine g_goto F (tgt := 5) dX2_readNumber_42 (by decide) ?_
          exact ih_5 (k + 1) (((10 * v) + (M 2 (t + k))) - 48) (by omega) (by omega) (by first | rfl | (rw [vI_s hk.1, hv])) (by first | (intro j h1 h2; exfalso; omega) | exact isF_s hal c_17.2)
  exact lp_5 ((3 - 0 : Int).toNat + 1) 0 0 (by omega) (by omega) (by first | rfl | (rw [vI_s hk.1, hv])) (by first | (intro j h1 h2; exfalso; omega) | exact isF_s hal c_17.2)

theorem iX2_read_X2 : ∀ w ∈ wsX20, w ∈ wsX2_read := fun _ h => List.mem_cons_of_mem _ (List.mem_append_right _ h)
set_option maxHeartbeats 4000000 in
set_option maxRecDepth 100000 in
theorem c2_read (l : Launch) (a : Nat → Nat) (M : Mem) (hn : 0 ≤ M 1 1 ∧ M 1 1 ≤ 30) (hP : ∀ j, 0 ≤ M 2 j ∧ M 2 j ≤ 126) : CtI XS l yX2_read wsX2_read ({ frames := 3, cells := 0, slots := 0, locals := 67 } : Room) LC a M [.ref (a 1)] (fun z M' => ∃ nu : Int → Int, M' = sc M 3 nu ∧ z = fl (M 2) (M 1 1) ∧ (z = -6 → nu 0 = pv1 (M 2) (M 1 1) ∧ nu 1 = pv2 (M 2) (M 1 1) ∧ nu 2 = pv3 (M 2) (M 1 1))) := by
  refine CtI.of (y := yX2_read) (cc := cX2_read) (maxL := 4) (ret := (some .int)) (lv := [some (.ref (a 1)), none, none, none]) (by decide) rfl (Nat.le_of_ble_eq_true rfl) (lvOK_of _ _ ⟨rfl, rfl⟩) ?_
  intro p e s m below meth c D T F K X0 hr hlk
  have hXc := XS_c
  obtain ⟨-, -, t2, hZ2, hT2⟩ := id X0
  have lp_22 : ∀ (_ : Unit) (hst : pst (M 2) (M 1 1)), GG p l e ({ frames := 3, cells := 0, slots := 0, locals := 67 } : Room) s m ([.ref (a 1)].toArray) below meth c (PI D T a LC M (fun z M' => ∃ nu : Int → Int, M' = sc M 3 nu ∧ z = fl (M 2) (M 1 1) ∧ (z = -6 → nu 0 = pv1 (M 2) (M 1 1) ∧ nu 1 = pv2 (M 2) (M 1 1) ∧ nu 2 = pv3 (M 2) (M 1 1))) below ([.ref (a 1)].toArray) s) D (AA T a LC M s.heap.size) 4 (wld T a LC M) 22 [some (.ref (a 1)), none, none, none] [] := by
    intro _ hst
    have hs0 : 0 < M 1 1 := hst.1
    refine g_iconst F (pc' := 23) dX2_read_22 rfl ?_
    refine g_istore_n F (pc' := 24) (lv' := [some (.ref (a 1)), some (.int (iI 1)), none, none]) dX2_read_23 rfl (by decide) rfl ?_
    refine g_iconst F (pc' := 25) dX2_read_24 rfl ?_
    refine g_istore_n F (pc' := 26) (lv' := [some (.ref (a 1)), some (.int (iI 1)), some (.int (iI 0)), none]) dX2_read_25 rfl (by decide) rfl ?_
    refine g_iload_n F (pc' := 27) dX2_read_26 rfl rfl ?_
    refine g_iconst F (pc' := 28) dX2_read_27 rfl ?_
    refine g_icmp_ge F (pc' := 31) (tgt := 80) dX2_read_28 rfl (by decide) (by decide) (by decide) (fun c_28 => ?_) (fun c_28 => ?_)
    · skip
      exact absurd c_28 (by decide)
    · skip
      refine g_aload_n F (pc' := 32) dX2_read_31 rfl rfl ?_
      refine g_iload_n F (pc' := 33) dX2_read_32 rfl rfl ?_
      refine g_iload_n F (pc' := 34) dX2_read_33 rfl rfl ?_
      have hr1 := fg_R (M 2) (M 1 1) 1
      have hg1 := fg_le (p := M 2) (n := M 1 1) (t := 1) (by omega)
      have hv1 := vI_fg (M 2) (M 1 1) 1
      refine g_callI F K hXc X0 (pc' := 37) (st := []) (c2_readNumber l a M 0 1 (by omega) (by omega) hn hP) (cwV 2 F.2.2.2.2 gX2_read_X2_readNumber rfl rfl rfl (by decide +kernel) ⟨Nat.le_of_ble_eq_true rfl, Nat.le_of_ble_eq_true rfl⟩) rfl rfl rfl rfl (Nat.le_of_ble_eq_true rfl) dX2_read_34 rfl (fun z_34 M_34 q_34 => ?_)
      obtain ⟨rfl, mq_34⟩ := q_34
      have mq_34 := mq_34.symm; subst mq_34
      refine h_top (z' := fg (M 2) (M 1 1) 1) rfl ?_
      refine h_mem (sc M 3 (upf (M 3) 0 (vI (M 2) 1 (fg (M 2) (M 1 1) 1)))) (by first | rfl | exact sc_sc _ _ _ _) ?_
      refine g_istore_n F (pc' := 38) (lv' := [some (.ref (a 1)), some (.int (iI 1)), some (.int (iI 0)), some (.int (iI (fg (M 2) (M 1 1) 1)))]) dX2_read_37 rfl (by decide) rfl ?_
      refine g_iload_n F (pc' := 39) dX2_read_38 rfl rfl ?_
      refine g_iload_n F (pc' := 40) dX2_read_39 rfl rfl ?_
      refine g_iadd F (pc' := 41) dX2_read_40 rfl ?_
      refine g_istore_n F (pc' := 42) (lv' := [some (.ref (a 1)), some (.int (iI (1 + (fg (M 2) (M 1 1) 1)))), some (.int (iI 0)), some (.int (iI (fg (M 2) (M 1 1) 1)))]) dX2_read_41 rfl (by decide) rfl ?_
      refine g_iload_n F (pc' := 43) dX2_read_42 rfl rfl ?_
      refine g_if_ne F (pc' := 46) (tgt := 48) dX2_read_43 rfl (by decide) (by omega) (fun c_43 => ?_) (fun c_43 => ?_)
      · skip
        have hf1 : fg (M 2) (M 1 1) 1 ≠ 0 := c_43
        refine g_iload_n F (pc' := 49) dX2_read_48 rfl rfl ?_
        refine g_gets F (pc' := 52) hZ2 (List.mem_of_getElem? (i := 1) rfl) dX2_read_49 rfl ?_
        refine g_tlen F (z := 2) (pc' := 53) hT2 dX2_read_52 rfl (by decide +kernel) ?_
        refine g_icmp_ge F (pc' := 56) (tgt := 74) dX2_read_53 rfl (by decide) (by decide) (by decide) (fun c_53 => ?_) (fun c_53 => ?_)
        · skip
          exact absurd c_53 (by decide)
        · skip
          refine g_aload_n F (pc' := 57) dX2_read_56 rfl rfl ?_
          refine g_iload_n F (pc' := 58) dX2_read_57 rfl rfl ?_
          refine g_gets F (pc' := 61) hZ2 (List.mem_of_getElem? (i := 1) rfl) dX2_read_58 rfl ?_
          refine g_iload_n F (pc' := 62) dX2_read_61 rfl rfl ?_
          refine g_tc F (f := fun j => 44 + j) (v := 44) (pc' := 63) hT2 (by decide) (by decide) dX2_read_62 rfl rfl ?_
          refine g_callI F K hXc X0 (pc' := 66) (st := []) (c2_isSign l a (sc M 3 (upf (M 3) 0 (vI (M 2) 1 (fg (M 2) (M 1 1) 1)))) (1 + (fg (M 2) (M 1 1) 1)) 44 (by omega) (by omega) hn hP) (cwV 2 F.2.2.2.2 gX2_read_X2_isSign rfl rfl rfl (by decide +kernel) ⟨Nat.le_of_ble_eq_true rfl, Nat.le_of_ble_eq_true rfl⟩) rfl rfl rfl rfl (Nat.le_of_ble_eq_true rfl) dX2_read_63 rfl (fun z_63 M_63 q_63 => ?_)
          obtain ⟨rfl, mq_63⟩ := q_63
          have mq_63 := mq_63.symm; subst mq_63
          refine h_top (z' := zC (0 ≤ 1 + (fg (M 2) (M 1 1) 1) ∧ 1 + (fg (M 2) (M 1 1) 1) < M 1 1 ∧ M 2 (1 + (fg (M 2) (M 1 1) 1)) = 44)) rfl ?_
          refine g_if_ne F (pc' := 69) (tgt := 71) dX2_read_66 rfl (by decide) (zC_R _) (fun c_66 => ?_) (fun c_66 => ?_)
          · skip
            have c_66 := zC_1 c_66
            have hs1 : (1 + fg (M 2) (M 1 1) 1) < M 1 1 ∧ M 2 (1 + fg (M 2) (M 1 1) 1) = 44 := ⟨c_66.2.1, c_66.2.2⟩
            refine g_iinc F (pc' := 74) (lv' := [some (.ref (a 1)), some (.int (iI (1 + (fg (M 2) (M 1 1) 1) + 1))), some (.int (iI 0)), some (.int (iI (fg (M 2) (M 1 1) 1)))]) dX2_read_71 rfl rfl (by decide) rfl ?_
            refine g_iinc F (pc' := 77) (lv' := [some (.ref (a 1)), some (.int (iI (1 + (fg (M 2) (M 1 1) 1) + 1))), some (.int (iI 1)), some (.int (iI (fg (M 2) (M 1 1) 1)))]) dX2_read_74 rfl rfl (by decide) rfl ?_
            refine g_goto F (tgt := 26) dX2_read_77 (by decide) ?_
            refine g_iload_n F (pc' := 27) dX2_read_26 rfl rfl ?_
            refine g_iconst F (pc' := 28) dX2_read_27 rfl ?_
            refine g_icmp_ge F (pc' := 31) (tgt := 80) dX2_read_28 rfl (by decide) (by decide) (by decide) (fun c_28 => ?_) (fun c_28 => ?_)
            · skip
              exact absurd c_28 (by decide)
            · skip
              refine g_aload_n F (pc' := 32) dX2_read_31 rfl rfl ?_
              refine g_iload_n F (pc' := 33) dX2_read_32 rfl rfl ?_
              refine g_iload_n F (pc' := 34) dX2_read_33 rfl rfl ?_
              have hr2 := fg_R (M 2) (M 1 1) ((1 + fg (M 2) (M 1 1) 1) + 1)
              have hg2 := fg_le (p := M 2) (n := M 1 1) (t := ((1 + fg (M 2) (M 1 1) 1) + 1)) (by omega)
              have hv2 := vI_fg (M 2) (M 1 1) ((1 + fg (M 2) (M 1 1) 1) + 1)
              refine g_callI F K hXc X0 (pc' := 37) (st := []) (c2_readNumber l a (sc M 3 (upf (M 3) 0 (vI (M 2) 1 (fg (M 2) (M 1 1) 1)))) 1 (1 + (fg (M 2) (M 1 1) 1) + 1) (by omega) (by omega) hn hP) (cwV 2 F.2.2.2.2 gX2_read_X2_readNumber rfl rfl rfl (by decide +kernel) ⟨Nat.le_of_ble_eq_true rfl, Nat.le_of_ble_eq_true rfl⟩) rfl rfl rfl rfl (Nat.le_of_ble_eq_true rfl) dX2_read_34 rfl (fun z_34 M_34 q_34 => ?_)
              obtain ⟨rfl, mq_34⟩ := q_34
              have mq_34 := mq_34.symm; subst mq_34
              refine h_top (z' := fg (M 2) (M 1 1) (1 + (fg (M 2) (M 1 1) 1) + 1)) rfl ?_
              refine h_mem (sc M 3 (upf (upf (M 3) 0 (vI (M 2) 1 (fg (M 2) (M 1 1) 1))) 1 (vI (M 2) (1 + (fg (M 2) (M 1 1) 1) + 1) (fg (M 2) (M 1 1) (1 + (fg (M 2) (M 1 1) 1) + 1))))) (by first | rfl | exact sc_sc _ _ _ _) ?_
              refine g_istore_n F (pc' := 38) (lv' := [some (.ref (a 1)), some (.int (iI (1 + (fg (M 2) (M 1 1) 1) + 1))), some (.int (iI 1)), some (.int (iI (fg (M 2) (M 1 1) (1 + (fg (M 2) (M 1 1) 1) + 1))))]) dX2_read_37 rfl (by decide) rfl ?_
              refine g_iload_n F (pc' := 39) dX2_read_38 rfl rfl ?_
              refine g_iload_n F (pc' := 40) dX2_read_39 rfl rfl ?_
              refine g_iadd F (pc' := 41) dX2_read_40 rfl ?_
              refine g_istore_n F (pc' := 42) (lv' := [some (.ref (a 1)), some (.int (iI ((1 + (fg (M 2) (M 1 1) 1) + 1) + (fg (M 2) (M 1 1) (1 + (fg (M 2) (M 1 1) 1) + 1))))), some (.int (iI 1)), some (.int (iI (fg (M 2) (M 1 1) (1 + (fg (M 2) (M 1 1) 1) + 1))))]) dX2_read_41 rfl (by decide) rfl ?_
              refine g_iload_n F (pc' := 43) dX2_read_42 rfl rfl ?_
              refine g_if_ne F (pc' := 46) (tgt := 48) dX2_read_43 rfl (by decide) (by omega) (fun c_43 => ?_) (fun c_43 => ?_)
              · skip
                have hf2 : fg (M 2) (M 1 1) ((1 + fg (M 2) (M 1 1) 1) + 1) ≠ 0 := c_43
                refine g_iload_n F (pc' := 49) dX2_read_48 rfl rfl ?_
                refine g_gets F (pc' := 52) hZ2 (List.mem_of_getElem? (i := 1) rfl) dX2_read_49 rfl ?_
                refine g_tlen F (z := 2) (pc' := 53) hT2 dX2_read_52 rfl (by decide +kernel) ?_
                refine g_icmp_ge F (pc' := 56) (tgt := 74) dX2_read_53 rfl (by decide) (by decide) (by decide) (fun c_53 => ?_) (fun c_53 => ?_)
                · skip
                  exact absurd c_53 (by decide)
                · skip
                  refine g_aload_n F (pc' := 57) dX2_read_56 rfl rfl ?_
                  refine g_iload_n F (pc' := 58) dX2_read_57 rfl rfl ?_
                  refine g_gets F (pc' := 61) hZ2 (List.mem_of_getElem? (i := 1) rfl) dX2_read_58 rfl ?_
                  refine g_iload_n F (pc' := 62) dX2_read_61 rfl rfl ?_
                  refine g_tc F (f := fun j => 44 + j) (v := 45) (pc' := 63) hT2 (by decide) (by decide) dX2_read_62 rfl rfl ?_
                  refine g_callI F K hXc X0 (pc' := 66) (st := []) (c2_isSign l a (sc M 3 (upf (upf (M 3) 0 (vI (M 2) 1 (fg (M 2) (M 1 1) 1))) 1 (vI (M 2) (1 + (fg (M 2) (M 1 1) 1) + 1) (fg (M 2) (M 1 1) (1 + (fg (M 2) (M 1 1) 1) + 1))))) ((1 + (fg (M 2) (M 1 1) 1) + 1) + (fg (M 2) (M 1 1) (1 + (fg (M 2) (M 1 1) 1) + 1))) 45 (by omega) (by omega) hn hP) (cwV 2 F.2.2.2.2 gX2_read_X2_isSign rfl rfl rfl (by decide +kernel) ⟨Nat.le_of_ble_eq_true rfl, Nat.le_of_ble_eq_true rfl⟩) rfl rfl rfl rfl (Nat.le_of_ble_eq_true rfl) dX2_read_63 rfl (fun z_63 M_63 q_63 => ?_)
                  obtain ⟨rfl, mq_63⟩ := q_63
                  have mq_63 := mq_63.symm; subst mq_63
                  refine h_top (z' := zC (0 ≤ (1 + (fg (M 2) (M 1 1) 1) + 1) + (fg (M 2) (M 1 1) (1 + (fg (M 2) (M 1 1) 1) + 1)) ∧ (1 + (fg (M 2) (M 1 1) 1) + 1) + (fg (M 2) (M 1 1) (1 + (fg (M 2) (M 1 1) 1) + 1)) < M 1 1 ∧ M 2 ((1 + (fg (M 2) (M 1 1) 1) + 1) + (fg (M 2) (M 1 1) (1 + (fg (M 2) (M 1 1) 1) + 1))) = 45)) rfl ?_
                  refine g_if_ne F (pc' := 69) (tgt := 71) dX2_read_66 rfl (by decide) (zC_R _) (fun c_66 => ?_) (fun c_66 => ?_)
                  · skip
                    have c_66 := zC_1 c_66
                    have hs2 : (((1 + fg (M 2) (M 1 1) 1) + 1) + fg (M 2) (M 1 1) ((1 + fg (M 2) (M 1 1) 1) + 1)) < M 1 1 ∧ M 2 (((1 + fg (M 2) (M 1 1) 1) + 1) + fg (M 2) (M 1 1) ((1 + fg (M 2) (M 1 1) 1) + 1)) = 45 := ⟨c_66.2.1, c_66.2.2⟩
                    refine g_iinc F (pc' := 74) (lv' := [some (.ref (a 1)), some (.int (iI ((1 + (fg (M 2) (M 1 1) 1) + 1) + (fg (M 2) (M 1 1) (1 + (fg (M 2) (M 1 1) 1) + 1)) + 1))), some (.int (iI 1)), some (.int (iI (fg (M 2) (M 1 1) (1 + (fg (M 2) (M 1 1) 1) + 1))))]) dX2_read_71 rfl rfl (by decide) rfl ?_
                    refine g_iinc F (pc' := 77) (lv' := [some (.ref (a 1)), some (.int (iI ((1 + (fg (M 2) (M 1 1) 1) + 1) + (fg (M 2) (M 1 1) (1 + (fg (M 2) (M 1 1) 1) + 1)) + 1))), some (.int (iI 2)), some (.int (iI (fg (M 2) (M 1 1) (1 + (fg (M 2) (M 1 1) 1) + 1))))]) dX2_read_74 rfl rfl (by decide) rfl ?_
                    refine g_goto F (tgt := 26) dX2_read_77 (by decide) ?_
                    refine g_iload_n F (pc' := 27) dX2_read_26 rfl rfl ?_
                    refine g_iconst F (pc' := 28) dX2_read_27 rfl ?_
                    refine g_icmp_ge F (pc' := 31) (tgt := 80) dX2_read_28 rfl (by decide) (by decide) (by decide) (fun c_28 => ?_) (fun c_28 => ?_)
                    · skip
                      exact absurd c_28 (by decide)
                    · skip
                      refine g_aload_n F (pc' := 32) dX2_read_31 rfl rfl ?_
                      refine g_iload_n F (pc' := 33) dX2_read_32 rfl rfl ?_
                      refine g_iload_n F (pc' := 34) dX2_read_33 rfl rfl ?_
                      have hr3 := fg_R (M 2) (M 1 1) ((((1 + fg (M 2) (M 1 1) 1) + 1) + fg (M 2) (M 1 1) ((1 + fg (M 2) (M 1 1) 1) + 1)) + 1)
                      have hg3 := fg_le (p := M 2) (n := M 1 1) (t := ((((1 + fg (M 2) (M 1 1) 1) + 1) + fg (M 2) (M 1 1) ((1 + fg (M 2) (M 1 1) 1) + 1)) + 1)) (by omega)
                      have hv3 := vI_fg (M 2) (M 1 1) ((((1 + fg (M 2) (M 1 1) 1) + 1) + fg (M 2) (M 1 1) ((1 + fg (M 2) (M 1 1) 1) + 1)) + 1)
                      refine g_callI F K hXc X0 (pc' := 37) (st := []) (c2_readNumber l a (sc M 3 (upf (upf (M 3) 0 (vI (M 2) 1 (fg (M 2) (M 1 1) 1))) 1 (vI (M 2) (1 + (fg (M 2) (M 1 1) 1) + 1) (fg (M 2) (M 1 1) (1 + (fg (M 2) (M 1 1) 1) + 1))))) 2 ((1 + (fg (M 2) (M 1 1) 1) + 1) + (fg (M 2) (M 1 1) (1 + (fg (M 2) (M 1 1) 1) + 1)) + 1) (by omega) (by omega) hn hP) (cwV 2 F.2.2.2.2 gX2_read_X2_readNumber rfl rfl rfl (by decide +kernel) ⟨Nat.le_of_ble_eq_true rfl, Nat.le_of_ble_eq_true rfl⟩) rfl rfl rfl rfl (Nat.le_of_ble_eq_true rfl) dX2_read_34 rfl (fun z_34 M_34 q_34 => ?_)
                      obtain ⟨rfl, mq_34⟩ := q_34
                      have mq_34 := mq_34.symm; subst mq_34
                      refine h_top (z' := fg (M 2) (M 1 1) ((1 + (fg (M 2) (M 1 1) 1) + 1) + (fg (M 2) (M 1 1) (1 + (fg (M 2) (M 1 1) 1) + 1)) + 1)) rfl ?_
                      refine h_mem (sc M 3 (upf (upf (upf (M 3) 0 (vI (M 2) 1 (fg (M 2) (M 1 1) 1))) 1 (vI (M 2) (1 + (fg (M 2) (M 1 1) 1) + 1) (fg (M 2) (M 1 1) (1 + (fg (M 2) (M 1 1) 1) + 1)))) 2 (vI (M 2) ((1 + (fg (M 2) (M 1 1) 1) + 1) + (fg (M 2) (M 1 1) (1 + (fg (M 2) (M 1 1) 1) + 1)) + 1) (fg (M 2) (M 1 1) ((1 + (fg (M 2) (M 1 1) 1) + 1) + (fg (M 2) (M 1 1) (1 + (fg (M 2) (M 1 1) 1) + 1)) + 1))))) (by first | rfl | exact sc_sc _ _ _ _) ?_
                      refine g_istore_n F (pc' := 38) (lv' := [some (.ref (a 1)), some (.int (iI ((1 + (fg (M 2) (M 1 1) 1) + 1) + (fg (M 2) (M 1 1) (1 + (fg (M 2) (M 1 1) 1) + 1)) + 1))), some (.int (iI 2)), some (.int (iI (fg (M 2) (M 1 1) ((1 + (fg (M 2) (M 1 1) 1) + 1) + (fg (M 2) (M 1 1) (1 + (fg (M 2) (M 1 1) 1) + 1)) + 1))))]) dX2_read_37 rfl (by decide) rfl ?_
                      refine g_iload_n F (pc' := 39) dX2_read_38 rfl rfl ?_
                      refine g_iload_n F (pc' := 40) dX2_read_39 rfl rfl ?_
                      refine g_iadd F (pc' := 41) dX2_read_40 rfl ?_
                      refine g_istore_n F (pc' := 42) (lv' := [some (.ref (a 1)), some (.int (iI (((1 + (fg (M 2) (M 1 1) 1) + 1) + (fg (M 2) (M 1 1) (1 + (fg (M 2) (M 1 1) 1) + 1)) + 1) + (fg (M 2) (M 1 1) ((1 + (fg (M 2) (M 1 1) 1) + 1) + (fg (M 2) (M 1 1) (1 + (fg (M 2) (M 1 1) 1) + 1)) + 1))))), some (.int (iI 2)), some (.int (iI (fg (M 2) (M 1 1) ((1 + (fg (M 2) (M 1 1) 1) + 1) + (fg (M 2) (M 1 1) (1 + (fg (M 2) (M 1 1) 1) + 1)) + 1))))]) dX2_read_41 rfl (by decide) rfl ?_
                      refine g_iload_n F (pc' := 43) dX2_read_42 rfl rfl ?_
                      refine g_if_ne F (pc' := 46) (tgt := 48) dX2_read_43 rfl (by decide) (by omega) (fun c_43 => ?_) (fun c_43 => ?_)
                      · skip
                        have hf3 : fg (M 2) (M 1 1) ((((1 + fg (M 2) (M 1 1) 1) + 1) + fg (M 2) (M 1 1) ((1 + fg (M 2) (M 1 1) 1) + 1)) + 1) ≠ 0 := c_43
                        refine g_iload_n F (pc' := 49) dX2_read_48 rfl rfl ?_
                        refine g_gets F (pc' := 52) hZ2 (List.mem_of_getElem? (i := 1) rfl) dX2_read_49 rfl ?_
                        refine g_tlen F (z := 2) (pc' := 53) hT2 dX2_read_52 rfl (by decide +kernel) ?_
                        refine g_icmp_ge F (pc' := 56) (tgt := 74) dX2_read_53 rfl (by decide) (by decide) (by decide) (fun c_53 => ?_) (fun c_53 => ?_)
                        · skip
                          refine g_iinc F (pc' := 77) (lv' := [some (.ref (a 1)), some (.int (iI (((1 + (fg (M 2) (M 1 1) 1) + 1) + (fg (M 2) (M 1 1) (1 + (fg (M 2) (M 1 1) 1) + 1)) + 1) + (fg (M 2) (M 1 1) ((1 + (fg (M 2) (M 1 1) 1) + 1) + (fg (M 2) (M 1 1) (1 + (fg (M 2) (M 1 1) 1) + 1)) + 1))))), some (.int (iI 3)), some (.int (iI (fg (M 2) (M 1 1) ((1 + (fg (M 2) (M 1 1) 1) + 1) + (fg (M 2) (M 1 1) (1 + (fg (M 2) (M 1 1) 1) + 1)) + 1))))]) dX2_read_74 rfl rfl (by decide) rfl ?_
                          refine g_goto F (tgt := 26) dX2_read_77 (by decide) ?_
                          refine g_iload_n F (pc' := 27) dX2_read_26 rfl rfl ?_
                          refine g_iconst F (pc' := 28) dX2_read_27 rfl ?_
                          refine g_icmp_ge F (pc' := 31) (tgt := 80) dX2_read_28 rfl (by decide) (by decide) (by decide) (fun c_28 => ?_) (fun c_28 => ?_)
                          · skip
                            refine g_iload_n F (pc' := 81) dX2_read_80 rfl rfl ?_
                            refine g_aload_n F (pc' := 82) dX2_read_81 rfl rfl ?_
                            refine g_getI F K (k := 1) (fld := 1) (ci := 2) (z := M 1 1) (pc' := 85) iX2_read_X2 rfl rfl rfl (by decide) (List.mem_of_getElem? (i := 2) rfl) dX2_read_82 rfl (by first | rfl | simp [upf, sc]) ?_
                            refine g_icmp_ge F (pc' := 88) (tgt := 90) dX2_read_85 rfl (by decide) (by omega) (by omega) (fun c_85 => ?_) (fun c_85 => ?_)
                            · skip
                              refine g_aload_n F (pc' := 91) dX2_read_90 rfl rfl ?_
                              refine g_getR F K (k := 1) (fld := 2) (ci := 2) (q := 3) (pc' := 94) iX2_read_X2 rfl rfl rfl (by decide) (List.mem_of_getElem? (i := 3) rfl) dX2_read_91 rfl ?_
                              refine g_iconst F (pc' := 95) dX2_read_94 rfl ?_
                              refine g_iald F K (k := 3) (v := vI (M 2) ((1 + (fg (M 2) (M 1 1) 1) + 1) + (fg (M 2) (M 1 1) (1 + (fg (M 2) (M 1 1) 1) + 1)) + 1) (fg (M 2) (M 1 1) ((1 + (fg (M 2) (M 1 1) 1) + 1) + (fg (M 2) (M 1 1) (1 + (fg (M 2) (M 1 1) 1) + 1)) + 1))) (pc' := 96) rfl (by decide) (by decide) dX2_read_95 rfl (by first | rfl | exact upf_s _ _ _ | simp [upf, sc]) ?_
                              refine g_aload_n F (pc' := 97) dX2_read_96 rfl rfl ?_
                              refine g_getR F K (k := 1) (fld := 2) (ci := 2) (q := 3) (pc' := 100) iX2_read_X2 rfl rfl rfl (by decide) (List.mem_of_getElem? (i := 3) rfl) dX2_read_97 rfl ?_
                              refine g_iconst F (pc' := 101) dX2_read_100 rfl ?_
                              refine g_iald F K (k := 3) (v := vI (M 2) (1 + (fg (M 2) (M 1 1) 1) + 1) (fg (M 2) (M 1 1) (1 + (fg (M 2) (M 1 1) 1) + 1))) (pc' := 102) rfl (by decide) (by decide) dX2_read_101 rfl (by first | rfl | exact upf_s _ _ _ | simp [upf, sc]) ?_
                              refine g_icmp_le F (pc' := 105) (tgt := 110) dX2_read_102 rfl (by decide) (by omega) (by omega) (fun c_102 => ?_) (fun c_102 => ?_)
                              · skip
                                refine g_aload_n F (pc' := 111) dX2_read_110 rfl rfl ?_
                                refine g_getI F K (k := 1) (fld := 1) (ci := 2) (z := M 1 1) (pc' := 114) iX2_read_X2 rfl rfl rfl (by decide) (List.mem_of_getElem? (i := 2) rfl) dX2_read_111 rfl (by first | rfl | simp [upf, sc]) ?_
                                exact g_iret F hr hlk dX2_read_114 (by first | exact ⟨_, rfl, (fl_8 hst hf1 hs1 hf2 hs2 hf3 (Int.not_lt.mpr c_85) c_102).symm, fun q => absurd q (by omega)⟩ | exact ⟨_, rfl, (fl_7 hst hf1 hs1 hf2 hs2 hf3 (Int.not_lt.mpr c_85) c_102).symm, fun _ => ⟨by first | rfl | simp [upf], by first | rfl | simp [upf], by first | rfl | simp [upf]⟩⟩)
                              · skip
                                refine g_bipush F (pc' := 107) dX2_read_105 rfl (by decide +kernel) ?_
                                refine g_goto F (tgt := 114) dX2_read_107 (by decide) ?_
                                exact g_iret F hr hlk dX2_read_114 (by first | exact ⟨_, rfl, (fl_8 hst hf1 hs1 hf2 hs2 hf3 (Int.not_lt.mpr c_85) c_102).symm, fun q => absurd q (by omega)⟩ | exact ⟨_, rfl, (fl_7 hst hf1 hs1 hf2 hs2 hf3 (Int.not_lt.mpr c_85) c_102).symm, fun _ => ⟨by first | rfl | simp [upf], by first | rfl | simp [upf], by first | rfl | simp [upf]⟩⟩)
                            · skip
                              refine g_iload_n F (pc' := 89) dX2_read_88 rfl rfl ?_
                              exact g_iret F hr hlk dX2_read_89 (⟨_, rfl, (fl_6 hst hf1 hs1 hf2 hs2 hf3 c_85).symm, fun q => absurd q (by omega)⟩)
                          · skip
                            exact absurd c_28 (by decide)
                        · skip
                          exact absurd c_53 (by decide)
                      · skip
                        have hnf : fg (M 2) (M 1 1) ((((1 + fg (M 2) (M 1 1) 1) + 1) + fg (M 2) (M 1 1) ((1 + fg (M 2) (M 1 1) 1) + 1)) + 1) = 0 := c_43
                        refine g_iload_n F (pc' := 47) dX2_read_46 rfl rfl ?_
                        exact g_iret F hr hlk dX2_read_47 (⟨_, rfl, ((fl_5 hst hf1 hs1 hf2 hs2 hnf).trans (show ((((1 + fg (M 2) (M 1 1) 1) + 1) + fg (M 2) (M 1 1) ((1 + fg (M 2) (M 1 1) 1) + 1)) + 1) = ((((1 + fg (M 2) (M 1 1) 1) + 1) + fg (M 2) (M 1 1) ((1 + fg (M 2) (M 1 1) 1) + 1)) + 1) + fg (M 2) (M 1 1) ((((1 + fg (M 2) (M 1 1) 1) + 1) + fg (M 2) (M 1 1) ((1 + fg (M 2) (M 1 1) 1) + 1)) + 1) by omega)).symm, fun q => absurd q (by omega)⟩)
                  · skip
                    have c_66 := zC_0 c_66
                    have hns : ¬ ((((1 + fg (M 2) (M 1 1) 1) + 1) + fg (M 2) (M 1 1) ((1 + fg (M 2) (M 1 1) 1) + 1)) < M 1 1 ∧ M 2 (((1 + fg (M 2) (M 1 1) 1) + 1) + fg (M 2) (M 1 1) ((1 + fg (M 2) (M 1 1) 1) + 1)) = 45) := fun q => c_66 ⟨by omega, q.1, q.2⟩
                    refine g_iload_n F (pc' := 70) dX2_read_69 rfl rfl ?_
                    exact g_iret F hr hlk dX2_read_70 (by first | exact ⟨_, rfl, (fl_2 hst hf1 hns).symm, fun q => absurd q (by omega)⟩ | exact ⟨_, rfl, (fl_4 hst hf1 hs1 hf2 hns).symm, fun q => absurd q (by omega)⟩)
              · skip
                have hnf : fg (M 2) (M 1 1) ((1 + fg (M 2) (M 1 1) 1) + 1) = 0 := c_43
                refine g_iload_n F (pc' := 47) dX2_read_46 rfl rfl ?_
                exact g_iret F hr hlk dX2_read_47 (⟨_, rfl, ((fl_3 hst hf1 hs1 hnf).trans (show ((1 + fg (M 2) (M 1 1) 1) + 1) = ((1 + fg (M 2) (M 1 1) 1) + 1) + fg (M 2) (M 1 1) ((1 + fg (M 2) (M 1 1) 1) + 1) by omega)).symm, fun q => absurd q (by omega)⟩)
          · skip
            have c_66 := zC_0 c_66
            have hns : ¬ ((1 + fg (M 2) (M 1 1) 1) < M 1 1 ∧ M 2 (1 + fg (M 2) (M 1 1) 1) = 44) := fun q => c_66 ⟨by omega, q.1, q.2⟩
            refine g_iload_n F (pc' := 70) dX2_read_69 rfl rfl ?_
            exact g_iret F hr hlk dX2_read_70 (by first | exact ⟨_, rfl, (fl_2 hst hf1 hns).symm, fun q => absurd q (by omega)⟩ | exact ⟨_, rfl, (fl_4 hst hf1 hs1 hf2 hns).symm, fun q => absurd q (by omega)⟩)
      · skip
        have hnf : fg (M 2) (M 1 1) 1 = 0 := c_43
        refine g_iload_n F (pc' := 47) dX2_read_46 rfl rfl ?_
        exact g_iret F hr hlk dX2_read_47 (⟨_, rfl, ((fl_1 hst hnf).trans (show 1 = 1 + fg (M 2) (M 1 1) 1 by omega)).symm, fun q => absurd q (by omega)⟩)
  refine g_aload_n F (pc' := 1) dX2_read_0 rfl rfl ?_
  refine g_iconst F (pc' := 2) dX2_read_1 rfl ?_
  refine g_bipush F (pc' := 4) dX2_read_2 rfl (by decide +kernel) ?_
  refine g_callI F K hXc X0 (pc' := 7) (st := []) (c2_isSign l a M 0 117 (by omega) (by omega) hn hP) (cwV 2 F.2.2.2.2 gX2_read_X2_isSign rfl rfl rfl (by decide +kernel) ⟨Nat.le_of_ble_eq_true rfl, Nat.le_of_ble_eq_true rfl⟩) rfl rfl rfl rfl (Nat.le_of_ble_eq_true rfl) dX2_read_4 rfl (fun z_4 M_4 q_4 => ?_)
  obtain ⟨rfl, mq_4⟩ := q_4
  have mq_4 := mq_4.symm; subst mq_4
  refine g_if_ne F (pc' := 10) (tgt := 22) dX2_read_7 rfl (by decide) (zC_R _) (fun c_7 => ?_) (fun c_7 => ?_)
  · skip
    have c_7 := zC_1 c_7
    exact lp_22 () (by first | exact ⟨c_7.2.1, Or.inl c_7.2.2⟩ | exact ⟨c_17.2.1, Or.inr c_17.2.2⟩)
  · skip
    have c_7 := zC_0 c_7
    refine g_aload_n F (pc' := 11) dX2_read_10 rfl rfl ?_
    refine g_iconst F (pc' := 12) dX2_read_11 rfl ?_
    refine g_bipush F (pc' := 14) dX2_read_12 rfl (by decide +kernel) ?_
    refine g_callI F K hXc X0 (pc' := 17) (st := []) (c2_isSign l a M 0 100 (by omega) (by omega) hn hP) (cwV 2 F.2.2.2.2 gX2_read_X2_isSign rfl rfl rfl (by decide +kernel) ⟨Nat.le_of_ble_eq_true rfl, Nat.le_of_ble_eq_true rfl⟩) rfl rfl rfl rfl (Nat.le_of_ble_eq_true rfl) dX2_read_14 rfl (fun z_14 M_14 q_14 => ?_)
    obtain ⟨rfl, mq_14⟩ := q_14
    have mq_14 := mq_14.symm; subst mq_14
    refine g_if_ne F (pc' := 20) (tgt := 22) dX2_read_17 rfl (by decide) (zC_R _) (fun c_17 => ?_) (fun c_17 => ?_)
    · skip
      have c_17 := zC_1 c_17
      exact lp_22 () (by first | exact ⟨c_7.2.1, Or.inl c_7.2.2⟩ | exact ⟨c_17.2.1, Or.inr c_17.2.2⟩)
    · skip
      have c_17 := zC_0 c_17
      refine g_iconst F (pc' := 21) dX2_read_20 rfl ?_
      exact g_iret F hr hlk dX2_read_21 (⟨M 3, (sc_id M 3).symm, (fl_0 (by rintro ⟨q1, q2⟩; rcases q2 with q2 | q2; exact c_7 ⟨by decide, q1, q2⟩; exact c_17 ⟨by decide, q1, q2⟩)).symm, fun q => absurd q (by decide)⟩)

