/-! ===== the reference: small methods ===== -/
def q5_say (M : Mem) (v : Int) : Int → Mem → Prop := fun z M' => (¬ (33 ≤ v ∧ v ≤ 126) ∧ z = -2 ∧ M' = M) ∨ ((33 ≤ v ∧ v ≤ 126) ∧ M 0 3 = 30 ∧ z = -4 ∧ M' = M) ∨ ((33 ≤ v ∧ v ≤ 126) ∧ M 0 3 ≠ 30 ∧ z = M 0 3 + 1 ∧ M' = sc (sc M 0 (upf (M 0) 3 (M 0 3 + 1))) 3 (upf (M 3) (M 0 3) v))
set_option maxHeartbeats 4000000 in
set_option maxRecDepth 100000 in
theorem c5_in (l : Launch) (v lo hi : Int) (hv : -2147483648 ≤ v ∧ v < 2147483648) (hl : -2147483648 ≤ lo ∧ lo < 2147483648) (hh : -2147483648 ≤ hi ∧ hi < 2147483648) : CtP l yX5_in wsX5_in ({ frames := 0, cells := 0, slots := 0, locals := 0 } : Room) [.int (iI v), .int (iI lo), .int (iI hi)] (zC (lo ≤ v ∧ v ≤ hi)) := by
  refine CtP.of (y := yX5_in) (cc := cX5_in) (maxL := 3) (ret := (some .boolean)) (lv := [some (.int (iI v)), some (.int (iI lo)), some (.int (iI hi))]) (by decide) rfl (Nat.le_of_ble_eq_true rfl) (lvOK_of _ _ ⟨rfl, rfl⟩) ?_
  intro p e s m below meth c D F hr hlk
  refine g_iload_n F (pc' := 1) dX5_in_0 rfl rfl ?_
  refine g_iload_n F (pc' := 2) dX5_in_1 rfl rfl ?_
  refine g_icmp_lt F (pc' := 5) (tgt := 14) dX5_in_2 rfl (by decide) (by omega) (by omega) (fun c_2 => ?_) (fun c_2 => ?_)
  · skip
    refine g_iconst F (pc' := 15) dX5_in_14 rfl ?_
    exact g_pzret F hr hlk dX5_in_15 (Or.inl rfl) (by first | exact (zC_t (by omega)).symm | exact (zC_f (by omega)).symm)
  · skip
    refine g_iload_n F (pc' := 6) dX5_in_5 rfl rfl ?_
    refine g_iload_n F (pc' := 7) dX5_in_6 rfl rfl ?_
    refine g_icmp_gt F (pc' := 10) (tgt := 14) dX5_in_7 rfl (by decide) (by omega) (by omega) (fun c_7 => ?_) (fun c_7 => ?_)
    · skip
      refine g_iconst F (pc' := 15) dX5_in_14 rfl ?_
      exact g_pzret F hr hlk dX5_in_15 (Or.inl rfl) (by first | exact (zC_t (by omega)).symm | exact (zC_f (by omega)).symm)
    · skip
      refine g_iconst F (pc' := 11) dX5_in_10 rfl ?_
      refine g_goto F (tgt := 15) dX5_in_11 (by decide) ?_
      exact g_pzret F hr hlk dX5_in_15 (Or.inr rfl) (by first | exact (zC_t (by omega)).symm | exact (zC_f (by omega)).symm)

set_option maxHeartbeats 4000000 in
set_option maxRecDepth 100000 in
theorem c5_isFigure (l : Launch) (v : Int) (hv : -2147483648 ≤ v ∧ v < 2147483648) : CtP l yX5_isFigure wsX5_isFigure ({ frames := 1, cells := 0, slots := 0, locals := 22 } : Room) [.int (iI v)] (zC (48 ≤ v ∧ v ≤ 57)) := by
  refine CtP.of (y := yX5_isFigure) (cc := cX5_isFigure) (maxL := 1) (ret := (some .boolean)) (lv := [some (.int (iI v))]) (by decide) rfl (Nat.le_of_ble_eq_true rfl) (lvOK_of _ _ ⟨rfl, rfl⟩) ?_
  intro p e s m below meth c D F hr hlk
  refine g_iload_n F (pc' := 1) dX5_isFigure_0 rfl rfl ?_
  refine g_bipush F (pc' := 3) dX5_isFigure_1 rfl (by decide +kernel) ?_
  refine g_bipush F (pc' := 5) dX5_isFigure_3 rfl (by decide +kernel) ?_
  refine g_callP F (pc' := 8) (st := []) (c5_in l v 48 57 (by omega) (by omega) (by omega)) (va_cwS 3 F.2.2.2.2 gX5_isFigure_X5_in rfl rfl rfl (by decide +kernel) ⟨Nat.le_of_ble_eq_true rfl, Nat.le_of_ble_eq_true rfl⟩) rfl rfl (Nat.le_of_ble_eq_true rfl) dX5_isFigure_5 rfl ?_
  exact g_pzret F hr hlk dX5_isFigure_8 (zC_01 _) rfl

theorem iX5_say_X5 : ∀ w ∈ wsX50, w ∈ wsX5_say := fun _ h => List.mem_cons_of_mem _ (List.mem_append_right _ h)
set_option maxHeartbeats 4000000 in
set_option maxRecDepth 100000 in
theorem c5_say (l : Launch) (a : Nat → Nat) (M : Mem) (v : Int) (hv : -2147483648 ≤ v ∧ v < 2147483648) (hs : 0 ≤ M 0 3 ∧ M 0 3 ≤ 30) : CtI XT l yX5_say wsX5_say ({ frames := 1, cells := 0, slots := 0, locals := 22 } : Room) LR a M [.ref (a 0), .int (iI v)] (q5_say M v) := by
  refine CtI.of (y := yX5_say) (cc := cX5_say) (maxL := 2) (ret := (some .int)) (lv := [some (.ref (a 0)), some (.int (iI v))]) (by decide) rfl (Nat.le_of_ble_eq_true rfl) (lvOK_of _ _ ⟨rfl, rfl⟩) ?_
  intro p e s m below meth c D T F K X0 hr hlk
  have hXc := XT_c
  refine g_iload_n F (pc' := 1) dX5_say_0 rfl rfl ?_
  refine g_bipush F (pc' := 3) dX5_say_1 rfl (by decide +kernel) ?_
  refine g_bipush F (pc' := 5) dX5_say_3 rfl (by decide +kernel) ?_
  refine g_callP F (pc' := 8) (st := []) (c5_in l v 33 126 (by omega) (by omega) (by omega)) (va_cwS 3 F.2.2.2.2 gX5_say_X5_in rfl rfl rfl (by decide +kernel) ⟨Nat.le_of_ble_eq_true rfl, Nat.le_of_ble_eq_true rfl⟩) rfl rfl (Nat.le_of_ble_eq_true rfl) dX5_say_5 rfl ?_
  refine g_if_ne F (pc' := 11) (tgt := 14) dX5_say_8 rfl (by decide) (zC_R _) (fun c_8 => ?_) (fun c_8 => ?_)
  · skip
    have c_8 := zC_1 c_8
    refine g_aload_n F (pc' := 15) dX5_say_14 rfl rfl ?_
    refine g_getI F K (k := 0) (fld := 3) (ci := 5) (z := M 0 3) (pc' := 18) iX5_say_X5 rfl rfl rfl (by decide) (List.mem_of_getElem? (i := 1) rfl) dX5_say_15 rfl (by first | rfl | simp [upf, sc]) ?_
    refine g_bipush F (pc' := 20) dX5_say_18 rfl (by decide +kernel) ?_
    refine g_icmp_ne F (pc' := 23) (tgt := 26) dX5_say_20 rfl (by decide) (by omega) (by decide) (fun c_20 => ?_) (fun c_20 => ?_)
    · skip
      refine g_aload_n F (pc' := 27) dX5_say_26 rfl rfl ?_
      refine g_getR F K (k := 0) (fld := 4) (ci := 5) (q := 3) (pc' := 30) iX5_say_X5 rfl rfl rfl (by decide) (List.mem_of_getElem? (i := 2) rfl) dX5_say_27 rfl ?_
      refine g_aload_n F (pc' := 31) dX5_say_30 rfl rfl ?_
      refine g_getI F K (k := 0) (fld := 3) (ci := 5) (z := M 0 3) (pc' := 34) iX5_say_X5 rfl rfl rfl (by decide) (List.mem_of_getElem? (i := 1) rfl) dX5_say_31 rfl (by first | rfl | simp [upf, sc]) ?_
      refine g_iload_n F (pc' := 35) dX5_say_34 rfl rfl ?_
      refine h_iast F K (k := 3) (pc' := 36) (sc M 3 (upf (M 3) (M 0 3) v)) (mem_up (by rfl) (by intro j hj; simp only [sc, if_neg hj])) rfl (by decide) (by omega) dX5_say_35 rfl ?_
      refine g_aload_n F (pc' := 37) dX5_say_36 rfl rfl ?_
      refine g_dup F (pc' := 38) dX5_say_37 rfl rfl ?_
      refine g_getI F K (k := 0) (fld := 3) (ci := 5) (z := M 0 3) (pc' := 41) iX5_say_X5 rfl rfl rfl (by decide) (List.mem_of_getElem? (i := 1) rfl) dX5_say_38 rfl (by first | rfl | simp [upf, sc]) ?_
      refine g_iconst F (pc' := 42) dX5_say_41 rfl ?_
      refine g_iadd F (pc' := 43) dX5_say_42 rfl ?_
      refine h_putI F K (k := 0) (fld := 3) (ci := 5) (pc' := 46) (sc (sc M 0 (upf (M 0) 3 ((M 0 3) + 1))) 3 (upf (M 3) (M 0 3) v)) (mem_up (by rfl) (by intro j hj; simp only [sc, if_neg hj])) tyX5 tyX5_ok nmX5 iX5_say_X5 rfl rfl rfl (by decide) rfl rfl (List.mem_of_getElem? (i := 1) rfl) dX5_say_43 rfl ?_
      refine g_aload_n F (pc' := 47) dX5_say_46 rfl rfl ?_
      refine g_getI F K (k := 0) (fld := 3) (ci := 5) (z := (M 0 3) + 1) (pc' := 50) iX5_say_X5 rfl rfl rfl (by decide) (List.mem_of_getElem? (i := 1) rfl) dX5_say_47 rfl (by first | rfl | exact upf_s _ _ _ | simp [upf, sc]) ?_
      exact g_iret F hr hlk dX5_say_50 (Or.inr (Or.inr ⟨c_8, by omega, rfl, rfl⟩))
    · skip
      refine g_bipush F (pc' := 25) dX5_say_23 rfl (by decide +kernel) ?_
      exact g_iret F hr hlk dX5_say_25 (Or.inr (Or.inl ⟨c_8, by omega, rfl, rfl⟩))
  · skip
    have c_8 := zC_0 c_8
    refine g_bipush F (pc' := 13) dX5_say_11 rfl (by decide +kernel) ?_
    exact g_iret F hr hlk dX5_say_13 (Or.inl ⟨c_8, rfl, rfl⟩)

theorem iX5_wipe_X5 : ∀ w ∈ wsX50, w ∈ wsX5_wipe := fun _ h => List.mem_cons_of_mem _ (List.mem_append_right _ h)
set_option maxHeartbeats 4000000 in
set_option maxRecDepth 100000 in
theorem c5_wipe (l : Launch) (a : Nat → Nat) (M : Mem) : CtI XT l yX5_wipe wsX5_wipe ({ frames := 0, cells := 0, slots := 0, locals := 0 } : Room) LR a M [.ref (a 0)] (fun z M' => z = M 0 3 ∧ M' = sc M 0 (upf (M 0) 3 0)) := by
  refine CtI.of (y := yX5_wipe) (cc := cX5_wipe) (maxL := 2) (ret := (some .int)) (lv := [some (.ref (a 0)), none]) (by decide) rfl (Nat.le_of_ble_eq_true rfl) (lvOK_of _ _ ⟨rfl, rfl⟩) ?_
  intro p e s m below meth c D T F K X0 hr hlk
  have hXc := XT_c
  refine g_aload_n F (pc' := 1) dX5_wipe_0 rfl rfl ?_
  refine g_getI F K (k := 0) (fld := 3) (ci := 5) (z := M 0 3) (pc' := 4) iX5_wipe_X5 rfl rfl rfl (by decide) (List.mem_of_getElem? (i := 1) rfl) dX5_wipe_1 rfl (by first | rfl | simp [upf, sc]) ?_
  refine g_istore_n F (pc' := 5) (lv' := [some (.ref (a 0)), some (.int (iI (M 0 3)))]) dX5_wipe_4 rfl (by decide) rfl ?_
  refine g_aload_n F (pc' := 6) dX5_wipe_5 rfl rfl ?_
  refine g_iconst F (pc' := 7) dX5_wipe_6 rfl ?_
  refine h_putI F K (k := 0) (fld := 3) (ci := 5) (pc' := 10) (sc M 0 (upf (M 0) 3 0)) (mem_up (by rfl) (by intro j hj; simp only [sc, if_neg hj])) tyX5 tyX5_ok nmX5 iX5_wipe_X5 rfl rfl rfl (by decide) rfl rfl (List.mem_of_getElem? (i := 1) rfl) dX5_wipe_7 rfl ?_
  refine g_iload_n F (pc' := 11) dX5_wipe_10 rfl rfl ?_
  exact g_iret F hr hlk dX5_wipe_11 (⟨rfl, rfl⟩)

theorem iX5_width_X5 : ∀ w ∈ wsX50, w ∈ wsX5_width := fun _ h => List.mem_cons_of_mem _ (List.mem_append_right _ h)
set_option maxHeartbeats 4000000 in
set_option maxRecDepth 100000 in
theorem c5_width (l : Launch) (a : Nat → Nat) (M : Mem) (u : Int) (hu : 0 ≤ u ∧ u < 8) : CtI XT l yX5_width wsX5_width ({ frames := 0, cells := 0, slots := 0, locals := 0 } : Room) LR a M [.ref (a 0), .int (iI u)] (fun z M' => z = M 6 u - M 5 u ∧ M' = M) := by
  refine CtI.of (y := yX5_width) (cc := cX5_width) (maxL := 2) (ret := (some .int)) (lv := [some (.ref (a 0)), some (.int (iI u))]) (by decide) rfl (Nat.le_of_ble_eq_true rfl) (lvOK_of _ _ ⟨rfl, rfl⟩) ?_
  intro p e s m below meth c D T F K X0 hr hlk
  have hXc := XT_c
  refine g_aload_n F (pc' := 1) dX5_width_0 rfl rfl ?_
  refine g_getR F K (k := 0) (fld := 7) (ci := 5) (q := 6) (pc' := 4) iX5_width_X5 rfl rfl rfl (by decide) (List.mem_of_getElem? (i := 1) rfl) dX5_width_1 rfl ?_
  refine g_iload_n F (pc' := 5) dX5_width_4 rfl rfl ?_
  refine g_iald F K (k := 6) (v := M 6 u) (pc' := 6) rfl (by decide) (by omega) dX5_width_5 rfl (by first | rfl | simp [upf, sc]) ?_
  refine g_aload_n F (pc' := 7) dX5_width_6 rfl rfl ?_
  refine g_getR F K (k := 0) (fld := 6) (ci := 5) (q := 5) (pc' := 10) iX5_width_X5 rfl rfl rfl (by decide) (List.mem_of_getElem? (i := 2) rfl) dX5_width_7 rfl ?_
  refine g_iload_n F (pc' := 11) dX5_width_10 rfl rfl ?_
  refine g_iald F K (k := 5) (v := M 5 u) (pc' := 12) rfl (by decide) (by omega) dX5_width_11 rfl (by first | rfl | simp [upf, sc]) ?_
  refine g_isub F (pc' := 13) dX5_width_12 rfl ?_
  exact g_iret F hr hlk dX5_width_13 (⟨rfl, rfl⟩)
