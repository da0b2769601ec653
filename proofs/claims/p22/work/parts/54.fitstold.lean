/-! ===== the class: fits told ===== -/
theorem goodX_b {M : Mem} {sz b d : Int} {ld : Int → Int} (h : goodX M sz b d ld) (ho : okF M sz) : b = -6 := by
  rcases h.1 with q | q
  · exact q.1
  · have := ho b q.1.1 q.1.2
    have := q.2.1
    omega
theorem goodX_n {M : Mem} {sz b d : Int} {ld : Int → Int} (h : goodX M sz b d ld) (ho : ¬ okF M sz) : blB M sz b := by
  rcases h.1 with q | q
  · exact absurd q.2 ho
  · exact q
theorem wF_M {M N : Mem} (hk : keepF M N) (sz : Int) : wF N sz = wF M sz := by
  have e : ∀ k : Nat, k < 34 → N k = M k := fun k q => hk k (Or.inl q)
  funext s
  unfold wF
  rw [e 32 (by decide), e 29 (by decide), e 30 (by decide), e 9 (by decide)]
theorem okF_M {M N : Mem} (hk : keepF M N) {sz : Int} : okF N sz = okF M sz := by
  unfold okF lpF
  rw [wF_M hk, hk 24 (Or.inl (by decide))]
theorem stemOK_M {M N : Mem} (hk : keepF M N) (h : stemOK M) : stemOK N := by
  have e : ∀ k : Nat, k < 34 → N k = M k := fun k q => hk k (Or.inl q)
  unfold stemOK
  rw [e 24 (by decide), e 9 (by decide), e 25 (by decide), e 26 (by decide), e 29 (by decide), e 30 (by decide), e 32 (by decide)]
  exact h
theorem iX4_fit_X0 : ∀ w ∈ wsX00, w ∈ wsX4_fit := fun _ h => List.mem_cons_of_mem _ (List.mem_append_left _ (List.mem_append_right _ h))
theorem iX4_fit_X1 : ∀ w ∈ wsX10, w ∈ wsX4_fit := fun _ h => List.mem_cons_of_mem _ (List.mem_append_right _ h)
theorem iX4_fit_X3 : ∀ w ∈ wsX30, w ∈ wsX4_fit := fun _ h => List.mem_cons_of_mem _ (List.mem_append_left _ (List.mem_append_left _ (List.mem_append_right _ h)))
theorem iX4_fit_X4 : ∀ w ∈ wsX40, w ∈ wsX4_fit := fun _ h => List.mem_cons_of_mem _ (List.mem_append_left _ (List.mem_append_left _ (List.mem_append_left _ (List.mem_append_right _ h))))
set_option maxHeartbeats 4000000 in
set_option maxRecDepth 100000 in
theorem c4_fit (l : Launch) (a : Nat → Nat) (sz j : Int) (hz : -2147483648 ≤ sz ∧ sz < 2147483648) (hj : -2147483648 ≤ j ∧ j < 2147483648) (M : Mem) (hV : lOK (viewC M)) (hR : rulL (viewC M)) (hK : kOK M) : CtI XS l yX4_fit wsX4_fit ({ frames := 6, cells := 0, slots := 0, locals := 140 } : Room) LC a M [.ref (a 0), .int (iI sz), .int (iI j)] (fun z M' => z = fitZ (viewC M) sz j ∧ keepF M M' ∧ kOK M') := by
  refine CtI.of (y := yX4_fit) (cc := cX4_fit) (maxL := 3) (ret := (some .int)) (lv := [some (.ref (a 0)), some (.int (iI sz)), some (.int (iI j))]) (by decide) rfl (Nat.le_of_ble_eq_true rfl) (lvOK_of _ _ ⟨rfl, rfl⟩) ?_
  intro p e s m below meth c D T F K X0 hr hlk
  have hXc := XS_c
  obtain ⟨hn, hg, hs, hsep, hc⟩ := view_ok hV
  obtain ⟨r1, r2, r3, r4⟩ := view_rul hR
  have hS := view_stem hV hR
  refine g_iload_n F (pc' := 1) dX4_fit_0 rfl rfl ?_
  refine g_iconst F (pc' := 2) dX4_fit_1 rfl ?_
  refine g_aload_n F (pc' := 3) dX4_fit_2 rfl rfl ?_
  refine g_getR F K (k := 0) (fld := 4) (ci := 4) (q := 24) (pc' := 6) iX4_fit_X4 rfl rfl rfl (by decide) (List.mem_of_getElem? (i := 1) rfl) dX4_fit_3 rfl ?_
  refine g_getI F K (k := 24) (fld := 0) (ci := 3) (z := M 24 0) (pc' := 9) iX4_fit_X3 rfl rfl rfl (by decide) (List.mem_of_getElem? (i := 2) rfl) dX4_fit_6 rfl (by first | rfl | simp [upf, sc]) ?_
  refine g_iconst F (pc' := 10) dX4_fit_9 rfl ?_
  refine g_isub F (pc' := 11) dX4_fit_10 rfl ?_
  refine g_callP F (pc' := 14) (st := []) (c4_isWithin l j 0 ((M 24 0) - 1) (by omega) (by omega) (by omega)) (va_cwS 3 F.2.2.2.2 gX4_fit_X4_isWithin rfl rfl rfl (by decide +kernel) ⟨Nat.le_of_ble_eq_true rfl, Nat.le_of_ble_eq_true rfl⟩) rfl rfl (Nat.le_of_ble_eq_true rfl) dX4_fit_11 rfl ?_
  refine g_if_ne F (pc' := 17) (tgt := 19) dX4_fit_14 rfl (by decide) (zC_R _) (fun c_14 => ?_) (fun c_14 => ?_)
  · skip
    have c_14 := zC_1 c_14
    refine g_iload_n F (pc' := 20) dX4_fit_19 rfl rfl ?_
    refine g_callP F (pc' := 23) (st := []) (c4_isSize l sz (by omega)) (va_cwS 1 F.2.2.2.2 gX4_fit_X4_isSize rfl rfl rfl (by decide +kernel) ⟨Nat.le_of_ble_eq_true rfl, Nat.le_of_ble_eq_true rfl⟩) rfl rfl (Nat.le_of_ble_eq_true rfl) dX4_fit_20 rfl ?_
    refine g_if_ne F (pc' := 26) (tgt := 29) dX4_fit_23 rfl (by decide) (zC_R _) (fun c_23 => ?_) (fun c_23 => ?_)
    · skip
      have c_23 := zC_1 c_23
      refine g_aload_n F (pc' := 30) dX4_fit_29 rfl rfl ?_
      refine g_getR F K (k := 0) (fld := 5) (ci := 4) (q := 34) (pc' := 33) iX4_fit_X4 rfl rfl rfl (by decide) (List.mem_of_getElem? (i := 3) rfl) dX4_fit_30 rfl ?_
      refine g_iload_n F (pc' := 34) dX4_fit_33 rfl rfl ?_
      refine g_callI F K hXc X0 (pc' := 37) (st := []) (c0_isAt l a M sz (by exact hS) (by omega) (by exact hK)) (cwV 1 F.2.2.2.2 gX4_fit_X0_isAt rfl rfl rfl (by decide +kernel) ⟨Nat.le_of_ble_eq_true rfl, Nat.le_of_ble_eq_true rfl⟩) rfl rfl rfl rfl (Nat.le_of_ble_eq_true rfl) dX4_fit_34 rfl (fun z_34 M_34 q_34 => ?_)
      obtain ⟨k1, hz1, hK1, hg1⟩ := q_34
      obtain ⟨f34, f35, f36, f37, f38, f39, f40, f41, f42, rfl⟩ := keepF_ex k1
      have hg : goodX M sz (f36 sz) (f35 sz) f38 := hg1
      have hK2 : kOKf M f37 f36 f35 f38 := hK1
      refine h_top (z' := zC (okF M sz)) hz1 ?_
      refine h_mem (sc (sc (sc (sc (sc (sc (sc (sc (sc M 34 f34) 35 f35) 36 f36) 37 f37) 38 f38) 39 f39) 40 f40) 41 f41) 42 f42) (by first | rfl | funext k' i'; simp only [sc, upf]; (repeat' split) <;> first | rfl | (exfalso; omega) | simp_all) ?_
      refine g_if_eq F (pc' := 40) (tgt := 52) dX4_fit_37 rfl (by decide) (zC_R _) (fun c_37 => ?_) (fun c_37 => ?_)
      · skip
        have c_37 := zC_0 c_37
        refine g_bipush F (pc' := 54) dX4_fit_52 rfl (by decide +kernel) ?_
        exact g_iret F hr hlk dX4_fit_54 (⟨by show _ = if 0 ≤ j ∧ j ≤ M 24 0 - 1 then (if 1 ≤ sz ∧ sz ≤ 60 then pif (okF M sz) (dotF M sz j) (-3) else -2) else -1; rw [if_pos (by omega), if_pos (by omega), pif_f c_37], ⟨(show keepF M _ from (fun k q => by simp only [sc]; (repeat' split) <;> first | rfl | (exfalso; omega))), hK2⟩⟩)
      · skip
        have c_37 := zC_1 c_37
        refine g_aload_n F (pc' := 41) dX4_fit_40 rfl rfl ?_
        refine g_getR F K (k := 0) (fld := 5) (ci := 4) (q := 34) (pc' := 44) iX4_fit_X4 rfl rfl rfl (by decide) (List.mem_of_getElem? (i := 3) rfl) dX4_fit_41 rfl ?_
        refine g_iload_n F (pc' := 45) dX4_fit_44 rfl rfl ?_
        refine g_iload_n F (pc' := 46) dX4_fit_45 rfl rfl ?_
        refine g_callI F K hXc X0 (pc' := 49) (st := []) (c0_leftDot l a (sc (sc (sc (sc (sc (sc (sc (sc (sc M 34 f34) 35 f35) 36 f36) 37 f37) 38 f38) 39 f39) 40 f40) 41 f41) 42 f42) sz j (by omega) (by omega)) (cwV 2 F.2.2.2.2 gX4_fit_X0_leftDot rfl rfl rfl (by decide +kernel) ⟨Nat.le_of_ble_eq_true rfl, Nat.le_of_ble_eq_true rfl⟩) rfl rfl rfl rfl (Nat.le_of_ble_eq_true rfl) dX4_fit_46 rfl (fun z_46 M_46 q_46 => ?_)
        obtain ⟨rfl, mq_46⟩ := q_46
        have mq_46 := mq_46.symm; subst mq_46
        refine g_goto F (tgt := 54) dX4_fit_49 (by decide) ?_
        exact g_iret F hr hlk dX4_fit_54 (⟨by show _ = if 0 ≤ j ∧ j ≤ M 24 0 - 1 then (if 1 ≤ sz ∧ sz ≤ 60 then pif (okF M sz) (dotF M sz j) (-3) else -2) else -1; rw [if_pos (by omega), if_pos (by omega), pif_t c_37]; exact (hg.2 (goodX_b hg c_37)).2 j (by omega) (by omega), ⟨(show keepF M _ from (fun k q => by simp only [sc]; (repeat' split) <;> first | rfl | (exfalso; omega))), hK2⟩⟩)
    · skip
      have c_23 := zC_0 c_23
      refine g_bipush F (pc' := 28) dX4_fit_26 rfl (by decide +kernel) ?_
      exact g_iret F hr hlk dX4_fit_28 (⟨by show _ = if 0 ≤ j ∧ j ≤ M 24 0 - 1 then (if 1 ≤ sz ∧ sz ≤ 60 then _ else -2) else -1; (repeat (first | rw [if_pos (by omega)] | rw [if_neg (by omega)])), ⟨fun _ _ => rfl, hK⟩⟩)
  · skip
    have c_14 := zC_0 c_14
    refine g_iconst F (pc' := 18) dX4_fit_17 rfl ?_
    exact g_iret F hr hlk dX4_fit_18 (⟨by show _ = if 0 ≤ j ∧ j ≤ M 24 0 - 1 then _ else -1; (repeat (first | rw [if_pos (by omega)] | rw [if_neg (by omega)])), ⟨fun _ _ => rfl, hK⟩⟩)

theorem iX4_distortion_X0 : ∀ w ∈ wsX00, w ∈ wsX4_distortion := fun _ h => List.mem_cons_of_mem _ (List.mem_append_left _ (List.mem_append_left _ (List.mem_append_right _ h)))
theorem iX4_distortion_X1 : ∀ w ∈ wsX10, w ∈ wsX4_distortion := fun _ h => List.mem_cons_of_mem _ (List.mem_append_right _ h)
theorem iX4_distortion_X3 : ∀ w ∈ wsX30, w ∈ wsX4_distortion := fun _ h => List.mem_cons_of_mem _ (List.mem_append_left _ (List.mem_append_right _ h))
theorem iX4_distortion_X4 : ∀ w ∈ wsX40, w ∈ wsX4_distortion := fun _ h => List.mem_cons_of_mem _ (List.mem_append_left _ (List.mem_append_left _ (List.mem_append_left _ (List.mem_append_right _ h))))
set_option maxHeartbeats 4000000 in
set_option maxRecDepth 100000 in
theorem c4_distortion (l : Launch) (a : Nat → Nat) (sz : Int) (hz : -2147483648 ≤ sz ∧ sz < 2147483648) (M : Mem) (hV : lOK (viewC M)) (hR : rulL (viewC M)) (hK : kOK M) : CtJ XS l yX4_distortion wsX4_distortion ({ frames := 6, cells := 0, slots := 0, locals := 140 } : Room) LC a M [.ref (a 0), .int (iI sz)] (fun z M' => z = distZ (viewC M) sz ∧ keepF M M' ∧ kOK M') := by
  refine CtJ.of (y := yX4_distortion) (cc := cX4_distortion) (maxL := 2) (ret := (some .long)) (lv := [some (.ref (a 0)), some (.int (iI sz))]) (by decide) rfl (Nat.le_of_ble_eq_true rfl) (lvOK_of _ _ ⟨rfl, rfl⟩) ?_
  intro p e s m below meth c D T F K X0 hr hlk
  have hXc := XS_c
  obtain ⟨hn, hg, hs, hsep, hc⟩ := view_ok hV
  obtain ⟨r1, r2, r3, r4⟩ := view_rul hR
  have hS := view_stem hV hR
  refine g_iload_n F (pc' := 1) dX4_distortion_0 rfl rfl ?_
  refine g_callP F (pc' := 4) (st := []) (c4_isSize l sz (by omega)) (va_cwS 1 F.2.2.2.2 gX4_distortion_X4_isSize rfl rfl rfl (by decide +kernel) ⟨Nat.le_of_ble_eq_true rfl, Nat.le_of_ble_eq_true rfl⟩) rfl rfl (Nat.le_of_ble_eq_true rfl) dX4_distortion_1 rfl ?_
  refine g_if_ne F (pc' := 7) (tgt := 11) dX4_distortion_4 rfl (by decide) (zC_R _) (fun c_4 => ?_) (fun c_4 => ?_)
  · skip
    have c_4 := zC_1 c_4
    refine g_aload_n F (pc' := 12) dX4_distortion_11 rfl rfl ?_
    refine g_getR F K (k := 0) (fld := 5) (ci := 4) (q := 34) (pc' := 15) iX4_distortion_X4 rfl rfl rfl (by decide) (List.mem_of_getElem? (i := 2) rfl) dX4_distortion_12 rfl ?_
    refine g_iload_n F (pc' := 16) dX4_distortion_15 rfl rfl ?_
    refine g_callI F K hXc X0 (pc' := 19) (st := []) (c0_isAt l a M sz (by exact hS) (by omega) (by exact hK)) (cwV 1 F.2.2.2.2 gX4_distortion_X0_isAt rfl rfl rfl (by decide +kernel) ⟨Nat.le_of_ble_eq_true rfl, Nat.le_of_ble_eq_true rfl⟩) rfl rfl rfl rfl (Nat.le_of_ble_eq_true rfl) dX4_distortion_16 rfl (fun z_16 M_16 q_16 => ?_)
    obtain ⟨k1, hz1, hK1, hg1⟩ := q_16
    obtain ⟨f34, f35, f36, f37, f38, f39, f40, f41, f42, rfl⟩ := keepF_ex k1
    have hg : goodX M sz (f36 sz) (f35 sz) f38 := hg1
    have hK2 : kOKf M f37 f36 f35 f38 := hK1
    refine h_top (z' := zC (okF M sz)) hz1 ?_
    refine h_mem (sc (sc (sc (sc (sc (sc (sc (sc (sc M 34 f34) 35 f35) 36 f36) 37 f37) 38 f38) 39 f39) 40 f40) 41 f41) 42 f42) (by first | rfl | funext k' i'; simp only [sc, upf]; (repeat' split) <;> first | rfl | (exfalso; omega) | simp_all) ?_
    refine g_if_eq F (pc' := 22) (tgt := 34) dX4_distortion_19 rfl (by decide) (zC_R _) (fun c_19 => ?_) (fun c_19 => ?_)
    · skip
      have c_19 := zC_0 c_19
      refine g_ldc2 F (pc' := 37) (z := (-3)) dX4_distortion_34 rfl (List.mem_of_getElem? (i := 4) rfl) (by decide +kernel) ?_
      exact g_lret F hr hlk dX4_distortion_37 (⟨by show _ = if 1 ≤ sz ∧ sz ≤ 60 then pif (okF M sz) (leastF M sz) (-3) else -2; rw [if_pos (by omega), pif_f c_19], ⟨(show keepF M _ from (fun k q => by simp only [sc]; (repeat' split) <;> first | rfl | (exfalso; omega))), hK2⟩⟩)
    · skip
      have c_19 := zC_1 c_19
      refine g_aload_n F (pc' := 23) dX4_distortion_22 rfl rfl ?_
      refine g_getR F K (k := 0) (fld := 5) (ci := 4) (q := 34) (pc' := 26) iX4_distortion_X4 rfl rfl rfl (by decide) (List.mem_of_getElem? (i := 2) rfl) dX4_distortion_23 rfl ?_
      refine g_getR F K (k := 34) (fld := 0) (ci := 0) (q := 35) (pc' := 29) iX4_distortion_X0 rfl rfl rfl (by decide) (List.mem_of_getElem? (i := 3) rfl) dX4_distortion_26 rfl ?_
      refine g_iload_n F (pc' := 30) dX4_distortion_29 rfl rfl ?_
      refine g_lald F K (k := 35) (v := f35 sz) (pc' := 31) rfl (by decide) (by omega) dX4_distortion_30 rfl (by first | rfl | simp [upf, sc]) ?_
      refine g_goto F (tgt := 37) dX4_distortion_31 (by decide) ?_
      exact g_lret F hr hlk dX4_distortion_37 (⟨by show _ = if 1 ≤ sz ∧ sz ≤ 60 then pif (okF M sz) (leastF M sz) (-3) else -2; rw [if_pos (by omega), pif_t c_19]; exact (hg.2 (goodX_b hg c_19)).1, ⟨(show keepF M _ from (fun k q => by simp only [sc]; (repeat' split) <;> first | rfl | (exfalso; omega))), hK2⟩⟩)
  · skip
    have c_4 := zC_0 c_4
    refine g_ldc2 F (pc' := 10) (z := (-2)) dX4_distortion_7 rfl (List.mem_of_getElem? (i := 1) rfl) (by decide +kernel) ?_
    exact g_lret F hr hlk dX4_distortion_10 (⟨by show _ = if 1 ≤ sz ∧ sz ≤ 60 then pif (okF M sz) (leastF M sz) (-3) else -2; (repeat (first | rw [if_pos (by omega)] | rw [if_neg (by omega)])), ⟨fun _ _ => rfl, hK⟩⟩)

theorem iX4_why_X0 : ∀ w ∈ wsX00, w ∈ wsX4_why := fun _ h => List.mem_cons_of_mem _ (List.mem_append_left _ (List.mem_append_left _ (List.mem_append_right _ h)))
theorem iX4_why_X1 : ∀ w ∈ wsX10, w ∈ wsX4_why := fun _ h => List.mem_cons_of_mem _ (List.mem_append_left _ (List.mem_append_right _ h))
theorem iX4_why_X3 : ∀ w ∈ wsX30, w ∈ wsX4_why := fun _ h => List.mem_cons_of_mem _ (List.mem_append_right _ h)
theorem iX4_why_X4 : ∀ w ∈ wsX40, w ∈ wsX4_why := fun _ h => List.mem_cons_of_mem _ (List.mem_append_left _ (List.mem_append_left _ (List.mem_append_left _ (List.mem_append_right _ h))))
set_option maxHeartbeats 4000000 in
set_option maxRecDepth 100000 in
theorem c4_why (l : Launch) (a : Nat → Nat) (sz w : Int) (hz : -2147483648 ≤ sz ∧ sz < 2147483648) (hw : -2147483648 ≤ w ∧ w < 2147483648) (M : Mem) (hV : lOK (viewC M)) (hR : rulL (viewC M)) (hK : kOK M) : CtI XS l yX4_why wsX4_why ({ frames := 6, cells := 0, slots := 0, locals := 140 } : Room) LC a M [.ref (a 0), .int (iI sz), .int (iI w)] (fun z M' => ((¬ (1 ≤ sz ∧ sz ≤ 60) ∨ ¬ (0 ≤ w ∧ w ≤ 1)) → z = -2) ∧ ((1 ≤ sz ∧ sz ≤ 60) → (0 ≤ w ∧ w ≤ 1) → whyQ (viewC M 0 11) (wL (viewC M) sz) sz w z) ∧ keepF M M' ∧ kOK M') := by
  refine CtI.of (y := yX4_why) (cc := cX4_why) (maxL := 4) (ret := (some .int)) (lv := [some (.ref (a 0)), some (.int (iI sz)), some (.int (iI w)), none]) (by decide) rfl (Nat.le_of_ble_eq_true rfl) (lvOK_of _ _ ⟨rfl, rfl⟩) ?_
  intro p e s m below meth c D T F K X0 hr hlk
  have hXc := XS_c
  obtain ⟨hn, hg, hs, hsep, hc⟩ := view_ok hV
  obtain ⟨r1, r2, r3, r4⟩ := view_rul hR
  have hS := view_stem hV hR
  refine g_iload_n F (pc' := 1) dX4_why_0 rfl rfl ?_
  refine g_callP F (pc' := 4) (st := []) (c4_isSize l sz (by omega)) (va_cwS 1 F.2.2.2.2 gX4_why_X4_isSize rfl rfl rfl (by decide +kernel) ⟨Nat.le_of_ble_eq_true rfl, Nat.le_of_ble_eq_true rfl⟩) rfl rfl (Nat.le_of_ble_eq_true rfl) dX4_why_1 rfl ?_
  refine g_if_eq F (pc' := 7) (tgt := 16) dX4_why_4 rfl (by decide) (zC_R _) (fun c_4 => ?_) (fun c_4 => ?_)
  · skip
    have c_4 := zC_0 c_4
    refine g_bipush F (pc' := 18) dX4_why_16 rfl (by decide +kernel) ?_
    exact g_iret F hr hlk dX4_why_18 (⟨fun _ => rfl, fun q1 q2 => by exfalso; omega, ⟨fun _ _ => rfl, hK⟩⟩)
  · skip
    have c_4 := zC_1 c_4
    refine g_iload_n F (pc' := 8) dX4_why_7 rfl rfl ?_
    refine g_iconst F (pc' := 9) dX4_why_8 rfl ?_
    refine g_iconst F (pc' := 10) dX4_why_9 rfl ?_
    refine g_callP F (pc' := 13) (st := []) (c4_isWithin l w 0 1 (by omega) (by omega) (by omega)) (va_cwS 3 F.2.2.2.2 gX4_why_X4_isWithin rfl rfl rfl (by decide +kernel) ⟨Nat.le_of_ble_eq_true rfl, Nat.le_of_ble_eq_true rfl⟩) rfl rfl (Nat.le_of_ble_eq_true rfl) dX4_why_10 rfl ?_
    refine g_if_ne F (pc' := 16) (tgt := 19) dX4_why_13 rfl (by decide) (zC_R _) (fun c_13 => ?_) (fun c_13 => ?_)
    · skip
      have c_13 := zC_1 c_13
      refine g_aload_n F (pc' := 20) dX4_why_19 rfl rfl ?_
      refine g_getR F K (k := 0) (fld := 5) (ci := 4) (q := 34) (pc' := 23) iX4_why_X4 rfl rfl rfl (by decide) (List.mem_of_getElem? (i := 1) rfl) dX4_why_20 rfl ?_
      refine g_iload_n F (pc' := 24) dX4_why_23 rfl rfl ?_
      refine g_callI F K hXc X0 (pc' := 27) (st := []) (c0_isAt l a M sz (by exact hS) (by omega) (by exact hK)) (cwV 1 F.2.2.2.2 gX4_why_X0_isAt rfl rfl rfl (by decide +kernel) ⟨Nat.le_of_ble_eq_true rfl, Nat.le_of_ble_eq_true rfl⟩) rfl rfl rfl rfl (Nat.le_of_ble_eq_true rfl) dX4_why_24 rfl (fun z_24 M_24 q_24 => ?_)
      obtain ⟨k1, hz1, hK1, hg1⟩ := q_24
      obtain ⟨f34, f35, f36, f37, f38, f39, f40, f41, f42, rfl⟩ := keepF_ex k1
      have hg : goodX M sz (f36 sz) (f35 sz) f38 := hg1
      have hK2 : kOKf M f37 f36 f35 f38 := hK1
      refine h_top (z' := zC (okF M sz)) hz1 ?_
      refine h_mem (sc (sc (sc (sc (sc (sc (sc (sc (sc M 34 f34) 35 f35) 36 f36) 37 f37) 38 f38) 39 f39) 40 f40) 41 f41) 42 f42) (by first | rfl | funext k' i'; simp only [sc, upf]; (repeat' split) <;> first | rfl | (exfalso; omega) | simp_all) ?_
      refine g_if_eq F (pc' := 30) (tgt := 41) dX4_why_27 rfl (by decide) (zC_R _) (fun c_27 => ?_) (fun c_27 => ?_)
      · skip
        have c_27 := zC_0 c_27
        refine g_aload_n F (pc' := 42) dX4_why_41 rfl rfl ?_
        refine g_getR F K (k := 0) (fld := 5) (ci := 4) (q := 34) (pc' := 45) iX4_why_X4 rfl rfl rfl (by decide) (List.mem_of_getElem? (i := 1) rfl) dX4_why_42 rfl ?_
        refine g_getR F K (k := 34) (fld := 1) (ci := 0) (q := 36) (pc' := 48) iX4_why_X0 rfl rfl rfl (by decide) (List.mem_of_getElem? (i := 2) rfl) dX4_why_45 rfl ?_
        refine g_iload_n F (pc' := 49) dX4_why_48 rfl rfl ?_
        refine g_iald F K (k := 36) (v := f36 sz) (pc' := 50) rfl (by decide) (by omega) dX4_why_49 rfl (by first | rfl | simp [upf, sc]) ?_
        have hbl := goodX_n hg c_27
        have hb1 : 0 ≤ f36 sz ∧ f36 sz < M 24 0 := hbl.1
        have hgj := hS.2.2.2.2.2.2 (f36 sz) hbl.1.1 hbl.1.2
        refine g_istore_n F (pc' := 51) (lv' := [some (.ref (a 0)), some (.int (iI sz)), some (.int (iI w)), some (.int (iI (f36 sz)))]) dX4_why_50 rfl (by decide) rfl ?_
        refine g_iload_n F (pc' := 52) dX4_why_51 rfl rfl ?_
        refine g_iconst F (pc' := 53) dX4_why_52 rfl ?_
        refine g_icmp_ne F (pc' := 56) (tgt := 58) dX4_why_53 rfl (by decide) (by omega) (by decide) (fun c_53 => ?_) (fun c_53 => ?_)
        · skip
          refine g_aload_n F (pc' := 59) dX4_why_58 rfl rfl ?_
          refine g_getR F K (k := 0) (fld := 4) (ci := 4) (q := 24) (pc' := 62) iX4_why_X4 rfl rfl rfl (by decide) (List.mem_of_getElem? (i := 3) rfl) dX4_why_59 rfl ?_
          refine g_iload_n F (pc' := 63) dX4_why_62 rfl rfl ?_
          refine g_iload_n F (pc' := 64) dX4_why_63 rfl rfl ?_
          refine g_aload_n F (pc' := 65) dX4_why_64 rfl rfl ?_
          refine g_getR F K (k := 0) (fld := 1) (ci := 4) (q := 4) (pc' := 68) iX4_why_X4 rfl rfl rfl (by decide) (List.mem_of_getElem? (i := 4) rfl) dX4_why_65 rfl ?_
          refine g_getR F K (k := 4) (fld := 5) (ci := 1) (q := 9) (pc' := 71) iX4_why_X1 rfl rfl rfl (by decide) (List.mem_of_getElem? (i := 5) rfl) dX4_why_68 rfl ?_
          refine g_iconst F (pc' := 72) dX4_why_71 rfl ?_
          refine g_iald F K (k := 9) (v := M 9 4) (pc' := 73) rfl (by decide) (by decide) dX4_why_72 rfl (by first | rfl | simp [upf, sc]) ?_
          refine g_callI F K hXc X0 (pc' := 76) (st := []) (c3_dotsOfStem l a (sc (sc (sc (sc (sc (sc (sc (sc (sc M 34 f34) 35 f35) 36 f36) 37 f37) 38 f38) 39 f39) 40 f40) 41 f41) 42 f42) (f36 sz) sz (M 9 4) (by omega) (by exact hgj.1) (by exact hgj.2.1) (by exact hgj.2.2) (by omega) (by omega)) (cwV 3 F.2.2.2.2 gX4_why_X3_dotsOfStem rfl rfl rfl (by decide +kernel) ⟨Nat.le_of_ble_eq_true rfl, Nat.le_of_ble_eq_true rfl⟩) rfl rfl rfl rfl (Nat.le_of_ble_eq_true rfl) dX4_why_73 rfl (fun z_73 M_73 q_73 => ?_)
          obtain ⟨rfl, mq_73⟩ := q_73
          have mq_73 := mq_73.symm; subst mq_73
          refine h_top (z' := wF M sz (f36 sz)) rfl ?_
          have b_73 := wF_R hS (sz := sz) (s := f36 sz) (by omega) (by omega) (by omega)
          refine g_iload_n F (pc' := 77) dX4_why_76 rfl rfl ?_
          refine g_icmp_le F (pc' := 80) (tgt := 84) dX4_why_77 rfl (by decide) (by omega) (by omega) (fun c_77 => ?_) (fun c_77 => ?_)
          · skip
            refine g_iconst F (pc' := 85) dX4_why_84 rfl ?_
            exact g_iret F hr hlk dX4_why_85 (⟨fun q => by exfalso; omega, fun _ _ => Or.inr ⟨f36 sz, hbl.1, hbl.2.1, hbl.2.2, by rw [if_neg (by omega)]; show _ = if sz < wF M sz (f36 sz) then _ else _; first | exact (if_pos c_77).symm | exact (if_neg (by omega)).symm⟩, ⟨(show keepF M _ from (fun k q => by simp only [sc]; (repeat' split) <;> first | rfl | (exfalso; omega))), hK2⟩⟩)
          · skip
            refine g_iconst F (pc' := 81) dX4_why_80 rfl ?_
            refine g_goto F (tgt := 85) dX4_why_81 (by decide) ?_
            exact g_iret F hr hlk dX4_why_85 (⟨fun q => by exfalso; omega, fun _ _ => Or.inr ⟨f36 sz, hbl.1, hbl.2.1, hbl.2.2, by rw [if_neg (by omega)]; show _ = if sz < wF M sz (f36 sz) then _ else _; first | exact (if_pos c_77).symm | exact (if_neg (by omega)).symm⟩, ⟨(show keepF M _ from (fun k q => by simp only [sc]; (repeat' split) <;> first | rfl | (exfalso; omega))), hK2⟩⟩)
        · skip
          refine g_iload_n F (pc' := 57) dX4_why_56 rfl rfl ?_
          exact g_iret F hr hlk dX4_why_57 (⟨fun q => by exfalso; omega, fun _ _ => Or.inr ⟨f36 sz, hbl.1, hbl.2.1, hbl.2.2, by (repeat (first | rw [if_pos (by omega)] | rw [if_neg (by omega)]))⟩, ⟨(show keepF M _ from (fun k q => by simp only [sc]; (repeat' split) <;> first | rfl | (exfalso; omega))), hK2⟩⟩)
      · skip
        have c_27 := zC_1 c_27
        refine g_iload_n F (pc' := 31) dX4_why_30 rfl rfl ?_
        refine g_if_ne F (pc' := 34) (tgt := 38) dX4_why_31 rfl (by decide) (by omega) (fun c_31 => ?_) (fun c_31 => ?_)
        · skip
          refine g_bipush F (pc' := 40) dX4_why_38 rfl (by decide +kernel) ?_
          exact g_iret F hr hlk dX4_why_40 (⟨fun q => by exfalso; omega, fun _ _ => Or.inl ⟨c_27, by (repeat (first | rw [if_pos (by omega)] | rw [if_neg (by omega)]))⟩, ⟨(show keepF M _ from (fun k q => by simp only [sc]; (repeat' split) <;> first | rfl | (exfalso; omega))), hK2⟩⟩)
        · skip
          refine g_iconst F (pc' := 35) dX4_why_34 rfl ?_
          refine g_goto F (tgt := 40) dX4_why_35 (by decide) ?_
          exact g_iret F hr hlk dX4_why_40 (⟨fun q => by exfalso; omega, fun _ _ => Or.inl ⟨c_27, by (repeat (first | rw [if_pos (by omega)] | rw [if_neg (by omega)]))⟩, ⟨(show keepF M _ from (fun k q => by simp only [sc]; (repeat' split) <;> first | rfl | (exfalso; omega))), hK2⟩⟩)
    · skip
      have c_13 := zC_0 c_13
      refine g_bipush F (pc' := 18) dX4_why_16 rfl (by decide +kernel) ?_
      exact g_iret F hr hlk dX4_why_18 (⟨fun _ => rfl, fun q1 q2 => by exfalso; omega, ⟨fun _ _ => rfl, hK⟩⟩)

theorem iX4_place_X0 : ∀ w ∈ wsX00, w ∈ wsX4_place := fun _ h => List.mem_cons_of_mem _ (List.mem_append_left _ (List.mem_append_left _ (List.mem_append_right _ h)))
theorem iX4_place_X1 : ∀ w ∈ wsX10, w ∈ wsX4_place := fun _ h => List.mem_cons_of_mem _ (List.mem_append_right _ h)
theorem iX4_place_X3 : ∀ w ∈ wsX30, w ∈ wsX4_place := fun _ h => List.mem_cons_of_mem _ (List.mem_append_left _ (List.mem_append_right _ h))
theorem iX4_place_X4 : ∀ w ∈ wsX40, w ∈ wsX4_place := fun _ h => List.mem_cons_of_mem _ (List.mem_append_left _ (List.mem_append_left _ (List.mem_append_left _ (List.mem_append_right _ h))))
set_option maxHeartbeats 4000000 in
set_option maxRecDepth 100000 in
theorem c4_place (l : Launch) (a : Nat → Nat) (sz x : Int) (hz : -2147483648 ≤ sz ∧ sz < 2147483648) (hx : -2147483648 ≤ x ∧ x < 2147483648) (M : Mem) (hV : lOK (viewC M)) (hR : rulL (viewC M)) (hK : kOK M) : CtI XS l yX4_place wsX4_place ({ frames := 6, cells := 0, slots := 0, locals := 140 } : Room) LC a M [.ref (a 0), .int (iI sz), .int (iI x)] (fun z M' => z = placeZ (viewC M) sz x ∧ keepF M M' ∧ kOK M') := by
  refine CtI.of (y := yX4_place) (cc := cX4_place) (maxL := 3) (ret := (some .int)) (lv := [some (.ref (a 0)), some (.int (iI sz)), some (.int (iI x))]) (by decide) rfl (Nat.le_of_ble_eq_true rfl) (lvOK_of _ _ ⟨rfl, rfl⟩) ?_
  intro p e s m below meth c D T F K X0 hr hlk
  have hXc := XS_c
  obtain ⟨hn, hg, hs, hsep, hc⟩ := view_ok hV
  obtain ⟨r1, r2, r3, r4⟩ := view_rul hR
  have hS := view_stem hV hR
  refine g_iload_n F (pc' := 1) dX4_place_0 rfl rfl ?_
  refine g_callP F (pc' := 4) (st := []) (c4_isSize l sz (by omega)) (va_cwS 1 F.2.2.2.2 gX4_place_X4_isSize rfl rfl rfl (by decide +kernel) ⟨Nat.le_of_ble_eq_true rfl, Nat.le_of_ble_eq_true rfl⟩) rfl rfl (Nat.le_of_ble_eq_true rfl) dX4_place_1 rfl ?_
  refine g_if_eq F (pc' := 7) (tgt := 18) dX4_place_4 rfl (by decide) (zC_R _) (fun c_4 => ?_) (fun c_4 => ?_)
  · skip
    have c_4 := zC_0 c_4
    refine g_ldc F (pc' := 20) (z := (-10000002)) dX4_place_18 rfl (List.mem_of_getElem? (i := 1) rfl) (by decide +kernel) ?_
    exact g_iret F hr hlk dX4_place_20 (⟨by show _ = if ¬ (1 ≤ sz ∧ sz ≤ 60) ∨ ¬ (0 ≤ x ∧ x ≤ 999) then -10000002 else pif (okF M sz) (plF (M 24 0) x (M 25) (M 26) (dotF M sz) (wF M sz) sz) (-10000003); rw [if_pos (by omega)], ⟨fun _ _ => rfl, hK⟩⟩)
  · skip
    have c_4 := zC_1 c_4
    refine g_iload_n F (pc' := 8) dX4_place_7 rfl rfl ?_
    refine g_iconst F (pc' := 9) dX4_place_8 rfl ?_
    refine g_sipush F (pc' := 12) dX4_place_9 rfl (by decide +kernel) ?_
    refine g_callP F (pc' := 15) (st := []) (c4_isWithin l x 0 999 (by omega) (by omega) (by omega)) (va_cwS 3 F.2.2.2.2 gX4_place_X4_isWithin rfl rfl rfl (by decide +kernel) ⟨Nat.le_of_ble_eq_true rfl, Nat.le_of_ble_eq_true rfl⟩) rfl rfl (Nat.le_of_ble_eq_true rfl) dX4_place_12 rfl ?_
    refine g_if_ne F (pc' := 18) (tgt := 21) dX4_place_15 rfl (by decide) (zC_R _) (fun c_15 => ?_) (fun c_15 => ?_)
    · skip
      have c_15 := zC_1 c_15
      refine g_aload_n F (pc' := 22) dX4_place_21 rfl rfl ?_
      refine g_getR F K (k := 0) (fld := 5) (ci := 4) (q := 34) (pc' := 25) iX4_place_X4 rfl rfl rfl (by decide) (List.mem_of_getElem? (i := 2) rfl) dX4_place_22 rfl ?_
      refine g_iload_n F (pc' := 26) dX4_place_25 rfl rfl ?_
      refine g_callI F K hXc X0 (pc' := 29) (st := []) (c0_isAt l a M sz (by exact hS) (by omega) (by exact hK)) (cwV 1 F.2.2.2.2 gX4_place_X0_isAt rfl rfl rfl (by decide +kernel) ⟨Nat.le_of_ble_eq_true rfl, Nat.le_of_ble_eq_true rfl⟩) rfl rfl rfl rfl (Nat.le_of_ble_eq_true rfl) dX4_place_26 rfl (fun z_26 M_26 q_26 => ?_)
      obtain ⟨k1, hz1, hK1, hg1⟩ := q_26
      obtain ⟨f34, f35, f36, f37, f38, f39, f40, f41, f42, rfl⟩ := keepF_ex k1
      have hg : goodX M sz (f36 sz) (f35 sz) f38 := hg1
      have hK2 : kOKf M f37 f36 f35 f38 := hK1
      refine h_top (z' := zC (okF M sz)) hz1 ?_
      refine h_mem (sc (sc (sc (sc (sc (sc (sc (sc (sc M 34 f34) 35 f35) 36 f36) 37 f37) 38 f38) 39 f39) 40 f40) 41 f41) 42 f42) (by first | rfl | funext k' i'; simp only [sc, upf]; (repeat' split) <;> first | rfl | (exfalso; omega) | simp_all) ?_
      refine g_if_eq F (pc' := 32) (tgt := 44) dX4_place_29 rfl (by decide) (zC_R _) (fun c_29 => ?_) (fun c_29 => ?_)
      · skip
        have c_29 := zC_0 c_29
        refine g_ldc F (pc' := 46) (z := (-10000003)) dX4_place_44 rfl (List.mem_of_getElem? (i := 3) rfl) (by decide +kernel) ?_
        exact g_iret F hr hlk dX4_place_46 (⟨by show _ = if ¬ (1 ≤ sz ∧ sz ≤ 60) ∨ ¬ (0 ≤ x ∧ x ≤ 999) then -10000002 else pif (okF M sz) (plF (M 24 0) x (M 25) (M 26) (dotF M sz) (wF M sz) sz) (-10000003); rw [if_neg (by omega), pif_f c_29], ⟨(show keepF M _ from (fun k q => by simp only [sc]; (repeat' split) <;> first | rfl | (exfalso; omega))), hK2⟩⟩)
      · skip
        have c_29 := zC_1 c_29
        have hlr : ∀ j, 0 ≤ j → j < M 24 0 → M 25 j < M 26 j := fun j q1 q2 => (hs j q1 q2).2.2.1
        have hsp : ∀ j, 0 ≤ j → j + 1 < M 24 0 → M 26 j < M 25 (j + 1) := fun j q1 q2 => hsep j (j + 1) q1 (by omega) q2
        have hdd := (hg.2 (goodX_b hg c_29)).2
        have hld : ∀ j, 0 ≤ j → j < M 24 0 → 0 ≤ f38 (sz * 8 + j) ∧ f38 (sz * 8 + j) ≤ 60 := fun j q1 q2 => by rw [hdd j q1 q2]; exact dotL_R (L := viewC M) hV hR (by omega) c_29 q1 q2
        refine g_aload_n F (pc' := 33) dX4_place_32 rfl rfl ?_
        refine g_getR F K (k := 0) (fld := 5) (ci := 4) (q := 34) (pc' := 36) iX4_place_X4 rfl rfl rfl (by decide) (List.mem_of_getElem? (i := 2) rfl) dX4_place_33 rfl ?_
        refine g_iload_n F (pc' := 37) dX4_place_36 rfl rfl ?_
        refine g_iload_n F (pc' := 38) dX4_place_37 rfl rfl ?_
        refine g_callI F K hXc X0 (pc' := 41) (st := []) (c0_drawn l a (sc (sc (sc (sc (sc (sc (sc (sc (sc M 34 f34) 35 f35) 36 f36) 37 f37) 38 f38) 39 f39) 40 f40) 41 f41) 42 f42) sz x (by exact hS) (by omega) (by omega) (by exact hlr) (by exact hsp) (by exact hld)) (cwV 2 F.2.2.2.2 gX4_place_X0_drawn rfl rfl rfl (by decide +kernel) ⟨Nat.le_of_ble_eq_true rfl, Nat.le_of_ble_eq_true rfl⟩) rfl rfl rfl rfl (Nat.le_of_ble_eq_true rfl) dX4_place_38 rfl (fun z_38 M_38 q_38 => ?_)
        obtain ⟨rfl, mq_38⟩ := q_38
        have mq_38 := mq_38.symm; subst mq_38
        refine h_top (z' := plF (M 24 0) x (M 25) (M 26) (fun s => f38 (sz * 8 + s)) (wF M sz) sz) rfl ?_
        refine g_goto F (tgt := 46) dX4_place_41 (by decide) ?_
        exact g_iret F hr hlk dX4_place_46 (⟨by show _ = if ¬ (1 ≤ sz ∧ sz ≤ 60) ∨ ¬ (0 ≤ x ∧ x ≤ 999) then -10000002 else pif (okF M sz) (plF (M 24 0) x (M 25) (M 26) (dotF M sz) (wF M sz) sz) (-10000003); rw [if_neg (by omega), pif_t c_29]; exact plF_e hn.1 (fun j q1 q2 => ⟨rfl, rfl, hdd j q1 q2, rfl⟩), ⟨(show keepF M _ from (fun k q => by simp only [sc]; (repeat' split) <;> first | rfl | (exfalso; omega))), hK2⟩⟩)
    · skip
      have c_15 := zC_0 c_15
      refine g_ldc F (pc' := 20) (z := (-10000002)) dX4_place_18 rfl (List.mem_of_getElem? (i := 1) rfl) (by decide +kernel) ?_
      exact g_iret F hr hlk dX4_place_20 (⟨by show _ = if ¬ (1 ≤ sz ∧ sz ≤ 60) ∨ ¬ (0 ≤ x ∧ x ≤ 999) then -10000002 else pif (okF M sz) (plF (M 24 0) x (M 25) (M 26) (dotF M sz) (wF M sz) sz) (-10000003); rw [if_pos (by omega)], ⟨fun _ _ => rfl, hK⟩⟩)

theorem iX4_best_X0 : ∀ w ∈ wsX00, w ∈ wsX4_best := fun _ h => List.mem_cons_of_mem _ (List.mem_append_left _ (List.mem_append_left _ (List.mem_append_right _ h)))
theorem iX4_best_X1 : ∀ w ∈ wsX10, w ∈ wsX4_best := fun _ h => List.mem_cons_of_mem _ (List.mem_append_right _ h)
theorem iX4_best_X3 : ∀ w ∈ wsX30, w ∈ wsX4_best := fun _ h => List.mem_cons_of_mem _ (List.mem_append_left _ (List.mem_append_right _ h))
theorem iX4_best_X4 : ∀ w ∈ wsX40, w ∈ wsX4_best := fun _ h => List.mem_cons_of_mem _ (List.mem_append_left _ (List.mem_append_left _ (List.mem_append_left _ (List.mem_append_right _ h))))
set_option maxHeartbeats 4000000 in
set_option maxRecDepth 100000 in
theorem c4_best (l : Launch) (a : Nat → Nat) (mo : Int) (hmo : -2147483648 ≤ mo ∧ mo < 2147483648) (M : Mem) (hV : lOK (viewC M)) (hR : rulL (viewC M)) (hK : kOK M) : CtI XS l yX4_best wsX4_best ({ frames := 6, cells := 0, slots := 0, locals := 140 } : Room) LC a M [.ref (a 0), .int (iI mo)] (fun z M' => z = bestZ (viewC M) mo ∧ keepF M M' ∧ kOK M') := by
  refine CtI.of (y := yX4_best) (cc := cX4_best) (maxL := 8) (ret := (some .int)) (lv := [some (.ref (a 0)), some (.int (iI mo)), none, none, none, none, none, none]) (by decide) rfl (Nat.le_of_ble_eq_true rfl) (lvOK_of _ _ ⟨rfl, rfl⟩) ?_
  intro p e s m below meth c D T F K X0 hr hlk
  have hXc := XS_c
  obtain ⟨hn, hg, hs, hsep, hc⟩ := view_ok hV
  obtain ⟨r1, r2, r3, r4⟩ := view_rul hR
  have hS := view_stem hV hR
  refine g_iload_n F (pc' := 1) dX4_best_0 rfl rfl ?_
  refine g_callP F (pc' := 4) (st := []) (c4_isSize l mo (by omega)) (va_cwS 1 F.2.2.2.2 gX4_best_X4_isSize rfl rfl rfl (by decide +kernel) ⟨Nat.le_of_ble_eq_true rfl, Nat.le_of_ble_eq_true rfl⟩) rfl rfl (Nat.le_of_ble_eq_true rfl) dX4_best_1 rfl ?_
  refine g_if_ne F (pc' := 7) (tgt := 10) dX4_best_4 rfl (by decide) (zC_R _) (fun c_4 => ?_) (fun c_4 => ?_)
  · skip
    have c_4 := zC_1 c_4
    refine g_bipush F (pc' := 12) dX4_best_10 rfl (by decide +kernel) ?_
    refine g_istore_n F (pc' := 13) (lv' := [some (.ref (a 0)), some (.int (iI mo)), some (.int (iI (-6))), none, none, none, none, none]) dX4_best_12 rfl (by decide) rfl ?_
    refine g_lconst F (pc' := 14) (z := 0) dX4_best_13 rfl rfl ?_
    refine g_lstore_n F (pc' := 15) (lv' := [some (.ref (a 0)), some (.int (iI mo)), some (.int (iI (-6))), some (.long (lI 0)), none, none, none, none]) dX4_best_14 rfl (by decide) rfl ?_
    refine g_iconst F (pc' := 16) dX4_best_15 rfl ?_
    refine g_istore F (pc' := 18) (lv' := [some (.ref (a 0)), some (.int (iI mo)), some (.int (iI (-6))), some (.long (lI 0)), none, some (.int (iI 1)), none, none]) dX4_best_16 rfl (by decide) rfl ?_
    have lp_18 : ∀ (n_18 : Nat) (N : Mem) (b : Int) (ls : Int) (v : Int) (hm_18 : 61 - v < (n_18 : Int)) (hkN : keepF M N) (hKN : kOK N) (hv : 1 ≤ v ∧ v ≤ mo + 1) (hb : bestI (okF M) (leastF M) (v - 1) = (b, ls)) (hbR : (b = -6 ∨ (1 ≤ b ∧ b ≤ 60)) ∧ 0 ≤ ls ∧ ls ≤ 20000000000), GG p l e ({ frames := 6, cells := 0, slots := 0, locals := 140 } : Room) s m ([.ref (a 0), .int (iI mo)].toArray) below meth c (PI D T a LC M (fun z M' => z = bestZ (viewC M) mo ∧ keepF M M' ∧ kOK M') below ([.ref (a 0), .int (iI mo)].toArray) s) D (AA T a LC M s.heap.size) 8 (wld T a LC N) 18 [some (.ref (a 0)), some (.int (iI mo)), some (.int (iI b)), some (.long (lI ls)), none, some (.int (iI v)), none, none] [] := by
      intro n_18
      induction n_18 with
      | zero => intro N b ls v hm_18 hkN hKN hv hb hbR; exfalso; omega
      | succ n_18 ih_18 =>
        intro N b ls v hm_18 hkN hKN hv hb hbR
        have hmo2 : 1 ≤ mo ∧ mo ≤ 60 := by omega
        refine g_iload F (pc' := 20) dX4_best_18 rfl rfl ?_
        refine g_iload_n F (pc' := 21) dX4_best_20 rfl rfl ?_
        refine g_icmp_gt F (pc' := 24) (tgt := 83) dX4_best_21 rfl (by decide) (by omega) (by omega) (fun c_21 => ?_) (fun c_21 => ?_)
        · skip
          refine g_iload_n F (pc' := 84) dX4_best_83 rfl rfl ?_
          exact g_iret F hr hlk dX4_best_84 (⟨by show _ = if 1 ≤ mo ∧ mo ≤ 60 then (bestI (okF M) (leastF M) mo).1 else -2; rw [if_pos (by omega), show mo = v - 1 by omega, hb], hkN, hKN⟩)
        · skip
          refine g_aload_n F (pc' := 25) dX4_best_24 rfl rfl ?_
          refine g_getR F K (k := 0) (fld := 5) (ci := 4) (q := 34) (pc' := 28) iX4_best_X4 rfl rfl rfl (by decide) (List.mem_of_getElem? (i := 1) rfl) dX4_best_25 rfl ?_
          refine g_iload F (pc' := 30) dX4_best_28 rfl rfl ?_
          refine g_callI F K hXc X0 (pc' := 33) (st := []) (c0_isAt l a N v (stemOK_M hkN hS) (by omega) hKN) (cwV 1 F.2.2.2.2 gX4_best_X0_isAt rfl rfl rfl (by decide +kernel) ⟨Nat.le_of_ble_eq_true rfl, Nat.le_of_ble_eq_true rfl⟩) rfl rfl rfl rfl (Nat.le_of_ble_eq_true rfl) dX4_best_30 rfl (fun z_30 N2 q_30 => ?_)
          obtain ⟨k1, hz1, hK1, hg1⟩ := q_30
          have hk1 : keepF M N2 := fun k q => (k1 k q).trans (hkN k q)
          have hg2 : goodX M v (N2 36 v) (N2 35 v) (N2 38) := by rw [← goodX_M hkN]; exact hg1
          refine h_top (z' := zC (okF M v)) (hz1.trans (by rw [okF_M hkN])) ?_
          refine g_if_ne F (pc' := 36) (tgt := 39) dX4_best_33 rfl (by decide) (zC_R _) (fun c_33 => ?_) (fun c_33 => ?_)
          · skip
            have c_33 := zC_1 c_33
            have hlv := leastL_R (L := viewC M) hV hR (sz := v) (by omega) c_33
            have hkv : N2 35 v = leastF M v := (hg2.2 (goodX_b hg2 c_33)).1
            have hlv2 : 0 ≤ leastF M v ∧ leastF M v ≤ 20000000000 := hlv
            have hbs := bestI_s (ok := (okF M)) (ls := (leastF M)) (k := v) (by omega) hb
            refine g_aload_n F (pc' := 40) dX4_best_39 rfl rfl ?_
            refine g_getR F K (k := 0) (fld := 5) (ci := 4) (q := 34) (pc' := 43) iX4_best_X4 rfl rfl rfl (by decide) (List.mem_of_getElem? (i := 1) rfl) dX4_best_40 rfl ?_
            refine g_getR F K (k := 34) (fld := 0) (ci := 0) (q := 35) (pc' := 46) iX4_best_X0 rfl rfl rfl (by decide) (List.mem_of_getElem? (i := 2) rfl) dX4_best_43 rfl ?_
            refine g_iload F (pc' := 48) dX4_best_46 rfl rfl ?_
            refine g_lald F K (k := 35) (v := N2 35 v) (pc' := 49) rfl (by decide) (by omega) dX4_best_48 rfl (by first | rfl | simp [upf, sc]) ?_
            refine g_lstore F (pc' := 51) (lv' := [some (.ref (a 0)), some (.int (iI mo)), some (.int (iI b)), some (.long (lI ls)), none, some (.int (iI v)), some (.long (lI (N2 35 v))), none]) dX4_best_49 rfl (by decide) rfl ?_
            refine g_iload_n F (pc' := 52) dX4_best_51 rfl rfl ?_
            refine g_bipush F (pc' := 54) dX4_best_52 rfl (by decide +kernel) ?_
            refine g_icmp_eq F (pc' := 57) (tgt := 71) dX4_best_54 rfl (by decide) (by omega) (by decide) (fun c_54 => ?_) (fun c_54 => ?_)
            · skip
              refine g_iload F (pc' := 73) dX4_best_71 rfl rfl ?_
              refine g_istore_n F (pc' := 74) (lv' := [some (.ref (a 0)), some (.int (iI mo)), some (.int (iI v)), some (.long (lI ls)), none, some (.int (iI v)), some (.long (lI (N2 35 v))), none]) dX4_best_73 rfl (by decide) rfl ?_
              refine g_lload F (pc' := 76) dX4_best_74 rfl rfl ?_
              refine g_lstore_n F (pc' := 77) (lv' := [some (.ref (a 0)), some (.int (iI mo)), some (.int (iI v)), some (.long (lI (N2 35 v))), none, some (.int (iI v)), some (.long (lI (N2 35 v))), none]) dX4_best_76 rfl (by decide) rfl ?_
              refine g_iinc F (pc' := 80) (lv' := [some (.ref (a 0)), some (.int (iI mo)), some (.int (iI v)), some (.long (lI (N2 35 v))), none, some (.int (iI (v + 1))), some (.long (lI (N2 35 v))), none]) dX4_best_77 rfl rfl (by decide) rfl ?_
              refine g_goto F (tgt := 18) dX4_best_80 (by decide) ?_
              refine g_lvw [some (.ref (a 0)), some (.int (iI mo)), some (.int (iI v)), some (.long (lI (N2 35 v))), none, some (.int (iI (v + 1))), none, none] (lvw_of _ _ [true, true, true, true, false, true, false, false] rfl) ?_
              exact ih_18 N2 v (N2 35 v) (v + 1) (by omega) (hk1) (hK1) (by omega) (by first | (rw [show v + 1 - 1 = v by omega, bestI_n (by omega) c_33]; exact hb) | (rw [show v + 1 - 1 = v by omega, hbs, pif_t c_33, if_pos (by rw [← hkv]; omega), hkv]) | (rw [show v + 1 - 1 = v by omega, hbs, pif_t c_33, if_neg (by rw [← hkv]; omega)])) (by first | exact hbR | exact ⟨Or.inr (by omega), by rw [hkv]; exact hlv2⟩)
            · skip
              have hp1 := mul_R (x := N2 35 v) (y := b) (A := 20000000000) (B := 60) (by omega) (by omega)
              have hp2 := mul_R (x := ls) (y := v) (B := 60) hbR.2 (by omega)
              refine g_lload F (pc' := 59) dX4_best_57 rfl rfl ?_
              refine g_iload_n F (pc' := 60) dX4_best_59 rfl rfl ?_
              refine g_i2l F (pc' := 61) dX4_best_60 rfl (by omega) ?_
              refine g_lmul F (pc' := 62) dX4_best_61 rfl ?_
              refine g_lload_n F (pc' := 63) dX4_best_62 rfl rfl ?_
              refine g_iload F (pc' := 65) dX4_best_63 rfl rfl ?_
              refine g_i2l F (pc' := 66) dX4_best_65 rfl (by omega) ?_
              refine g_lmul F (pc' := 67) dX4_best_66 rfl ?_
              refine g_lcmp F (pc' := 68) dX4_best_67 rfl (by omega) (by omega) ?_
              refine g_if_gt F (pc' := 71) (tgt := 77) dX4_best_68 rfl (by decide) (cmpz_R _ _) (fun c_68 => ?_) (fun c_68 => ?_)
              · skip
                have c_68 := cmpz_gt.mp c_68
                refine g_iinc F (pc' := 80) (lv' := [some (.ref (a 0)), some (.int (iI mo)), some (.int (iI b)), some (.long (lI ls)), none, some (.int (iI (v + 1))), some (.long (lI (N2 35 v))), none]) dX4_best_77 rfl rfl (by decide) rfl ?_
                refine g_goto F (tgt := 18) dX4_best_80 (by decide) ?_
                refine g_lvw [some (.ref (a 0)), some (.int (iI mo)), some (.int (iI b)), some (.long (lI ls)), none, some (.int (iI (v + 1))), none, none] (lvw_of _ _ [true, true, true, true, false, true, false, false] rfl) ?_
                exact ih_18 N2 b ls (v + 1) (by omega) (hk1) (hK1) (by omega) (by first | (rw [show v + 1 - 1 = v by omega, bestI_n (by omega) c_33]; exact hb) | (rw [show v + 1 - 1 = v by omega, hbs, pif_t c_33, if_pos (by rw [← hkv]; omega), hkv]) | (rw [show v + 1 - 1 = v by omega, hbs, pif_t c_33, if_neg (by rw [← hkv]; omega)])) (by first | exact hbR | exact ⟨Or.inr (by omega), by rw [hkv]; exact hlv2⟩)
              · skip
                have c_68 := cmpz_le.mp c_68
                refine g_iload F (pc' := 73) dX4_best_71 rfl rfl ?_
                refine g_istore_n F (pc' := 74) (lv' := [some (.ref (a 0)), some (.int (iI mo)), some (.int (iI v)), some (.long (lI ls)), none, some (.int (iI v)), some (.long (lI (N2 35 v))), none]) dX4_best_73 rfl (by decide) rfl ?_
                refine g_lload F (pc' := 76) dX4_best_74 rfl rfl ?_
                refine g_lstore_n F (pc' := 77) (lv' := [some (.ref (a 0)), some (.int (iI mo)), some (.int (iI v)), some (.long (lI (N2 35 v))), none, some (.int (iI v)), some (.long (lI (N2 35 v))), none]) dX4_best_76 rfl (by decide) rfl ?_
                refine g_iinc F (pc' := 80) (lv' := [some (.ref (a 0)), some (.int (iI mo)), some (.int (iI v)), some (.long (lI (N2 35 v))), none, some (.int (iI (v + 1))), some (.long (lI (N2 35 v))), none]) dX4_best_77 rfl rfl (by decide) rfl ?_
                refine g_goto F (tgt := 18) dX4_best_80 (by decide) ?_
                refine g_lvw [some (.ref (a 0)), some (.int (iI mo)), some (.int (iI v)), some (.long (lI (N2 35 v))), none, some (.int (iI (v + 1))), none, none] (lvw_of _ _ [true, true, true, true, false, true, false, false] rfl) ?_
                exact ih_18 N2 v (N2 35 v) (v + 1) (by omega) (hk1) (hK1) (by omega) (by first | (rw [show v + 1 - 1 = v by omega, bestI_n (by omega) c_33]; exact hb) | (rw [show v + 1 - 1 = v by omega, hbs, pif_t c_33, if_pos (by rw [← hkv]; omega), hkv]) | (rw [show v + 1 - 1 = v by omega, hbs, pif_t c_33, if_neg (by rw [← hkv]; omega)])) (by first | exact hbR | exact ⟨Or.inr (by omega), by rw [hkv]; exact hlv2⟩)
          · skip
            have c_33 := zC_0 c_33
            refine g_goto F (tgt := 77) dX4_best_36 (by decide) ?_
            refine g_iinc F (pc' := 80) (lv' := [some (.ref (a 0)), some (.int (iI mo)), some (.int (iI b)), some (.long (lI ls)), none, some (.int (iI (v + 1))), none, none]) dX4_best_77 rfl rfl (by decide) rfl ?_
            refine g_goto F (tgt := 18) dX4_best_80 (by decide) ?_
            exact ih_18 N2 b ls (v + 1) (by omega) (hk1) (hK1) (by omega) (by first | (rw [show v + 1 - 1 = v by omega, bestI_n (by omega) c_33]; exact hb) | (rw [show v + 1 - 1 = v by omega, hbs, pif_t c_33, if_pos (by rw [← hkv]; omega), hkv]) | (rw [show v + 1 - 1 = v by omega, hbs, pif_t c_33, if_neg (by rw [← hkv]; omega)])) (by first | exact hbR | exact ⟨Or.inr (by omega), by rw [hkv]; exact hlv2⟩)
    exact lp_18 ((61 - 1 : Int).toNat + 1) M (-6) 0 1 (by omega) (fun _ _ => rfl) (hK) (by omega) (rfl) (⟨Or.inl rfl, by decide, by decide⟩)
  · skip
    have c_4 := zC_0 c_4
    refine g_bipush F (pc' := 9) dX4_best_7 rfl (by decide +kernel) ?_
    exact g_iret F hr hlk dX4_best_9 (⟨by show _ = if 1 ≤ mo ∧ mo ≤ 60 then (bestI (okF M) (leastF M) mo).1 else -2; rw [if_neg (by omega)], fun _ _ => rfl, hK⟩)

