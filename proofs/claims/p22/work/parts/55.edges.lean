/-! ===== the class: what changes it ===== -/
def q4_say (M : Mem) (v : Int) : Int → Mem → Prop := fun z M' => (¬ (33 ≤ v ∧ v ≤ 126) ∧ z = -2 ∧ M' = M) ∨ ((33 ≤ v ∧ v ≤ 126) ∧ M 1 1 = 30 ∧ z = -4 ∧ M' = M) ∨ ((33 ≤ v ∧ v ≤ 126) ∧ M 1 1 < 30 ∧ z = M 1 1 + 1 ∧ M' = sc (sc M 1 (upf (M 1) 1 (M 1 1 + 1))) 2 (upf (M 2) (M 1 1) v))
def rnQ (M M' : Mem) : Prop := ∃ od f : Int → Int, isOrd (sC M).1 (wS (sC M)) od ∧ M' = sc (foundM M od) 37 f ∧ (∀ j, 0 ≤ j → j ≤ 60 → f j = 0) ∧ ∀ j, f j = 0 ∨ f j = M 37 j
theorem rn_4 {M N : Mem} (h : rnQ M N) : N 4 4 = M 4 4 := by
  obtain ⟨od, f, -, rfl, -, -⟩ := h; rfl
theorem del1_R {g : Int → Int} {u k : Int} (h : ∀ j, 0 ≤ g j ∧ g j ≤ 999) : ∀ j, 0 ≤ del1 g u k j ∧ del1 g u k j ≤ 999 := by
  intro j
  unfold del1
  split
  · exact h _
  · exact h _
def edD (M : Mem) (u : Int) : Mem := sc (sc (sc (sc (sc M 4 (upf (M 4) 4 (M 4 4 - 1))) 5 (del1 (M 5) u (M 4 4 - 1))) 6 (del1 (M 6) u (M 4 4 - 1))) 7 (del1 (M 7) u (M 4 4 - 1))) 8 (del1 (M 8) u (M 4 4 - 1))
def q4_erase (M : Mem) (u : Int) : Int → Mem → Prop := fun z M' => (¬ (0 ≤ u ∧ u ≤ M 4 4 - 1) ∧ z = -1 ∧ M' = M) ∨ ((0 ≤ u ∧ u ≤ M 4 4 - 1) ∧ z = M 4 4 - 1 ∧ rnQ (edD M u) M')
theorem rmx_R (w : Int) : 0 ≤ rmx w ∧ rmx w ≤ 99 := by
  unfold rmx
  split
  · omega
  · split <;> omega
theorem rule_R {f : Int → Int} {w n : Int} (h : 0 ≤ f 0 ∧ f 0 ≤ 99) (_ : 0 ≤ w ∧ w ≤ 4) (hn : 0 ≤ n ∧ n ≤ rmx w) : 0 ≤ upf f w n 0 ∧ upf f w n 0 ≤ 99 := by
  have := rmx_R w
  unfold upf
  split
  · omega
  · exact h
def q4_rule (M : Mem) (w n : Int) : Int → Mem → Prop := fun z M' => (¬ ((0 ≤ w ∧ w ≤ 4) ∧ (0 ≤ n ∧ n ≤ rmx w)) ∧ z = -2 ∧ M' = M) ∨ (((0 ≤ w ∧ w ≤ 4) ∧ (0 ≤ n ∧ n ≤ rmx w)) ∧ z = M 9 w ∧ rnQ (sc M 9 (upf (M 9) w n)) M')
theorem iX4_say_X2 : ∀ w ∈ wsX20, w ∈ wsX4_say := fun _ h => List.mem_cons_of_mem _ (List.mem_append_right _ h)
theorem iX4_say_X4 : ∀ w ∈ wsX40, w ∈ wsX4_say := fun _ h => List.mem_cons_of_mem _ (List.mem_append_left _ (List.mem_append_right _ h))
set_option maxHeartbeats 4000000 in
set_option maxRecDepth 100000 in
theorem c4_say (l : Launch) (a : Nat → Nat) (M : Mem) (v : Int) (hv : -2147483648 ≤ v ∧ v < 2147483648) (hn : 0 ≤ M 1 1 ∧ M 1 1 ≤ 30) (hP : ∀ j, 0 ≤ M 2 j ∧ M 2 j ≤ 126) : CtI XS l yX4_say wsX4_say ({ frames := 1, cells := 0, slots := 0, locals := 22 } : Room) LC a M [.ref (a 0), .int (iI v)] (q4_say M v) := by
  refine CtI.of (y := yX4_say) (cc := cX4_say) (maxL := 2) (ret := (some .int)) (lv := [some (.ref (a 0)), some (.int (iI v))]) (by decide) rfl (Nat.le_of_ble_eq_true rfl) (lvOK_of _ _ ⟨rfl, rfl⟩) ?_
  intro p e s m below meth c D T F K X0 hr hlk
  have hXc := XS_c
  refine g_iload_n F (pc' := 1) dX4_say_0 rfl rfl ?_
  refine g_bipush F (pc' := 3) dX4_say_1 rfl (by decide +kernel) ?_
  refine g_bipush F (pc' := 5) dX4_say_3 rfl (by decide +kernel) ?_
  refine g_callP F (pc' := 8) (st := []) (c4_isWithin l v 33 126 (by omega) (by omega) (by omega)) (va_cwS 3 F.2.2.2.2 gX4_say_X4_isWithin rfl rfl rfl (by decide +kernel) ⟨Nat.le_of_ble_eq_true rfl, Nat.le_of_ble_eq_true rfl⟩) rfl rfl (Nat.le_of_ble_eq_true rfl) dX4_say_5 rfl ?_
  refine g_if_ne F (pc' := 11) (tgt := 14) dX4_say_8 rfl (by decide) (zC_R _) (fun c_8 => ?_) (fun c_8 => ?_)
  · skip
    have c_8 := zC_1 c_8
    refine g_aload_n F (pc' := 15) dX4_say_14 rfl rfl ?_
    refine g_getR F K (k := 0) (fld := 0) (ci := 4) (q := 1) (pc' := 18) iX4_say_X4 rfl rfl rfl (by decide) (List.mem_of_getElem? (i := 1) rfl) dX4_say_15 rfl ?_
    refine g_iload_n F (pc' := 19) dX4_say_18 rfl rfl ?_
    refine g_callI F K hXc X0 (pc' := 22) (st := []) (c2_add l a M v (by exact hn)) (cwV 1 F.2.2.2.2 gX4_say_X2_add rfl rfl rfl (by decide +kernel) ⟨Nat.le_of_ble_eq_true rfl, Nat.le_of_ble_eq_true rfl⟩) rfl rfl rfl rfl (Nat.le_of_ble_eq_true rfl) dX4_say_19 rfl (fun z_19 M_19 q_19 => ?_)
    rcases q_19 with ⟨ca, rfl, rfl⟩ | ⟨ca, rfl, rfl⟩
    · skip
      refine g_if_eq F (pc' := 25) (tgt := 35) dX4_say_22 rfl (by decide) (by decide) (fun c_22 => ?_) (fun c_22 => ?_)
      · skip
        refine g_bipush F (pc' := 37) dX4_say_35 rfl (by decide +kernel) ?_
        exact g_iret F hr hlk dX4_say_37 (Or.inr (Or.inl ⟨c_8, by omega, rfl, rfl⟩))
      · skip
        exact absurd c_22 (by decide)
    · skip
      refine h_mem (sc (sc M 1 (upf (M 1) 1 (M 1 1 + 1))) 2 (upf (M 2) (M 1 1) v)) (by first | rfl | funext k' i'; simp only [sc, upf]; (repeat' split) <;> first | rfl | (exfalso; omega) | simp_all) ?_
      refine g_if_eq F (pc' := 25) (tgt := 35) dX4_say_22 rfl (by decide) (by decide) (fun c_22 => ?_) (fun c_22 => ?_)
      · skip
        exact absurd c_22 (by decide)
      · skip
        refine g_aload_n F (pc' := 26) dX4_say_25 rfl rfl ?_
        refine g_getR F K (k := 0) (fld := 0) (ci := 4) (q := 1) (pc' := 29) iX4_say_X4 rfl rfl rfl (by decide) (List.mem_of_getElem? (i := 1) rfl) dX4_say_26 rfl ?_
        refine g_getI F K (k := 1) (fld := 1) (ci := 2) (z := M 1 1 + 1) (pc' := 32) iX4_say_X2 rfl rfl rfl (by decide) (List.mem_of_getElem? (i := 2) rfl) dX4_say_29 rfl (by first | rfl | exact upf_s _ _ _ | simp [upf, sc]) ?_
        refine g_goto F (tgt := 37) dX4_say_32 (by decide) ?_
        exact g_iret F hr hlk dX4_say_37 (Or.inr (Or.inr ⟨c_8, by omega, rfl, rfl⟩))
  · skip
    have c_8 := zC_0 c_8
    refine g_bipush F (pc' := 13) dX4_say_11 rfl (by decide +kernel) ?_
    exact g_iret F hr hlk dX4_say_13 (Or.inl ⟨c_8, rfl, rfl⟩)

theorem iX4_wipe_X2 : ∀ w ∈ wsX20, w ∈ wsX4_wipe := fun _ h => List.mem_cons_of_mem _ (List.mem_append_right _ h)
theorem iX4_wipe_X4 : ∀ w ∈ wsX40, w ∈ wsX4_wipe := fun _ h => List.mem_cons_of_mem _ (List.mem_append_left _ (List.mem_append_right _ h))
set_option maxHeartbeats 4000000 in
set_option maxRecDepth 100000 in
theorem c4_wipe (l : Launch) (a : Nat → Nat) (M : Mem) : CtI XS l yX4_wipe wsX4_wipe ({ frames := 1, cells := 0, slots := 0, locals := 20 } : Room) LC a M [.ref (a 0)] (fun z M' => z = M 1 1 ∧ M' = sc M 1 (upf (M 1) 1 0)) := by
  refine CtI.of (y := yX4_wipe) (cc := cX4_wipe) (maxL := 2) (ret := (some .int)) (lv := [some (.ref (a 0)), none]) (by decide) rfl (Nat.le_of_ble_eq_true rfl) (lvOK_of _ _ ⟨rfl, rfl⟩) ?_
  intro p e s m below meth c D T F K X0 hr hlk
  have hXc := XS_c
  refine g_aload_n F (pc' := 1) dX4_wipe_0 rfl rfl ?_
  refine g_getR F K (k := 0) (fld := 0) (ci := 4) (q := 1) (pc' := 4) iX4_wipe_X4 rfl rfl rfl (by decide) (List.mem_of_getElem? (i := 1) rfl) dX4_wipe_1 rfl ?_
  refine g_getI F K (k := 1) (fld := 1) (ci := 2) (z := M 1 1) (pc' := 7) iX4_wipe_X2 rfl rfl rfl (by decide) (List.mem_of_getElem? (i := 2) rfl) dX4_wipe_4 rfl (by first | rfl | simp [upf, sc]) ?_
  refine g_istore_n F (pc' := 8) (lv' := [some (.ref (a 0)), some (.int (iI (M 1 1)))]) dX4_wipe_7 rfl (by decide) rfl ?_
  refine g_aload_n F (pc' := 9) dX4_wipe_8 rfl rfl ?_
  refine g_getR F K (k := 0) (fld := 0) (ci := 4) (q := 1) (pc' := 12) iX4_wipe_X4 rfl rfl rfl (by decide) (List.mem_of_getElem? (i := 1) rfl) dX4_wipe_9 rfl ?_
  refine g_callV F K hXc X0 (pc' := 15) (st := []) (c2_clear l a M) (cwV 0 F.2.2.2.2 gX4_wipe_X2_clear rfl rfl rfl (by decide +kernel) ⟨Nat.le_of_ble_eq_true rfl, Nat.le_of_ble_eq_true rfl⟩) rfl rfl rfl rfl (Nat.le_of_ble_eq_true rfl) dX4_wipe_12 rfl (fun M_12 q_12 => ?_)
  subst q_12
  refine h_mem (sc M 1 (upf (M 1) 1 0)) (by first | rfl | funext k' i'; simp only [sc, upf]; (repeat' split) <;> first | rfl | (exfalso; omega) | simp_all) ?_
  refine g_iload_n F (pc' := 16) dX4_wipe_15 rfl rfl ?_
  exact g_iret F hr hlk dX4_wipe_16 (⟨rfl, rfl⟩)

theorem iX4_renew_X0 : ∀ w ∈ wsX00, w ∈ wsX4_renew := fun _ h => List.mem_cons_of_mem _ (List.mem_append_right _ h)
theorem iX4_renew_X1 : ∀ w ∈ wsX10, w ∈ wsX4_renew := fun _ h => List.mem_cons_of_mem _ (List.mem_append_left _ (List.mem_append_right _ h))
theorem iX4_renew_X3 : ∀ w ∈ wsX30, w ∈ wsX4_renew := fun _ h => List.mem_cons_of_mem _ (List.mem_append_left _ (List.mem_append_left _ (List.mem_append_right _ h)))
theorem iX4_renew_X4 : ∀ w ∈ wsX40, w ∈ wsX4_renew := fun _ h => List.mem_cons_of_mem _ (List.mem_append_left _ (List.mem_append_left _ (List.mem_append_left _ (List.mem_append_right _ h))))
set_option maxHeartbeats 4000000 in
set_option maxRecDepth 100000 in
theorem c4_renew (l : Launch) (a : Nat → Nat) (M : Mem) (hm : 0 ≤ M 4 4 ∧ M 4 4 ≤ 16) (h5 : ∀ j, 0 ≤ M 5 j ∧ M 5 j ≤ 999) (h6 : ∀ j, 0 ≤ M 6 j ∧ M 6 j ≤ 999) (h7 : ∀ j, 0 ≤ M 7 j ∧ M 7 j ≤ 999) (h8 : ∀ j, 0 ≤ M 8 j ∧ M 8 j ≤ 999) (ht : 0 ≤ M 9 0 ∧ M 9 0 ≤ 99) : CtV XS l yX4_renew wsX4_renew ({ frames := 4, cells := 0, slots := 0, locals := 92 } : Room) LC a M [.ref (a 0)] (fun M' => rnQ M M') := by
  refine CtV.of (y := yX4_renew) (cc := cX4_renew) (maxL := 1) (ret := none) (lv := [some (.ref (a 0))]) (by decide) rfl (Nat.le_of_ble_eq_true rfl) (lvOK_of _ _ ⟨rfl, rfl⟩) ?_
  intro p e s m below meth c D T F K X0 hr hlk
  have hXc := XS_c
  refine g_aload_n F (pc' := 1) dX4_renew_0 rfl rfl ?_
  refine g_getR F K (k := 0) (fld := 4) (ci := 4) (q := 24) (pc' := 4) iX4_renew_X4 rfl rfl rfl (by decide) (List.mem_of_getElem? (i := 1) rfl) dX4_renew_1 rfl ?_
  refine g_aload_n F (pc' := 5) dX4_renew_4 rfl rfl ?_
  refine g_getR F K (k := 0) (fld := 1) (ci := 4) (q := 4) (pc' := 8) iX4_renew_X4 rfl rfl rfl (by decide) (List.mem_of_getElem? (i := 2) rfl) dX4_renew_5 rfl ?_
  refine g_callV F K hXc X0 (pc' := 11) (st := []) (c3_find l a M hm h5 h6 h7 h8 ht) (cwV 1 F.2.2.2.2 gX4_renew_X3_find rfl rfl rfl (by decide +kernel) ⟨Nat.le_of_ble_eq_true rfl, Nat.le_of_ble_eq_true rfl⟩) rfl rfl rfl rfl (Nat.le_of_ble_eq_true rfl) dX4_renew_8 rfl (fun M_8 q_8 => ?_)
  obtain ⟨od, hod, rfl⟩ := q_8
  refine g_aload_n F (pc' := 12) dX4_renew_11 rfl rfl ?_
  refine g_getR F K (k := 0) (fld := 5) (ci := 4) (q := 34) (pc' := 15) iX4_renew_X4 rfl rfl rfl (by decide) (List.mem_of_getElem? (i := 3) rfl) dX4_renew_12 rfl ?_
  refine g_callV F K hXc X0 (pc' := 18) (st := []) (c0_forget l a (foundM M od)) (cwV 0 F.2.2.2.2 gX4_renew_X0_forget rfl rfl rfl (by decide +kernel) ⟨Nat.le_of_ble_eq_true rfl, Nat.le_of_ble_eq_true rfl⟩) rfl rfl rfl rfl (Nat.le_of_ble_eq_true rfl) dX4_renew_15 rfl (fun M_15 q_15 => ?_)
  obtain ⟨f, rfl, hf0, hf1⟩ := q_15
  exact g_vret F hr hlk dX4_renew_18 (⟨od, f, hod, rfl, hf0, hf1⟩)

theorem iX4_erase_X0 : ∀ w ∈ wsX00, w ∈ wsX4_erase := fun _ h => List.mem_cons_of_mem _ (List.mem_append_right _ h)
theorem iX4_erase_X1 : ∀ w ∈ wsX10, w ∈ wsX4_erase := fun _ h => List.mem_cons_of_mem _ (List.mem_append_left _ (List.mem_append_left _ (List.mem_append_right _ h)))
theorem iX4_erase_X3 : ∀ w ∈ wsX30, w ∈ wsX4_erase := fun _ h => List.mem_cons_of_mem _ (List.mem_append_left _ (List.mem_append_right _ h))
theorem iX4_erase_X4 : ∀ w ∈ wsX40, w ∈ wsX4_erase := fun _ h => List.mem_cons_of_mem _ (List.mem_append_left _ (List.mem_append_left _ (List.mem_append_left _ (List.mem_append_right _ h))))
set_option maxHeartbeats 4000000 in
set_option maxRecDepth 100000 in
theorem c4_erase (l : Launch) (a : Nat → Nat) (M : Mem) (u : Int) (hu : -2147483648 ≤ u ∧ u < 2147483648) (hm : 0 ≤ M 4 4 ∧ M 4 4 ≤ 16) (h5 : ∀ j, 0 ≤ M 5 j ∧ M 5 j ≤ 999) (h6 : ∀ j, 0 ≤ M 6 j ∧ M 6 j ≤ 999) (h7 : ∀ j, 0 ≤ M 7 j ∧ M 7 j ≤ 999) (h8 : ∀ j, 0 ≤ M 8 j ∧ M 8 j ≤ 999) (ht : 0 ≤ M 9 0 ∧ M 9 0 ≤ 99) : CtI XS l yX4_erase wsX4_erase ({ frames := 5, cells := 0, slots := 0, locals := 112 } : Room) LC a M [.ref (a 0), .int (iI u)] (q4_erase M u) := by
  refine CtI.of (y := yX4_erase) (cc := cX4_erase) (maxL := 2) (ret := (some .int)) (lv := [some (.ref (a 0)), some (.int (iI u))]) (by decide) rfl (Nat.le_of_ble_eq_true rfl) (lvOK_of _ _ ⟨rfl, rfl⟩) ?_
  intro p e s m below meth c D T F K X0 hr hlk
  have hXc := XS_c
  refine g_iload_n F (pc' := 1) dX4_erase_0 rfl rfl ?_
  refine g_iconst F (pc' := 2) dX4_erase_1 rfl ?_
  refine g_aload_n F (pc' := 3) dX4_erase_2 rfl rfl ?_
  refine g_getR F K (k := 0) (fld := 1) (ci := 4) (q := 4) (pc' := 6) iX4_erase_X4 rfl rfl rfl (by decide) (List.mem_of_getElem? (i := 1) rfl) dX4_erase_3 rfl ?_
  refine g_getI F K (k := 4) (fld := 4) (ci := 1) (z := M 4 4) (pc' := 9) iX4_erase_X1 rfl rfl rfl (by decide) (List.mem_of_getElem? (i := 2) rfl) dX4_erase_6 rfl (by first | rfl | simp [upf, sc]) ?_
  refine g_iconst F (pc' := 10) dX4_erase_9 rfl ?_
  refine g_isub F (pc' := 11) dX4_erase_10 rfl ?_
  refine g_callP F (pc' := 14) (st := []) (c4_isWithin l u 0 ((M 4 4) - 1) (by omega) (by omega) (by omega)) (va_cwS 3 F.2.2.2.2 gX4_erase_X4_isWithin rfl rfl rfl (by decide +kernel) ⟨Nat.le_of_ble_eq_true rfl, Nat.le_of_ble_eq_true rfl⟩) rfl rfl (Nat.le_of_ble_eq_true rfl) dX4_erase_11 rfl ?_
  refine g_if_ne F (pc' := 17) (tgt := 19) dX4_erase_14 rfl (by decide) (zC_R _) (fun c_14 => ?_) (fun c_14 => ?_)
  · skip
    have c_14 := zC_1 c_14
    refine g_aload_n F (pc' := 20) dX4_erase_19 rfl rfl ?_
    refine g_getR F K (k := 0) (fld := 1) (ci := 4) (q := 4) (pc' := 23) iX4_erase_X4 rfl rfl rfl (by decide) (List.mem_of_getElem? (i := 1) rfl) dX4_erase_20 rfl ?_
    refine g_iload_n F (pc' := 24) dX4_erase_23 rfl rfl ?_
    refine g_callV F K hXc X0 (pc' := 27) (st := []) (c1_remove l a M u hm (by omega)) (cwV 1 F.2.2.2.2 gX4_erase_X1_remove rfl rfl rfl (by decide +kernel) ⟨Nat.le_of_ble_eq_true rfl, Nat.le_of_ble_eq_true rfl⟩) rfl rfl rfl rfl (Nat.le_of_ble_eq_true rfl) dX4_erase_24 rfl (fun M_24 q_24 => ?_)
    subst q_24
    refine h_mem (sc (sc (sc (sc (sc M 4 (upf (M 4) 4 (M 4 4 - 1))) 5 (del1 (M 5) u (M 4 4 - 1))) 6 (del1 (M 6) u (M 4 4 - 1))) 7 (del1 (M 7) u (M 4 4 - 1))) 8 (del1 (M 8) u (M 4 4 - 1))) (by first | rfl | funext k' i'; simp only [sc, upf]; (repeat' split) <;> first | rfl | (exfalso; omega) | simp_all) ?_
    have hm1 : 0 ≤ M 4 4 - 1 ∧ M 4 4 - 1 ≤ 16 := by omega
    have ht1 := ht
    have h51 := del1_R (u := u) (k := M 4 4 - 1) h5
    have h61 := del1_R (u := u) (k := M 4 4 - 1) h6
    have h71 := del1_R (u := u) (k := M 4 4 - 1) h7
    have h81 := del1_R (u := u) (k := M 4 4 - 1) h8
    refine g_aload_n F (pc' := 28) dX4_erase_27 rfl rfl ?_
    refine g_callV F K hXc X0 (pc' := 31) (st := []) (c4_renew l a (sc (sc (sc (sc (sc M 4 (upf (M 4) 4 (M 4 4 - 1))) 5 (del1 (M 5) u (M 4 4 - 1))) 6 (del1 (M 6) u (M 4 4 - 1))) 7 (del1 (M 7) u (M 4 4 - 1))) 8 (del1 (M 8) u (M 4 4 - 1))) (by exact hm1) (by exact h51) (by exact h61) (by exact h71) (by exact h81) (by exact ht1)) (cwV 0 F.2.2.2.2 gX4_erase_X4_renew rfl rfl rfl (by decide +kernel) ⟨Nat.le_of_ble_eq_true rfl, Nat.le_of_ble_eq_true rfl⟩) rfl rfl rfl rfl (Nat.le_of_ble_eq_true rfl) dX4_erase_28 rfl (fun N q_28 => ?_)
    have hrn : rnQ (sc (sc (sc (sc (sc M 4 (upf (M 4) 4 (M 4 4 - 1))) 5 (del1 (M 5) u (M 4 4 - 1))) 6 (del1 (M 6) u (M 4 4 - 1))) 7 (del1 (M 7) u (M 4 4 - 1))) 8 (del1 (M 8) u (M 4 4 - 1))) N := q_28
    have hN := rn_4 hrn
    refine g_aload_n F (pc' := 32) dX4_erase_31 rfl rfl ?_
    refine g_getR F K (k := 0) (fld := 1) (ci := 4) (q := 4) (pc' := 35) iX4_erase_X4 rfl rfl rfl (by decide) (List.mem_of_getElem? (i := 1) rfl) dX4_erase_32 rfl ?_
    refine g_getI F K (k := 4) (fld := 4) (ci := 1) (z := N 4 4) (pc' := 38) iX4_erase_X1 rfl rfl rfl (by decide) (List.mem_of_getElem? (i := 2) rfl) dX4_erase_35 rfl (by first | rfl | simp [upf, sc]) ?_
    exact g_iret F hr hlk dX4_erase_38 (Or.inr ⟨c_14, hN, hrn⟩)
  · skip
    have c_14 := zC_0 c_14
    refine g_iconst F (pc' := 18) dX4_erase_17 rfl ?_
    exact g_iret F hr hlk dX4_erase_18 (Or.inl ⟨c_14, rfl, rfl⟩)

theorem iX4_rule_X0 : ∀ w ∈ wsX00, w ∈ wsX4_rule := fun _ h => List.mem_cons_of_mem _ (List.mem_append_right _ h)
theorem iX4_rule_X1 : ∀ w ∈ wsX10, w ∈ wsX4_rule := fun _ h => List.mem_cons_of_mem _ (List.mem_append_left _ (List.mem_append_left _ (List.mem_append_right _ h)))
theorem iX4_rule_X3 : ∀ w ∈ wsX30, w ∈ wsX4_rule := fun _ h => List.mem_cons_of_mem _ (List.mem_append_left _ (List.mem_append_right _ h))
theorem iX4_rule_X4 : ∀ w ∈ wsX40, w ∈ wsX4_rule := fun _ h => List.mem_cons_of_mem _ (List.mem_append_left _ (List.mem_append_left _ (List.mem_append_left _ (List.mem_append_right _ h))))
set_option maxHeartbeats 4000000 in
set_option maxRecDepth 100000 in
theorem c4_rule (l : Launch) (a : Nat → Nat) (M : Mem) (w n : Int) (hw : -2147483648 ≤ w ∧ w < 2147483648) (hnn : -2147483648 ≤ n ∧ n < 2147483648) (hm : 0 ≤ M 4 4 ∧ M 4 4 ≤ 16) (h5 : ∀ j, 0 ≤ M 5 j ∧ M 5 j ≤ 999) (h6 : ∀ j, 0 ≤ M 6 j ∧ M 6 j ≤ 999) (h7 : ∀ j, 0 ≤ M 7 j ∧ M 7 j ≤ 999) (h8 : ∀ j, 0 ≤ M 8 j ∧ M 8 j ≤ 999) (ht : 0 ≤ M 9 0 ∧ M 9 0 ≤ 99) : CtI XS l yX4_rule wsX4_rule ({ frames := 5, cells := 0, slots := 0, locals := 112 } : Room) LC a M [.ref (a 0), .int (iI w), .int (iI n)] (q4_rule M w n) := by
  refine CtI.of (y := yX4_rule) (cc := cX4_rule) (maxL := 4) (ret := (some .int)) (lv := [some (.ref (a 0)), some (.int (iI w)), some (.int (iI n)), none]) (by decide) rfl (Nat.le_of_ble_eq_true rfl) (lvOK_of _ _ ⟨rfl, rfl⟩) ?_
  intro p e s m below meth c D T F K X0 hr hlk
  have hXc := XS_c
  obtain ⟨-, ⟨t1, hZ1, hT1⟩, -⟩ := id X0
  refine g_iload_n F (pc' := 1) dX4_rule_0 rfl rfl ?_
  refine g_iconst F (pc' := 2) dX4_rule_1 rfl ?_
  refine g_iconst F (pc' := 3) dX4_rule_2 rfl ?_
  refine g_callP F (pc' := 6) (st := []) (c4_isWithin l w 0 4 (by omega) (by omega) (by omega)) (va_cwS 3 F.2.2.2.2 gX4_rule_X4_isWithin rfl rfl rfl (by decide +kernel) ⟨Nat.le_of_ble_eq_true rfl, Nat.le_of_ble_eq_true rfl⟩) rfl rfl (Nat.le_of_ble_eq_true rfl) dX4_rule_3 rfl ?_
  refine g_if_eq F (pc' := 9) (tgt := 22) dX4_rule_6 rfl (by decide) (zC_R _) (fun c_6 => ?_) (fun c_6 => ?_)
  · skip
    have c_6 := zC_0 c_6
    refine g_bipush F (pc' := 24) dX4_rule_22 rfl (by decide +kernel) ?_
    exact g_iret F hr hlk dX4_rule_24 (Or.inl ⟨by first | (intro q; exact c_6 q.1) | (intro q; exact c_19 q.2), rfl, rfl⟩)
  · skip
    have c_6 := zC_1 c_6
    refine g_iload_n F (pc' := 10) dX4_rule_9 rfl rfl ?_
    refine g_iconst F (pc' := 11) dX4_rule_10 rfl ?_
    refine g_gets F (pc' := 14) hZ1 (List.mem_of_getElem? (i := 1) rfl) dX4_rule_11 rfl ?_
    refine g_iload_n F (pc' := 15) dX4_rule_14 rfl rfl ?_
    refine g_ti F (v := rmx w) (pc' := 16) hT1 (by decide) (by omega) dX4_rule_15 rfl rfl ?_
    have hrm := rmx_R w
    refine g_callP F (pc' := 19) (st := []) (c4_isWithin l n 0 (rmx w) (by omega) (by omega) (by omega)) (va_cwS 3 F.2.2.2.2 gX4_rule_X4_isWithin rfl rfl rfl (by decide +kernel) ⟨Nat.le_of_ble_eq_true rfl, Nat.le_of_ble_eq_true rfl⟩) rfl rfl (Nat.le_of_ble_eq_true rfl) dX4_rule_16 rfl ?_
    refine g_if_ne F (pc' := 22) (tgt := 25) dX4_rule_19 rfl (by decide) (zC_R _) (fun c_19 => ?_) (fun c_19 => ?_)
    · skip
      have c_19 := zC_1 c_19
      refine g_aload_n F (pc' := 26) dX4_rule_25 rfl rfl ?_
      refine g_getR F K (k := 0) (fld := 1) (ci := 4) (q := 4) (pc' := 29) iX4_rule_X4 rfl rfl rfl (by decide) (List.mem_of_getElem? (i := 2) rfl) dX4_rule_26 rfl ?_
      refine g_getR F K (k := 4) (fld := 5) (ci := 1) (q := 9) (pc' := 32) iX4_rule_X1 rfl rfl rfl (by decide) (List.mem_of_getElem? (i := 3) rfl) dX4_rule_29 rfl ?_
      refine g_iload_n F (pc' := 33) dX4_rule_32 rfl rfl ?_
      refine g_iald F K (k := 9) (v := M 9 w) (pc' := 34) rfl (by decide) (by omega) dX4_rule_33 rfl (by first | rfl | simp [upf, sc]) ?_
      refine g_istore_n F (pc' := 35) (lv' := [some (.ref (a 0)), some (.int (iI w)), some (.int (iI n)), some (.int (iI (M 9 w)))]) dX4_rule_34 rfl (by decide) rfl ?_
      refine g_aload_n F (pc' := 36) dX4_rule_35 rfl rfl ?_
      refine g_getR F K (k := 0) (fld := 1) (ci := 4) (q := 4) (pc' := 39) iX4_rule_X4 rfl rfl rfl (by decide) (List.mem_of_getElem? (i := 2) rfl) dX4_rule_36 rfl ?_
      refine g_getR F K (k := 4) (fld := 5) (ci := 1) (q := 9) (pc' := 42) iX4_rule_X1 rfl rfl rfl (by decide) (List.mem_of_getElem? (i := 3) rfl) dX4_rule_39 rfl ?_
      refine g_iload_n F (pc' := 43) dX4_rule_42 rfl rfl ?_
      refine g_iload_n F (pc' := 44) dX4_rule_43 rfl rfl ?_
      refine h_iast F K (k := 9) (pc' := 45) (sc M 9 (upf (M 9) w n)) (mem_up (by rfl) (by intro j hj; simp only [sc, if_neg hj])) rfl (by decide) (by omega) dX4_rule_44 rfl ?_
      have hm1 := hm
      have ht1 := rule_R ht c_6 c_19
      have h51 := h5
      have h61 := h6
      have h71 := h7
      have h81 := h8
      refine g_aload_n F (pc' := 46) dX4_rule_45 rfl rfl ?_
      refine g_callV F K hXc X0 (pc' := 49) (st := []) (c4_renew l a (sc M 9 (upf (M 9) w n)) (by exact hm1) (by exact h51) (by exact h61) (by exact h71) (by exact h81) (by exact ht1)) (cwV 0 F.2.2.2.2 gX4_rule_X4_renew rfl rfl rfl (by decide +kernel) ⟨Nat.le_of_ble_eq_true rfl, Nat.le_of_ble_eq_true rfl⟩) rfl rfl rfl rfl (Nat.le_of_ble_eq_true rfl) dX4_rule_46 rfl (fun N q_46 => ?_)
      have hrn : rnQ (sc M 9 (upf (M 9) w n)) N := q_46
      refine g_iload_n F (pc' := 50) dX4_rule_49 rfl rfl ?_
      exact g_iret F hr hlk dX4_rule_50 (Or.inr ⟨⟨c_6, c_19⟩, rfl, hrn⟩)
    · skip
      have c_19 := zC_0 c_19
      refine g_bipush F (pc' := 24) dX4_rule_22 rfl (by decide +kernel) ?_
      exact g_iret F hr hlk dX4_rule_24 (Or.inl ⟨by first | (intro q; exact c_6 q.1) | (intro q; exact c_19 q.2), rfl, rfl⟩)

