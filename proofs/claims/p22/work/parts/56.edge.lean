/-! ===== the class: an edge comes ===== -/
theorem fl_pos {p : Int → Int} {n : Int} (h : fl p n = -6) : 0 < n := by
  by_cases q : pst p n
  · exact q.1
  · rw [fl_0 q] at h; exact absurd h (by decide)
theorem upf_R {g : Int → Int} {j z : Int} (h : ∀ j, 0 ≤ g j ∧ g j ≤ 999) (hz : 0 ≤ z ∧ z ≤ 999) : ∀ i, 0 ≤ upf g j z i ∧ upf g j z i ≤ 999 := by
  intro i
  unfold upf
  split
  · exact hz
  · exact h i
theorem upz_R (p : Int → Int) : 0 ≤ upz p ∧ upz p ≤ 999 := by
  unfold upz
  split <;> omega
def edA (M : Mem) (nu : Int → Int) : Mem := sc (sc (sc (sc (sc (sc (sc M 1 (upf (M 1) 1 0)) 3 nu) 4 (upf (M 4) 4 (M 4 4 + 1))) 5 (upf (M 5) (M 4 4) (upz (M 2)))) 6 (upf (M 6) (M 4 4) (nu 0))) 7 (upf (M 7) (M 4 4) (nu 1))) 8 (upf (M 8) (M 4 4) (nu 2))
def q4_edge (M : Mem) : Int → Mem → Prop := fun z M' => (fl (M 2) (M 1 1) ≠ -6 ∧ z = -5 ∧ ∃ nu, M' = sc M 3 nu) ∨ (fl (M 2) (M 1 1) = -6 ∧ 16 ≤ M 4 4 ∧ z = -4 ∧ ∃ nu, M' = sc M 3 nu) ∨ (fl (M 2) (M 1 1) = -6 ∧ M 4 4 < 16 ∧ z = M 4 4 + 1 ∧ ∃ nu : Int → Int, (nu 0 = pv1 (M 2) (M 1 1) ∧ nu 1 = pv2 (M 2) (M 1 1) ∧ nu 2 = pv3 (M 2) (M 1 1)) ∧ rnQ (edA M nu) M')
theorem cpr_at {f g : Int → Int} {o z i : Int} (h : 0 ≤ i ∧ i < z) : cpr f g o z i = g (o + i) := by
  unfold cpr
  rw [if_pos h]
theorem cpr_R {f g : Int → Int} {o z : Int} (h : ∀ j, 0 ≤ f j ∧ f j ≤ 999) (h2 : ∀ j, 0 ≤ g j ∧ g j ≤ 999) : ∀ j, 0 ≤ cpr f g o z j ∧ cpr f g o z j ≤ 999 := by
  intro j
  unfold cpr
  split
  · exact h2 _
  · exact h _
theorem iX4_edge_X0 : ∀ w ∈ wsX00, w ∈ wsX4_edge := fun _ h => List.mem_cons_of_mem _ (List.mem_append_right _ h)
theorem iX4_edge_X1 : ∀ w ∈ wsX10, w ∈ wsX4_edge := fun _ h => List.mem_cons_of_mem _ (List.mem_append_left _ (List.mem_append_left _ (List.mem_append_left _ (List.mem_append_right _ h))))
theorem iX4_edge_X2 : ∀ w ∈ wsX20, w ∈ wsX4_edge := fun _ h => List.mem_cons_of_mem _ (List.mem_append_left _ (List.mem_append_left _ (List.mem_append_right _ h)))
theorem iX4_edge_X3 : ∀ w ∈ wsX30, w ∈ wsX4_edge := fun _ h => List.mem_cons_of_mem _ (List.mem_append_left _ (List.mem_append_right _ h))
theorem iX4_edge_X4 : ∀ w ∈ wsX40, w ∈ wsX4_edge := fun _ h => List.mem_cons_of_mem _ (List.mem_append_left _ (List.mem_append_left _ (List.mem_append_left _ (List.mem_append_left _ (List.mem_append_right _ h)))))
set_option maxHeartbeats 4000000 in
set_option maxRecDepth 100000 in
theorem c4_edge (l : Launch) (a : Nat → Nat) (M : Mem) (hn : 0 ≤ M 1 1 ∧ M 1 1 ≤ 30) (hP : ∀ j, 0 ≤ M 2 j ∧ M 2 j ≤ 126) (hm : 0 ≤ M 4 4 ∧ M 4 4 ≤ 16) (h5 : ∀ j, 0 ≤ M 5 j ∧ M 5 j ≤ 999) (h6 : ∀ j, 0 ≤ M 6 j ∧ M 6 j ≤ 999) (h7 : ∀ j, 0 ≤ M 7 j ∧ M 7 j ≤ 999) (h8 : ∀ j, 0 ≤ M 8 j ∧ M 8 j ≤ 999) (ht : 0 ≤ M 9 0 ∧ M 9 0 ≤ 99) : CtI XS l yX4_edge wsX4_edge ({ frames := 5, cells := 0, slots := 0, locals := 112 } : Room) LC a M [.ref (a 0)] (q4_edge M) := by
  refine CtI.of (y := yX4_edge) (cc := cX4_edge) (maxL := 1) (ret := (some .int)) (lv := [some (.ref (a 0))]) (by decide) rfl (Nat.le_of_ble_eq_true rfl) (lvOK_of _ _ ⟨rfl, rfl⟩) ?_
  intro p e s m below meth c D T F K X0 hr hlk
  have hXc := XS_c
  refine g_aload_n F (pc' := 1) dX4_edge_0 rfl rfl ?_
  refine g_getR F K (k := 0) (fld := 0) (ci := 4) (q := 1) (pc' := 4) iX4_edge_X4 rfl rfl rfl (by decide) (List.mem_of_getElem? (i := 1) rfl) dX4_edge_1 rfl ?_
  refine g_callI F K hXc X0 (pc' := 7) (st := []) (c2_read l a M hn hP) (cwV 0 F.2.2.2.2 gX4_edge_X2_read rfl rfl rfl (by decide +kernel) ⟨Nat.le_of_ble_eq_true rfl, Nat.le_of_ble_eq_true rfl⟩) rfl rfl rfl rfl (Nat.le_of_ble_eq_true rfl) dX4_edge_4 rfl (fun z_4 M_4 q_4 => ?_)
  obtain ⟨nu, rfl, hz9, hnu⟩ := q_4
  have hfB := fl_B (p := M 2) hn
  refine h_mem (sc M 3 nu) (by first | rfl | funext k' i'; simp only [sc, upf]; (repeat' split) <;> first | rfl | (exfalso; omega) | simp_all) ?_
  refine g_bipush F (pc' := 9) dX4_edge_7 rfl (by decide +kernel) ?_
  refine g_icmp_eq F (pc' := 12) (tgt := 15) dX4_edge_9 rfl (by decide) (by omega) (by decide) (fun c_9 => ?_) (fun c_9 => ?_)
  · skip
    have hpp := fl_pos (show fl (M 2) (M 1 1) = -6 by omega)
    obtain ⟨n0, n1, n2⟩ := hnu (by omega)
    refine g_aload_n F (pc' := 16) dX4_edge_15 rfl rfl ?_
    refine g_getR F K (k := 0) (fld := 1) (ci := 4) (q := 4) (pc' := 19) iX4_edge_X4 rfl rfl rfl (by decide) (List.mem_of_getElem? (i := 2) rfl) dX4_edge_16 rfl ?_
    refine g_aload_n F (pc' := 20) dX4_edge_19 rfl rfl ?_
    refine g_getR F K (k := 0) (fld := 0) (ci := 4) (q := 1) (pc' := 23) iX4_edge_X4 rfl rfl rfl (by decide) (List.mem_of_getElem? (i := 1) rfl) dX4_edge_20 rfl ?_
    refine g_callI F K hXc X0 (pc' := 26) (st := []) (c1_add l a (sc M 3 nu) (by exact hm) (by exact hn) (by exact hP) (by exact hpp)) (cwV 1 F.2.2.2.2 gX4_edge_X1_add rfl rfl rfl (by decide +kernel) ⟨Nat.le_of_ble_eq_true rfl, Nat.le_of_ble_eq_true rfl⟩) rfl rfl rfl rfl (Nat.le_of_ble_eq_true rfl) dX4_edge_23 rfl (fun z_23 M_23 q_23 => ?_)
    rcases q_23 with ⟨ca, rfl, rfl⟩ | ⟨ca, rfl, rfl⟩
    · skip
      refine g_if_ne F (pc' := 29) (tgt := 32) dX4_edge_26 rfl (by decide) (by decide) (fun c_26 => ?_) (fun c_26 => ?_)
      · skip
        exact absurd c_26 (by decide)
      · skip
        refine g_bipush F (pc' := 31) dX4_edge_29 rfl (by decide +kernel) ?_
        exact g_iret F hr hlk dX4_edge_31 (Or.inr (Or.inl ⟨by omega, ca, rfl, nu, rfl⟩))
    · skip
      refine h_mem (sc (sc (sc (sc (sc (sc M 3 nu) 4 (upf (M 4) 4 (M 4 4 + 1))) 5 (upf (M 5) (M 4 4) (upz (M 2)))) 6 (upf (M 6) (M 4 4) (nu 0))) 7 (upf (M 7) (M 4 4) (nu 1))) 8 (upf (M 8) (M 4 4) (nu 2))) (by first | rfl | funext k' i'; simp only [sc, upf]; (repeat' split) <;> first | rfl | (exfalso; omega) | simp_all) ?_
      refine g_if_ne F (pc' := 29) (tgt := 32) dX4_edge_26 rfl (by decide) (by decide) (fun c_26 => ?_) (fun c_26 => ?_)
      · skip
        refine g_aload_n F (pc' := 33) dX4_edge_32 rfl rfl ?_
        refine g_getR F K (k := 0) (fld := 0) (ci := 4) (q := 1) (pc' := 36) iX4_edge_X4 rfl rfl rfl (by decide) (List.mem_of_getElem? (i := 1) rfl) dX4_edge_33 rfl ?_
        refine g_callV F K hXc X0 (pc' := 39) (st := []) (c2_clear l a (sc (sc (sc (sc (sc (sc M 3 nu) 4 (upf (M 4) 4 (M 4 4 + 1))) 5 (upf (M 5) (M 4 4) (upz (M 2)))) 6 (upf (M 6) (M 4 4) (nu 0))) 7 (upf (M 7) (M 4 4) (nu 1))) 8 (upf (M 8) (M 4 4) (nu 2)))) (cwV 0 F.2.2.2.2 gX4_edge_X2_clear rfl rfl rfl (by decide +kernel) ⟨Nat.le_of_ble_eq_true rfl, Nat.le_of_ble_eq_true rfl⟩) rfl rfl rfl rfl (Nat.le_of_ble_eq_true rfl) dX4_edge_36 rfl (fun M_36 q_36 => ?_)
        subst q_36
        refine h_mem (sc (sc (sc (sc (sc (sc (sc M 1 (upf (M 1) 1 0)) 3 nu) 4 (upf (M 4) 4 (M 4 4 + 1))) 5 (upf (M 5) (M 4 4) (upz (M 2)))) 6 (upf (M 6) (M 4 4) (nu 0))) 7 (upf (M 7) (M 4 4) (nu 1))) 8 (upf (M 8) (M 4 4) (nu 2))) (by first | rfl | funext k' i'; simp only [sc, upf]; (repeat' split) <;> first | rfl | (exfalso; omega) | simp_all) ?_
        have ca2 : M 4 4 < 16 := ca
        have hm1 : 0 ≤ M 4 4 + 1 ∧ M 4 4 + 1 ≤ 16 := by omega
        have ht1 := ht
        have h51 := upf_R h5 (j := M 4 4) (upz_R (M 2))
        have h61 := upf_R h6 (j := M 4 4) (z := nu 0) (by rw [n0]; exact vI_fg _ _ _)
        have h71 := upf_R h7 (j := M 4 4) (z := nu 1) (by rw [n1]; exact vI_fg _ _ _)
        have h81 := upf_R h8 (j := M 4 4) (z := nu 2) (by rw [n2]; exact vI_fg _ _ _)
        refine g_aload_n F (pc' := 40) dX4_edge_39 rfl rfl ?_
        refine g_callV F K hXc X0 (pc' := 43) (st := []) (c4_renew l a (sc (sc (sc (sc (sc (sc (sc M 1 (upf (M 1) 1 0)) 3 nu) 4 (upf (M 4) 4 (M 4 4 + 1))) 5 (upf (M 5) (M 4 4) (upz (M 2)))) 6 (upf (M 6) (M 4 4) (nu 0))) 7 (upf (M 7) (M 4 4) (nu 1))) 8 (upf (M 8) (M 4 4) (nu 2))) (by exact hm1) (by exact h51) (by exact h61) (by exact h71) (by exact h81) (by exact ht1)) (cwV 0 F.2.2.2.2 gX4_edge_X4_renew rfl rfl rfl (by decide +kernel) ⟨Nat.le_of_ble_eq_true rfl, Nat.le_of_ble_eq_true rfl⟩) rfl rfl rfl rfl (Nat.le_of_ble_eq_true rfl) dX4_edge_40 rfl (fun N q_40 => ?_)
        have hrn : rnQ (sc (sc (sc (sc (sc (sc (sc M 1 (upf (M 1) 1 0)) 3 nu) 4 (upf (M 4) 4 (M 4 4 + 1))) 5 (upf (M 5) (M 4 4) (upz (M 2)))) 6 (upf (M 6) (M 4 4) (nu 0))) 7 (upf (M 7) (M 4 4) (nu 1))) 8 (upf (M 8) (M 4 4) (nu 2))) N := q_40
        have hN := rn_4 hrn
        refine g_aload_n F (pc' := 44) dX4_edge_43 rfl rfl ?_
        refine g_getR F K (k := 0) (fld := 1) (ci := 4) (q := 4) (pc' := 47) iX4_edge_X4 rfl rfl rfl (by decide) (List.mem_of_getElem? (i := 2) rfl) dX4_edge_44 rfl ?_
        refine g_getI F K (k := 4) (fld := 4) (ci := 1) (z := N 4 4) (pc' := 50) iX4_edge_X1 rfl rfl rfl (by decide) (List.mem_of_getElem? (i := 3) rfl) dX4_edge_47 rfl (by first | rfl | simp [upf, sc]) ?_
        exact g_iret F hr hlk dX4_edge_50 (Or.inr (Or.inr ⟨by omega, by omega, hN, nu, ⟨n0, n1, n2⟩, hrn⟩))
      · skip
        exact absurd c_26 (by decide)
  · skip
    refine g_bipush F (pc' := 14) dX4_edge_12 rfl (by decide +kernel) ?_
    exact g_iret F hr hlk dX4_edge_14 (Or.inl ⟨by omega, rfl, nu, rfl⟩)

theorem iX4_image_X1 : ∀ w ∈ wsX10, w ∈ wsX4_image := fun _ h => List.mem_cons_of_mem _ (List.mem_append_right _ h)
theorem iX4_image_X4 : ∀ w ∈ wsX40, w ∈ wsX4_image := fun _ h => List.mem_cons_of_mem _ (List.mem_append_left _ (List.mem_append_right _ h))
set_option maxHeartbeats 4000000 in
set_option maxRecDepth 100000 in
theorem c4_image_0 (l : Launch) (a : Nat → Nat) (M : Mem) : CtI XS l yX4_image wsX4_image ({ frames := 2, cells := 0, slots := 0, locals := 39 } : Room) LC a M [.ref (a 0), .int (iI 0)] (fun z M' => z = 1 ∧ M' = sc (takeM M 10 4) 23 (upf (M 23) 0 1)) := by
  refine CtI.of (y := yX4_image) (cc := cX4_image) (maxL := 2) (ret := (some .int)) (lv := [some (.ref (a 0)), some (.int (iI 0))]) (by decide) rfl (Nat.le_of_ble_eq_true rfl) (lvOK_of _ _ ⟨rfl, rfl⟩) ?_
  intro p e s m below meth c D T F K X0 hr hlk
  have hXc := XS_c
  refine g_iload_n F (pc' := 1) dX4_image_0 rfl rfl ?_
  refine g_iconst F (pc' := 2) dX4_image_1 rfl ?_
  refine g_iconst F (pc' := 3) dX4_image_2 rfl ?_
  refine g_callP F (pc' := 6) (st := []) (c4_isWithin l 0 0 1 (by omega) (by omega) (by omega)) (va_cwS 3 F.2.2.2.2 gX4_image_X4_isWithin rfl rfl rfl (by decide +kernel) ⟨Nat.le_of_ble_eq_true rfl, Nat.le_of_ble_eq_true rfl⟩) rfl rfl (Nat.le_of_ble_eq_true rfl) dX4_image_3 rfl ?_
  refine g_if_ne F (pc' := 9) (tgt := 12) dX4_image_6 rfl (by decide) (zC_R _) (fun c_6 => ?_) (fun c_6 => ?_)
  · skip
    have c_6 := zC_1 c_6
    refine g_aload_n F (pc' := 13) dX4_image_12 rfl rfl ?_
    refine g_getR F K (k := 0) (fld := 2) (ci := 4) (q := 22) (pc' := 16) iX4_image_X4 rfl rfl rfl (by decide) (List.mem_of_getElem? (i := 1) rfl) dX4_image_13 rfl ?_
    refine g_iload_n F (pc' := 17) dX4_image_16 rfl rfl ?_
    refine g_aald F K (k := 22) (q := 10) (pc' := 18) rfl (by decide) (by omega) rfl dX4_image_17 rfl ?_
    refine g_aload_n F (pc' := 19) dX4_image_18 rfl rfl ?_
    refine g_getR F K (k := 0) (fld := 1) (ci := 4) (q := 4) (pc' := 22) iX4_image_X4 rfl rfl rfl (by decide) (List.mem_of_getElem? (i := 2) rfl) dX4_image_19 rfl ?_
    refine g_callV F K hXc X0 (pc' := 25) (st := []) (c1_take_10_4 l a M) (cwV 1 F.2.2.2.2 gX4_image_X1_take rfl rfl rfl (by decide +kernel) ⟨Nat.le_of_ble_eq_true rfl, Nat.le_of_ble_eq_true rfl⟩) rfl rfl rfl rfl (Nat.le_of_ble_eq_true rfl) dX4_image_22 rfl (fun M_22 q_22 => ?_)
    subst q_22
    refine h_mem (sc (sc (sc (sc (sc (sc M 10 (upf (M 10) 4 (M 4 4))) 11 (cpr (M 11) (M 5) 0 16)) 12 (cpr (M 12) (M 6) 0 16)) 13 (cpr (M 13) (M 7) 0 16)) 14 (cpr (M 14) (M 8) 0 16)) 15 (cpr (M 15) (M 9) 0 5)) (by first | rfl | funext k' i'; simp only [sc, upf]; (repeat' split) <;> first | rfl | (exfalso; omega) | simp_all) ?_
    refine g_aload_n F (pc' := 26) dX4_image_25 rfl rfl ?_
    refine g_getR F K (k := 0) (fld := 3) (ci := 4) (q := 23) (pc' := 29) iX4_image_X4 rfl rfl rfl (by decide) (List.mem_of_getElem? (i := 3) rfl) dX4_image_26 rfl ?_
    refine g_iload_n F (pc' := 30) dX4_image_29 rfl rfl ?_
    refine g_iconst F (pc' := 31) dX4_image_30 rfl ?_
    refine h_zast F K (k := 23) (pc' := 32) (sc (sc (sc (sc (sc (sc (sc M 10 (upf (M 10) 4 (M 4 4))) 11 (cpr (M 11) (M 5) 0 16)) 12 (cpr (M 12) (M 6) 0 16)) 13 (cpr (M 13) (M 7) 0 16)) 14 (cpr (M 14) (M 8) 0 16)) 15 (cpr (M 15) (M 9) 0 5)) 23 (upf (M 23) 0 1)) (mem_up (by rfl) (by intro j hj; simp only [sc, if_neg hj])) rfl (by decide) (by decide) (by omega) dX4_image_31 rfl ?_
    refine g_iconst F (pc' := 33) dX4_image_32 rfl ?_
    exact g_iret F hr hlk dX4_image_33 (⟨rfl, rfl⟩)
  · skip
    have c_6 := zC_0 c_6
    refine g_bipush F (pc' := 11) dX4_image_9 rfl (by decide +kernel) ?_
    exact g_iret F hr hlk dX4_image_11 (⟨by exfalso; omega, by exfalso; omega⟩)

set_option maxHeartbeats 4000000 in
set_option maxRecDepth 100000 in
theorem c4_image_1 (l : Launch) (a : Nat → Nat) (M : Mem) : CtI XS l yX4_image wsX4_image ({ frames := 2, cells := 0, slots := 0, locals := 39 } : Room) LC a M [.ref (a 0), .int (iI 1)] (fun z M' => z = 1 ∧ M' = sc (takeM M 16 4) 23 (upf (M 23) 1 1)) := by
  refine CtI.of (y := yX4_image) (cc := cX4_image) (maxL := 2) (ret := (some .int)) (lv := [some (.ref (a 0)), some (.int (iI 1))]) (by decide) rfl (Nat.le_of_ble_eq_true rfl) (lvOK_of _ _ ⟨rfl, rfl⟩) ?_
  intro p e s m below meth c D T F K X0 hr hlk
  have hXc := XS_c
  refine g_iload_n F (pc' := 1) dX4_image_0 rfl rfl ?_
  refine g_iconst F (pc' := 2) dX4_image_1 rfl ?_
  refine g_iconst F (pc' := 3) dX4_image_2 rfl ?_
  refine g_callP F (pc' := 6) (st := []) (c4_isWithin l 1 0 1 (by omega) (by omega) (by omega)) (va_cwS 3 F.2.2.2.2 gX4_image_X4_isWithin rfl rfl rfl (by decide +kernel) ⟨Nat.le_of_ble_eq_true rfl, Nat.le_of_ble_eq_true rfl⟩) rfl rfl (Nat.le_of_ble_eq_true rfl) dX4_image_3 rfl ?_
  refine g_if_ne F (pc' := 9) (tgt := 12) dX4_image_6 rfl (by decide) (zC_R _) (fun c_6 => ?_) (fun c_6 => ?_)
  · skip
    have c_6 := zC_1 c_6
    refine g_aload_n F (pc' := 13) dX4_image_12 rfl rfl ?_
    refine g_getR F K (k := 0) (fld := 2) (ci := 4) (q := 22) (pc' := 16) iX4_image_X4 rfl rfl rfl (by decide) (List.mem_of_getElem? (i := 1) rfl) dX4_image_13 rfl ?_
    refine g_iload_n F (pc' := 17) dX4_image_16 rfl rfl ?_
    refine g_aald F K (k := 22) (q := 16) (pc' := 18) rfl (by decide) (by omega) rfl dX4_image_17 rfl ?_
    refine g_aload_n F (pc' := 19) dX4_image_18 rfl rfl ?_
    refine g_getR F K (k := 0) (fld := 1) (ci := 4) (q := 4) (pc' := 22) iX4_image_X4 rfl rfl rfl (by decide) (List.mem_of_getElem? (i := 2) rfl) dX4_image_19 rfl ?_
    refine g_callV F K hXc X0 (pc' := 25) (st := []) (c1_take_16_4 l a M) (cwV 1 F.2.2.2.2 gX4_image_X1_take rfl rfl rfl (by decide +kernel) ⟨Nat.le_of_ble_eq_true rfl, Nat.le_of_ble_eq_true rfl⟩) rfl rfl rfl rfl (Nat.le_of_ble_eq_true rfl) dX4_image_22 rfl (fun M_22 q_22 => ?_)
    subst q_22
    refine h_mem (sc (sc (sc (sc (sc (sc M 16 (upf (M 16) 4 (M 4 4))) 17 (cpr (M 17) (M 5) 0 16)) 18 (cpr (M 18) (M 6) 0 16)) 19 (cpr (M 19) (M 7) 0 16)) 20 (cpr (M 20) (M 8) 0 16)) 21 (cpr (M 21) (M 9) 0 5)) (by first | rfl | funext k' i'; simp only [sc, upf]; (repeat' split) <;> first | rfl | (exfalso; omega) | simp_all) ?_
    refine g_aload_n F (pc' := 26) dX4_image_25 rfl rfl ?_
    refine g_getR F K (k := 0) (fld := 3) (ci := 4) (q := 23) (pc' := 29) iX4_image_X4 rfl rfl rfl (by decide) (List.mem_of_getElem? (i := 3) rfl) dX4_image_26 rfl ?_
    refine g_iload_n F (pc' := 30) dX4_image_29 rfl rfl ?_
    refine g_iconst F (pc' := 31) dX4_image_30 rfl ?_
    refine h_zast F K (k := 23) (pc' := 32) (sc (sc (sc (sc (sc (sc (sc M 16 (upf (M 16) 4 (M 4 4))) 17 (cpr (M 17) (M 5) 0 16)) 18 (cpr (M 18) (M 6) 0 16)) 19 (cpr (M 19) (M 7) 0 16)) 20 (cpr (M 20) (M 8) 0 16)) 21 (cpr (M 21) (M 9) 0 5)) 23 (upf (M 23) 1 1)) (mem_up (by rfl) (by intro j hj; simp only [sc, if_neg hj])) rfl (by decide) (by decide) (by omega) dX4_image_31 rfl ?_
    refine g_iconst F (pc' := 33) dX4_image_32 rfl ?_
    exact g_iret F hr hlk dX4_image_33 (⟨rfl, rfl⟩)
  · skip
    have c_6 := zC_0 c_6
    refine g_bipush F (pc' := 11) dX4_image_9 rfl (by decide +kernel) ?_
    exact g_iret F hr hlk dX4_image_11 (⟨by exfalso; omega, by exfalso; omega⟩)

set_option maxHeartbeats 4000000 in
set_option maxRecDepth 100000 in
theorem c4_image_n (l : Launch) (a : Nat → Nat) (M : Mem) (n : Int) (hn : -2147483648 ≤ n ∧ n < 2147483648) (hno : ¬ (0 ≤ n ∧ n ≤ 1)) : CtI XS l yX4_image wsX4_image ({ frames := 1, cells := 0, slots := 0, locals := 22 } : Room) LC a M [.ref (a 0), .int (iI n)] (fun z M' => z = -2 ∧ M' = M) := by
  refine CtI.of (y := yX4_image) (cc := cX4_image) (maxL := 2) (ret := (some .int)) (lv := [some (.ref (a 0)), some (.int (iI n))]) (by decide) rfl (Nat.le_of_ble_eq_true rfl) (lvOK_of _ _ ⟨rfl, rfl⟩) ?_
  intro p e s m below meth c D T F K X0 hr hlk
  have hXc := XS_c
  refine g_iload_n F (pc' := 1) dX4_image_0 rfl rfl ?_
  refine g_iconst F (pc' := 2) dX4_image_1 rfl ?_
  refine g_iconst F (pc' := 3) dX4_image_2 rfl ?_
  refine g_callP F (pc' := 6) (st := []) (c4_isWithin l n 0 1 (by omega) (by omega) (by omega)) (va_cwS 3 F.2.2.2.2 gX4_image_X4_isWithin rfl rfl rfl (by decide +kernel) ⟨Nat.le_of_ble_eq_true rfl, Nat.le_of_ble_eq_true rfl⟩) rfl rfl (Nat.le_of_ble_eq_true rfl) dX4_image_3 rfl ?_
  refine g_if_ne F (pc' := 9) (tgt := 12) dX4_image_6 rfl (by decide) (zC_R _) (fun c_6 => ?_) (fun c_6 => ?_)
  · skip
    have c_6 := zC_1 c_6
    exfalso; omega
  · skip
    have c_6 := zC_0 c_6
    refine g_bipush F (pc' := 11) dX4_image_9 rfl (by decide +kernel) ?_
    exact g_iret F hr hlk dX4_image_11 (⟨rfl, rfl⟩)

theorem iX4_restore_X0 : ∀ w ∈ wsX00, w ∈ wsX4_restore := fun _ h => List.mem_cons_of_mem _ (List.mem_append_right _ h)
theorem iX4_restore_X1 : ∀ w ∈ wsX10, w ∈ wsX4_restore := fun _ h => List.mem_cons_of_mem _ (List.mem_append_left _ (List.mem_append_left _ (List.mem_append_right _ h)))
theorem iX4_restore_X3 : ∀ w ∈ wsX30, w ∈ wsX4_restore := fun _ h => List.mem_cons_of_mem _ (List.mem_append_left _ (List.mem_append_right _ h))
theorem iX4_restore_X4 : ∀ w ∈ wsX40, w ∈ wsX4_restore := fun _ h => List.mem_cons_of_mem _ (List.mem_append_left _ (List.mem_append_left _ (List.mem_append_left _ (List.mem_append_right _ h))))
set_option maxHeartbeats 4000000 in
set_option maxRecDepth 100000 in
theorem c4_restore_n (l : Launch) (a : Nat → Nat) (M : Mem) (n : Int) (hn : -2147483648 ≤ n ∧ n < 2147483648) (hno : ¬ (0 ≤ n ∧ n ≤ 1)) : CtI XS l yX4_restore wsX4_restore ({ frames := 1, cells := 0, slots := 0, locals := 22 } : Room) LC a M [.ref (a 0), .int (iI n)] (fun z M' => z = -2 ∧ M' = M) := by
  refine CtI.of (y := yX4_restore) (cc := cX4_restore) (maxL := 2) (ret := (some .int)) (lv := [some (.ref (a 0)), some (.int (iI n))]) (by decide) rfl (Nat.le_of_ble_eq_true rfl) (lvOK_of _ _ ⟨rfl, rfl⟩) ?_
  intro p e s m below meth c D T F K X0 hr hlk
  have hXc := XS_c
  refine g_iload_n F (pc' := 1) dX4_restore_0 rfl rfl ?_
  refine g_iconst F (pc' := 2) dX4_restore_1 rfl ?_
  refine g_iconst F (pc' := 3) dX4_restore_2 rfl ?_
  refine g_callP F (pc' := 6) (st := []) (c4_isWithin l n 0 1 (by omega) (by omega) (by omega)) (va_cwS 3 F.2.2.2.2 gX4_restore_X4_isWithin rfl rfl rfl (by decide +kernel) ⟨Nat.le_of_ble_eq_true rfl, Nat.le_of_ble_eq_true rfl⟩) rfl rfl (Nat.le_of_ble_eq_true rfl) dX4_restore_3 rfl ?_
  refine g_if_ne F (pc' := 9) (tgt := 12) dX4_restore_6 rfl (by decide) (zC_R _) (fun c_6 => ?_) (fun c_6 => ?_)
  · skip
    have c_6 := zC_1 c_6
    exfalso; omega
  · skip
    have c_6 := zC_0 c_6
    refine g_bipush F (pc' := 11) dX4_restore_9 rfl (by decide +kernel) ?_
    exact g_iret F hr hlk dX4_restore_11 (⟨rfl, rfl⟩)

set_option maxHeartbeats 4000000 in
set_option maxRecDepth 100000 in
theorem c4_restore_0 (l : Launch) (a : Nat → Nat) (M : Mem) (hk : 0 ≤ M 23 0 ∧ M 23 0 ≤ 1) (hm : 0 ≤ M 10 4 ∧ M 10 4 ≤ 16) (h5 : ∀ j, 0 ≤ M 11 j ∧ M 11 j ≤ 999) (h6 : ∀ j, 0 ≤ M 12 j ∧ M 12 j ≤ 999) (h7 : ∀ j, 0 ≤ M 13 j ∧ M 13 j ≤ 999) (h8 : ∀ j, 0 ≤ M 14 j ∧ M 14 j ≤ 999) (ht : 0 ≤ M 15 0 ∧ M 15 0 ≤ 99) (hL5 : ∀ j, 0 ≤ M 5 j ∧ M 5 j ≤ 999) (hL6 : ∀ j, 0 ≤ M 6 j ∧ M 6 j ≤ 999) (hL7 : ∀ j, 0 ≤ M 7 j ∧ M 7 j ≤ 999) (hL8 : ∀ j, 0 ≤ M 8 j ∧ M 8 j ≤ 999) : CtI XS l yX4_restore wsX4_restore ({ frames := 5, cells := 0, slots := 0, locals := 112 } : Room) LC a M [.ref (a 0), .int (iI 0)] (fun z M' => (M 23 0 = 0 ∧ z = -3 ∧ M' = M) ∨ (M 23 0 ≠ 0 ∧ z = 1 ∧ rnQ (takeM M 4 10) M')) := by
  refine CtI.of (y := yX4_restore) (cc := cX4_restore) (maxL := 2) (ret := (some .int)) (lv := [some (.ref (a 0)), some (.int (iI 0))]) (by decide) rfl (Nat.le_of_ble_eq_true rfl) (lvOK_of _ _ ⟨rfl, rfl⟩) ?_
  intro p e s m below meth c D T F K X0 hr hlk
  have hXc := XS_c
  refine g_iload_n F (pc' := 1) dX4_restore_0 rfl rfl ?_
  refine g_iconst F (pc' := 2) dX4_restore_1 rfl ?_
  refine g_iconst F (pc' := 3) dX4_restore_2 rfl ?_
  refine g_callP F (pc' := 6) (st := []) (c4_isWithin l 0 0 1 (by omega) (by omega) (by omega)) (va_cwS 3 F.2.2.2.2 gX4_restore_X4_isWithin rfl rfl rfl (by decide +kernel) ⟨Nat.le_of_ble_eq_true rfl, Nat.le_of_ble_eq_true rfl⟩) rfl rfl (Nat.le_of_ble_eq_true rfl) dX4_restore_3 rfl ?_
  refine g_if_ne F (pc' := 9) (tgt := 12) dX4_restore_6 rfl (by decide) (zC_R _) (fun c_6 => ?_) (fun c_6 => ?_)
  · skip
    have c_6 := zC_1 c_6
    refine g_aload_n F (pc' := 13) dX4_restore_12 rfl rfl ?_
    refine g_getR F K (k := 0) (fld := 3) (ci := 4) (q := 23) (pc' := 16) iX4_restore_X4 rfl rfl rfl (by decide) (List.mem_of_getElem? (i := 1) rfl) dX4_restore_13 rfl ?_
    refine g_iload_n F (pc' := 17) dX4_restore_16 rfl rfl ?_
    refine g_zald F K (k := 23) (v := M 23 0) (pc' := 18) rfl (by decide) (by decide) dX4_restore_17 rfl (by first | rfl | simp [upf, sc]) ?_
    refine g_if_ne F (pc' := 21) (tgt := 24) dX4_restore_18 rfl (by decide) (by omega) (fun c_18 => ?_) (fun c_18 => ?_)
    · skip
      refine g_aload_n F (pc' := 25) dX4_restore_24 rfl rfl ?_
      refine g_getR F K (k := 0) (fld := 1) (ci := 4) (q := 4) (pc' := 28) iX4_restore_X4 rfl rfl rfl (by decide) (List.mem_of_getElem? (i := 2) rfl) dX4_restore_25 rfl ?_
      refine g_aload_n F (pc' := 29) dX4_restore_28 rfl rfl ?_
      refine g_getR F K (k := 0) (fld := 2) (ci := 4) (q := 22) (pc' := 32) iX4_restore_X4 rfl rfl rfl (by decide) (List.mem_of_getElem? (i := 3) rfl) dX4_restore_29 rfl ?_
      refine g_iload_n F (pc' := 33) dX4_restore_32 rfl rfl ?_
      refine g_aald F K (k := 22) (q := 10) (pc' := 34) rfl (by decide) (by omega) rfl dX4_restore_33 rfl ?_
      refine g_callV F K hXc X0 (pc' := 37) (st := []) (c1_take_4_10 l a M) (cwV 1 F.2.2.2.2 gX4_restore_X1_take rfl rfl rfl (by decide +kernel) ⟨Nat.le_of_ble_eq_true rfl, Nat.le_of_ble_eq_true rfl⟩) rfl rfl rfl rfl (Nat.le_of_ble_eq_true rfl) dX4_restore_34 rfl (fun M_34 q_34 => ?_)
      subst q_34
      refine h_mem (sc (sc (sc (sc (sc (sc M 4 (upf (M 4) 4 (M 10 4))) 5 (cpr (M 5) (M 11) 0 16)) 6 (cpr (M 6) (M 12) 0 16)) 7 (cpr (M 7) (M 13) 0 16)) 8 (cpr (M 8) (M 14) 0 16)) 9 (cpr (M 9) (M 15) 0 5)) (by first | rfl | funext k' i'; simp only [sc, upf]; (repeat' split) <;> first | rfl | (exfalso; omega) | simp_all) ?_
      have hm1 := hm
      have ht1 : 0 ≤ cpr (M 9) (M 15) 0 5 0 ∧ cpr (M 9) (M 15) 0 5 0 ≤ 99 := by rw [cpr_at (by decide)]; exact ht
      have h51 : ∀ j, 0 ≤ cpr (M 5) (M 11) 0 16 j ∧ cpr (M 5) (M 11) 0 16 j ≤ 999 := cpr_R hL5 h5
      have h61 : ∀ j, 0 ≤ cpr (M 6) (M 12) 0 16 j ∧ cpr (M 6) (M 12) 0 16 j ≤ 999 := cpr_R hL6 h6
      have h71 : ∀ j, 0 ≤ cpr (M 7) (M 13) 0 16 j ∧ cpr (M 7) (M 13) 0 16 j ≤ 999 := cpr_R hL7 h7
      have h81 : ∀ j, 0 ≤ cpr (M 8) (M 14) 0 16 j ∧ cpr (M 8) (M 14) 0 16 j ≤ 999 := cpr_R hL8 h8
      refine g_aload_n F (pc' := 38) dX4_restore_37 rfl rfl ?_
      refine g_callV F K hXc X0 (pc' := 41) (st := []) (c4_renew l a (sc (sc (sc (sc (sc (sc M 4 (upf (M 4) 4 (M 10 4))) 5 (cpr (M 5) (M 11) 0 16)) 6 (cpr (M 6) (M 12) 0 16)) 7 (cpr (M 7) (M 13) 0 16)) 8 (cpr (M 8) (M 14) 0 16)) 9 (cpr (M 9) (M 15) 0 5)) (by exact hm1) (by exact h51) (by exact h61) (by exact h71) (by exact h81) (by exact ht1)) (cwV 0 F.2.2.2.2 gX4_restore_X4_renew rfl rfl rfl (by decide +kernel) ⟨Nat.le_of_ble_eq_true rfl, Nat.le_of_ble_eq_true rfl⟩) rfl rfl rfl rfl (Nat.le_of_ble_eq_true rfl) dX4_restore_38 rfl (fun N q_38 => ?_)
      have hrn : rnQ (sc (sc (sc (sc (sc (sc M 4 (upf (M 4) 4 (M 10 4))) 5 (cpr (M 5) (M 11) 0 16)) 6 (cpr (M 6) (M 12) 0 16)) 7 (cpr (M 7) (M 13) 0 16)) 8 (cpr (M 8) (M 14) 0 16)) 9 (cpr (M 9) (M 15) 0 5)) N := q_38
      refine g_iconst F (pc' := 42) dX4_restore_41 rfl ?_
      exact g_iret F hr hlk dX4_restore_42 (Or.inr ⟨c_18, rfl, hrn⟩)
    · skip
      refine g_bipush F (pc' := 23) dX4_restore_21 rfl (by decide +kernel) ?_
      exact g_iret F hr hlk dX4_restore_23 (Or.inl ⟨c_18, rfl, rfl⟩)
  · skip
    have c_6 := zC_0 c_6
    refine g_bipush F (pc' := 11) dX4_restore_9 rfl (by decide +kernel) ?_
    exact g_iret F hr hlk dX4_restore_11 (by exfalso; omega)

set_option maxHeartbeats 4000000 in
set_option maxRecDepth 100000 in
theorem c4_restore_1 (l : Launch) (a : Nat → Nat) (M : Mem) (hk : 0 ≤ M 23 1 ∧ M 23 1 ≤ 1) (hm : 0 ≤ M 16 4 ∧ M 16 4 ≤ 16) (h5 : ∀ j, 0 ≤ M 17 j ∧ M 17 j ≤ 999) (h6 : ∀ j, 0 ≤ M 18 j ∧ M 18 j ≤ 999) (h7 : ∀ j, 0 ≤ M 19 j ∧ M 19 j ≤ 999) (h8 : ∀ j, 0 ≤ M 20 j ∧ M 20 j ≤ 999) (ht : 0 ≤ M 21 0 ∧ M 21 0 ≤ 99) (hL5 : ∀ j, 0 ≤ M 5 j ∧ M 5 j ≤ 999) (hL6 : ∀ j, 0 ≤ M 6 j ∧ M 6 j ≤ 999) (hL7 : ∀ j, 0 ≤ M 7 j ∧ M 7 j ≤ 999) (hL8 : ∀ j, 0 ≤ M 8 j ∧ M 8 j ≤ 999) : CtI XS l yX4_restore wsX4_restore ({ frames := 5, cells := 0, slots := 0, locals := 112 } : Room) LC a M [.ref (a 0), .int (iI 1)] (fun z M' => (M 23 1 = 0 ∧ z = -3 ∧ M' = M) ∨ (M 23 1 ≠ 0 ∧ z = 1 ∧ rnQ (takeM M 4 16) M')) := by
  refine CtI.of (y := yX4_restore) (cc := cX4_restore) (maxL := 2) (ret := (some .int)) (lv := [some (.ref (a 0)), some (.int (iI 1))]) (by decide) rfl (Nat.le_of_ble_eq_true rfl) (lvOK_of _ _ ⟨rfl, rfl⟩) ?_
  intro p e s m below meth c D T F K X0 hr hlk
  have hXc := XS_c
  refine g_iload_n F (pc' := 1) dX4_restore_0 rfl rfl ?_
  refine g_iconst F (pc' := 2) dX4_restore_1 rfl ?_
  refine g_iconst F (pc' := 3) dX4_restore_2 rfl ?_
  refine g_callP F (pc' := 6) (st := []) (c4_isWithin l 1 0 1 (by omega) (by omega) (by omega)) (va_cwS 3 F.2.2.2.2 gX4_restore_X4_isWithin rfl rfl rfl (by decide +kernel) ⟨Nat.le_of_ble_eq_true rfl, Nat.le_of_ble_eq_true rfl⟩) rfl rfl (Nat.le_of_ble_eq_true rfl) dX4_restore_3 rfl ?_
  refine g_if_ne F (pc' := 9) (tgt := 12) dX4_restore_6 rfl (by decide) (zC_R _) (fun c_6 => ?_) (fun c_6 => ?_)
  · skip
    have c_6 := zC_1 c_6
    refine g_aload_n F (pc' := 13) dX4_restore_12 rfl rfl ?_
    refine g_getR F K (k := 0) (fld := 3) (ci := 4) (q := 23) (pc' := 16) iX4_restore_X4 rfl rfl rfl (by decide) (List.mem_of_getElem? (i := 1) rfl) dX4_restore_13 rfl ?_
    refine g_iload_n F (pc' := 17) dX4_restore_16 rfl rfl ?_
    refine g_zald F K (k := 23) (v := M 23 1) (pc' := 18) rfl (by decide) (by decide) dX4_restore_17 rfl (by first | rfl | simp [upf, sc]) ?_
    refine g_if_ne F (pc' := 21) (tgt := 24) dX4_restore_18 rfl (by decide) (by omega) (fun c_18 => ?_) (fun c_18 => ?_)
    · skip
      refine g_aload_n F (pc' := 25) dX4_restore_24 rfl rfl ?_
      refine g_getR F K (k := 0) (fld := 1) (ci := 4) (q := 4) (pc' := 28) iX4_restore_X4 rfl rfl rfl (by decide) (List.mem_of_getElem? (i := 2) rfl) dX4_restore_25 rfl ?_
      refine g_aload_n F (pc' := 29) dX4_restore_28 rfl rfl ?_
      refine g_getR F K (k := 0) (fld := 2) (ci := 4) (q := 22) (pc' := 32) iX4_restore_X4 rfl rfl rfl (by decide) (List.mem_of_getElem? (i := 3) rfl) dX4_restore_29 rfl ?_
      refine g_iload_n F (pc' := 33) dX4_restore_32 rfl rfl ?_
      refine g_aald F K (k := 22) (q := 16) (pc' := 34) rfl (by decide) (by omega) rfl dX4_restore_33 rfl ?_
      refine g_callV F K hXc X0 (pc' := 37) (st := []) (c1_take_4_16 l a M) (cwV 1 F.2.2.2.2 gX4_restore_X1_take rfl rfl rfl (by decide +kernel) ⟨Nat.le_of_ble_eq_true rfl, Nat.le_of_ble_eq_true rfl⟩) rfl rfl rfl rfl (Nat.le_of_ble_eq_true rfl) dX4_restore_34 rfl (fun M_34 q_34 => ?_)
      subst q_34
      refine h_mem (sc (sc (sc (sc (sc (sc M 4 (upf (M 4) 4 (M 16 4))) 5 (cpr (M 5) (M 17) 0 16)) 6 (cpr (M 6) (M 18) 0 16)) 7 (cpr (M 7) (M 19) 0 16)) 8 (cpr (M 8) (M 20) 0 16)) 9 (cpr (M 9) (M 21) 0 5)) (by first | rfl | funext k' i'; simp only [sc, upf]; (repeat' split) <;> first | rfl | (exfalso; omega) | simp_all) ?_
      have hm1 := hm
      have ht1 : 0 ≤ cpr (M 9) (M 21) 0 5 0 ∧ cpr (M 9) (M 21) 0 5 0 ≤ 99 := by rw [cpr_at (by decide)]; exact ht
      have h51 : ∀ j, 0 ≤ cpr (M 5) (M 17) 0 16 j ∧ cpr (M 5) (M 17) 0 16 j ≤ 999 := cpr_R hL5 h5
      have h61 : ∀ j, 0 ≤ cpr (M 6) (M 18) 0 16 j ∧ cpr (M 6) (M 18) 0 16 j ≤ 999 := cpr_R hL6 h6
      have h71 : ∀ j, 0 ≤ cpr (M 7) (M 19) 0 16 j ∧ cpr (M 7) (M 19) 0 16 j ≤ 999 := cpr_R hL7 h7
      have h81 : ∀ j, 0 ≤ cpr (M 8) (M 20) 0 16 j ∧ cpr (M 8) (M 20) 0 16 j ≤ 999 := cpr_R hL8 h8
      refine g_aload_n F (pc' := 38) dX4_restore_37 rfl rfl ?_
      refine g_callV F K hXc X0 (pc' := 41) (st := []) (c4_renew l a (sc (sc (sc (sc (sc (sc M 4 (upf (M 4) 4 (M 16 4))) 5 (cpr (M 5) (M 17) 0 16)) 6 (cpr (M 6) (M 18) 0 16)) 7 (cpr (M 7) (M 19) 0 16)) 8 (cpr (M 8) (M 20) 0 16)) 9 (cpr (M 9) (M 21) 0 5)) (by exact hm1) (by exact h51) (by exact h61) (by exact h71) (by exact h81) (by exact ht1)) (cwV 0 F.2.2.2.2 gX4_restore_X4_renew rfl rfl rfl (by decide +kernel) ⟨Nat.le_of_ble_eq_true rfl, Nat.le_of_ble_eq_true rfl⟩) rfl rfl rfl rfl (Nat.le_of_ble_eq_true rfl) dX4_restore_38 rfl (fun N q_38 => ?_)
      have hrn : rnQ (sc (sc (sc (sc (sc (sc M 4 (upf (M 4) 4 (M 16 4))) 5 (cpr (M 5) (M 17) 0 16)) 6 (cpr (M 6) (M 18) 0 16)) 7 (cpr (M 7) (M 19) 0 16)) 8 (cpr (M 8) (M 20) 0 16)) 9 (cpr (M 9) (M 21) 0 5)) N := q_38
      refine g_iconst F (pc' := 42) dX4_restore_41 rfl ?_
      exact g_iret F hr hlk dX4_restore_42 (Or.inr ⟨c_18, rfl, hrn⟩)
    · skip
      refine g_bipush F (pc' := 23) dX4_restore_21 rfl (by decide +kernel) ?_
      exact g_iret F hr hlk dX4_restore_23 (Or.inl ⟨c_18, rfl, rfl⟩)
  · skip
    have c_6 := zC_0 c_6
    refine g_bipush F (pc' := 11) dX4_restore_9 rfl (by decide +kernel) ?_
    exact g_iret F hr hlk dX4_restore_11 (by exfalso; omega)

