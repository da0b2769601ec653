/-! ===== the law's own methods ===== -/
set_option maxHeartbeats 4000000 in
set_option maxRecDepth 100000 in
theorem c_up (l : Launch) (v m : Int) (hv : -2147483648 ≤ v ∧ v < 2147483648) (hm : 1 ≤ m ∧ m < 2147483648) : CtP l yL_up wsL_up ({ frames := 0, cells := 0, slots := 0, locals := 0 } : Room) [.int (iI v), .int (iI m)] (upZ v m) := by
  refine CtP.of (y := yL_up) (cc := cL_up) (maxL := 2) (ret := (some .int)) (lv := [some (.int (iI v)), some (.int (iI m))]) (by decide) rfl (Nat.le_of_ble_eq_true rfl) (lvOK_of _ _ ⟨rfl, rfl⟩) ?_
  intro p e s m below meth c D F hr hlk
  refine g_iload_n F (pc' := 1) dL_up_0 rfl rfl ?_
  refine g_ldc F (pc' := 3) (z := 2147483647) dL_up_1 rfl (List.mem_of_getElem? (i := 1) rfl) (by decide +kernel) ?_
  refine g_iand F (pc' := 4) dL_up_3 rfl ?_
  refine g_iload_n F (pc' := 5) dL_up_4 rfl rfl ?_
  refine g_irem F (pc' := 6) dL_up_5 rfl (andZ_R _ _) (by omega) (by omega) ?_
  exact g_piret F hr hlk dL_up_6 (rfl)

set_option maxHeartbeats 4000000 in
set_option maxRecDepth 100000 in
theorem c_cell (l : Launch) (a : Nat → Nat) (b nS : Nat) (xs : Nat → Int32) (M : Mem) (k : Int) (hk : 0 ≤ k ∧ k < 2147483648) : CtI (XL b nS xs) l yL_cell wsL_cell ({ frames := 0, cells := 0, slots := 0, locals := 0 } : Room) LL a M [.ref b, .int (iI k)] (fun z M' => (-2147483648 ≤ z ∧ z < 2147483648) ∧ M' = M) := by
  refine CtI.of (y := yL_cell) (cc := cL_cell) (maxL := 2) (ret := (some .int)) (lv := [some (.ref b), some (.int (iI k))]) (by decide) rfl (Nat.le_of_ble_eq_true rfl) (lvOK_of _ _ ⟨rfl, rfl⟩) ?_
  intro p e s m below meth c D T F K X0 hr hlk
  have hnS := X0.2.1
  refine g_iload_n F (pc' := 1) dL_cell_0 rfl rfl ?_
  refine g_aload_n F (pc' := 2) dL_cell_1 rfl rfl ?_
  refine g_slen F X0 (pc' := 3) dL_cell_2 rfl ?_
  refine g_icmp_ge F (pc' := 6) (tgt := 12) dL_cell_3 rfl (by decide) (by omega) (by omega) (fun c_3 => ?_) (fun c_3 => ?_)
  · skip
    refine g_ldc F (pc' := 14) (z := 2034499425) dL_cell_12 rfl (List.mem_of_getElem? (i := 1) rfl) (by decide +kernel) ?_
    refine g_iload_n F (pc' := 15) dL_cell_14 rfl rfl ?_
    refine g_sipush F (pc' := 18) dL_cell_15 rfl (by decide +kernel) ?_
    refine g_iadd F (pc' := 19) dL_cell_18 rfl ?_
    refine g_imul F (pc' := 20) dL_cell_19 rfl ?_
    refine g_wrap ?_
    exact g_iret F hr hlk dL_cell_20 (⟨wrZ_R _, rfl⟩)
  · skip
    refine g_aload_n F (pc' := 7) dL_cell_6 rfl rfl ?_
    refine g_iload_n F (pc' := 8) dL_cell_7 rfl rfl ?_
    refine g_sld F X0 (pc' := 9) (by omega) dL_cell_8 rfl (fun sv_8 hsv_8 => ?_)
    refine g_goto F (tgt := 20) dL_cell_9 (by decide) ?_
    exact g_iret F hr hlk dL_cell_20 (⟨hsv_8, rfl⟩)

theorem iL_number_X2 : ∀ w ∈ wsX20, w ∈ wsL_number := fun _ h => List.mem_cons_of_mem _ (List.mem_append_right _ h)
theorem iL_number_X4 : ∀ w ∈ wsX40, w ∈ wsL_number := fun _ h => List.mem_cons_of_mem _ (List.mem_append_left _ (List.mem_append_right _ h))
set_option maxHeartbeats 4000000 in
set_option maxRecDepth 100000 in
theorem c_number {X : (Nat → Prop) → State → Heap → Prop} (hXc : XC X) (hXX : ∀ (A : Nat → Prop) (U : State) (H : Heap), X A U H → XS A U H) (l : Launch) (a : Nat → Nat) (N : Mem) (n : Int) (f : Int → Int) (v w : Int) (hv : 0 ≤ v ∧ v ≤ 999) (hw : 0 ≤ w ∧ w ≤ 1) (hn : 0 ≤ n ∧ n ≤ 27) (hP : ∀ j, 0 ≤ f j ∧ f j ≤ 126) : CtV X l yL_number wsL_number ({ frames := 2, cells := 0, slots := 0, locals := 43 } : Room) LL a (PD N n f) [.ref (a 0), .int (iI v), .int (iI w)] (fun M' => numP N n f v M') := by
  refine CtV.of (y := yL_number) (cc := cL_number) (maxL := 3) (ret := none) (lv := [some (.ref (a 0)), some (.int (iI v)), some (.int (iI w))]) (by decide) rfl (Nat.le_of_ble_eq_true rfl) (lvOK_of _ _ ⟨rfl, rfl⟩) ?_
  intro p e s m below meth c D T F K X0 hr hlk
  have t1 : Int.tdiv v 100 = v / 100 := Int.tdiv_eq_ediv_of_nonneg hv.1
  have t2 : Int.tdiv v 10 = v / 10 := Int.tdiv_eq_ediv_of_nonneg hv.1
  have t3 : Int.tmod (Int.tdiv v 10) 10 = v / 10 % 10 := by rw [t2]; exact Int.tmod_eq_emod_of_nonneg (by omega)
  have t4 : Int.tmod v 10 = v % 10 := Int.tmod_eq_emod_of_nonneg hv.1
  refine g_iload_n F (pc' := 1) dL_number_0 rfl rfl ?_
  refine g_bipush F (pc' := 3) dL_number_1 rfl (by decide +kernel) ?_
  refine g_icmp_gt F (pc' := 6) (tgt := 10) dL_number_3 rfl (by decide) (by omega) (by decide) (fun c_3 => ?_) (fun c_3 => ?_)
  · skip
    refine g_aload_n F (pc' := 11) dL_number_10 rfl rfl ?_
    refine g_bipush F (pc' := 13) dL_number_11 rfl (by decide +kernel) ?_
    refine g_iload_n F (pc' := 14) dL_number_13 rfl rfl ?_
    refine g_bipush F (pc' := 16) dL_number_14 rfl (by decide +kernel) ?_
    refine g_idiv F (pc' := 17) dL_number_16 rfl (by omega) (by decide) (by omega) ?_
    refine g_iadd F (pc' := 18) dL_number_17 rfl ?_
    refine g_callI F K hXc X0 (pc' := 21) (st := []) (e4_sayP hXX l a N n f (48 + (Int.tdiv v 100)) (by omega) (by omega) hP) (cwV 1 F.2.2.2.2 gL_number_X4_say rfl rfl rfl (by decide +kernel) ⟨Nat.le_of_ble_eq_true rfl, Nat.le_of_ble_eq_true rfl⟩) rfl rfl rfl rfl (Nat.le_of_ble_eq_true rfl) dL_number_18 rfl (fun z_18 M_18 q_18 => ?_)
    subst q_18
    have hP_18 : ∀ j, 0 ≤ (upf f n (48 + (Int.tdiv v 100))) j ∧ (upf f n (48 + (Int.tdiv v 100))) j ≤ 126 := upf_P hP (by omega)
    refine g_pop F (pc' := 22) dL_number_21 rfl ?_
    refine g_iload_n F (pc' := 23) dL_number_22 rfl rfl ?_
    refine g_bipush F (pc' := 25) dL_number_23 rfl (by decide +kernel) ?_
    refine g_icmp_gt F (pc' := 28) (tgt := 32) dL_number_25 rfl (by decide) (by omega) (by decide) (fun c_25 => ?_) (fun c_25 => ?_)
    · skip
      refine g_aload_n F (pc' := 33) dL_number_32 rfl rfl ?_
      refine g_bipush F (pc' := 35) dL_number_33 rfl (by decide +kernel) ?_
      refine g_iload_n F (pc' := 36) dL_number_35 rfl rfl ?_
      refine g_bipush F (pc' := 38) dL_number_36 rfl (by decide +kernel) ?_
      refine g_idiv F (pc' := 39) dL_number_38 rfl (by omega) (by decide) (by omega) ?_
      refine g_bipush F (pc' := 41) dL_number_39 rfl (by decide +kernel) ?_
      refine g_irem F (pc' := 42) dL_number_41 rfl (by omega) (by decide) (by omega) ?_
      refine g_iadd F (pc' := 43) dL_number_42 rfl ?_
      refine g_callI F K hXc X0 (pc' := 46) (st := []) (e4_sayP hXX l a N (n + 1) (upf f n (48 + (Int.tdiv v 100))) (48 + (Int.tmod (Int.tdiv v 10) 10)) (by omega) (by omega) hP_18) (cwV 1 F.2.2.2.2 gL_number_X4_say rfl rfl rfl (by decide +kernel) ⟨Nat.le_of_ble_eq_true rfl, Nat.le_of_ble_eq_true rfl⟩) rfl rfl rfl rfl (Nat.le_of_ble_eq_true rfl) dL_number_43 rfl (fun z_43 M_43 q_43 => ?_)
      subst q_43
      have hP_43 : ∀ j, 0 ≤ (upf (upf f n (48 + (Int.tdiv v 100))) (n + 1) (48 + (Int.tmod (Int.tdiv v 10) 10))) j ∧ (upf (upf f n (48 + (Int.tdiv v 100))) (n + 1) (48 + (Int.tmod (Int.tdiv v 10) 10))) j ≤ 126 := upf_P hP_18 (by omega)
      refine g_pop F (pc' := 47) dL_number_46 rfl ?_
      refine g_aload_n F (pc' := 48) dL_number_47 rfl rfl ?_
      refine g_bipush F (pc' := 50) dL_number_48 rfl (by decide +kernel) ?_
      refine g_iload_n F (pc' := 51) dL_number_50 rfl rfl ?_
      refine g_bipush F (pc' := 53) dL_number_51 rfl (by decide +kernel) ?_
      refine g_irem F (pc' := 54) dL_number_53 rfl (by omega) (by decide) (by omega) ?_
      refine g_iadd F (pc' := 55) dL_number_54 rfl ?_
      refine g_callI F K hXc X0 (pc' := 58) (st := []) (e4_sayP hXX l a N (n + 1 + 1) (upf (upf f n (48 + (Int.tdiv v 100))) (n + 1) (48 + (Int.tmod (Int.tdiv v 10) 10))) (48 + (Int.tmod v 10)) (by omega) (by omega) hP_43) (cwV 1 F.2.2.2.2 gL_number_X4_say rfl rfl rfl (by decide +kernel) ⟨Nat.le_of_ble_eq_true rfl, Nat.le_of_ble_eq_true rfl⟩) rfl rfl rfl rfl (Nat.le_of_ble_eq_true rfl) dL_number_55 rfl (fun z_55 M_55 q_55 => ?_)
      subst q_55
      have hP_55 : ∀ j, 0 ≤ (upf (upf (upf f n (48 + (Int.tdiv v 100))) (n + 1) (48 + (Int.tmod (Int.tdiv v 10) 10))) (n + 1 + 1) (48 + (Int.tmod v 10))) j ∧ (upf (upf (upf f n (48 + (Int.tdiv v 100))) (n + 1) (48 + (Int.tmod (Int.tdiv v 10) 10))) (n + 1 + 1) (48 + (Int.tmod v 10))) j ≤ 126 := upf_P hP_43 (by omega)
      refine g_pop F (pc' := 59) dL_number_58 rfl ?_
      exact g_vret F hr hlk dL_number_59 (nmp3 hP (by omega) (by omega) (by omega) (by omega))
    · skip
      refine g_iload_n F (pc' := 29) dL_number_28 rfl rfl ?_
      refine g_if_eq F (pc' := 32) (tgt := 47) dL_number_29 rfl (by decide) (by omega) (fun c_29 => ?_) (fun c_29 => ?_)
      · skip
        refine g_aload_n F (pc' := 48) dL_number_47 rfl rfl ?_
        refine g_bipush F (pc' := 50) dL_number_48 rfl (by decide +kernel) ?_
        refine g_iload_n F (pc' := 51) dL_number_50 rfl rfl ?_
        refine g_bipush F (pc' := 53) dL_number_51 rfl (by decide +kernel) ?_
        refine g_irem F (pc' := 54) dL_number_53 rfl (by omega) (by decide) (by omega) ?_
        refine g_iadd F (pc' := 55) dL_number_54 rfl ?_
        refine g_callI F K hXc X0 (pc' := 58) (st := []) (e4_sayP hXX l a N (n + 1) (upf f n (48 + (Int.tdiv v 100))) (48 + (Int.tmod v 10)) (by omega) (by omega) hP_18) (cwV 1 F.2.2.2.2 gL_number_X4_say rfl rfl rfl (by decide +kernel) ⟨Nat.le_of_ble_eq_true rfl, Nat.le_of_ble_eq_true rfl⟩) rfl rfl rfl rfl (Nat.le_of_ble_eq_true rfl) dL_number_55 rfl (fun z_55 M_55 q_55 => ?_)
        subst q_55
        have hP_55 : ∀ j, 0 ≤ (upf (upf f n (48 + (Int.tdiv v 100))) (n + 1) (48 + (Int.tmod v 10))) j ∧ (upf (upf f n (48 + (Int.tdiv v 100))) (n + 1) (48 + (Int.tmod v 10))) j ≤ 126 := upf_P hP_18 (by omega)
        refine g_pop F (pc' := 59) dL_number_58 rfl ?_
        exact g_vret F hr hlk dL_number_59 (nmp2 hP (by omega) (by omega) (by omega))
      · skip
        refine g_aload_n F (pc' := 33) dL_number_32 rfl rfl ?_
        refine g_bipush F (pc' := 35) dL_number_33 rfl (by decide +kernel) ?_
        refine g_iload_n F (pc' := 36) dL_number_35 rfl rfl ?_
        refine g_bipush F (pc' := 38) dL_number_36 rfl (by decide +kernel) ?_
        refine g_idiv F (pc' := 39) dL_number_38 rfl (by omega) (by decide) (by omega) ?_
        refine g_bipush F (pc' := 41) dL_number_39 rfl (by decide +kernel) ?_
        refine g_irem F (pc' := 42) dL_number_41 rfl (by omega) (by decide) (by omega) ?_
        refine g_iadd F (pc' := 43) dL_number_42 rfl ?_
        refine g_callI F K hXc X0 (pc' := 46) (st := []) (e4_sayP hXX l a N (n + 1) (upf f n (48 + (Int.tdiv v 100))) (48 + (Int.tmod (Int.tdiv v 10) 10)) (by omega) (by omega) hP_18) (cwV 1 F.2.2.2.2 gL_number_X4_say rfl rfl rfl (by decide +kernel) ⟨Nat.le_of_ble_eq_true rfl, Nat.le_of_ble_eq_true rfl⟩) rfl rfl rfl rfl (Nat.le_of_ble_eq_true rfl) dL_number_43 rfl (fun z_43 M_43 q_43 => ?_)
        subst q_43
        have hP_43 : ∀ j, 0 ≤ (upf (upf f n (48 + (Int.tdiv v 100))) (n + 1) (48 + (Int.tmod (Int.tdiv v 10) 10))) j ∧ (upf (upf f n (48 + (Int.tdiv v 100))) (n + 1) (48 + (Int.tmod (Int.tdiv v 10) 10))) j ≤ 126 := upf_P hP_18 (by omega)
        refine g_pop F (pc' := 47) dL_number_46 rfl ?_
        refine g_aload_n F (pc' := 48) dL_number_47 rfl rfl ?_
        refine g_bipush F (pc' := 50) dL_number_48 rfl (by decide +kernel) ?_
        refine g_iload_n F (pc' := 51) dL_number_50 rfl rfl ?_
        refine g_bipush F (pc' := 53) dL_number_51 rfl (by decide +kernel) ?_
        refine g_irem F (pc' := 54) dL_number_53 rfl (by omega) (by decide) (by omega) ?_
        refine g_iadd F (pc' := 55) dL_number_54 rfl ?_
        refine g_callI F K hXc X0 (pc' := 58) (st := []) (e4_sayP hXX l a N (n + 1 + 1) (upf (upf f n (48 + (Int.tdiv v 100))) (n + 1) (48 + (Int.tmod (Int.tdiv v 10) 10))) (48 + (Int.tmod v 10)) (by omega) (by omega) hP_43) (cwV 1 F.2.2.2.2 gL_number_X4_say rfl rfl rfl (by decide +kernel) ⟨Nat.le_of_ble_eq_true rfl, Nat.le_of_ble_eq_true rfl⟩) rfl rfl rfl rfl (Nat.le_of_ble_eq_true rfl) dL_number_55 rfl (fun z_55 M_55 q_55 => ?_)
        subst q_55
        have hP_55 : ∀ j, 0 ≤ (upf (upf (upf f n (48 + (Int.tdiv v 100))) (n + 1) (48 + (Int.tmod (Int.tdiv v 10) 10))) (n + 1 + 1) (48 + (Int.tmod v 10))) j ∧ (upf (upf (upf f n (48 + (Int.tdiv v 100))) (n + 1) (48 + (Int.tmod (Int.tdiv v 10) 10))) (n + 1 + 1) (48 + (Int.tmod v 10))) j ≤ 126 := upf_P hP_43 (by omega)
        refine g_pop F (pc' := 59) dL_number_58 rfl ?_
        exact g_vret F hr hlk dL_number_59 (nmp3 hP (by omega) (by omega) (by omega) (by omega))
  · skip
    refine g_iload_n F (pc' := 7) dL_number_6 rfl rfl ?_
    refine g_if_eq F (pc' := 10) (tgt := 22) dL_number_7 rfl (by decide) (by omega) (fun c_7 => ?_) (fun c_7 => ?_)
    · skip
      refine g_iload_n F (pc' := 23) dL_number_22 rfl rfl ?_
      refine g_bipush F (pc' := 25) dL_number_23 rfl (by decide +kernel) ?_
      refine g_icmp_gt F (pc' := 28) (tgt := 32) dL_number_25 rfl (by decide) (by omega) (by decide) (fun c_25 => ?_) (fun c_25 => ?_)
      · skip
        refine g_aload_n F (pc' := 33) dL_number_32 rfl rfl ?_
        refine g_bipush F (pc' := 35) dL_number_33 rfl (by decide +kernel) ?_
        refine g_iload_n F (pc' := 36) dL_number_35 rfl rfl ?_
        refine g_bipush F (pc' := 38) dL_number_36 rfl (by decide +kernel) ?_
        refine g_idiv F (pc' := 39) dL_number_38 rfl (by omega) (by decide) (by omega) ?_
        refine g_bipush F (pc' := 41) dL_number_39 rfl (by decide +kernel) ?_
        refine g_irem F (pc' := 42) dL_number_41 rfl (by omega) (by decide) (by omega) ?_
        refine g_iadd F (pc' := 43) dL_number_42 rfl ?_
        refine g_callI F K hXc X0 (pc' := 46) (st := []) (e4_sayP hXX l a N n f (48 + (Int.tmod (Int.tdiv v 10) 10)) (by omega) (by omega) hP) (cwV 1 F.2.2.2.2 gL_number_X4_say rfl rfl rfl (by decide +kernel) ⟨Nat.le_of_ble_eq_true rfl, Nat.le_of_ble_eq_true rfl⟩) rfl rfl rfl rfl (Nat.le_of_ble_eq_true rfl) dL_number_43 rfl (fun z_43 M_43 q_43 => ?_)
        subst q_43
        have hP_43 : ∀ j, 0 ≤ (upf f n (48 + (Int.tmod (Int.tdiv v 10) 10))) j ∧ (upf f n (48 + (Int.tmod (Int.tdiv v 10) 10))) j ≤ 126 := upf_P hP (by omega)
        refine g_pop F (pc' := 47) dL_number_46 rfl ?_
        refine g_aload_n F (pc' := 48) dL_number_47 rfl rfl ?_
        refine g_bipush F (pc' := 50) dL_number_48 rfl (by decide +kernel) ?_
        refine g_iload_n F (pc' := 51) dL_number_50 rfl rfl ?_
        refine g_bipush F (pc' := 53) dL_number_51 rfl (by decide +kernel) ?_
        refine g_irem F (pc' := 54) dL_number_53 rfl (by omega) (by decide) (by omega) ?_
        refine g_iadd F (pc' := 55) dL_number_54 rfl ?_
        refine g_callI F K hXc X0 (pc' := 58) (st := []) (e4_sayP hXX l a N (n + 1) (upf f n (48 + (Int.tmod (Int.tdiv v 10) 10))) (48 + (Int.tmod v 10)) (by omega) (by omega) hP_43) (cwV 1 F.2.2.2.2 gL_number_X4_say rfl rfl rfl (by decide +kernel) ⟨Nat.le_of_ble_eq_true rfl, Nat.le_of_ble_eq_true rfl⟩) rfl rfl rfl rfl (Nat.le_of_ble_eq_true rfl) dL_number_55 rfl (fun z_55 M_55 q_55 => ?_)
        subst q_55
        have hP_55 : ∀ j, 0 ≤ (upf (upf f n (48 + (Int.tmod (Int.tdiv v 10) 10))) (n + 1) (48 + (Int.tmod v 10))) j ∧ (upf (upf f n (48 + (Int.tmod (Int.tdiv v 10) 10))) (n + 1) (48 + (Int.tmod v 10))) j ≤ 126 := upf_P hP_43 (by omega)
        refine g_pop F (pc' := 59) dL_number_58 rfl ?_
        exact g_vret F hr hlk dL_number_59 (nmp2 hP (by omega) (by omega) (by omega))
      · skip
        refine g_iload_n F (pc' := 29) dL_number_28 rfl rfl ?_
        refine g_if_eq F (pc' := 32) (tgt := 47) dL_number_29 rfl (by decide) (by omega) (fun c_29 => ?_) (fun c_29 => ?_)
        · skip
          refine g_aload_n F (pc' := 48) dL_number_47 rfl rfl ?_
          refine g_bipush F (pc' := 50) dL_number_48 rfl (by decide +kernel) ?_
          refine g_iload_n F (pc' := 51) dL_number_50 rfl rfl ?_
          refine g_bipush F (pc' := 53) dL_number_51 rfl (by decide +kernel) ?_
          refine g_irem F (pc' := 54) dL_number_53 rfl (by omega) (by decide) (by omega) ?_
          refine g_iadd F (pc' := 55) dL_number_54 rfl ?_
          refine g_callI F K hXc X0 (pc' := 58) (st := []) (e4_sayP hXX l a N n f (48 + (Int.tmod v 10)) (by omega) (by omega) hP) (cwV 1 F.2.2.2.2 gL_number_X4_say rfl rfl rfl (by decide +kernel) ⟨Nat.le_of_ble_eq_true rfl, Nat.le_of_ble_eq_true rfl⟩) rfl rfl rfl rfl (Nat.le_of_ble_eq_true rfl) dL_number_55 rfl (fun z_55 M_55 q_55 => ?_)
          subst q_55
          have hP_55 : ∀ j, 0 ≤ (upf f n (48 + (Int.tmod v 10))) j ∧ (upf f n (48 + (Int.tmod v 10))) j ≤ 126 := upf_P hP (by omega)
          refine g_pop F (pc' := 59) dL_number_58 rfl ?_
          exact g_vret F hr hlk dL_number_59 (nmp1 hP (by omega) (by omega))
        · skip
          refine g_aload_n F (pc' := 33) dL_number_32 rfl rfl ?_
          refine g_bipush F (pc' := 35) dL_number_33 rfl (by decide +kernel) ?_
          refine g_iload_n F (pc' := 36) dL_number_35 rfl rfl ?_
          refine g_bipush F (pc' := 38) dL_number_36 rfl (by decide +kernel) ?_
          refine g_idiv F (pc' := 39) dL_number_38 rfl (by omega) (by decide) (by omega) ?_
          refine g_bipush F (pc' := 41) dL_number_39 rfl (by decide +kernel) ?_
          refine g_irem F (pc' := 42) dL_number_41 rfl (by omega) (by decide) (by omega) ?_
          refine g_iadd F (pc' := 43) dL_number_42 rfl ?_
          refine g_callI F K hXc X0 (pc' := 46) (st := []) (e4_sayP hXX l a N n f (48 + (Int.tmod (Int.tdiv v 10) 10)) (by omega) (by omega) hP) (cwV 1 F.2.2.2.2 gL_number_X4_say rfl rfl rfl (by decide +kernel) ⟨Nat.le_of_ble_eq_true rfl, Nat.le_of_ble_eq_true rfl⟩) rfl rfl rfl rfl (Nat.le_of_ble_eq_true rfl) dL_number_43 rfl (fun z_43 M_43 q_43 => ?_)
          subst q_43
          have hP_43 : ∀ j, 0 ≤ (upf f n (48 + (Int.tmod (Int.tdiv v 10) 10))) j ∧ (upf f n (48 + (Int.tmod (Int.tdiv v 10) 10))) j ≤ 126 := upf_P hP (by omega)
          refine g_pop F (pc' := 47) dL_number_46 rfl ?_
          refine g_aload_n F (pc' := 48) dL_number_47 rfl rfl ?_
          refine g_bipush F (pc' := 50) dL_number_48 rfl (by decide +kernel) ?_
          refine g_iload_n F (pc' := 51) dL_number_50 rfl rfl ?_
          refine g_bipush F (pc' := 53) dL_number_51 rfl (by decide +kernel) ?_
          refine g_irem F (pc' := 54) dL_number_53 rfl (by omega) (by decide) (by omega) ?_
          refine g_iadd F (pc' := 55) dL_number_54 rfl ?_
          refine g_callI F K hXc X0 (pc' := 58) (st := []) (e4_sayP hXX l a N (n + 1) (upf f n (48 + (Int.tmod (Int.tdiv v 10) 10))) (48 + (Int.tmod v 10)) (by omega) (by omega) hP_43) (cwV 1 F.2.2.2.2 gL_number_X4_say rfl rfl rfl (by decide +kernel) ⟨Nat.le_of_ble_eq_true rfl, Nat.le_of_ble_eq_true rfl⟩) rfl rfl rfl rfl (Nat.le_of_ble_eq_true rfl) dL_number_55 rfl (fun z_55 M_55 q_55 => ?_)
          subst q_55
          have hP_55 : ∀ j, 0 ≤ (upf (upf f n (48 + (Int.tmod (Int.tdiv v 10) 10))) (n + 1) (48 + (Int.tmod v 10))) j ∧ (upf (upf f n (48 + (Int.tmod (Int.tdiv v 10) 10))) (n + 1) (48 + (Int.tmod v 10))) j ≤ 126 := upf_P hP_43 (by omega)
          refine g_pop F (pc' := 59) dL_number_58 rfl ?_
          exact g_vret F hr hlk dL_number_59 (nmp2 hP (by omega) (by omega) (by omega))
    · skip
      refine g_aload_n F (pc' := 11) dL_number_10 rfl rfl ?_
      refine g_bipush F (pc' := 13) dL_number_11 rfl (by decide +kernel) ?_
      refine g_iload_n F (pc' := 14) dL_number_13 rfl rfl ?_
      refine g_bipush F (pc' := 16) dL_number_14 rfl (by decide +kernel) ?_
      refine g_idiv F (pc' := 17) dL_number_16 rfl (by omega) (by decide) (by omega) ?_
      refine g_iadd F (pc' := 18) dL_number_17 rfl ?_
      refine g_callI F K hXc X0 (pc' := 21) (st := []) (e4_sayP hXX l a N n f (48 + (Int.tdiv v 100)) (by omega) (by omega) hP) (cwV 1 F.2.2.2.2 gL_number_X4_say rfl rfl rfl (by decide +kernel) ⟨Nat.le_of_ble_eq_true rfl, Nat.le_of_ble_eq_true rfl⟩) rfl rfl rfl rfl (Nat.le_of_ble_eq_true rfl) dL_number_18 rfl (fun z_18 M_18 q_18 => ?_)
      subst q_18
      have hP_18 : ∀ j, 0 ≤ (upf f n (48 + (Int.tdiv v 100))) j ∧ (upf f n (48 + (Int.tdiv v 100))) j ≤ 126 := upf_P hP (by omega)
      refine g_pop F (pc' := 22) dL_number_21 rfl ?_
      refine g_iload_n F (pc' := 23) dL_number_22 rfl rfl ?_
      refine g_bipush F (pc' := 25) dL_number_23 rfl (by decide +kernel) ?_
      refine g_icmp_gt F (pc' := 28) (tgt := 32) dL_number_25 rfl (by decide) (by omega) (by decide) (fun c_25 => ?_) (fun c_25 => ?_)
      · skip
        refine g_aload_n F (pc' := 33) dL_number_32 rfl rfl ?_
        refine g_bipush F (pc' := 35) dL_number_33 rfl (by decide +kernel) ?_
        refine g_iload_n F (pc' := 36) dL_number_35 rfl rfl ?_
        refine g_bipush F (pc' := 38) dL_number_36 rfl (by decide +kernel) ?_
        refine g_idiv F (pc' := 39) dL_number_38 rfl (by omega) (by decide) (by omega) ?_
        refine g_bipush F (pc' := 41) dL_number_39 rfl (by decide +kernel) ?_
        refine g_irem F (pc' := 42) dL_number_41 rfl (by omega) (by decide) (by omega) ?_
        refine g_iadd F (pc' := 43) dL_number_42 rfl ?_
        refine g_callI F K hXc X0 (pc' := 46) (st := []) (e4_sayP hXX l a N (n + 1) (upf f n (48 + (Int.tdiv v 100))) (48 + (Int.tmod (Int.tdiv v 10) 10)) (by omega) (by omega) hP_18) (cwV 1 F.2.2.2.2 gL_number_X4_say rfl rfl rfl (by decide +kernel) ⟨Nat.le_of_ble_eq_true rfl, Nat.le_of_ble_eq_true rfl⟩) rfl rfl rfl rfl (Nat.le_of_ble_eq_true rfl) dL_number_43 rfl (fun z_43 M_43 q_43 => ?_)
        subst q_43
        have hP_43 : ∀ j, 0 ≤ (upf (upf f n (48 + (Int.tdiv v 100))) (n + 1) (48 + (Int.tmod (Int.tdiv v 10) 10))) j ∧ (upf (upf f n (48 + (Int.tdiv v 100))) (n + 1) (48 + (Int.tmod (Int.tdiv v 10) 10))) j ≤ 126 := upf_P hP_18 (by omega)
        refine g_pop F (pc' := 47) dL_number_46 rfl ?_
        refine g_aload_n F (pc' := 48) dL_number_47 rfl rfl ?_
        refine g_bipush F (pc' := 50) dL_number_48 rfl (by decide +kernel) ?_
        refine g_iload_n F (pc' := 51) dL_number_50 rfl rfl ?_
        refine g_bipush F (pc' := 53) dL_number_51 rfl (by decide +kernel) ?_
        refine g_irem F (pc' := 54) dL_number_53 rfl (by omega) (by decide) (by omega) ?_
        refine g_iadd F (pc' := 55) dL_number_54 rfl ?_
        refine g_callI F K hXc X0 (pc' := 58) (st := []) (e4_sayP hXX l a N (n + 1 + 1) (upf (upf f n (48 + (Int.tdiv v 100))) (n + 1) (48 + (Int.tmod (Int.tdiv v 10) 10))) (48 + (Int.tmod v 10)) (by omega) (by omega) hP_43) (cwV 1 F.2.2.2.2 gL_number_X4_say rfl rfl rfl (by decide +kernel) ⟨Nat.le_of_ble_eq_true rfl, Nat.le_of_ble_eq_true rfl⟩) rfl rfl rfl rfl (Nat.le_of_ble_eq_true rfl) dL_number_55 rfl (fun z_55 M_55 q_55 => ?_)
        subst q_55
        have hP_55 : ∀ j, 0 ≤ (upf (upf (upf f n (48 + (Int.tdiv v 100))) (n + 1) (48 + (Int.tmod (Int.tdiv v 10) 10))) (n + 1 + 1) (48 + (Int.tmod v 10))) j ∧ (upf (upf (upf f n (48 + (Int.tdiv v 100))) (n + 1) (48 + (Int.tmod (Int.tdiv v 10) 10))) (n + 1 + 1) (48 + (Int.tmod v 10))) j ≤ 126 := upf_P hP_43 (by omega)
        refine g_pop F (pc' := 59) dL_number_58 rfl ?_
        exact g_vret F hr hlk dL_number_59 (nmp3 hP (by omega) (by omega) (by omega) (by omega))
      · skip
        refine g_iload_n F (pc' := 29) dL_number_28 rfl rfl ?_
        refine g_if_eq F (pc' := 32) (tgt := 47) dL_number_29 rfl (by decide) (by omega) (fun c_29 => ?_) (fun c_29 => ?_)
        · skip
          refine g_aload_n F (pc' := 48) dL_number_47 rfl rfl ?_
          refine g_bipush F (pc' := 50) dL_number_48 rfl (by decide +kernel) ?_
          refine g_iload_n F (pc' := 51) dL_number_50 rfl rfl ?_
          refine g_bipush F (pc' := 53) dL_number_51 rfl (by decide +kernel) ?_
          refine g_irem F (pc' := 54) dL_number_53 rfl (by omega) (by decide) (by omega) ?_
          refine g_iadd F (pc' := 55) dL_number_54 rfl ?_
          refine g_callI F K hXc X0 (pc' := 58) (st := []) (e4_sayP hXX l a N (n + 1) (upf f n (48 + (Int.tdiv v 100))) (48 + (Int.tmod v 10)) (by omega) (by omega) hP_18) (cwV 1 F.2.2.2.2 gL_number_X4_say rfl rfl rfl (by decide +kernel) ⟨Nat.le_of_ble_eq_true rfl, Nat.le_of_ble_eq_true rfl⟩) rfl rfl rfl rfl (Nat.le_of_ble_eq_true rfl) dL_number_55 rfl (fun z_55 M_55 q_55 => ?_)
          subst q_55
          have hP_55 : ∀ j, 0 ≤ (upf (upf f n (48 + (Int.tdiv v 100))) (n + 1) (48 + (Int.tmod v 10))) j ∧ (upf (upf f n (48 + (Int.tdiv v 100))) (n + 1) (48 + (Int.tmod v 10))) j ≤ 126 := upf_P hP_18 (by omega)
          refine g_pop F (pc' := 59) dL_number_58 rfl ?_
          exact g_vret F hr hlk dL_number_59 (nmp2 hP (by omega) (by omega) (by omega))
        · skip
          refine g_aload_n F (pc' := 33) dL_number_32 rfl rfl ?_
          refine g_bipush F (pc' := 35) dL_number_33 rfl (by decide +kernel) ?_
          refine g_iload_n F (pc' := 36) dL_number_35 rfl rfl ?_
          refine g_bipush F (pc' := 38) dL_number_36 rfl (by decide +kernel) ?_
          refine g_idiv F (pc' := 39) dL_number_38 rfl (by omega) (by decide) (by omega) ?_
          refine g_bipush F (pc' := 41) dL_number_39 rfl (by decide +kernel) ?_
          refine g_irem F (pc' := 42) dL_number_41 rfl (by omega) (by decide) (by omega) ?_
          refine g_iadd F (pc' := 43) dL_number_42 rfl ?_
          refine g_callI F K hXc X0 (pc' := 46) (st := []) (e4_sayP hXX l a N (n + 1) (upf f n (48 + (Int.tdiv v 100))) (48 + (Int.tmod (Int.tdiv v 10) 10)) (by omega) (by omega) hP_18) (cwV 1 F.2.2.2.2 gL_number_X4_say rfl rfl rfl (by decide +kernel) ⟨Nat.le_of_ble_eq_true rfl, Nat.le_of_ble_eq_true rfl⟩) rfl rfl rfl rfl (Nat.le_of_ble_eq_true rfl) dL_number_43 rfl (fun z_43 M_43 q_43 => ?_)
          subst q_43
          have hP_43 : ∀ j, 0 ≤ (upf (upf f n (48 + (Int.tdiv v 100))) (n + 1) (48 + (Int.tmod (Int.tdiv v 10) 10))) j ∧ (upf (upf f n (48 + (Int.tdiv v 100))) (n + 1) (48 + (Int.tmod (Int.tdiv v 10) 10))) j ≤ 126 := upf_P hP_18 (by omega)
          refine g_pop F (pc' := 47) dL_number_46 rfl ?_
          refine g_aload_n F (pc' := 48) dL_number_47 rfl rfl ?_
          refine g_bipush F (pc' := 50) dL_number_48 rfl (by decide +kernel) ?_
          refine g_iload_n F (pc' := 51) dL_number_50 rfl rfl ?_
          refine g_bipush F (pc' := 53) dL_number_51 rfl (by decide +kernel) ?_
          refine g_irem F (pc' := 54) dL_number_53 rfl (by omega) (by decide) (by omega) ?_
          refine g_iadd F (pc' := 55) dL_number_54 rfl ?_
          refine g_callI F K hXc X0 (pc' := 58) (st := []) (e4_sayP hXX l a N (n + 1 + 1) (upf (upf f n (48 + (Int.tdiv v 100))) (n + 1) (48 + (Int.tmod (Int.tdiv v 10) 10))) (48 + (Int.tmod v 10)) (by omega) (by omega) hP_43) (cwV 1 F.2.2.2.2 gL_number_X4_say rfl rfl rfl (by decide +kernel) ⟨Nat.le_of_ble_eq_true rfl, Nat.le_of_ble_eq_true rfl⟩) rfl rfl rfl rfl (Nat.le_of_ble_eq_true rfl) dL_number_55 rfl (fun z_55 M_55 q_55 => ?_)
          subst q_55
          have hP_55 : ∀ j, 0 ≤ (upf (upf (upf f n (48 + (Int.tdiv v 100))) (n + 1) (48 + (Int.tmod (Int.tdiv v 10) 10))) (n + 1 + 1) (48 + (Int.tmod v 10))) j ∧ (upf (upf (upf f n (48 + (Int.tdiv v 100))) (n + 1) (48 + (Int.tmod (Int.tdiv v 10) 10))) (n + 1 + 1) (48 + (Int.tmod v 10))) j ≤ 126 := upf_P hP_43 (by omega)
          refine g_pop F (pc' := 59) dL_number_58 rfl ?_
          exact g_vret F hr hlk dL_number_59 (nmp3 hP (by omega) (by omega) (by omega) (by omega))
