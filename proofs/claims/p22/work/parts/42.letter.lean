/-! ===== the class: letters ===== -/
theorem sc4_id (M : Mem) (a b c d : Nat) : sc (sc (sc (sc M a (M a)) b (M b)) c (M c)) d (M d) = M := by
  funext j i
  simp only [sc]
  (repeat' split) <;> simp_all
def del1 (f : Int → Int) (lo k : Int) : Int → Int := fun j => if lo ≤ j ∧ j < k then f (j + 1) else f j
theorem del1_0 {f : Int → Int} {lo : Int} : del1 f lo lo = f := by funext j; exact if_neg (by omega)
theorem del1_s {f : Int → Int} {lo k : Int} (h : lo ≤ k) : upf (del1 f lo k) k (del1 f lo k (k + 1)) = del1 f lo (k + 1) := by
  funext j
  unfold upf del1
  by_cases hj : j = k
  · subst hj; rw [if_pos rfl, if_neg (by omega), if_pos (by omega)]
  · rw [if_neg hj]
    by_cases h1 : lo ≤ j ∧ j < k
    · rw [if_pos h1, if_pos (by omega)]
    · rw [if_neg h1, if_neg (by omega)]
def canC (M : Mem) (u d : Int) : Prop := (M 5 u = 1 ∧ M 5 d = 0 ∧ M 6 u < M 6 d ∧ M 6 d - M 6 u ≤ 300) ∧ max (M 7 u) (M 7 d) < min (M 8 u) (M 8 d)
def takeM (M : Mem) (x y : Nat) : Mem := sc (sc (sc (sc (sc (sc M x (upf (M x) 4 (M y 4))) (x + 1) (cpr (M (x + 1)) (M (y + 1)) 0 16)) (x + 2) (cpr (M (x + 2)) (M (y + 2)) 0 16)) (x + 3) (cpr (M (x + 3)) (M (y + 3)) 0 16)) (x + 4) (cpr (M (x + 4)) (M (y + 4)) 0 16)) (x + 5) (cpr (M (x + 5)) (M (y + 5)) 0 5)
theorem iX1_add_X1 : ∀ w ∈ wsX10, w ∈ wsX1_add := fun _ h => List.mem_cons_of_mem _ (List.mem_append_left _ (List.mem_append_right _ h))
theorem iX1_add_X2 : ∀ w ∈ wsX20, w ∈ wsX1_add := fun _ h => List.mem_cons_of_mem _ (List.mem_append_right _ h)
set_option maxHeartbeats 4000000 in
set_option maxRecDepth 100000 in
theorem c1_add (l : Launch) (a : Nat → Nat) (M : Mem) (hm : 0 ≤ M 4 4 ∧ M 4 4 ≤ 16) (hn : 0 ≤ M 1 1 ∧ M 1 1 ≤ 30) (hP : ∀ j, 0 ≤ M 2 j ∧ M 2 j ≤ 126) (hp : 0 < M 1 1) : CtI XS l yX1_add wsX1_add ({ frames := 1, cells := 0, slots := 0, locals := 22 } : Room) LC a M [.ref (a 4), .ref (a 1)] (fun z M' => (16 ≤ M 4 4 ∧ z = 0 ∧ M' = M) ∨ (M 4 4 < 16 ∧ z = 1 ∧ M' = sc (sc (sc (sc (sc M 4 (upf (M 4) 4 (M 4 4 + 1))) 5 (upf (M 5) (M 4 4) (upz (M 2)))) 6 (upf (M 6) (M 4 4) (M 3 0))) 7 (upf (M 7) (M 4 4) (M 3 1))) 8 (upf (M 8) (M 4 4) (M 3 2)))) := by
  refine CtI.of (y := yX1_add) (cc := cX1_add) (maxL := 2) (ret := (some .boolean)) (lv := [some (.ref (a 4)), some (.ref (a 1))]) (by decide) rfl (Nat.le_of_ble_eq_true rfl) (lvOK_of _ _ ⟨rfl, rfl⟩) ?_
  intro p e s m below meth c D T F K X0 hr hlk
  have hXc := XS_c
  obtain ⟨⟨nw1, nw2, nw3⟩, -⟩ := id X0
  have lp_34 : ∀ (b : Int) (h16 : M 4 4 < 16) (hb : b = upz (M 2)), GG p l e ({ frames := 1, cells := 0, slots := 0, locals := 22 } : Room) s m ([.ref (a 4), .ref (a 1)].toArray) below meth c (PI D T a LC M (fun z M' => (16 ≤ M 4 4 ∧ z = 0 ∧ M' = M) ∨ (M 4 4 < 16 ∧ z = 1 ∧ M' = sc (sc (sc (sc (sc M 4 (upf (M 4) 4 (M 4 4 + 1))) 5 (upf (M 5) (M 4 4) (upz (M 2)))) 6 (upf (M 6) (M 4 4) (M 3 0))) 7 (upf (M 7) (M 4 4) (M 3 1))) 8 (upf (M 8) (M 4 4) (M 3 2)))) below ([.ref (a 4), .ref (a 1)].toArray) s) D (AA T a LC M s.heap.size) 2 (wld T a LC M) 34 [some (.ref (a 4)), some (.ref (a 1))] [.int (iI b), .int (iI (M 4 4)), .ref (a 5)] := by
    intro b h16 hb
    subst hb
    refine h_iast F K (k := 5) (pc' := 35) (sc M 5 (upf (M 5) (M 4 4) (upz (M 2)))) (mem_up (by rfl) (by intro j hj; simp only [sc, if_neg hj])) rfl (by decide) (by omega) dX1_add_34 rfl ?_
    refine g_aload_n F (pc' := 36) dX1_add_35 rfl rfl ?_
    refine g_getR F K (k := 4) (fld := 1) (ci := 1) (q := 6) (pc' := 39) iX1_add_X1 rfl rfl rfl (by decide) (List.mem_of_getElem? (i := 3) rfl) dX1_add_36 rfl ?_
    refine g_aload_n F (pc' := 40) dX1_add_39 rfl rfl ?_
    refine g_getI F K (k := 4) (fld := 4) (ci := 1) (z := M 4 4) (pc' := 43) iX1_add_X1 rfl rfl rfl (by decide) (List.mem_of_getElem? (i := 1) rfl) dX1_add_40 rfl (by first | rfl | simp [upf, sc]) ?_
    refine g_aload_n F (pc' := 44) dX1_add_43 rfl rfl ?_
    refine g_getR F K (k := 1) (fld := 2) (ci := 2) (q := 3) (pc' := 47) iX1_add_X2 rfl rfl rfl (by decide) (List.mem_of_getElem? (i := 4) rfl) dX1_add_44 rfl ?_
    refine g_iconst F (pc' := 48) dX1_add_47 rfl ?_
    refine g_iald F K (k := 3) (v := M 3 0) (pc' := 49) rfl (by decide) (by decide) dX1_add_48 rfl (by first | rfl | simp [upf, sc]) ?_
    refine h_iast F K (k := 6) (pc' := 50) (sc (sc M 5 (upf (M 5) (M 4 4) (upz (M 2)))) 6 (upf (M 6) (M 4 4) (M 3 0))) (mem_up (by rfl) (by intro j hj; simp only [sc, if_neg hj])) rfl (by decide) (by omega) dX1_add_49 rfl ?_
    refine g_aload_n F (pc' := 51) dX1_add_50 rfl rfl ?_
    refine g_getR F K (k := 4) (fld := 2) (ci := 1) (q := 7) (pc' := 54) iX1_add_X1 rfl rfl rfl (by decide) (List.mem_of_getElem? (i := 5) rfl) dX1_add_51 rfl ?_
    refine g_aload_n F (pc' := 55) dX1_add_54 rfl rfl ?_
    refine g_getI F K (k := 4) (fld := 4) (ci := 1) (z := M 4 4) (pc' := 58) iX1_add_X1 rfl rfl rfl (by decide) (List.mem_of_getElem? (i := 1) rfl) dX1_add_55 rfl (by first | rfl | simp [upf, sc]) ?_
    refine g_aload_n F (pc' := 59) dX1_add_58 rfl rfl ?_
    refine g_getR F K (k := 1) (fld := 2) (ci := 2) (q := 3) (pc' := 62) iX1_add_X2 rfl rfl rfl (by decide) (List.mem_of_getElem? (i := 4) rfl) dX1_add_59 rfl ?_
    refine g_iconst F (pc' := 63) dX1_add_62 rfl ?_
    refine g_iald F K (k := 3) (v := M 3 1) (pc' := 64) rfl (by decide) (by decide) dX1_add_63 rfl (by first | rfl | simp [upf, sc]) ?_
    refine h_iast F K (k := 7) (pc' := 65) (sc (sc (sc M 5 (upf (M 5) (M 4 4) (upz (M 2)))) 6 (upf (M 6) (M 4 4) (M 3 0))) 7 (upf (M 7) (M 4 4) (M 3 1))) (mem_up (by rfl) (by intro j hj; simp only [sc, if_neg hj])) rfl (by decide) (by omega) dX1_add_64 rfl ?_
    refine g_aload_n F (pc' := 66) dX1_add_65 rfl rfl ?_
    refine g_getR F K (k := 4) (fld := 3) (ci := 1) (q := 8) (pc' := 69) iX1_add_X1 rfl rfl rfl (by decide) (List.mem_of_getElem? (i := 6) rfl) dX1_add_66 rfl ?_
    refine g_aload_n F (pc' := 70) dX1_add_69 rfl rfl ?_
    refine g_getI F K (k := 4) (fld := 4) (ci := 1) (z := M 4 4) (pc' := 73) iX1_add_X1 rfl rfl rfl (by decide) (List.mem_of_getElem? (i := 1) rfl) dX1_add_70 rfl (by first | rfl | simp [upf, sc]) ?_
    refine g_aload_n F (pc' := 74) dX1_add_73 rfl rfl ?_
    refine g_getR F K (k := 1) (fld := 2) (ci := 2) (q := 3) (pc' := 77) iX1_add_X2 rfl rfl rfl (by decide) (List.mem_of_getElem? (i := 4) rfl) dX1_add_74 rfl ?_
    refine g_iconst F (pc' := 78) dX1_add_77 rfl ?_
    refine g_iald F K (k := 3) (v := M 3 2) (pc' := 79) rfl (by decide) (by decide) dX1_add_78 rfl (by first | rfl | simp [upf, sc]) ?_
    refine h_iast F K (k := 8) (pc' := 80) (sc (sc (sc (sc M 5 (upf (M 5) (M 4 4) (upz (M 2)))) 6 (upf (M 6) (M 4 4) (M 3 0))) 7 (upf (M 7) (M 4 4) (M 3 1))) 8 (upf (M 8) (M 4 4) (M 3 2))) (mem_up (by rfl) (by intro j hj; simp only [sc, if_neg hj])) rfl (by decide) (by omega) dX1_add_79 rfl ?_
    refine g_aload_n F (pc' := 81) dX1_add_80 rfl rfl ?_
    refine g_dup F (pc' := 82) dX1_add_81 rfl rfl ?_
    refine g_getI F K (k := 4) (fld := 4) (ci := 1) (z := M 4 4) (pc' := 85) iX1_add_X1 rfl rfl rfl (by decide) (List.mem_of_getElem? (i := 1) rfl) dX1_add_82 rfl (by first | rfl | simp [upf, sc]) ?_
    refine g_iconst F (pc' := 86) dX1_add_85 rfl ?_
    refine g_iadd F (pc' := 87) dX1_add_86 rfl ?_
    refine h_putI F K (k := 4) (fld := 4) (ci := 1) (pc' := 90) (sc (sc (sc (sc (sc M 4 (upf (M 4) 4 ((M 4 4) + 1))) 5 (upf (M 5) (M 4 4) (upz (M 2)))) 6 (upf (M 6) (M 4 4) (M 3 0))) 7 (upf (M 7) (M 4 4) (M 3 1))) 8 (upf (M 8) (M 4 4) (M 3 2))) (mem_up (by rfl) (by intro j hj; simp only [sc, if_neg hj])) tyX1 tyX1_ok nmX1 iX1_add_X1 rfl rfl rfl (by decide) rfl rfl (List.mem_of_getElem? (i := 1) rfl) dX1_add_87 rfl ?_
    refine g_iconst F (pc' := 91) dX1_add_90 rfl ?_
    exact g_zret F hr hlk dX1_add_91 (Or.inr rfl) (Or.inr ⟨by omega, rfl, rfl⟩)
  refine g_aload_n F (pc' := 1) dX1_add_0 rfl rfl ?_
  refine g_getI F K (k := 4) (fld := 4) (ci := 1) (z := M 4 4) (pc' := 4) iX1_add_X1 rfl rfl rfl (by decide) (List.mem_of_getElem? (i := 1) rfl) dX1_add_1 rfl (by first | rfl | simp [upf, sc]) ?_
  refine g_bipush F (pc' := 6) dX1_add_4 rfl (by decide +kernel) ?_
  refine g_icmp_lt F (pc' := 9) (tgt := 11) dX1_add_6 rfl (by decide) (by omega) (by decide) (fun c_6 => ?_) (fun c_6 => ?_)
  · skip
    refine g_aload_n F (pc' := 12) dX1_add_11 rfl rfl ?_
    refine g_getR F K (k := 4) (fld := 0) (ci := 1) (q := 5) (pc' := 15) iX1_add_X1 rfl rfl rfl (by decide) (List.mem_of_getElem? (i := 2) rfl) dX1_add_12 rfl ?_
    refine g_aload_n F (pc' := 16) dX1_add_15 rfl rfl ?_
    refine g_getI F K (k := 4) (fld := 4) (ci := 1) (z := M 4 4) (pc' := 19) iX1_add_X1 rfl rfl rfl (by decide) (List.mem_of_getElem? (i := 1) rfl) dX1_add_16 rfl (by first | rfl | simp [upf, sc]) ?_
    refine g_aload_n F (pc' := 20) dX1_add_19 rfl rfl ?_
    refine g_iconst F (pc' := 21) dX1_add_20 rfl ?_
    refine g_bipush F (pc' := 23) dX1_add_21 rfl (by decide +kernel) ?_
    refine g_callIN F K hXc X0 (pc' := 26) (st := [.int (iI (M 4 4)), .ref (a 5)]) (c2_isSign l a M 0 117 (by omega) (by omega) hn hP) ⟨va_cnB 2 F.2.2.2.2 gX1_add_X2_isSign_n40 rfl rfl rfl nw2 (F.2.2.2.2 _ (List.mem_of_getElem? (i := 8) rfl)) (by decide +kernel) ⟨Nat.le_of_ble_eq_true rfl, Nat.le_of_ble_eq_true rfl⟩, F.2.2.2.2 _ (List.mem_of_getElem? (i := 7) rfl), F.2.2.2.2 _ (List.mem_of_getElem? (i := 9) rfl)⟩ rfl rfl rfl rfl (Nat.le_of_ble_eq_true rfl) dX1_add_23 rfl (fun z_23 M_23 q_23 => ?_)
    obtain ⟨rfl, mq_23⟩ := q_23
    have mq_23 := mq_23.symm; subst mq_23
    refine g_if_eq F (pc' := 29) (tgt := 33) dX1_add_26 rfl (by decide) (zC_R _) (fun c_26 => ?_) (fun c_26 => ?_)
    · skip
      have c_26 := zC_0 c_26
      refine g_iconst F (pc' := 34) dX1_add_33 rfl ?_
      exact lp_34 0 (by omega) (by unfold upz; split <;> omega)
    · skip
      have c_26 := zC_1 c_26
      refine g_iconst F (pc' := 30) dX1_add_29 rfl ?_
      refine g_goto F (tgt := 34) dX1_add_30 (by decide) ?_
      exact lp_34 1 (by omega) (by unfold upz; split <;> omega)
  · skip
    refine g_iconst F (pc' := 10) dX1_add_9 rfl ?_
    exact g_zret F hr hlk dX1_add_10 (Or.inl rfl) (Or.inl ⟨by omega, rfl, rfl⟩)

theorem iX1_remove_X1 : ∀ w ∈ wsX10, w ∈ wsX1_remove := fun _ h => List.mem_cons_of_mem _ (List.mem_append_right _ h)
set_option maxHeartbeats 4000000 in
set_option maxRecDepth 100000 in
theorem c1_remove (l : Launch) (a : Nat → Nat) (M : Mem) (u : Int) (hm : 0 ≤ M 4 4 ∧ M 4 4 ≤ 16) (hu : 0 ≤ u ∧ u < M 4 4) : CtV XS l yX1_remove wsX1_remove ({ frames := 0, cells := 0, slots := 0, locals := 0 } : Room) LC a M [.ref (a 4), .int (iI u)] (fun M' => M' = sc (sc (sc (sc (sc M 4 (upf (M 4) 4 (M 4 4 - 1))) 5 (del1 (M 5) u (M 4 4 - 1))) 6 (del1 (M 6) u (M 4 4 - 1))) 7 (del1 (M 7) u (M 4 4 - 1))) 8 (del1 (M 8) u (M 4 4 - 1))) := by
  refine CtV.of (y := yX1_remove) (cc := cX1_remove) (maxL := 3) (ret := none) (lv := [some (.ref (a 4)), some (.int (iI u)), none]) (by decide) rfl (Nat.le_of_ble_eq_true rfl) (lvOK_of _ _ ⟨rfl, rfl⟩) ?_
  intro p e s m below meth c D T F K X0 hr hlk
  have hXc := XS_c
  refine g_iload_n F (pc' := 1) dX1_remove_0 rfl rfl ?_
  refine g_istore_n F (pc' := 2) (lv' := [some (.ref (a 4)), some (.int (iI u)), some (.int (iI u))]) dX1_remove_1 rfl (by decide) rfl ?_
  refine h_mem (sc (sc (sc (sc M 5 (del1 (M 5) u u)) 6 (del1 (M 6) u u)) 7 (del1 (M 7) u u)) 8 (del1 (M 8) u u)) (by rw [del1_0, del1_0, del1_0, del1_0]; exact (sc4_id M 5 6 7 8).symm) ?_
  have lp_2 : ∀ (n_2 : Nat) (k : Int) (hm_2 : M 4 4 - k < (n_2 : Int)) (hk : u ≤ k ∧ k < M 4 4), GG p l e ({ frames := 0, cells := 0, slots := 0, locals := 0 } : Room) s m ([.ref (a 4), .int (iI u)].toArray) below meth c (PV D T a LC M (fun M' => M' = sc (sc (sc (sc (sc M 4 (upf (M 4) 4 (M 4 4 - 1))) 5 (del1 (M 5) u (M 4 4 - 1))) 6 (del1 (M 6) u (M 4 4 - 1))) 7 (del1 (M 7) u (M 4 4 - 1))) 8 (del1 (M 8) u (M 4 4 - 1))) below ([.ref (a 4), .int (iI u)].toArray) s) D (AA T a LC M s.heap.size) 3 (wld T a LC (sc (sc (sc (sc M 5 (del1 (M 5) u k)) 6 (del1 (M 6) u k)) 7 (del1 (M 7) u k)) 8 (del1 (M 8) u k))) 2 [some (.ref (a 4)), some (.int (iI u)), some (.int (iI k))] [] := by
    intro n_2
    induction n_2 with
    | zero => intro k hm_2 hk; exfalso; omega
    | succ n_2 ih_2 =>
      intro k hm_2 hk
      refine g_iload_n F (pc' := 3) dX1_remove_2 rfl rfl ?_
      refine g_iconst F (pc' := 4) dX1_remove_3 rfl ?_
      refine g_iadd F (pc' := 5) dX1_remove_4 rfl ?_
      refine g_aload_n F (pc' := 6) dX1_remove_5 rfl rfl ?_
      refine g_getI F K (k := 4) (fld := 4) (ci := 1) (z := M 4 4) (pc' := 9) iX1_remove_X1 rfl rfl rfl (by decide) (List.mem_of_getElem? (i := 1) rfl) dX1_remove_6 rfl (by first | rfl | simp [upf, sc]) ?_
      refine g_icmp_ge F (pc' := 12) (tgt := 74) dX1_remove_9 rfl (by decide) (by omega) (by omega) (fun c_9 => ?_) (fun c_9 => ?_)
      · skip
        refine g_aload_n F (pc' := 75) dX1_remove_74 rfl rfl ?_
        refine g_dup F (pc' := 76) dX1_remove_75 rfl rfl ?_
        refine g_getI F K (k := 4) (fld := 4) (ci := 1) (z := M 4 4) (pc' := 79) iX1_remove_X1 rfl rfl rfl (by decide) (List.mem_of_getElem? (i := 1) rfl) dX1_remove_76 rfl (by first | rfl | simp [upf, sc]) ?_
        refine g_iconst F (pc' := 80) dX1_remove_79 rfl ?_
        refine g_isub F (pc' := 81) dX1_remove_80 rfl ?_
        refine h_putI F K (k := 4) (fld := 4) (ci := 1) (pc' := 84) (sc (sc (sc (sc (sc M 4 (upf (M 4) 4 ((M 4 4) - 1))) 5 (del1 (M 5) u k)) 6 (del1 (M 6) u k)) 7 (del1 (M 7) u k)) 8 (del1 (M 8) u k)) (mem_up (by rfl) (by intro j hj; simp only [sc, if_neg hj])) tyX1 tyX1_ok nmX1 iX1_remove_X1 rfl rfl rfl (by decide) rfl rfl (List.mem_of_getElem? (i := 1) rfl) dX1_remove_81 rfl ?_
        exact g_vret F hr hlk dX1_remove_84 (by rw [show M 4 4 - 1 = k by omega])
      · skip
        refine g_aload_n F (pc' := 13) dX1_remove_12 rfl rfl ?_
        refine g_getR F K (k := 4) (fld := 0) (ci := 1) (q := 5) (pc' := 16) iX1_remove_X1 rfl rfl rfl (by decide) (List.mem_of_getElem? (i := 2) rfl) dX1_remove_13 rfl ?_
        refine g_iload_n F (pc' := 17) dX1_remove_16 rfl rfl ?_
        refine g_aload_n F (pc' := 18) dX1_remove_17 rfl rfl ?_
        refine g_getR F K (k := 4) (fld := 0) (ci := 1) (q := 5) (pc' := 21) iX1_remove_X1 rfl rfl rfl (by decide) (List.mem_of_getElem? (i := 2) rfl) dX1_remove_18 rfl ?_
        refine g_iload_n F (pc' := 22) dX1_remove_21 rfl rfl ?_
        refine g_iconst F (pc' := 23) dX1_remove_22 rfl ?_
        refine g_iadd F (pc' := 24) dX1_remove_23 rfl ?_
        refine g_iald F K (k := 5) (v := (del1 (M 5) u k) (k + 1)) (pc' := 25) rfl (by decide) (by omega) dX1_remove_24 rfl (by first | rfl | simp [upf, sc]) ?_
        refine h_iast F K (k := 5) (pc' := 26) (sc (sc (sc (sc M 5 (upf (del1 (M 5) u k) k ((del1 (M 5) u k) (k + 1)))) 6 (del1 (M 6) u k)) 7 (del1 (M 7) u k)) 8 (del1 (M 8) u k)) (mem_up (by rfl) (by intro j hj; simp only [sc, if_neg hj])) rfl (by decide) (by omega) dX1_remove_25 rfl ?_
        refine g_aload_n F (pc' := 27) dX1_remove_26 rfl rfl ?_
        refine g_getR F K (k := 4) (fld := 1) (ci := 1) (q := 6) (pc' := 30) iX1_remove_X1 rfl rfl rfl (by decide) (List.mem_of_getElem? (i := 3) rfl) dX1_remove_27 rfl ?_
        refine g_iload_n F (pc' := 31) dX1_remove_30 rfl rfl ?_
        refine g_aload_n F (pc' := 32) dX1_remove_31 rfl rfl ?_
        refine g_getR F K (k := 4) (fld := 1) (ci := 1) (q := 6) (pc' := 35) iX1_remove_X1 rfl rfl rfl (by decide) (List.mem_of_getElem? (i := 3) rfl) dX1_remove_32 rfl ?_
        refine g_iload_n F (pc' := 36) dX1_remove_35 rfl rfl ?_
        refine g_iconst F (pc' := 37) dX1_remove_36 rfl ?_
        refine g_iadd F (pc' := 38) dX1_remove_37 rfl ?_
        refine g_iald F K (k := 6) (v := (del1 (M 6) u k) (k + 1)) (pc' := 39) rfl (by decide) (by omega) dX1_remove_38 rfl (by first | rfl | simp [upf, sc]) ?_
        refine h_iast F K (k := 6) (pc' := 40) (sc (sc (sc (sc M 5 (upf (del1 (M 5) u k) k ((del1 (M 5) u k) (k + 1)))) 6 (upf (del1 (M 6) u k) k ((del1 (M 6) u k) (k + 1)))) 7 (del1 (M 7) u k)) 8 (del1 (M 8) u k)) (mem_up (by rfl) (by intro j hj; simp only [sc, if_neg hj])) rfl (by decide) (by omega) dX1_remove_39 rfl ?_
        refine g_aload_n F (pc' := 41) dX1_remove_40 rfl rfl ?_
        refine g_getR F K (k := 4) (fld := 2) (ci := 1) (q := 7) (pc' := 44) iX1_remove_X1 rfl rfl rfl (by decide) (List.mem_of_getElem? (i := 4) rfl) dX1_remove_41 rfl ?_
        refine g_iload_n F (pc' := 45) dX1_remove_44 rfl rfl ?_
        refine g_aload_n F (pc' := 46) dX1_remove_45 rfl rfl ?_
        refine g_getR F K (k := 4) (fld := 2) (ci := 1) (q := 7) (pc' := 49) iX1_remove_X1 rfl rfl rfl (by decide) (List.mem_of_getElem? (i := 4) rfl) dX1_remove_46 rfl ?_
        refine g_iload_n F (pc' := 50) dX1_remove_49 rfl rfl ?_
        refine g_iconst F (pc' := 51) dX1_remove_50 rfl ?_
        refine g_iadd F (pc' := 52) dX1_remove_51 rfl ?_
        refine g_iald F K (k := 7) (v := (del1 (M 7) u k) (k + 1)) (pc' := 53) rfl (by decide) (by omega) dX1_remove_52 rfl (by first | rfl | simp [upf, sc]) ?_
        refine h_iast F K (k := 7) (pc' := 54) (sc (sc (sc (sc M 5 (upf (del1 (M 5) u k) k ((del1 (M 5) u k) (k + 1)))) 6 (upf (del1 (M 6) u k) k ((del1 (M 6) u k) (k + 1)))) 7 (upf (del1 (M 7) u k) k ((del1 (M 7) u k) (k + 1)))) 8 (del1 (M 8) u k)) (mem_up (by rfl) (by intro j hj; simp only [sc, if_neg hj])) rfl (by decide) (by omega) dX1_remove_53 rfl ?_
        refine g_aload_n F (pc' := 55) dX1_remove_54 rfl rfl ?_
        refine g_getR F K (k := 4) (fld := 3) (ci := 1) (q := 8) (pc' := 58) iX1_remove_X1 rfl rfl rfl (by decide) (List.mem_of_getElem? (i := 5) rfl) dX1_remove_55 rfl ?_
        refine g_iload_n F (pc' := 59) dX1_remove_58 rfl rfl ?_
        refine g_aload_n F (pc' := 60) dX1_remove_59 rfl rfl ?_
        refine g_getR F K (k := 4) (fld := 3) (ci := 1) (q := 8) (pc' := 63) iX1_remove_X1 rfl rfl rfl (by decide) (List.mem_of_getElem? (i := 5) rfl) dX1_remove_60 rfl ?_
        refine g_iload_n F (pc' := 64) dX1_remove_63 rfl rfl ?_
        refine g_iconst F (pc' := 65) dX1_remove_64 rfl ?_
        refine g_iadd F (pc' := 66) dX1_remove_65 rfl ?_
        refine g_iald F K (k := 8) (v := (del1 (M 8) u k) (k + 1)) (pc' := 67) rfl (by decide) (by omega) dX1_remove_66 rfl (by first | rfl | simp [upf, sc]) ?_
        refine h_iast F K (k := 8) (pc' := 68) (sc (sc (sc (sc M 5 (upf (del1 (M 5) u k) k ((del1 (M 5) u k) (k + 1)))) 6 (upf (del1 (M 6) u k) k ((del1 (M 6) u k) (k + 1)))) 7 (upf (del1 (M 7) u k) k ((del1 (M 7) u k) (k + 1)))) 8 (upf (del1 (M 8) u k) k ((del1 (M 8) u k) (k + 1)))) (mem_up (by rfl) (by intro j hj; simp only [sc, if_neg hj])) rfl (by decide) (by omega) dX1_remove_67 rfl ?_
        refine g_iinc F (pc' := 71) (lv' := [some (.ref (a 4)), some (.int (iI u)), some (.int (iI (k + 1)))]) dX1_remove_68 rfl rfl (by decide) rfl ?_
        refine g_goto F (tgt := 2) dX1_remove_71 (by decide) ?_
        refine h_mem (sc (sc (sc (sc M 5 (del1 (M 5) u (k + 1))) 6 (del1 (M 6) u (k + 1))) 7 (del1 (M 7) u (k + 1))) 8 (del1 (M 8) u (k + 1))) (by rw [del1_s hk.1, del1_s hk.1, del1_s hk.1, del1_s hk.1]) ?_
        exact ih_2 (k + 1) (by omega) (by omega)
  exact lp_2 ((M 4 4 - u : Int).toNat + 1) u (by omega) (by omega)

theorem iX1_canBeStem_X1 : ∀ w ∈ wsX10, w ∈ wsX1_canBeStem := fun _ h => List.mem_cons_of_mem _ (List.mem_append_right _ h)
set_option maxHeartbeats 4000000 in
set_option maxRecDepth 100000 in
theorem c1_canBeStem (l : Launch) (a : Nat → Nat) (M : Mem) (u d : Int) (hu : 0 ≤ u ∧ u < 16) (hd : 0 ≤ d ∧ d < 16) (h5 : ∀ j, 0 ≤ M 5 j ∧ M 5 j ≤ 999) (h6 : ∀ j, 0 ≤ M 6 j ∧ M 6 j ≤ 999) (h7 : ∀ j, 0 ≤ M 7 j ∧ M 7 j ≤ 999) (h8 : ∀ j, 0 ≤ M 8 j ∧ M 8 j ≤ 999) : CtI XS l yX1_canBeStem wsX1_canBeStem ({ frames := 1, cells := 0, slots := 0, locals := 22 } : Room) LC a M [.ref (a 4), .int (iI u), .int (iI d)] (fun z M' => z = zC (canC M u d) ∧ M' = M) := by
  refine CtI.of (y := yX1_canBeStem) (cc := cX1_canBeStem) (maxL := 3) (ret := (some .boolean)) (lv := [some (.ref (a 4)), some (.int (iI u)), some (.int (iI d))]) (by decide) rfl (Nat.le_of_ble_eq_true rfl) (lvOK_of _ _ ⟨rfl, rfl⟩) ?_
  intro p e s m below meth c D T F K X0 hr hlk
  have hXc := XS_c
  obtain ⟨⟨nw1, nw2, nw3⟩, -⟩ := id X0
  refine g_aload_n F (pc' := 1) dX1_canBeStem_0 rfl rfl ?_
  refine g_getR F K (k := 4) (fld := 0) (ci := 1) (q := 5) (pc' := 4) iX1_canBeStem_X1 rfl rfl rfl (by decide) (List.mem_of_getElem? (i := 1) rfl) dX1_canBeStem_1 rfl ?_
  refine g_iload_n F (pc' := 5) dX1_canBeStem_4 rfl rfl ?_
  refine g_iald F K (k := 5) (v := M 5 u) (pc' := 6) rfl (by decide) (by omega) dX1_canBeStem_5 rfl (by first | rfl | simp [upf, sc]) ?_
  have b_5 := h5 u
  refine g_iconst F (pc' := 7) dX1_canBeStem_6 rfl ?_
  refine g_icmp_ne F (pc' := 10) (tgt := 79) dX1_canBeStem_7 rfl (by decide) (by omega) (by decide) (fun c_7 => ?_) (fun c_7 => ?_)
  · skip
    refine g_iconst F (pc' := 80) dX1_canBeStem_79 rfl ?_
    exact g_zret F hr hlk dX1_canBeStem_80 (Or.inl rfl) (⟨by first | exact (zC_t ⟨⟨by omega, by omega, by omega, by omega⟩, by omega⟩).symm | exact (zC_f (by rintro ⟨⟨q1, q2, q3, q4⟩, q5⟩; omega)).symm, rfl⟩)
  · skip
    refine g_aload_n F (pc' := 11) dX1_canBeStem_10 rfl rfl ?_
    refine g_getR F K (k := 4) (fld := 0) (ci := 1) (q := 5) (pc' := 14) iX1_canBeStem_X1 rfl rfl rfl (by decide) (List.mem_of_getElem? (i := 1) rfl) dX1_canBeStem_11 rfl ?_
    refine g_iload_n F (pc' := 15) dX1_canBeStem_14 rfl rfl ?_
    refine g_iald F K (k := 5) (v := M 5 d) (pc' := 16) rfl (by decide) (by omega) dX1_canBeStem_15 rfl (by first | rfl | simp [upf, sc]) ?_
    have b_15 := h5 d
    refine g_if_ne F (pc' := 19) (tgt := 79) dX1_canBeStem_16 rfl (by decide) (by omega) (fun c_16 => ?_) (fun c_16 => ?_)
    · skip
      refine g_iconst F (pc' := 80) dX1_canBeStem_79 rfl ?_
      exact g_zret F hr hlk dX1_canBeStem_80 (Or.inl rfl) (⟨by first | exact (zC_t ⟨⟨by omega, by omega, by omega, by omega⟩, by omega⟩).symm | exact (zC_f (by rintro ⟨⟨q1, q2, q3, q4⟩, q5⟩; omega)).symm, rfl⟩)
    · skip
      refine g_aload_n F (pc' := 20) dX1_canBeStem_19 rfl rfl ?_
      refine g_getR F K (k := 4) (fld := 1) (ci := 1) (q := 6) (pc' := 23) iX1_canBeStem_X1 rfl rfl rfl (by decide) (List.mem_of_getElem? (i := 2) rfl) dX1_canBeStem_20 rfl ?_
      refine g_iload_n F (pc' := 24) dX1_canBeStem_23 rfl rfl ?_
      refine g_iald F K (k := 6) (v := M 6 d) (pc' := 25) rfl (by decide) (by omega) dX1_canBeStem_24 rfl (by first | rfl | simp [upf, sc]) ?_
      have b_24 := h6 d
      refine g_aload_n F (pc' := 26) dX1_canBeStem_25 rfl rfl ?_
      refine g_getR F K (k := 4) (fld := 1) (ci := 1) (q := 6) (pc' := 29) iX1_canBeStem_X1 rfl rfl rfl (by decide) (List.mem_of_getElem? (i := 2) rfl) dX1_canBeStem_26 rfl ?_
      refine g_iload_n F (pc' := 30) dX1_canBeStem_29 rfl rfl ?_
      refine g_iald F K (k := 6) (v := M 6 u) (pc' := 31) rfl (by decide) (by omega) dX1_canBeStem_30 rfl (by first | rfl | simp [upf, sc]) ?_
      have b_30 := h6 u
      refine g_isub F (pc' := 32) dX1_canBeStem_31 rfl ?_
      refine g_iconst F (pc' := 33) dX1_canBeStem_32 rfl ?_
      refine g_sipush F (pc' := 36) dX1_canBeStem_33 rfl (by decide +kernel) ?_
      refine g_callPN F (pc' := 39) (st := []) (c4_isWithin l ((M 6 d) - (M 6 u)) 1 300 (by omega) (by omega) (by omega)) ⟨va_cnB 3 F.2.2.2.2 gX1_canBeStem_X4_isWithin_n49 rfl rfl rfl nw3 (F.2.2.2.2 _ (List.mem_of_getElem? (i := 13) rfl)) (by decide +kernel) ⟨Nat.le_of_ble_eq_true rfl, Nat.le_of_ble_eq_true rfl⟩, F.2.2.2.2 _ (List.mem_of_getElem? (i := 12) rfl), trivial⟩ rfl rfl (Nat.le_of_ble_eq_true rfl) dX1_canBeStem_36 rfl ?_
      refine g_if_eq F (pc' := 42) (tgt := 79) dX1_canBeStem_39 rfl (by decide) (zC_R _) (fun c_39 => ?_) (fun c_39 => ?_)
      · skip
        have c_39 := zC_0 c_39
        refine g_iconst F (pc' := 80) dX1_canBeStem_79 rfl ?_
        exact g_zret F hr hlk dX1_canBeStem_80 (Or.inl rfl) (⟨by first | exact (zC_t ⟨⟨by omega, by omega, by omega, by omega⟩, by omega⟩).symm | exact (zC_f (by rintro ⟨⟨q1, q2, q3, q4⟩, q5⟩; omega)).symm, rfl⟩)
      · skip
        have c_39 := zC_1 c_39
        refine g_aload_n F (pc' := 43) dX1_canBeStem_42 rfl rfl ?_
        refine g_getR F K (k := 4) (fld := 3) (ci := 1) (q := 8) (pc' := 46) iX1_canBeStem_X1 rfl rfl rfl (by decide) (List.mem_of_getElem? (i := 3) rfl) dX1_canBeStem_43 rfl ?_
        refine g_iload_n F (pc' := 47) dX1_canBeStem_46 rfl rfl ?_
        refine g_iald F K (k := 8) (v := M 8 u) (pc' := 48) rfl (by decide) (by omega) dX1_canBeStem_47 rfl (by first | rfl | simp [upf, sc]) ?_
        have b_47 := h8 u
        refine g_aload_n F (pc' := 49) dX1_canBeStem_48 rfl rfl ?_
        refine g_getR F K (k := 4) (fld := 3) (ci := 1) (q := 8) (pc' := 52) iX1_canBeStem_X1 rfl rfl rfl (by decide) (List.mem_of_getElem? (i := 3) rfl) dX1_canBeStem_49 rfl ?_
        refine g_iload_n F (pc' := 53) dX1_canBeStem_52 rfl rfl ?_
        refine g_iald F K (k := 8) (v := M 8 d) (pc' := 54) rfl (by decide) (by omega) dX1_canBeStem_53 rfl (by first | rfl | simp [upf, sc]) ?_
        have b_53 := h8 d
        refine g_min F (pc' := 57) (List.mem_of_getElem? (i := 4) rfl) (List.mem_of_getElem? (i := 5) rfl) (List.mem_of_getElem? (i := 6) rfl) (List.mem_of_getElem? (i := 7) rfl) (Nat.le_of_ble_eq_true rfl) (Nat.le_of_ble_eq_true rfl) (by omega) (by omega) dX1_canBeStem_54 rfl ?_
        refine g_aload_n F (pc' := 58) dX1_canBeStem_57 rfl rfl ?_
        refine g_getR F K (k := 4) (fld := 2) (ci := 1) (q := 7) (pc' := 61) iX1_canBeStem_X1 rfl rfl rfl (by decide) (List.mem_of_getElem? (i := 8) rfl) dX1_canBeStem_58 rfl ?_
        refine g_iload_n F (pc' := 62) dX1_canBeStem_61 rfl rfl ?_
        refine g_iald F K (k := 7) (v := M 7 u) (pc' := 63) rfl (by decide) (by omega) dX1_canBeStem_62 rfl (by first | rfl | simp [upf, sc]) ?_
        have b_62 := h7 u
        refine g_aload_n F (pc' := 64) dX1_canBeStem_63 rfl rfl ?_
        refine g_getR F K (k := 4) (fld := 2) (ci := 1) (q := 7) (pc' := 67) iX1_canBeStem_X1 rfl rfl rfl (by decide) (List.mem_of_getElem? (i := 8) rfl) dX1_canBeStem_64 rfl ?_
        refine g_iload_n F (pc' := 68) dX1_canBeStem_67 rfl rfl ?_
        refine g_iald F K (k := 7) (v := M 7 d) (pc' := 69) rfl (by decide) (by omega) dX1_canBeStem_68 rfl (by first | rfl | simp [upf, sc]) ?_
        have b_68 := h7 d
        refine g_max F (pc' := 72) (List.mem_of_getElem? (i := 9) rfl) (List.mem_of_getElem? (i := 10) rfl) (List.mem_of_getElem? (i := 6) rfl) (List.mem_of_getElem? (i := 11) rfl) (Nat.le_of_ble_eq_true rfl) (Nat.le_of_ble_eq_true rfl) (by omega) (by omega) dX1_canBeStem_69 rfl ?_
        refine g_icmp_le F (pc' := 75) (tgt := 79) dX1_canBeStem_72 rfl (by decide) (by omega) (by omega) (fun c_72 => ?_) (fun c_72 => ?_)
        · skip
          refine g_iconst F (pc' := 80) dX1_canBeStem_79 rfl ?_
          exact g_zret F hr hlk dX1_canBeStem_80 (Or.inl rfl) (⟨by first | exact (zC_t ⟨⟨by omega, by omega, by omega, by omega⟩, by omega⟩).symm | exact (zC_f (by rintro ⟨⟨q1, q2, q3, q4⟩, q5⟩; omega)).symm, rfl⟩)
        · skip
          refine g_iconst F (pc' := 76) dX1_canBeStem_75 rfl ?_
          refine g_goto F (tgt := 80) dX1_canBeStem_76 (by decide) ?_
          exact g_zret F hr hlk dX1_canBeStem_80 (Or.inr rfl) (⟨by first | exact (zC_t ⟨⟨by omega, by omega, by omega, by omega⟩, by omega⟩).symm | exact (zC_f (by rintro ⟨⟨q1, q2, q3, q4⟩, q5⟩; omega)).symm, rfl⟩)

theorem iX1_take_X1 : ∀ w ∈ wsX10, w ∈ wsX1_take := fun _ h => List.mem_cons_of_mem _ (List.mem_append_right _ h)
set_option maxHeartbeats 4000000 in
set_option maxRecDepth 100000 in
theorem c1_take_4_10 (l : Launch) (a : Nat → Nat) (M : Mem) : CtV XS l yX1_take wsX1_take ({ frames := 1, cells := 0, slots := 0, locals := 18 } : Room) LC a M [.ref (a 4), .ref (a 10)] (fun M' => M' = takeM M 4 10) := by
  refine CtV.of (y := yX1_take) (cc := cX1_take) (maxL := 2) (ret := none) (lv := [some (.ref (a 4)), some (.ref (a 10))]) (by decide) rfl (Nat.le_of_ble_eq_true rfl) (lvOK_of _ _ ⟨rfl, rfl⟩) ?_
  intro p e s m below meth c D T F K X0 hr hlk
  have hXc := XS_c
  refine g_aload_n F (pc' := 1) dX1_take_0 rfl rfl ?_
  refine g_getR F K (k := 10) (fld := 0) (ci := 1) (q := 11) (pc' := 4) iX1_take_X1 rfl rfl rfl (by decide) (List.mem_of_getElem? (i := 1) rfl) dX1_take_1 rfl ?_
  refine g_iconst F (pc' := 5) dX1_take_4 rfl ?_
  refine g_aload_n F (pc' := 6) dX1_take_5 rfl rfl ?_
  refine g_getR F K (k := 4) (fld := 0) (ci := 1) (q := 5) (pc' := 9) iX1_take_X1 rfl rfl rfl (by decide) (List.mem_of_getElem? (i := 1) rfl) dX1_take_6 rfl ?_
  refine g_iconst F (pc' := 10) dX1_take_9 rfl ?_
  refine g_bipush F (pc' := 12) dX1_take_10 rfl (by decide +kernel) ?_
  refine h_copy F K (k1 := 11) (k2 := 5) (n := 16) (pc' := 15) (sc M 5 (cpr (M 5) (M 11) 0 16)) (by rfl) rfl rfl rfl (by decide) (by decide) (by decide) (List.mem_of_getElem? (i := 2) rfl) (List.mem_of_getElem? (i := 3) rfl) (List.mem_of_getElem? (i := 4) rfl) (List.mem_of_getElem? (i := 5) rfl) (Nat.le_of_ble_eq_true rfl) (Nat.le_of_ble_eq_true rfl) dX1_take_12 rfl ?_
  refine g_aload_n F (pc' := 16) dX1_take_15 rfl rfl ?_
  refine g_getR F K (k := 10) (fld := 1) (ci := 1) (q := 12) (pc' := 19) iX1_take_X1 rfl rfl rfl (by decide) (List.mem_of_getElem? (i := 6) rfl) dX1_take_16 rfl ?_
  refine g_iconst F (pc' := 20) dX1_take_19 rfl ?_
  refine g_aload_n F (pc' := 21) dX1_take_20 rfl rfl ?_
  refine g_getR F K (k := 4) (fld := 1) (ci := 1) (q := 6) (pc' := 24) iX1_take_X1 rfl rfl rfl (by decide) (List.mem_of_getElem? (i := 6) rfl) dX1_take_21 rfl ?_
  refine g_iconst F (pc' := 25) dX1_take_24 rfl ?_
  refine g_bipush F (pc' := 27) dX1_take_25 rfl (by decide +kernel) ?_
  refine h_copy F K (k1 := 12) (k2 := 6) (n := 16) (pc' := 30) (sc (sc M 5 (cpr (M 5) (M 11) 0 16)) 6 (cpr (M 6) (M 12) 0 16)) (by rfl) rfl rfl rfl (by decide) (by decide) (by decide) (List.mem_of_getElem? (i := 2) rfl) (List.mem_of_getElem? (i := 3) rfl) (List.mem_of_getElem? (i := 4) rfl) (List.mem_of_getElem? (i := 5) rfl) (Nat.le_of_ble_eq_true rfl) (Nat.le_of_ble_eq_true rfl) dX1_take_27 rfl ?_
  refine g_aload_n F (pc' := 31) dX1_take_30 rfl rfl ?_
  refine g_getR F K (k := 10) (fld := 2) (ci := 1) (q := 13) (pc' := 34) iX1_take_X1 rfl rfl rfl (by decide) (List.mem_of_getElem? (i := 7) rfl) dX1_take_31 rfl ?_
  refine g_iconst F (pc' := 35) dX1_take_34 rfl ?_
  refine g_aload_n F (pc' := 36) dX1_take_35 rfl rfl ?_
  refine g_getR F K (k := 4) (fld := 2) (ci := 1) (q := 7) (pc' := 39) iX1_take_X1 rfl rfl rfl (by decide) (List.mem_of_getElem? (i := 7) rfl) dX1_take_36 rfl ?_
  refine g_iconst F (pc' := 40) dX1_take_39 rfl ?_
  refine g_bipush F (pc' := 42) dX1_take_40 rfl (by decide +kernel) ?_
  refine h_copy F K (k1 := 13) (k2 := 7) (n := 16) (pc' := 45) (sc (sc (sc M 5 (cpr (M 5) (M 11) 0 16)) 6 (cpr (M 6) (M 12) 0 16)) 7 (cpr (M 7) (M 13) 0 16)) (by rfl) rfl rfl rfl (by decide) (by decide) (by decide) (List.mem_of_getElem? (i := 2) rfl) (List.mem_of_getElem? (i := 3) rfl) (List.mem_of_getElem? (i := 4) rfl) (List.mem_of_getElem? (i := 5) rfl) (Nat.le_of_ble_eq_true rfl) (Nat.le_of_ble_eq_true rfl) dX1_take_42 rfl ?_
  refine g_aload_n F (pc' := 46) dX1_take_45 rfl rfl ?_
  refine g_getR F K (k := 10) (fld := 3) (ci := 1) (q := 14) (pc' := 49) iX1_take_X1 rfl rfl rfl (by decide) (List.mem_of_getElem? (i := 8) rfl) dX1_take_46 rfl ?_
  refine g_iconst F (pc' := 50) dX1_take_49 rfl ?_
  refine g_aload_n F (pc' := 51) dX1_take_50 rfl rfl ?_
  refine g_getR F K (k := 4) (fld := 3) (ci := 1) (q := 8) (pc' := 54) iX1_take_X1 rfl rfl rfl (by decide) (List.mem_of_getElem? (i := 8) rfl) dX1_take_51 rfl ?_
  refine g_iconst F (pc' := 55) dX1_take_54 rfl ?_
  refine g_bipush F (pc' := 57) dX1_take_55 rfl (by decide +kernel) ?_
  refine h_copy F K (k1 := 14) (k2 := 8) (n := 16) (pc' := 60) (sc (sc (sc (sc M 5 (cpr (M 5) (M 11) 0 16)) 6 (cpr (M 6) (M 12) 0 16)) 7 (cpr (M 7) (M 13) 0 16)) 8 (cpr (M 8) (M 14) 0 16)) (by rfl) rfl rfl rfl (by decide) (by decide) (by decide) (List.mem_of_getElem? (i := 2) rfl) (List.mem_of_getElem? (i := 3) rfl) (List.mem_of_getElem? (i := 4) rfl) (List.mem_of_getElem? (i := 5) rfl) (Nat.le_of_ble_eq_true rfl) (Nat.le_of_ble_eq_true rfl) dX1_take_57 rfl ?_
  refine g_aload_n F (pc' := 61) dX1_take_60 rfl rfl ?_
  refine g_aload_n F (pc' := 62) dX1_take_61 rfl rfl ?_
  refine g_getI F K (k := 10) (fld := 4) (ci := 1) (z := M 10 4) (pc' := 65) iX1_take_X1 rfl rfl rfl (by decide) (List.mem_of_getElem? (i := 9) rfl) dX1_take_62 rfl (by first | rfl | simp [upf, sc]) ?_
  refine h_putI F K (k := 4) (fld := 4) (ci := 1) (pc' := 68) (sc (sc (sc (sc (sc M 4 (upf (M 4) 4 (M 10 4))) 5 (cpr (M 5) (M 11) 0 16)) 6 (cpr (M 6) (M 12) 0 16)) 7 (cpr (M 7) (M 13) 0 16)) 8 (cpr (M 8) (M 14) 0 16)) (mem_up (by rfl) (by intro j hj; simp only [sc, if_neg hj])) tyX1 tyX1_ok nmX1 iX1_take_X1 rfl rfl rfl (by decide) rfl rfl (List.mem_of_getElem? (i := 9) rfl) dX1_take_65 rfl ?_
  refine g_aload_n F (pc' := 69) dX1_take_68 rfl rfl ?_
  refine g_getR F K (k := 10) (fld := 5) (ci := 1) (q := 15) (pc' := 72) iX1_take_X1 rfl rfl rfl (by decide) (List.mem_of_getElem? (i := 10) rfl) dX1_take_69 rfl ?_
  refine g_iconst F (pc' := 73) dX1_take_72 rfl ?_
  refine g_aload_n F (pc' := 74) dX1_take_73 rfl rfl ?_
  refine g_getR F K (k := 4) (fld := 5) (ci := 1) (q := 9) (pc' := 77) iX1_take_X1 rfl rfl rfl (by decide) (List.mem_of_getElem? (i := 10) rfl) dX1_take_74 rfl ?_
  refine g_iconst F (pc' := 78) dX1_take_77 rfl ?_
  refine g_iconst F (pc' := 79) dX1_take_78 rfl ?_
  refine h_copy F K (k1 := 15) (k2 := 9) (n := 5) (pc' := 82) (sc (sc (sc (sc (sc (sc M 4 (upf (M 4) 4 (M 10 4))) 5 (cpr (M 5) (M 11) 0 16)) 6 (cpr (M 6) (M 12) 0 16)) 7 (cpr (M 7) (M 13) 0 16)) 8 (cpr (M 8) (M 14) 0 16)) 9 (cpr (M 9) (M 15) 0 5)) (by rfl) rfl rfl rfl (by decide) (by decide) (by decide) (List.mem_of_getElem? (i := 2) rfl) (List.mem_of_getElem? (i := 3) rfl) (List.mem_of_getElem? (i := 4) rfl) (List.mem_of_getElem? (i := 5) rfl) (Nat.le_of_ble_eq_true rfl) (Nat.le_of_ble_eq_true rfl) dX1_take_79 rfl ?_
  exact g_vret F hr hlk dX1_take_82 (rfl)

set_option maxHeartbeats 4000000 in
set_option maxRecDepth 100000 in
theorem c1_take_4_16 (l : Launch) (a : Nat → Nat) (M : Mem) : CtV XS l yX1_take wsX1_take ({ frames := 1, cells := 0, slots := 0, locals := 18 } : Room) LC a M [.ref (a 4), .ref (a 16)] (fun M' => M' = takeM M 4 16) := by
  refine CtV.of (y := yX1_take) (cc := cX1_take) (maxL := 2) (ret := none) (lv := [some (.ref (a 4)), some (.ref (a 16))]) (by decide) rfl (Nat.le_of_ble_eq_true rfl) (lvOK_of _ _ ⟨rfl, rfl⟩) ?_
  intro p e s m below meth c D T F K X0 hr hlk
  have hXc := XS_c
  refine g_aload_n F (pc' := 1) dX1_take_0 rfl rfl ?_
  refine g_getR F K (k := 16) (fld := 0) (ci := 1) (q := 17) (pc' := 4) iX1_take_X1 rfl rfl rfl (by decide) (List.mem_of_getElem? (i := 1) rfl) dX1_take_1 rfl ?_
  refine g_iconst F (pc' := 5) dX1_take_4 rfl ?_
  refine g_aload_n F (pc' := 6) dX1_take_5 rfl rfl ?_
  refine g_getR F K (k := 4) (fld := 0) (ci := 1) (q := 5) (pc' := 9) iX1_take_X1 rfl rfl rfl (by decide) (List.mem_of_getElem? (i := 1) rfl) dX1_take_6 rfl ?_
  refine g_iconst F (pc' := 10) dX1_take_9 rfl ?_
  refine g_bipush F (pc' := 12) dX1_take_10 rfl (by decide +kernel) ?_
  refine h_copy F K (k1 := 17) (k2 := 5) (n := 16) (pc' := 15) (sc M 5 (cpr (M 5) (M 17) 0 16)) (by rfl) rfl rfl rfl (by decide) (by decide) (by decide) (List.mem_of_getElem? (i := 2) rfl) (List.mem_of_getElem? (i := 3) rfl) (List.mem_of_getElem? (i := 4) rfl) (List.mem_of_getElem? (i := 5) rfl) (Nat.le_of_ble_eq_true rfl) (Nat.le_of_ble_eq_true rfl) dX1_take_12 rfl ?_
  refine g_aload_n F (pc' := 16) dX1_take_15 rfl rfl ?_
  refine g_getR F K (k := 16) (fld := 1) (ci := 1) (q := 18) (pc' := 19) iX1_take_X1 rfl rfl rfl (by decide) (List.mem_of_getElem? (i := 6) rfl) dX1_take_16 rfl ?_
  refine g_iconst F (pc' := 20) dX1_take_19 rfl ?_
  refine g_aload_n F (pc' := 21) dX1_take_20 rfl rfl ?_
  refine g_getR F K (k := 4) (fld := 1) (ci := 1) (q := 6) (pc' := 24) iX1_take_X1 rfl rfl rfl (by decide) (List.mem_of_getElem? (i := 6) rfl) dX1_take_21 rfl ?_
  refine g_iconst F (pc' := 25) dX1_take_24 rfl ?_
  refine g_bipush F (pc' := 27) dX1_take_25 rfl (by decide +kernel) ?_
  refine h_copy F K (k1 := 18) (k2 := 6) (n := 16) (pc' := 30) (sc (sc M 5 (cpr (M 5) (M 17) 0 16)) 6 (cpr (M 6) (M 18) 0 16)) (by rfl) rfl rfl rfl (by decide) (by decide) (by decide) (List.mem_of_getElem? (i := 2) rfl) (List.mem_of_getElem? (i := 3) rfl) (List.mem_of_getElem? (i := 4) rfl) (List.mem_of_getElem? (i := 5) rfl) (Nat.le_of_ble_eq_true rfl) (Nat.le_of_ble_eq_true rfl) dX1_take_27 rfl ?_
  refine g_aload_n F (pc' := 31) dX1_take_30 rfl rfl ?_
  refine g_getR F K (k := 16) (fld := 2) (ci := 1) (q := 19) (pc' := 34) iX1_take_X1 rfl rfl rfl (by decide) (List.mem_of_getElem? (i := 7) rfl) dX1_take_31 rfl ?_
  refine g_iconst F (pc' := 35) dX1_take_34 rfl ?_
  refine g_aload_n F (pc' := 36) dX1_take_35 rfl rfl ?_
  refine g_getR F K (k := 4) (fld := 2) (ci := 1) (q := 7) (pc' := 39) iX1_take_X1 rfl rfl rfl (by decide) (List.mem_of_getElem? (i := 7) rfl) dX1_take_36 rfl ?_
  refine g_iconst F (pc' := 40) dX1_take_39 rfl ?_
  refine g_bipush F (pc' := 42) dX1_take_40 rfl (by decide +kernel) ?_
  refine h_copy F K (k1 := 19) (k2 := 7) (n := 16) (pc' := 45) (sc (sc (sc M 5 (cpr (M 5) (M 17) 0 16)) 6 (cpr (M 6) (M 18) 0 16)) 7 (cpr (M 7) (M 19) 0 16)) (by rfl) rfl rfl rfl (by decide) (by decide) (by decide) (List.mem_of_getElem? (i := 2) rfl) (List.mem_of_getElem? (i := 3) rfl) (List.mem_of_getElem? (i := 4) rfl) (List.mem_of_getElem? (i := 5) rfl) (Nat.le_of_ble_eq_true rfl) (Nat.le_of_ble_eq_true rfl) dX1_take_42 rfl ?_
  refine g_aload_n F (pc' := 46) dX1_take_45 rfl rfl ?_
  refine g_getR F K (k := 16) (fld := 3) (ci := 1) (q := 20) (pc' := 49) iX1_take_X1 rfl rfl rfl (by decide) (List.mem_of_getElem? (i := 8) rfl) dX1_take_46 rfl ?_
  refine g_iconst F (pc' := 50) dX1_take_49 rfl ?_
  refine g_aload_n F (pc' := 51) dX1_take_50 rfl rfl ?_
  refine g_getR F K (k := 4) (fld := 3) (ci := 1) (q := 8) (pc' := 54) iX1_take_X1 rfl rfl rfl (by decide) (List.mem_of_getElem? (i := 8) rfl) dX1_take_51 rfl ?_
  refine g_iconst F (pc' := 55) dX1_take_54 rfl ?_
  refine g_bipush F (pc' := 57) dX1_take_55 rfl (by decide +kernel) ?_
  refine h_copy F K (k1 := 20) (k2 := 8) (n := 16) (pc' := 60) (sc (sc (sc (sc M 5 (cpr (M 5) (M 17) 0 16)) 6 (cpr (M 6) (M 18) 0 16)) 7 (cpr (M 7) (M 19) 0 16)) 8 (cpr (M 8) (M 20) 0 16)) (by rfl) rfl rfl rfl (by decide) (by decide) (by decide) (List.mem_of_getElem? (i := 2) rfl) (List.mem_of_getElem? (i := 3) rfl) (List.mem_of_getElem? (i := 4) rfl) (List.mem_of_getElem? (i := 5) rfl) (Nat.le_of_ble_eq_true rfl) (Nat.le_of_ble_eq_true rfl) dX1_take_57 rfl ?_
  refine g_aload_n F (pc' := 61) dX1_take_60 rfl rfl ?_
  refine g_aload_n F (pc' := 62) dX1_take_61 rfl rfl ?_
  refine g_getI F K (k := 16) (fld := 4) (ci := 1) (z := M 16 4) (pc' := 65) iX1_take_X1 rfl rfl rfl (by decide) (List.mem_of_getElem? (i := 9) rfl) dX1_take_62 rfl (by first | rfl | simp [upf, sc]) ?_
  refine h_putI F K (k := 4) (fld := 4) (ci := 1) (pc' := 68) (sc (sc (sc (sc (sc M 4 (upf (M 4) 4 (M 16 4))) 5 (cpr (M 5) (M 17) 0 16)) 6 (cpr (M 6) (M 18) 0 16)) 7 (cpr (M 7) (M 19) 0 16)) 8 (cpr (M 8) (M 20) 0 16)) (mem_up (by rfl) (by intro j hj; simp only [sc, if_neg hj])) tyX1 tyX1_ok nmX1 iX1_take_X1 rfl rfl rfl (by decide) rfl rfl (List.mem_of_getElem? (i := 9) rfl) dX1_take_65 rfl ?_
  refine g_aload_n F (pc' := 69) dX1_take_68 rfl rfl ?_
  refine g_getR F K (k := 16) (fld := 5) (ci := 1) (q := 21) (pc' := 72) iX1_take_X1 rfl rfl rfl (by decide) (List.mem_of_getElem? (i := 10) rfl) dX1_take_69 rfl ?_
  refine g_iconst F (pc' := 73) dX1_take_72 rfl ?_
  refine g_aload_n F (pc' := 74) dX1_take_73 rfl rfl ?_
  refine g_getR F K (k := 4) (fld := 5) (ci := 1) (q := 9) (pc' := 77) iX1_take_X1 rfl rfl rfl (by decide) (List.mem_of_getElem? (i := 10) rfl) dX1_take_74 rfl ?_
  refine g_iconst F (pc' := 78) dX1_take_77 rfl ?_
  refine g_iconst F (pc' := 79) dX1_take_78 rfl ?_
  refine h_copy F K (k1 := 21) (k2 := 9) (n := 5) (pc' := 82) (sc (sc (sc (sc (sc (sc M 4 (upf (M 4) 4 (M 16 4))) 5 (cpr (M 5) (M 17) 0 16)) 6 (cpr (M 6) (M 18) 0 16)) 7 (cpr (M 7) (M 19) 0 16)) 8 (cpr (M 8) (M 20) 0 16)) 9 (cpr (M 9) (M 21) 0 5)) (by rfl) rfl rfl rfl (by decide) (by decide) (by decide) (List.mem_of_getElem? (i := 2) rfl) (List.mem_of_getElem? (i := 3) rfl) (List.mem_of_getElem? (i := 4) rfl) (List.mem_of_getElem? (i := 5) rfl) (Nat.le_of_ble_eq_true rfl) (Nat.le_of_ble_eq_true rfl) dX1_take_79 rfl ?_
  exact g_vret F hr hlk dX1_take_82 (rfl)

set_option maxHeartbeats 4000000 in
set_option maxRecDepth 100000 in
theorem c1_take_10_4 (l : Launch) (a : Nat → Nat) (M : Mem) : CtV XS l yX1_take wsX1_take ({ frames := 1, cells := 0, slots := 0, locals := 18 } : Room) LC a M [.ref (a 10), .ref (a 4)] (fun M' => M' = takeM M 10 4) := by
  refine CtV.of (y := yX1_take) (cc := cX1_take) (maxL := 2) (ret := none) (lv := [some (.ref (a 10)), some (.ref (a 4))]) (by decide) rfl (Nat.le_of_ble_eq_true rfl) (lvOK_of _ _ ⟨rfl, rfl⟩) ?_
  intro p e s m below meth c D T F K X0 hr hlk
  have hXc := XS_c
  refine g_aload_n F (pc' := 1) dX1_take_0 rfl rfl ?_
  refine g_getR F K (k := 4) (fld := 0) (ci := 1) (q := 5) (pc' := 4) iX1_take_X1 rfl rfl rfl (by decide) (List.mem_of_getElem? (i := 1) rfl) dX1_take_1 rfl ?_
  refine g_iconst F (pc' := 5) dX1_take_4 rfl ?_
  refine g_aload_n F (pc' := 6) dX1_take_5 rfl rfl ?_
  refine g_getR F K (k := 10) (fld := 0) (ci := 1) (q := 11) (pc' := 9) iX1_take_X1 rfl rfl rfl (by decide) (List.mem_of_getElem? (i := 1) rfl) dX1_take_6 rfl ?_
  refine g_iconst F (pc' := 10) dX1_take_9 rfl ?_
  refine g_bipush F (pc' := 12) dX1_take_10 rfl (by decide +kernel) ?_
  refine h_copy F K (k1 := 5) (k2 := 11) (n := 16) (pc' := 15) (sc M 11 (cpr (M 11) (M 5) 0 16)) (by rfl) rfl rfl rfl (by decide) (by decide) (by decide) (List.mem_of_getElem? (i := 2) rfl) (List.mem_of_getElem? (i := 3) rfl) (List.mem_of_getElem? (i := 4) rfl) (List.mem_of_getElem? (i := 5) rfl) (Nat.le_of_ble_eq_true rfl) (Nat.le_of_ble_eq_true rfl) dX1_take_12 rfl ?_
  refine g_aload_n F (pc' := 16) dX1_take_15 rfl rfl ?_
  refine g_getR F K (k := 4) (fld := 1) (ci := 1) (q := 6) (pc' := 19) iX1_take_X1 rfl rfl rfl (by decide) (List.mem_of_getElem? (i := 6) rfl) dX1_take_16 rfl ?_
  refine g_iconst F (pc' := 20) dX1_take_19 rfl ?_
  refine g_aload_n F (pc' := 21) dX1_take_20 rfl rfl ?_
  refine g_getR F K (k := 10) (fld := 1) (ci := 1) (q := 12) (pc' := 24) iX1_take_X1 rfl rfl rfl (by decide) (List.mem_of_getElem? (i := 6) rfl) dX1_take_21 rfl ?_
  refine g_iconst F (pc' := 25) dX1_take_24 rfl ?_
  refine g_bipush F (pc' := 27) dX1_take_25 rfl (by decide +kernel) ?_
  refine h_copy F K (k1 := 6) (k2 := 12) (n := 16) (pc' := 30) (sc (sc M 11 (cpr (M 11) (M 5) 0 16)) 12 (cpr (M 12) (M 6) 0 16)) (by rfl) rfl rfl rfl (by decide) (by decide) (by decide) (List.mem_of_getElem? (i := 2) rfl) (List.mem_of_getElem? (i := 3) rfl) (List.mem_of_getElem? (i := 4) rfl) (List.mem_of_getElem? (i := 5) rfl) (Nat.le_of_ble_eq_true rfl) (Nat.le_of_ble_eq_true rfl) dX1_take_27 rfl ?_
  refine g_aload_n F (pc' := 31) dX1_take_30 rfl rfl ?_
  refine g_getR F K (k := 4) (fld := 2) (ci := 1) (q := 7) (pc' := 34) iX1_take_X1 rfl rfl rfl (by decide) (List.mem_of_getElem? (i := 7) rfl) dX1_take_31 rfl ?_
  refine g_iconst F (pc' := 35) dX1_take_34 rfl ?_
  refine g_aload_n F (pc' := 36) dX1_take_35 rfl rfl ?_
  refine g_getR F K (k := 10) (fld := 2) (ci := 1) (q := 13) (pc' := 39) iX1_take_X1 rfl rfl rfl (by decide) (List.mem_of_getElem? (i := 7) rfl) dX1_take_36 rfl ?_
  refine g_iconst F (pc' := 40) dX1_take_39 rfl ?_
  refine g_bipush F (pc' := 42) dX1_take_40 rfl (by decide +kernel) ?_
  refine h_copy F K (k1 := 7) (k2 := 13) (n := 16) (pc' := 45) (sc (sc (sc M 11 (cpr (M 11) (M 5) 0 16)) 12 (cpr (M 12) (M 6) 0 16)) 13 (cpr (M 13) (M 7) 0 16)) (by rfl) rfl rfl rfl (by decide) (by decide) (by decide) (List.mem_of_getElem? (i := 2) rfl) (List.mem_of_getElem? (i := 3) rfl) (List.mem_of_getElem? (i := 4) rfl) (List.mem_of_getElem? (i := 5) rfl) (Nat.le_of_ble_eq_true rfl) (Nat.le_of_ble_eq_true rfl) dX1_take_42 rfl ?_
  refine g_aload_n F (pc' := 46) dX1_take_45 rfl rfl ?_
  refine g_getR F K (k := 4) (fld := 3) (ci := 1) (q := 8) (pc' := 49) iX1_take_X1 rfl rfl rfl (by decide) (List.mem_of_getElem? (i := 8) rfl) dX1_take_46 rfl ?_
  refine g_iconst F (pc' := 50) dX1_take_49 rfl ?_
  refine g_aload_n F (pc' := 51) dX1_take_50 rfl rfl ?_
  refine g_getR F K (k := 10) (fld := 3) (ci := 1) (q := 14) (pc' := 54) iX1_take_X1 rfl rfl rfl (by decide) (List.mem_of_getElem? (i := 8) rfl) dX1_take_51 rfl ?_
  refine g_iconst F (pc' := 55) dX1_take_54 rfl ?_
  refine g_bipush F (pc' := 57) dX1_take_55 rfl (by decide +kernel) ?_
  refine h_copy F K (k1 := 8) (k2 := 14) (n := 16) (pc' := 60) (sc (sc (sc (sc M 11 (cpr (M 11) (M 5) 0 16)) 12 (cpr (M 12) (M 6) 0 16)) 13 (cpr (M 13) (M 7) 0 16)) 14 (cpr (M 14) (M 8) 0 16)) (by rfl) rfl rfl rfl (by decide) (by decide) (by decide) (List.mem_of_getElem? (i := 2) rfl) (List.mem_of_getElem? (i := 3) rfl) (List.mem_of_getElem? (i := 4) rfl) (List.mem_of_getElem? (i := 5) rfl) (Nat.le_of_ble_eq_true rfl) (Nat.le_of_ble_eq_true rfl) dX1_take_57 rfl ?_
  refine g_aload_n F (pc' := 61) dX1_take_60 rfl rfl ?_
  refine g_aload_n F (pc' := 62) dX1_take_61 rfl rfl ?_
  refine g_getI F K (k := 4) (fld := 4) (ci := 1) (z := M 4 4) (pc' := 65) iX1_take_X1 rfl rfl rfl (by decide) (List.mem_of_getElem? (i := 9) rfl) dX1_take_62 rfl (by first | rfl | simp [upf, sc]) ?_
  refine h_putI F K (k := 10) (fld := 4) (ci := 1) (pc' := 68) (sc (sc (sc (sc (sc M 10 (upf (M 10) 4 (M 4 4))) 11 (cpr (M 11) (M 5) 0 16)) 12 (cpr (M 12) (M 6) 0 16)) 13 (cpr (M 13) (M 7) 0 16)) 14 (cpr (M 14) (M 8) 0 16)) (mem_up (by rfl) (by intro j hj; simp only [sc, if_neg hj])) tyX1 tyX1_ok nmX1 iX1_take_X1 rfl rfl rfl (by decide) rfl rfl (List.mem_of_getElem? (i := 9) rfl) dX1_take_65 rfl ?_
  refine g_aload_n F (pc' := 69) dX1_take_68 rfl rfl ?_
  refine g_getR F K (k := 4) (fld := 5) (ci := 1) (q := 9) (pc' := 72) iX1_take_X1 rfl rfl rfl (by decide) (List.mem_of_getElem? (i := 10) rfl) dX1_take_69 rfl ?_
  refine g_iconst F (pc' := 73) dX1_take_72 rfl ?_
  refine g_aload_n F (pc' := 74) dX1_take_73 rfl rfl ?_
  refine g_getR F K (k := 10) (fld := 5) (ci := 1) (q := 15) (pc' := 77) iX1_take_X1 rfl rfl rfl (by decide) (List.mem_of_getElem? (i := 10) rfl) dX1_take_74 rfl ?_
  refine g_iconst F (pc' := 78) dX1_take_77 rfl ?_
  refine g_iconst F (pc' := 79) dX1_take_78 rfl ?_
  refine h_copy F K (k1 := 9) (k2 := 15) (n := 5) (pc' := 82) (sc (sc (sc (sc (sc (sc M 10 (upf (M 10) 4 (M 4 4))) 11 (cpr (M 11) (M 5) 0 16)) 12 (cpr (M 12) (M 6) 0 16)) 13 (cpr (M 13) (M 7) 0 16)) 14 (cpr (M 14) (M 8) 0 16)) 15 (cpr (M 15) (M 9) 0 5)) (by rfl) rfl rfl rfl (by decide) (by decide) (by decide) (List.mem_of_getElem? (i := 2) rfl) (List.mem_of_getElem? (i := 3) rfl) (List.mem_of_getElem? (i := 4) rfl) (List.mem_of_getElem? (i := 5) rfl) (Nat.le_of_ble_eq_true rfl) (Nat.le_of_ble_eq_true rfl) dX1_take_79 rfl ?_
  exact g_vret F hr hlk dX1_take_82 (rfl)

set_option maxHeartbeats 4000000 in
set_option maxRecDepth 100000 in
theorem c1_take_16_4 (l : Launch) (a : Nat → Nat) (M : Mem) : CtV XS l yX1_take wsX1_take ({ frames := 1, cells := 0, slots := 0, locals := 18 } : Room) LC a M [.ref (a 16), .ref (a 4)] (fun M' => M' = takeM M 16 4) := by
  refine CtV.of (y := yX1_take) (cc := cX1_take) (maxL := 2) (ret := none) (lv := [some (.ref (a 16)), some (.ref (a 4))]) (by decide) rfl (Nat.le_of_ble_eq_true rfl) (lvOK_of _ _ ⟨rfl, rfl⟩) ?_
  intro p e s m below meth c D T F K X0 hr hlk
  have hXc := XS_c
  refine g_aload_n F (pc' := 1) dX1_take_0 rfl rfl ?_
  refine g_getR F K (k := 4) (fld := 0) (ci := 1) (q := 5) (pc' := 4) iX1_take_X1 rfl rfl rfl (by decide) (List.mem_of_getElem? (i := 1) rfl) dX1_take_1 rfl ?_
  refine g_iconst F (pc' := 5) dX1_take_4 rfl ?_
  refine g_aload_n F (pc' := 6) dX1_take_5 rfl rfl ?_
  refine g_getR F K (k := 16) (fld := 0) (ci := 1) (q := 17) (pc' := 9) iX1_take_X1 rfl rfl rfl (by decide) (List.mem_of_getElem? (i := 1) rfl) dX1_take_6 rfl ?_
  refine g_iconst F (pc' := 10) dX1_take_9 rfl ?_
  refine g_bipush F (pc' := 12) dX1_take_10 rfl (by decide +kernel) ?_
  refine h_copy F K (k1 := 5) (k2 := 17) (n := 16) (pc' := 15) (sc M 17 (cpr (M 17) (M 5) 0 16)) (by rfl) rfl rfl rfl (by decide) (by decide) (by decide) (List.mem_of_getElem? (i := 2) rfl) (List.mem_of_getElem? (i := 3) rfl) (List.mem_of_getElem? (i := 4) rfl) (List.mem_of_getElem? (i := 5) rfl) (Nat.le_of_ble_eq_true rfl) (Nat.le_of_ble_eq_true rfl) dX1_take_12 rfl ?_
  refine g_aload_n F (pc' := 16) dX1_take_15 rfl rfl ?_
  refine g_getR F K (k := 4) (fld := 1) (ci := 1) (q := 6) (pc' := 19) iX1_take_X1 rfl rfl rfl (by decide) (List.mem_of_getElem? (i := 6) rfl) dX1_take_16 rfl ?_
  refine g_iconst F (pc' := 20) dX1_take_19 rfl ?_
  refine g_aload_n F (pc' := 21) dX1_take_20 rfl rfl ?_
  refine g_getR F K (k := 16) (fld := 1) (ci := 1) (q := 18) (pc' := 24) iX1_take_X1 rfl rfl rfl (by decide) (List.mem_of_getElem? (i := 6) rfl) dX1_take_21 rfl ?_
  refine g_iconst F (pc' := 25) dX1_take_24 rfl ?_
  refine g_bipush F (pc' := 27) dX1_take_25 rfl (by decide +kernel) ?_
  refine h_copy F K (k1 := 6) (k2 := 18) (n := 16) (pc' := 30) (sc (sc M 17 (cpr (M 17) (M 5) 0 16)) 18 (cpr (M 18) (M 6) 0 16)) (by rfl) rfl rfl rfl (by decide) (by decide) (by decide) (List.mem_of_getElem? (i := 2) rfl) (List.mem_of_getElem? (i := 3) rfl) (List.mem_of_getElem? (i := 4) rfl) (List.mem_of_getElem? (i := 5) rfl) (Nat.le_of_ble_eq_true rfl) (Nat.le_of_ble_eq_true rfl) dX1_take_27 rfl ?_
  refine g_aload_n F (pc' := 31) dX1_take_30 rfl rfl ?_
  refine g_getR F K (k := 4) (fld := 2) (ci := 1) (q := 7) (pc' := 34) iX1_take_X1 rfl rfl rfl (by decide) (List.mem_of_getElem? (i := 7) rfl) dX1_take_31 rfl ?_
  refine g_iconst F (pc' := 35) dX1_take_34 rfl ?_
  refine g_aload_n F (pc' := 36) dX1_take_35 rfl rfl ?_
  refine g_getR F K (k := 16) (fld := 2) (ci := 1) (q := 19) (pc' := 39) iX1_take_X1 rfl rfl rfl (by decide) (List.mem_of_getElem? (i := 7) rfl) dX1_take_36 rfl ?_
  refine g_iconst F (pc' := 40) dX1_take_39 rfl ?_
  refine g_bipush F (pc' := 42) dX1_take_40 rfl (by decide +kernel) ?_
  refine h_copy F K (k1 := 7) (k2 := 19) (n := 16) (pc' := 45) (sc (sc (sc M 17 (cpr (M 17) (M 5) 0 16)) 18 (cpr (M 18) (M 6) 0 16)) 19 (cpr (M 19) (M 7) 0 16)) (by rfl) rfl rfl rfl (by decide) (by decide) (by decide) (List.mem_of_getElem? (i := 2) rfl) (List.mem_of_getElem? (i := 3) rfl) (List.mem_of_getElem? (i := 4) rfl) (List.mem_of_getElem? (i := 5) rfl) (Nat.le_of_ble_eq_true rfl) (Nat.le_of_ble_eq_true rfl) dX1_take_42 rfl ?_
  refine g_aload_n F (pc' := 46) dX1_take_45 rfl rfl ?_
  refine g_getR F K (k := 4) (fld := 3) (ci := 1) (q := 8) (pc' := 49) iX1_take_X1 rfl rfl rfl (by decide) (List.mem_of_getElem? (i := 8) rfl) dX1_take_46 rfl ?_
  refine g_iconst F (pc' := 50) dX1_take_49 rfl ?_
  refine g_aload_n F (pc' := 51) dX1_take_50 rfl rfl ?_
  refine g_getR F K (k := 16) (fld := 3) (ci := 1) (q := 20) (pc' := 54) iX1_take_X1 rfl rfl rfl (by decide) (List.mem_of_getElem? (i := 8) rfl) dX1_take_51 rfl ?_
  refine g_iconst F (pc' := 55) dX1_take_54 rfl ?_
  refine g_bipush F (pc' := 57) dX1_take_55 rfl (by decide +kernel) ?_
  refine h_copy F K (k1 := 8) (k2 := 20) (n := 16) (pc' := 60) (sc (sc (sc (sc M 17 (cpr (M 17) (M 5) 0 16)) 18 (cpr (M 18) (M 6) 0 16)) 19 (cpr (M 19) (M 7) 0 16)) 20 (cpr (M 20) (M 8) 0 16)) (by rfl) rfl rfl rfl (by decide) (by decide) (by decide) (List.mem_of_getElem? (i := 2) rfl) (List.mem_of_getElem? (i := 3) rfl) (List.mem_of_getElem? (i := 4) rfl) (List.mem_of_getElem? (i := 5) rfl) (Nat.le_of_ble_eq_true rfl) (Nat.le_of_ble_eq_true rfl) dX1_take_57 rfl ?_
  refine g_aload_n F (pc' := 61) dX1_take_60 rfl rfl ?_
  refine g_aload_n F (pc' := 62) dX1_take_61 rfl rfl ?_
  refine g_getI F K (k := 4) (fld := 4) (ci := 1) (z := M 4 4) (pc' := 65) iX1_take_X1 rfl rfl rfl (by decide) (List.mem_of_getElem? (i := 9) rfl) dX1_take_62 rfl (by first | rfl | simp [upf, sc]) ?_
  refine h_putI F K (k := 16) (fld := 4) (ci := 1) (pc' := 68) (sc (sc (sc (sc (sc M 16 (upf (M 16) 4 (M 4 4))) 17 (cpr (M 17) (M 5) 0 16)) 18 (cpr (M 18) (M 6) 0 16)) 19 (cpr (M 19) (M 7) 0 16)) 20 (cpr (M 20) (M 8) 0 16)) (mem_up (by rfl) (by intro j hj; simp only [sc, if_neg hj])) tyX1 tyX1_ok nmX1 iX1_take_X1 rfl rfl rfl (by decide) rfl rfl (List.mem_of_getElem? (i := 9) rfl) dX1_take_65 rfl ?_
  refine g_aload_n F (pc' := 69) dX1_take_68 rfl rfl ?_
  refine g_getR F K (k := 4) (fld := 5) (ci := 1) (q := 9) (pc' := 72) iX1_take_X1 rfl rfl rfl (by decide) (List.mem_of_getElem? (i := 10) rfl) dX1_take_69 rfl ?_
  refine g_iconst F (pc' := 73) dX1_take_72 rfl ?_
  refine g_aload_n F (pc' := 74) dX1_take_73 rfl rfl ?_
  refine g_getR F K (k := 16) (fld := 5) (ci := 1) (q := 21) (pc' := 77) iX1_take_X1 rfl rfl rfl (by decide) (List.mem_of_getElem? (i := 10) rfl) dX1_take_74 rfl ?_
  refine g_iconst F (pc' := 78) dX1_take_77 rfl ?_
  refine g_iconst F (pc' := 79) dX1_take_78 rfl ?_
  refine h_copy F K (k1 := 9) (k2 := 21) (n := 5) (pc' := 82) (sc (sc (sc (sc (sc (sc M 16 (upf (M 16) 4 (M 4 4))) 17 (cpr (M 17) (M 5) 0 16)) 18 (cpr (M 18) (M 6) 0 16)) 19 (cpr (M 19) (M 7) 0 16)) 20 (cpr (M 20) (M 8) 0 16)) 21 (cpr (M 21) (M 9) 0 5)) (by rfl) rfl rfl rfl (by decide) (by decide) (by decide) (List.mem_of_getElem? (i := 2) rfl) (List.mem_of_getElem? (i := 3) rfl) (List.mem_of_getElem? (i := 4) rfl) (List.mem_of_getElem? (i := 5) rfl) (Nat.le_of_ble_eq_true rfl) (Nat.le_of_ble_eq_true rfl) dX1_take_79 rfl ?_
  exact g_vret F hr hlk dX1_take_82 (rfl)

