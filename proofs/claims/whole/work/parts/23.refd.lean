/-! ===== the reference: edges, rules, images ===== -/
theorem fl_B {p : Int → Int} {n : Int} (hn : 0 ≤ n ∧ n ≤ 30) : (fl p n = -6 ∨ 0 ≤ fl p n) ∧ fl p n ≤ 100 := by
  have r1 := fg_R p n 1
  have r2 := fg_R p n (pa2 p n)
  have r3 := fg_R p n (pa3 p n)
  have q1 : pe1 p n = 1 + fg p n 1 := rfl
  have q2 : pa2 p n = pe1 p n + 1 := rfl
  have q3 : pe2 p n = pa2 p n + fg p n (pa2 p n) := rfl
  have q4 : pa3 p n = pe2 p n + 1 := rfl
  have q5 : pe3 p n = pa3 p n + fg p n (pa3 p n) := rfl
  unfold fl pif
  repeat' split
  all_goals omega
noncomputable def edm (M : Mem) : Int → Int := upf (upf (upf (upf (M 1) ((4 * M 0 1) + 0) (upz (M 3))) ((4 * M 0 1) + 1) (pv1 (M 3) (M 0 3))) ((4 * M 0 1) + 2) (pv2 (M 3) (M 0 3))) ((4 * M 0 1) + 3) (pv3 (M 3) (M 0 3))
def q5_edge (M : Mem) : Int → Mem → Prop := fun z M' => (fl (M 3) (M 0 3) ≠ -6 ∧ z = -5 ∧ ∃ rd, M' = sc M 4 rd) ∨ (fl (M 3) (M 0 3) = -6 ∧ M 0 1 = 16 ∧ z = -4 ∧ ∃ rd, M' = sc M 4 rd) ∨ (fl (M 3) (M 0 3) = -6 ∧ M 0 1 ≠ 16 ∧ z = M 0 1 + 1 ∧ ∃ rd, M' = sc (sc (sc M 0 (upf (upf (M 0) 1 (M 0 1 + 1)) 3 0)) 1 (edm M)) 4 rd)
def delf (f : Int → Int) (lo k : Int) : Int → Int := fun j => if lo ≤ j ∧ j < k then f (j + 4) else f j
theorem delf_0 {f : Int → Int} {lo : Int} : delf f lo lo = f := by funext j; exact if_neg (by omega)
theorem delf_s {f : Int → Int} {lo k : Int} (h : lo ≤ k) : upf (delf f lo k) k (delf f lo k (k + 4)) = delf f lo (k + 1) := by
  funext j
  unfold upf delf
  by_cases hj : j = k
  · subst hj; rw [if_pos rfl, if_neg (by omega), if_pos (by omega)]
  · rw [if_neg hj]
    by_cases h1 : lo ≤ j ∧ j < k
    · rw [if_pos h1, if_pos (by omega)]
    · rw [if_neg h1, if_neg (by omega)]
def q5_erase (M : Mem) (u : Int) : Int → Mem → Prop := fun z M' => (¬ (0 ≤ u ∧ u ≤ M 0 1 - 1) ∧ z = -1 ∧ M' = M) ∨ ((0 ≤ u ∧ u ≤ M 0 1 - 1) ∧ z = M 0 1 - 1 ∧ M' = sc (sc M 0 (upf (M 0) 1 (M 0 1 - 1))) 1 (delf (M 1) (4 * u) (4 * (M 0 1 - 1))))
def rmx (w : Int) : Int := if w = 0 then 99 else if w < 3 then 9 else 3
def q5_rule (M : Mem) (w n : Int) : Int → Mem → Prop := fun z M' => (¬ ((0 ≤ w ∧ w ≤ 4) ∧ (0 ≤ n ∧ n ≤ rmx w)) ∧ z = -2 ∧ M' = M) ∨ (((0 ≤ w ∧ w ≤ 4) ∧ (0 ≤ n ∧ n ≤ rmx w)) ∧ z = M 2 w ∧ M' = sc M 2 (upf (M 2) w n))
def cpy (g f : Int → Int) (o k : Int) : Int → Int := fun j => if o ≤ j ∧ j < o + k then f (j - o) else g j
theorem cpy_0 {g f : Int → Int} {o : Int} : cpy g f o 0 = g := by funext j; exact if_neg (by omega)
theorem cpy_s {g f : Int → Int} {o k : Int} (h : 0 ≤ k) : upf (cpy g f o k) (o + k) (f k) = cpy g f o (k + 1) := by
  funext j
  unfold upf cpy
  by_cases hj : j = o + k
  · subst hj; rw [if_pos rfl, if_pos (by omega), show o + k - o = k by omega]
  · rw [if_neg hj]
    by_cases h1 : o ≤ j ∧ j < o + k
    · rw [if_pos h1, if_pos (by omega)]
    · rw [if_neg h1, if_neg (by omega)]
def cpr (g f : Int → Int) (o k : Int) : Int → Int := fun j => if 0 ≤ j ∧ j < k then f (o + j) else g j
theorem cpr_0 {g f : Int → Int} {o : Int} : cpr g f o 0 = g := by funext j; exact if_neg (by omega)
theorem cpr_s {g f : Int → Int} {o k : Int} (h : 0 ≤ k) : upf (cpr g f o k) k (f (o + k)) = cpr g f o (k + 1) := by
  funext j
  unfold upf cpr
  by_cases hj : j = k
  · subst hj; rw [if_pos rfl, if_pos (by omega)]
  · rw [if_neg hj]
    by_cases h1 : 0 ≤ j ∧ j < k
    · rw [if_pos h1, if_pos (by omega)]
    · rw [if_neg h1, if_neg (by omega)]
def q5_image (M : Mem) (n : Int) : Int → Mem → Prop := fun z M' => (¬ (0 ≤ n ∧ n ≤ 1) ∧ z = -2 ∧ M' = M) ∨ ((0 ≤ n ∧ n ≤ 1) ∧ z = 1 ∧ M' = sc (sc M 17 (upf (cpy (cpy (M 17) (M 1) (70 * n) 64) (M 2) (70 * n + 64) 5) (70 * n + 69) (M 0 1))) 18 (upf (M 18) n 1))
def q5_restore (M : Mem) (n : Int) : Int → Mem → Prop := fun z M' => (¬ (0 ≤ n ∧ n ≤ 1) ∧ z = -2 ∧ M' = M) ∨ ((0 ≤ n ∧ n ≤ 1) ∧ M 18 n = 0 ∧ z = -3 ∧ M' = M) ∨ ((0 ≤ n ∧ n ≤ 1) ∧ M 18 n ≠ 0 ∧ z = 1 ∧ M' = sc (sc (sc M 0 (upf (M 0) 1 (M 17 (70 * n + 69)))) 1 (cpr (M 1) (M 17) (70 * n) 64)) 2 (cpr (M 2) (M 17) (70 * n + 64) 5))
theorem iX5_edge_X5 : ∀ w ∈ wsX50, w ∈ wsX5_edge := fun _ h => List.mem_cons_of_mem _ (List.mem_append_right _ h)
set_option maxHeartbeats 4000000 in
set_option maxRecDepth 100000 in
theorem c5_edge (l : Launch) (a : Nat → Nat) (M : Mem) (hn : 0 ≤ M 0 3 ∧ M 0 3 ≤ 30) (hP : ∀ j, 0 ≤ M 3 j ∧ M 3 j ≤ 126) (hm : 0 ≤ M 0 1 ∧ M 0 1 ≤ 16) : CtI XT l yX5_edge wsX5_edge ({ frames := 3, cells := 0, slots := 0, locals := 65 } : Room) LR a M [.ref (a 0)] (q5_edge M) := by
  refine CtI.of (y := yX5_edge) (cc := cX5_edge) (maxL := 2) (ret := (some .int)) (lv := [some (.ref (a 0)), none]) (by decide) rfl (Nat.le_of_ble_eq_true rfl) (lvOK_of _ _ ⟨rfl, rfl⟩) ?_
  intro p e s m below meth c D T F K X0 hr hlk
  have hXc := XT_c
  refine g_aload_n F (pc' := 1) dX5_edge_0 rfl rfl ?_
  refine g_callI F K hXc X0 (pc' := 4) (st := []) (c5_faultOf l a M hn hP) (cwV 0 F.2.2.2.2 gX5_edge_X5_faultOf rfl rfl rfl (by decide +kernel) ⟨Nat.le_of_ble_eq_true rfl, Nat.le_of_ble_eq_true rfl⟩) rfl rfl rfl rfl (Nat.le_of_ble_eq_true rfl) dX5_edge_1 rfl (fun z_1 M_1 q_1 => ?_)
  obtain ⟨rd_1, rfl, rfl, rq_1⟩ := q_1
  have hfr := fl_B (p := M 3) hn
  refine g_if_lt F (pc' := 7) (tgt := 10) dX5_edge_4 rfl (by decide) (by omega) (fun c_4 => ?_) (fun c_4 => ?_)
  · skip
    refine g_aload_n F (pc' := 11) dX5_edge_10 rfl rfl ?_
    refine g_getI F K (k := 0) (fld := 1) (ci := 5) (z := M 0 1) (pc' := 14) iX5_edge_X5 rfl rfl rfl (by decide) (List.mem_of_getElem? (i := 1) rfl) dX5_edge_11 rfl (by first | rfl | simp [upf, sc]) ?_
    refine g_bipush F (pc' := 16) dX5_edge_14 rfl (by decide +kernel) ?_
    refine g_icmp_ne F (pc' := 19) (tgt := 22) dX5_edge_16 rfl (by decide) (by omega) (by decide) (fun c_16 => ?_) (fun c_16 => ?_)
    · skip
      obtain ⟨w0, w1, w2, w3⟩ := rq_1 (by omega)
      refine g_iconst F (pc' := 23) dX5_edge_22 rfl ?_
      refine g_istore_n F (pc' := 24) (lv' := [some (.ref (a 0)), some (.int (iI 0))]) dX5_edge_23 rfl (by decide) rfl ?_
      refine g_iload_n F (pc' := 25) dX5_edge_24 rfl rfl ?_
      refine g_iconst F (pc' := 26) dX5_edge_25 rfl ?_
      refine g_icmp_ge F (pc' := 29) (tgt := 54) dX5_edge_26 rfl (by decide) (by decide) (by decide) (fun c_26 => ?_) (fun c_26 => ?_)
      · skip
        exact absurd c_26 (by decide)
      · skip
        refine g_aload_n F (pc' := 30) dX5_edge_29 rfl rfl ?_
        refine g_getR F K (k := 0) (fld := 0) (ci := 5) (q := 1) (pc' := 33) iX5_edge_X5 rfl rfl rfl (by decide) (List.mem_of_getElem? (i := 2) rfl) dX5_edge_30 rfl ?_
        refine g_iconst F (pc' := 34) dX5_edge_33 rfl ?_
        refine g_aload_n F (pc' := 35) dX5_edge_34 rfl rfl ?_
        refine g_getI F K (k := 0) (fld := 1) (ci := 5) (z := M 0 1) (pc' := 38) iX5_edge_X5 rfl rfl rfl (by decide) (List.mem_of_getElem? (i := 1) rfl) dX5_edge_35 rfl (by first | rfl | simp [upf, sc]) ?_
        refine g_imul F (pc' := 39) dX5_edge_38 rfl ?_
        refine g_iload_n F (pc' := 40) dX5_edge_39 rfl rfl ?_
        refine g_iadd F (pc' := 41) dX5_edge_40 rfl ?_
        refine g_aload_n F (pc' := 42) dX5_edge_41 rfl rfl ?_
        refine g_getR F K (k := 0) (fld := 5) (ci := 5) (q := 4) (pc' := 45) iX5_edge_X5 rfl rfl rfl (by decide) (List.mem_of_getElem? (i := 3) rfl) dX5_edge_42 rfl ?_
        refine g_iload_n F (pc' := 46) dX5_edge_45 rfl rfl ?_
        refine g_iald F K (k := 4) (v := rd_1 0) (pc' := 47) rfl (by decide) (by decide) dX5_edge_46 rfl (by first | rfl | simp [upf, sc]) ?_
        refine h_iast F K (k := 1) (pc' := 48) (sc (sc M 1 (upf (M 1) ((4 * (M 0 1)) + 0) (rd_1 0))) 4 rd_1) (mem_up (by rfl) (by intro j hj; simp only [sc, if_neg hj])) rfl (by decide) (by omega) dX5_edge_47 rfl ?_
        refine g_iinc F (pc' := 51) (lv' := [some (.ref (a 0)), some (.int (iI 1))]) dX5_edge_48 rfl rfl (by decide) rfl ?_
        refine g_goto F (tgt := 24) dX5_edge_51 (by decide) ?_
        refine g_iload_n F (pc' := 25) dX5_edge_24 rfl rfl ?_
        refine g_iconst F (pc' := 26) dX5_edge_25 rfl ?_
        refine g_icmp_ge F (pc' := 29) (tgt := 54) dX5_edge_26 rfl (by decide) (by decide) (by decide) (fun c_26 => ?_) (fun c_26 => ?_)
        · skip
          exact absurd c_26 (by decide)
        · skip
          refine g_aload_n F (pc' := 30) dX5_edge_29 rfl rfl ?_
          refine g_getR F K (k := 0) (fld := 0) (ci := 5) (q := 1) (pc' := 33) iX5_edge_X5 rfl rfl rfl (by decide) (List.mem_of_getElem? (i := 2) rfl) dX5_edge_30 rfl ?_
          refine g_iconst F (pc' := 34) dX5_edge_33 rfl ?_
          refine g_aload_n F (pc' := 35) dX5_edge_34 rfl rfl ?_
          refine g_getI F K (k := 0) (fld := 1) (ci := 5) (z := M 0 1) (pc' := 38) iX5_edge_X5 rfl rfl rfl (by decide) (List.mem_of_getElem? (i := 1) rfl) dX5_edge_35 rfl (by first | rfl | simp [upf, sc]) ?_
          refine g_imul F (pc' := 39) dX5_edge_38 rfl ?_
          refine g_iload_n F (pc' := 40) dX5_edge_39 rfl rfl ?_
          refine g_iadd F (pc' := 41) dX5_edge_40 rfl ?_
          refine g_aload_n F (pc' := 42) dX5_edge_41 rfl rfl ?_
          refine g_getR F K (k := 0) (fld := 5) (ci := 5) (q := 4) (pc' := 45) iX5_edge_X5 rfl rfl rfl (by decide) (List.mem_of_getElem? (i := 3) rfl) dX5_edge_42 rfl ?_
          refine g_iload_n F (pc' := 46) dX5_edge_45 rfl rfl ?_
          refine g_iald F K (k := 4) (v := rd_1 1) (pc' := 47) rfl (by decide) (by decide) dX5_edge_46 rfl (by first | rfl | simp [upf, sc]) ?_
          refine h_iast F K (k := 1) (pc' := 48) (sc (sc M 1 (upf (upf (M 1) ((4 * (M 0 1)) + 0) (rd_1 0)) ((4 * (M 0 1)) + 1) (rd_1 1))) 4 rd_1) (mem_up (by rfl) (by intro j hj; simp only [sc, if_neg hj])) rfl (by decide) (by omega) dX5_edge_47 rfl ?_
          refine g_iinc F (pc' := 51) (lv' := [some (.ref (a 0)), some (.int (iI 2))]) dX5_edge_48 rfl rfl (by decide) rfl ?_
          refine g_goto F (tgt := 24) dX5_edge_51 (by decide) ?_
          refine g_iload_n F (pc' := 25) dX5_edge_24 rfl rfl ?_
          refine g_iconst F (pc' := 26) dX5_edge_25 rfl ?_
          refine g_icmp_ge F (pc' := 29) (tgt := 54) dX5_edge_26 rfl (by decide) (by decide) (by decide) (fun c_26 => ?_) (fun c_26 => ?_)
          · skip
            exact absurd c_26 (by decide)
          · skip
            refine g_aload_n F (pc' := 30) dX5_edge_29 rfl rfl ?_
            refine g_getR F K (k := 0) (fld := 0) (ci := 5) (q := 1) (pc' := 33) iX5_edge_X5 rfl rfl rfl (by decide) (List.mem_of_getElem? (i := 2) rfl) dX5_edge_30 rfl ?_
            refine g_iconst F (pc' := 34) dX5_edge_33 rfl ?_
            refine g_aload_n F (pc' := 35) dX5_edge_34 rfl rfl ?_
            refine g_getI F K (k := 0) (fld := 1) (ci := 5) (z := M 0 1) (pc' := 38) iX5_edge_X5 rfl rfl rfl (by decide) (List.mem_of_getElem? (i := 1) rfl) dX5_edge_35 rfl (by first | rfl | simp [upf, sc]) ?_
            refine g_imul F (pc' := 39) dX5_edge_38 rfl ?_
            refine g_iload_n F (pc' := 40) dX5_edge_39 rfl rfl ?_
            refine g_iadd F (pc' := 41) dX5_edge_40 rfl ?_
            refine g_aload_n F (pc' := 42) dX5_edge_41 rfl rfl ?_
            refine g_getR F K (k := 0) (fld := 5) (ci := 5) (q := 4) (pc' := 45) iX5_edge_X5 rfl rfl rfl (by decide) (List.mem_of_getElem? (i := 3) rfl) dX5_edge_42 rfl ?_
            refine g_iload_n F (pc' := 46) dX5_edge_45 rfl rfl ?_
            refine g_iald F K (k := 4) (v := rd_1 2) (pc' := 47) rfl (by decide) (by decide) dX5_edge_46 rfl (by first | rfl | simp [upf, sc]) ?_
            refine h_iast F K (k := 1) (pc' := 48) (sc (sc M 1 (upf (upf (upf (M 1) ((4 * (M 0 1)) + 0) (rd_1 0)) ((4 * (M 0 1)) + 1) (rd_1 1)) ((4 * (M 0 1)) + 2) (rd_1 2))) 4 rd_1) (mem_up (by rfl) (by intro j hj; simp only [sc, if_neg hj])) rfl (by decide) (by omega) dX5_edge_47 rfl ?_
            refine g_iinc F (pc' := 51) (lv' := [some (.ref (a 0)), some (.int (iI 3))]) dX5_edge_48 rfl rfl (by decide) rfl ?_
            refine g_goto F (tgt := 24) dX5_edge_51 (by decide) ?_
            refine g_iload_n F (pc' := 25) dX5_edge_24 rfl rfl ?_
            refine g_iconst F (pc' := 26) dX5_edge_25 rfl ?_
            refine g_icmp_ge F (pc' := 29) (tgt := 54) dX5_edge_26 rfl (by decide) (by decide) (by decide) (fun c_26 => ?_) (fun c_26 => ?_)
            · skip
              exact absurd c_26 (by decide)
            · skip
              refine g_aload_n F (pc' := 30) dX5_edge_29 rfl rfl ?_
              refine g_getR F K (k := 0) (fld := 0) (ci := 5) (q := 1) (pc' := 33) iX5_edge_X5 rfl rfl rfl (by decide) (List.mem_of_getElem? (i := 2) rfl) dX5_edge_30 rfl ?_
              refine g_iconst F (pc' := 34) dX5_edge_33 rfl ?_
              refine g_aload_n F (pc' := 35) dX5_edge_34 rfl rfl ?_
              refine g_getI F K (k := 0) (fld := 1) (ci := 5) (z := M 0 1) (pc' := 38) iX5_edge_X5 rfl rfl rfl (by decide) (List.mem_of_getElem? (i := 1) rfl) dX5_edge_35 rfl (by first | rfl | simp [upf, sc]) ?_
              refine g_imul F (pc' := 39) dX5_edge_38 rfl ?_
              refine g_iload_n F (pc' := 40) dX5_edge_39 rfl rfl ?_
              refine g_iadd F (pc' := 41) dX5_edge_40 rfl ?_
              refine g_aload_n F (pc' := 42) dX5_edge_41 rfl rfl ?_
              refine g_getR F K (k := 0) (fld := 5) (ci := 5) (q := 4) (pc' := 45) iX5_edge_X5 rfl rfl rfl (by decide) (List.mem_of_getElem? (i := 3) rfl) dX5_edge_42 rfl ?_
              refine g_iload_n F (pc' := 46) dX5_edge_45 rfl rfl ?_
              refine g_iald F K (k := 4) (v := rd_1 3) (pc' := 47) rfl (by decide) (by decide) dX5_edge_46 rfl (by first | rfl | simp [upf, sc]) ?_
              refine h_iast F K (k := 1) (pc' := 48) (sc (sc M 1 (upf (upf (upf (upf (M 1) ((4 * (M 0 1)) + 0) (rd_1 0)) ((4 * (M 0 1)) + 1) (rd_1 1)) ((4 * (M 0 1)) + 2) (rd_1 2)) ((4 * (M 0 1)) + 3) (rd_1 3))) 4 rd_1) (mem_up (by rfl) (by intro j hj; simp only [sc, if_neg hj])) rfl (by decide) (by omega) dX5_edge_47 rfl ?_
              refine g_iinc F (pc' := 51) (lv' := [some (.ref (a 0)), some (.int (iI 4))]) dX5_edge_48 rfl rfl (by decide) rfl ?_
              refine g_goto F (tgt := 24) dX5_edge_51 (by decide) ?_
              refine g_iload_n F (pc' := 25) dX5_edge_24 rfl rfl ?_
              refine g_iconst F (pc' := 26) dX5_edge_25 rfl ?_
              refine g_icmp_ge F (pc' := 29) (tgt := 54) dX5_edge_26 rfl (by decide) (by decide) (by decide) (fun c_26 => ?_) (fun c_26 => ?_)
              · skip
                refine g_aload_n F (pc' := 55) dX5_edge_54 rfl rfl ?_
                refine g_dup F (pc' := 56) dX5_edge_55 rfl rfl ?_
                refine g_getI F K (k := 0) (fld := 1) (ci := 5) (z := M 0 1) (pc' := 59) iX5_edge_X5 rfl rfl rfl (by decide) (List.mem_of_getElem? (i := 1) rfl) dX5_edge_56 rfl (by first | rfl | simp [upf, sc]) ?_
                refine g_iconst F (pc' := 60) dX5_edge_59 rfl ?_
                refine g_iadd F (pc' := 61) dX5_edge_60 rfl ?_
                refine h_putI F K (k := 0) (fld := 1) (ci := 5) (pc' := 64) (sc (sc (sc M 0 (upf (M 0) 1 ((M 0 1) + 1))) 1 (upf (upf (upf (upf (M 1) ((4 * (M 0 1)) + 0) (rd_1 0)) ((4 * (M 0 1)) + 1) (rd_1 1)) ((4 * (M 0 1)) + 2) (rd_1 2)) ((4 * (M 0 1)) + 3) (rd_1 3))) 4 rd_1) (mem_up (by rfl) (by intro j hj; simp only [sc, if_neg hj])) tyX5 tyX5_ok nmX5 iX5_edge_X5 rfl rfl rfl (by decide) rfl rfl (List.mem_of_getElem? (i := 1) rfl) dX5_edge_61 rfl ?_
                refine g_aload_n F (pc' := 65) dX5_edge_64 rfl rfl ?_
                refine g_iconst F (pc' := 66) dX5_edge_65 rfl ?_
                refine h_putI F K (k := 0) (fld := 3) (ci := 5) (pc' := 69) (sc (sc (sc M 0 (upf (upf (M 0) 1 ((M 0 1) + 1)) 3 0)) 1 (upf (upf (upf (upf (M 1) ((4 * (M 0 1)) + 0) (rd_1 0)) ((4 * (M 0 1)) + 1) (rd_1 1)) ((4 * (M 0 1)) + 2) (rd_1 2)) ((4 * (M 0 1)) + 3) (rd_1 3))) 4 rd_1) (mem_up (by rfl) (by intro j hj; simp only [sc, if_neg hj])) tyX5 tyX5_ok nmX5 iX5_edge_X5 rfl rfl rfl (by decide) rfl rfl (List.mem_of_getElem? (i := 4) rfl) dX5_edge_66 rfl ?_
                refine g_aload_n F (pc' := 70) dX5_edge_69 rfl rfl ?_
                refine g_getI F K (k := 0) (fld := 1) (ci := 5) (z := (M 0 1) + 1) (pc' := 73) iX5_edge_X5 rfl rfl rfl (by decide) (List.mem_of_getElem? (i := 1) rfl) dX5_edge_70 rfl (by first | rfl | exact upf_s _ _ _ | simp [upf, sc]) ?_
                exact g_iret F hr hlk dX5_edge_73 (Or.inr (Or.inr ⟨by omega, by omega, rfl, rd_1, by unfold edm; rw [w0, w1, w2, w3]⟩))
              · skip
                exact absurd c_26 (by decide)
    · skip
      refine g_bipush F (pc' := 21) dX5_edge_19 rfl (by decide +kernel) ?_
      exact g_iret F hr hlk dX5_edge_21 (Or.inr (Or.inl ⟨by omega, by omega, rfl, _, rfl⟩))
  · skip
    refine g_bipush F (pc' := 9) dX5_edge_7 rfl (by decide +kernel) ?_
    exact g_iret F hr hlk dX5_edge_9 (Or.inl ⟨by omega, rfl, _, rfl⟩)

theorem iX5_erase_X5 : ∀ w ∈ wsX50, w ∈ wsX5_erase := fun _ h => List.mem_cons_of_mem _ (List.mem_append_right _ h)
set_option maxHeartbeats 4000000 in
set_option maxRecDepth 100000 in
theorem c5_erase (l : Launch) (a : Nat → Nat) (M : Mem) (u : Int) (hu : -2147483648 ≤ u ∧ u < 2147483648) (hm : 0 ≤ M 0 1 ∧ M 0 1 ≤ 16) : CtI XT l yX5_erase wsX5_erase ({ frames := 1, cells := 0, slots := 0, locals := 22 } : Room) LR a M [.ref (a 0), .int (iI u)] (q5_erase M u) := by
  refine CtI.of (y := yX5_erase) (cc := cX5_erase) (maxL := 3) (ret := (some .int)) (lv := [some (.ref (a 0)), some (.int (iI u)), none]) (by decide) rfl (Nat.le_of_ble_eq_true rfl) (lvOK_of _ _ ⟨rfl, rfl⟩) ?_
  intro p e s m below meth c D T F K X0 hr hlk
  have hXc := XT_c
  refine g_iload_n F (pc' := 1) dX5_erase_0 rfl rfl ?_
  refine g_iconst F (pc' := 2) dX5_erase_1 rfl ?_
  refine g_aload_n F (pc' := 3) dX5_erase_2 rfl rfl ?_
  refine g_getI F K (k := 0) (fld := 1) (ci := 5) (z := M 0 1) (pc' := 6) iX5_erase_X5 rfl rfl rfl (by decide) (List.mem_of_getElem? (i := 1) rfl) dX5_erase_3 rfl (by first | rfl | simp [upf, sc]) ?_
  refine g_iconst F (pc' := 7) dX5_erase_6 rfl ?_
  refine g_isub F (pc' := 8) dX5_erase_7 rfl ?_
  refine g_callP F (pc' := 11) (st := []) (c5_in l u 0 ((M 0 1) - 1) (by omega) (by omega) (by omega)) (va_cwS 3 F.2.2.2.2 gX5_erase_X5_in rfl rfl rfl (by decide +kernel) ⟨Nat.le_of_ble_eq_true rfl, Nat.le_of_ble_eq_true rfl⟩) rfl rfl (Nat.le_of_ble_eq_true rfl) dX5_erase_8 rfl ?_
  refine g_if_ne F (pc' := 14) (tgt := 16) dX5_erase_11 rfl (by decide) (zC_R _) (fun c_11 => ?_) (fun c_11 => ?_)
  · skip
    have c_11 := zC_1 c_11
    refine g_aload_n F (pc' := 17) dX5_erase_16 rfl rfl ?_
    refine g_dup F (pc' := 18) dX5_erase_17 rfl rfl ?_
    refine g_getI F K (k := 0) (fld := 1) (ci := 5) (z := M 0 1) (pc' := 21) iX5_erase_X5 rfl rfl rfl (by decide) (List.mem_of_getElem? (i := 1) rfl) dX5_erase_18 rfl (by first | rfl | simp [upf, sc]) ?_
    refine g_iconst F (pc' := 22) dX5_erase_21 rfl ?_
    refine g_isub F (pc' := 23) dX5_erase_22 rfl ?_
    refine h_putI F K (k := 0) (fld := 1) (ci := 5) (pc' := 26) (sc M 0 (upf (M 0) 1 ((M 0 1) - 1))) (mem_up (by rfl) (by intro j hj; simp only [sc, if_neg hj])) tyX5 tyX5_ok nmX5 iX5_erase_X5 rfl rfl rfl (by decide) rfl rfl (List.mem_of_getElem? (i := 1) rfl) dX5_erase_23 rfl ?_
    refine g_iconst F (pc' := 27) dX5_erase_26 rfl ?_
    refine g_iload_n F (pc' := 28) dX5_erase_27 rfl rfl ?_
    refine g_imul F (pc' := 29) dX5_erase_28 rfl ?_
    refine g_istore_n F (pc' := 30) (lv' := [some (.ref (a 0)), some (.int (iI u)), some (.int (iI (4 * u)))]) dX5_erase_29 rfl (by decide) rfl ?_
    refine h_mem (sc (sc M 0 (upf (M 0) 1 ((M 0 1) - 1))) 1 (delf (M 1) (4 * u) (4 * u))) (by rw [delf_0]; exact (sc_id _ 1).symm) ?_
    have lp_30 : ∀ (n_30 : Nat) (k : Int) (hm_30 : 4 * (M 0 1 - 1) - k < (n_30 : Int)) (h0 : 4 * u ≤ k ∧ k ≤ 4 * (M 0 1 - 1)), GG p l e ({ frames := 1, cells := 0, slots := 0, locals := 22 } : Room) s m ([.ref (a 0), .int (iI u)].toArray) below meth c (PI D T a LR M (q5_erase M u) below ([.ref (a 0), .int (iI u)].toArray) s) D (AA T a LR M s.heap.size) 3 (wld T a LR (sc (sc M 0 (upf (M 0) 1 ((M 0 1) - 1))) 1 (delf (M 1) (4 * u) k))) 30 [some (.ref (a 0)), some (.int (iI u)), some (.int (iI k))] [] := by
      intro n_30
      induction n_30 with
      | zero => intro k hm_30 h0; exfalso; omega
      | succ n_30 ih_30 =>
        intro k hm_30 h0
        refine g_iload_n F (pc' := 31) dX5_erase_30 rfl rfl ?_
        refine g_iconst F (pc' := 32) dX5_erase_31 rfl ?_
        refine g_aload_n F (pc' := 33) dX5_erase_32 rfl rfl ?_
        refine g_getI F K (k := 0) (fld := 1) (ci := 5) (z := (M 0 1) - 1) (pc' := 36) iX5_erase_X5 rfl rfl rfl (by decide) (List.mem_of_getElem? (i := 1) rfl) dX5_erase_33 rfl (by first | rfl | exact upf_s _ _ _ | simp [upf, sc]) ?_
        refine g_imul F (pc' := 37) dX5_erase_36 rfl ?_
        refine g_icmp_ge F (pc' := 40) (tgt := 60) dX5_erase_37 rfl (by decide) (by omega) (by omega) (fun c_37 => ?_) (fun c_37 => ?_)
        · skip
          refine g_aload_n F (pc' := 61) dX5_erase_60 rfl rfl ?_
          refine g_getI F K (k := 0) (fld := 1) (ci := 5) (z := (M 0 1) - 1) (pc' := 64) iX5_erase_X5 rfl rfl rfl (by decide) (List.mem_of_getElem? (i := 1) rfl) dX5_erase_61 rfl (by first | rfl | exact upf_s _ _ _ | simp [upf, sc]) ?_
          exact g_iret F hr hlk dX5_erase_64 (Or.inr ⟨c_11, rfl, by rw [show 4 * (M 0 1 - 1) = k by omega]⟩)
        · skip
          refine g_aload_n F (pc' := 41) dX5_erase_40 rfl rfl ?_
          refine g_getR F K (k := 0) (fld := 0) (ci := 5) (q := 1) (pc' := 44) iX5_erase_X5 rfl rfl rfl (by decide) (List.mem_of_getElem? (i := 2) rfl) dX5_erase_41 rfl ?_
          refine g_iload_n F (pc' := 45) dX5_erase_44 rfl rfl ?_
          refine g_aload_n F (pc' := 46) dX5_erase_45 rfl rfl ?_
          refine g_getR F K (k := 0) (fld := 0) (ci := 5) (q := 1) (pc' := 49) iX5_erase_X5 rfl rfl rfl (by decide) (List.mem_of_getElem? (i := 2) rfl) dX5_erase_46 rfl ?_
          refine g_iload_n F (pc' := 50) dX5_erase_49 rfl rfl ?_
          refine g_iconst F (pc' := 51) dX5_erase_50 rfl ?_
          refine g_iadd F (pc' := 52) dX5_erase_51 rfl ?_
          refine g_iald F K (k := 1) (v := (delf (M 1) (4 * u) k) (k + 4)) (pc' := 53) rfl (by decide) (by omega) dX5_erase_52 rfl (by first | rfl | simp [upf, sc]) ?_
          refine h_iast F K (k := 1) (pc' := 54) (sc (sc M 0 (upf (M 0) 1 ((M 0 1) - 1))) 1 (upf (delf (M 1) (4 * u) k) k ((delf (M 1) (4 * u) k) (k + 4)))) (mem_up (by rfl) (by intro j hj; simp only [sc, if_neg hj])) rfl (by decide) (by omega) dX5_erase_53 rfl ?_
          refine g_iinc F (pc' := 57) (lv' := [some (.ref (a 0)), some (.int (iI u)), some (.int (iI (k + 1)))]) dX5_erase_54 rfl rfl (by decide) rfl ?_
          refine g_goto F (tgt := 30) dX5_erase_57 (by decide) ?_
          refine h_mem (sc (sc M 0 (upf (M 0) 1 ((M 0 1) - 1))) 1 (delf (M 1) (4 * u) (k + 1))) (by rw [delf_s (by omega)]) ?_
          exact ih_30 (k + 1) (by omega) (by omega)
    exact lp_30 ((4 * (M 0 1 - 1) - (4 * u) : Int).toNat + 1) (4 * u) (by omega) (by omega)
  · skip
    have c_11 := zC_0 c_11
    refine g_iconst F (pc' := 15) dX5_erase_14 rfl ?_
    exact g_iret F hr hlk dX5_erase_15 (Or.inl ⟨c_11, rfl, rfl⟩)

theorem iX5_rule_X5 : ∀ w ∈ wsX50, w ∈ wsX5_rule := fun _ h => List.mem_cons_of_mem _ (List.mem_append_right _ h)
set_option maxHeartbeats 4000000 in
set_option maxRecDepth 100000 in
theorem c5_rule (l : Launch) (a : Nat → Nat) (M : Mem) (w n : Int) (hw : -2147483648 ≤ w ∧ w < 2147483648) (hn : -2147483648 ≤ n ∧ n < 2147483648) : CtI XT l yX5_rule wsX5_rule ({ frames := 1, cells := 0, slots := 0, locals := 22 } : Room) LR a M [.ref (a 0), .int (iI w), .int (iI n)] (q5_rule M w n) := by
  refine CtI.of (y := yX5_rule) (cc := cX5_rule) (maxL := 4) (ret := (some .int)) (lv := [some (.ref (a 0)), some (.int (iI w)), some (.int (iI n)), none]) (by decide) rfl (Nat.le_of_ble_eq_true rfl) (lvOK_of _ _ ⟨rfl, rfl⟩) ?_
  intro p e s m below meth c D T F K X0 hr hlk
  have hXc := XT_c
  refine g_iload_n F (pc' := 1) dX5_rule_0 rfl rfl ?_
  refine g_iconst F (pc' := 2) dX5_rule_1 rfl ?_
  refine g_iconst F (pc' := 3) dX5_rule_2 rfl ?_
  refine g_callP F (pc' := 6) (st := []) (c5_in l w 0 4 (by omega) (by omega) (by omega)) (va_cwS 3 F.2.2.2.2 gX5_rule_X5_in rfl rfl rfl (by decide +kernel) ⟨Nat.le_of_ble_eq_true rfl, Nat.le_of_ble_eq_true rfl⟩) rfl rfl (Nat.le_of_ble_eq_true rfl) dX5_rule_3 rfl ?_
  refine g_if_eq F (pc' := 9) (tgt := 37) dX5_rule_6 rfl (by decide) (zC_R _) (fun c_6 => ?_) (fun c_6 => ?_)
  · skip
    have c_6 := zC_0 c_6
    refine g_bipush F (pc' := 39) dX5_rule_37 rfl (by decide +kernel) ?_
    exact g_iret F hr hlk dX5_rule_39 (Or.inl ⟨by unfold rmx; first | (intro q; omega) | (rintro ⟨q1, q2⟩; first | exact c_6 q1 | (split at q2 <;> first | omega | (split at q2 <;> omega)))  , rfl, rfl⟩)
  · skip
    have c_6 := zC_1 c_6
    refine g_iload_n F (pc' := 10) dX5_rule_9 rfl rfl ?_
    refine g_iconst F (pc' := 11) dX5_rule_10 rfl ?_
    refine g_iload_n F (pc' := 12) dX5_rule_11 rfl rfl ?_
    refine g_if_ne F (pc' := 15) (tgt := 20) dX5_rule_12 rfl (by decide) (by omega) (fun c_12 => ?_) (fun c_12 => ?_)
    · skip
      refine g_iload_n F (pc' := 21) dX5_rule_20 rfl rfl ?_
      refine g_iconst F (pc' := 22) dX5_rule_21 rfl ?_
      refine g_icmp_ge F (pc' := 25) (tgt := 30) dX5_rule_22 rfl (by decide) (by omega) (by decide) (fun c_22 => ?_) (fun c_22 => ?_)
      · skip
        refine g_iconst F (pc' := 31) dX5_rule_30 rfl ?_
        refine g_callP F (pc' := 34) (st := []) (c5_in l n 0 3 (by omega) (by omega) (by omega)) (va_cwS 3 F.2.2.2.2 gX5_rule_X5_in rfl rfl rfl (by decide +kernel) ⟨Nat.le_of_ble_eq_true rfl, Nat.le_of_ble_eq_true rfl⟩) rfl rfl (Nat.le_of_ble_eq_true rfl) dX5_rule_31 rfl ?_
        refine g_if_ne F (pc' := 37) (tgt := 40) dX5_rule_34 rfl (by decide) (zC_R _) (fun c_34 => ?_) (fun c_34 => ?_)
        · skip
          have c_34 := zC_1 c_34
          refine g_aload_n F (pc' := 41) dX5_rule_40 rfl rfl ?_
          refine g_getR F K (k := 0) (fld := 2) (ci := 5) (q := 2) (pc' := 44) iX5_rule_X5 rfl rfl rfl (by decide) (List.mem_of_getElem? (i := 1) rfl) dX5_rule_41 rfl ?_
          refine g_iload_n F (pc' := 45) dX5_rule_44 rfl rfl ?_
          refine g_iald F K (k := 2) (v := M 2 w) (pc' := 46) rfl (by decide) (by omega) dX5_rule_45 rfl (by first | rfl | simp [upf, sc]) ?_
          refine g_istore_n F (pc' := 47) (lv' := [some (.ref (a 0)), some (.int (iI w)), some (.int (iI n)), some (.int (iI (M 2 w)))]) dX5_rule_46 rfl (by decide) rfl ?_
          refine g_aload_n F (pc' := 48) dX5_rule_47 rfl rfl ?_
          refine g_getR F K (k := 0) (fld := 2) (ci := 5) (q := 2) (pc' := 51) iX5_rule_X5 rfl rfl rfl (by decide) (List.mem_of_getElem? (i := 1) rfl) dX5_rule_48 rfl ?_
          refine g_iload_n F (pc' := 52) dX5_rule_51 rfl rfl ?_
          refine g_iload_n F (pc' := 53) dX5_rule_52 rfl rfl ?_
          refine h_iast F K (k := 2) (pc' := 54) (sc M 2 (upf (M 2) w n)) (mem_up (by rfl) (by intro j hj; simp only [sc, if_neg hj])) rfl (by decide) (by omega) dX5_rule_53 rfl ?_
          refine g_iload_n F (pc' := 55) dX5_rule_54 rfl rfl ?_
          exact g_iret F hr hlk dX5_rule_55 (Or.inr ⟨⟨c_6, by unfold rmx; first | (rw [if_pos (by omega)]; omega) | (rw [if_neg (by omega), if_pos (by omega)]; omega) | (rw [if_neg (by omega), if_neg (by omega)]; omega)⟩, rfl, rfl⟩)
        · skip
          have c_34 := zC_0 c_34
          refine g_bipush F (pc' := 39) dX5_rule_37 rfl (by decide +kernel) ?_
          exact g_iret F hr hlk dX5_rule_39 (Or.inl ⟨by unfold rmx; first | (intro q; omega) | (rintro ⟨q1, q2⟩; first | exact c_6 q1 | (split at q2 <;> first | omega | (split at q2 <;> omega)))  , rfl, rfl⟩)
      · skip
        refine g_bipush F (pc' := 27) dX5_rule_25 rfl (by decide +kernel) ?_
        refine g_goto F (tgt := 31) dX5_rule_27 (by decide) ?_
        refine g_callP F (pc' := 34) (st := []) (c5_in l n 0 9 (by omega) (by omega) (by omega)) (va_cwS 3 F.2.2.2.2 gX5_rule_X5_in rfl rfl rfl (by decide +kernel) ⟨Nat.le_of_ble_eq_true rfl, Nat.le_of_ble_eq_true rfl⟩) rfl rfl (Nat.le_of_ble_eq_true rfl) dX5_rule_31 rfl ?_
        refine g_if_ne F (pc' := 37) (tgt := 40) dX5_rule_34 rfl (by decide) (zC_R _) (fun c_34 => ?_) (fun c_34 => ?_)
        · skip
          have c_34 := zC_1 c_34
          refine g_aload_n F (pc' := 41) dX5_rule_40 rfl rfl ?_
          refine g_getR F K (k := 0) (fld := 2) (ci := 5) (q := 2) (pc' := 44) iX5_rule_X5 rfl rfl rfl (by decide) (List.mem_of_getElem? (i := 1) rfl) dX5_rule_41 rfl ?_
          refine g_iload_n F (pc' := 45) dX5_rule_44 rfl rfl ?_
          refine g_iald F K (k := 2) (v := M 2 w) (pc' := 46) rfl (by decide) (by omega) dX5_rule_45 rfl (by first | rfl | simp [upf, sc]) ?_
          refine g_istore_n F (pc' := 47) (lv' := [some (.ref (a 0)), some (.int (iI w)), some (.int (iI n)), some (.int (iI (M 2 w)))]) dX5_rule_46 rfl (by decide) rfl ?_
          refine g_aload_n F (pc' := 48) dX5_rule_47 rfl rfl ?_
          refine g_getR F K (k := 0) (fld := 2) (ci := 5) (q := 2) (pc' := 51) iX5_rule_X5 rfl rfl rfl (by decide) (List.mem_of_getElem? (i := 1) rfl) dX5_rule_48 rfl ?_
          refine g_iload_n F (pc' := 52) dX5_rule_51 rfl rfl ?_
          refine g_iload_n F (pc' := 53) dX5_rule_52 rfl rfl ?_
          refine h_iast F K (k := 2) (pc' := 54) (sc M 2 (upf (M 2) w n)) (mem_up (by rfl) (by intro j hj; simp only [sc, if_neg hj])) rfl (by decide) (by omega) dX5_rule_53 rfl ?_
          refine g_iload_n F (pc' := 55) dX5_rule_54 rfl rfl ?_
          exact g_iret F hr hlk dX5_rule_55 (Or.inr ⟨⟨c_6, by unfold rmx; first | (rw [if_pos (by omega)]; omega) | (rw [if_neg (by omega), if_pos (by omega)]; omega) | (rw [if_neg (by omega), if_neg (by omega)]; omega)⟩, rfl, rfl⟩)
        · skip
          have c_34 := zC_0 c_34
          refine g_bipush F (pc' := 39) dX5_rule_37 rfl (by decide +kernel) ?_
          exact g_iret F hr hlk dX5_rule_39 (Or.inl ⟨by unfold rmx; first | (intro q; omega) | (rintro ⟨q1, q2⟩; first | exact c_6 q1 | (split at q2 <;> first | omega | (split at q2 <;> omega)))  , rfl, rfl⟩)
    · skip
      refine g_bipush F (pc' := 17) dX5_rule_15 rfl (by decide +kernel) ?_
      refine g_goto F (tgt := 31) dX5_rule_17 (by decide) ?_
      refine g_callP F (pc' := 34) (st := []) (c5_in l n 0 99 (by omega) (by omega) (by omega)) (va_cwS 3 F.2.2.2.2 gX5_rule_X5_in rfl rfl rfl (by decide +kernel) ⟨Nat.le_of_ble_eq_true rfl, Nat.le_of_ble_eq_true rfl⟩) rfl rfl (Nat.le_of_ble_eq_true rfl) dX5_rule_31 rfl ?_
      refine g_if_ne F (pc' := 37) (tgt := 40) dX5_rule_34 rfl (by decide) (zC_R _) (fun c_34 => ?_) (fun c_34 => ?_)
      · skip
        have c_34 := zC_1 c_34
        refine g_aload_n F (pc' := 41) dX5_rule_40 rfl rfl ?_
        refine g_getR F K (k := 0) (fld := 2) (ci := 5) (q := 2) (pc' := 44) iX5_rule_X5 rfl rfl rfl (by decide) (List.mem_of_getElem? (i := 1) rfl) dX5_rule_41 rfl ?_
        refine g_iload_n F (pc' := 45) dX5_rule_44 rfl rfl ?_
        refine g_iald F K (k := 2) (v := M 2 w) (pc' := 46) rfl (by decide) (by omega) dX5_rule_45 rfl (by first | rfl | simp [upf, sc]) ?_
        refine g_istore_n F (pc' := 47) (lv' := [some (.ref (a 0)), some (.int (iI w)), some (.int (iI n)), some (.int (iI (M 2 w)))]) dX5_rule_46 rfl (by decide) rfl ?_
        refine g_aload_n F (pc' := 48) dX5_rule_47 rfl rfl ?_
        refine g_getR F K (k := 0) (fld := 2) (ci := 5) (q := 2) (pc' := 51) iX5_rule_X5 rfl rfl rfl (by decide) (List.mem_of_getElem? (i := 1) rfl) dX5_rule_48 rfl ?_
        refine g_iload_n F (pc' := 52) dX5_rule_51 rfl rfl ?_
        refine g_iload_n F (pc' := 53) dX5_rule_52 rfl rfl ?_
        refine h_iast F K (k := 2) (pc' := 54) (sc M 2 (upf (M 2) w n)) (mem_up (by rfl) (by intro j hj; simp only [sc, if_neg hj])) rfl (by decide) (by omega) dX5_rule_53 rfl ?_
        refine g_iload_n F (pc' := 55) dX5_rule_54 rfl rfl ?_
        exact g_iret F hr hlk dX5_rule_55 (Or.inr ⟨⟨c_6, by unfold rmx; first | (rw [if_pos (by omega)]; omega) | (rw [if_neg (by omega), if_pos (by omega)]; omega) | (rw [if_neg (by omega), if_neg (by omega)]; omega)⟩, rfl, rfl⟩)
      · skip
        have c_34 := zC_0 c_34
        refine g_bipush F (pc' := 39) dX5_rule_37 rfl (by decide +kernel) ?_
        exact g_iret F hr hlk dX5_rule_39 (Or.inl ⟨by unfold rmx; first | (intro q; omega) | (rintro ⟨q1, q2⟩; first | exact c_6 q1 | (split at q2 <;> first | omega | (split at q2 <;> omega)))  , rfl, rfl⟩)

theorem iX5_image_X5 : ∀ w ∈ wsX50, w ∈ wsX5_image := fun _ h => List.mem_cons_of_mem _ (List.mem_append_right _ h)
set_option maxHeartbeats 4000000 in
set_option maxRecDepth 100000 in
theorem c5_image (l : Launch) (a : Nat → Nat) (M : Mem) (n : Int) (hn : -2147483648 ≤ n ∧ n < 2147483648) : CtI XT l yX5_image wsX5_image ({ frames := 1, cells := 0, slots := 0, locals := 22 } : Room) LR a M [.ref (a 0), .int (iI n)] (q5_image M n) := by
  refine CtI.of (y := yX5_image) (cc := cX5_image) (maxL := 3) (ret := (some .int)) (lv := [some (.ref (a 0)), some (.int (iI n)), none]) (by decide) rfl (Nat.le_of_ble_eq_true rfl) (lvOK_of _ _ ⟨rfl, rfl⟩) ?_
  intro p e s m below meth c D T F K X0 hr hlk
  have hXc := XT_c
  refine g_iload_n F (pc' := 1) dX5_image_0 rfl rfl ?_
  refine g_iconst F (pc' := 2) dX5_image_1 rfl ?_
  refine g_iconst F (pc' := 3) dX5_image_2 rfl ?_
  refine g_callP F (pc' := 6) (st := []) (c5_in l n 0 1 (by omega) (by omega) (by omega)) (va_cwS 3 F.2.2.2.2 gX5_image_X5_in rfl rfl rfl (by decide +kernel) ⟨Nat.le_of_ble_eq_true rfl, Nat.le_of_ble_eq_true rfl⟩) rfl rfl (Nat.le_of_ble_eq_true rfl) dX5_image_3 rfl ?_
  refine g_if_ne F (pc' := 9) (tgt := 12) dX5_image_6 rfl (by decide) (zC_R _) (fun c_6 => ?_) (fun c_6 => ?_)
  · skip
    have c_6 := zC_1 c_6
    refine g_iconst F (pc' := 13) dX5_image_12 rfl ?_
    refine g_istore_n F (pc' := 14) (lv' := [some (.ref (a 0)), some (.int (iI n)), some (.int (iI 0))]) dX5_image_13 rfl (by decide) rfl ?_
    refine h_mem (sc M 17 (cpy (M 17) (M 1) (70 * n) 0)) (by rw [cpy_0]; exact (sc_id _ 17).symm) ?_
    have lp_14 : ∀ (n_14 : Nat) (k : Int) (hm_14 : 64 - k < (n_14 : Int)) (h0 : 0 ≤ k ∧ k ≤ 64), GG p l e ({ frames := 1, cells := 0, slots := 0, locals := 22 } : Room) s m ([.ref (a 0), .int (iI n)].toArray) below meth c (PI D T a LR M (q5_image M n) below ([.ref (a 0), .int (iI n)].toArray) s) D (AA T a LR M s.heap.size) 3 (wld T a LR (sc M 17 (cpy (M 17) (M 1) (70 * n) k))) 14 [some (.ref (a 0)), some (.int (iI n)), some (.int (iI k))] [] := by
      intro n_14
      induction n_14 with
      | zero => intro k hm_14 h0; exfalso; omega
      | succ n_14 ih_14 =>
        intro k hm_14 h0
        refine g_iload_n F (pc' := 15) dX5_image_14 rfl rfl ?_
        refine g_bipush F (pc' := 17) dX5_image_15 rfl (by decide +kernel) ?_
        refine g_icmp_ge F (pc' := 20) (tgt := 43) dX5_image_17 rfl (by decide) (by omega) (by decide) (fun c_17 => ?_) (fun c_17 => ?_)
        · skip
          refine g_iconst F (pc' := 44) dX5_image_43 rfl ?_
          refine g_istore_n F (pc' := 45) (lv' := [some (.ref (a 0)), some (.int (iI n)), some (.int (iI 0))]) dX5_image_44 rfl (by decide) rfl ?_
          refine h_mem (sc M 17 (cpy (cpy (M 17) (M 1) (70 * n) 64) (M 2) (70 * n + 64) 0)) (by rw [cpy_0, show k = 64 by omega]) ?_
          have lp_45 : ∀ (n_45 : Nat) (q : Int) (hm_45 : 5 - q < (n_45 : Int)) (h1 : 0 ≤ q ∧ q ≤ 5), GG p l e ({ frames := 1, cells := 0, slots := 0, locals := 22 } : Room) s m ([.ref (a 0), .int (iI n)].toArray) below meth c (PI D T a LR M (q5_image M n) below ([.ref (a 0), .int (iI n)].toArray) s) D (AA T a LR M s.heap.size) 3 (wld T a LR (sc M 17 (cpy (cpy (M 17) (M 1) (70 * n) 64) (M 2) (70 * n + 64) q))) 45 [some (.ref (a 0)), some (.int (iI n)), some (.int (iI q))] [] := by
            intro n_45
            induction n_45 with
            | zero => intro q hm_45 h1; exfalso; omega
            | succ n_45 ih_45 =>
              intro q hm_45 h1
              refine g_iload_n F (pc' := 46) dX5_image_45 rfl rfl ?_
              refine g_iconst F (pc' := 47) dX5_image_46 rfl ?_
              refine g_icmp_ge F (pc' := 50) (tgt := 76) dX5_image_47 rfl (by decide) (by omega) (by decide) (fun c_47 => ?_) (fun c_47 => ?_)
              · skip
                refine g_aload_n F (pc' := 77) dX5_image_76 rfl rfl ?_
                refine g_getR F K (k := 0) (fld := 21) (ci := 5) (q := 17) (pc' := 80) iX5_image_X5 rfl rfl rfl (by decide) (List.mem_of_getElem? (i := 1) rfl) dX5_image_77 rfl ?_
                refine g_bipush F (pc' := 82) dX5_image_80 rfl (by decide +kernel) ?_
                refine g_iload_n F (pc' := 83) dX5_image_82 rfl rfl ?_
                refine g_imul F (pc' := 84) dX5_image_83 rfl ?_
                refine g_bipush F (pc' := 86) dX5_image_84 rfl (by decide +kernel) ?_
                refine g_iadd F (pc' := 87) dX5_image_86 rfl ?_
                refine g_aload_n F (pc' := 88) dX5_image_87 rfl rfl ?_
                refine g_getI F K (k := 0) (fld := 1) (ci := 5) (z := M 0 1) (pc' := 91) iX5_image_X5 rfl rfl rfl (by decide) (List.mem_of_getElem? (i := 4) rfl) dX5_image_88 rfl (by first | rfl | simp [upf, sc]) ?_
                refine h_iast F K (k := 17) (pc' := 92) (sc M 17 (upf (cpy (cpy (M 17) (M 1) (70 * n) 64) (M 2) (70 * n + 64) q) ((70 * n) + 69) (M 0 1))) (mem_up (by rfl) (by intro j hj; simp only [sc, if_neg hj])) rfl (by decide) (by omega) dX5_image_91 rfl ?_
                refine g_aload_n F (pc' := 93) dX5_image_92 rfl rfl ?_
                refine g_getR F K (k := 0) (fld := 22) (ci := 5) (q := 18) (pc' := 96) iX5_image_X5 rfl rfl rfl (by decide) (List.mem_of_getElem? (i := 5) rfl) dX5_image_93 rfl ?_
                refine g_iload_n F (pc' := 97) dX5_image_96 rfl rfl ?_
                refine g_iconst F (pc' := 98) dX5_image_97 rfl ?_
                refine h_zast F K (k := 18) (pc' := 99) (sc (sc M 17 (upf (cpy (cpy (M 17) (M 1) (70 * n) 64) (M 2) (70 * n + 64) q) ((70 * n) + 69) (M 0 1))) 18 (upf (M 18) n 1)) (mem_up (by rfl) (by intro j hj; simp only [sc, if_neg hj])) rfl (by decide) (by omega) (by omega) dX5_image_98 rfl ?_
                refine g_iconst F (pc' := 100) dX5_image_99 rfl ?_
                exact g_iret F hr hlk dX5_image_100 (Or.inr ⟨c_6, rfl, by rw [show (5 : Int) = q by omega]⟩)
              · skip
                refine g_aload_n F (pc' := 51) dX5_image_50 rfl rfl ?_
                refine g_getR F K (k := 0) (fld := 21) (ci := 5) (q := 17) (pc' := 54) iX5_image_X5 rfl rfl rfl (by decide) (List.mem_of_getElem? (i := 1) rfl) dX5_image_51 rfl ?_
                refine g_bipush F (pc' := 56) dX5_image_54 rfl (by decide +kernel) ?_
                refine g_iload_n F (pc' := 57) dX5_image_56 rfl rfl ?_
                refine g_imul F (pc' := 58) dX5_image_57 rfl ?_
                refine g_bipush F (pc' := 60) dX5_image_58 rfl (by decide +kernel) ?_
                refine g_iadd F (pc' := 61) dX5_image_60 rfl ?_
                refine g_iload_n F (pc' := 62) dX5_image_61 rfl rfl ?_
                refine g_iadd F (pc' := 63) dX5_image_62 rfl ?_
                refine g_aload_n F (pc' := 64) dX5_image_63 rfl rfl ?_
                refine g_getR F K (k := 0) (fld := 2) (ci := 5) (q := 2) (pc' := 67) iX5_image_X5 rfl rfl rfl (by decide) (List.mem_of_getElem? (i := 3) rfl) dX5_image_64 rfl ?_
                refine g_iload_n F (pc' := 68) dX5_image_67 rfl rfl ?_
                refine g_iald F K (k := 2) (v := M 2 q) (pc' := 69) rfl (by decide) (by omega) dX5_image_68 rfl (by first | rfl | simp [upf, sc]) ?_
                refine h_iast F K (k := 17) (pc' := 70) (sc M 17 (upf (cpy (cpy (M 17) (M 1) (70 * n) 64) (M 2) (70 * n + 64) q) (((70 * n) + 64) + q) (M 2 q))) (mem_up (by rfl) (by intro j hj; simp only [sc, if_neg hj])) rfl (by decide) (by omega) dX5_image_69 rfl ?_
                refine g_iinc F (pc' := 73) (lv' := [some (.ref (a 0)), some (.int (iI n)), some (.int (iI (q + 1)))]) dX5_image_70 rfl rfl (by decide) rfl ?_
                refine g_goto F (tgt := 45) dX5_image_73 (by decide) ?_
                refine h_mem (sc M 17 (cpy (cpy (M 17) (M 1) (70 * n) 64) (M 2) (70 * n + 64) (q + 1))) (by rw [cpy_s h1.1]) ?_
                exact ih_45 (q + 1) (by omega) (by omega)
          exact lp_45 ((5 - 0 : Int).toNat + 1) 0 (by omega) (by omega)
        · skip
          refine g_aload_n F (pc' := 21) dX5_image_20 rfl rfl ?_
          refine g_getR F K (k := 0) (fld := 21) (ci := 5) (q := 17) (pc' := 24) iX5_image_X5 rfl rfl rfl (by decide) (List.mem_of_getElem? (i := 1) rfl) dX5_image_21 rfl ?_
          refine g_bipush F (pc' := 26) dX5_image_24 rfl (by decide +kernel) ?_
          refine g_iload_n F (pc' := 27) dX5_image_26 rfl rfl ?_
          refine g_imul F (pc' := 28) dX5_image_27 rfl ?_
          refine g_iload_n F (pc' := 29) dX5_image_28 rfl rfl ?_
          refine g_iadd F (pc' := 30) dX5_image_29 rfl ?_
          refine g_aload_n F (pc' := 31) dX5_image_30 rfl rfl ?_
          refine g_getR F K (k := 0) (fld := 0) (ci := 5) (q := 1) (pc' := 34) iX5_image_X5 rfl rfl rfl (by decide) (List.mem_of_getElem? (i := 2) rfl) dX5_image_31 rfl ?_
          refine g_iload_n F (pc' := 35) dX5_image_34 rfl rfl ?_
          refine g_iald F K (k := 1) (v := M 1 k) (pc' := 36) rfl (by decide) (by omega) dX5_image_35 rfl (by first | rfl | simp [upf, sc]) ?_
          refine h_iast F K (k := 17) (pc' := 37) (sc M 17 (upf (cpy (M 17) (M 1) (70 * n) k) ((70 * n) + k) (M 1 k))) (mem_up (by rfl) (by intro j hj; simp only [sc, if_neg hj])) rfl (by decide) (by omega) dX5_image_36 rfl ?_
          refine g_iinc F (pc' := 40) (lv' := [some (.ref (a 0)), some (.int (iI n)), some (.int (iI (k + 1)))]) dX5_image_37 rfl rfl (by decide) rfl ?_
          refine g_goto F (tgt := 14) dX5_image_40 (by decide) ?_
          refine h_mem (sc M 17 (cpy (M 17) (M 1) (70 * n) (k + 1))) (by rw [cpy_s h0.1]) ?_
          exact ih_14 (k + 1) (by omega) (by omega)
    exact lp_14 ((64 - 0 : Int).toNat + 1) 0 (by omega) (by omega)
  · skip
    have c_6 := zC_0 c_6
    refine g_bipush F (pc' := 11) dX5_image_9 rfl (by decide +kernel) ?_
    exact g_iret F hr hlk dX5_image_11 (Or.inl ⟨c_6, rfl, rfl⟩)

theorem iX5_restore_X5 : ∀ w ∈ wsX50, w ∈ wsX5_restore := fun _ h => List.mem_cons_of_mem _ (List.mem_append_right _ h)
set_option maxHeartbeats 4000000 in
set_option maxRecDepth 100000 in
theorem c5_restore (l : Launch) (a : Nat → Nat) (M : Mem) (n : Int) (hn : -2147483648 ≤ n ∧ n < 2147483648) (hk : ∀ j, 0 ≤ M 18 j ∧ M 18 j ≤ 1) : CtI XT l yX5_restore wsX5_restore ({ frames := 1, cells := 0, slots := 0, locals := 22 } : Room) LR a M [.ref (a 0), .int (iI n)] (q5_restore M n) := by
  refine CtI.of (y := yX5_restore) (cc := cX5_restore) (maxL := 3) (ret := (some .int)) (lv := [some (.ref (a 0)), some (.int (iI n)), none]) (by decide) rfl (Nat.le_of_ble_eq_true rfl) (lvOK_of _ _ ⟨rfl, rfl⟩) ?_
  intro p e s m below meth c D T F K X0 hr hlk
  have hXc := XT_c
  refine g_iload_n F (pc' := 1) dX5_restore_0 rfl rfl ?_
  refine g_iconst F (pc' := 2) dX5_restore_1 rfl ?_
  refine g_iconst F (pc' := 3) dX5_restore_2 rfl ?_
  refine g_callP F (pc' := 6) (st := []) (c5_in l n 0 1 (by omega) (by omega) (by omega)) (va_cwS 3 F.2.2.2.2 gX5_restore_X5_in rfl rfl rfl (by decide +kernel) ⟨Nat.le_of_ble_eq_true rfl, Nat.le_of_ble_eq_true rfl⟩) rfl rfl (Nat.le_of_ble_eq_true rfl) dX5_restore_3 rfl ?_
  refine g_if_ne F (pc' := 9) (tgt := 12) dX5_restore_6 rfl (by decide) (zC_R _) (fun c_6 => ?_) (fun c_6 => ?_)
  · skip
    have c_6 := zC_1 c_6
    refine g_aload_n F (pc' := 13) dX5_restore_12 rfl rfl ?_
    refine g_getR F K (k := 0) (fld := 22) (ci := 5) (q := 18) (pc' := 16) iX5_restore_X5 rfl rfl rfl (by decide) (List.mem_of_getElem? (i := 1) rfl) dX5_restore_13 rfl ?_
    refine g_iload_n F (pc' := 17) dX5_restore_16 rfl rfl ?_
    refine g_zald F K (k := 18) (v := M 18 n) (pc' := 18) rfl (by decide) (by omega) dX5_restore_17 rfl (by first | rfl | simp [upf, sc]) ?_
    have b_17 := hk n
    refine g_if_ne F (pc' := 21) (tgt := 24) dX5_restore_18 rfl (by decide) (by omega) (fun c_18 => ?_) (fun c_18 => ?_)
    · skip
      refine g_iconst F (pc' := 25) dX5_restore_24 rfl ?_
      refine g_istore_n F (pc' := 26) (lv' := [some (.ref (a 0)), some (.int (iI n)), some (.int (iI 0))]) dX5_restore_25 rfl (by decide) rfl ?_
      refine h_mem (sc M 1 (cpr (M 1) (M 17) (70 * n) 0)) (by rw [cpr_0]; exact (sc_id _ 1).symm) ?_
      have lp_26 : ∀ (n_26 : Nat) (k : Int) (hm_26 : 64 - k < (n_26 : Int)) (h0 : 0 ≤ k ∧ k ≤ 64), GG p l e ({ frames := 1, cells := 0, slots := 0, locals := 22 } : Room) s m ([.ref (a 0), .int (iI n)].toArray) below meth c (PI D T a LR M (q5_restore M n) below ([.ref (a 0), .int (iI n)].toArray) s) D (AA T a LR M s.heap.size) 3 (wld T a LR (sc M 1 (cpr (M 1) (M 17) (70 * n) k))) 26 [some (.ref (a 0)), some (.int (iI n)), some (.int (iI k))] [] := by
        intro n_26
        induction n_26 with
        | zero => intro k hm_26 h0; exfalso; omega
        | succ n_26 ih_26 =>
          intro k hm_26 h0
          refine g_iload_n F (pc' := 27) dX5_restore_26 rfl rfl ?_
          refine g_bipush F (pc' := 29) dX5_restore_27 rfl (by decide +kernel) ?_
          refine g_icmp_ge F (pc' := 32) (tgt := 55) dX5_restore_29 rfl (by decide) (by omega) (by decide) (fun c_29 => ?_) (fun c_29 => ?_)
          · skip
            refine g_iconst F (pc' := 56) dX5_restore_55 rfl ?_
            refine g_istore_n F (pc' := 57) (lv' := [some (.ref (a 0)), some (.int (iI n)), some (.int (iI 0))]) dX5_restore_56 rfl (by decide) rfl ?_
            refine h_mem (sc (sc M 1 (cpr (M 1) (M 17) (70 * n) 64)) 2 (cpr (M 2) (M 17) (70 * n + 64) 0)) (by rw [cpr_0, show k = 64 by omega]; exact (sc_id _ 2).symm) ?_
            have lp_57 : ∀ (n_57 : Nat) (q : Int) (hm_57 : 5 - q < (n_57 : Int)) (h1 : 0 ≤ q ∧ q ≤ 5), GG p l e ({ frames := 1, cells := 0, slots := 0, locals := 22 } : Room) s m ([.ref (a 0), .int (iI n)].toArray) below meth c (PI D T a LR M (q5_restore M n) below ([.ref (a 0), .int (iI n)].toArray) s) D (AA T a LR M s.heap.size) 3 (wld T a LR (sc (sc M 1 (cpr (M 1) (M 17) (70 * n) 64)) 2 (cpr (M 2) (M 17) (70 * n + 64) q))) 57 [some (.ref (a 0)), some (.int (iI n)), some (.int (iI q))] [] := by
              intro n_57
              induction n_57 with
              | zero => intro q hm_57 h1; exfalso; omega
              | succ n_57 ih_57 =>
                intro q hm_57 h1
                refine g_iload_n F (pc' := 58) dX5_restore_57 rfl rfl ?_
                refine g_iconst F (pc' := 59) dX5_restore_58 rfl ?_
                refine g_icmp_ge F (pc' := 62) (tgt := 88) dX5_restore_59 rfl (by decide) (by omega) (by decide) (fun c_59 => ?_) (fun c_59 => ?_)
                · skip
                  refine g_aload_n F (pc' := 89) dX5_restore_88 rfl rfl ?_
                  refine g_aload_n F (pc' := 90) dX5_restore_89 rfl rfl ?_
                  refine g_getR F K (k := 0) (fld := 21) (ci := 5) (q := 17) (pc' := 93) iX5_restore_X5 rfl rfl rfl (by decide) (List.mem_of_getElem? (i := 3) rfl) dX5_restore_90 rfl ?_
                  refine g_bipush F (pc' := 95) dX5_restore_93 rfl (by decide +kernel) ?_
                  refine g_iload_n F (pc' := 96) dX5_restore_95 rfl rfl ?_
                  refine g_imul F (pc' := 97) dX5_restore_96 rfl ?_
                  refine g_bipush F (pc' := 99) dX5_restore_97 rfl (by decide +kernel) ?_
                  refine g_iadd F (pc' := 100) dX5_restore_99 rfl ?_
                  refine g_iald F K (k := 17) (v := M 17 ((70 * n) + 69)) (pc' := 101) rfl (by decide) (by omega) dX5_restore_100 rfl (by first | rfl | simp [upf, sc]) ?_
                  refine h_putI F K (k := 0) (fld := 1) (ci := 5) (pc' := 104) (sc (sc (sc M 0 (upf (M 0) 1 (M 17 ((70 * n) + 69)))) 1 (cpr (M 1) (M 17) (70 * n) 64)) 2 (cpr (M 2) (M 17) (70 * n + 64) q)) (mem_up (by rfl) (by intro j hj; simp only [sc, if_neg hj])) tyX5 tyX5_ok nmX5 iX5_restore_X5 rfl rfl rfl (by decide) rfl rfl (List.mem_of_getElem? (i := 5) rfl) dX5_restore_101 rfl ?_
                  refine g_iconst F (pc' := 105) dX5_restore_104 rfl ?_
                  exact g_iret F hr hlk dX5_restore_105 (Or.inr (Or.inr ⟨c_6, c_18, rfl, by rw [show (5 : Int) = q by omega]⟩))
                · skip
                  refine g_aload_n F (pc' := 63) dX5_restore_62 rfl rfl ?_
                  refine g_getR F K (k := 0) (fld := 2) (ci := 5) (q := 2) (pc' := 66) iX5_restore_X5 rfl rfl rfl (by decide) (List.mem_of_getElem? (i := 4) rfl) dX5_restore_63 rfl ?_
                  refine g_iload_n F (pc' := 67) dX5_restore_66 rfl rfl ?_
                  refine g_aload_n F (pc' := 68) dX5_restore_67 rfl rfl ?_
                  refine g_getR F K (k := 0) (fld := 21) (ci := 5) (q := 17) (pc' := 71) iX5_restore_X5 rfl rfl rfl (by decide) (List.mem_of_getElem? (i := 3) rfl) dX5_restore_68 rfl ?_
                  refine g_bipush F (pc' := 73) dX5_restore_71 rfl (by decide +kernel) ?_
                  refine g_iload_n F (pc' := 74) dX5_restore_73 rfl rfl ?_
                  refine g_imul F (pc' := 75) dX5_restore_74 rfl ?_
                  refine g_bipush F (pc' := 77) dX5_restore_75 rfl (by decide +kernel) ?_
                  refine g_iadd F (pc' := 78) dX5_restore_77 rfl ?_
                  refine g_iload_n F (pc' := 79) dX5_restore_78 rfl rfl ?_
                  refine g_iadd F (pc' := 80) dX5_restore_79 rfl ?_
                  refine g_iald F K (k := 17) (v := M 17 (((70 * n) + 64) + q)) (pc' := 81) rfl (by decide) (by omega) dX5_restore_80 rfl (by first | rfl | simp [upf, sc]) ?_
                  refine h_iast F K (k := 2) (pc' := 82) (sc (sc M 1 (cpr (M 1) (M 17) (70 * n) 64)) 2 (upf (cpr (M 2) (M 17) (70 * n + 64) q) q (M 17 (((70 * n) + 64) + q)))) (mem_up (by rfl) (by intro j hj; simp only [sc, if_neg hj])) rfl (by decide) (by omega) dX5_restore_81 rfl ?_
                  refine g_iinc F (pc' := 85) (lv' := [some (.ref (a 0)), some (.int (iI n)), some (.int (iI (q + 1)))]) dX5_restore_82 rfl rfl (by decide) rfl ?_
                  refine g_goto F (tgt := 57) dX5_restore_85 (by decide) ?_
                  refine h_mem (sc (sc M 1 (cpr (M 1) (M 17) (70 * n) 64)) 2 (cpr (M 2) (M 17) (70 * n + 64) (q + 1))) (by rw [cpr_s h1.1]) ?_
                  exact ih_57 (q + 1) (by omega) (by omega)
            exact lp_57 ((5 - 0 : Int).toNat + 1) 0 (by omega) (by omega)
          · skip
            refine g_aload_n F (pc' := 33) dX5_restore_32 rfl rfl ?_
            refine g_getR F K (k := 0) (fld := 0) (ci := 5) (q := 1) (pc' := 36) iX5_restore_X5 rfl rfl rfl (by decide) (List.mem_of_getElem? (i := 2) rfl) dX5_restore_33 rfl ?_
            refine g_iload_n F (pc' := 37) dX5_restore_36 rfl rfl ?_
            refine g_aload_n F (pc' := 38) dX5_restore_37 rfl rfl ?_
            refine g_getR F K (k := 0) (fld := 21) (ci := 5) (q := 17) (pc' := 41) iX5_restore_X5 rfl rfl rfl (by decide) (List.mem_of_getElem? (i := 3) rfl) dX5_restore_38 rfl ?_
            refine g_bipush F (pc' := 43) dX5_restore_41 rfl (by decide +kernel) ?_
            refine g_iload_n F (pc' := 44) dX5_restore_43 rfl rfl ?_
            refine g_imul F (pc' := 45) dX5_restore_44 rfl ?_
            refine g_iload_n F (pc' := 46) dX5_restore_45 rfl rfl ?_
            refine g_iadd F (pc' := 47) dX5_restore_46 rfl ?_
            refine g_iald F K (k := 17) (v := M 17 ((70 * n) + k)) (pc' := 48) rfl (by decide) (by omega) dX5_restore_47 rfl (by first | rfl | simp [upf, sc]) ?_
            refine h_iast F K (k := 1) (pc' := 49) (sc M 1 (upf (cpr (M 1) (M 17) (70 * n) k) k (M 17 ((70 * n) + k)))) (mem_up (by rfl) (by intro j hj; simp only [sc, if_neg hj])) rfl (by decide) (by omega) dX5_restore_48 rfl ?_
            refine g_iinc F (pc' := 52) (lv' := [some (.ref (a 0)), some (.int (iI n)), some (.int (iI (k + 1)))]) dX5_restore_49 rfl rfl (by decide) rfl ?_
            refine g_goto F (tgt := 26) dX5_restore_52 (by decide) ?_
            refine h_mem (sc M 1 (cpr (M 1) (M 17) (70 * n) (k + 1))) (by rw [cpr_s h0.1]) ?_
            exact ih_26 (k + 1) (by omega) (by omega)
      exact lp_26 ((64 - 0 : Int).toNat + 1) 0 (by omega) (by omega)
    · skip
      refine g_bipush F (pc' := 23) dX5_restore_21 rfl (by decide +kernel) ?_
      exact g_iret F hr hlk dX5_restore_23 (Or.inr (Or.inl ⟨c_6, c_18, rfl, rfl⟩))
  · skip
    have c_6 := zC_0 c_6
    refine g_bipush F (pc' := 11) dX5_restore_9 rfl (by decide +kernel) ?_
    exact g_iret F hr hlk dX5_restore_11 (Or.inl ⟨c_6, rfl, rfl⟩)
