/-! ===== the law tells a letter ===== -/
theorem BI_start {M : Mem} (hC : CI M) (h4 : M 4 4 = 0) (h44 : ∀ j, M 44 j = 0) (h9 : M 9 = rul0) : BI (sc M 44 (upf (upf (upf (M 44) 1 20) 2 1) 3 1)) (2 * 0) := by
  refine ⟨⟨hC.1, hC.2.1, hC.2.2⟩, h4, ?_, fun i a b => ?_⟩
  · show upf (upf (upf (M 44) 1 20) 2 1) 3 1 0 = 2 * 0
    rw [upf_n (by decide), upf_n (by decide), upf_n (by decide), h44]
    rfl
  · show M 9 i = upf (upf (upf (M 44) 1 20) 2 1) 3 1 (1 + i)
    rw [h9]
    rcases (show i = 0 ∨ i = 1 ∨ i = 2 ∨ i = 3 ∨ i = 4 by omega) with rfl | rfl | rfl | rfl | rfl
    · rw [upf_n (by decide), upf_n (by decide)]
      exact (upf_s _ _ _).symm
    · rw [upf_n (by decide)]
      exact (upf_s _ _ _).symm
    · exact (upf_s _ _ _).symm
    · rw [upf_n (by decide), upf_n (by decide), upf_n (by decide), h44]
      rfl
    · rw [upf_n (by decide), upf_n (by decide), upf_n (by decide), h44]
      rfl
theorem iL_edge_X0 : ∀ w ∈ wsX00, w ∈ wsL_edge := fun _ h => List.mem_cons_of_mem _ (List.mem_append_right _ h)
theorem iL_edge_X1 : ∀ w ∈ wsX10, w ∈ wsL_edge := fun _ h => List.mem_cons_of_mem _ (List.mem_append_left _ (List.mem_append_left _ (List.mem_append_right _ h)))
theorem iL_edge_X2 : ∀ w ∈ wsX20, w ∈ wsL_edge := fun _ h => List.mem_cons_of_mem _ (List.mem_append_left _ (List.mem_append_left _ (List.mem_append_left _ (List.mem_append_right _ h))))
theorem iL_edge_X3 : ∀ w ∈ wsX30, w ∈ wsL_edge := fun _ h => List.mem_cons_of_mem _ (List.mem_append_left _ (List.mem_append_right _ h))
theorem iL_edge_X4 : ∀ w ∈ wsX40, w ∈ wsL_edge := fun _ h => List.mem_cons_of_mem _ (List.mem_append_left _ (List.mem_append_left _ (List.mem_append_left _ (List.mem_append_left _ (List.mem_append_right _ h)))))
set_option maxHeartbeats 4000000 in
set_option maxRecDepth 100000 in
theorem c_edge {X : (Nat → Prop) → State → Heap → Prop} (hXc : XC X) (hXX : ∀ (A : Nat → Prop) (U : State) (H : Heap), X A U H → XS A U H) (l : Launch) (a : Nat → Nat) (M : Mem) (k x : Int) (hk : 0 ≤ k ∧ k ≤ 14) (hx : -2147483648 ≤ x ∧ x < 2147483648) (hJ : BJ M k) : CtI X l yL_edge wsL_edge ({ frames := 6, cells := 0, slots := 0, locals := 132 } : Room) LL a M [.ref (a 0), .ref (a 43), .ref (a 44), .int (iI x)] (fun z M' => z = 1 ∧ BJ M' (k + 1)) := by
  refine CtI.of (y := yL_edge) (cc := cL_edge) (maxL := 5) (ret := (some .boolean)) (lv := [some (.ref (a 0)), some (.ref (a 43)), some (.ref (a 44)), some (.int (iI x)), none]) (by decide) rfl (Nat.le_of_ble_eq_true rfl) (lvOK_of _ _ ⟨rfl, rfl⟩) ?_
  intro p e s m below meth c D T F K X0 hr hlk
  have hB := hJ.1
  have b44 := hB.2.2.1
  have hb0 := andZ_1 x
  refine g_iconst F (pc' := 1) dL_edge_0 rfl ?_
  refine g_aload_n F (pc' := 2) dL_edge_1 rfl rfl ?_
  refine g_iconst F (pc' := 3) dL_edge_2 rfl ?_
  refine g_iald F K (k := 44) (v := k) (pc' := 4) rfl (by decide) (by decide) dL_edge_3 rfl (by exact b44) ?_
  refine g_imul F (pc' := 5) dL_edge_4 rfl ?_
  refine g_istore F (pc' := 7) (lv' := [some (.ref (a 0)), some (.ref (a 43)), some (.ref (a 44)), some (.int (iI x)), some (.int (iI (4 * k)))]) dL_edge_5 rfl (by decide) rfl ?_
  refine g_aload_n F (pc' := 8) dL_edge_7 rfl rfl ?_
  refine g_iload F (pc' := 10) dL_edge_8 rfl rfl ?_
  refine g_iload_n F (pc' := 11) dL_edge_10 rfl rfl ?_
  refine g_iconst F (pc' := 12) dL_edge_11 rfl ?_
  refine g_iand F (pc' := 13) dL_edge_12 rfl ?_
  refine h_iast F K (k := 43) (pc' := 14) (sc M 43 (upf (M 43) (4 * k) (andZ x 1))) (mem_up (by rfl) (by intro j hj; simp only [sc, if_neg hj])) rfl (by decide) (by omega) dL_edge_13 rfl ?_
  refine g_aload_n F (pc' := 15) dL_edge_14 rfl rfl ?_
  refine g_iload F (pc' := 17) dL_edge_15 rfl rfl ?_
  refine g_iconst F (pc' := 18) dL_edge_17 rfl ?_
  refine g_iadd F (pc' := 19) dL_edge_18 rfl ?_
  refine g_iload_n F (pc' := 20) dL_edge_19 rfl rfl ?_
  refine g_iconst F (pc' := 21) dL_edge_20 rfl ?_
  refine g_ishr F (pc' := 22) dL_edge_21 rfl ?_
  refine g_iconst F (pc' := 23) dL_edge_22 rfl ?_
  refine g_iand F (pc' := 24) dL_edge_23 rfl ?_
  have lp_50 : ∀ (xv : Int) (hx1 : 0 ≤ xv ∧ xv ≤ 999), GG p l e ({ frames := 6, cells := 0, slots := 0, locals := 132 } : Room) s m ([.ref (a 0), .ref (a 43), .ref (a 44), .int (iI x)].toArray) below meth c (PI D T a LL M (fun z M' => z = 1 ∧ BJ M' (k + 1)) below ([.ref (a 0), .ref (a 43), .ref (a 44), .int (iI x)].toArray) s) D (AA T a LL M s.heap.size) 5 (wld T a LL (sc M 43 (upf (M 43) (4 * k) (andZ x 1)))) 50 [some (.ref (a 0)), some (.ref (a 43)), some (.ref (a 44)), some (.int (iI x)), some (.int (iI (4 * k)))] [.int (iI xv), .int (iI ((4 * k) + 1)), .ref (a 43)] := by
    intro xv hx1
    refine h_iast F K (k := 43) (pc' := 51) (sc M 43 (upf (upf (M 43) (4 * k) (andZ x 1)) ((4 * k) + 1) xv)) (mem_up (by rfl) (by intro j hj; simp only [sc, if_neg hj])) rfl (by decide) (by omega) dL_edge_50 rfl ?_
    refine g_aload_n F (pc' := 52) dL_edge_51 rfl rfl ?_
    refine g_iload F (pc' := 54) dL_edge_52 rfl rfl ?_
    refine g_iconst F (pc' := 55) dL_edge_54 rfl ?_
    refine g_iadd F (pc' := 56) dL_edge_55 rfl ?_
    refine g_iload_n F (pc' := 57) dL_edge_56 rfl rfl ?_
    refine g_iconst F (pc' := 58) dL_edge_57 rfl ?_
    refine g_ishr F (pc' := 59) dL_edge_58 rfl ?_
    refine g_iconst F (pc' := 60) dL_edge_59 rfl ?_
    refine g_iand F (pc' := 61) dL_edge_60 rfl ?_
    refine g_iconst F (pc' := 62) dL_edge_61 rfl ?_
    have lp_86 : ∀ (lo : Int) (hlo : 0 ≤ lo ∧ lo ≤ 998), GG p l e ({ frames := 6, cells := 0, slots := 0, locals := 132 } : Room) s m ([.ref (a 0), .ref (a 43), .ref (a 44), .int (iI x)].toArray) below meth c (PI D T a LL M (fun z M' => z = 1 ∧ BJ M' (k + 1)) below ([.ref (a 0), .ref (a 43), .ref (a 44), .int (iI x)].toArray) s) D (AA T a LL M s.heap.size) 5 (wld T a LL (sc M 43 (upf (upf (M 43) (4 * k) (andZ x 1)) ((4 * k) + 1) xv))) 86 [some (.ref (a 0)), some (.ref (a 43)), some (.ref (a 44)), some (.int (iI x)), some (.int (iI (4 * k)))] [.int (iI lo), .int (iI ((4 * k) + 2)), .ref (a 43)] := by
      intro lo hlo
      refine h_iast F K (k := 43) (pc' := 87) (sc M 43 (upf (upf (upf (M 43) (4 * k) (andZ x 1)) ((4 * k) + 1) xv) ((4 * k) + 2) lo)) (mem_up (by rfl) (by intro j hj; simp only [sc, if_neg hj])) rfl (by decide) (by omega) dL_edge_86 rfl ?_
      refine g_aload_n F (pc' := 88) dL_edge_87 rfl rfl ?_
      refine g_iload F (pc' := 90) dL_edge_88 rfl rfl ?_
      refine g_iconst F (pc' := 91) dL_edge_90 rfl ?_
      refine g_iadd F (pc' := 92) dL_edge_91 rfl ?_
      refine g_aload_n F (pc' := 93) dL_edge_92 rfl rfl ?_
      refine g_iload F (pc' := 95) dL_edge_93 rfl rfl ?_
      refine g_iconst F (pc' := 96) dL_edge_95 rfl ?_
      refine g_iadd F (pc' := 97) dL_edge_96 rfl ?_
      refine g_iald F K (k := 43) (v := lo) (pc' := 98) rfl (by decide) (by omega) dL_edge_97 rfl (by first | rfl | exact upf_s _ _ _ | simp [upf, sc]) ?_
      refine g_iconst F (pc' := 99) dL_edge_98 rfl ?_
      refine g_iadd F (pc' := 100) dL_edge_99 rfl ?_
      refine g_iload_n F (pc' := 101) dL_edge_100 rfl rfl ?_
      refine g_bipush F (pc' := 103) dL_edge_101 rfl (by decide +kernel) ?_
      refine g_ishr F (pc' := 104) dL_edge_103 rfl ?_
      refine g_sipush F (pc' := 107) dL_edge_104 rfl (by decide +kernel) ?_
      refine g_aload_n F (pc' := 108) dL_edge_107 rfl rfl ?_
      refine g_iload F (pc' := 110) dL_edge_108 rfl rfl ?_
      refine g_iconst F (pc' := 111) dL_edge_110 rfl ?_
      refine g_iadd F (pc' := 112) dL_edge_111 rfl ?_
      refine g_iald F K (k := 43) (v := lo) (pc' := 113) rfl (by decide) (by omega) dL_edge_112 rfl (by first | rfl | exact upf_s _ _ _ | simp [upf, sc]) ?_
      refine g_isub F (pc' := 114) dL_edge_113 rfl ?_
      refine g_callP F (pc' := 117) (st := [.int (iI (lo + 1)), .int (iI ((4 * k) + 3)), .ref (a 43)]) (c_up l (shrZ x 9) (999 - lo) (shrZ_R _ _) (by omega)) (va_cwS 2 F.2.2.2.2 gL_edge_L_up rfl rfl rfl (by decide +kernel) ⟨Nat.le_of_ble_eq_true rfl, Nat.le_of_ble_eq_true rfl⟩) rfl rfl (Nat.le_of_ble_eq_true rfl) dL_edge_114 rfl ?_
      have b_114 := upZ_R (v := shrZ x 9) (m := 999 - lo) (by omega)
      refine g_iadd F (pc' := 118) dL_edge_117 rfl ?_
      obtain ⟨hi, ehi⟩ : ∃ z : Int, z = (lo + 1) + (upZ (shrZ x 9) (999 - lo)) := ⟨_, rfl⟩
      refine h_top (z' := hi) ehi.symm ?_
      have lp_119 : ∀ (N : Mem) (hN : ∀ j : Nat, j ≠ 43 → N j = M j) (he0 : N 43 (4 * k) = 0 ∨ N 43 (4 * k) = 1) (he1 : N 43 ((4 * k) + 1) = xv) (he2 : N 43 ((4 * k) + 2) = lo) (he3 : N 43 ((4 * k) + 3) = hi), GG p l e ({ frames := 6, cells := 0, slots := 0, locals := 132 } : Room) s m ([.ref (a 0), .ref (a 43), .ref (a 44), .int (iI x)].toArray) below meth c (PI D T a LL M (fun z M' => z = 1 ∧ BJ M' (k + 1)) below ([.ref (a 0), .ref (a 43), .ref (a 44), .int (iI x)].toArray) s) D (AA T a LL M s.heap.size) 5 (wld T a LL N) 119 [some (.ref (a 0)), some (.ref (a 43)), some (.ref (a 44)), some (.int (iI x)), some (.int (iI (4 * k)))] [] := by
        intro N hN he0 he1 he2 he3
        have hN2 : ∀ j, 0 ≤ N 2 j ∧ N 2 j ≤ 126 := by rw [hN 2 (by decide)]; exact hB.1.1.2.1
        have hN44 : N 44 0 = k := by rw [hN 44 (by decide)]; exact hB.2.2.1
        have hLB : LBf (N 4 4) (N 5) (N 6) (N 7) (N 8) (N 9) := by rw [hN 4 (by decide), hN 5 (by decide), hN 6 (by decide), hN 7 (by decide), hN 8 (by decide), hN 9 (by decide)]; exact hB.1.1.2.2.1
        have hb4 := hB.2.1
        refine g_aload_n F (pc' := 120) dL_edge_119 rfl rfl ?_
        refine g_callI F K hXc X0 (pc' := 123) (st := []) (e4_wipe hXX l a N) (cwV 0 F.2.2.2.2 gL_edge_X4_wipe rfl rfl rfl (by decide +kernel) ⟨Nat.le_of_ble_eq_true rfl, Nat.le_of_ble_eq_true rfl⟩) rfl rfl rfl rfl (Nat.le_of_ble_eq_true rfl) dL_edge_120 rfl (fun z_120 M_120 q_120 => ?_)
        obtain ⟨-, ew_120⟩ := q_120
        subst ew_120
        refine h_mem (PD N 0 (N 2)) (PD_w N) ?_
        refine g_pop F (pc' := 124) dL_edge_123 rfl ?_
        refine g_aload_n F (pc' := 125) dL_edge_124 rfl rfl ?_
        refine g_aload_n F (pc' := 126) dL_edge_125 rfl rfl ?_
        refine g_iload F (pc' := 128) dL_edge_126 rfl rfl ?_
        refine g_iald F K (k := 43) (v := N 43 (4 * k)) (pc' := 129) rfl (by decide) (by omega) dL_edge_128 rfl (by rfl) ?_
        refine g_iconst F (pc' := 130) dL_edge_129 rfl ?_
        have lp_140 : ∀ (ch : Int) (hch : ch = 117 ∨ ch = 100), GG p l e ({ frames := 6, cells := 0, slots := 0, locals := 132 } : Room) s m ([.ref (a 0), .ref (a 43), .ref (a 44), .int (iI x)].toArray) below meth c (PI D T a LL M (fun z M' => z = 1 ∧ BJ M' (k + 1)) below ([.ref (a 0), .ref (a 43), .ref (a 44), .int (iI x)].toArray) s) D (AA T a LL M s.heap.size) 5 (wld T a LL (PD N 0 (N 2))) 140 [some (.ref (a 0)), some (.ref (a 43)), some (.ref (a 44)), some (.int (iI x)), some (.int (iI (4 * k)))] [.int (iI ch), .ref (a 0)] := by
          intro ch hch
          refine g_callI F K hXc X0 (pc' := 143) (st := []) (e4_sayP hXX l a N 0 (N 2) ch (by omega) (by omega) hN2) (cwV 1 F.2.2.2.2 gL_edge_X4_say rfl rfl rfl (by decide +kernel) ⟨Nat.le_of_ble_eq_true rfl, Nat.le_of_ble_eq_true rfl⟩) rfl rfl rfl rfl (Nat.le_of_ble_eq_true rfl) dL_edge_140 rfl (fun z_140 M_140 q_140 => ?_)
          subst q_140
          have hP_140 : ∀ j, 0 ≤ (upf (N 2) 0 ch) j ∧ (upf (N 2) 0 ch) j ≤ 126 := upf_P hN2 (by omega)
          refine g_pop F (pc' := 144) dL_edge_143 rfl ?_
          refine g_aload_n F (pc' := 145) dL_edge_144 rfl rfl ?_
          refine g_aload_n F (pc' := 146) dL_edge_145 rfl rfl ?_
          refine g_iload F (pc' := 148) dL_edge_146 rfl rfl ?_
          refine g_iconst F (pc' := 149) dL_edge_148 rfl ?_
          refine g_iadd F (pc' := 150) dL_edge_149 rfl ?_
          refine g_iald F K (k := 43) (v := xv) (pc' := 151) rfl (by decide) (by omega) dL_edge_150 rfl (by exact he1) ?_
          refine g_iload_n F (pc' := 152) dL_edge_151 rfl rfl ?_
          refine g_bipush F (pc' := 154) dL_edge_152 rfl (by decide +kernel) ?_
          refine g_iand F (pc' := 155) dL_edge_154 rfl ?_
          have lp_163 : ∀ (w : Int) (hw : 0 ≤ w ∧ w ≤ 1), GG p l e ({ frames := 6, cells := 0, slots := 0, locals := 132 } : Room) s m ([.ref (a 0), .ref (a 43), .ref (a 44), .int (iI x)].toArray) below meth c (PI D T a LL M (fun z M' => z = 1 ∧ BJ M' (k + 1)) below ([.ref (a 0), .ref (a 43), .ref (a 44), .int (iI x)].toArray) s) D (AA T a LL M s.heap.size) 5 (wld T a LL (PD N (0 + 1) (upf (N 2) 0 ch))) 163 [some (.ref (a 0)), some (.ref (a 43)), some (.ref (a 44)), some (.int (iI x)), some (.int (iI (4 * k)))] [.int (iI w), .int (iI xv), .ref (a 0)] := by
            intro w hw
            refine g_callSV F K hXc X0 (pc' := 166) (st := []) (c_number hXc hXX l a N (0 + 1) (upf (N 2) 0 ch) xv w (by omega) (by omega) (by omega) hP_140) (va_cwS 3 F.2.2.2.2 gL_edge_L_number rfl rfl rfl (by decide +kernel) ⟨Nat.le_of_ble_eq_true rfl, Nat.le_of_ble_eq_true rfl⟩) rfl rfl (Nat.le_of_ble_eq_true rfl) dL_edge_163 rfl (fun M_163 q_163 => ?_)
            obtain ⟨k1, f1, hk1, em1, ha1, hp1, hb1, hc1⟩ := q_163
            subst em1
            refine g_aload_n F (pc' := 167) dL_edge_166 rfl rfl ?_
            refine g_bipush F (pc' := 169) dL_edge_167 rfl (by decide +kernel) ?_
            refine g_callI F K hXc X0 (pc' := 172) (st := []) (e4_sayP hXX l a N (0 + 1 + k1) f1 44 (by omega) (by omega) hp1) (cwV 1 F.2.2.2.2 gL_edge_X4_say rfl rfl rfl (by decide +kernel) ⟨Nat.le_of_ble_eq_true rfl, Nat.le_of_ble_eq_true rfl⟩) rfl rfl rfl rfl (Nat.le_of_ble_eq_true rfl) dL_edge_169 rfl (fun z_169 M_169 q_169 => ?_)
            subst q_169
            have hP_169 : ∀ j, 0 ≤ (upf f1 (0 + 1 + k1) 44) j ∧ (upf f1 (0 + 1 + k1) 44) j ≤ 126 := upf_P hp1 (by omega)
            refine g_pop F (pc' := 173) dL_edge_172 rfl ?_
            refine g_aload_n F (pc' := 174) dL_edge_173 rfl rfl ?_
            refine g_aload_n F (pc' := 175) dL_edge_174 rfl rfl ?_
            refine g_iload F (pc' := 177) dL_edge_175 rfl rfl ?_
            refine g_iconst F (pc' := 178) dL_edge_177 rfl ?_
            refine g_iadd F (pc' := 179) dL_edge_178 rfl ?_
            refine g_iald F K (k := 43) (v := lo) (pc' := 180) rfl (by decide) (by omega) dL_edge_179 rfl (by exact he2) ?_
            refine g_iload_n F (pc' := 181) dL_edge_180 rfl rfl ?_
            refine g_bipush F (pc' := 183) dL_edge_181 rfl (by decide +kernel) ?_
            refine g_iand F (pc' := 184) dL_edge_183 rfl ?_
            have lp_192 : ∀ (w : Int) (hw : 0 ≤ w ∧ w ≤ 1), GG p l e ({ frames := 6, cells := 0, slots := 0, locals := 132 } : Room) s m ([.ref (a 0), .ref (a 43), .ref (a 44), .int (iI x)].toArray) below meth c (PI D T a LL M (fun z M' => z = 1 ∧ BJ M' (k + 1)) below ([.ref (a 0), .ref (a 43), .ref (a 44), .int (iI x)].toArray) s) D (AA T a LL M s.heap.size) 5 (wld T a LL (PD N (0 + 1 + k1 + 1) (upf f1 (0 + 1 + k1) 44))) 192 [some (.ref (a 0)), some (.ref (a 43)), some (.ref (a 44)), some (.int (iI x)), some (.int (iI (4 * k)))] [.int (iI w), .int (iI lo), .ref (a 0)] := by
              intro w hw
              refine g_callSV F K hXc X0 (pc' := 195) (st := []) (c_number hXc hXX l a N (0 + 1 + k1 + 1) (upf f1 (0 + 1 + k1) 44) lo w (by omega) (by omega) (by omega) hP_169) (va_cwS 3 F.2.2.2.2 gL_edge_L_number rfl rfl rfl (by decide +kernel) ⟨Nat.le_of_ble_eq_true rfl, Nat.le_of_ble_eq_true rfl⟩) rfl rfl (Nat.le_of_ble_eq_true rfl) dL_edge_192 rfl (fun M_192 q_192 => ?_)
              obtain ⟨k2, f2, hk2, em2, ha2, hp2, hb2, hc2⟩ := q_192
              subst em2
              refine g_aload_n F (pc' := 196) dL_edge_195 rfl rfl ?_
              refine g_bipush F (pc' := 198) dL_edge_196 rfl (by decide +kernel) ?_
              refine g_callI F K hXc X0 (pc' := 201) (st := []) (e4_sayP hXX l a N (0 + 1 + k1 + 1 + k2) f2 45 (by omega) (by omega) hp2) (cwV 1 F.2.2.2.2 gL_edge_X4_say rfl rfl rfl (by decide +kernel) ⟨Nat.le_of_ble_eq_true rfl, Nat.le_of_ble_eq_true rfl⟩) rfl rfl rfl rfl (Nat.le_of_ble_eq_true rfl) dL_edge_198 rfl (fun z_198 M_198 q_198 => ?_)
              subst q_198
              have hP_198 : ∀ j, 0 ≤ (upf f2 (0 + 1 + k1 + 1 + k2) 45) j ∧ (upf f2 (0 + 1 + k1 + 1 + k2) 45) j ≤ 126 := upf_P hp2 (by omega)
              refine g_pop F (pc' := 202) dL_edge_201 rfl ?_
              refine g_aload_n F (pc' := 203) dL_edge_202 rfl rfl ?_
              refine g_aload_n F (pc' := 204) dL_edge_203 rfl rfl ?_
              refine g_iload F (pc' := 206) dL_edge_204 rfl rfl ?_
              refine g_iconst F (pc' := 207) dL_edge_206 rfl ?_
              refine g_iadd F (pc' := 208) dL_edge_207 rfl ?_
              refine g_iald F K (k := 43) (v := hi) (pc' := 209) rfl (by decide) (by omega) dL_edge_208 rfl (by exact he3) ?_
              refine g_iload_n F (pc' := 210) dL_edge_209 rfl rfl ?_
              refine g_bipush F (pc' := 212) dL_edge_210 rfl (by decide +kernel) ?_
              refine g_iand F (pc' := 213) dL_edge_212 rfl ?_
              have lp_221 : ∀ (w : Int) (hw : 0 ≤ w ∧ w ≤ 1), GG p l e ({ frames := 6, cells := 0, slots := 0, locals := 132 } : Room) s m ([.ref (a 0), .ref (a 43), .ref (a 44), .int (iI x)].toArray) below meth c (PI D T a LL M (fun z M' => z = 1 ∧ BJ M' (k + 1)) below ([.ref (a 0), .ref (a 43), .ref (a 44), .int (iI x)].toArray) s) D (AA T a LL M s.heap.size) 5 (wld T a LL (PD N (0 + 1 + k1 + 1 + k2 + 1) (upf f2 (0 + 1 + k1 + 1 + k2) 45))) 221 [some (.ref (a 0)), some (.ref (a 43)), some (.ref (a 44)), some (.int (iI x)), some (.int (iI (4 * k)))] [.int (iI w), .int (iI hi), .ref (a 0)] := by
                intro w hw
                refine g_callSV F K hXc X0 (pc' := 224) (st := []) (c_number hXc hXX l a N (0 + 1 + k1 + 1 + k2 + 1) (upf f2 (0 + 1 + k1 + 1 + k2) 45) hi w (by omega) (by omega) (by omega) hP_198) (va_cwS 3 F.2.2.2.2 gL_edge_L_number rfl rfl rfl (by decide +kernel) ⟨Nat.le_of_ble_eq_true rfl, Nat.le_of_ble_eq_true rfl⟩) rfl rfl (Nat.le_of_ble_eq_true rfl) dL_edge_221 rfl (fun M_221 q_221 => ?_)
                obtain ⟨k3, f3, hk3, em3, ha3, hp3, hb3, hc3⟩ := q_221
                subst em3
                refine g_aload_n F (pc' := 225) dL_edge_224 rfl rfl ?_
                refine g_iconst F (pc' := 226) dL_edge_225 rfl ?_
                refine g_dup2 F (pc' := 227) dL_edge_226 rfl rfl rfl ?_
                refine g_iald F K (k := 44) (v := k) (pc' := 228) rfl (by decide) (by decide) dL_edge_227 rfl (by exact hN44) ?_
                refine g_iconst F (pc' := 229) dL_edge_228 rfl ?_
                refine g_iadd F (pc' := 230) dL_edge_229 rfl ?_
                refine h_iast F K (k := 44) (pc' := 231) (sc (PD N (0 + 1 + k1 + 1 + k2 + 1 + k3) f3) 44 (upf ((PD N (0 + 1 + k1 + 1 + k2 + 1 + k3) f3) 44) 0 (k + 1))) (mem_up (by rfl) (by intro j hj; simp only [sc, if_neg hj])) rfl (by decide) (by decide) dL_edge_230 rfl ?_
                have e11 : (sc (PD N (0 + 1 + k1 + 1 + k2 + 1 + k3) f3) 44 (upf ((PD N (0 + 1 + k1 + 1 + k2 + 1 + k3) f3) 44) 0 (k + 1))) 1 1 = 0 + 1 + k1 + 1 + k2 + 1 + k3 := PD_1 N (0 + 1 + k1 + 1 + k2 + 1 + k3) f3
                refine g_aload_n F (pc' := 232) dL_edge_231 rfl rfl ?_
                refine g_callI F K hXc X0 (pc' := 235) (st := []) (e4_edge hXX l a (sc (PD N (0 + 1 + k1 + 1 + k2 + 1 + k3) f3) 44 (upf ((PD N (0 + 1 + k1 + 1 + k2 + 1 + k3) f3) 44) 0 (k + 1))) (by rw [e11]; omega) hp3 (by exact hLB)) (cwV 0 F.2.2.2.2 gL_edge_X4_edge rfl rfl rfl (by decide +kernel) ⟨Nat.le_of_ble_eq_true rfl, Nat.le_of_ble_eq_true rfl⟩) rfl rfl rfl rfl (Nat.le_of_ble_eq_true rfl) dL_edge_232 rfl (fun z_232 M_232 q_232 => ?_)
                have hfl := pad_edge hch hk1 hk2 hk3 ha1 hb1 hc1 ha2 hb2 hc2 ha3 hb3 hc3 (show lo < hi by omega) rfl
                rcases q_232 with ⟨c9, -⟩ | ⟨-, c9, -⟩ | ⟨-, -, ez, nu, hnu, hrn⟩
                · exact absurd (show fl ((sc (PD N (0 + 1 + k1 + 1 + k2 + 1 + k3) f3) 44 (upf ((PD N (0 + 1 + k1 + 1 + k2 + 1 + k3) f3) 44) 0 (k + 1))) 2) ((sc (PD N (0 + 1 + k1 + 1 + k2 + 1 + k3) f3) 44 (upf ((PD N (0 + 1 + k1 + 1 + k2 + 1 + k3) f3) 44) 0 (k + 1))) 1 1) = -6 by rw [e11]; exact hfl.1) c9
                · exfalso; have c8 : 16 ≤ N 4 4 := c9; rw [hN 4 (by decide)] at c8; omega
                have ez2 : z_232 = k + 1 := by have e8 : z_232 = N 4 4 + 1 := ez; rw [hN 4 (by decide)] at e8; omega
                obtain ⟨hBN, h44N⟩ := BJ_edge hJ (by omega) (fun j hj => (sc_n hj.2.2.2).trans ((PD_n ⟨hj.1, hj.2.1⟩).trans (hN j hj.2.2.1))) hp3 (by show upf (N 44) 0 (k + 1) = _; rw [hN 44 (by decide)]) hnu (show pv2 ((sc (PD N (0 + 1 + k1 + 1 + k2 + 1 + k3) f3) 44 (upf ((PD N (0 + 1 + k1 + 1 + k2 + 1 + k3) f3) 44) 0 (k + 1))) 2) ((sc (PD N (0 + 1 + k1 + 1 + k2 + 1 + k3) f3) 44 (upf ((PD N (0 + 1 + k1 + 1 + k2 + 1 + k3) f3) 44) 0 (k + 1))) 1 1) < pv3 ((sc (PD N (0 + 1 + k1 + 1 + k2 + 1 + k3) f3) 44 (upf ((PD N (0 + 1 + k1 + 1 + k2 + 1 + k3) f3) 44) 0 (k + 1))) 2) ((sc (PD N (0 + 1 + k1 + 1 + k2 + 1 + k3) f3) 44 (upf ((PD N (0 + 1 + k1 + 1 + k2 + 1 + k3) f3) 44) 0 (k + 1))) 1 1) by rw [e11]; show pv2 f3 _ < pv3 f3 _; rw [hfl.2.2.1, hfl.2.2.2]; omega) hrn
                refine g_aload_n F (pc' := 236) dL_edge_235 rfl rfl ?_
                refine g_iconst F (pc' := 237) dL_edge_236 rfl ?_
                refine g_iald F K (k := 44) (v := M_232 44 0) (pc' := 238) rfl (by decide) (by decide) dL_edge_237 rfl (by first | rfl | simp [upf, sc]) ?_
                refine g_icmp_ne F (pc' := 241) (tgt := 245) dL_edge_238 rfl (by decide) (by omega) (by omega) (fun c_238 => ?_) (fun c_238 => ?_)
                · skip
                  exact absurd (by omega) c_238
                · skip
                  refine g_iconst F (pc' := 242) dL_edge_241 rfl ?_
                  refine g_goto F (tgt := 246) dL_edge_242 (by decide) ?_
                  exact g_zret F hr hlk dL_edge_246 (Or.inr rfl) (⟨rfl, hBN⟩)
              refine g_if_ne F (pc' := 216) (tgt := 220) dL_edge_213 rfl (by decide) (andZ_R _ _) (fun c_213 => ?_) (fun c_213 => ?_)
              · skip
                refine g_iconst F (pc' := 221) dL_edge_220 rfl ?_
                exact lp_221 0 (by omega)
              · skip
                refine g_iconst F (pc' := 217) dL_edge_216 rfl ?_
                refine g_goto F (tgt := 221) dL_edge_217 (by decide) ?_
                exact lp_221 1 (by omega)
            refine g_if_ne F (pc' := 187) (tgt := 191) dL_edge_184 rfl (by decide) (andZ_R _ _) (fun c_184 => ?_) (fun c_184 => ?_)
            · skip
              refine g_iconst F (pc' := 192) dL_edge_191 rfl ?_
              exact lp_192 0 (by omega)
            · skip
              refine g_iconst F (pc' := 188) dL_edge_187 rfl ?_
              refine g_goto F (tgt := 192) dL_edge_188 (by decide) ?_
              exact lp_192 1 (by omega)
          refine g_if_ne F (pc' := 158) (tgt := 162) dL_edge_155 rfl (by decide) (andZ_R _ _) (fun c_155 => ?_) (fun c_155 => ?_)
          · skip
            refine g_iconst F (pc' := 163) dL_edge_162 rfl ?_
            exact lp_163 0 (by omega)
          · skip
            refine g_iconst F (pc' := 159) dL_edge_158 rfl ?_
            refine g_goto F (tgt := 163) dL_edge_159 (by decide) ?_
            exact lp_163 1 (by omega)
        refine g_icmp_ne F (pc' := 133) (tgt := 138) dL_edge_130 rfl (by decide) (by omega) (by decide) (fun c_130 => ?_) (fun c_130 => ?_)
        · skip
          refine g_bipush F (pc' := 140) dL_edge_138 rfl (by decide +kernel) ?_
          exact lp_140 100 (by omega)
        · skip
          refine g_bipush F (pc' := 135) dL_edge_133 rfl (by decide +kernel) ?_
          refine g_goto F (tgt := 140) dL_edge_135 (by decide) ?_
          exact lp_140 117 (by omega)
      refine h_iast F K (k := 43) (pc' := 119) (sc M 43 (upf (upf (upf (upf (M 43) (4 * k) (andZ x 1)) ((4 * k) + 1) xv) ((4 * k) + 2) lo) ((4 * k) + 3) hi)) (mem_up (by rfl) (by intro j hj; simp only [sc, if_neg hj])) rfl (by decide) (by omega) dL_edge_118 rfl ?_
      exact lp_119 (sc M 43 (upf (upf (upf (upf (M 43) (4 * k) (andZ x 1)) ((4 * k) + 1) xv) ((4 * k) + 2) lo) ((4 * k) + 3) hi)) (fun j hj => sc_n hj) (by rw [sc_s, upf_n (by omega), upf_n (by omega), upf_n (by omega), upf_s]; exact hb0) (by rw [sc_s, upf_n (by omega), upf_n (by omega), upf_s]) (by rw [sc_s, upf_n (by omega), upf_s]) (by rw [sc_s, upf_s])
    refine g_icmp_ge F (pc' := 65) (tgt := 77) dL_edge_62 rfl (by decide) (andZ_R _ _) (by decide) (fun c_62 => ?_) (fun c_62 => ?_)
    · skip
      refine g_iload_n F (pc' := 78) dL_edge_77 rfl rfl ?_
      refine g_iconst F (pc' := 79) dL_edge_78 rfl ?_
      refine g_ishr F (pc' := 80) dL_edge_79 rfl ?_
      refine g_sipush F (pc' := 83) dL_edge_80 rfl (by decide +kernel) ?_
      refine g_callP F (pc' := 86) (st := [.int (iI ((4 * k) + 2)), .ref (a 43)]) (c_up l (shrZ x 4) 999 (shrZ_R _ _) (by omega)) (va_cwS 2 F.2.2.2.2 gL_edge_L_up rfl rfl rfl (by decide +kernel) ⟨Nat.le_of_ble_eq_true rfl, Nat.le_of_ble_eq_true rfl⟩) rfl rfl (Nat.le_of_ble_eq_true rfl) dL_edge_83 rfl ?_
      have b_83 := upZ_R (v := shrZ x 4) (m := 999) (by omega)
      exact lp_86 (upZ (shrZ x 4) 999) (by omega)
    · skip
      refine g_iload_n F (pc' := 66) dL_edge_65 rfl rfl ?_
      refine g_iconst F (pc' := 67) dL_edge_66 rfl ?_
      refine g_ishr F (pc' := 68) dL_edge_67 rfl ?_
      refine g_sipush F (pc' := 71) dL_edge_68 rfl (by decide +kernel) ?_
      refine g_callP F (pc' := 74) (st := [.int (iI ((4 * k) + 2)), .ref (a 43)]) (c_up l (shrZ x 4) 300 (shrZ_R _ _) (by omega)) (va_cwS 2 F.2.2.2.2 gL_edge_L_up rfl rfl rfl (by decide +kernel) ⟨Nat.le_of_ble_eq_true rfl, Nat.le_of_ble_eq_true rfl⟩) rfl rfl (Nat.le_of_ble_eq_true rfl) dL_edge_71 rfl ?_
      have b_71 := upZ_R (v := shrZ x 4) (m := 300) (by omega)
      refine g_goto F (tgt := 86) dL_edge_74 (by decide) ?_
      exact lp_86 (upZ (shrZ x 4) 300) (by omega)
  refine g_if_ne F (pc' := 27) (tgt := 39) dL_edge_24 rfl (by decide) (andZ_R _ _) (fun c_24 => ?_) (fun c_24 => ?_)
  · skip
    refine g_bipush F (pc' := 41) dL_edge_39 rfl (by decide +kernel) ?_
    refine g_iload_n F (pc' := 42) dL_edge_41 rfl rfl ?_
    refine g_iconst F (pc' := 43) dL_edge_42 rfl ?_
    refine g_ishr F (pc' := 44) dL_edge_43 rfl ?_
    refine g_bipush F (pc' := 46) dL_edge_44 rfl (by decide +kernel) ?_
    refine g_callP F (pc' := 49) (st := [.int (iI 40), .int (iI ((4 * k) + 1)), .ref (a 43)]) (c_up l (shrZ x 2) 25 (shrZ_R _ _) (by omega)) (va_cwS 2 F.2.2.2.2 gL_edge_L_up rfl rfl rfl (by decide +kernel) ⟨Nat.le_of_ble_eq_true rfl, Nat.le_of_ble_eq_true rfl⟩) rfl rfl (Nat.le_of_ble_eq_true rfl) dL_edge_46 rfl ?_
    have b_46 := upZ_R (v := shrZ x 2) (m := 25) (by omega)
    refine g_imul F (pc' := 50) dL_edge_49 rfl ?_
    exact lp_50 (40 * (upZ (shrZ x 2) 25)) (by omega)
  · skip
    refine g_iload_n F (pc' := 28) dL_edge_27 rfl rfl ?_
    refine g_iconst F (pc' := 29) dL_edge_28 rfl ?_
    refine g_ishr F (pc' := 30) dL_edge_29 rfl ?_
    refine g_sipush F (pc' := 33) dL_edge_30 rfl (by decide +kernel) ?_
    refine g_callP F (pc' := 36) (st := [.int (iI ((4 * k) + 1)), .ref (a 43)]) (c_up l (shrZ x 2) 1000 (shrZ_R _ _) (by omega)) (va_cwS 2 F.2.2.2.2 gL_edge_L_up rfl rfl rfl (by decide +kernel) ⟨Nat.le_of_ble_eq_true rfl, Nat.le_of_ble_eq_true rfl⟩) rfl rfl (Nat.le_of_ble_eq_true rfl) dL_edge_33 rfl ?_
    have b_33 := upZ_R (v := shrZ x 2) (m := 1000) (by omega)
    refine g_goto F (tgt := 50) dL_edge_36 (by decide) ?_
    exact lp_50 (upZ (shrZ x 2) 1000) (by omega)

theorem iL_pair_X0 : ∀ w ∈ wsX00, w ∈ wsL_pair := fun _ h => List.mem_cons_of_mem _ (List.mem_append_right _ h)
theorem iL_pair_X1 : ∀ w ∈ wsX10, w ∈ wsL_pair := fun _ h => List.mem_cons_of_mem _ (List.mem_append_left _ (List.mem_append_left _ (List.mem_append_right _ h)))
theorem iL_pair_X2 : ∀ w ∈ wsX20, w ∈ wsL_pair := fun _ h => List.mem_cons_of_mem _ (List.mem_append_left _ (List.mem_append_left _ (List.mem_append_left _ (List.mem_append_right _ h))))
theorem iL_pair_X3 : ∀ w ∈ wsX30, w ∈ wsL_pair := fun _ h => List.mem_cons_of_mem _ (List.mem_append_left _ (List.mem_append_right _ h))
theorem iL_pair_X4 : ∀ w ∈ wsX40, w ∈ wsL_pair := fun _ h => List.mem_cons_of_mem _ (List.mem_append_left _ (List.mem_append_left _ (List.mem_append_left _ (List.mem_append_left _ (List.mem_append_right _ h)))))
set_option maxHeartbeats 4000000 in
set_option maxRecDepth 100000 in
theorem c_pair {X : (Nat → Prop) → State → Heap → Prop} (hXc : XC X) (hXX : ∀ (A : Nat → Prop) (U : State) (H : Heap), X A U H → XS A U H) (l : Launch) (a : Nat → Nat) (M : Mem) (k x : Int) (hk : 0 ≤ k ∧ k ≤ 13) (hx : -2147483648 ≤ x ∧ x < 2147483648) (hJ : BJ M k) : CtI X l yL_pair wsL_pair ({ frames := 6, cells := 0, slots := 0, locals := 132 } : Room) LL a M [.ref (a 0), .ref (a 43), .ref (a 44), .int (iI x)] (fun z M' => z = 1 ∧ BJ M' (k + 2)) := by
  refine CtI.of (y := yL_pair) (cc := cL_pair) (maxL := 7) (ret := (some .boolean)) (lv := [some (.ref (a 0)), some (.ref (a 43)), some (.ref (a 44)), some (.int (iI x)), none, none, none]) (by decide) rfl (Nat.le_of_ble_eq_true rfl) (lvOK_of _ _ ⟨rfl, rfl⟩) ?_
  intro p e s m below meth c D T F K X0 hr hlk
  have hB := hJ.1
  have b44 := hB.2.2.1
  refine g_iload_n F (pc' := 1) dL_pair_0 rfl rfl ?_
  refine g_sipush F (pc' := 4) dL_pair_1 rfl (by decide +kernel) ?_
  refine g_callP F (pc' := 7) (st := []) (c_up l x 900 (by omega) (by omega)) (va_cwS 2 F.2.2.2.2 gL_pair_L_up rfl rfl rfl (by decide +kernel) ⟨Nat.le_of_ble_eq_true rfl, Nat.le_of_ble_eq_true rfl⟩) rfl rfl (Nat.le_of_ble_eq_true rfl) dL_pair_4 rfl ?_
  have b_4 := upZ_R (v := x) (m := 900) (by omega)
  obtain ⟨fr, efr⟩ : ∃ z : Int, z = upZ x 900 := ⟨_, rfl⟩
  refine h_top (z' := fr) efr.symm ?_
  have hfr : 0 ≤ fr ∧ fr < 900 := by omega
  refine g_istore F (pc' := 9) (lv' := [some (.ref (a 0)), some (.ref (a 43)), some (.ref (a 44)), some (.int (iI x)), some (.int (iI fr)), none, none]) dL_pair_7 rfl (by decide) rfl ?_
  refine g_iconst F (pc' := 10) dL_pair_9 rfl ?_
  refine g_aload_n F (pc' := 11) dL_pair_10 rfl rfl ?_
  refine g_iconst F (pc' := 12) dL_pair_11 rfl ?_
  refine g_iald F K (k := 44) (v := k) (pc' := 13) rfl (by decide) (by decide) dL_pair_12 rfl (by exact b44) ?_
  refine g_imul F (pc' := 14) dL_pair_13 rfl ?_
  refine g_istore F (pc' := 16) (lv' := [some (.ref (a 0)), some (.ref (a 43)), some (.ref (a 44)), some (.int (iI x)), some (.int (iI fr)), some (.int (iI (4 * k))), none]) dL_pair_14 rfl (by decide) rfl ?_
  refine g_iconst F (pc' := 17) dL_pair_16 rfl ?_
  refine g_istore F (pc' := 19) (lv' := [some (.ref (a 0)), some (.ref (a 43)), some (.ref (a 44)), some (.int (iI x)), some (.int (iI fr)), some (.int (iI (4 * k))), some (.int (iI 0))]) dL_pair_17 rfl (by decide) rfl ?_
  have lp_19 : ∀ (n_19 : Nat) (P : Mem) (i : Int) (hm_19 : 2 - i < (n_19 : Int)) (hi0 : 0 ≤ i ∧ i ≤ 2) (hJP : BJ P (k + i)), GG p l e ({ frames := 6, cells := 0, slots := 0, locals := 132 } : Room) s m ([.ref (a 0), .ref (a 43), .ref (a 44), .int (iI x)].toArray) below meth c (PI D T a LL M (fun z M' => z = 1 ∧ BJ M' (k + 2)) below ([.ref (a 0), .ref (a 43), .ref (a 44), .int (iI x)].toArray) s) D (AA T a LL M s.heap.size) 7 (wld T a LL P) 19 [some (.ref (a 0)), some (.ref (a 43)), some (.ref (a 44)), some (.int (iI x)), some (.int (iI fr)), some (.int (iI (4 * k))), some (.int (iI i))] [] := by
    intro n_19
    induction n_19 with
    | zero => intro P i hm_19 hi0 hJP; exfalso; omega
    | succ n_19 ih_19 =>
      intro P i hm_19 hi0 hJP
      have hBP := hJP.1
      refine g_iload F (pc' := 21) dL_pair_19 rfl rfl ?_
      refine g_iconst F (pc' := 22) dL_pair_21 rfl ?_
      refine g_icmp_ge F (pc' := 25) (tgt := 247) dL_pair_22 rfl (by decide) (by omega) (by decide) (fun c_22 => ?_) (fun c_22 => ?_)
      · skip
        refine g_iconst F (pc' := 248) dL_pair_247 rfl ?_
        exact g_zret F hr hlk dL_pair_248 (Or.inr rfl) (⟨rfl, by rw [show k + 2 = k + i by omega]; exact hJP⟩)
      · skip
        refine g_aload_n F (pc' := 26) dL_pair_25 rfl rfl ?_
        refine g_iload F (pc' := 28) dL_pair_26 rfl rfl ?_
        refine g_iconst F (pc' := 29) dL_pair_28 rfl ?_
        refine g_iload F (pc' := 31) dL_pair_29 rfl rfl ?_
        refine g_imul F (pc' := 32) dL_pair_31 rfl ?_
        refine g_iadd F (pc' := 33) dL_pair_32 rfl ?_
        refine g_iconst F (pc' := 34) dL_pair_33 rfl ?_
        refine g_iload F (pc' := 36) dL_pair_34 rfl rfl ?_
        refine g_isub F (pc' := 37) dL_pair_36 rfl ?_
        refine h_iast F K (k := 43) (pc' := 38) (sc P 43 (upf (P 43) ((4 * k) + (4 * i)) (1 - i))) (mem_up (by rfl) (by intro j hj; simp only [sc, if_neg hj])) rfl (by decide) (by omega) dL_pair_37 rfl ?_
        refine g_aload_n F (pc' := 39) dL_pair_38 rfl rfl ?_
        refine g_iload F (pc' := 41) dL_pair_39 rfl rfl ?_
        refine g_iconst F (pc' := 42) dL_pair_41 rfl ?_
        refine g_iload F (pc' := 44) dL_pair_42 rfl rfl ?_
        refine g_imul F (pc' := 45) dL_pair_44 rfl ?_
        refine g_iadd F (pc' := 46) dL_pair_45 rfl ?_
        refine g_iconst F (pc' := 47) dL_pair_46 rfl ?_
        refine g_iadd F (pc' := 48) dL_pair_47 rfl ?_
        have lp_86 : ∀ (xv : Int) (hx1 : 0 ≤ xv ∧ xv ≤ 999), GG p l e ({ frames := 6, cells := 0, slots := 0, locals := 132 } : Room) s m ([.ref (a 0), .ref (a 43), .ref (a 44), .int (iI x)].toArray) below meth c (PI D T a LL M (fun z M' => z = 1 ∧ BJ M' (k + 2)) below ([.ref (a 0), .ref (a 43), .ref (a 44), .int (iI x)].toArray) s) D (AA T a LL M s.heap.size) 7 (wld T a LL (sc P 43 (upf (P 43) ((4 * k) + (4 * i)) (1 - i)))) 86 [some (.ref (a 0)), some (.ref (a 43)), some (.ref (a 44)), some (.int (iI x)), some (.int (iI fr)), some (.int (iI (4 * k))), some (.int (iI i))] [.int (iI xv), .int (iI (((4 * k) + (4 * i)) + 1)), .ref (a 43)] := by
          intro xv hx1
          refine h_iast F K (k := 43) (pc' := 87) (sc P 43 (upf (upf (P 43) ((4 * k) + (4 * i)) (1 - i)) (((4 * k) + (4 * i)) + 1) xv)) (mem_up (by rfl) (by intro j hj; simp only [sc, if_neg hj])) rfl (by decide) (by omega) dL_pair_86 rfl ?_
          refine g_aload_n F (pc' := 88) dL_pair_87 rfl rfl ?_
          refine g_iload F (pc' := 90) dL_pair_88 rfl rfl ?_
          refine g_iconst F (pc' := 91) dL_pair_90 rfl ?_
          refine g_iload F (pc' := 93) dL_pair_91 rfl rfl ?_
          refine g_imul F (pc' := 94) dL_pair_93 rfl ?_
          refine g_iadd F (pc' := 95) dL_pair_94 rfl ?_
          refine g_iconst F (pc' := 96) dL_pair_95 rfl ?_
          refine g_iadd F (pc' := 97) dL_pair_96 rfl ?_
          refine g_iload_n F (pc' := 98) dL_pair_97 rfl rfl ?_
          refine g_iconst F (pc' := 99) dL_pair_98 rfl ?_
          refine g_iload F (pc' := 101) dL_pair_99 rfl rfl ?_
          refine g_iadd F (pc' := 102) dL_pair_101 rfl ?_
          refine g_ishr F (pc' := 103) dL_pair_102 rfl ?_
          refine g_sipush F (pc' := 106) dL_pair_103 rfl (by decide +kernel) ?_
          refine g_callP F (pc' := 109) (st := [.int (iI (((4 * k) + (4 * i)) + 2)), .ref (a 43)]) (c_up l (shrZ x (5 + i)) 400 (shrZ_R _ _) (by omega)) (va_cwS 2 F.2.2.2.2 gL_pair_L_up rfl rfl rfl (by decide +kernel) ⟨Nat.le_of_ble_eq_true rfl, Nat.le_of_ble_eq_true rfl⟩) rfl rfl (Nat.le_of_ble_eq_true rfl) dL_pair_106 rfl ?_
          have b_106 := upZ_R (v := shrZ x (5 + i)) (m := 400) (by omega)
          obtain ⟨lo, elo⟩ : ∃ z : Int, z = upZ (shrZ x (5 + i)) 400 := ⟨_, rfl⟩
          refine h_top (z' := lo) elo.symm ?_
          refine h_iast F K (k := 43) (pc' := 110) (sc P 43 (upf (upf (upf (P 43) ((4 * k) + (4 * i)) (1 - i)) (((4 * k) + (4 * i)) + 1) xv) (((4 * k) + (4 * i)) + 2) lo)) (mem_up (by rfl) (by intro j hj; simp only [sc, if_neg hj])) rfl (by decide) (by omega) dL_pair_109 rfl ?_
          refine g_aload_n F (pc' := 111) dL_pair_110 rfl rfl ?_
          refine g_iload F (pc' := 113) dL_pair_111 rfl rfl ?_
          refine g_iconst F (pc' := 114) dL_pair_113 rfl ?_
          refine g_iload F (pc' := 116) dL_pair_114 rfl rfl ?_
          refine g_imul F (pc' := 117) dL_pair_116 rfl ?_
          refine g_iadd F (pc' := 118) dL_pair_117 rfl ?_
          refine g_iconst F (pc' := 119) dL_pair_118 rfl ?_
          refine g_iadd F (pc' := 120) dL_pair_119 rfl ?_
          refine g_sipush F (pc' := 123) dL_pair_120 rfl (by decide +kernel) ?_
          refine g_iload_n F (pc' := 124) dL_pair_123 rfl rfl ?_
          refine g_bipush F (pc' := 126) dL_pair_124 rfl (by decide +kernel) ?_
          refine g_iload F (pc' := 128) dL_pair_126 rfl rfl ?_
          refine g_isub F (pc' := 129) dL_pair_128 rfl ?_
          refine g_ishr F (pc' := 130) dL_pair_129 rfl ?_
          refine g_sipush F (pc' := 133) dL_pair_130 rfl (by decide +kernel) ?_
          refine g_callP F (pc' := 136) (st := [.int (iI 500), .int (iI (((4 * k) + (4 * i)) + 3)), .ref (a 43)]) (c_up l (shrZ x (9 - i)) 400 (shrZ_R _ _) (by omega)) (va_cwS 2 F.2.2.2.2 gL_pair_L_up rfl rfl rfl (by decide +kernel) ⟨Nat.le_of_ble_eq_true rfl, Nat.le_of_ble_eq_true rfl⟩) rfl rfl (Nat.le_of_ble_eq_true rfl) dL_pair_133 rfl ?_
          have b_133 := upZ_R (v := shrZ x (9 - i)) (m := 400) (by omega)
          refine g_iadd F (pc' := 137) dL_pair_136 rfl ?_
          obtain ⟨hi, ehi⟩ : ∃ z : Int, z = 500 + (upZ (shrZ x (9 - i)) 400) := ⟨_, rfl⟩
          refine h_top (z' := hi) ehi.symm ?_
          have lp_138 : ∀ (N : Mem) (hN : ∀ j : Nat, j ≠ 43 → N j = P j) (he1 : N 43 (((4 * k) + (4 * i)) + 1) = xv) (he2 : N 43 (((4 * k) + (4 * i)) + 2) = lo) (he3 : N 43 (((4 * k) + (4 * i)) + 3) = hi), GG p l e ({ frames := 6, cells := 0, slots := 0, locals := 132 } : Room) s m ([.ref (a 0), .ref (a 43), .ref (a 44), .int (iI x)].toArray) below meth c (PI D T a LL M (fun z M' => z = 1 ∧ BJ M' (k + 2)) below ([.ref (a 0), .ref (a 43), .ref (a 44), .int (iI x)].toArray) s) D (AA T a LL M s.heap.size) 7 (wld T a LL N) 138 [some (.ref (a 0)), some (.ref (a 43)), some (.ref (a 44)), some (.int (iI x)), some (.int (iI fr)), some (.int (iI (4 * k))), some (.int (iI i))] [] := by
            intro N hN he1 he2 he3
            have hN2 : ∀ j, 0 ≤ N 2 j ∧ N 2 j ≤ 126 := by rw [hN 2 (by decide)]; exact hBP.1.1.2.1
            have hN44 : N 44 0 = k + i := by rw [hN 44 (by decide)]; exact hBP.2.2.1
            have hLB : LBf (N 4 4) (N 5) (N 6) (N 7) (N 8) (N 9) := by rw [hN 4 (by decide), hN 5 (by decide), hN 6 (by decide), hN 7 (by decide), hN 8 (by decide), hN 9 (by decide)]; exact hBP.1.1.2.2.1
            have hb4 := hBP.2.1
            refine g_aload_n F (pc' := 139) dL_pair_138 rfl rfl ?_
            refine g_callI F K hXc X0 (pc' := 142) (st := []) (e4_wipe hXX l a N) (cwV 0 F.2.2.2.2 gL_pair_X4_wipe rfl rfl rfl (by decide +kernel) ⟨Nat.le_of_ble_eq_true rfl, Nat.le_of_ble_eq_true rfl⟩) rfl rfl rfl rfl (Nat.le_of_ble_eq_true rfl) dL_pair_139 rfl (fun z_139 M_139 q_139 => ?_)
            obtain ⟨-, ew_139⟩ := q_139
            subst ew_139
            refine h_mem (PD N 0 (N 2)) (PD_w N) ?_
            refine g_pop F (pc' := 143) dL_pair_142 rfl ?_
            refine g_aload_n F (pc' := 144) dL_pair_143 rfl rfl ?_
            have lp_156 : ∀ (ch : Int) (hch : ch = 117 ∨ ch = 100), GG p l e ({ frames := 6, cells := 0, slots := 0, locals := 132 } : Room) s m ([.ref (a 0), .ref (a 43), .ref (a 44), .int (iI x)].toArray) below meth c (PI D T a LL M (fun z M' => z = 1 ∧ BJ M' (k + 2)) below ([.ref (a 0), .ref (a 43), .ref (a 44), .int (iI x)].toArray) s) D (AA T a LL M s.heap.size) 7 (wld T a LL (PD N 0 (N 2))) 156 [some (.ref (a 0)), some (.ref (a 43)), some (.ref (a 44)), some (.int (iI x)), some (.int (iI fr)), some (.int (iI (4 * k))), some (.int (iI i))] [.int (iI ch), .ref (a 0)] := by
              intro ch hch
              refine g_callI F K hXc X0 (pc' := 159) (st := []) (e4_sayP hXX l a N 0 (N 2) ch (by omega) (by omega) hN2) (cwV 1 F.2.2.2.2 gL_pair_X4_say rfl rfl rfl (by decide +kernel) ⟨Nat.le_of_ble_eq_true rfl, Nat.le_of_ble_eq_true rfl⟩) rfl rfl rfl rfl (Nat.le_of_ble_eq_true rfl) dL_pair_156 rfl (fun z_156 M_156 q_156 => ?_)
              subst q_156
              have hP_156 : ∀ j, 0 ≤ (upf (N 2) 0 ch) j ∧ (upf (N 2) 0 ch) j ≤ 126 := upf_P hN2 (by omega)
              refine g_pop F (pc' := 160) dL_pair_159 rfl ?_
              refine g_aload_n F (pc' := 161) dL_pair_160 rfl rfl ?_
              refine g_aload_n F (pc' := 162) dL_pair_161 rfl rfl ?_
              refine g_iload F (pc' := 164) dL_pair_162 rfl rfl ?_
              refine g_iconst F (pc' := 165) dL_pair_164 rfl ?_
              refine g_iload F (pc' := 167) dL_pair_165 rfl rfl ?_
              refine g_imul F (pc' := 168) dL_pair_167 rfl ?_
              refine g_iadd F (pc' := 169) dL_pair_168 rfl ?_
              refine g_iconst F (pc' := 170) dL_pair_169 rfl ?_
              refine g_iadd F (pc' := 171) dL_pair_170 rfl ?_
              refine g_iald F K (k := 43) (v := xv) (pc' := 172) rfl (by decide) (by omega) dL_pair_171 rfl (by exact he1) ?_
              refine g_iconst F (pc' := 173) dL_pair_172 rfl ?_
              refine g_callSV F K hXc X0 (pc' := 176) (st := []) (c_number hXc hXX l a N (0 + 1) (upf (N 2) 0 ch) xv 0 (by omega) (by omega) (by omega) hP_156) (va_cwS 3 F.2.2.2.2 gL_pair_L_number rfl rfl rfl (by decide +kernel) ⟨Nat.le_of_ble_eq_true rfl, Nat.le_of_ble_eq_true rfl⟩) rfl rfl (Nat.le_of_ble_eq_true rfl) dL_pair_173 rfl (fun M_173 q_173 => ?_)
              obtain ⟨k1, f1, hk1, em1, ha1, hp1, hb1, hc1⟩ := q_173
              subst em1
              refine g_aload_n F (pc' := 177) dL_pair_176 rfl rfl ?_
              refine g_bipush F (pc' := 179) dL_pair_177 rfl (by decide +kernel) ?_
              refine g_callI F K hXc X0 (pc' := 182) (st := []) (e4_sayP hXX l a N (0 + 1 + k1) f1 44 (by omega) (by omega) hp1) (cwV 1 F.2.2.2.2 gL_pair_X4_say rfl rfl rfl (by decide +kernel) ⟨Nat.le_of_ble_eq_true rfl, Nat.le_of_ble_eq_true rfl⟩) rfl rfl rfl rfl (Nat.le_of_ble_eq_true rfl) dL_pair_179 rfl (fun z_179 M_179 q_179 => ?_)
              subst q_179
              have hP_179 : ∀ j, 0 ≤ (upf f1 (0 + 1 + k1) 44) j ∧ (upf f1 (0 + 1 + k1) 44) j ≤ 126 := upf_P hp1 (by omega)
              refine g_pop F (pc' := 183) dL_pair_182 rfl ?_
              refine g_aload_n F (pc' := 184) dL_pair_183 rfl rfl ?_
              refine g_aload_n F (pc' := 185) dL_pair_184 rfl rfl ?_
              refine g_iload F (pc' := 187) dL_pair_185 rfl rfl ?_
              refine g_iconst F (pc' := 188) dL_pair_187 rfl ?_
              refine g_iload F (pc' := 190) dL_pair_188 rfl rfl ?_
              refine g_imul F (pc' := 191) dL_pair_190 rfl ?_
              refine g_iadd F (pc' := 192) dL_pair_191 rfl ?_
              refine g_iconst F (pc' := 193) dL_pair_192 rfl ?_
              refine g_iadd F (pc' := 194) dL_pair_193 rfl ?_
              refine g_iald F K (k := 43) (v := lo) (pc' := 195) rfl (by decide) (by omega) dL_pair_194 rfl (by exact he2) ?_
              refine g_iconst F (pc' := 196) dL_pair_195 rfl ?_
              refine g_callSV F K hXc X0 (pc' := 199) (st := []) (c_number hXc hXX l a N (0 + 1 + k1 + 1) (upf f1 (0 + 1 + k1) 44) lo 1 (by omega) (by omega) (by omega) hP_179) (va_cwS 3 F.2.2.2.2 gL_pair_L_number rfl rfl rfl (by decide +kernel) ⟨Nat.le_of_ble_eq_true rfl, Nat.le_of_ble_eq_true rfl⟩) rfl rfl (Nat.le_of_ble_eq_true rfl) dL_pair_196 rfl (fun M_196 q_196 => ?_)
              obtain ⟨k2, f2, hk2, em2, ha2, hp2, hb2, hc2⟩ := q_196
              subst em2
              refine g_aload_n F (pc' := 200) dL_pair_199 rfl rfl ?_
              refine g_bipush F (pc' := 202) dL_pair_200 rfl (by decide +kernel) ?_
              refine g_callI F K hXc X0 (pc' := 205) (st := []) (e4_sayP hXX l a N (0 + 1 + k1 + 1 + k2) f2 45 (by omega) (by omega) hp2) (cwV 1 F.2.2.2.2 gL_pair_X4_say rfl rfl rfl (by decide +kernel) ⟨Nat.le_of_ble_eq_true rfl, Nat.le_of_ble_eq_true rfl⟩) rfl rfl rfl rfl (Nat.le_of_ble_eq_true rfl) dL_pair_202 rfl (fun z_202 M_202 q_202 => ?_)
              subst q_202
              have hP_202 : ∀ j, 0 ≤ (upf f2 (0 + 1 + k1 + 1 + k2) 45) j ∧ (upf f2 (0 + 1 + k1 + 1 + k2) 45) j ≤ 126 := upf_P hp2 (by omega)
              refine g_pop F (pc' := 206) dL_pair_205 rfl ?_
              refine g_aload_n F (pc' := 207) dL_pair_206 rfl rfl ?_
              refine g_aload_n F (pc' := 208) dL_pair_207 rfl rfl ?_
              refine g_iload F (pc' := 210) dL_pair_208 rfl rfl ?_
              refine g_iconst F (pc' := 211) dL_pair_210 rfl ?_
              refine g_iload F (pc' := 213) dL_pair_211 rfl rfl ?_
              refine g_imul F (pc' := 214) dL_pair_213 rfl ?_
              refine g_iadd F (pc' := 215) dL_pair_214 rfl ?_
              refine g_iconst F (pc' := 216) dL_pair_215 rfl ?_
              refine g_iadd F (pc' := 217) dL_pair_216 rfl ?_
              refine g_iald F K (k := 43) (v := hi) (pc' := 218) rfl (by decide) (by omega) dL_pair_217 rfl (by exact he3) ?_
              refine g_iconst F (pc' := 219) dL_pair_218 rfl ?_
              refine g_callSV F K hXc X0 (pc' := 222) (st := []) (c_number hXc hXX l a N (0 + 1 + k1 + 1 + k2 + 1) (upf f2 (0 + 1 + k1 + 1 + k2) 45) hi 0 (by omega) (by omega) (by omega) hP_202) (va_cwS 3 F.2.2.2.2 gL_pair_L_number rfl rfl rfl (by decide +kernel) ⟨Nat.le_of_ble_eq_true rfl, Nat.le_of_ble_eq_true rfl⟩) rfl rfl (Nat.le_of_ble_eq_true rfl) dL_pair_219 rfl (fun M_219 q_219 => ?_)
              obtain ⟨k3, f3, hk3, em3, ha3, hp3, hb3, hc3⟩ := q_219
              subst em3
              refine g_aload_n F (pc' := 223) dL_pair_222 rfl rfl ?_
              refine g_iconst F (pc' := 224) dL_pair_223 rfl ?_
              refine g_dup2 F (pc' := 225) dL_pair_224 rfl rfl rfl ?_
              refine g_iald F K (k := 44) (v := k + i) (pc' := 226) rfl (by decide) (by decide) dL_pair_225 rfl (by exact hN44) ?_
              refine g_iconst F (pc' := 227) dL_pair_226 rfl ?_
              refine g_iadd F (pc' := 228) dL_pair_227 rfl ?_
              refine h_iast F K (k := 44) (pc' := 229) (sc (PD N (0 + 1 + k1 + 1 + k2 + 1 + k3) f3) 44 (upf ((PD N (0 + 1 + k1 + 1 + k2 + 1 + k3) f3) 44) 0 ((k + i) + 1))) (mem_up (by rfl) (by intro j hj; simp only [sc, if_neg hj])) rfl (by decide) (by decide) dL_pair_228 rfl ?_
              have e11 : (sc (PD N (0 + 1 + k1 + 1 + k2 + 1 + k3) f3) 44 (upf ((PD N (0 + 1 + k1 + 1 + k2 + 1 + k3) f3) 44) 0 ((k + i) + 1))) 1 1 = 0 + 1 + k1 + 1 + k2 + 1 + k3 := PD_1 N (0 + 1 + k1 + 1 + k2 + 1 + k3) f3
              refine g_aload_n F (pc' := 230) dL_pair_229 rfl rfl ?_
              refine g_callI F K hXc X0 (pc' := 233) (st := []) (e4_edge hXX l a (sc (PD N (0 + 1 + k1 + 1 + k2 + 1 + k3) f3) 44 (upf ((PD N (0 + 1 + k1 + 1 + k2 + 1 + k3) f3) 44) 0 ((k + i) + 1))) (by rw [e11]; omega) hp3 (by exact hLB)) (cwV 0 F.2.2.2.2 gL_pair_X4_edge rfl rfl rfl (by decide +kernel) ⟨Nat.le_of_ble_eq_true rfl, Nat.le_of_ble_eq_true rfl⟩) rfl rfl rfl rfl (Nat.le_of_ble_eq_true rfl) dL_pair_230 rfl (fun z_230 M_230 q_230 => ?_)
              have hfl := pad_edge hch hk1 hk2 hk3 ha1 hb1 hc1 ha2 hb2 hc2 ha3 hb3 hc3 (show lo < hi by omega) rfl
              rcases q_230 with ⟨c9, -⟩ | ⟨-, c9, -⟩ | ⟨-, -, ez, nu, hnu, hrn⟩
              · exact absurd (show fl ((sc (PD N (0 + 1 + k1 + 1 + k2 + 1 + k3) f3) 44 (upf ((PD N (0 + 1 + k1 + 1 + k2 + 1 + k3) f3) 44) 0 ((k + i) + 1))) 2) ((sc (PD N (0 + 1 + k1 + 1 + k2 + 1 + k3) f3) 44 (upf ((PD N (0 + 1 + k1 + 1 + k2 + 1 + k3) f3) 44) 0 ((k + i) + 1))) 1 1) = -6 by rw [e11]; exact hfl.1) c9
              · exfalso; have c8 : 16 ≤ N 4 4 := c9; rw [hN 4 (by decide)] at c8; omega
              have ez2 : z_230 = (k + i) + 1 := by have e8 : z_230 = N 4 4 + 1 := ez; rw [hN 4 (by decide)] at e8; omega
              obtain ⟨hBN, h44N⟩ := BJ_edge hJP (by omega) (fun j hj => (sc_n hj.2.2.2).trans ((PD_n ⟨hj.1, hj.2.1⟩).trans (hN j hj.2.2.1))) hp3 (by show upf (N 44) 0 ((k + i) + 1) = _; rw [hN 44 (by decide)]) hnu (show pv2 ((sc (PD N (0 + 1 + k1 + 1 + k2 + 1 + k3) f3) 44 (upf ((PD N (0 + 1 + k1 + 1 + k2 + 1 + k3) f3) 44) 0 ((k + i) + 1))) 2) ((sc (PD N (0 + 1 + k1 + 1 + k2 + 1 + k3) f3) 44 (upf ((PD N (0 + 1 + k1 + 1 + k2 + 1 + k3) f3) 44) 0 ((k + i) + 1))) 1 1) < pv3 ((sc (PD N (0 + 1 + k1 + 1 + k2 + 1 + k3) f3) 44 (upf ((PD N (0 + 1 + k1 + 1 + k2 + 1 + k3) f3) 44) 0 ((k + i) + 1))) 2) ((sc (PD N (0 + 1 + k1 + 1 + k2 + 1 + k3) f3) 44 (upf ((PD N (0 + 1 + k1 + 1 + k2 + 1 + k3) f3) 44) 0 ((k + i) + 1))) 1 1) by rw [e11]; show pv2 f3 _ < pv3 f3 _; rw [hfl.2.2.1, hfl.2.2.2]; omega) hrn
              refine g_aload_n F (pc' := 234) dL_pair_233 rfl rfl ?_
              refine g_iconst F (pc' := 235) dL_pair_234 rfl ?_
              refine g_iald F K (k := 44) (v := M_230 44 0) (pc' := 236) rfl (by decide) (by decide) dL_pair_235 rfl (by first | rfl | simp [upf, sc]) ?_
              refine g_icmp_eq F (pc' := 239) (tgt := 241) dL_pair_236 rfl (by decide) (by omega) (by omega) (fun c_236 => ?_) (fun c_236 => ?_)
              · skip
                refine g_iinc F (pc' := 244) (lv' := [some (.ref (a 0)), some (.ref (a 43)), some (.ref (a 44)), some (.int (iI x)), some (.int (iI fr)), some (.int (iI (4 * k))), some (.int (iI (i + 1)))]) dL_pair_241 rfl rfl (by decide) rfl ?_
                refine g_goto F (tgt := 19) dL_pair_244 (by decide) ?_
                exact ih_19 M_230 (i + 1) (by omega) (by omega) (by rw [show k + (i + 1) = k + i + 1 by omega]; exact hBN)
              · skip
                exact absurd (by omega) c_236
            refine g_iload F (pc' := 146) dL_pair_144 rfl rfl ?_
            refine g_if_ne F (pc' := 149) (tgt := 154) dL_pair_146 rfl (by decide) (by omega) (fun c_146 => ?_) (fun c_146 => ?_)
            · skip
              refine g_bipush F (pc' := 156) dL_pair_154 rfl (by decide +kernel) ?_
              exact lp_156 100 (by omega)
            · skip
              refine g_bipush F (pc' := 151) dL_pair_149 rfl (by decide +kernel) ?_
              refine g_goto F (tgt := 156) dL_pair_151 (by decide) ?_
              exact lp_156 117 (by omega)
          refine h_iast F K (k := 43) (pc' := 138) (sc P 43 (upf (upf (upf (upf (P 43) ((4 * k) + (4 * i)) (1 - i)) (((4 * k) + (4 * i)) + 1) xv) (((4 * k) + (4 * i)) + 2) lo) (((4 * k) + (4 * i)) + 3) hi)) (mem_up (by rfl) (by intro j hj; simp only [sc, if_neg hj])) rfl (by decide) (by omega) dL_pair_137 rfl ?_
          exact lp_138 (sc P 43 (upf (upf (upf (upf (P 43) ((4 * k) + (4 * i)) (1 - i)) (((4 * k) + (4 * i)) + 1) xv) (((4 * k) + (4 * i)) + 2) lo) (((4 * k) + (4 * i)) + 3) hi)) (fun j hj => sc_n hj) (by rw [sc_s, upf_n (by omega), upf_n (by omega), upf_s]) (by rw [sc_s, upf_n (by omega), upf_s]) (by rw [sc_s, upf_s])
        refine g_iload F (pc' := 50) dL_pair_48 rfl rfl ?_
        refine g_if_ne F (pc' := 53) (tgt := 58) dL_pair_50 rfl (by decide) (by omega) (fun c_50 => ?_) (fun c_50 => ?_)
        · skip
          refine g_iload F (pc' := 60) dL_pair_58 rfl rfl ?_
          refine g_iconst F (pc' := 61) dL_pair_60 rfl ?_
          refine g_iadd F (pc' := 62) dL_pair_61 rfl ?_
          refine g_iload_n F (pc' := 63) dL_pair_62 rfl rfl ?_
          refine g_bipush F (pc' := 65) dL_pair_63 rfl (by decide +kernel) ?_
          refine g_ishr F (pc' := 66) dL_pair_65 rfl ?_
          refine g_iload_n F (pc' := 67) dL_pair_66 rfl rfl ?_
          refine g_bipush F (pc' := 69) dL_pair_67 rfl (by decide +kernel) ?_
          refine g_ishr F (pc' := 70) dL_pair_69 rfl ?_
          refine g_iconst F (pc' := 71) dL_pair_70 rfl ?_
          refine g_iand F (pc' := 72) dL_pair_71 rfl ?_
          refine g_if_ne F (pc' := 75) (tgt := 80) dL_pair_72 rfl (by decide) (andZ_R _ _) (fun c_72 => ?_) (fun c_72 => ?_)
          · skip
            refine g_bipush F (pc' := 82) dL_pair_80 rfl (by decide +kernel) ?_
            refine g_callP F (pc' := 85) (st := [.int (iI (fr + 1)), .int (iI (((4 * k) + (4 * i)) + 1)), .ref (a 43)]) (c_up l (shrZ x 7) 99 (shrZ_R _ _) (by omega)) (va_cwS 2 F.2.2.2.2 gL_pair_L_up rfl rfl rfl (by decide +kernel) ⟨Nat.le_of_ble_eq_true rfl, Nat.le_of_ble_eq_true rfl⟩) rfl rfl (Nat.le_of_ble_eq_true rfl) dL_pair_82 rfl ?_
            have b_82 := upZ_R (v := shrZ x 7) (m := 99) (by omega)
            refine g_iadd F (pc' := 86) dL_pair_85 rfl ?_
            exact lp_86 ((fr + 1) + (upZ (shrZ x 7) 99)) (by omega)
          · skip
            refine g_bipush F (pc' := 77) dL_pair_75 rfl (by decide +kernel) ?_
            refine g_goto F (tgt := 82) dL_pair_77 (by decide) ?_
            refine g_callP F (pc' := 85) (st := [.int (iI (fr + 1)), .int (iI (((4 * k) + (4 * i)) + 1)), .ref (a 43)]) (c_up l (shrZ x 7) 40 (shrZ_R _ _) (by omega)) (va_cwS 2 F.2.2.2.2 gL_pair_L_up rfl rfl rfl (by decide +kernel) ⟨Nat.le_of_ble_eq_true rfl, Nat.le_of_ble_eq_true rfl⟩) rfl rfl (Nat.le_of_ble_eq_true rfl) dL_pair_82 rfl ?_
            have b_82 := upZ_R (v := shrZ x 7) (m := 40) (by omega)
            refine g_iadd F (pc' := 86) dL_pair_85 rfl ?_
            exact lp_86 ((fr + 1) + (upZ (shrZ x 7) 40)) (by omega)
        · skip
          refine g_iload F (pc' := 55) dL_pair_53 rfl rfl ?_
          refine g_goto F (tgt := 86) dL_pair_55 (by decide) ?_
          exact lp_86 fr (by omega)
  exact lp_19 ((2 - 0 : Int).toNat + 1) M 0 (by omega) (by omega) (by rw [Int.add_zero]; exact hJ)

theorem iL_rules_X0 : ∀ w ∈ wsX00, w ∈ wsL_rules := fun _ h => List.mem_cons_of_mem _ (List.mem_append_right _ h)
theorem iL_rules_X1 : ∀ w ∈ wsX10, w ∈ wsL_rules := fun _ h => List.mem_cons_of_mem _ (List.mem_append_left _ (List.mem_append_left _ (List.mem_append_right _ h)))
theorem iL_rules_X3 : ∀ w ∈ wsX30, w ∈ wsL_rules := fun _ h => List.mem_cons_of_mem _ (List.mem_append_left _ (List.mem_append_right _ h))
theorem iL_rules_X4 : ∀ w ∈ wsX40, w ∈ wsL_rules := fun _ h => List.mem_cons_of_mem _ (List.mem_append_left _ (List.mem_append_left _ (List.mem_append_left _ (List.mem_append_right _ h))))
set_option maxHeartbeats 4000000 in
set_option maxRecDepth 100000 in
theorem c_rules {X : (Nat → Prop) → State → Heap → Prop} (hXc : XC X) (hXX : ∀ (A : Nat → Prop) (U : State) (H : Heap), X A U H → XS A U H) (l : Launch) (a : Nat → Nat) (M : Mem) (k x : Int) (hx : -2147483648 ≤ x ∧ x < 2147483648) (hJ : BJ M k) : CtI X l yL_rules wsL_rules ({ frames := 6, cells := 0, slots := 0, locals := 135 } : Room) LL a M [.ref (a 0), .ref (a 44), .int (iI x)] (fun z M' => z = 1 ∧ BJ M' k) := by
  refine CtI.of (y := yL_rules) (cc := cL_rules) (maxL := 5) (ret := (some .boolean)) (lv := [some (.ref (a 0)), some (.ref (a 44)), some (.int (iI x)), none, none]) (by decide) rfl (Nat.le_of_ble_eq_true rfl) (lvOK_of _ _ ⟨rfl, rfl⟩) ?_
  intro p e s m below meth c D T F K X0 hr hlk
  refine g_iconst F (pc' := 1) dL_rules_0 rfl ?_
  refine g_istore_n F (pc' := 2) (lv' := [some (.ref (a 0)), some (.ref (a 44)), some (.int (iI x)), some (.int (iI 0)), none]) dL_rules_1 rfl (by decide) rfl ?_
  have lp_2 : ∀ (n_2 : Nat) (P : Mem) (i : Int) (hm_2 : 5 - i < (n_2 : Int)) (hi0 : 0 ≤ i ∧ i ≤ 5) (hJP : BJ P k), GG p l e ({ frames := 6, cells := 0, slots := 0, locals := 135 } : Room) s m ([.ref (a 0), .ref (a 44), .int (iI x)].toArray) below meth c (PI D T a LL M (fun z M' => z = 1 ∧ BJ M' k) below ([.ref (a 0), .ref (a 44), .int (iI x)].toArray) s) D (AA T a LL M s.heap.size) 5 (wld T a LL P) 2 [some (.ref (a 0)), some (.ref (a 44)), some (.int (iI x)), some (.int (iI i)), none] [] := by
    intro n_2
    induction n_2 with
    | zero => intro P i hm_2 hi0 hJP; exfalso; omega
    | succ n_2 ih_2 =>
      intro P i hm_2 hi0 hJP
      have hBP := hJP.1
      refine g_iload_n F (pc' := 3) dL_rules_2 rfl rfl ?_
      refine g_iconst F (pc' := 4) dL_rules_3 rfl ?_
      refine g_icmp_ge F (pc' := 7) (tgt := 120) dL_rules_4 rfl (by decide) (by omega) (by decide) (fun c_4 => ?_) (fun c_4 => ?_)
      · skip
        refine g_iconst F (pc' := 121) dL_rules_120 rfl ?_
        exact g_zret F hr hlk dL_rules_121 (Or.inr rfl) (⟨rfl, hJP⟩)
      · skip
        refine g_iload_n F (pc' := 8) dL_rules_7 rfl rfl ?_
        have lp_88 : ∀ (n : Int) (hn : 0 ≤ n ∧ n ≤ rmx i), GG p l e ({ frames := 6, cells := 0, slots := 0, locals := 135 } : Room) s m ([.ref (a 0), .ref (a 44), .int (iI x)].toArray) below meth c (PI D T a LL M (fun z M' => z = 1 ∧ BJ M' k) below ([.ref (a 0), .ref (a 44), .int (iI x)].toArray) s) D (AA T a LL M s.heap.size) 5 (wld T a LL P) 88 [some (.ref (a 0)), some (.ref (a 44)), some (.int (iI x)), some (.int (iI i)), none] [.int (iI n)] := by
          intro n hn
          refine g_istore F (pc' := 90) (lv' := [some (.ref (a 0)), some (.ref (a 44)), some (.int (iI x)), some (.int (iI i)), some (.int (iI n))]) dL_rules_88 rfl (by decide) rfl ?_
          refine g_aload_n F (pc' := 91) dL_rules_90 rfl rfl ?_
          refine g_iload_n F (pc' := 92) dL_rules_91 rfl rfl ?_
          refine g_iload F (pc' := 94) dL_rules_92 rfl rfl ?_
          refine g_callI F K hXc X0 (pc' := 97) (st := []) (e4_rule hXX l a P i n (by omega) hn hBP.1) (cwV 2 F.2.2.2.2 gL_rules_X4_rule rfl rfl rfl (by decide +kernel) ⟨Nat.le_of_ble_eq_true rfl, Nat.le_of_ble_eq_true rfl⟩) rfl rfl rfl rfl (Nat.le_of_ble_eq_true rfl) dL_rules_94 rfl (fun z_94 M_94 q_94 => ?_)
          obtain ⟨ez_94, hrn_94⟩ := q_94
          have h44_94 : M_94 44 (1 + i) = P 44 (1 + i) := by rw [rn_id hrn_94 (by decide)]; rfl
          have h9_94 := hBP.2.2.2 i (by omega) (by omega)
          have hr9_94 := hBP.1.1.2.2.1.2.2.2.2.2
          have hrz_94 : 0 ≤ P 9 i ∧ P 9 i ≤ 99 := by obtain ⟨q0, q1, q2, q3, q4⟩ := hr9_94; rcases (show i = 0 ∨ i = 1 ∨ i = 2 ∨ i = 3 ∨ i = 4 by omega) with rfl | rfl | rfl | rfl | rfl <;> omega
          refine g_aload_n F (pc' := 98) dL_rules_97 rfl rfl ?_
          refine g_iconst F (pc' := 99) dL_rules_98 rfl ?_
          refine g_iload_n F (pc' := 100) dL_rules_99 rfl rfl ?_
          refine g_iadd F (pc' := 101) dL_rules_100 rfl ?_
          refine g_iald F K (k := 44) (v := M_94 44 (1 + i)) (pc' := 102) rfl (by decide) (by omega) dL_rules_101 rfl (by first | rfl | simp [upf, sc]) ?_
          refine g_icmp_eq F (pc' := 105) (tgt := 107) dL_rules_102 rfl (by decide) (by omega) (by omega) (fun c_102 => ?_) (fun c_102 => ?_)
          · skip
            refine g_aload_n F (pc' := 108) dL_rules_107 rfl rfl ?_
            refine g_iconst F (pc' := 109) dL_rules_108 rfl ?_
            refine g_iload_n F (pc' := 110) dL_rules_109 rfl rfl ?_
            refine g_iadd F (pc' := 111) dL_rules_110 rfl ?_
            refine g_iload F (pc' := 113) dL_rules_111 rfl rfl ?_
            refine h_iast F K (k := 44) (pc' := 114) (sc M_94 44 (upf (M_94 44) (1 + i) n)) (mem_up (by rfl) (by intro j hj; simp only [sc, if_neg hj])) rfl (by decide) (by omega) dL_rules_113 rfl ?_
            refine g_iinc F (pc' := 117) (lv' := [some (.ref (a 0)), some (.ref (a 44)), some (.int (iI x)), some (.int (iI (i + 1))), some (.int (iI n))]) dL_rules_114 rfl rfl (by decide) rfl ?_
            refine g_goto F (tgt := 2) dL_rules_117 (by decide) ?_
            refine g_lvw [some (.ref (a 0)), some (.ref (a 44)), some (.int (iI x)), some (.int (iI (i + 1))), none] (lvw_of _ _ [true, true, true, true, false] rfl) ?_
            exact ih_2 (sc M_94 44 (upf (M_94 44) (1 + i) n)) (i + 1) (by omega) (by omega) (BJ_rule hJP (by omega) hn hrn_94)
          · skip
            exact absurd (by omega) c_102
        refine g_if_ne F (pc' := 11) (tgt := 20) dL_rules_8 rfl (by decide) (by omega) (fun c_8 => ?_) (fun c_8 => ?_)
        · skip
          refine g_iload_n F (pc' := 21) dL_rules_20 rfl rfl ?_
          refine g_iconst F (pc' := 22) dL_rules_21 rfl ?_
          refine g_icmp_ge F (pc' := 25) (tgt := 54) dL_rules_22 rfl (by decide) (by omega) (by decide) (fun c_22 => ?_) (fun c_22 => ?_)
          · skip
            refine g_iload_n F (pc' := 55) dL_rules_54 rfl rfl ?_
            refine g_iconst F (pc' := 56) dL_rules_55 rfl ?_
            refine g_icmp_ne F (pc' := 59) (tgt := 68) dL_rules_56 rfl (by decide) (by omega) (by decide) (fun c_56 => ?_) (fun c_56 => ?_)
            · skip
              refine g_iload_n F (pc' := 69) dL_rules_68 rfl rfl ?_
              refine g_bipush F (pc' := 71) dL_rules_69 rfl (by decide +kernel) ?_
              refine g_ishr F (pc' := 72) dL_rules_71 rfl ?_
              refine g_bipush F (pc' := 74) dL_rules_72 rfl (by decide +kernel) ?_
              refine g_iand F (pc' := 75) dL_rules_74 rfl ?_
              refine g_if_ne F (pc' := 78) (tgt := 87) dL_rules_75 rfl (by decide) (andZ_R _ _) (fun c_75 => ?_) (fun c_75 => ?_)
              · skip
                refine g_iconst F (pc' := 88) dL_rules_87 rfl ?_
                exact lp_88 0 (by unfold rmx; (repeat' split) <;> omega)
              · skip
                refine g_iload_n F (pc' := 79) dL_rules_78 rfl rfl ?_
                refine g_bipush F (pc' := 81) dL_rules_79 rfl (by decide +kernel) ?_
                refine g_ishr F (pc' := 82) dL_rules_81 rfl ?_
                refine g_iconst F (pc' := 83) dL_rules_82 rfl ?_
                refine g_iand F (pc' := 84) dL_rules_83 rfl ?_
                have ba_83 := andZ_le (x := shrZ x 21) (y := 3) (by decide)
                refine g_goto F (tgt := 88) dL_rules_84 (by decide) ?_
                exact lp_88 (andZ (shrZ x 21) 3) (by unfold rmx; (repeat' split) <;> omega)
            · skip
              refine g_iload_n F (pc' := 60) dL_rules_59 rfl rfl ?_
              refine g_bipush F (pc' := 62) dL_rules_60 rfl (by decide +kernel) ?_
              refine g_ishr F (pc' := 63) dL_rules_62 rfl ?_
              refine g_iconst F (pc' := 64) dL_rules_63 rfl ?_
              refine g_iand F (pc' := 65) dL_rules_64 rfl ?_
              have ba_64 := andZ_le (x := shrZ x 16) (y := 3) (by decide)
              refine g_goto F (tgt := 88) dL_rules_65 (by decide) ?_
              exact lp_88 (andZ (shrZ x 16) 3) (by unfold rmx; (repeat' split) <;> omega)
          · skip
            refine g_iload_n F (pc' := 26) dL_rules_25 rfl rfl ?_
            refine g_bipush F (pc' := 28) dL_rules_26 rfl (by decide +kernel) ?_
            refine g_iconst F (pc' := 29) dL_rules_28 rfl ?_
            refine g_iload_n F (pc' := 30) dL_rules_29 rfl rfl ?_
            refine g_imul F (pc' := 31) dL_rules_30 rfl ?_
            refine g_iadd F (pc' := 32) dL_rules_31 rfl ?_
            refine g_ishr F (pc' := 33) dL_rules_32 rfl ?_
            refine g_iconst F (pc' := 34) dL_rules_33 rfl ?_
            have ba_33 := andZ_le (x := shrZ x (6 + (2 * i))) (y := 3) (by decide)
            refine g_iand F (pc' := 35) dL_rules_34 rfl ?_
            refine g_if_ne F (pc' := 38) (tgt := 50) dL_rules_35 rfl (by decide) (andZ_R _ _) (fun c_35 => ?_) (fun c_35 => ?_)
            · skip
              refine g_iconst F (pc' := 51) dL_rules_50 rfl ?_
              refine g_goto F (tgt := 88) dL_rules_51 (by decide) ?_
              exact lp_88 1 (by unfold rmx; (repeat' split) <;> omega)
            · skip
              refine g_iload_n F (pc' := 39) dL_rules_38 rfl rfl ?_
              refine g_bipush F (pc' := 41) dL_rules_39 rfl (by decide +kernel) ?_
              refine g_ishr F (pc' := 42) dL_rules_41 rfl ?_
              refine g_bipush F (pc' := 44) dL_rules_42 rfl (by decide +kernel) ?_
              refine g_callP F (pc' := 47) (st := []) (c_up l (shrZ x 9) 10 (shrZ_R _ _) (by omega)) (va_cwS 2 F.2.2.2.2 gL_rules_L_up rfl rfl rfl (by decide +kernel) ⟨Nat.le_of_ble_eq_true rfl, Nat.le_of_ble_eq_true rfl⟩) rfl rfl (Nat.le_of_ble_eq_true rfl) dL_rules_44 rfl ?_
              have b_44 := upZ_R (v := shrZ x 9) (m := 10) (by omega)
              refine g_goto F (tgt := 88) dL_rules_47 (by decide) ?_
              exact lp_88 (upZ (shrZ x 9) 10) (by unfold rmx; (repeat' split) <;> omega)
        · skip
          refine g_iload_n F (pc' := 12) dL_rules_11 rfl rfl ?_
          refine g_bipush F (pc' := 14) dL_rules_12 rfl (by decide +kernel) ?_
          refine g_callP F (pc' := 17) (st := []) (c_up l x 60 (by omega) (by omega)) (va_cwS 2 F.2.2.2.2 gL_rules_L_up rfl rfl rfl (by decide +kernel) ⟨Nat.le_of_ble_eq_true rfl, Nat.le_of_ble_eq_true rfl⟩) rfl rfl (Nat.le_of_ble_eq_true rfl) dL_rules_14 rfl ?_
          have b_14 := upZ_R (v := x) (m := 60) (by omega)
          refine g_goto F (tgt := 88) dL_rules_17 (by decide) ?_
          exact lp_88 (upZ x 60) (by unfold rmx; (repeat' split) <;> omega)
  exact lp_2 ((5 - 0 : Int).toNat + 1) M 0 (by omega) (by omega) (hJ)

theorem iL_all_X0 : ∀ w ∈ wsX00, w ∈ wsL_all := fun _ h => List.mem_cons_of_mem _ (List.mem_append_right _ h)
theorem iL_all_X1 : ∀ w ∈ wsX10, w ∈ wsL_all := fun _ h => List.mem_cons_of_mem _ (List.mem_append_left _ (List.mem_append_left _ (List.mem_append_right _ h)))
theorem iL_all_X2 : ∀ w ∈ wsX20, w ∈ wsL_all := fun _ h => List.mem_cons_of_mem _ (List.mem_append_left _ (List.mem_append_left _ (List.mem_append_left _ (List.mem_append_right _ h))))
theorem iL_all_X3 : ∀ w ∈ wsX30, w ∈ wsL_all := fun _ h => List.mem_cons_of_mem _ (List.mem_append_left _ (List.mem_append_right _ h))
theorem iL_all_X4 : ∀ w ∈ wsX40, w ∈ wsL_all := fun _ h => List.mem_cons_of_mem _ (List.mem_append_left _ (List.mem_append_left _ (List.mem_append_left _ (List.mem_append_left _ (List.mem_append_right _ h)))))
set_option maxHeartbeats 4000000 in
set_option maxRecDepth 100000 in
theorem c_all (l : Launch) (a : Nat → Nat) (b nS : Nat) (xs : Nat → Int32) (M : Mem) (q0 : Int) (hq0 : 0 ≤ q0 ∧ q0 ≤ 100) (hC : CI M) (h4 : M 4 4 = 0) (h44 : ∀ j, M 44 j = 0) (h9 : M 9 = rul0) : CtI (XL b nS xs) l yL_all wsL_all ({ frames := 7, cells := 0, slots := 0, locals := 159 } : Room) LL a M [.ref (a 0), .ref b, .int (iI q0), .ref (a 43), .ref (a 44)] (fun z M' => z = 1 ∧ ∃ k, (0 ≤ k ∧ k ≤ 12) ∧ BJ M' k) := by
  refine CtI.of (y := yL_all) (cc := cL_all) (maxL := 8) (ret := (some .boolean)) (lv := [some (.ref (a 0)), some (.ref b), some (.int (iI q0)), some (.ref (a 43)), some (.ref (a 44)), none, none, none]) (by decide) rfl (Nat.le_of_ble_eq_true rfl) (lvOK_of _ _ ⟨rfl, rfl⟩) ?_
  intro p e s m below meth c D T F K X0 hr hlk
  have hXc := XL_c b nS xs
  refine g_aload F (pc' := 2) dL_all_0 rfl rfl ?_
  refine g_iconst F (pc' := 3) dL_all_2 rfl ?_
  refine g_bipush F (pc' := 5) dL_all_3 rfl (by decide +kernel) ?_
  refine h_iast F K (k := 44) (pc' := 6) (sc M 44 (upf (M 44) 1 20)) (mem_up (by rfl) (by intro j hj; simp only [sc, if_neg hj])) rfl (by decide) (by decide) dL_all_5 rfl ?_
  refine g_aload F (pc' := 8) dL_all_6 rfl rfl ?_
  refine g_iconst F (pc' := 9) dL_all_8 rfl ?_
  refine g_iconst F (pc' := 10) dL_all_9 rfl ?_
  refine h_iast F K (k := 44) (pc' := 11) (sc M 44 (upf (upf (M 44) 1 20) 2 1)) (mem_up (by rfl) (by intro j hj; simp only [sc, if_neg hj])) rfl (by decide) (by decide) dL_all_10 rfl ?_
  refine g_aload F (pc' := 13) dL_all_11 rfl rfl ?_
  refine g_iconst F (pc' := 14) dL_all_13 rfl ?_
  refine g_iconst F (pc' := 15) dL_all_14 rfl ?_
  refine h_iast F K (k := 44) (pc' := 16) (sc M 44 (upf (upf (upf (M 44) 1 20) 2 1) 3 1)) (mem_up (by rfl) (by intro j hj; simp only [sc, if_neg hj])) rfl (by decide) (by decide) dL_all_15 rfl ?_
  refine g_aload_n F (pc' := 17) dL_all_16 rfl rfl ?_
  refine g_iload_n F (pc' := 18) dL_all_17 rfl rfl ?_
  refine g_callSI F K hXc X0 (pc' := 21) (st := []) (c_cell l a b nS xs (sc M 44 (upf (upf (upf (M 44) 1 20) 2 1) 3 1)) q0 (by omega)) (va_cwS 2 F.2.2.2.2 gL_all_L_cell rfl rfl rfl (by decide +kernel) ⟨Nat.le_of_ble_eq_true rfl, Nat.le_of_ble_eq_true rfl⟩) rfl rfl (Nat.le_of_ble_eq_true rfl) dL_all_18 rfl (fun z_18 M_18 q_18 => ?_)
  obtain ⟨hc_18, mc_18⟩ := q_18
  have mc_18 := mc_18.symm; subst mc_18
  refine g_iconst F (pc' := 22) dL_all_21 rfl ?_
  refine g_callP F (pc' := 25) (st := []) (c_up l z_18 5 (by omega) (by omega)) (va_cwS 2 F.2.2.2.2 gL_all_L_up rfl rfl rfl (by decide +kernel) ⟨Nat.le_of_ble_eq_true rfl, Nat.le_of_ble_eq_true rfl⟩) rfl rfl (Nat.le_of_ble_eq_true rfl) dL_all_22 rfl ?_
  have b_22 := upZ_R (v := z_18) (m := 5) (by omega)
  obtain ⟨np, enp⟩ : ∃ z : Int, z = upZ z_18 5 := ⟨_, rfl⟩
  refine h_top (z' := np) enp.symm ?_
  have hnp : 0 ≤ np ∧ np ≤ 4 := by omega
  refine g_istore F (pc' := 27) (lv' := [some (.ref (a 0)), some (.ref b), some (.int (iI q0)), some (.ref (a 43)), some (.ref (a 44)), some (.int (iI np)), none, none]) dL_all_25 rfl (by decide) rfl ?_
  refine g_aload_n F (pc' := 28) dL_all_27 rfl rfl ?_
  refine g_iload_n F (pc' := 29) dL_all_28 rfl rfl ?_
  refine g_callSI F K hXc X0 (pc' := 32) (st := []) (c_cell l a b nS xs (sc M 44 (upf (upf (upf (M 44) 1 20) 2 1) 3 1)) q0 (by omega)) (va_cwS 2 F.2.2.2.2 gL_all_L_cell rfl rfl rfl (by decide +kernel) ⟨Nat.le_of_ble_eq_true rfl, Nat.le_of_ble_eq_true rfl⟩) rfl rfl (Nat.le_of_ble_eq_true rfl) dL_all_29 rfl (fun z_29 M_29 q_29 => ?_)
  obtain ⟨hc_29, mc_29⟩ := q_29
  have mc_29 := mc_29.symm; subst mc_29
  refine g_iconst F (pc' := 33) dL_all_32 rfl ?_
  refine g_ishr F (pc' := 34) dL_all_33 rfl ?_
  refine g_iconst F (pc' := 35) dL_all_34 rfl ?_
  refine g_callP F (pc' := 38) (st := []) (c_up l (shrZ z_29 4) 5 (shrZ_R _ _) (by omega)) (va_cwS 2 F.2.2.2.2 gL_all_L_up rfl rfl rfl (by decide +kernel) ⟨Nat.le_of_ble_eq_true rfl, Nat.le_of_ble_eq_true rfl⟩) rfl rfl (Nat.le_of_ble_eq_true rfl) dL_all_35 rfl ?_
  have b_35 := upZ_R (v := shrZ z_29 4) (m := 5) (by omega)
  obtain ⟨nm, enm⟩ : ∃ z : Int, z = upZ (shrZ z_29 4) 5 := ⟨_, rfl⟩
  refine h_top (z' := nm) enm.symm ?_
  have hnm : 0 ≤ nm ∧ nm ≤ 4 := by omega
  refine g_istore F (pc' := 40) (lv' := [some (.ref (a 0)), some (.ref b), some (.int (iI q0)), some (.ref (a 43)), some (.ref (a 44)), some (.int (iI np)), some (.int (iI nm)), none]) dL_all_38 rfl (by decide) rfl ?_
  refine g_iconst F (pc' := 41) dL_all_40 rfl ?_
  refine g_istore F (pc' := 43) (lv' := [some (.ref (a 0)), some (.ref b), some (.int (iI q0)), some (.ref (a 43)), some (.ref (a 44)), some (.int (iI np)), some (.int (iI nm)), some (.int (iI 0))]) dL_all_41 rfl (by decide) rfl ?_
  have lp_43 : ∀ (n_43 : Nat) (P : Mem) (i : Int) (hm_43 : np - i < (n_43 : Int)) (hi0 : 0 ≤ i ∧ i ≤ np) (hJP : BJ P (2 * i)), GG p l e ({ frames := 7, cells := 0, slots := 0, locals := 159 } : Room) s m ([.ref (a 0), .ref b, .int (iI q0), .ref (a 43), .ref (a 44)].toArray) below meth c (PI D T a LL M (fun z M' => z = 1 ∧ ∃ k, (0 ≤ k ∧ k ≤ 12) ∧ BJ M' k) below ([.ref (a 0), .ref b, .int (iI q0), .ref (a 43), .ref (a 44)].toArray) s) D (AA T a LL M s.heap.size) 8 (wld T a LL P) 43 [some (.ref (a 0)), some (.ref b), some (.int (iI q0)), some (.ref (a 43)), some (.ref (a 44)), some (.int (iI np)), some (.int (iI nm)), some (.int (iI i))] [] := by
    intro n_43
    induction n_43 with
    | zero => intro P i hm_43 hi0 hJP; exfalso; omega
    | succ n_43 ih_43 =>
      intro P i hm_43 hi0 hJP
      refine g_iload F (pc' := 45) dL_all_43 rfl rfl ?_
      refine g_iload F (pc' := 47) dL_all_45 rfl rfl ?_
      refine g_icmp_ge F (pc' := 50) (tgt := 78) dL_all_47 rfl (by decide) (by omega) (by omega) (fun c_47 => ?_) (fun c_47 => ?_)
      · skip
        refine g_iconst F (pc' := 79) dL_all_78 rfl ?_
        refine g_istore F (pc' := 81) (lv' := [some (.ref (a 0)), some (.ref b), some (.int (iI q0)), some (.ref (a 43)), some (.ref (a 44)), some (.int (iI np)), some (.int (iI nm)), some (.int (iI 0))]) dL_all_79 rfl (by decide) rfl ?_
        have lp_81 : ∀ (n_81 : Nat) (P : Mem) (i : Int) (hm_81 : nm - i < (n_81 : Int)) (hi0 : 0 ≤ i ∧ i ≤ nm) (hJP : BJ P (2 * np + i)), GG p l e ({ frames := 7, cells := 0, slots := 0, locals := 159 } : Room) s m ([.ref (a 0), .ref b, .int (iI q0), .ref (a 43), .ref (a 44)].toArray) below meth c (PI D T a LL M (fun z M' => z = 1 ∧ ∃ k, (0 ≤ k ∧ k ≤ 12) ∧ BJ M' k) below ([.ref (a 0), .ref b, .int (iI q0), .ref (a 43), .ref (a 44)].toArray) s) D (AA T a LL M s.heap.size) 8 (wld T a LL P) 81 [some (.ref (a 0)), some (.ref b), some (.int (iI q0)), some (.ref (a 43)), some (.ref (a 44)), some (.int (iI np)), some (.int (iI nm)), some (.int (iI i))] [] := by
          intro n_81
          induction n_81 with
          | zero => intro P i hm_81 hi0 hJP; exfalso; omega
          | succ n_81 ih_81 =>
            intro P i hm_81 hi0 hJP
            have tm3 : Int.tmod i 3 = i % 3 := Int.tmod_eq_emod_of_nonneg (by omega)
            have td3 : Int.tdiv i 3 = i / 3 := Int.tdiv_eq_ediv_of_nonneg (by omega)
            refine g_iload F (pc' := 83) dL_all_81 rfl rfl ?_
            refine g_iload F (pc' := 85) dL_all_83 rfl rfl ?_
            refine g_icmp_ge F (pc' := 88) (tgt := 125) dL_all_85 rfl (by decide) (by omega) (by omega) (fun c_85 => ?_) (fun c_85 => ?_)
            · skip
              refine g_aload_n F (pc' := 126) dL_all_125 rfl rfl ?_
              refine g_aload F (pc' := 128) dL_all_126 rfl rfl ?_
              refine g_aload_n F (pc' := 129) dL_all_128 rfl rfl ?_
              refine g_iload_n F (pc' := 130) dL_all_129 rfl rfl ?_
              refine g_bipush F (pc' := 132) dL_all_130 rfl (by decide +kernel) ?_
              refine g_iadd F (pc' := 133) dL_all_132 rfl ?_
              refine g_callSI F K hXc X0 (pc' := 136) (st := [.ref (a 44), .ref (a 0)]) (c_cell l a b nS xs P (q0 + 8) (by omega)) (va_cwS 2 F.2.2.2.2 gL_all_L_cell rfl rfl rfl (by decide +kernel) ⟨Nat.le_of_ble_eq_true rfl, Nat.le_of_ble_eq_true rfl⟩) rfl rfl (Nat.le_of_ble_eq_true rfl) dL_all_133 rfl (fun z_133 M_133 q_133 => ?_)
              obtain ⟨hc_133, mc_133⟩ := q_133
              have mc_133 := mc_133.symm; subst mc_133
              refine g_callSI F K hXc X0 (pc' := 139) (st := []) (c_rules hXc XL_S l a P (2 * np + nm) z_133 (by omega) (by rw [show 2 * np + nm = 2 * np + i by omega]; exact hJP)) (va_cwS 3 F.2.2.2.2 gL_all_L_rules rfl rfl rfl (by decide +kernel) ⟨Nat.le_of_ble_eq_true rfl, Nat.le_of_ble_eq_true rfl⟩) rfl rfl (Nat.le_of_ble_eq_true rfl) dL_all_136 rfl (fun z_136 M_136 q_136 => ?_)
              obtain ⟨ez_136, hB_136⟩ := q_136
              exact g_zret F hr hlk dL_all_139 (Or.inr ez_136) (⟨ez_136, _, by omega, hB_136⟩)
            · skip
              refine g_aload_n F (pc' := 89) dL_all_88 rfl rfl ?_
              refine g_aload_n F (pc' := 90) dL_all_89 rfl rfl ?_
              refine g_aload F (pc' := 92) dL_all_90 rfl rfl ?_
              refine g_aload_n F (pc' := 93) dL_all_92 rfl rfl ?_
              refine g_iload_n F (pc' := 94) dL_all_93 rfl rfl ?_
              refine g_iconst F (pc' := 95) dL_all_94 rfl ?_
              refine g_iadd F (pc' := 96) dL_all_95 rfl ?_
              refine g_iload F (pc' := 98) dL_all_96 rfl rfl ?_
              refine g_iconst F (pc' := 99) dL_all_98 rfl ?_
              refine g_irem F (pc' := 100) dL_all_99 rfl (by omega) (by decide) (by omega) ?_
              refine g_iadd F (pc' := 101) dL_all_100 rfl ?_
              refine g_callSI F K hXc X0 (pc' := 104) (st := [.ref (a 44), .ref (a 43), .ref (a 0)]) (c_cell l a b nS xs P ((q0 + 5) + (Int.tmod i 3)) (by omega)) (va_cwS 2 F.2.2.2.2 gL_all_L_cell rfl rfl rfl (by decide +kernel) ⟨Nat.le_of_ble_eq_true rfl, Nat.le_of_ble_eq_true rfl⟩) rfl rfl (Nat.le_of_ble_eq_true rfl) dL_all_101 rfl (fun z_101 M_101 q_101 => ?_)
              obtain ⟨hc_101, mc_101⟩ := q_101
              have mc_101 := mc_101.symm; subst mc_101
              refine g_iload F (pc' := 106) dL_all_104 rfl rfl ?_
              refine g_iconst F (pc' := 107) dL_all_106 rfl ?_
              refine g_idiv F (pc' := 108) dL_all_107 rfl (by omega) (by decide) (by omega) ?_
              refine g_iconst F (pc' := 109) dL_all_108 rfl ?_
              refine g_imul F (pc' := 110) dL_all_109 rfl ?_
              refine g_ishr F (pc' := 111) dL_all_110 rfl ?_
              refine g_callSI F K hXc X0 (pc' := 114) (st := []) (c_edge hXc XL_S l a P (2 * np + i) (shrZ z_101 ((Int.tdiv i 3) * 5)) (by omega) (shrZ_R _ _) hJP) (va_cwS 4 F.2.2.2.2 gL_all_L_edge rfl rfl rfl (by decide +kernel) ⟨Nat.le_of_ble_eq_true rfl, Nat.le_of_ble_eq_true rfl⟩) rfl rfl (Nat.le_of_ble_eq_true rfl) dL_all_111 rfl (fun z_111 M_111 q_111 => ?_)
              obtain ⟨ez_111, hB_111⟩ := q_111
              subst ez_111
              refine g_if_ne F (pc' := 117) (tgt := 119) dL_all_114 rfl (by decide) (by decide) (fun c_114 => ?_) (fun c_114 => ?_)
              · skip
                refine g_iinc F (pc' := 122) (lv' := [some (.ref (a 0)), some (.ref b), some (.int (iI q0)), some (.ref (a 43)), some (.ref (a 44)), some (.int (iI np)), some (.int (iI nm)), some (.int (iI (i + 1)))]) dL_all_119 rfl rfl (by decide) rfl ?_
                refine g_goto F (tgt := 81) dL_all_122 (by decide) ?_
                exact ih_81 M_111 (i + 1) (by omega) (by omega) (by rw [show 2 * np + (i + 1) = 2 * np + i + 1 by omega]; exact hB_111)
              · skip
                exact absurd c_114 (by decide)
        exact lp_81 ((nm - 0 : Int).toNat + 1) P 0 (by omega) (by omega) (by rw [show 2 * np + 0 = 2 * i by omega]; exact hJP)
      · skip
        refine g_aload_n F (pc' := 51) dL_all_50 rfl rfl ?_
        refine g_aload_n F (pc' := 52) dL_all_51 rfl rfl ?_
        refine g_aload F (pc' := 54) dL_all_52 rfl rfl ?_
        refine g_aload_n F (pc' := 55) dL_all_54 rfl rfl ?_
        refine g_iload_n F (pc' := 56) dL_all_55 rfl rfl ?_
        refine g_iconst F (pc' := 57) dL_all_56 rfl ?_
        refine g_iadd F (pc' := 58) dL_all_57 rfl ?_
        refine g_iload F (pc' := 60) dL_all_58 rfl rfl ?_
        refine g_iadd F (pc' := 61) dL_all_60 rfl ?_
        refine g_callSI F K hXc X0 (pc' := 64) (st := [.ref (a 44), .ref (a 43), .ref (a 0)]) (c_cell l a b nS xs P ((q0 + 1) + i) (by omega)) (va_cwS 2 F.2.2.2.2 gL_all_L_cell rfl rfl rfl (by decide +kernel) ⟨Nat.le_of_ble_eq_true rfl, Nat.le_of_ble_eq_true rfl⟩) rfl rfl (Nat.le_of_ble_eq_true rfl) dL_all_61 rfl (fun z_61 M_61 q_61 => ?_)
        obtain ⟨hc_61, mc_61⟩ := q_61
        have mc_61 := mc_61.symm; subst mc_61
        refine g_callSI F K hXc X0 (pc' := 67) (st := []) (c_pair hXc XL_S l a P (2 * i) z_61 (by omega) (by omega) hJP) (va_cwS 4 F.2.2.2.2 gL_all_L_pair rfl rfl rfl (by decide +kernel) ⟨Nat.le_of_ble_eq_true rfl, Nat.le_of_ble_eq_true rfl⟩) rfl rfl (Nat.le_of_ble_eq_true rfl) dL_all_64 rfl (fun z_64 M_64 q_64 => ?_)
        obtain ⟨ez_64, hB_64⟩ := q_64
        subst ez_64
        refine g_if_ne F (pc' := 70) (tgt := 72) dL_all_67 rfl (by decide) (by decide) (fun c_67 => ?_) (fun c_67 => ?_)
        · skip
          refine g_iinc F (pc' := 75) (lv' := [some (.ref (a 0)), some (.ref b), some (.int (iI q0)), some (.ref (a 43)), some (.ref (a 44)), some (.int (iI np)), some (.int (iI nm)), some (.int (iI (i + 1)))]) dL_all_72 rfl rfl (by decide) rfl ?_
          refine g_goto F (tgt := 43) dL_all_75 (by decide) ?_
          exact ih_43 M_64 (i + 1) (by omega) (by omega) (by rw [show 2 * (i + 1) = 2 * i + 2 by omega]; exact hB_64)
        · skip
          exact absurd c_67 (by decide)
  exact lp_43 ((np - 0 : Int).toNat + 1) (sc M 44 (upf (upf (upf (M 44) 1 20) 2 1) 3 1)) 0 (by omega) (by omega) (⟨BI_start hC h4 h44 h9, fun u u0 u1 => by have u1 : u < M 4 4 := u1; omega⟩)
