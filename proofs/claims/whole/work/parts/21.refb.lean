/-! ===== the reference: methods of stems and drifts ===== -/
def canR (M : Mem) (u d : Int) : Prop := (M 1 (4 * u) = 1 ∧ M 1 (4 * d) = 0 ∧ M 1 ((4 * u) + 1) < M 1 ((4 * d) + 1) ∧ M 1 ((4 * d) + 1) - M 1 ((4 * u) + 1) ≤ 300) ∧ max (M 1 ((4 * u) + 2)) (M 1 ((4 * d) + 2)) < min (M 1 ((4 * u) + 3)) (M 1 ((4 * d) + 3))
def freeR (M : Mem) (n u d : Int) : Prop := ∀ j : Int, 0 ≤ j → j < n → (M 7 j ≠ u ∧ M 8 j ≠ d ∧ (M 1 ((4 * d) + 1) < M 5 j ∨ M 6 j < M 1 ((4 * u) + 1)))
theorem freeR_s {M : Mem} {i u d : Int} (h0 : 0 ≤ i) : freeR M (i + 1) u d ↔ (freeR M i u d ∧ (M 7 i ≠ u ∧ M 8 i ≠ d ∧ (M 1 ((4 * d) + 1) < M 5 i ∨ M 6 i < M 1 ((4 * u) + 1)))) := by
  constructor
  · intro h
    exact ⟨fun j h1 h2 => h j h1 (by omega), h i h0 (by omega)⟩
  · rintro ⟨h, hi⟩ j h1 h2
    by_cases hj : j = i
    · subst hj; exact hi
    · exact h j h1 (by omega)
def cntz (mode t : Int) : Int := if mode % 2 = 1 then t * t / 1000 else t
def jn (mode x y : Int) : Int := if mode < 2 then x + y else max x y
def dz (st sz bold : Int) : Int := max 1 ((st * sz + 500) / 1000) + bold
def absz (x : Int) : Int := if 0 ≤ x then x else -x
theorem mul_R {x y A B : Int} (hx : 0 ≤ x ∧ x ≤ A) (hy : 0 ≤ y ∧ y ≤ B) : 0 ≤ x * y ∧ x * y ≤ A * B :=
  ⟨Int.mul_nonneg hx.1 hy.1, Int.mul_le_mul hx.2 hy.2 hy.1 (by omega)⟩
theorem sq_R {t : Int} (ht : 0 ≤ t ∧ t ≤ 100000000) : 0 ≤ t * t ∧ t * t ≤ 10000000000000000 := mul_R ht ht
theorem mulS_R {x y : Int} (hx : -999 ≤ x ∧ x ≤ 999) (hy : 0 ≤ y ∧ y ≤ 60) : -59940 ≤ x * y ∧ x * y ≤ 59940 := by
  have h := mul_R (x := x + 999) (y := y) (A := 1998) (B := 60) (by omega) hy
  have e : (x + 999) * y = x * y + 999 * y := Int.add_mul x 999 y
  have h2 := mul_R (x := 999 - x) (y := y) (A := 1998) (B := 60) (by omega) hy
  have e2 : (999 - x) * y = 999 * y - x * y := Int.sub_mul 999 x y
  omega
theorem div_R {s c : Int} (hc : 1 ≤ c) (hs : 0 ≤ s ∧ s ≤ 300 * c) : 0 ≤ s / c ∧ s / c ≤ 300 :=
  ⟨Int.ediv_nonneg hs.1 (by omega), by have := Int.ediv_le_of_le_mul (a := s) (b := 300) (c := c) (by omega) (by omega); omega⟩
theorem iX5_x_X5 : ∀ w ∈ wsX50, w ∈ wsX5_x := fun _ h => List.mem_cons_of_mem _ (List.mem_append_right _ h)
set_option maxHeartbeats 4000000 in
set_option maxRecDepth 100000 in
theorem c5_x (l : Launch) (a : Nat → Nat) (M : Mem) (u : Int) (hu : 0 ≤ u ∧ u < 16) : CtI XT l yX5_x wsX5_x ({ frames := 0, cells := 0, slots := 0, locals := 0 } : Room) LR a M [.ref (a 0), .int (iI u)] (fun z M' => z = M 1 ((4 * u) + 1) ∧ M' = M) := by
  refine CtI.of (y := yX5_x) (cc := cX5_x) (maxL := 2) (ret := (some .int)) (lv := [some (.ref (a 0)), some (.int (iI u))]) (by decide) rfl (Nat.le_of_ble_eq_true rfl) (lvOK_of _ _ ⟨rfl, rfl⟩) ?_
  intro p e s m below meth c D T F K X0 hr hlk
  have hXc := XT_c
  refine g_aload_n F (pc' := 1) dX5_x_0 rfl rfl ?_
  refine g_getR F K (k := 0) (fld := 0) (ci := 5) (q := 1) (pc' := 4) iX5_x_X5 rfl rfl rfl (by decide) (List.mem_of_getElem? (i := 1) rfl) dX5_x_1 rfl ?_
  refine g_iconst F (pc' := 5) dX5_x_4 rfl ?_
  refine g_iload_n F (pc' := 6) dX5_x_5 rfl rfl ?_
  refine g_imul F (pc' := 7) dX5_x_6 rfl ?_
  refine g_iconst F (pc' := 8) dX5_x_7 rfl ?_
  refine g_iadd F (pc' := 9) dX5_x_8 rfl ?_
  refine g_iald F K (k := 1) (v := M 1 ((4 * u) + 1)) (pc' := 10) rfl (by decide) (by omega) dX5_x_9 rfl (by first | rfl | simp [upf, sc]) ?_
  exact g_iret F hr hlk dX5_x_10 (⟨rfl, rfl⟩)

theorem iX5_canBe_X5 : ∀ w ∈ wsX50, w ∈ wsX5_canBe := fun _ h => List.mem_cons_of_mem _ (List.mem_append_right _ h)
set_option maxHeartbeats 4000000 in
set_option maxRecDepth 100000 in
theorem c5_canBe (l : Launch) (a : Nat → Nat) (M : Mem) (u d : Int) (hu : 0 ≤ u ∧ u < 16) (hd : 0 ≤ d ∧ d < 16) (hE : ∀ j, 0 ≤ M 1 j ∧ M 1 j ≤ 999) : CtI XT l yX5_canBe wsX5_canBe ({ frames := 1, cells := 0, slots := 0, locals := 21 } : Room) LR a M [.ref (a 0), .int (iI u), .int (iI d)] (fun z M' => z = zC (canR M u d) ∧ M' = M) := by
  refine CtI.of (y := yX5_canBe) (cc := cX5_canBe) (maxL := 6) (ret := (some .boolean)) (lv := [some (.ref (a 0)), some (.int (iI u)), some (.int (iI d)), none, none, none]) (by decide) rfl (Nat.le_of_ble_eq_true rfl) (lvOK_of _ _ ⟨rfl, rfl⟩) ?_
  intro p e s m below meth c D T F K X0 hr hlk
  have hXc := XT_c
  have lp_58 : ∀ (b : Int) (hb : b = zC (M 1 (4 * u) = 1 ∧ M 1 (4 * d) = 0 ∧ M 1 ((4 * u) + 1) < M 1 ((4 * d) + 1) ∧ M 1 ((4 * d) + 1) - M 1 ((4 * u) + 1) ≤ 300)), GG p l e ({ frames := 1, cells := 0, slots := 0, locals := 21 } : Room) s m ([.ref (a 0), .int (iI u), .int (iI d)].toArray) below meth c (PI D T a LR M (fun z M' => z = zC (canR M u d) ∧ M' = M) below ([.ref (a 0), .int (iI u), .int (iI d)].toArray) s) D (AA T a LR M s.heap.size) 6 (wld T a LR M) 58 [some (.ref (a 0)), some (.int (iI u)), some (.int (iI d)), none, none, none] [.int (iI b)] := by
    intro b hb
    subst hb
    have lp_105 : ∀ (lo : Int) (hlo : lo = max (M 1 ((4 * u) + 2)) (M 1 ((4 * d) + 2))), GG p l e ({ frames := 1, cells := 0, slots := 0, locals := 21 } : Room) s m ([.ref (a 0), .int (iI u), .int (iI d)].toArray) below meth c (PI D T a LR M (fun z M' => z = zC (canR M u d) ∧ M' = M) below ([.ref (a 0), .int (iI u), .int (iI d)].toArray) s) D (AA T a LR M s.heap.size) 6 (wld T a LR M) 105 [some (.ref (a 0)), some (.int (iI u)), some (.int (iI d)), some (.int (iI (zC (M 1 (4 * u) = 1 ∧ M 1 (4 * d) = 0 ∧ M 1 ((4 * u) + 1) < M 1 ((4 * d) + 1) ∧ M 1 ((4 * d) + 1) - M 1 ((4 * u) + 1) ≤ 300)))), none, none] [.int (iI lo)] := by
      intro lo hlo
      have hl1 := hE ((4 * u) + 2)
      have hl2 := hE ((4 * d) + 2)
      have lp_153 : ∀ (hi : Int) (hhi : hi = min (M 1 ((4 * u) + 3)) (M 1 ((4 * d) + 3))), GG p l e ({ frames := 1, cells := 0, slots := 0, locals := 21 } : Room) s m ([.ref (a 0), .int (iI u), .int (iI d)].toArray) below meth c (PI D T a LR M (fun z M' => z = zC (canR M u d) ∧ M' = M) below ([.ref (a 0), .int (iI u), .int (iI d)].toArray) s) D (AA T a LR M s.heap.size) 6 (wld T a LR M) 153 [some (.ref (a 0)), some (.int (iI u)), some (.int (iI d)), some (.int (iI (zC (M 1 (4 * u) = 1 ∧ M 1 (4 * d) = 0 ∧ M 1 ((4 * u) + 1) < M 1 ((4 * d) + 1) ∧ M 1 ((4 * d) + 1) - M 1 ((4 * u) + 1) ≤ 300)))), some (.int (iI lo)), none] [.int (iI hi)] := by
        intro hi hhi
        have hh1 := hE ((4 * u) + 3)
        have hh2 := hE ((4 * d) + 3)
        refine g_istore F (pc' := 155) (lv' := [some (.ref (a 0)), some (.int (iI u)), some (.int (iI d)), some (.int (iI (zC (M 1 (4 * u) = 1 ∧ M 1 (4 * d) = 0 ∧ M 1 ((4 * u) + 1) < M 1 ((4 * d) + 1) ∧ M 1 ((4 * d) + 1) - M 1 ((4 * u) + 1) ≤ 300)))), some (.int (iI lo)), some (.int (iI hi))]) dX5_canBe_153 rfl (by decide) rfl ?_
        refine g_iload_n F (pc' := 156) dX5_canBe_155 rfl rfl ?_
        refine g_if_eq F (pc' := 159) (tgt := 170) dX5_canBe_156 rfl (by decide) (zC_R _) (fun c_156 => ?_) (fun c_156 => ?_)
        · skip
          have c_156 := zC_0 c_156
          refine g_iconst F (pc' := 171) dX5_canBe_170 rfl ?_
          exact g_zret F hr hlk dX5_canBe_171 (Or.inl rfl) (⟨by first | exact (zC_t ⟨c_156, by omega⟩).symm | exact (zC_f (fun q => by first | exact c_156 q.1 | (have q2 := q.2; omega))).symm, rfl⟩)
        · skip
          have c_156 := zC_1 c_156
          refine g_iload F (pc' := 161) dX5_canBe_159 rfl rfl ?_
          refine g_iload F (pc' := 163) dX5_canBe_161 rfl rfl ?_
          refine g_icmp_le F (pc' := 166) (tgt := 170) dX5_canBe_163 rfl (by decide) (by omega) (by omega) (fun c_163 => ?_) (fun c_163 => ?_)
          · skip
            refine g_iconst F (pc' := 171) dX5_canBe_170 rfl ?_
            exact g_zret F hr hlk dX5_canBe_171 (Or.inl rfl) (⟨by first | exact (zC_t ⟨c_156, by omega⟩).symm | exact (zC_f (fun q => by first | exact c_156 q.1 | (have q2 := q.2; omega))).symm, rfl⟩)
          · skip
            refine g_iconst F (pc' := 167) dX5_canBe_166 rfl ?_
            refine g_goto F (tgt := 171) dX5_canBe_167 (by decide) ?_
            exact g_zret F hr hlk dX5_canBe_171 (Or.inr rfl) (⟨by first | exact (zC_t ⟨c_156, by omega⟩).symm | exact (zC_f (fun q => by first | exact c_156 q.1 | (have q2 := q.2; omega))).symm, rfl⟩)
      refine g_istore F (pc' := 107) (lv' := [some (.ref (a 0)), some (.int (iI u)), some (.int (iI d)), some (.int (iI (zC (M 1 (4 * u) = 1 ∧ M 1 (4 * d) = 0 ∧ M 1 ((4 * u) + 1) < M 1 ((4 * d) + 1) ∧ M 1 ((4 * d) + 1) - M 1 ((4 * u) + 1) ≤ 300)))), some (.int (iI lo)), none]) dX5_canBe_105 rfl (by decide) rfl ?_
      refine g_aload_n F (pc' := 108) dX5_canBe_107 rfl rfl ?_
      refine g_getR F K (k := 0) (fld := 0) (ci := 5) (q := 1) (pc' := 111) iX5_canBe_X5 rfl rfl rfl (by decide) (List.mem_of_getElem? (i := 1) rfl) dX5_canBe_108 rfl ?_
      refine g_iconst F (pc' := 112) dX5_canBe_111 rfl ?_
      refine g_iload_n F (pc' := 113) dX5_canBe_112 rfl rfl ?_
      refine g_imul F (pc' := 114) dX5_canBe_113 rfl ?_
      refine g_iconst F (pc' := 115) dX5_canBe_114 rfl ?_
      refine g_iadd F (pc' := 116) dX5_canBe_115 rfl ?_
      refine g_iald F K (k := 1) (v := M 1 ((4 * u) + 3)) (pc' := 117) rfl (by decide) (by omega) dX5_canBe_116 rfl (by first | rfl | simp [upf, sc]) ?_
      have b_116 := hE ((4 * u) + 3)
      refine g_aload_n F (pc' := 118) dX5_canBe_117 rfl rfl ?_
      refine g_getR F K (k := 0) (fld := 0) (ci := 5) (q := 1) (pc' := 121) iX5_canBe_X5 rfl rfl rfl (by decide) (List.mem_of_getElem? (i := 1) rfl) dX5_canBe_118 rfl ?_
      refine g_iconst F (pc' := 122) dX5_canBe_121 rfl ?_
      refine g_iload_n F (pc' := 123) dX5_canBe_122 rfl rfl ?_
      refine g_imul F (pc' := 124) dX5_canBe_123 rfl ?_
      refine g_iconst F (pc' := 125) dX5_canBe_124 rfl ?_
      refine g_iadd F (pc' := 126) dX5_canBe_125 rfl ?_
      refine g_iald F K (k := 1) (v := M 1 ((4 * d) + 3)) (pc' := 127) rfl (by decide) (by omega) dX5_canBe_126 rfl (by first | rfl | simp [upf, sc]) ?_
      have b_126 := hE ((4 * d) + 3)
      refine g_icmp_ge F (pc' := 130) (tgt := 143) dX5_canBe_127 rfl (by decide) (by omega) (by omega) (fun c_127 => ?_) (fun c_127 => ?_)
      · skip
        refine g_aload_n F (pc' := 144) dX5_canBe_143 rfl rfl ?_
        refine g_getR F K (k := 0) (fld := 0) (ci := 5) (q := 1) (pc' := 147) iX5_canBe_X5 rfl rfl rfl (by decide) (List.mem_of_getElem? (i := 1) rfl) dX5_canBe_144 rfl ?_
        refine g_iconst F (pc' := 148) dX5_canBe_147 rfl ?_
        refine g_iload_n F (pc' := 149) dX5_canBe_148 rfl rfl ?_
        refine g_imul F (pc' := 150) dX5_canBe_149 rfl ?_
        refine g_iconst F (pc' := 151) dX5_canBe_150 rfl ?_
        refine g_iadd F (pc' := 152) dX5_canBe_151 rfl ?_
        refine g_iald F K (k := 1) (v := M 1 ((4 * d) + 3)) (pc' := 153) rfl (by decide) (by omega) dX5_canBe_152 rfl (by first | rfl | simp [upf, sc]) ?_
        have b_152 := hE ((4 * d) + 3)
        exact lp_153 (M 1 ((4 * d) + 3)) (by omega)
      · skip
        refine g_aload_n F (pc' := 131) dX5_canBe_130 rfl rfl ?_
        refine g_getR F K (k := 0) (fld := 0) (ci := 5) (q := 1) (pc' := 134) iX5_canBe_X5 rfl rfl rfl (by decide) (List.mem_of_getElem? (i := 1) rfl) dX5_canBe_131 rfl ?_
        refine g_iconst F (pc' := 135) dX5_canBe_134 rfl ?_
        refine g_iload_n F (pc' := 136) dX5_canBe_135 rfl rfl ?_
        refine g_imul F (pc' := 137) dX5_canBe_136 rfl ?_
        refine g_iconst F (pc' := 138) dX5_canBe_137 rfl ?_
        refine g_iadd F (pc' := 139) dX5_canBe_138 rfl ?_
        refine g_iald F K (k := 1) (v := M 1 ((4 * u) + 3)) (pc' := 140) rfl (by decide) (by omega) dX5_canBe_139 rfl (by first | rfl | simp [upf, sc]) ?_
        have b_139 := hE ((4 * u) + 3)
        refine g_goto F (tgt := 153) dX5_canBe_140 (by decide) ?_
        exact lp_153 (M 1 ((4 * u) + 3)) (by omega)
    refine g_istore_n F (pc' := 59) (lv' := [some (.ref (a 0)), some (.int (iI u)), some (.int (iI d)), some (.int (iI (zC (M 1 (4 * u) = 1 ∧ M 1 (4 * d) = 0 ∧ M 1 ((4 * u) + 1) < M 1 ((4 * d) + 1) ∧ M 1 ((4 * d) + 1) - M 1 ((4 * u) + 1) ≤ 300)))), none, none]) dX5_canBe_58 rfl (by decide) rfl ?_
    refine g_aload_n F (pc' := 60) dX5_canBe_59 rfl rfl ?_
    refine g_getR F K (k := 0) (fld := 0) (ci := 5) (q := 1) (pc' := 63) iX5_canBe_X5 rfl rfl rfl (by decide) (List.mem_of_getElem? (i := 1) rfl) dX5_canBe_60 rfl ?_
    refine g_iconst F (pc' := 64) dX5_canBe_63 rfl ?_
    refine g_iload_n F (pc' := 65) dX5_canBe_64 rfl rfl ?_
    refine g_imul F (pc' := 66) dX5_canBe_65 rfl ?_
    refine g_iconst F (pc' := 67) dX5_canBe_66 rfl ?_
    refine g_iadd F (pc' := 68) dX5_canBe_67 rfl ?_
    refine g_iald F K (k := 1) (v := M 1 ((4 * u) + 2)) (pc' := 69) rfl (by decide) (by omega) dX5_canBe_68 rfl (by first | rfl | simp [upf, sc]) ?_
    have b_68 := hE ((4 * u) + 2)
    refine g_aload_n F (pc' := 70) dX5_canBe_69 rfl rfl ?_
    refine g_getR F K (k := 0) (fld := 0) (ci := 5) (q := 1) (pc' := 73) iX5_canBe_X5 rfl rfl rfl (by decide) (List.mem_of_getElem? (i := 1) rfl) dX5_canBe_70 rfl ?_
    refine g_iconst F (pc' := 74) dX5_canBe_73 rfl ?_
    refine g_iload_n F (pc' := 75) dX5_canBe_74 rfl rfl ?_
    refine g_imul F (pc' := 76) dX5_canBe_75 rfl ?_
    refine g_iconst F (pc' := 77) dX5_canBe_76 rfl ?_
    refine g_iadd F (pc' := 78) dX5_canBe_77 rfl ?_
    refine g_iald F K (k := 1) (v := M 1 ((4 * d) + 2)) (pc' := 79) rfl (by decide) (by omega) dX5_canBe_78 rfl (by first | rfl | simp [upf, sc]) ?_
    have b_78 := hE ((4 * d) + 2)
    refine g_icmp_le F (pc' := 82) (tgt := 95) dX5_canBe_79 rfl (by decide) (by omega) (by omega) (fun c_79 => ?_) (fun c_79 => ?_)
    · skip
      refine g_aload_n F (pc' := 96) dX5_canBe_95 rfl rfl ?_
      refine g_getR F K (k := 0) (fld := 0) (ci := 5) (q := 1) (pc' := 99) iX5_canBe_X5 rfl rfl rfl (by decide) (List.mem_of_getElem? (i := 1) rfl) dX5_canBe_96 rfl ?_
      refine g_iconst F (pc' := 100) dX5_canBe_99 rfl ?_
      refine g_iload_n F (pc' := 101) dX5_canBe_100 rfl rfl ?_
      refine g_imul F (pc' := 102) dX5_canBe_101 rfl ?_
      refine g_iconst F (pc' := 103) dX5_canBe_102 rfl ?_
      refine g_iadd F (pc' := 104) dX5_canBe_103 rfl ?_
      refine g_iald F K (k := 1) (v := M 1 ((4 * d) + 2)) (pc' := 105) rfl (by decide) (by omega) dX5_canBe_104 rfl (by first | rfl | simp [upf, sc]) ?_
      have b_104 := hE ((4 * d) + 2)
      exact lp_105 (M 1 ((4 * d) + 2)) (by omega)
    · skip
      refine g_aload_n F (pc' := 83) dX5_canBe_82 rfl rfl ?_
      refine g_getR F K (k := 0) (fld := 0) (ci := 5) (q := 1) (pc' := 86) iX5_canBe_X5 rfl rfl rfl (by decide) (List.mem_of_getElem? (i := 1) rfl) dX5_canBe_83 rfl ?_
      refine g_iconst F (pc' := 87) dX5_canBe_86 rfl ?_
      refine g_iload_n F (pc' := 88) dX5_canBe_87 rfl rfl ?_
      refine g_imul F (pc' := 89) dX5_canBe_88 rfl ?_
      refine g_iconst F (pc' := 90) dX5_canBe_89 rfl ?_
      refine g_iadd F (pc' := 91) dX5_canBe_90 rfl ?_
      refine g_iald F K (k := 1) (v := M 1 ((4 * u) + 2)) (pc' := 92) rfl (by decide) (by omega) dX5_canBe_91 rfl (by first | rfl | simp [upf, sc]) ?_
      have b_91 := hE ((4 * u) + 2)
      refine g_goto F (tgt := 105) dX5_canBe_92 (by decide) ?_
      exact lp_105 (M 1 ((4 * u) + 2)) (by omega)
  refine g_aload_n F (pc' := 1) dX5_canBe_0 rfl rfl ?_
  refine g_getR F K (k := 0) (fld := 0) (ci := 5) (q := 1) (pc' := 4) iX5_canBe_X5 rfl rfl rfl (by decide) (List.mem_of_getElem? (i := 1) rfl) dX5_canBe_1 rfl ?_
  refine g_iconst F (pc' := 5) dX5_canBe_4 rfl ?_
  refine g_iload_n F (pc' := 6) dX5_canBe_5 rfl rfl ?_
  refine g_imul F (pc' := 7) dX5_canBe_6 rfl ?_
  refine g_iald F K (k := 1) (v := M 1 (4 * u)) (pc' := 8) rfl (by decide) (by omega) dX5_canBe_7 rfl (by first | rfl | simp [upf, sc]) ?_
  have b_7 := hE (4 * u)
  refine g_iconst F (pc' := 9) dX5_canBe_8 rfl ?_
  refine g_icmp_ne F (pc' := 12) (tgt := 57) dX5_canBe_9 rfl (by decide) (by omega) (by decide) (fun c_9 => ?_) (fun c_9 => ?_)
  · skip
    refine g_iconst F (pc' := 58) dX5_canBe_57 rfl ?_
    exact lp_58 0 (by first | exact (zC_t (by omega)).symm | exact (zC_f (by omega)).symm)
  · skip
    refine g_aload_n F (pc' := 13) dX5_canBe_12 rfl rfl ?_
    refine g_getR F K (k := 0) (fld := 0) (ci := 5) (q := 1) (pc' := 16) iX5_canBe_X5 rfl rfl rfl (by decide) (List.mem_of_getElem? (i := 1) rfl) dX5_canBe_13 rfl ?_
    refine g_iconst F (pc' := 17) dX5_canBe_16 rfl ?_
    refine g_iload_n F (pc' := 18) dX5_canBe_17 rfl rfl ?_
    refine g_imul F (pc' := 19) dX5_canBe_18 rfl ?_
    refine g_iald F K (k := 1) (v := M 1 (4 * d)) (pc' := 20) rfl (by decide) (by omega) dX5_canBe_19 rfl (by first | rfl | simp [upf, sc]) ?_
    have b_19 := hE (4 * d)
    refine g_if_ne F (pc' := 23) (tgt := 57) dX5_canBe_20 rfl (by decide) (by omega) (fun c_20 => ?_) (fun c_20 => ?_)
    · skip
      refine g_iconst F (pc' := 58) dX5_canBe_57 rfl ?_
      exact lp_58 0 (by first | exact (zC_t (by omega)).symm | exact (zC_f (by omega)).symm)
    · skip
      refine g_aload_n F (pc' := 24) dX5_canBe_23 rfl rfl ?_
      refine g_iload_n F (pc' := 25) dX5_canBe_24 rfl rfl ?_
      refine g_callI F K hXc X0 (pc' := 28) (st := []) (c5_x l a M u (by omega)) (cwV 1 F.2.2.2.2 gX5_canBe_X5_x rfl rfl rfl (by decide +kernel) ⟨Nat.le_of_ble_eq_true rfl, Nat.le_of_ble_eq_true rfl⟩) rfl rfl rfl rfl (Nat.le_of_ble_eq_true rfl) dX5_canBe_25 rfl (fun z_25 M_25 q_25 => ?_)
      obtain ⟨rfl, mq_25⟩ := q_25
      have mq_25 := mq_25.symm; subst mq_25
      have b_25 := hE ((4 * u) + 1)
      refine g_aload_n F (pc' := 29) dX5_canBe_28 rfl rfl ?_
      refine g_iload_n F (pc' := 30) dX5_canBe_29 rfl rfl ?_
      refine g_callI F K hXc X0 (pc' := 33) (st := [.int (iI (M 1 ((4 * u) + 1)))]) (c5_x l a M d (by omega)) (cwV 1 F.2.2.2.2 gX5_canBe_X5_x rfl rfl rfl (by decide +kernel) ⟨Nat.le_of_ble_eq_true rfl, Nat.le_of_ble_eq_true rfl⟩) rfl rfl rfl rfl (Nat.le_of_ble_eq_true rfl) dX5_canBe_30 rfl (fun z_30 M_30 q_30 => ?_)
      obtain ⟨rfl, mq_30⟩ := q_30
      have mq_30 := mq_30.symm; subst mq_30
      have b_30 := hE ((4 * d) + 1)
      refine g_icmp_ge F (pc' := 36) (tgt := 57) dX5_canBe_33 rfl (by decide) (by omega) (by omega) (fun c_33 => ?_) (fun c_33 => ?_)
      · skip
        refine g_iconst F (pc' := 58) dX5_canBe_57 rfl ?_
        exact lp_58 0 (by first | exact (zC_t (by omega)).symm | exact (zC_f (by omega)).symm)
      · skip
        refine g_aload_n F (pc' := 37) dX5_canBe_36 rfl rfl ?_
        refine g_iload_n F (pc' := 38) dX5_canBe_37 rfl rfl ?_
        refine g_callI F K hXc X0 (pc' := 41) (st := []) (c5_x l a M d (by omega)) (cwV 1 F.2.2.2.2 gX5_canBe_X5_x rfl rfl rfl (by decide +kernel) ⟨Nat.le_of_ble_eq_true rfl, Nat.le_of_ble_eq_true rfl⟩) rfl rfl rfl rfl (Nat.le_of_ble_eq_true rfl) dX5_canBe_38 rfl (fun z_38 M_38 q_38 => ?_)
        obtain ⟨rfl, mq_38⟩ := q_38
        have mq_38 := mq_38.symm; subst mq_38
        have b_38 := hE ((4 * d) + 1)
        refine g_aload_n F (pc' := 42) dX5_canBe_41 rfl rfl ?_
        refine g_iload_n F (pc' := 43) dX5_canBe_42 rfl rfl ?_
        refine g_callI F K hXc X0 (pc' := 46) (st := [.int (iI (M 1 ((4 * d) + 1)))]) (c5_x l a M u (by omega)) (cwV 1 F.2.2.2.2 gX5_canBe_X5_x rfl rfl rfl (by decide +kernel) ⟨Nat.le_of_ble_eq_true rfl, Nat.le_of_ble_eq_true rfl⟩) rfl rfl rfl rfl (Nat.le_of_ble_eq_true rfl) dX5_canBe_43 rfl (fun z_43 M_43 q_43 => ?_)
        obtain ⟨rfl, mq_43⟩ := q_43
        have mq_43 := mq_43.symm; subst mq_43
        have b_43 := hE ((4 * u) + 1)
        refine g_isub F (pc' := 47) dX5_canBe_46 rfl ?_
        refine g_sipush F (pc' := 50) dX5_canBe_47 rfl (by decide +kernel) ?_
        refine g_icmp_gt F (pc' := 53) (tgt := 57) dX5_canBe_50 rfl (by decide) (by omega) (by decide) (fun c_50 => ?_) (fun c_50 => ?_)
        · skip
          refine g_iconst F (pc' := 58) dX5_canBe_57 rfl ?_
          exact lp_58 0 (by first | exact (zC_t (by omega)).symm | exact (zC_f (by omega)).symm)
        · skip
          refine g_iconst F (pc' := 54) dX5_canBe_53 rfl ?_
          refine g_goto F (tgt := 58) dX5_canBe_54 (by decide) ?_
          exact lp_58 1 (by first | exact (zC_t (by omega)).symm | exact (zC_f (by omega)).symm)

theorem iX5_isFree_X5 : ∀ w ∈ wsX50, w ∈ wsX5_isFree := fun _ h => List.mem_cons_of_mem _ (List.mem_append_right _ h)
set_option maxHeartbeats 4000000 in
set_option maxRecDepth 100000 in
theorem c5_isFree (l : Launch) (a : Nat → Nat) (M : Mem) (u d : Int) (hu : 0 ≤ u ∧ u < 16) (hd : 0 ≤ d ∧ d < 16) (hE : ∀ j, 0 ≤ M 1 j ∧ M 1 j ≤ 999) (hn : 0 ≤ M 0 11 ∧ M 0 11 ≤ 8) (hsb : ∀ j, 0 ≤ j → j < M 0 11 → (0 ≤ M 5 j ∧ M 5 j ≤ 999) ∧ (0 ≤ M 6 j ∧ M 6 j ≤ 999) ∧ (0 ≤ M 7 j ∧ M 7 j < 16) ∧ (0 ≤ M 8 j ∧ M 8 j < 16)) : CtI XT l yX5_isFree wsX5_isFree ({ frames := 1, cells := 0, slots := 0, locals := 21 } : Room) LR a M [.ref (a 0), .int (iI u), .int (iI d)] (fun z M' => z = zC (freeR M (M 0 11) u d) ∧ M' = M) := by
  refine CtI.of (y := yX5_isFree) (cc := cX5_isFree) (maxL := 5) (ret := (some .boolean)) (lv := [some (.ref (a 0)), some (.int (iI u)), some (.int (iI d)), none, none]) (by decide) rfl (Nat.le_of_ble_eq_true rfl) (lvOK_of _ _ ⟨rfl, rfl⟩) ?_
  intro p e s m below meth c D T F K X0 hr hlk
  have hXc := XT_c
  have hlt : True := trivial
  refine g_iconst F (pc' := 1) dX5_isFree_0 rfl ?_
  refine g_istore_n F (pc' := 2) (lv' := [some (.ref (a 0)), some (.int (iI u)), some (.int (iI d)), some (.int (iI 1)), none]) dX5_isFree_1 rfl (by decide) rfl ?_
  refine g_iconst F (pc' := 3) dX5_isFree_2 rfl ?_
  refine g_istore F (pc' := 5) (lv' := [some (.ref (a 0)), some (.int (iI u)), some (.int (iI d)), some (.int (iI 1)), some (.int (iI 0))]) dX5_isFree_3 rfl (by decide) rfl ?_
  have lp_5 : ∀ (n_5 : Nat) (fr : Int) (i : Int) (hm_5 : M 0 11 - i < (n_5 : Int)) (h0 : 0 ≤ i) (h1 : i ≤ M 0 11) (hf : fr = zC (freeR M i u d)), GG p l e ({ frames := 1, cells := 0, slots := 0, locals := 21 } : Room) s m ([.ref (a 0), .int (iI u), .int (iI d)].toArray) below meth c (PI D T a LR M (fun z M' => z = zC (freeR M (M 0 11) u d) ∧ M' = M) below ([.ref (a 0), .int (iI u), .int (iI d)].toArray) s) D (AA T a LR M s.heap.size) 5 (wld T a LR M) 5 [some (.ref (a 0)), some (.int (iI u)), some (.int (iI d)), some (.int (iI fr)), some (.int (iI i))] [] := by
    intro n_5
    induction n_5 with
    | zero => intro fr i hm_5 h0 h1 hf; exfalso; omega
    | succ n_5 ih_5 =>
      intro fr i hm_5 h0 h1 hf
      subst hf
      have lp_75 : ∀ (b : Int) (h2 : i < M 0 11) (hb : b = zC (freeR M (i + 1) u d)), GG p l e ({ frames := 1, cells := 0, slots := 0, locals := 21 } : Room) s m ([.ref (a 0), .int (iI u), .int (iI d)].toArray) below meth c (PI D T a LR M (fun z M' => z = zC (freeR M (M 0 11) u d) ∧ M' = M) below ([.ref (a 0), .int (iI u), .int (iI d)].toArray) s) D (AA T a LR M s.heap.size) 5 (wld T a LR M) 75 [some (.ref (a 0)), some (.int (iI u)), some (.int (iI d)), none, some (.int (iI i))] [.int (iI b)] := by
        intro b h2 hb
        subst hb
        refine g_istore_n F (pc' := 76) (lv' := [some (.ref (a 0)), some (.int (iI u)), some (.int (iI d)), some (.int (iI (zC (freeR M (i + 1) u d)))), some (.int (iI i))]) dX5_isFree_75 rfl (by decide) rfl ?_
        refine g_iinc F (pc' := 79) (lv' := [some (.ref (a 0)), some (.int (iI u)), some (.int (iI d)), some (.int (iI (zC (freeR M (i + 1) u d)))), some (.int (iI (i + 1)))]) dX5_isFree_76 rfl rfl (by decide) rfl ?_
        refine g_goto F (tgt := 5) dX5_isFree_79 (by decide) ?_
        exact ih_5 (zC (freeR M (i + 1) u d)) (i + 1) (by omega) (by omega) (by omega) (by first | rfl | exact (zC_t (fun j h1 h2 => by omega)).symm)
      refine g_iload F (pc' := 7) dX5_isFree_5 rfl rfl ?_
      refine g_aload_n F (pc' := 8) dX5_isFree_7 rfl rfl ?_
      refine g_getI F K (k := 0) (fld := 11) (ci := 5) (z := M 0 11) (pc' := 11) iX5_isFree_X5 rfl rfl rfl (by decide) (List.mem_of_getElem? (i := 1) rfl) dX5_isFree_8 rfl (by first | rfl | simp [upf, sc]) ?_
      refine g_icmp_ge F (pc' := 14) (tgt := 82) dX5_isFree_11 rfl (by decide) (by omega) (by omega) (fun c_11 => ?_) (fun c_11 => ?_)
      · skip
        refine g_iload_n F (pc' := 83) dX5_isFree_82 rfl rfl ?_
        exact g_zret F hr hlk dX5_isFree_83 (zC_01 _) (⟨by rw [show M 0 11 = i by omega], rfl⟩)
      · skip
        refine g_iload_n F (pc' := 15) dX5_isFree_14 rfl rfl ?_
        refine g_if_eq F (pc' := 18) (tgt := 74) dX5_isFree_15 rfl (by decide) (zC_R _) (fun c_15 => ?_) (fun c_15 => ?_)
        · skip
          have c_15 := zC_0 c_15
          refine g_iconst F (pc' := 75) dX5_isFree_74 rfl ?_
          refine g_lvw [some (.ref (a 0)), some (.int (iI u)), some (.int (iI d)), none, some (.int (iI i))] (lvw_of _ _ [true, true, true, false, true] rfl) ?_
          exact lp_75 0 (by omega) (by first | exact (zC_t ((freeR_s h0).mpr ⟨c_15, by omega⟩)).symm | exact (zC_f (fun q => by have q2 := (freeR_s h0).mp q; first | exact c_15 q2.1 | (have q3 := q2.2; omega))).symm)
        · skip
          have c_15 := zC_1 c_15
          refine g_aload_n F (pc' := 19) dX5_isFree_18 rfl rfl ?_
          refine g_getR F K (k := 0) (fld := 8) (ci := 5) (q := 7) (pc' := 22) iX5_isFree_X5 rfl rfl rfl (by decide) (List.mem_of_getElem? (i := 2) rfl) dX5_isFree_19 rfl ?_
          refine g_iload F (pc' := 24) dX5_isFree_22 rfl rfl ?_
          refine g_iald F K (k := 7) (v := M 7 i) (pc' := 25) rfl (by decide) (by omega) dX5_isFree_24 rfl (by first | rfl | simp [upf, sc]) ?_
          have b_24 := (hsb i h0 c_11).2.2.1
          refine g_iload_n F (pc' := 26) dX5_isFree_25 rfl rfl ?_
          refine g_icmp_eq F (pc' := 29) (tgt := 74) dX5_isFree_26 rfl (by decide) (by omega) (by omega) (fun c_26 => ?_) (fun c_26 => ?_)
          · skip
            refine g_iconst F (pc' := 75) dX5_isFree_74 rfl ?_
            refine g_lvw [some (.ref (a 0)), some (.int (iI u)), some (.int (iI d)), none, some (.int (iI i))] (lvw_of _ _ [true, true, true, false, true] rfl) ?_
            exact lp_75 0 (by omega) (by first | exact (zC_t ((freeR_s h0).mpr ⟨c_15, by omega⟩)).symm | exact (zC_f (fun q => by have q2 := (freeR_s h0).mp q; first | exact c_15 q2.1 | (have q3 := q2.2; omega))).symm)
          · skip
            refine g_aload_n F (pc' := 30) dX5_isFree_29 rfl rfl ?_
            refine g_getR F K (k := 0) (fld := 9) (ci := 5) (q := 8) (pc' := 33) iX5_isFree_X5 rfl rfl rfl (by decide) (List.mem_of_getElem? (i := 3) rfl) dX5_isFree_30 rfl ?_
            refine g_iload F (pc' := 35) dX5_isFree_33 rfl rfl ?_
            refine g_iald F K (k := 8) (v := M 8 i) (pc' := 36) rfl (by decide) (by omega) dX5_isFree_35 rfl (by first | rfl | simp [upf, sc]) ?_
            have b_35 := (hsb i h0 c_11).2.2.2
            refine g_iload_n F (pc' := 37) dX5_isFree_36 rfl rfl ?_
            refine g_icmp_eq F (pc' := 40) (tgt := 74) dX5_isFree_37 rfl (by decide) (by omega) (by omega) (fun c_37 => ?_) (fun c_37 => ?_)
            · skip
              refine g_iconst F (pc' := 75) dX5_isFree_74 rfl ?_
              refine g_lvw [some (.ref (a 0)), some (.int (iI u)), some (.int (iI d)), none, some (.int (iI i))] (lvw_of _ _ [true, true, true, false, true] rfl) ?_
              exact lp_75 0 (by omega) (by first | exact (zC_t ((freeR_s h0).mpr ⟨c_15, by omega⟩)).symm | exact (zC_f (fun q => by have q2 := (freeR_s h0).mp q; first | exact c_15 q2.1 | (have q3 := q2.2; omega))).symm)
            · skip
              refine g_aload_n F (pc' := 41) dX5_isFree_40 rfl rfl ?_
              refine g_iload_n F (pc' := 42) dX5_isFree_41 rfl rfl ?_
              refine g_callI F K hXc X0 (pc' := 45) (st := []) (c5_x l a M d (by omega)) (cwV 1 F.2.2.2.2 gX5_isFree_X5_x rfl rfl rfl (by decide +kernel) ⟨Nat.le_of_ble_eq_true rfl, Nat.le_of_ble_eq_true rfl⟩) rfl rfl rfl rfl (Nat.le_of_ble_eq_true rfl) dX5_isFree_42 rfl (fun z_42 M_42 q_42 => ?_)
              obtain ⟨rfl, mq_42⟩ := q_42
              have mq_42 := mq_42.symm; subst mq_42
              have b_42 := hE ((4 * d) + 1)
              refine g_aload_n F (pc' := 46) dX5_isFree_45 rfl rfl ?_
              refine g_getR F K (k := 0) (fld := 6) (ci := 5) (q := 5) (pc' := 49) iX5_isFree_X5 rfl rfl rfl (by decide) (List.mem_of_getElem? (i := 4) rfl) dX5_isFree_46 rfl ?_
              refine g_iload F (pc' := 51) dX5_isFree_49 rfl rfl ?_
              refine g_iald F K (k := 5) (v := M 5 i) (pc' := 52) rfl (by decide) (by omega) dX5_isFree_51 rfl (by first | rfl | simp [upf, sc]) ?_
              have b_51 := (hsb i h0 c_11).1
              refine g_icmp_lt F (pc' := 55) (tgt := 70) dX5_isFree_52 rfl (by decide) (by omega) (by omega) (fun c_52 => ?_) (fun c_52 => ?_)
              · skip
                refine g_iconst F (pc' := 71) dX5_isFree_70 rfl ?_
                refine g_goto F (tgt := 75) dX5_isFree_71 (by decide) ?_
                refine g_lvw [some (.ref (a 0)), some (.int (iI u)), some (.int (iI d)), none, some (.int (iI i))] (lvw_of _ _ [true, true, true, false, true] rfl) ?_
                exact lp_75 1 (by omega) (by first | exact (zC_t ((freeR_s h0).mpr ⟨c_15, by omega⟩)).symm | exact (zC_f (fun q => by have q2 := (freeR_s h0).mp q; first | exact c_15 q2.1 | (have q3 := q2.2; omega))).symm)
              · skip
                refine g_aload_n F (pc' := 56) dX5_isFree_55 rfl rfl ?_
                refine g_getR F K (k := 0) (fld := 7) (ci := 5) (q := 6) (pc' := 59) iX5_isFree_X5 rfl rfl rfl (by decide) (List.mem_of_getElem? (i := 5) rfl) dX5_isFree_56 rfl ?_
                refine g_iload F (pc' := 61) dX5_isFree_59 rfl rfl ?_
                refine g_iald F K (k := 6) (v := M 6 i) (pc' := 62) rfl (by decide) (by omega) dX5_isFree_61 rfl (by first | rfl | simp [upf, sc]) ?_
                have b_61 := (hsb i h0 c_11).2.1
                refine g_aload_n F (pc' := 63) dX5_isFree_62 rfl rfl ?_
                refine g_iload_n F (pc' := 64) dX5_isFree_63 rfl rfl ?_
                refine g_callI F K hXc X0 (pc' := 67) (st := [.int (iI (M 6 i))]) (c5_x l a M u (by omega)) (cwV 1 F.2.2.2.2 gX5_isFree_X5_x rfl rfl rfl (by decide +kernel) ⟨Nat.le_of_ble_eq_true rfl, Nat.le_of_ble_eq_true rfl⟩) rfl rfl rfl rfl (Nat.le_of_ble_eq_true rfl) dX5_isFree_64 rfl (fun z_64 M_64 q_64 => ?_)
                obtain ⟨rfl, mq_64⟩ := q_64
                have mq_64 := mq_64.symm; subst mq_64
                have b_64 := hE ((4 * u) + 1)
                refine g_icmp_ge F (pc' := 70) (tgt := 74) dX5_isFree_67 rfl (by decide) (by omega) (by omega) (fun c_67 => ?_) (fun c_67 => ?_)
                · skip
                  refine g_iconst F (pc' := 75) dX5_isFree_74 rfl ?_
                  refine g_lvw [some (.ref (a 0)), some (.int (iI u)), some (.int (iI d)), none, some (.int (iI i))] (lvw_of _ _ [true, true, true, false, true] rfl) ?_
                  exact lp_75 0 (by omega) (by first | exact (zC_t ((freeR_s h0).mpr ⟨c_15, by omega⟩)).symm | exact (zC_f (fun q => by have q2 := (freeR_s h0).mp q; first | exact c_15 q2.1 | (have q3 := q2.2; omega))).symm)
                · skip
                  refine g_iconst F (pc' := 71) dX5_isFree_70 rfl ?_
                  refine g_goto F (tgt := 75) dX5_isFree_71 (by decide) ?_
                  refine g_lvw [some (.ref (a 0)), some (.int (iI u)), some (.int (iI d)), none, some (.int (iI i))] (lvw_of _ _ [true, true, true, false, true] rfl) ?_
                  exact lp_75 1 (by omega) (by first | exact (zC_t ((freeR_s h0).mpr ⟨c_15, by omega⟩)).symm | exact (zC_f (fun q => by have q2 := (freeR_s h0).mp q; first | exact c_15 q2.1 | (have q3 := q2.2; omega))).symm)
  exact lp_5 ((M 0 11 - 0 : Int).toNat + 1) 1 0 (by omega) (by omega) (by omega) (by first | rfl | exact (zC_t (fun j h1 h2 => by omega)).symm)

theorem iX5_counted_X5 : ∀ w ∈ wsX50, w ∈ wsX5_counted := fun _ h => List.mem_cons_of_mem _ (List.mem_append_right _ h)
set_option maxHeartbeats 4000000 in
set_option maxRecDepth 100000 in
theorem c5_counted (l : Launch) (a : Nat → Nat) (M : Mem) (t w : Int) (ht : 0 ≤ t ∧ t ≤ 100000000) (hw : 0 ≤ w ∧ w ≤ 9) (h3 : 0 ≤ M 2 3 ∧ M 2 3 ≤ 3) : CtJ XT l yX5_counted wsX5_counted ({ frames := 0, cells := 0, slots := 0, locals := 0 } : Room) LR a M [.ref (a 0), .long (lI t), .int (iI w)] (fun z M' => z = cntz (M 2 3) t * w ∧ M' = M) := by
  refine CtJ.of (y := yX5_counted) (cc := cX5_counted) (maxL := 4) (ret := (some .long)) (lv := [some (.ref (a 0)), some (.long (lI t)), none, some (.int (iI w))]) (by decide) rfl (Nat.le_of_ble_eq_true rfl) (lvOK_of _ _ ⟨rfl, rfl⟩) ?_
  intro p e s m below meth c D T F K X0 hr hlk
  have hXc := XT_c
  have hdd := sq_R ht
  have htm : Int.tmod (M 2 3) 2 = M 2 3 % 2 := Int.tmod_eq_emod_of_nonneg h3.1
  have htd : Int.tdiv (t * t) 1000 = t * t / 1000 := Int.tdiv_eq_ediv_of_nonneg hdd.1
  refine g_aload_n F (pc' := 1) dX5_counted_0 rfl rfl ?_
  refine g_getR F K (k := 0) (fld := 2) (ci := 5) (q := 2) (pc' := 4) iX5_counted_X5 rfl rfl rfl (by decide) (List.mem_of_getElem? (i := 1) rfl) dX5_counted_1 rfl ?_
  refine g_iconst F (pc' := 5) dX5_counted_4 rfl ?_
  refine g_iald F K (k := 2) (v := M 2 3) (pc' := 6) rfl (by decide) (by decide) dX5_counted_5 rfl (by first | rfl | simp [upf, sc]) ?_
  refine g_iconst F (pc' := 7) dX5_counted_6 rfl ?_
  refine g_irem F (pc' := 8) dX5_counted_7 rfl (by omega) (by decide) (by omega) ?_
  refine g_iconst F (pc' := 9) dX5_counted_8 rfl ?_
  refine g_icmp_ne F (pc' := 12) (tgt := 22) dX5_counted_9 rfl (by decide) (by omega) (by decide) (fun c_9 => ?_) (fun c_9 => ?_)
  · skip
    refine g_lload_n F (pc' := 23) dX5_counted_22 rfl rfl ?_
    refine g_iload_n F (pc' := 24) dX5_counted_23 rfl rfl ?_
    refine g_i2l F (pc' := 25) dX5_counted_24 rfl (by omega) ?_
    refine g_lmul F (pc' := 26) dX5_counted_25 rfl ?_
    exact g_lret F hr hlk dX5_counted_26 (⟨by unfold cntz; first | rw [if_pos (by omega), htd] | rw [if_neg (by omega)], rfl⟩)
  · skip
    refine g_lload_n F (pc' := 13) dX5_counted_12 rfl rfl ?_
    refine g_lload_n F (pc' := 14) dX5_counted_13 rfl rfl ?_
    refine g_lmul F (pc' := 15) dX5_counted_14 rfl ?_
    refine g_ldc2 F (pc' := 18) (z := 1000) dX5_counted_15 rfl (List.mem_of_getElem? (i := 2) rfl) (by decide +kernel) ?_
    refine g_ldiv F (pc' := 19) dX5_counted_18 rfl (by omega) (by decide) (by omega) ?_
    refine g_goto F (tgt := 23) dX5_counted_19 (by decide) ?_
    refine g_iload_n F (pc' := 24) dX5_counted_23 rfl rfl ?_
    refine g_i2l F (pc' := 25) dX5_counted_24 rfl (by omega) ?_
    refine g_lmul F (pc' := 26) dX5_counted_25 rfl ?_
    exact g_lret F hr hlk dX5_counted_26 (⟨by unfold cntz; first | rw [if_pos (by omega), htd] | rw [if_neg (by omega)], rfl⟩)

theorem iX5_both_X5 : ∀ w ∈ wsX50, w ∈ wsX5_both := fun _ h => List.mem_cons_of_mem _ (List.mem_append_right _ h)
set_option maxHeartbeats 4000000 in
set_option maxRecDepth 100000 in
theorem c5_both (l : Launch) (a : Nat → Nat) (M : Mem) (x y : Int) (hx : -9223372036854775808 ≤ x ∧ x < 9223372036854775808) (hy : -9223372036854775808 ≤ y ∧ y < 9223372036854775808) (h3 : 0 ≤ M 2 3 ∧ M 2 3 ≤ 3) : CtJ XT l yX5_both wsX5_both ({ frames := 0, cells := 0, slots := 0, locals := 0 } : Room) LR a M [.ref (a 0), .long (lI x), .long (lI y)] (fun z M' => z = jn (M 2 3) x y ∧ M' = M) := by
  refine CtJ.of (y := yX5_both) (cc := cX5_both) (maxL := 5) (ret := (some .long)) (lv := [some (.ref (a 0)), some (.long (lI x)), none, some (.long (lI y)), none]) (by decide) rfl (Nat.le_of_ble_eq_true rfl) (lvOK_of _ _ ⟨rfl, rfl⟩) ?_
  intro p e s m below meth c D T F K X0 hr hlk
  have hXc := XT_c
  refine g_aload_n F (pc' := 1) dX5_both_0 rfl rfl ?_
  refine g_getR F K (k := 0) (fld := 2) (ci := 5) (q := 2) (pc' := 4) iX5_both_X5 rfl rfl rfl (by decide) (List.mem_of_getElem? (i := 1) rfl) dX5_both_1 rfl ?_
  refine g_iconst F (pc' := 5) dX5_both_4 rfl ?_
  refine g_iald F K (k := 2) (v := M 2 3) (pc' := 6) rfl (by decide) (by decide) dX5_both_5 rfl (by first | rfl | simp [upf, sc]) ?_
  refine g_iconst F (pc' := 7) dX5_both_6 rfl ?_
  refine g_icmp_ge F (pc' := 10) (tgt := 16) dX5_both_7 rfl (by decide) (by omega) (by decide) (fun c_7 => ?_) (fun c_7 => ?_)
  · skip
    refine g_lload_n F (pc' := 17) dX5_both_16 rfl rfl ?_
    refine g_lload_n F (pc' := 18) dX5_both_17 rfl rfl ?_
    refine g_lcmp F (pc' := 19) dX5_both_18 rfl (by omega) (by omega) ?_
    refine g_if_le F (pc' := 22) (tgt := 26) dX5_both_19 rfl (by decide) (cmpz_R _ _) (fun c_19 => ?_) (fun c_19 => ?_)
    · skip
      have c_19 := cmpz_le.mp c_19
      refine g_lload_n F (pc' := 27) dX5_both_26 rfl rfl ?_
      exact g_lret F hr hlk dX5_both_27 (⟨by unfold jn; first | rw [if_pos (by omega)] | (rw [if_neg (by omega)]; omega), rfl⟩)
    · skip
      have c_19 := cmpz_gt.mp c_19
      refine g_lload_n F (pc' := 23) dX5_both_22 rfl rfl ?_
      refine g_goto F (tgt := 27) dX5_both_23 (by decide) ?_
      exact g_lret F hr hlk dX5_both_27 (⟨by unfold jn; first | rw [if_pos (by omega)] | (rw [if_neg (by omega)]; omega), rfl⟩)
  · skip
    refine g_lload_n F (pc' := 11) dX5_both_10 rfl rfl ?_
    refine g_lload_n F (pc' := 12) dX5_both_11 rfl rfl ?_
    refine g_ladd F (pc' := 13) dX5_both_12 rfl ?_
    refine g_goto F (tgt := 27) dX5_both_13 (by decide) ?_
    exact g_lret F hr hlk dX5_both_27 (⟨by unfold jn; first | rw [if_pos (by omega)] | (rw [if_neg (by omega)]; omega), rfl⟩)

theorem iX5_dotsOf_X5 : ∀ w ∈ wsX50, w ∈ wsX5_dotsOf := fun _ h => List.mem_cons_of_mem _ (List.mem_append_right _ h)
set_option maxHeartbeats 4000000 in
set_option maxRecDepth 100000 in
theorem c5_dotsOf (l : Launch) (a : Nat → Nat) (M : Mem) (k sz : Int) (hk : 0 ≤ k ∧ k < 8) (hc : 1 ≤ M 11 k ∧ M 11 k ≤ 8) (hs : 0 ≤ M 13 k ∧ M 13 k ≤ 300 * M 11 k) (hz : 0 ≤ sz ∧ sz ≤ 60) (h4 : 0 ≤ M 2 4 ∧ M 2 4 ≤ 3) : CtI XT l yX5_dotsOf wsX5_dotsOf ({ frames := 0, cells := 0, slots := 0, locals := 0 } : Room) LR a M [.ref (a 0), .int (iI k), .int (iI sz)] (fun z M' => z = dz (M 13 k / M 11 k) sz (M 2 4) ∧ M' = M) := by
  refine CtI.of (y := yX5_dotsOf) (cc := cX5_dotsOf) (maxL := 4) (ret := (some .int)) (lv := [some (.ref (a 0)), some (.int (iI k)), some (.int (iI sz)), none]) (by decide) rfl (Nat.le_of_ble_eq_true rfl) (lvOK_of _ _ ⟨rfl, rfl⟩) ?_
  intro p e s m below meth c D T F K X0 hr hlk
  have hXc := XT_c
  have htd : Int.tdiv (M 13 k) (M 11 k) = M 13 k / M 11 k := Int.tdiv_eq_ediv_of_nonneg hs.1
  have ht := div_R hc.1 hs
  have hm := mul_R ht hz
  have hm2 : (2 * Int.tdiv (M 13 k) (M 11 k)) * sz = 2 * ((M 13 k / M 11 k) * sz) := by rw [htd, Int.mul_assoc]
  have hn0 : Int.tdiv (((2 * Int.tdiv (M 13 k) (M 11 k)) * sz) + 1000) 2000 = ((M 13 k / M 11 k) * sz + 500) / 1000 := by
    rw [Int.tdiv_eq_ediv_of_nonneg (by omega), hm2]; omega
  refine g_iconst F (pc' := 1) dX5_dotsOf_0 rfl ?_
  refine g_aload_n F (pc' := 2) dX5_dotsOf_1 rfl rfl ?_
  refine g_getR F K (k := 0) (fld := 15) (ci := 5) (q := 13) (pc' := 5) iX5_dotsOf_X5 rfl rfl rfl (by decide) (List.mem_of_getElem? (i := 1) rfl) dX5_dotsOf_2 rfl ?_
  refine g_iload_n F (pc' := 6) dX5_dotsOf_5 rfl rfl ?_
  refine g_iald F K (k := 13) (v := M 13 k) (pc' := 7) rfl (by decide) (by omega) dX5_dotsOf_6 rfl (by first | rfl | simp [upf, sc]) ?_
  refine g_aload_n F (pc' := 8) dX5_dotsOf_7 rfl rfl ?_
  refine g_getR F K (k := 0) (fld := 13) (ci := 5) (q := 11) (pc' := 11) iX5_dotsOf_X5 rfl rfl rfl (by decide) (List.mem_of_getElem? (i := 2) rfl) dX5_dotsOf_8 rfl ?_
  refine g_iload_n F (pc' := 12) dX5_dotsOf_11 rfl rfl ?_
  refine g_iald F K (k := 11) (v := M 11 k) (pc' := 13) rfl (by decide) (by omega) dX5_dotsOf_12 rfl (by first | rfl | simp [upf, sc]) ?_
  refine g_idiv F (pc' := 14) dX5_dotsOf_13 rfl (by omega) (by omega) (by omega) ?_
  refine g_imul F (pc' := 15) dX5_dotsOf_14 rfl ?_
  refine g_iload_n F (pc' := 16) dX5_dotsOf_15 rfl rfl ?_
  refine g_imul F (pc' := 17) dX5_dotsOf_16 rfl ?_
  refine g_sipush F (pc' := 20) dX5_dotsOf_17 rfl (by decide +kernel) ?_
  refine g_iadd F (pc' := 21) dX5_dotsOf_20 rfl ?_
  refine g_sipush F (pc' := 24) dX5_dotsOf_21 rfl (by decide +kernel) ?_
  refine g_idiv F (pc' := 25) dX5_dotsOf_24 rfl (by omega) (by decide) (by omega) ?_
  refine g_istore_n F (pc' := 26) (lv' := [some (.ref (a 0)), some (.int (iI k)), some (.int (iI sz)), some (.int (iI (Int.tdiv (((2 * (Int.tdiv (M 13 k) (M 11 k))) * sz) + 1000) 2000)))]) dX5_dotsOf_25 rfl (by decide) rfl ?_
  refine g_iload_n F (pc' := 27) dX5_dotsOf_26 rfl rfl ?_
  refine g_iconst F (pc' := 28) dX5_dotsOf_27 rfl ?_
  refine g_icmp_ge F (pc' := 31) (tgt := 35) dX5_dotsOf_28 rfl (by decide) (by omega) (by decide) (fun c_28 => ?_) (fun c_28 => ?_)
  · skip
    refine g_iload_n F (pc' := 36) dX5_dotsOf_35 rfl rfl ?_
    refine g_aload_n F (pc' := 37) dX5_dotsOf_36 rfl rfl ?_
    refine g_getR F K (k := 0) (fld := 2) (ci := 5) (q := 2) (pc' := 40) iX5_dotsOf_X5 rfl rfl rfl (by decide) (List.mem_of_getElem? (i := 3) rfl) dX5_dotsOf_37 rfl ?_
    refine g_iconst F (pc' := 41) dX5_dotsOf_40 rfl ?_
    refine g_iald F K (k := 2) (v := M 2 4) (pc' := 42) rfl (by decide) (by decide) dX5_dotsOf_41 rfl (by first | rfl | simp [upf, sc]) ?_
    refine g_iadd F (pc' := 43) dX5_dotsOf_42 rfl ?_
    exact g_iret F hr hlk dX5_dotsOf_43 (⟨by unfold dz; omega, rfl⟩)
  · skip
    refine g_iconst F (pc' := 32) dX5_dotsOf_31 rfl ?_
    refine g_goto F (tgt := 36) dX5_dotsOf_32 (by decide) ?_
    refine g_aload_n F (pc' := 37) dX5_dotsOf_36 rfl rfl ?_
    refine g_getR F K (k := 0) (fld := 2) (ci := 5) (q := 2) (pc' := 40) iX5_dotsOf_X5 rfl rfl rfl (by decide) (List.mem_of_getElem? (i := 3) rfl) dX5_dotsOf_37 rfl ?_
    refine g_iconst F (pc' := 41) dX5_dotsOf_40 rfl ?_
    refine g_iald F K (k := 2) (v := M 2 4) (pc' := 42) rfl (by decide) (by decide) dX5_dotsOf_41 rfl (by first | rfl | simp [upf, sc]) ?_
    refine g_iadd F (pc' := 43) dX5_dotsOf_42 rfl ?_
    exact g_iret F hr hlk dX5_dotsOf_43 (⟨by unfold dz; omega, rfl⟩)

theorem iX5_stemDrift_X5 : ∀ w ∈ wsX50, w ∈ wsX5_stemDrift := fun _ h => List.mem_cons_of_mem _ (List.mem_append_right _ h)
set_option maxHeartbeats 4000000 in
set_option maxRecDepth 100000 in
theorem c5_stemDrift (l : Launch) (a : Nat → Nat) (M : Mem) (i t sz : Int) (hi : 0 ≤ i ∧ i < 8) (ht : 0 ≤ t ∧ t ≤ 60) (hz : 0 ≤ sz ∧ sz ≤ 60) (h5 : 0 ≤ M 5 i ∧ M 5 i ≤ 999) (h6 : 0 ≤ M 6 i ∧ M 6 i ≤ 999) (hw : 0 ≤ M 16 i ∧ M 16 i ≤ 60) (h1 : 0 ≤ M 2 1 ∧ M 2 1 ≤ 9) (h3 : 0 ≤ M 2 3 ∧ M 2 3 ≤ 3) : CtJ XT l yX5_stemDrift wsX5_stemDrift ({ frames := 1, cells := 0, slots := 0, locals := 23 } : Room) LR a M [.ref (a 0), .int (iI i), .int (iI t), .int (iI sz)] (fun z M' => z = cntz (M 2 3) (absz (1000 * (2 * t + M 16 i) - (M 5 i + M 6 i) * sz)) * M 2 1 ∧ M' = M) := by
  refine CtJ.of (y := yX5_stemDrift) (cc := cX5_stemDrift) (maxL := 6) (ret := (some .long)) (lv := [some (.ref (a 0)), some (.int (iI i)), some (.int (iI t)), some (.int (iI sz)), none, none]) (by decide) rfl (Nat.le_of_ble_eq_true rfl) (lvOK_of _ _ ⟨rfl, rfl⟩) ?_
  intro p e s m below meth c D T F K X0 hr hlk
  have hXc := XT_c
  have hm := mul_R (A := 1998) (B := 60) (x := M 5 i + M 6 i) (y := sz) (by omega) hz
  refine g_ldc2 F (pc' := 3) (z := 1000) dX5_stemDrift_0 rfl (List.mem_of_getElem? (i := 1) rfl) (by decide +kernel) ?_
  refine g_iconst F (pc' := 4) dX5_stemDrift_3 rfl ?_
  refine g_iload_n F (pc' := 5) dX5_stemDrift_4 rfl rfl ?_
  refine g_imul F (pc' := 6) dX5_stemDrift_5 rfl ?_
  refine g_aload_n F (pc' := 7) dX5_stemDrift_6 rfl rfl ?_
  refine g_getR F K (k := 0) (fld := 19) (ci := 5) (q := 16) (pc' := 10) iX5_stemDrift_X5 rfl rfl rfl (by decide) (List.mem_of_getElem? (i := 2) rfl) dX5_stemDrift_7 rfl ?_
  refine g_iload_n F (pc' := 11) dX5_stemDrift_10 rfl rfl ?_
  refine g_iald F K (k := 16) (v := M 16 i) (pc' := 12) rfl (by decide) (by omega) dX5_stemDrift_11 rfl (by first | rfl | simp [upf, sc]) ?_
  refine g_iadd F (pc' := 13) dX5_stemDrift_12 rfl ?_
  refine g_i2l F (pc' := 14) dX5_stemDrift_13 rfl (by omega) ?_
  refine g_lmul F (pc' := 15) dX5_stemDrift_14 rfl ?_
  refine g_aload_n F (pc' := 16) dX5_stemDrift_15 rfl rfl ?_
  refine g_getR F K (k := 0) (fld := 6) (ci := 5) (q := 5) (pc' := 19) iX5_stemDrift_X5 rfl rfl rfl (by decide) (List.mem_of_getElem? (i := 3) rfl) dX5_stemDrift_16 rfl ?_
  refine g_iload_n F (pc' := 20) dX5_stemDrift_19 rfl rfl ?_
  refine g_iald F K (k := 5) (v := M 5 i) (pc' := 21) rfl (by decide) (by omega) dX5_stemDrift_20 rfl (by first | rfl | simp [upf, sc]) ?_
  refine g_aload_n F (pc' := 22) dX5_stemDrift_21 rfl rfl ?_
  refine g_getR F K (k := 0) (fld := 7) (ci := 5) (q := 6) (pc' := 25) iX5_stemDrift_X5 rfl rfl rfl (by decide) (List.mem_of_getElem? (i := 4) rfl) dX5_stemDrift_22 rfl ?_
  refine g_iload_n F (pc' := 26) dX5_stemDrift_25 rfl rfl ?_
  refine g_iald F K (k := 6) (v := M 6 i) (pc' := 27) rfl (by decide) (by omega) dX5_stemDrift_26 rfl (by first | rfl | simp [upf, sc]) ?_
  refine g_iadd F (pc' := 28) dX5_stemDrift_27 rfl ?_
  refine g_i2l F (pc' := 29) dX5_stemDrift_28 rfl (by omega) ?_
  refine g_iload_n F (pc' := 30) dX5_stemDrift_29 rfl rfl ?_
  refine g_i2l F (pc' := 31) dX5_stemDrift_30 rfl (by omega) ?_
  refine g_lmul F (pc' := 32) dX5_stemDrift_31 rfl ?_
  refine g_lsub F (pc' := 33) dX5_stemDrift_32 rfl ?_
  refine g_lstore F (pc' := 35) (lv' := [some (.ref (a 0)), some (.int (iI i)), some (.int (iI t)), some (.int (iI sz)), some (.long (lI ((1000 * ((2 * t) + (M 16 i))) - (((M 5 i) + (M 6 i)) * sz)))), none]) dX5_stemDrift_33 rfl (by decide) rfl ?_
  refine g_aload_n F (pc' := 36) dX5_stemDrift_35 rfl rfl ?_
  refine g_lload F (pc' := 38) dX5_stemDrift_36 rfl rfl ?_
  refine g_lconst F (pc' := 39) (z := 0) dX5_stemDrift_38 rfl rfl ?_
  refine g_lcmp F (pc' := 40) dX5_stemDrift_39 rfl (by omega) (by decide) ?_
  refine g_if_ge F (pc' := 43) (tgt := 49) dX5_stemDrift_40 rfl (by decide) (cmpz_R _ _) (fun c_40 => ?_) (fun c_40 => ?_)
  · skip
    have c_40 := cmpz_ge.mp c_40
    refine g_lload F (pc' := 51) dX5_stemDrift_49 rfl rfl ?_
    refine g_aload_n F (pc' := 52) dX5_stemDrift_51 rfl rfl ?_
    refine g_getR F K (k := 0) (fld := 2) (ci := 5) (q := 2) (pc' := 55) iX5_stemDrift_X5 rfl rfl rfl (by decide) (List.mem_of_getElem? (i := 5) rfl) dX5_stemDrift_52 rfl ?_
    refine g_iconst F (pc' := 56) dX5_stemDrift_55 rfl ?_
    refine g_iald F K (k := 2) (v := M 2 1) (pc' := 57) rfl (by decide) (by decide) dX5_stemDrift_56 rfl (by first | rfl | simp [upf, sc]) ?_
    refine g_callJ F K hXc X0 (pc' := 60) (st := []) (c5_counted l a M ((1000 * ((2 * t) + (M 16 i))) - (((M 5 i) + (M 6 i)) * sz)) (M 2 1) (by omega) (by omega) (by omega)) (cwV 2 F.2.2.2.2 gX5_stemDrift_X5_counted rfl rfl rfl (by decide +kernel) ⟨Nat.le_of_ble_eq_true rfl, Nat.le_of_ble_eq_true rfl⟩) rfl rfl rfl rfl (Nat.le_of_ble_eq_true rfl) dX5_stemDrift_57 rfl (fun z_57 M_57 q_57 => ?_)
    obtain ⟨rfl, mq_57⟩ := q_57
    have mq_57 := mq_57.symm; subst mq_57
    exact g_lret F hr hlk dX5_stemDrift_60 (⟨by unfold absz; first | rw [if_pos (by omega)] | rw [if_neg (by omega)], rfl⟩)
  · skip
    have c_40 := cmpz_lt.mp c_40
    refine g_lload F (pc' := 45) dX5_stemDrift_43 rfl rfl ?_
    refine g_lneg F (pc' := 46) dX5_stemDrift_45 rfl ?_
    refine g_goto F (tgt := 51) dX5_stemDrift_46 (by decide) ?_
    refine g_aload_n F (pc' := 52) dX5_stemDrift_51 rfl rfl ?_
    refine g_getR F K (k := 0) (fld := 2) (ci := 5) (q := 2) (pc' := 55) iX5_stemDrift_X5 rfl rfl rfl (by decide) (List.mem_of_getElem? (i := 5) rfl) dX5_stemDrift_52 rfl ?_
    refine g_iconst F (pc' := 56) dX5_stemDrift_55 rfl ?_
    refine g_iald F K (k := 2) (v := M 2 1) (pc' := 57) rfl (by decide) (by decide) dX5_stemDrift_56 rfl (by first | rfl | simp [upf, sc]) ?_
    refine g_callJ F K hXc X0 (pc' := 60) (st := []) (c5_counted l a M (-((1000 * ((2 * t) + (M 16 i))) - (((M 5 i) + (M 6 i)) * sz))) (M 2 1) (by omega) (by omega) (by omega)) (cwV 2 F.2.2.2.2 gX5_stemDrift_X5_counted rfl rfl rfl (by decide +kernel) ⟨Nat.le_of_ble_eq_true rfl, Nat.le_of_ble_eq_true rfl⟩) rfl rfl rfl rfl (Nat.le_of_ble_eq_true rfl) dX5_stemDrift_57 rfl (fun z_57 M_57 q_57 => ?_)
    obtain ⟨rfl, mq_57⟩ := q_57
    have mq_57 := mq_57.symm; subst mq_57
    exact g_lret F hr hlk dX5_stemDrift_60 (⟨by unfold absz; first | rw [if_pos (by omega)] | rw [if_neg (by omega)], rfl⟩)

theorem iX5_gapDrift_X5 : ∀ w ∈ wsX50, w ∈ wsX5_gapDrift := fun _ h => List.mem_cons_of_mem _ (List.mem_append_right _ h)
set_option maxHeartbeats 4000000 in
set_option maxRecDepth 100000 in
theorem c5_gapDrift (l : Launch) (a : Nat → Nat) (M : Mem) (i bf t sz : Int) (hi : 1 ≤ i ∧ i < 8) (hb : 0 ≤ bf ∧ bf ≤ 60) (ht : 0 ≤ t ∧ t ≤ 60) (hz : 0 ≤ sz ∧ sz ≤ 60) (h5 : 0 ≤ M 5 i ∧ M 5 i ≤ 999) (h6 : 0 ≤ M 6 (i - 1) ∧ M 6 (i - 1) ≤ 999) (hw : 0 ≤ M 16 (i - 1) ∧ M 16 (i - 1) ≤ 60) (h1 : 0 ≤ M 2 2 ∧ M 2 2 ≤ 9) (h3 : 0 ≤ M 2 3 ∧ M 2 3 ≤ 3) : CtJ XT l yX5_gapDrift wsX5_gapDrift ({ frames := 1, cells := 0, slots := 0, locals := 23 } : Room) LR a M [.ref (a 0), .int (iI i), .int (iI bf), .int (iI t), .int (iI sz)] (fun z M' => z = cntz (M 2 3) (2 * absz (1000 * ((t - bf) - M 16 (i - 1)) - (M 5 i - M 6 (i - 1)) * sz)) * M 2 2 ∧ M' = M) := by
  refine CtJ.of (y := yX5_gapDrift) (cc := cX5_gapDrift) (maxL := 7) (ret := (some .long)) (lv := [some (.ref (a 0)), some (.int (iI i)), some (.int (iI bf)), some (.int (iI t)), some (.int (iI sz)), none, none]) (by decide) rfl (Nat.le_of_ble_eq_true rfl) (lvOK_of _ _ ⟨rfl, rfl⟩) ?_
  intro p e s m below meth c D T F K X0 hr hlk
  have hXc := XT_c
  have hm := mulS_R (x := M 5 i - M 6 (i - 1)) (y := sz) (by omega) hz
  refine g_ldc2 F (pc' := 3) (z := 1000) dX5_gapDrift_0 rfl (List.mem_of_getElem? (i := 1) rfl) (by decide +kernel) ?_
  refine g_iload_n F (pc' := 4) dX5_gapDrift_3 rfl rfl ?_
  refine g_iload_n F (pc' := 5) dX5_gapDrift_4 rfl rfl ?_
  refine g_isub F (pc' := 6) dX5_gapDrift_5 rfl ?_
  refine g_aload_n F (pc' := 7) dX5_gapDrift_6 rfl rfl ?_
  refine g_getR F K (k := 0) (fld := 19) (ci := 5) (q := 16) (pc' := 10) iX5_gapDrift_X5 rfl rfl rfl (by decide) (List.mem_of_getElem? (i := 2) rfl) dX5_gapDrift_7 rfl ?_
  refine g_iload_n F (pc' := 11) dX5_gapDrift_10 rfl rfl ?_
  refine g_iconst F (pc' := 12) dX5_gapDrift_11 rfl ?_
  refine g_isub F (pc' := 13) dX5_gapDrift_12 rfl ?_
  refine g_iald F K (k := 16) (v := M 16 (i - 1)) (pc' := 14) rfl (by decide) (by omega) dX5_gapDrift_13 rfl (by first | rfl | simp [upf, sc]) ?_
  refine g_isub F (pc' := 15) dX5_gapDrift_14 rfl ?_
  refine g_i2l F (pc' := 16) dX5_gapDrift_15 rfl (by omega) ?_
  refine g_lmul F (pc' := 17) dX5_gapDrift_16 rfl ?_
  refine g_aload_n F (pc' := 18) dX5_gapDrift_17 rfl rfl ?_
  refine g_getR F K (k := 0) (fld := 6) (ci := 5) (q := 5) (pc' := 21) iX5_gapDrift_X5 rfl rfl rfl (by decide) (List.mem_of_getElem? (i := 3) rfl) dX5_gapDrift_18 rfl ?_
  refine g_iload_n F (pc' := 22) dX5_gapDrift_21 rfl rfl ?_
  refine g_iald F K (k := 5) (v := M 5 i) (pc' := 23) rfl (by decide) (by omega) dX5_gapDrift_22 rfl (by first | rfl | simp [upf, sc]) ?_
  refine g_aload_n F (pc' := 24) dX5_gapDrift_23 rfl rfl ?_
  refine g_getR F K (k := 0) (fld := 7) (ci := 5) (q := 6) (pc' := 27) iX5_gapDrift_X5 rfl rfl rfl (by decide) (List.mem_of_getElem? (i := 4) rfl) dX5_gapDrift_24 rfl ?_
  refine g_iload_n F (pc' := 28) dX5_gapDrift_27 rfl rfl ?_
  refine g_iconst F (pc' := 29) dX5_gapDrift_28 rfl ?_
  refine g_isub F (pc' := 30) dX5_gapDrift_29 rfl ?_
  refine g_iald F K (k := 6) (v := M 6 (i - 1)) (pc' := 31) rfl (by decide) (by omega) dX5_gapDrift_30 rfl (by first | rfl | simp [upf, sc]) ?_
  refine g_isub F (pc' := 32) dX5_gapDrift_31 rfl ?_
  refine g_i2l F (pc' := 33) dX5_gapDrift_32 rfl (by omega) ?_
  refine g_iload F (pc' := 35) dX5_gapDrift_33 rfl rfl ?_
  refine g_i2l F (pc' := 36) dX5_gapDrift_35 rfl (by omega) ?_
  refine g_lmul F (pc' := 37) dX5_gapDrift_36 rfl ?_
  refine g_lsub F (pc' := 38) dX5_gapDrift_37 rfl ?_
  refine g_lstore F (pc' := 40) (lv' := [some (.ref (a 0)), some (.int (iI i)), some (.int (iI bf)), some (.int (iI t)), some (.int (iI sz)), some (.long (lI ((1000 * ((t - bf) - (M 16 (i - 1)))) - (((M 5 i) - (M 6 (i - 1))) * sz)))), none]) dX5_gapDrift_38 rfl (by decide) rfl ?_
  refine g_aload_n F (pc' := 41) dX5_gapDrift_40 rfl rfl ?_
  refine g_lload F (pc' := 43) dX5_gapDrift_41 rfl rfl ?_
  refine g_lconst F (pc' := 44) (z := 0) dX5_gapDrift_43 rfl rfl ?_
  refine g_lcmp F (pc' := 45) dX5_gapDrift_44 rfl (by omega) (by decide) ?_
  refine g_if_ge F (pc' := 48) (tgt := 57) dX5_gapDrift_45 rfl (by decide) (cmpz_R _ _) (fun c_45 => ?_) (fun c_45 => ?_)
  · skip
    have c_45 := cmpz_ge.mp c_45
    refine g_ldc2 F (pc' := 60) (z := 2) dX5_gapDrift_57 rfl (List.mem_of_getElem? (i := 6) rfl) (by decide +kernel) ?_
    refine g_lload F (pc' := 62) dX5_gapDrift_60 rfl rfl ?_
    refine g_lmul F (pc' := 63) dX5_gapDrift_62 rfl ?_
    refine g_aload_n F (pc' := 64) dX5_gapDrift_63 rfl rfl ?_
    refine g_getR F K (k := 0) (fld := 2) (ci := 5) (q := 2) (pc' := 67) iX5_gapDrift_X5 rfl rfl rfl (by decide) (List.mem_of_getElem? (i := 7) rfl) dX5_gapDrift_64 rfl ?_
    refine g_iconst F (pc' := 68) dX5_gapDrift_67 rfl ?_
    refine g_iald F K (k := 2) (v := M 2 2) (pc' := 69) rfl (by decide) (by decide) dX5_gapDrift_68 rfl (by first | rfl | simp [upf, sc]) ?_
    refine g_callJ F K hXc X0 (pc' := 72) (st := []) (c5_counted l a M (2 * ((1000 * ((t - bf) - (M 16 (i - 1)))) - (((M 5 i) - (M 6 (i - 1))) * sz))) (M 2 2) (by omega) (by omega) (by omega)) (cwV 2 F.2.2.2.2 gX5_gapDrift_X5_counted rfl rfl rfl (by decide +kernel) ⟨Nat.le_of_ble_eq_true rfl, Nat.le_of_ble_eq_true rfl⟩) rfl rfl rfl rfl (Nat.le_of_ble_eq_true rfl) dX5_gapDrift_69 rfl (fun z_69 M_69 q_69 => ?_)
    obtain ⟨rfl, mq_69⟩ := q_69
    have mq_69 := mq_69.symm; subst mq_69
    exact g_lret F hr hlk dX5_gapDrift_72 (⟨by unfold absz; first | rw [if_pos (by omega)] | (rw [if_neg (by omega)]; congr 2; omega), rfl⟩)
  · skip
    have c_45 := cmpz_lt.mp c_45
    refine g_ldc2 F (pc' := 51) (z := (-2)) dX5_gapDrift_48 rfl (List.mem_of_getElem? (i := 5) rfl) (by decide +kernel) ?_
    refine g_lload F (pc' := 53) dX5_gapDrift_51 rfl rfl ?_
    refine g_lmul F (pc' := 54) dX5_gapDrift_53 rfl ?_
    refine g_goto F (tgt := 63) dX5_gapDrift_54 (by decide) ?_
    refine g_aload_n F (pc' := 64) dX5_gapDrift_63 rfl rfl ?_
    refine g_getR F K (k := 0) (fld := 2) (ci := 5) (q := 2) (pc' := 67) iX5_gapDrift_X5 rfl rfl rfl (by decide) (List.mem_of_getElem? (i := 7) rfl) dX5_gapDrift_64 rfl ?_
    refine g_iconst F (pc' := 68) dX5_gapDrift_67 rfl ?_
    refine g_iald F K (k := 2) (v := M 2 2) (pc' := 69) rfl (by decide) (by decide) dX5_gapDrift_68 rfl (by first | rfl | simp [upf, sc]) ?_
    refine g_callJ F K hXc X0 (pc' := 72) (st := []) (c5_counted l a M ((-2) * ((1000 * ((t - bf) - (M 16 (i - 1)))) - (((M 5 i) - (M 6 (i - 1))) * sz))) (M 2 2) (by omega) (by omega) (by omega)) (cwV 2 F.2.2.2.2 gX5_gapDrift_X5_counted rfl rfl rfl (by decide +kernel) ⟨Nat.le_of_ble_eq_true rfl, Nat.le_of_ble_eq_true rfl⟩) rfl rfl rfl rfl (Nat.le_of_ble_eq_true rfl) dX5_gapDrift_69 rfl (fun z_69 M_69 q_69 => ?_)
    obtain ⟨rfl, mq_69⟩ := q_69
    have mq_69 := mq_69.symm; subst mq_69
    exact g_lret F hr hlk dX5_gapDrift_72 (⟨by unfold absz; first | rw [if_pos (by omega)] | (rw [if_neg (by omega)]; congr 2; omega), rfl⟩)
