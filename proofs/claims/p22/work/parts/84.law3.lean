/-! ===== the law: what it asks of stems and classes ===== -/
theorem CI_dz {C : Mem} (hC : CI C) {c sz : Int} (h : 0 ≤ c ∧ c < C 24 6) (hz : 1 ≤ sz ∧ sz ≤ 60) : 1 ≤ dz (C 32 c / C 30 c) sz (C 9 4) ∧ dz (C 32 c / C 30 c) sz (C 9 4) ≤ 21 := by
  have kg := (CI_grp hC).2.2.2.2 c h.1 h.2
  exact dz_R kg.1 kg.2.2.1 hz (CI_rul hC).2.2.2
theorem dots_up {C : Mem} (hC : CI C) {c sz : Int} (h0 : 0 < c) (h : c < C 24 6) (hz : 1 ≤ sz ∧ sz ≤ 60) : dz (C 32 (c - 1) / C 30 (c - 1)) sz (C 9 4) ≤ dz (C 32 c / C 30 c) sz (C 9 4) := by
  obtain ⟨G1, G2, G3, G4, G5⟩ := CI_grp hC
  have a := G5 (c - 1) (by omega) (by omega)
  have b := G5 c (by omega) h
  have g := G3 (c - 1) (by omega) (by omega)
  rw [show c - 1 + 1 = c by omega] at g
  exact dz_st (by omega) (by omega)
theorem had_step {st lw tol bo had sz : Int} (h : lw ≤ st ∧ st ≤ lw + tol) (hl : 1 ≤ lw ∧ lw ≤ 300) (ht : 0 ≤ tol ∧ tol ≤ 99) (hs300 : st ≤ 300) (hh : had = if sz = 1 then 1 else dz st (sz - 1) bo) (hz : 1 ≤ sz) : had = 1 ∧ sz = 1 ∨ (1 < sz ∧ had ≤ dz st sz bo ∧ dz st sz bo ≤ had + 1 ∧ ∀ t, 1 ≤ t → t < sz → dz st t bo ≤ had) := by
  by_cases e : sz = 1
  · rw [if_pos e] at hh
    exact Or.inl ⟨hh, e⟩
  · rw [if_neg e] at hh
    have a := dz_step (st := st) (sz := sz - 1) (bo := bo) (by omega)
    rw [show sz - 1 + 1 = sz by omega] at a
    refine Or.inr ⟨by omega, by omega, by omega, fun t t0 t1 => ?_⟩
    rw [hh]
    exact dz_sz (by omega) (by omega)
section LAWA
variable {p : Program} {l : Launch} {e : Env} {s : State} {m : MethodId} {below : List Frame} {meth : Method} {c : Code} {D : va_G} {T : Nat → ClassId} {a : Nat → Nat} {b nS kc ks : Nat} {xs : Nat → Int32}
set_option maxHeartbeats 4000000 in
set_option maxRecDepth 100000 in
theorem law_s1 (F : CallFix p m c cL_law 19 s #[.ref b] lw_tbl RL) (K : va_K D vwCl (tysT T) s) (X0 : XL b nS xs (fun q : Nat => s.heap.size ≤ q) s s.heap) (hcs : kc ≤ room_1.cells ∧ ks ≤ room_1.slots) (M : Mem) (mk t : Int) (hk : 0 ≤ mk ∧ mk ≤ 12) (hJ : BJ M mk) (kk_106 : KK kc ks p l e room_1 s m #[.ref b] below meth c (lw_Z below #[.ref b] s) D (fun q : Nat => s.heap.size ≤ q) 19 (wld T a LL M) 106 [some (.ref b), some (.int (iI t)), some (.ref (a 0)), some (.ref (a 43)), some (.ref (a 44)), some (.int (iI (M 24 0))), some (.int (iI (M 24 6))), some (.int (iI 0)), some (.int (iI 0)), none, none, none, none, none, none, none, none, none, none] []) : KK kc ks p l e room_1 s m #[.ref b] below meth c (lw_Z below #[.ref b] s) D (fun q : Nat => s.heap.size ≤ q) 19 (wld T a LL M) 43 [some (.ref b), some (.int (iI t)), some (.ref (a 0)), some (.ref (a 43)), some (.ref (a 44)), none, none, none, none, none, none, none, none, none, none, none, none, none, none] [] := by
  have hB := hJ.1
  have hC := hB.1
  have hn := CI_n hC
  have hg := (CI_grp hC).1
  have b4 := hB.2.1
  have b44 := hB.2.2.1
  have r0 := CI_r0 hC
  have td : Int.tdiv mk 2 = mk / 2 := Int.tdiv_eq_ediv_of_nonneg hk.1
  refine k_aload_n F (pc' := 44) dL_law_43 rfl rfl ?_
  refine k_iconst F (pc' := 45) dL_law_44 rfl ?_
  refine k_callI F K (XL_c b nS xs) (fun _ h9 => h9) X0 hcs (pc' := 48) (st := []) (e4_count_2 (X := XL b nS xs) XL_S l a M hC) (cwV 1 F.2.2.2.2 (goodIn_L gL_law_X4_count) rfl rfl rfl (by decide +kernel) ⟨Nat.le_of_ble_eq_true rfl, Nat.le_of_ble_eq_true rfl⟩) rfl rfl rfl rfl (Nat.le_of_ble_eq_true rfl) dL_law_45 rfl (fun z_45 M_45 q_45 => ?_)
  obtain ⟨rfl, mq_45⟩ := q_45
  have mq_45 := mq_45.symm; subst mq_45
  refine k_istore F (pc' := 50) (lv' := [some (.ref b), some (.int (iI t)), some (.ref (a 0)), some (.ref (a 43)), some (.ref (a 44)), some (.int (iI (M 24 0))), none, none, none, none, none, none, none, none, none, none, none, none, none]) dL_law_48 rfl (by decide) rfl ?_
  refine k_aload_n F (pc' := 51) dL_law_50 rfl rfl ?_
  refine k_iconst F (pc' := 52) dL_law_51 rfl ?_
  refine k_callI F K (XL_c b nS xs) (fun _ h9 => h9) X0 hcs (pc' := 55) (st := []) (e4_count_3 (X := XL b nS xs) XL_S l a M hC) (cwV 1 F.2.2.2.2 (goodIn_L gL_law_X4_count) rfl rfl rfl (by decide +kernel) ⟨Nat.le_of_ble_eq_true rfl, Nat.le_of_ble_eq_true rfl⟩) rfl rfl rfl rfl (Nat.le_of_ble_eq_true rfl) dL_law_52 rfl (fun z_52 M_52 q_52 => ?_)
  obtain ⟨rfl, mq_52⟩ := q_52
  have mq_52 := mq_52.symm; subst mq_52
  refine k_istore F (pc' := 57) (lv' := [some (.ref b), some (.int (iI t)), some (.ref (a 0)), some (.ref (a 43)), some (.ref (a 44)), some (.int (iI (M 24 0))), some (.int (iI (M 24 6))), none, none, none, none, none, none, none, none, none, none, none, none]) dL_law_55 rfl (by decide) rfl ?_
  refine k_iconst F (pc' := 58) dL_law_57 rfl ?_
  refine k_istore F (pc' := 60) (lv' := [some (.ref b), some (.int (iI t)), some (.ref (a 0)), some (.ref (a 43)), some (.ref (a 44)), some (.int (iI (M 24 0))), some (.int (iI (M 24 6))), some (.int (iI 0)), none, none, none, none, none, none, none, none, none, none, none]) dL_law_58 rfl (by decide) rfl ?_
  refine k_iconst F (pc' := 61) dL_law_60 rfl ?_
  refine k_istore F (pc' := 63) (lv' := [some (.ref b), some (.int (iI t)), some (.ref (a 0)), some (.ref (a 43)), some (.ref (a 44)), some (.int (iI (M 24 0))), some (.int (iI (M 24 6))), some (.int (iI 0)), some (.int (iI 0)), none, none, none, none, none, none, none, none, none, none]) dL_law_61 rfl (by decide) rfl ?_
  refine k_iload F (pc' := 65) dL_law_63 rfl rfl ?_
  refine k_aload F (pc' := 67) dL_law_65 rfl rfl ?_
  refine k_iconst F (pc' := 68) dL_law_67 rfl ?_
  refine k_iald F K (k := 44) (v := mk) (pc' := 69) rfl (by decide) (by decide) dL_law_68 rfl (by exact b44) ?_
  refine k_iconst F (pc' := 70) dL_law_69 rfl ?_
  refine k_idiv F (pc' := 71) dL_law_70 rfl (by omega) (by decide) (by omega) ?_
  refine k_icmp_gt F (pc' := 74) (tgt := 104) dL_law_71 rfl (by decide) (by omega) (by omega) (fun c_71 => ?_) (fun c_71 => ?_)
  · skip
    exfalso; omega
  · skip
    refine k_iload F (pc' := 76) dL_law_74 rfl rfl ?_
    refine k_iload F (pc' := 78) dL_law_76 rfl rfl ?_
    refine k_icmp_gt F (pc' := 81) (tgt := 104) dL_law_78 rfl (by decide) (by omega) (by omega) (fun c_78 => ?_) (fun c_78 => ?_)
    · skip
      exfalso; omega
    · skip
      refine k_iload F (pc' := 83) dL_law_81 rfl rfl ?_
      refine k_if_ne F (pc' := 86) (tgt := 90) dL_law_83 rfl (by decide) (by omega) (fun c_83 => ?_) (fun c_83 => ?_)
      · skip
        refine k_iconst F (pc' := 91) dL_law_90 rfl ?_
        refine k_iload F (pc' := 93) dL_law_91 rfl rfl ?_
        refine k_if_ne F (pc' := 96) (tgt := 100) dL_law_93 rfl (by decide) (by omega) (fun c_93 => ?_) (fun c_93 => ?_)
        · skip
          refine k_iconst F (pc' := 101) dL_law_100 rfl ?_
          refine k_icmp_eq F (pc' := 104) (tgt := 106) dL_law_101 rfl (by decide) (by decide) (by decide) (fun c_101 => ?_) (fun c_101 => ?_)
          · skip
            exact kk_106  
          · skip
            exact absurd c_101 (by decide)
        · skip
          refine k_iconst F (pc' := 97) dL_law_96 rfl ?_
          refine k_goto F (tgt := 101) dL_law_97 (by decide) ?_
          refine k_icmp_eq F (pc' := 104) (tgt := 106) dL_law_101 rfl (by decide) (by decide) (by decide) (fun c_101 => ?_) (fun c_101 => ?_)
          · skip
            exact absurd c_101 (by decide)
          · skip
            exfalso; omega
      · skip
        refine k_iconst F (pc' := 87) dL_law_86 rfl ?_
        refine k_goto F (tgt := 91) dL_law_87 (by decide) ?_
        refine k_iload F (pc' := 93) dL_law_91 rfl rfl ?_
        refine k_if_ne F (pc' := 96) (tgt := 100) dL_law_93 rfl (by decide) (by omega) (fun c_93 => ?_) (fun c_93 => ?_)
        · skip
          refine k_iconst F (pc' := 101) dL_law_100 rfl ?_
          refine k_icmp_eq F (pc' := 104) (tgt := 106) dL_law_101 rfl (by decide) (by decide) (by decide) (fun c_101 => ?_) (fun c_101 => ?_)
          · skip
            exact absurd c_101 (by decide)
          · skip
            exfalso; omega
        · skip
          refine k_iconst F (pc' := 97) dL_law_96 rfl ?_
          refine k_goto F (tgt := 101) dL_law_97 (by decide) ?_
          refine k_icmp_eq F (pc' := 104) (tgt := 106) dL_law_101 rfl (by decide) (by decide) (by decide) (fun c_101 => ?_) (fun c_101 => ?_)
          · skip
            exact kk_106  
          · skip
            exact absurd c_101 (by decide)

set_option maxHeartbeats 4000000 in
set_option maxRecDepth 100000 in
theorem law_s2 (F : CallFix p m c cL_law 19 s #[.ref b] lw_tbl RL) (K : va_K D vwCl (tysT T) s) (X0 : XL b nS xs (fun q : Nat => s.heap.size ≤ q) s s.heap) (hcs : kc ≤ room_1.cells ∧ ks ≤ room_1.slots) (M : Mem) (mk t : Int) (hk : 0 ≤ mk ∧ mk ≤ 12) (hJ : BJ M mk) (kk_422 : ∀ (u : Int) (hu : -2147483648 ≤ u ∧ u < 2147483648) (hU : Ub M u (M 24 0)), KK kc ks p l e room_1 s m #[.ref b] below meth c (lw_Z below #[.ref b] s) D (fun q : Nat => s.heap.size ≤ q) 19 (wld T a LL M) 422 [some (.ref b), some (.int (iI t)), some (.ref (a 0)), some (.ref (a 43)), some (.ref (a 44)), some (.int (iI (M 24 0))), some (.int (iI (M 24 6))), some (.int (iI u)), some (.int (iI 0)), none, none, none, none, none, none, none, none, none, none] []) : KK kc ks p l e room_1 s m #[.ref b] below meth c (lw_Z below #[.ref b] s) D (fun q : Nat => s.heap.size ≤ q) 19 (wld T a LL M) 106 [some (.ref b), some (.int (iI t)), some (.ref (a 0)), some (.ref (a 43)), some (.ref (a 44)), some (.int (iI (M 24 0))), some (.int (iI (M 24 6))), some (.int (iI 0)), some (.int (iI 0)), none, none, none, none, none, none, none, none, none, none] [] := by
  have hB := hJ.1
  have hC := hB.1
  have hn := CI_n hC
  have hg := (CI_grp hC).1
  have b4 := hB.2.1
  have b44 := hB.2.2.1
  have r0 := CI_r0 hC
  have hm1 : M 44 1 = M 9 0 := (hB.2.2.2 0 (by decide) (by decide)).symm
  refine k_iconst F (pc' := 107) dL_law_106 rfl ?_
  refine k_istore F (pc' := 109) (lv' := [some (.ref b), some (.int (iI t)), some (.ref (a 0)), some (.ref (a 43)), some (.ref (a 44)), some (.int (iI (M 24 0))), some (.int (iI (M 24 6))), some (.int (iI 0)), some (.int (iI 0)), some (.int (iI 0)), none, none, none, none, none, none, none, none, none]) dL_law_107 rfl (by decide) rfl ?_
  have lp_109 : ∀ (n_109 : Nat) (i : Int) (u : Int) (hm_109 : M 24 0 - i < (n_109 : Int)) (hi : 0 ≤ i ∧ i ≤ M 24 0) (hu : -2147483648 ≤ u ∧ u < 2147483648) (hU : Ub M u i), KK kc ks p l e room_1 s m #[.ref b] below meth c (lw_Z below #[.ref b] s) D (fun q : Nat => s.heap.size ≤ q) 19 (wld T a LL M) 109 [some (.ref b), some (.int (iI t)), some (.ref (a 0)), some (.ref (a 43)), some (.ref (a 44)), some (.int (iI (M 24 0))), some (.int (iI (M 24 6))), some (.int (iI u)), some (.int (iI 0)), some (.int (iI i)), none, none, none, none, none, none, none, none, none] [] := by
    intro n_109
    induction n_109 with
    | zero => intro i u hm_109 hi hu hU; exfalso; omega
    | succ n_109 ih_109 =>
      intro i u hm_109 hi hu hU
      refine k_iload F (pc' := 111) dL_law_109 rfl rfl ?_
      refine k_iload F (pc' := 113) dL_law_111 rfl rfl ?_
      refine k_icmp_ge F (pc' := 116) (tgt := 422) dL_law_113 rfl (by decide) (by omega) (by omega) (fun c_113 => ?_) (fun c_113 => ?_)
      · skip
        refine k_lvw [some (.ref b), some (.int (iI t)), some (.ref (a 0)), some (.ref (a 43)), some (.ref (a 44)), some (.int (iI (M 24 0))), some (.int (iI (M 24 6))), some (.int (iI u)), some (.int (iI 0)), none, none, none, none, none, none, none, none, none, none] (lvw_of _ _ [true, true, true, true, true, true, true, true, true, false, false, false, false, false, false, false, false, false, false] rfl) ?_
        exact kk_422 u (hu) (by rw [show M 24 0 = i by omega]; exact hU)
      · skip
        have S := CI_stem hC (j := i) hi.1 (by omega)
        obtain ⟨s1, s2, s3⟩ := S
        have fr := CI_free hC (i := i) hi.1 (by omega)
        have u1 := hU (M 27 i) (by omega) (by omega)
        have u2 := hU (M 28 i) (by omega) (by omega)
        rw [zC_f fr.1] at u1
        rw [zC_f fr.2] at u2
        refine k_aload_n F (pc' := 117) dL_law_116 rfl rfl ?_
        refine k_iload F (pc' := 119) dL_law_117 rfl rfl ?_
        refine k_iconst F (pc' := 120) dL_law_119 rfl ?_
        refine k_callI F K (XL_c b nS xs) (fun _ h9 => h9) X0 hcs (pc' := 123) (st := []) (e4_stem_0 (X := XL b nS xs) XL_S l a M i (by omega) hC) (cwV 2 F.2.2.2.2 (goodIn_L gL_law_X4_stem) rfl rfl rfl (by decide +kernel) ⟨Nat.le_of_ble_eq_true rfl, Nat.le_of_ble_eq_true rfl⟩) rfl rfl rfl rfl (Nat.le_of_ble_eq_true rfl) dL_law_120 rfl (fun z_120 M_120 q_120 => ?_)
        obtain ⟨rfl, mq_120⟩ := q_120
        have mq_120 := mq_120.symm; subst mq_120
        have st_120 := (CI_stem hC (j := i) (by omega) (by omega)).1
        refine k_istore F (pc' := 125) (lv' := [some (.ref b), some (.int (iI t)), some (.ref (a 0)), some (.ref (a 43)), some (.ref (a 44)), some (.int (iI (M 24 0))), some (.int (iI (M 24 6))), some (.int (iI u)), some (.int (iI 0)), some (.int (iI i)), some (.int (iI (M 25 i))), none, none, none, none, none, none, none, none]) dL_law_123 rfl (by decide) rfl ?_
        refine k_aload_n F (pc' := 126) dL_law_125 rfl rfl ?_
        refine k_iload F (pc' := 128) dL_law_126 rfl rfl ?_
        refine k_iconst F (pc' := 129) dL_law_128 rfl ?_
        refine k_callI F K (XL_c b nS xs) (fun _ h9 => h9) X0 hcs (pc' := 132) (st := []) (e4_stem_1 (X := XL b nS xs) XL_S l a M i (by omega) hC) (cwV 2 F.2.2.2.2 (goodIn_L gL_law_X4_stem) rfl rfl rfl (by decide +kernel) ⟨Nat.le_of_ble_eq_true rfl, Nat.le_of_ble_eq_true rfl⟩) rfl rfl rfl rfl (Nat.le_of_ble_eq_true rfl) dL_law_129 rfl (fun z_129 M_129 q_129 => ?_)
        obtain ⟨rfl, mq_129⟩ := q_129
        have mq_129 := mq_129.symm; subst mq_129
        have st_129 := (CI_stem hC (j := i) (by omega) (by omega)).1
        refine k_istore F (pc' := 134) (lv' := [some (.ref b), some (.int (iI t)), some (.ref (a 0)), some (.ref (a 43)), some (.ref (a 44)), some (.int (iI (M 24 0))), some (.int (iI (M 24 6))), some (.int (iI u)), some (.int (iI 0)), some (.int (iI i)), some (.int (iI (M 25 i))), some (.int (iI (M 26 i))), none, none, none, none, none, none, none]) dL_law_132 rfl (by decide) rfl ?_
        refine k_aload_n F (pc' := 135) dL_law_134 rfl rfl ?_
        refine k_iload F (pc' := 137) dL_law_135 rfl rfl ?_
        refine k_iconst F (pc' := 138) dL_law_137 rfl ?_
        refine k_callI F K (XL_c b nS xs) (fun _ h9 => h9) X0 hcs (pc' := 141) (st := []) (e4_stem_2 (X := XL b nS xs) XL_S l a M i (by omega) hC) (cwV 2 F.2.2.2.2 (goodIn_L gL_law_X4_stem) rfl rfl rfl (by decide +kernel) ⟨Nat.le_of_ble_eq_true rfl, Nat.le_of_ble_eq_true rfl⟩) rfl rfl rfl rfl (Nat.le_of_ble_eq_true rfl) dL_law_138 rfl (fun z_138 M_138 q_138 => ?_)
        obtain ⟨rfl, mq_138⟩ := q_138
        have mq_138 := mq_138.symm; subst mq_138
        have st_138 := (CI_stem hC (j := i) (by omega) (by omega)).1
        refine k_istore F (pc' := 143) (lv' := [some (.ref b), some (.int (iI t)), some (.ref (a 0)), some (.ref (a 43)), some (.ref (a 44)), some (.int (iI (M 24 0))), some (.int (iI (M 24 6))), some (.int (iI u)), some (.int (iI 0)), some (.int (iI i)), some (.int (iI (M 25 i))), some (.int (iI (M 26 i))), some (.int (iI (M 27 i))), none, none, none, none, none, none]) dL_law_141 rfl (by decide) rfl ?_
        refine k_aload_n F (pc' := 144) dL_law_143 rfl rfl ?_
        refine k_iload F (pc' := 146) dL_law_144 rfl rfl ?_
        refine k_iconst F (pc' := 147) dL_law_146 rfl ?_
        refine k_callI F K (XL_c b nS xs) (fun _ h9 => h9) X0 hcs (pc' := 150) (st := []) (e4_stem_3 (X := XL b nS xs) XL_S l a M i (by omega) hC) (cwV 2 F.2.2.2.2 (goodIn_L gL_law_X4_stem) rfl rfl rfl (by decide +kernel) ⟨Nat.le_of_ble_eq_true rfl, Nat.le_of_ble_eq_true rfl⟩) rfl rfl rfl rfl (Nat.le_of_ble_eq_true rfl) dL_law_147 rfl (fun z_147 M_147 q_147 => ?_)
        obtain ⟨rfl, mq_147⟩ := q_147
        have mq_147 := mq_147.symm; subst mq_147
        have st_147 := (CI_stem hC (j := i) (by omega) (by omega)).1
        refine k_istore F (pc' := 152) (lv' := [some (.ref b), some (.int (iI t)), some (.ref (a 0)), some (.ref (a 43)), some (.ref (a 44)), some (.int (iI (M 24 0))), some (.int (iI (M 24 6))), some (.int (iI u)), some (.int (iI 0)), some (.int (iI i)), some (.int (iI (M 25 i))), some (.int (iI (M 26 i))), some (.int (iI (M 27 i))), some (.int (iI (M 28 i))), none, none, none, none, none]) dL_law_150 rfl (by decide) rfl ?_
        refine k_aload_n F (pc' := 153) dL_law_152 rfl rfl ?_
        refine k_iload F (pc' := 155) dL_law_153 rfl rfl ?_
        refine k_iconst F (pc' := 156) dL_law_155 rfl ?_
        refine k_callI F K (XL_c b nS xs) (fun _ h9 => h9) X0 hcs (pc' := 159) (st := []) (e4_stem_4 (X := XL b nS xs) XL_S l a M i (by omega) hC) (cwV 2 F.2.2.2.2 (goodIn_L gL_law_X4_stem) rfl rfl rfl (by decide +kernel) ⟨Nat.le_of_ble_eq_true rfl, Nat.le_of_ble_eq_true rfl⟩) rfl rfl rfl rfl (Nat.le_of_ble_eq_true rfl) dL_law_156 rfl (fun z_156 M_156 q_156 => ?_)
        obtain ⟨rfl, mq_156⟩ := q_156
        have mq_156 := mq_156.symm; subst mq_156
        have st_156 := (CI_stem hC (j := i) (by omega) (by omega)).1
        refine k_istore F (pc' := 161) (lv' := [some (.ref b), some (.int (iI t)), some (.ref (a 0)), some (.ref (a 43)), some (.ref (a 44)), some (.int (iI (M 24 0))), some (.int (iI (M 24 6))), some (.int (iI u)), some (.int (iI 0)), some (.int (iI i)), some (.int (iI (M 25 i))), some (.int (iI (M 26 i))), some (.int (iI (M 27 i))), some (.int (iI (M 28 i))), some (.int (iI (M 29 i))), none, none, none, none]) dL_law_159 rfl (by decide) rfl ?_
        refine k_iload F (pc' := 163) dL_law_161 rfl rfl ?_
        refine k_iload F (pc' := 165) dL_law_163 rfl rfl ?_
        refine k_icmp_le F (pc' := 168) (tgt := 301) dL_law_165 rfl (by decide) (by omega) (by omega) (fun c_165 => ?_) (fun c_165 => ?_)
        · skip
          exfalso; omega
        · skip
          refine k_iload F (pc' := 170) dL_law_168 rfl rfl ?_
          refine k_iload F (pc' := 172) dL_law_170 rfl rfl ?_
          refine k_sipush F (pc' := 175) dL_law_172 rfl (by decide +kernel) ?_
          refine k_iadd F (pc' := 176) dL_law_175 rfl ?_
          refine k_icmp_gt F (pc' := 179) (tgt := 301) dL_law_176 rfl (by decide) (by omega) (by omega) (fun c_176 => ?_) (fun c_176 => ?_)
          · skip
            exfalso; omega
          · skip
            refine k_iload F (pc' := 181) dL_law_179 rfl rfl ?_
            refine k_if_le F (pc' := 184) (tgt := 198) dL_law_181 rfl (by decide) (by omega) (fun c_181 => ?_) (fun c_181 => ?_)
            · skip
              refine k_aload_n F (pc' := 199) dL_law_198 rfl rfl ?_
              refine k_iload F (pc' := 201) dL_law_199 rfl rfl ?_
              refine k_iconst F (pc' := 202) dL_law_201 rfl ?_
              refine k_callI F K (XL_c b nS xs) (fun _ h9 => h9) X0 hcs (pc' := 205) (st := []) (e4_told_0 (X := XL b nS xs) XL_S l a M (M 27 i) (by omega) hC) (cwV 2 F.2.2.2.2 (goodIn_L gL_law_X4_told) rfl rfl rfl (by decide +kernel) ⟨Nat.le_of_ble_eq_true rfl, Nat.le_of_ble_eq_true rfl⟩) rfl rfl rfl rfl (Nat.le_of_ble_eq_true rfl) dL_law_202 rfl (fun z_202 M_202 q_202 => ?_)
              obtain ⟨rfl, mq_202⟩ := q_202
              have mq_202 := mq_202.symm; subst mq_202
              have ed_202 := CI_edge hC (M 27 i)
              refine k_iconst F (pc' := 206) dL_law_205 rfl ?_
              refine k_icmp_ne F (pc' := 209) (tgt := 301) dL_law_206 rfl (by decide) (by omega) (by decide) (fun c_206 => ?_) (fun c_206 => ?_)
              · skip
                exfalso; omega
              · skip
                refine k_aload_n F (pc' := 210) dL_law_209 rfl rfl ?_
                refine k_iload F (pc' := 212) dL_law_210 rfl rfl ?_
                refine k_iconst F (pc' := 213) dL_law_212 rfl ?_
                refine k_callI F K (XL_c b nS xs) (fun _ h9 => h9) X0 hcs (pc' := 216) (st := []) (e4_told_0 (X := XL b nS xs) XL_S l a M (M 28 i) (by omega) hC) (cwV 2 F.2.2.2.2 (goodIn_L gL_law_X4_told) rfl rfl rfl (by decide +kernel) ⟨Nat.le_of_ble_eq_true rfl, Nat.le_of_ble_eq_true rfl⟩) rfl rfl rfl rfl (Nat.le_of_ble_eq_true rfl) dL_law_213 rfl (fun z_213 M_213 q_213 => ?_)
                obtain ⟨rfl, mq_213⟩ := q_213
                have mq_213 := mq_213.symm; subst mq_213
                have ed_213 := CI_edge hC (M 28 i)
                refine k_if_ne F (pc' := 219) (tgt := 301) dL_law_216 rfl (by decide) (by omega) (fun c_216 => ?_) (fun c_216 => ?_)
                · skip
                  exfalso; omega
                · skip
                  refine k_aload_n F (pc' := 220) dL_law_219 rfl rfl ?_
                  refine k_iload F (pc' := 222) dL_law_220 rfl rfl ?_
                  refine k_iconst F (pc' := 223) dL_law_222 rfl ?_
                  refine k_callI F K (XL_c b nS xs) (fun _ h9 => h9) X0 hcs (pc' := 226) (st := []) (e4_told_1 (X := XL b nS xs) XL_S l a M (M 27 i) (by omega) hC) (cwV 2 F.2.2.2.2 (goodIn_L gL_law_X4_told) rfl rfl rfl (by decide +kernel) ⟨Nat.le_of_ble_eq_true rfl, Nat.le_of_ble_eq_true rfl⟩) rfl rfl rfl rfl (Nat.le_of_ble_eq_true rfl) dL_law_223 rfl (fun z_223 M_223 q_223 => ?_)
                  obtain ⟨rfl, mq_223⟩ := q_223
                  have mq_223 := mq_223.symm; subst mq_223
                  have ed_223 := CI_edge hC (M 27 i)
                  refine k_iload F (pc' := 228) dL_law_226 rfl rfl ?_
                  refine k_icmp_ne F (pc' := 231) (tgt := 301) dL_law_228 rfl (by decide) (by omega) (by omega) (fun c_228 => ?_) (fun c_228 => ?_)
                  · skip
                    exfalso; omega
                  · skip
                    refine k_aload_n F (pc' := 232) dL_law_231 rfl rfl ?_
                    refine k_iload F (pc' := 234) dL_law_232 rfl rfl ?_
                    refine k_iconst F (pc' := 235) dL_law_234 rfl ?_
                    refine k_callI F K (XL_c b nS xs) (fun _ h9 => h9) X0 hcs (pc' := 238) (st := []) (e4_told_1 (X := XL b nS xs) XL_S l a M (M 28 i) (by omega) hC) (cwV 2 F.2.2.2.2 (goodIn_L gL_law_X4_told) rfl rfl rfl (by decide +kernel) ⟨Nat.le_of_ble_eq_true rfl, Nat.le_of_ble_eq_true rfl⟩) rfl rfl rfl rfl (Nat.le_of_ble_eq_true rfl) dL_law_235 rfl (fun z_235 M_235 q_235 => ?_)
                    obtain ⟨rfl, mq_235⟩ := q_235
                    have mq_235 := mq_235.symm; subst mq_235
                    have ed_235 := CI_edge hC (M 28 i)
                    refine k_iload F (pc' := 240) dL_law_238 rfl rfl ?_
                    refine k_icmp_ne F (pc' := 243) (tgt := 301) dL_law_240 rfl (by decide) (by omega) (by omega) (fun c_240 => ?_) (fun c_240 => ?_)
                    · skip
                      exfalso; omega
                    · skip
                      refine k_aload_n F (pc' := 244) dL_law_243 rfl rfl ?_
                      refine k_iload F (pc' := 246) dL_law_244 rfl rfl ?_
                      refine k_iconst F (pc' := 247) dL_law_246 rfl ?_
                      refine k_callI F K (XL_c b nS xs) (fun _ h9 => h9) X0 hcs (pc' := 250) (st := []) (e4_told_4 (X := XL b nS xs) XL_S l a M (M 27 i) (by omega) hC) (cwV 2 F.2.2.2.2 (goodIn_L gL_law_X4_told) rfl rfl rfl (by decide +kernel) ⟨Nat.le_of_ble_eq_true rfl, Nat.le_of_ble_eq_true rfl⟩) rfl rfl rfl rfl (Nat.le_of_ble_eq_true rfl) dL_law_247 rfl (fun z_247 M_247 q_247 => ?_)
                      obtain ⟨we_247, mq_247⟩ := q_247
                      have mq_247 := mq_247.symm; subst mq_247
                      have wr_247 := wedge_R we_247
                      have wz := wedge_of hC we_247 ⟨hi.1, by omega⟩ (Or.inl rfl)
                      refine k_iload F (pc' := 252) dL_law_250 rfl rfl ?_
                      refine k_icmp_ne F (pc' := 255) (tgt := 301) dL_law_252 rfl (by decide) (by omega) (by omega) (fun c_252 => ?_) (fun c_252 => ?_)
                      · skip
                        exfalso; omega
                      · skip
                        refine k_aload_n F (pc' := 256) dL_law_255 rfl rfl ?_
                        refine k_iload F (pc' := 258) dL_law_256 rfl rfl ?_
                        refine k_iconst F (pc' := 259) dL_law_258 rfl ?_
                        refine k_callI F K (XL_c b nS xs) (fun _ h9 => h9) X0 hcs (pc' := 262) (st := []) (e4_told_4 (X := XL b nS xs) XL_S l a M (M 28 i) (by omega) hC) (cwV 2 F.2.2.2.2 (goodIn_L gL_law_X4_told) rfl rfl rfl (by decide +kernel) ⟨Nat.le_of_ble_eq_true rfl, Nat.le_of_ble_eq_true rfl⟩) rfl rfl rfl rfl (Nat.le_of_ble_eq_true rfl) dL_law_259 rfl (fun z_259 M_259 q_259 => ?_)
                        obtain ⟨we_259, mq_259⟩ := q_259
                        have mq_259 := mq_259.symm; subst mq_259
                        have wr_259 := wedge_R we_259
                        have wz2 := wedge_of hC we_259 ⟨hi.1, by omega⟩ (Or.inr rfl)
                        refine k_iload F (pc' := 264) dL_law_262 rfl rfl ?_
                        refine k_icmp_ne F (pc' := 267) (tgt := 301) dL_law_264 rfl (by decide) (by omega) (by omega) (fun c_264 => ?_) (fun c_264 => ?_)
                        · skip
                          exfalso; omega
                        · skip
                          refine k_iload F (pc' := 269) dL_law_267 rfl rfl ?_
                          refine k_if_lt F (pc' := 272) (tgt := 301) dL_law_269 rfl (by decide) (by omega) (fun c_269 => ?_) (fun c_269 => ?_)
                          · skip
                            exfalso; omega
                          · skip
                            refine k_iload F (pc' := 274) dL_law_272 rfl rfl ?_
                            refine k_iload F (pc' := 276) dL_law_274 rfl rfl ?_
                            refine k_icmp_ge F (pc' := 279) (tgt := 301) dL_law_276 rfl (by decide) (by omega) (by omega) (fun c_276 => ?_) (fun c_276 => ?_)
                            · skip
                              exfalso; omega
                            · skip
                              refine k_iload F (pc' := 281) dL_law_279 rfl rfl ?_
                              refine k_iload F (pc' := 283) dL_law_281 rfl rfl ?_
                              refine k_ishr F (pc' := 284) dL_law_283 rfl ?_
                              refine k_iconst F (pc' := 285) dL_law_284 rfl ?_
                              refine k_iand F (pc' := 286) dL_law_285 rfl ?_
                              refine k_iconst F (pc' := 287) dL_law_286 rfl ?_
                              refine k_icmp_eq F (pc' := 290) (tgt := 301) dL_law_287 rfl (by decide) (andZ_R _ _) (by decide) (fun c_287 => ?_) (fun c_287 => ?_)
                              · skip
                                exfalso; omega
                              · skip
                                refine k_iload F (pc' := 292) dL_law_290 rfl rfl ?_
                                refine k_iload F (pc' := 294) dL_law_292 rfl rfl ?_
                                refine k_ishr F (pc' := 295) dL_law_294 rfl ?_
                                refine k_iconst F (pc' := 296) dL_law_295 rfl ?_
                                refine k_iand F (pc' := 297) dL_law_296 rfl ?_
                                refine k_iconst F (pc' := 298) dL_law_297 rfl ?_
                                refine k_icmp_ne F (pc' := 301) (tgt := 303) dL_law_298 rfl (by decide) (andZ_R _ _) (by decide) (fun c_298 => ?_) (fun c_298 => ?_)
                                · skip
                                  refine k_aload_n F (pc' := 304) dL_law_303 rfl rfl ?_
                                  refine k_iload F (pc' := 306) dL_law_304 rfl rfl ?_
                                  refine k_iconst F (pc' := 307) dL_law_306 rfl ?_
                                  refine k_callI F K (XL_c b nS xs) (fun _ h9 => h9) X0 hcs (pc' := 310) (st := []) (e4_told_3 (X := XL b nS xs) XL_S l a M (M 27 i) (by omega) hC) (cwV 2 F.2.2.2.2 (goodIn_L gL_law_X4_told) rfl rfl rfl (by decide +kernel) ⟨Nat.le_of_ble_eq_true rfl, Nat.le_of_ble_eq_true rfl⟩) rfl rfl rfl rfl (Nat.le_of_ble_eq_true rfl) dL_law_307 rfl (fun z_307 M_307 q_307 => ?_)
                                  obtain ⟨rfl, mq_307⟩ := q_307
                                  have mq_307 := mq_307.symm; subst mq_307
                                  have ed_307 := CI_edge hC (M 27 i)
                                  refine k_aload_n F (pc' := 311) dL_law_310 rfl rfl ?_
                                  refine k_iload F (pc' := 313) dL_law_311 rfl rfl ?_
                                  refine k_iconst F (pc' := 314) dL_law_313 rfl ?_
                                  refine k_callI F K (XL_c b nS xs) (fun _ h9 => h9) X0 hcs (pc' := 317) (st := [.int (iI (M 8 (M 27 i)))]) (e4_told_2 (X := XL b nS xs) XL_S l a M (M 28 i) (by omega) hC) (cwV 2 F.2.2.2.2 (goodIn_L gL_law_X4_told) rfl rfl rfl (by decide +kernel) ⟨Nat.le_of_ble_eq_true rfl, Nat.le_of_ble_eq_true rfl⟩) rfl rfl rfl rfl (Nat.le_of_ble_eq_true rfl) dL_law_314 rfl (fun z_314 M_314 q_314 => ?_)
                                  obtain ⟨rfl, mq_314⟩ := q_314
                                  have mq_314 := mq_314.symm; subst mq_314
                                  have ed_314 := CI_edge hC (M 28 i)
                                  refine k_icmp_le F (pc' := 320) (tgt := 337) dL_law_317 rfl (by decide) (by omega) (by omega) (fun c_317 => ?_) (fun c_317 => ?_)
                                  · skip
                                    exfalso; omega
                                  · skip
                                    refine k_aload_n F (pc' := 321) dL_law_320 rfl rfl ?_
                                    refine k_iload F (pc' := 323) dL_law_321 rfl rfl ?_
                                    refine k_iconst F (pc' := 324) dL_law_323 rfl ?_
                                    refine k_callI F K (XL_c b nS xs) (fun _ h9 => h9) X0 hcs (pc' := 327) (st := []) (e4_told_3 (X := XL b nS xs) XL_S l a M (M 28 i) (by omega) hC) (cwV 2 F.2.2.2.2 (goodIn_L gL_law_X4_told) rfl rfl rfl (by decide +kernel) ⟨Nat.le_of_ble_eq_true rfl, Nat.le_of_ble_eq_true rfl⟩) rfl rfl rfl rfl (Nat.le_of_ble_eq_true rfl) dL_law_324 rfl (fun z_324 M_324 q_324 => ?_)
                                    obtain ⟨rfl, mq_324⟩ := q_324
                                    have mq_324 := mq_324.symm; subst mq_324
                                    have ed_324 := CI_edge hC (M 28 i)
                                    refine k_aload_n F (pc' := 328) dL_law_327 rfl rfl ?_
                                    refine k_iload F (pc' := 330) dL_law_328 rfl rfl ?_
                                    refine k_iconst F (pc' := 331) dL_law_330 rfl ?_
                                    refine k_callI F K (XL_c b nS xs) (fun _ h9 => h9) X0 hcs (pc' := 334) (st := [.int (iI (M 8 (M 28 i)))]) (e4_told_2 (X := XL b nS xs) XL_S l a M (M 27 i) (by omega) hC) (cwV 2 F.2.2.2.2 (goodIn_L gL_law_X4_told) rfl rfl rfl (by decide +kernel) ⟨Nat.le_of_ble_eq_true rfl, Nat.le_of_ble_eq_true rfl⟩) rfl rfl rfl rfl (Nat.le_of_ble_eq_true rfl) dL_law_331 rfl (fun z_331 M_331 q_331 => ?_)
                                    obtain ⟨rfl, mq_331⟩ := q_331
                                    have mq_331 := mq_331.symm; subst mq_331
                                    have ed_331 := CI_edge hC (M 27 i)
                                    refine k_icmp_gt F (pc' := 337) (tgt := 339) dL_law_334 rfl (by decide) (by omega) (by omega) (fun c_334 => ?_) (fun c_334 => ?_)
                                    · skip
                                      refine k_iload F (pc' := 341) dL_law_339 rfl rfl ?_
                                      refine k_iconst F (pc' := 342) dL_law_341 rfl ?_
                                      refine k_iload F (pc' := 344) dL_law_342 rfl rfl ?_
                                      refine k_ishl F (pc' := 345) dL_law_344 rfl ?_
                                      refine k_iconst F (pc' := 346) dL_law_345 rfl ?_
                                      refine k_iload F (pc' := 348) dL_law_346 rfl rfl ?_
                                      refine k_ishl F (pc' := 349) dL_law_348 rfl ?_
                                      refine k_ior F (pc' := 350) dL_law_349 rfl ?_
                                      refine k_ior F (pc' := 351) dL_law_350 rfl ?_
                                      refine k_istore F (pc' := 353) (lv' := [some (.ref b), some (.int (iI t)), some (.ref (a 0)), some (.ref (a 43)), some (.ref (a 44)), some (.int (iI (M 24 0))), some (.int (iI (M 24 6))), some (.int (iI (orZ u (orZ (shlZ 1 (M 27 i)) (shlZ 1 (M 28 i)))))), some (.int (iI 0)), some (.int (iI i)), some (.int (iI (M 25 i))), some (.int (iI (M 26 i))), some (.int (iI (M 27 i))), some (.int (iI (M 28 i))), some (.int (iI (M 29 i))), none, none, none, none]) dL_law_351 rfl (by decide) rfl ?_
                                      refine k_iload F (pc' := 355) dL_law_353 rfl rfl ?_
                                      refine k_iload F (pc' := 357) dL_law_355 rfl rfl ?_
                                      refine k_isub F (pc' := 358) dL_law_357 rfl ?_
                                      refine k_aload_n F (pc' := 359) dL_law_358 rfl rfl ?_
                                      refine k_iload F (pc' := 361) dL_law_359 rfl rfl ?_
                                      refine k_iconst F (pc' := 362) dL_law_361 rfl ?_
                                      refine k_callI F K (XL_c b nS xs) (fun _ h9 => h9) X0 hcs (pc' := 365) (st := [.int (iI ((M 26 i) - (M 25 i)))]) (e4_kind_1 (X := XL b nS xs) XL_S l a M (M 29 i) (by omega) hC) (cwV 2 F.2.2.2.2 (goodIn_L gL_law_X4_kind) rfl rfl rfl (by decide +kernel) ⟨Nat.le_of_ble_eq_true rfl, Nat.le_of_ble_eq_true rfl⟩) rfl rfl rfl rfl (Nat.le_of_ble_eq_true rfl) dL_law_362 rfl (fun z_362 M_362 q_362 => ?_)
                                      obtain ⟨rfl, mq_362⟩ := q_362
                                      have mq_362 := mq_362.symm; subst mq_362
                                      have kd_362 := (CI_grp hC).2.2.2.2 (M 29 i) (by omega) (by omega)
                                      refine k_icmp_lt F (pc' := 368) (tgt := 414) dL_law_365 rfl (by decide) (by omega) (by omega) (fun c_365 => ?_) (fun c_365 => ?_)
                                      · skip
                                        exfalso; omega
                                      · skip
                                        refine k_iload F (pc' := 370) dL_law_368 rfl rfl ?_
                                        refine k_iload F (pc' := 372) dL_law_370 rfl rfl ?_
                                        refine k_isub F (pc' := 373) dL_law_372 rfl ?_
                                        refine k_aload_n F (pc' := 374) dL_law_373 rfl rfl ?_
                                        refine k_iload F (pc' := 376) dL_law_374 rfl rfl ?_
                                        refine k_iconst F (pc' := 377) dL_law_376 rfl ?_
                                        refine k_callI F K (XL_c b nS xs) (fun _ h9 => h9) X0 hcs (pc' := 380) (st := [.int (iI ((M 26 i) - (M 25 i)))]) (e4_kind_1 (X := XL b nS xs) XL_S l a M (M 29 i) (by omega) hC) (cwV 2 F.2.2.2.2 (goodIn_L gL_law_X4_kind) rfl rfl rfl (by decide +kernel) ⟨Nat.le_of_ble_eq_true rfl, Nat.le_of_ble_eq_true rfl⟩) rfl rfl rfl rfl (Nat.le_of_ble_eq_true rfl) dL_law_377 rfl (fun z_377 M_377 q_377 => ?_)
                                        obtain ⟨rfl, mq_377⟩ := q_377
                                        have mq_377 := mq_377.symm; subst mq_377
                                        have kd_377 := (CI_grp hC).2.2.2.2 (M 29 i) (by omega) (by omega)
                                        refine k_aload F (pc' := 382) dL_law_380 rfl rfl ?_
                                        refine k_iconst F (pc' := 383) dL_law_382 rfl ?_
                                        refine k_iald F K (k := 44) (v := M 9 0) (pc' := 384) rfl (by decide) (by decide) dL_law_383 rfl (by exact hm1) ?_
                                        refine k_iadd F (pc' := 385) dL_law_384 rfl ?_
                                        refine k_icmp_gt F (pc' := 388) (tgt := 414) dL_law_385 rfl (by decide) (by omega) (by omega) (fun c_385 => ?_) (fun c_385 => ?_)
                                        · skip
                                          exfalso; omega
                                        · skip
                                          refine k_iload F (pc' := 390) dL_law_388 rfl rfl ?_
                                          refine k_iconst F (pc' := 391) dL_law_390 rfl ?_
                                          refine k_iadd F (pc' := 392) dL_law_391 rfl ?_
                                          refine k_iload F (pc' := 394) dL_law_392 rfl rfl ?_
                                          refine k_icmp_ge F (pc' := 397) (tgt := 416) dL_law_394 rfl (by decide) (by omega) (by omega) (fun c_394 => ?_) (fun c_394 => ?_)
                                          · skip
                                            refine k_iinc F (pc' := 419) (lv' := [some (.ref b), some (.int (iI t)), some (.ref (a 0)), some (.ref (a 43)), some (.ref (a 44)), some (.int (iI (M 24 0))), some (.int (iI (M 24 6))), some (.int (iI (orZ u (orZ (shlZ 1 (M 27 i)) (shlZ 1 (M 28 i)))))), some (.int (iI 0)), some (.int (iI (i + 1))), some (.int (iI (M 25 i))), some (.int (iI (M 26 i))), some (.int (iI (M 27 i))), some (.int (iI (M 28 i))), some (.int (iI (M 29 i))), none, none, none, none]) dL_law_416 rfl rfl (by decide) rfl ?_
                                            refine k_goto F (tgt := 109) dL_law_419 (by decide) ?_
                                            refine k_lvw [some (.ref b), some (.int (iI t)), some (.ref (a 0)), some (.ref (a 43)), some (.ref (a 44)), some (.int (iI (M 24 0))), some (.int (iI (M 24 6))), some (.int (iI (orZ u (orZ (shlZ 1 (M 27 i)) (shlZ 1 (M 28 i)))))), some (.int (iI 0)), some (.int (iI (i + 1))), none, none, none, none, none, none, none, none, none] (lvw_of _ _ [true, true, true, true, true, true, true, true, true, true, false, false, false, false, false, false, false, false, false] rfl) ?_
                                            exact ih_109 (i + 1) (orZ u (orZ (shlZ 1 (M 27 i)) (shlZ 1 (M 28 i)))) (by omega) (by omega) (orZ_R _ _) (Ub_s hU hi.1 (by omega) (by omega))
                                          · skip
                                            refine k_iload F (pc' := 399) dL_law_397 rfl rfl ?_
                                            refine k_iload F (pc' := 401) dL_law_399 rfl rfl ?_
                                            refine k_isub F (pc' := 402) dL_law_401 rfl ?_
                                            refine k_aload_n F (pc' := 403) dL_law_402 rfl rfl ?_
                                            refine k_iload F (pc' := 405) dL_law_403 rfl rfl ?_
                                            refine k_iconst F (pc' := 406) dL_law_405 rfl ?_
                                            refine k_iadd F (pc' := 407) dL_law_406 rfl ?_
                                            refine k_iconst F (pc' := 408) dL_law_407 rfl ?_
                                            refine k_callI F K (XL_c b nS xs) (fun _ h9 => h9) X0 hcs (pc' := 411) (st := [.int (iI ((M 26 i) - (M 25 i)))]) (e4_kind_1 (X := XL b nS xs) XL_S l a M ((M 29 i) + 1) (by omega) hC) (cwV 2 F.2.2.2.2 (goodIn_L gL_law_X4_kind) rfl rfl rfl (by decide +kernel) ⟨Nat.le_of_ble_eq_true rfl, Nat.le_of_ble_eq_true rfl⟩) rfl rfl rfl rfl (Nat.le_of_ble_eq_true rfl) dL_law_408 rfl (fun z_408 M_408 q_408 => ?_)
                                            obtain ⟨rfl, mq_408⟩ := q_408
                                            have mq_408 := mq_408.symm; subst mq_408
                                            have kd_408 := (CI_grp hC).2.2.2.2 ((M 29 i) + 1) (by omega) (by omega)
                                            refine k_icmp_lt F (pc' := 414) (tgt := 416) dL_law_411 rfl (by decide) (by omega) (by omega) (fun c_411 => ?_) (fun c_411 => ?_)
                                            · skip
                                              refine k_iinc F (pc' := 419) (lv' := [some (.ref b), some (.int (iI t)), some (.ref (a 0)), some (.ref (a 43)), some (.ref (a 44)), some (.int (iI (M 24 0))), some (.int (iI (M 24 6))), some (.int (iI (orZ u (orZ (shlZ 1 (M 27 i)) (shlZ 1 (M 28 i)))))), some (.int (iI 0)), some (.int (iI (i + 1))), some (.int (iI (M 25 i))), some (.int (iI (M 26 i))), some (.int (iI (M 27 i))), some (.int (iI (M 28 i))), some (.int (iI (M 29 i))), none, none, none, none]) dL_law_416 rfl rfl (by decide) rfl ?_
                                              refine k_goto F (tgt := 109) dL_law_419 (by decide) ?_
                                              refine k_lvw [some (.ref b), some (.int (iI t)), some (.ref (a 0)), some (.ref (a 43)), some (.ref (a 44)), some (.int (iI (M 24 0))), some (.int (iI (M 24 6))), some (.int (iI (orZ u (orZ (shlZ 1 (M 27 i)) (shlZ 1 (M 28 i)))))), some (.int (iI 0)), some (.int (iI (i + 1))), none, none, none, none, none, none, none, none, none] (lvw_of _ _ [true, true, true, true, true, true, true, true, true, true, false, false, false, false, false, false, false, false, false] rfl) ?_
                                              exact ih_109 (i + 1) (orZ u (orZ (shlZ 1 (M 27 i)) (shlZ 1 (M 28 i)))) (by omega) (by omega) (orZ_R _ _) (Ub_s hU hi.1 (by omega) (by omega))
                                            · skip
                                              exfalso; have := s3.2.2 (by omega); omega
                                    · skip
                                      exfalso; omega
                                · skip
                                  exfalso; omega
            · skip
              refine k_iload F (pc' := 186) dL_law_184 rfl rfl ?_
              refine k_aload_n F (pc' := 187) dL_law_186 rfl rfl ?_
              refine k_iload F (pc' := 189) dL_law_187 rfl rfl ?_
              refine k_iconst F (pc' := 190) dL_law_189 rfl ?_
              refine k_isub F (pc' := 191) dL_law_190 rfl ?_
              refine k_iconst F (pc' := 192) dL_law_191 rfl ?_
              refine k_callI F K (XL_c b nS xs) (fun _ h9 => h9) X0 hcs (pc' := 195) (st := [.int (iI (M 25 i))]) (e4_stem_1 (X := XL b nS xs) XL_S l a M (i - 1) (by omega) hC) (cwV 2 F.2.2.2.2 (goodIn_L gL_law_X4_stem) rfl rfl rfl (by decide +kernel) ⟨Nat.le_of_ble_eq_true rfl, Nat.le_of_ble_eq_true rfl⟩) rfl rfl rfl rfl (Nat.le_of_ble_eq_true rfl) dL_law_192 rfl (fun z_192 M_192 q_192 => ?_)
              obtain ⟨rfl, mq_192⟩ := q_192
              have mq_192 := mq_192.symm; subst mq_192
              have st_192 := (CI_stem hC (j := i - 1) (by omega) (by omega)).1
              have ap := CI_apart hC (i := i - 1) (j := i) (by omega) (by omega) (by omega)
              refine k_icmp_le F (pc' := 198) (tgt := 301) dL_law_195 rfl (by decide) (by omega) (by omega) (fun c_195 => ?_) (fun c_195 => ?_)
              · skip
                exfalso; omega
              · skip
                refine k_aload_n F (pc' := 199) dL_law_198 rfl rfl ?_
                refine k_iload F (pc' := 201) dL_law_199 rfl rfl ?_
                refine k_iconst F (pc' := 202) dL_law_201 rfl ?_
                refine k_callI F K (XL_c b nS xs) (fun _ h9 => h9) X0 hcs (pc' := 205) (st := []) (e4_told_0 (X := XL b nS xs) XL_S l a M (M 27 i) (by omega) hC) (cwV 2 F.2.2.2.2 (goodIn_L gL_law_X4_told) rfl rfl rfl (by decide +kernel) ⟨Nat.le_of_ble_eq_true rfl, Nat.le_of_ble_eq_true rfl⟩) rfl rfl rfl rfl (Nat.le_of_ble_eq_true rfl) dL_law_202 rfl (fun z_202 M_202 q_202 => ?_)
                obtain ⟨rfl, mq_202⟩ := q_202
                have mq_202 := mq_202.symm; subst mq_202
                have ed_202 := CI_edge hC (M 27 i)
                refine k_iconst F (pc' := 206) dL_law_205 rfl ?_
                refine k_icmp_ne F (pc' := 209) (tgt := 301) dL_law_206 rfl (by decide) (by omega) (by decide) (fun c_206 => ?_) (fun c_206 => ?_)
                · skip
                  exfalso; omega
                · skip
                  refine k_aload_n F (pc' := 210) dL_law_209 rfl rfl ?_
                  refine k_iload F (pc' := 212) dL_law_210 rfl rfl ?_
                  refine k_iconst F (pc' := 213) dL_law_212 rfl ?_
                  refine k_callI F K (XL_c b nS xs) (fun _ h9 => h9) X0 hcs (pc' := 216) (st := []) (e4_told_0 (X := XL b nS xs) XL_S l a M (M 28 i) (by omega) hC) (cwV 2 F.2.2.2.2 (goodIn_L gL_law_X4_told) rfl rfl rfl (by decide +kernel) ⟨Nat.le_of_ble_eq_true rfl, Nat.le_of_ble_eq_true rfl⟩) rfl rfl rfl rfl (Nat.le_of_ble_eq_true rfl) dL_law_213 rfl (fun z_213 M_213 q_213 => ?_)
                  obtain ⟨rfl, mq_213⟩ := q_213
                  have mq_213 := mq_213.symm; subst mq_213
                  have ed_213 := CI_edge hC (M 28 i)
                  refine k_if_ne F (pc' := 219) (tgt := 301) dL_law_216 rfl (by decide) (by omega) (fun c_216 => ?_) (fun c_216 => ?_)
                  · skip
                    exfalso; omega
                  · skip
                    refine k_aload_n F (pc' := 220) dL_law_219 rfl rfl ?_
                    refine k_iload F (pc' := 222) dL_law_220 rfl rfl ?_
                    refine k_iconst F (pc' := 223) dL_law_222 rfl ?_
                    refine k_callI F K (XL_c b nS xs) (fun _ h9 => h9) X0 hcs (pc' := 226) (st := []) (e4_told_1 (X := XL b nS xs) XL_S l a M (M 27 i) (by omega) hC) (cwV 2 F.2.2.2.2 (goodIn_L gL_law_X4_told) rfl rfl rfl (by decide +kernel) ⟨Nat.le_of_ble_eq_true rfl, Nat.le_of_ble_eq_true rfl⟩) rfl rfl rfl rfl (Nat.le_of_ble_eq_true rfl) dL_law_223 rfl (fun z_223 M_223 q_223 => ?_)
                    obtain ⟨rfl, mq_223⟩ := q_223
                    have mq_223 := mq_223.symm; subst mq_223
                    have ed_223 := CI_edge hC (M 27 i)
                    refine k_iload F (pc' := 228) dL_law_226 rfl rfl ?_
                    refine k_icmp_ne F (pc' := 231) (tgt := 301) dL_law_228 rfl (by decide) (by omega) (by omega) (fun c_228 => ?_) (fun c_228 => ?_)
                    · skip
                      exfalso; omega
                    · skip
                      refine k_aload_n F (pc' := 232) dL_law_231 rfl rfl ?_
                      refine k_iload F (pc' := 234) dL_law_232 rfl rfl ?_
                      refine k_iconst F (pc' := 235) dL_law_234 rfl ?_
                      refine k_callI F K (XL_c b nS xs) (fun _ h9 => h9) X0 hcs (pc' := 238) (st := []) (e4_told_1 (X := XL b nS xs) XL_S l a M (M 28 i) (by omega) hC) (cwV 2 F.2.2.2.2 (goodIn_L gL_law_X4_told) rfl rfl rfl (by decide +kernel) ⟨Nat.le_of_ble_eq_true rfl, Nat.le_of_ble_eq_true rfl⟩) rfl rfl rfl rfl (Nat.le_of_ble_eq_true rfl) dL_law_235 rfl (fun z_235 M_235 q_235 => ?_)
                      obtain ⟨rfl, mq_235⟩ := q_235
                      have mq_235 := mq_235.symm; subst mq_235
                      have ed_235 := CI_edge hC (M 28 i)
                      refine k_iload F (pc' := 240) dL_law_238 rfl rfl ?_
                      refine k_icmp_ne F (pc' := 243) (tgt := 301) dL_law_240 rfl (by decide) (by omega) (by omega) (fun c_240 => ?_) (fun c_240 => ?_)
                      · skip
                        exfalso; omega
                      · skip
                        refine k_aload_n F (pc' := 244) dL_law_243 rfl rfl ?_
                        refine k_iload F (pc' := 246) dL_law_244 rfl rfl ?_
                        refine k_iconst F (pc' := 247) dL_law_246 rfl ?_
                        refine k_callI F K (XL_c b nS xs) (fun _ h9 => h9) X0 hcs (pc' := 250) (st := []) (e4_told_4 (X := XL b nS xs) XL_S l a M (M 27 i) (by omega) hC) (cwV 2 F.2.2.2.2 (goodIn_L gL_law_X4_told) rfl rfl rfl (by decide +kernel) ⟨Nat.le_of_ble_eq_true rfl, Nat.le_of_ble_eq_true rfl⟩) rfl rfl rfl rfl (Nat.le_of_ble_eq_true rfl) dL_law_247 rfl (fun z_247 M_247 q_247 => ?_)
                        obtain ⟨we_247, mq_247⟩ := q_247
                        have mq_247 := mq_247.symm; subst mq_247
                        have wr_247 := wedge_R we_247
                        have wz := wedge_of hC we_247 ⟨hi.1, by omega⟩ (Or.inl rfl)
                        refine k_iload F (pc' := 252) dL_law_250 rfl rfl ?_
                        refine k_icmp_ne F (pc' := 255) (tgt := 301) dL_law_252 rfl (by decide) (by omega) (by omega) (fun c_252 => ?_) (fun c_252 => ?_)
                        · skip
                          exfalso; omega
                        · skip
                          refine k_aload_n F (pc' := 256) dL_law_255 rfl rfl ?_
                          refine k_iload F (pc' := 258) dL_law_256 rfl rfl ?_
                          refine k_iconst F (pc' := 259) dL_law_258 rfl ?_
                          refine k_callI F K (XL_c b nS xs) (fun _ h9 => h9) X0 hcs (pc' := 262) (st := []) (e4_told_4 (X := XL b nS xs) XL_S l a M (M 28 i) (by omega) hC) (cwV 2 F.2.2.2.2 (goodIn_L gL_law_X4_told) rfl rfl rfl (by decide +kernel) ⟨Nat.le_of_ble_eq_true rfl, Nat.le_of_ble_eq_true rfl⟩) rfl rfl rfl rfl (Nat.le_of_ble_eq_true rfl) dL_law_259 rfl (fun z_259 M_259 q_259 => ?_)
                          obtain ⟨we_259, mq_259⟩ := q_259
                          have mq_259 := mq_259.symm; subst mq_259
                          have wr_259 := wedge_R we_259
                          have wz2 := wedge_of hC we_259 ⟨hi.1, by omega⟩ (Or.inr rfl)
                          refine k_iload F (pc' := 264) dL_law_262 rfl rfl ?_
                          refine k_icmp_ne F (pc' := 267) (tgt := 301) dL_law_264 rfl (by decide) (by omega) (by omega) (fun c_264 => ?_) (fun c_264 => ?_)
                          · skip
                            exfalso; omega
                          · skip
                            refine k_iload F (pc' := 269) dL_law_267 rfl rfl ?_
                            refine k_if_lt F (pc' := 272) (tgt := 301) dL_law_269 rfl (by decide) (by omega) (fun c_269 => ?_) (fun c_269 => ?_)
                            · skip
                              exfalso; omega
                            · skip
                              refine k_iload F (pc' := 274) dL_law_272 rfl rfl ?_
                              refine k_iload F (pc' := 276) dL_law_274 rfl rfl ?_
                              refine k_icmp_ge F (pc' := 279) (tgt := 301) dL_law_276 rfl (by decide) (by omega) (by omega) (fun c_276 => ?_) (fun c_276 => ?_)
                              · skip
                                exfalso; omega
                              · skip
                                refine k_iload F (pc' := 281) dL_law_279 rfl rfl ?_
                                refine k_iload F (pc' := 283) dL_law_281 rfl rfl ?_
                                refine k_ishr F (pc' := 284) dL_law_283 rfl ?_
                                refine k_iconst F (pc' := 285) dL_law_284 rfl ?_
                                refine k_iand F (pc' := 286) dL_law_285 rfl ?_
                                refine k_iconst F (pc' := 287) dL_law_286 rfl ?_
                                refine k_icmp_eq F (pc' := 290) (tgt := 301) dL_law_287 rfl (by decide) (andZ_R _ _) (by decide) (fun c_287 => ?_) (fun c_287 => ?_)
                                · skip
                                  exfalso; omega
                                · skip
                                  refine k_iload F (pc' := 292) dL_law_290 rfl rfl ?_
                                  refine k_iload F (pc' := 294) dL_law_292 rfl rfl ?_
                                  refine k_ishr F (pc' := 295) dL_law_294 rfl ?_
                                  refine k_iconst F (pc' := 296) dL_law_295 rfl ?_
                                  refine k_iand F (pc' := 297) dL_law_296 rfl ?_
                                  refine k_iconst F (pc' := 298) dL_law_297 rfl ?_
                                  refine k_icmp_ne F (pc' := 301) (tgt := 303) dL_law_298 rfl (by decide) (andZ_R _ _) (by decide) (fun c_298 => ?_) (fun c_298 => ?_)
                                  · skip
                                    refine k_aload_n F (pc' := 304) dL_law_303 rfl rfl ?_
                                    refine k_iload F (pc' := 306) dL_law_304 rfl rfl ?_
                                    refine k_iconst F (pc' := 307) dL_law_306 rfl ?_
                                    refine k_callI F K (XL_c b nS xs) (fun _ h9 => h9) X0 hcs (pc' := 310) (st := []) (e4_told_3 (X := XL b nS xs) XL_S l a M (M 27 i) (by omega) hC) (cwV 2 F.2.2.2.2 (goodIn_L gL_law_X4_told) rfl rfl rfl (by decide +kernel) ⟨Nat.le_of_ble_eq_true rfl, Nat.le_of_ble_eq_true rfl⟩) rfl rfl rfl rfl (Nat.le_of_ble_eq_true rfl) dL_law_307 rfl (fun z_307 M_307 q_307 => ?_)
                                    obtain ⟨rfl, mq_307⟩ := q_307
                                    have mq_307 := mq_307.symm; subst mq_307
                                    have ed_307 := CI_edge hC (M 27 i)
                                    refine k_aload_n F (pc' := 311) dL_law_310 rfl rfl ?_
                                    refine k_iload F (pc' := 313) dL_law_311 rfl rfl ?_
                                    refine k_iconst F (pc' := 314) dL_law_313 rfl ?_
                                    refine k_callI F K (XL_c b nS xs) (fun _ h9 => h9) X0 hcs (pc' := 317) (st := [.int (iI (M 8 (M 27 i)))]) (e4_told_2 (X := XL b nS xs) XL_S l a M (M 28 i) (by omega) hC) (cwV 2 F.2.2.2.2 (goodIn_L gL_law_X4_told) rfl rfl rfl (by decide +kernel) ⟨Nat.le_of_ble_eq_true rfl, Nat.le_of_ble_eq_true rfl⟩) rfl rfl rfl rfl (Nat.le_of_ble_eq_true rfl) dL_law_314 rfl (fun z_314 M_314 q_314 => ?_)
                                    obtain ⟨rfl, mq_314⟩ := q_314
                                    have mq_314 := mq_314.symm; subst mq_314
                                    have ed_314 := CI_edge hC (M 28 i)
                                    refine k_icmp_le F (pc' := 320) (tgt := 337) dL_law_317 rfl (by decide) (by omega) (by omega) (fun c_317 => ?_) (fun c_317 => ?_)
                                    · skip
                                      exfalso; omega
                                    · skip
                                      refine k_aload_n F (pc' := 321) dL_law_320 rfl rfl ?_
                                      refine k_iload F (pc' := 323) dL_law_321 rfl rfl ?_
                                      refine k_iconst F (pc' := 324) dL_law_323 rfl ?_
                                      refine k_callI F K (XL_c b nS xs) (fun _ h9 => h9) X0 hcs (pc' := 327) (st := []) (e4_told_3 (X := XL b nS xs) XL_S l a M (M 28 i) (by omega) hC) (cwV 2 F.2.2.2.2 (goodIn_L gL_law_X4_told) rfl rfl rfl (by decide +kernel) ⟨Nat.le_of_ble_eq_true rfl, Nat.le_of_ble_eq_true rfl⟩) rfl rfl rfl rfl (Nat.le_of_ble_eq_true rfl) dL_law_324 rfl (fun z_324 M_324 q_324 => ?_)
                                      obtain ⟨rfl, mq_324⟩ := q_324
                                      have mq_324 := mq_324.symm; subst mq_324
                                      have ed_324 := CI_edge hC (M 28 i)
                                      refine k_aload_n F (pc' := 328) dL_law_327 rfl rfl ?_
                                      refine k_iload F (pc' := 330) dL_law_328 rfl rfl ?_
                                      refine k_iconst F (pc' := 331) dL_law_330 rfl ?_
                                      refine k_callI F K (XL_c b nS xs) (fun _ h9 => h9) X0 hcs (pc' := 334) (st := [.int (iI (M 8 (M 28 i)))]) (e4_told_2 (X := XL b nS xs) XL_S l a M (M 27 i) (by omega) hC) (cwV 2 F.2.2.2.2 (goodIn_L gL_law_X4_told) rfl rfl rfl (by decide +kernel) ⟨Nat.le_of_ble_eq_true rfl, Nat.le_of_ble_eq_true rfl⟩) rfl rfl rfl rfl (Nat.le_of_ble_eq_true rfl) dL_law_331 rfl (fun z_331 M_331 q_331 => ?_)
                                      obtain ⟨rfl, mq_331⟩ := q_331
                                      have mq_331 := mq_331.symm; subst mq_331
                                      have ed_331 := CI_edge hC (M 27 i)
                                      refine k_icmp_gt F (pc' := 337) (tgt := 339) dL_law_334 rfl (by decide) (by omega) (by omega) (fun c_334 => ?_) (fun c_334 => ?_)
                                      · skip
                                        refine k_iload F (pc' := 341) dL_law_339 rfl rfl ?_
                                        refine k_iconst F (pc' := 342) dL_law_341 rfl ?_
                                        refine k_iload F (pc' := 344) dL_law_342 rfl rfl ?_
                                        refine k_ishl F (pc' := 345) dL_law_344 rfl ?_
                                        refine k_iconst F (pc' := 346) dL_law_345 rfl ?_
                                        refine k_iload F (pc' := 348) dL_law_346 rfl rfl ?_
                                        refine k_ishl F (pc' := 349) dL_law_348 rfl ?_
                                        refine k_ior F (pc' := 350) dL_law_349 rfl ?_
                                        refine k_ior F (pc' := 351) dL_law_350 rfl ?_
                                        refine k_istore F (pc' := 353) (lv' := [some (.ref b), some (.int (iI t)), some (.ref (a 0)), some (.ref (a 43)), some (.ref (a 44)), some (.int (iI (M 24 0))), some (.int (iI (M 24 6))), some (.int (iI (orZ u (orZ (shlZ 1 (M 27 i)) (shlZ 1 (M 28 i)))))), some (.int (iI 0)), some (.int (iI i)), some (.int (iI (M 25 i))), some (.int (iI (M 26 i))), some (.int (iI (M 27 i))), some (.int (iI (M 28 i))), some (.int (iI (M 29 i))), none, none, none, none]) dL_law_351 rfl (by decide) rfl ?_
                                        refine k_iload F (pc' := 355) dL_law_353 rfl rfl ?_
                                        refine k_iload F (pc' := 357) dL_law_355 rfl rfl ?_
                                        refine k_isub F (pc' := 358) dL_law_357 rfl ?_
                                        refine k_aload_n F (pc' := 359) dL_law_358 rfl rfl ?_
                                        refine k_iload F (pc' := 361) dL_law_359 rfl rfl ?_
                                        refine k_iconst F (pc' := 362) dL_law_361 rfl ?_
                                        refine k_callI F K (XL_c b nS xs) (fun _ h9 => h9) X0 hcs (pc' := 365) (st := [.int (iI ((M 26 i) - (M 25 i)))]) (e4_kind_1 (X := XL b nS xs) XL_S l a M (M 29 i) (by omega) hC) (cwV 2 F.2.2.2.2 (goodIn_L gL_law_X4_kind) rfl rfl rfl (by decide +kernel) ⟨Nat.le_of_ble_eq_true rfl, Nat.le_of_ble_eq_true rfl⟩) rfl rfl rfl rfl (Nat.le_of_ble_eq_true rfl) dL_law_362 rfl (fun z_362 M_362 q_362 => ?_)
                                        obtain ⟨rfl, mq_362⟩ := q_362
                                        have mq_362 := mq_362.symm; subst mq_362
                                        have kd_362 := (CI_grp hC).2.2.2.2 (M 29 i) (by omega) (by omega)
                                        refine k_icmp_lt F (pc' := 368) (tgt := 414) dL_law_365 rfl (by decide) (by omega) (by omega) (fun c_365 => ?_) (fun c_365 => ?_)
                                        · skip
                                          exfalso; omega
                                        · skip
                                          refine k_iload F (pc' := 370) dL_law_368 rfl rfl ?_
                                          refine k_iload F (pc' := 372) dL_law_370 rfl rfl ?_
                                          refine k_isub F (pc' := 373) dL_law_372 rfl ?_
                                          refine k_aload_n F (pc' := 374) dL_law_373 rfl rfl ?_
                                          refine k_iload F (pc' := 376) dL_law_374 rfl rfl ?_
                                          refine k_iconst F (pc' := 377) dL_law_376 rfl ?_
                                          refine k_callI F K (XL_c b nS xs) (fun _ h9 => h9) X0 hcs (pc' := 380) (st := [.int (iI ((M 26 i) - (M 25 i)))]) (e4_kind_1 (X := XL b nS xs) XL_S l a M (M 29 i) (by omega) hC) (cwV 2 F.2.2.2.2 (goodIn_L gL_law_X4_kind) rfl rfl rfl (by decide +kernel) ⟨Nat.le_of_ble_eq_true rfl, Nat.le_of_ble_eq_true rfl⟩) rfl rfl rfl rfl (Nat.le_of_ble_eq_true rfl) dL_law_377 rfl (fun z_377 M_377 q_377 => ?_)
                                          obtain ⟨rfl, mq_377⟩ := q_377
                                          have mq_377 := mq_377.symm; subst mq_377
                                          have kd_377 := (CI_grp hC).2.2.2.2 (M 29 i) (by omega) (by omega)
                                          refine k_aload F (pc' := 382) dL_law_380 rfl rfl ?_
                                          refine k_iconst F (pc' := 383) dL_law_382 rfl ?_
                                          refine k_iald F K (k := 44) (v := M 9 0) (pc' := 384) rfl (by decide) (by decide) dL_law_383 rfl (by exact hm1) ?_
                                          refine k_iadd F (pc' := 385) dL_law_384 rfl ?_
                                          refine k_icmp_gt F (pc' := 388) (tgt := 414) dL_law_385 rfl (by decide) (by omega) (by omega) (fun c_385 => ?_) (fun c_385 => ?_)
                                          · skip
                                            exfalso; omega
                                          · skip
                                            refine k_iload F (pc' := 390) dL_law_388 rfl rfl ?_
                                            refine k_iconst F (pc' := 391) dL_law_390 rfl ?_
                                            refine k_iadd F (pc' := 392) dL_law_391 rfl ?_
                                            refine k_iload F (pc' := 394) dL_law_392 rfl rfl ?_
                                            refine k_icmp_ge F (pc' := 397) (tgt := 416) dL_law_394 rfl (by decide) (by omega) (by omega) (fun c_394 => ?_) (fun c_394 => ?_)
                                            · skip
                                              refine k_iinc F (pc' := 419) (lv' := [some (.ref b), some (.int (iI t)), some (.ref (a 0)), some (.ref (a 43)), some (.ref (a 44)), some (.int (iI (M 24 0))), some (.int (iI (M 24 6))), some (.int (iI (orZ u (orZ (shlZ 1 (M 27 i)) (shlZ 1 (M 28 i)))))), some (.int (iI 0)), some (.int (iI (i + 1))), some (.int (iI (M 25 i))), some (.int (iI (M 26 i))), some (.int (iI (M 27 i))), some (.int (iI (M 28 i))), some (.int (iI (M 29 i))), none, none, none, none]) dL_law_416 rfl rfl (by decide) rfl ?_
                                              refine k_goto F (tgt := 109) dL_law_419 (by decide) ?_
                                              refine k_lvw [some (.ref b), some (.int (iI t)), some (.ref (a 0)), some (.ref (a 43)), some (.ref (a 44)), some (.int (iI (M 24 0))), some (.int (iI (M 24 6))), some (.int (iI (orZ u (orZ (shlZ 1 (M 27 i)) (shlZ 1 (M 28 i)))))), some (.int (iI 0)), some (.int (iI (i + 1))), none, none, none, none, none, none, none, none, none] (lvw_of _ _ [true, true, true, true, true, true, true, true, true, true, false, false, false, false, false, false, false, false, false] rfl) ?_
                                              exact ih_109 (i + 1) (orZ u (orZ (shlZ 1 (M 27 i)) (shlZ 1 (M 28 i)))) (by omega) (by omega) (orZ_R _ _) (Ub_s hU hi.1 (by omega) (by omega))
                                            · skip
                                              refine k_iload F (pc' := 399) dL_law_397 rfl rfl ?_
                                              refine k_iload F (pc' := 401) dL_law_399 rfl rfl ?_
                                              refine k_isub F (pc' := 402) dL_law_401 rfl ?_
                                              refine k_aload_n F (pc' := 403) dL_law_402 rfl rfl ?_
                                              refine k_iload F (pc' := 405) dL_law_403 rfl rfl ?_
                                              refine k_iconst F (pc' := 406) dL_law_405 rfl ?_
                                              refine k_iadd F (pc' := 407) dL_law_406 rfl ?_
                                              refine k_iconst F (pc' := 408) dL_law_407 rfl ?_
                                              refine k_callI F K (XL_c b nS xs) (fun _ h9 => h9) X0 hcs (pc' := 411) (st := [.int (iI ((M 26 i) - (M 25 i)))]) (e4_kind_1 (X := XL b nS xs) XL_S l a M ((M 29 i) + 1) (by omega) hC) (cwV 2 F.2.2.2.2 (goodIn_L gL_law_X4_kind) rfl rfl rfl (by decide +kernel) ⟨Nat.le_of_ble_eq_true rfl, Nat.le_of_ble_eq_true rfl⟩) rfl rfl rfl rfl (Nat.le_of_ble_eq_true rfl) dL_law_408 rfl (fun z_408 M_408 q_408 => ?_)
                                              obtain ⟨rfl, mq_408⟩ := q_408
                                              have mq_408 := mq_408.symm; subst mq_408
                                              have kd_408 := (CI_grp hC).2.2.2.2 ((M 29 i) + 1) (by omega) (by omega)
                                              refine k_icmp_lt F (pc' := 414) (tgt := 416) dL_law_411 rfl (by decide) (by omega) (by omega) (fun c_411 => ?_) (fun c_411 => ?_)
                                              · skip
                                                refine k_iinc F (pc' := 419) (lv' := [some (.ref b), some (.int (iI t)), some (.ref (a 0)), some (.ref (a 43)), some (.ref (a 44)), some (.int (iI (M 24 0))), some (.int (iI (M 24 6))), some (.int (iI (orZ u (orZ (shlZ 1 (M 27 i)) (shlZ 1 (M 28 i)))))), some (.int (iI 0)), some (.int (iI (i + 1))), some (.int (iI (M 25 i))), some (.int (iI (M 26 i))), some (.int (iI (M 27 i))), some (.int (iI (M 28 i))), some (.int (iI (M 29 i))), none, none, none, none]) dL_law_416 rfl rfl (by decide) rfl ?_
                                                refine k_goto F (tgt := 109) dL_law_419 (by decide) ?_
                                                refine k_lvw [some (.ref b), some (.int (iI t)), some (.ref (a 0)), some (.ref (a 43)), some (.ref (a 44)), some (.int (iI (M 24 0))), some (.int (iI (M 24 6))), some (.int (iI (orZ u (orZ (shlZ 1 (M 27 i)) (shlZ 1 (M 28 i)))))), some (.int (iI 0)), some (.int (iI (i + 1))), none, none, none, none, none, none, none, none, none] (lvw_of _ _ [true, true, true, true, true, true, true, true, true, true, false, false, false, false, false, false, false, false, false] rfl) ?_
                                                exact ih_109 (i + 1) (orZ u (orZ (shlZ 1 (M 27 i)) (shlZ 1 (M 28 i)))) (by omega) (by omega) (orZ_R _ _) (Ub_s hU hi.1 (by omega) (by omega))
                                              · skip
                                                exfalso; have := s3.2.2 (by omega); omega
                                      · skip
                                        exfalso; omega
                                  · skip
                                    exfalso; omega
  exact lp_109 ((M 24 0 - 0 : Int).toNat + 1) 0 0 (by omega) (by omega) (by decide) (Ub_0 M)

set_option maxHeartbeats 4000000 in
set_option maxRecDepth 100000 in
theorem law_s3 (F : CallFix p m c cL_law 19 s #[.ref b] lw_tbl RL) (K : va_K D vwCl (tysT T) s) (X0 : XL b nS xs (fun q : Nat => s.heap.size ≤ q) s s.heap) (hcs : kc ≤ room_1.cells ∧ ks ≤ room_1.slots) (M : Mem) (mk t : Int) (hk : 0 ≤ mk ∧ mk ≤ 12) (hJ : BJ M mk) (u : Int) (hu : -2147483648 ≤ u ∧ u < 2147483648) (hU : Ub M u (M 24 0)) (kk_475 : KK kc ks p l e room_1 s m #[.ref b] below meth c (lw_Z below #[.ref b] s) D (fun q : Nat => s.heap.size ≤ q) 19 (wld T a LL M) 475 [some (.ref b), some (.int (iI t)), some (.ref (a 0)), some (.ref (a 43)), some (.ref (a 44)), some (.int (iI (M 24 0))), some (.int (iI (M 24 6))), none, some (.int (iI 0)), none, none, none, none, none, none, none, none, none, none] []) : KK kc ks p l e room_1 s m #[.ref b] below meth c (lw_Z below #[.ref b] s) D (fun q : Nat => s.heap.size ≤ q) 19 (wld T a LL M) 422 [some (.ref b), some (.int (iI t)), some (.ref (a 0)), some (.ref (a 43)), some (.ref (a 44)), some (.int (iI (M 24 0))), some (.int (iI (M 24 6))), some (.int (iI u)), some (.int (iI 0)), none, none, none, none, none, none, none, none, none, none] [] := by
  have hB := hJ.1
  have hC := hB.1
  have hn := CI_n hC
  have hg := (CI_grp hC).1
  have b4 := hB.2.1
  have b44 := hB.2.2.1
  have r0 := CI_r0 hC
  refine k_iconst F (pc' := 423) dL_law_422 rfl ?_
  refine k_istore F (pc' := 425) (lv' := [some (.ref b), some (.int (iI t)), some (.ref (a 0)), some (.ref (a 43)), some (.ref (a 44)), some (.int (iI (M 24 0))), some (.int (iI (M 24 6))), some (.int (iI u)), some (.int (iI 0)), some (.int (iI 0)), none, none, none, none, none, none, none, none, none]) dL_law_423 rfl (by decide) rfl ?_
  have lp_425 : ∀ (n_425 : Nat) (i : Int) (hm_425 : mk - i < (n_425 : Int)) (hi : 0 ≤ i ∧ i ≤ mk), KK kc ks p l e room_1 s m #[.ref b] below meth c (lw_Z below #[.ref b] s) D (fun q : Nat => s.heap.size ≤ q) 19 (wld T a LL M) 425 [some (.ref b), some (.int (iI t)), some (.ref (a 0)), some (.ref (a 43)), some (.ref (a 44)), some (.int (iI (M 24 0))), some (.int (iI (M 24 6))), some (.int (iI u)), some (.int (iI 0)), some (.int (iI i)), none, none, none, none, none, none, none, none, none] [] := by
    intro n_425
    induction n_425 with
    | zero => intro i hm_425 hi; exfalso; omega
    | succ n_425 ih_425 =>
      intro i hm_425 hi
      refine k_iload F (pc' := 427) dL_law_425 rfl rfl ?_
      refine k_aload F (pc' := 429) dL_law_427 rfl rfl ?_
      refine k_iconst F (pc' := 430) dL_law_429 rfl ?_
      refine k_iald F K (k := 44) (v := mk) (pc' := 431) rfl (by decide) (by decide) dL_law_430 rfl (by exact b44) ?_
      refine k_icmp_ge F (pc' := 434) (tgt := 475) dL_law_431 rfl (by decide) (by omega) (by omega) (fun c_431 => ?_) (fun c_431 => ?_)
      · skip
        refine k_lvw [some (.ref b), some (.int (iI t)), some (.ref (a 0)), some (.ref (a 43)), some (.ref (a 44)), some (.int (iI (M 24 0))), some (.int (iI (M 24 6))), none, some (.int (iI 0)), none, none, none, none, none, none, none, none, none, none] (lvw_of _ _ [true, true, true, true, true, true, true, false, true, false, false, false, false, false, false, false, false, false, false] rfl) ?_
        exact kk_475  
      · skip
        refine k_aload_n F (pc' := 435) dL_law_434 rfl rfl ?_
        refine k_iload F (pc' := 437) dL_law_435 rfl rfl ?_
        refine k_iconst F (pc' := 438) dL_law_437 rfl ?_
        refine k_callI F K (XL_c b nS xs) (fun _ h9 => h9) X0 hcs (pc' := 441) (st := []) (e4_told_4 (X := XL b nS xs) XL_S l a M i (by omega) hC) (cwV 2 F.2.2.2.2 (goodIn_L gL_law_X4_told) rfl rfl rfl (by decide +kernel) ⟨Nat.le_of_ble_eq_true rfl, Nat.le_of_ble_eq_true rfl⟩) rfl rfl rfl rfl (Nat.le_of_ble_eq_true rfl) dL_law_438 rfl (fun z_438 M_438 q_438 => ?_)
        obtain ⟨we_438, mq_438⟩ := q_438
        have mq_438 := mq_438.symm; subst mq_438
        have wr_438 := wedge_R we_438
        have wb := wedge_bit we_438 hU (by omega)
        refine k_if_ge F (pc' := 444) (tgt := 448) dL_law_441 rfl (by decide) (by omega) (fun c_441 => ?_) (fun c_441 => ?_)
        · skip
          refine k_iconst F (pc' := 449) dL_law_448 rfl ?_
          refine k_iload F (pc' := 451) dL_law_449 rfl rfl ?_
          refine k_iload F (pc' := 453) dL_law_451 rfl rfl ?_
          refine k_ishr F (pc' := 454) dL_law_453 rfl ?_
          refine k_iconst F (pc' := 455) dL_law_454 rfl ?_
          refine k_iand F (pc' := 456) dL_law_455 rfl ?_
          refine k_if_ne F (pc' := 459) (tgt := 463) dL_law_456 rfl (by decide) (andZ_R _ _) (fun c_456 => ?_) (fun c_456 => ?_)
          · skip
            refine k_iconst F (pc' := 464) dL_law_463 rfl ?_
            refine k_icmp_eq F (pc' := 467) (tgt := 469) dL_law_464 rfl (by decide) (by decide) (by decide) (fun c_464 => ?_) (fun c_464 => ?_)
            · skip
              refine k_iinc F (pc' := 472) (lv' := [some (.ref b), some (.int (iI t)), some (.ref (a 0)), some (.ref (a 43)), some (.ref (a 44)), some (.int (iI (M 24 0))), some (.int (iI (M 24 6))), some (.int (iI u)), some (.int (iI 0)), some (.int (iI (i + 1))), none, none, none, none, none, none, none, none, none]) dL_law_469 rfl rfl (by decide) rfl ?_
              refine k_goto F (tgt := 425) dL_law_472 (by decide) ?_
              exact ih_425 (i + 1) (by omega) (by omega)
            · skip
              exact absurd c_464 (by decide)
          · skip
            refine k_iconst F (pc' := 460) dL_law_459 rfl ?_
            refine k_goto F (tgt := 464) dL_law_460 (by decide) ?_
            refine k_icmp_eq F (pc' := 467) (tgt := 469) dL_law_464 rfl (by decide) (by decide) (by decide) (fun c_464 => ?_) (fun c_464 => ?_)
            · skip
              exact absurd c_464 (by decide)
            · skip
              exfalso; omega
        · skip
          refine k_iconst F (pc' := 445) dL_law_444 rfl ?_
          refine k_goto F (tgt := 449) dL_law_445 (by decide) ?_
          refine k_iload F (pc' := 451) dL_law_449 rfl rfl ?_
          refine k_iload F (pc' := 453) dL_law_451 rfl rfl ?_
          refine k_ishr F (pc' := 454) dL_law_453 rfl ?_
          refine k_iconst F (pc' := 455) dL_law_454 rfl ?_
          refine k_iand F (pc' := 456) dL_law_455 rfl ?_
          refine k_if_ne F (pc' := 459) (tgt := 463) dL_law_456 rfl (by decide) (andZ_R _ _) (fun c_456 => ?_) (fun c_456 => ?_)
          · skip
            refine k_iconst F (pc' := 464) dL_law_463 rfl ?_
            refine k_icmp_eq F (pc' := 467) (tgt := 469) dL_law_464 rfl (by decide) (by decide) (by decide) (fun c_464 => ?_) (fun c_464 => ?_)
            · skip
              exact absurd c_464 (by decide)
            · skip
              exfalso; omega
          · skip
            refine k_iconst F (pc' := 460) dL_law_459 rfl ?_
            refine k_goto F (tgt := 464) dL_law_460 (by decide) ?_
            refine k_icmp_eq F (pc' := 467) (tgt := 469) dL_law_464 rfl (by decide) (by decide) (by decide) (fun c_464 => ?_) (fun c_464 => ?_)
            · skip
              refine k_iinc F (pc' := 472) (lv' := [some (.ref b), some (.int (iI t)), some (.ref (a 0)), some (.ref (a 43)), some (.ref (a 44)), some (.int (iI (M 24 0))), some (.int (iI (M 24 6))), some (.int (iI u)), some (.int (iI 0)), some (.int (iI (i + 1))), none, none, none, none, none, none, none, none, none]) dL_law_469 rfl rfl (by decide) rfl ?_
              refine k_goto F (tgt := 425) dL_law_472 (by decide) ?_
              exact ih_425 (i + 1) (by omega) (by omega)
            · skip
              exact absurd c_464 (by decide)
  exact lp_425 ((mk - 0 : Int).toNat + 1) 0 (by omega) (by omega)

set_option maxHeartbeats 4000000 in
set_option maxRecDepth 100000 in
theorem law_s4 (F : CallFix p m c cL_law 19 s #[.ref b] lw_tbl RL) (K : va_K D vwCl (tysT T) s) (X0 : XL b nS xs (fun q : Nat => s.heap.size ≤ q) s s.heap) (hcs : kc ≤ room_1.cells ∧ ks ≤ room_1.slots) (M : Mem) (mk t : Int) (hk : 0 ≤ mk ∧ mk ≤ 12) (hJ : BJ M mk) (kk_698 : KK kc ks p l e room_1 s m #[.ref b] below meth c (lw_Z below #[.ref b] s) D (fun q : Nat => s.heap.size ≤ q) 19 (wld T a LL M) 698 [some (.ref b), some (.int (iI t)), some (.ref (a 0)), some (.ref (a 43)), some (.ref (a 44)), some (.int (iI (M 24 0))), some (.int (iI (M 24 6))), none, none, none, none, none, none, none, none, none, none, none, none] []) : KK kc ks p l e room_1 s m #[.ref b] below meth c (lw_Z below #[.ref b] s) D (fun q : Nat => s.heap.size ≤ q) 19 (wld T a LL M) 475 [some (.ref b), some (.int (iI t)), some (.ref (a 0)), some (.ref (a 43)), some (.ref (a 44)), some (.int (iI (M 24 0))), some (.int (iI (M 24 6))), none, some (.int (iI 0)), none, none, none, none, none, none, none, none, none, none] [] := by
  have hB := hJ.1
  have hC := hB.1
  have hn := CI_n hC
  have hg := (CI_grp hC).1
  have b4 := hB.2.1
  have b44 := hB.2.2.1
  have r0 := CI_r0 hC
  have hm1 : M 44 1 = M 9 0 := (hB.2.2.2 0 (by decide) (by decide)).symm
  obtain ⟨G1, G2, G3, G4, G5⟩ := CI_grp hC
  refine k_iconst F (pc' := 476) dL_law_475 rfl ?_
  refine k_istore F (pc' := 478) (lv' := [some (.ref b), some (.int (iI t)), some (.ref (a 0)), some (.ref (a 43)), some (.ref (a 44)), some (.int (iI (M 24 0))), some (.int (iI (M 24 6))), none, some (.int (iI 0)), some (.int (iI 0)), none, none, none, none, none, none, none, none, none]) dL_law_476 rfl (by decide) rfl ?_
  have lp_478 : ∀ (n_478 : Nat) (i : Int) (o : Int) (hm_478 : M 24 6 - i < (n_478 : Int)) (hi : 0 ≤ i ∧ i ≤ M 24 6) (ho : o = msI (M 30) i), KK kc ks p l e room_1 s m #[.ref b] below meth c (lw_Z below #[.ref b] s) D (fun q : Nat => s.heap.size ≤ q) 19 (wld T a LL M) 478 [some (.ref b), some (.int (iI t)), some (.ref (a 0)), some (.ref (a 43)), some (.ref (a 44)), some (.int (iI (M 24 0))), some (.int (iI (M 24 6))), none, some (.int (iI o)), some (.int (iI i)), none, none, none, none, none, none, none, none, none] [] := by
    intro n_478
    induction n_478 with
    | zero => intro i o hm_478 hi ho; exfalso; omega
    | succ n_478 ih_478 =>
      intro i o hm_478 hi ho
      refine k_iload F (pc' := 480) dL_law_478 rfl rfl ?_
      refine k_iload F (pc' := 482) dL_law_480 rfl rfl ?_
      refine k_icmp_ge F (pc' := 485) (tgt := 689) dL_law_482 rfl (by decide) (by omega) (by omega) (fun c_482 => ?_) (fun c_482 => ?_)
      · skip
        have hof : o = M 24 0 := by rw [ho, show i = M 24 6 by omega]; exact G4
        refine k_iload F (pc' := 691) dL_law_689 rfl rfl ?_
        refine k_iload F (pc' := 693) dL_law_691 rfl rfl ?_
        refine k_icmp_eq F (pc' := 696) (tgt := 698) dL_law_693 rfl (by decide) (by omega) (by omega) (fun c_693 => ?_) (fun c_693 => ?_)
        · skip
          refine k_lvw [some (.ref b), some (.int (iI t)), some (.ref (a 0)), some (.ref (a 43)), some (.ref (a 44)), some (.int (iI (M 24 0))), some (.int (iI (M 24 6))), none, none, none, none, none, none, none, none, none, none, none, none] (lvw_of _ _ [true, true, true, true, true, true, true, false, false, false, false, false, false, false, false, false, false, false, false] rfl) ?_
          exact kk_698  
        · skip
          exfalso; omega
      · skip
        refine k_iload F (pc' := 487) dL_law_485 rfl rfl ?_
        refine k_aload_n F (pc' := 488) dL_law_487 rfl rfl ?_
        refine k_iload F (pc' := 490) dL_law_488 rfl rfl ?_
        refine k_iconst F (pc' := 491) dL_law_490 rfl ?_
        refine k_callI F K (XL_c b nS xs) (fun _ h9 => h9) X0 hcs (pc' := 494) (st := [.int (iI o)]) (e4_kind_0 (X := XL b nS xs) XL_S l a M i (by omega) hC) (cwV 2 F.2.2.2.2 (goodIn_L gL_law_X4_kind) rfl rfl rfl (by decide +kernel) ⟨Nat.le_of_ble_eq_true rfl, Nat.le_of_ble_eq_true rfl⟩) rfl rfl rfl rfl (Nat.le_of_ble_eq_true rfl) dL_law_491 rfl (fun z_491 M_491 q_491 => ?_)
        obtain ⟨rfl, mq_491⟩ := q_491
        have mq_491 := mq_491.symm; subst mq_491
        have kd_491 := (CI_grp hC).2.2.2.2 i (by omega) (by omega)
        refine k_iadd F (pc' := 495) dL_law_494 rfl ?_
        refine k_istore F (pc' := 497) (lv' := [some (.ref b), some (.int (iI t)), some (.ref (a 0)), some (.ref (a 43)), some (.ref (a 44)), some (.int (iI (M 24 0))), some (.int (iI (M 24 6))), none, some (.int (iI (o + (M 30 i)))), some (.int (iI i)), none, none, none, none, none, none, none, none, none]) dL_law_495 rfl (by decide) rfl ?_
        refine k_aload_n F (pc' := 498) dL_law_497 rfl rfl ?_
        refine k_iload F (pc' := 500) dL_law_498 rfl rfl ?_
        refine k_iconst F (pc' := 501) dL_law_500 rfl ?_
        refine k_callI F K (XL_c b nS xs) (fun _ h9 => h9) X0 hcs (pc' := 504) (st := []) (e4_kind_0 (X := XL b nS xs) XL_S l a M i (by omega) hC) (cwV 2 F.2.2.2.2 (goodIn_L gL_law_X4_kind) rfl rfl rfl (by decide +kernel) ⟨Nat.le_of_ble_eq_true rfl, Nat.le_of_ble_eq_true rfl⟩) rfl rfl rfl rfl (Nat.le_of_ble_eq_true rfl) dL_law_501 rfl (fun z_501 M_501 q_501 => ?_)
        obtain ⟨rfl, mq_501⟩ := q_501
        have mq_501 := mq_501.symm; subst mq_501
        have kd_501 := (CI_grp hC).2.2.2.2 i (by omega) (by omega)
        refine k_iconst F (pc' := 505) dL_law_504 rfl ?_
        refine k_icmp_lt F (pc' := 508) (tgt := 576) dL_law_505 rfl (by decide) (by omega) (by decide) (fun c_505 => ?_) (fun c_505 => ?_)
        · skip
          exfalso; omega
        · skip
          refine k_aload_n F (pc' := 509) dL_law_508 rfl rfl ?_
          refine k_iload F (pc' := 511) dL_law_509 rfl rfl ?_
          refine k_iconst F (pc' := 512) dL_law_511 rfl ?_
          refine k_callI F K (XL_c b nS xs) (fun _ h9 => h9) X0 hcs (pc' := 515) (st := []) (e4_kind_2 (X := XL b nS xs) XL_S l a M i (by omega) hC) (cwV 2 F.2.2.2.2 (goodIn_L gL_law_X4_kind) rfl rfl rfl (by decide +kernel) ⟨Nat.le_of_ble_eq_true rfl, Nat.le_of_ble_eq_true rfl⟩) rfl rfl rfl rfl (Nat.le_of_ble_eq_true rfl) dL_law_512 rfl (fun z_512 M_512 q_512 => ?_)
          obtain ⟨rfl, mq_512⟩ := q_512
          have mq_512 := mq_512.symm; subst mq_512
          have kd_512 := (CI_grp hC).2.2.2.2 i (by omega) (by omega)
          refine k_aload_n F (pc' := 516) dL_law_515 rfl rfl ?_
          refine k_iload F (pc' := 518) dL_law_516 rfl rfl ?_
          refine k_iconst F (pc' := 519) dL_law_518 rfl ?_
          refine k_callI F K (XL_c b nS xs) (fun _ h9 => h9) X0 hcs (pc' := 522) (st := [.int (iI (M 32 i / M 30 i))]) (e4_kind_1 (X := XL b nS xs) XL_S l a M i (by omega) hC) (cwV 2 F.2.2.2.2 (goodIn_L gL_law_X4_kind) rfl rfl rfl (by decide +kernel) ⟨Nat.le_of_ble_eq_true rfl, Nat.le_of_ble_eq_true rfl⟩) rfl rfl rfl rfl (Nat.le_of_ble_eq_true rfl) dL_law_519 rfl (fun z_519 M_519 q_519 => ?_)
          obtain ⟨rfl, mq_519⟩ := q_519
          have mq_519 := mq_519.symm; subst mq_519
          have kd_519 := (CI_grp hC).2.2.2.2 i (by omega) (by omega)
          refine k_icmp_lt F (pc' := 525) (tgt := 576) dL_law_522 rfl (by decide) (by omega) (by omega) (fun c_522 => ?_) (fun c_522 => ?_)
          · skip
            exfalso; omega
          · skip
            refine k_aload_n F (pc' := 526) dL_law_525 rfl rfl ?_
            refine k_iload F (pc' := 528) dL_law_526 rfl rfl ?_
            refine k_iconst F (pc' := 529) dL_law_528 rfl ?_
            refine k_callI F K (XL_c b nS xs) (fun _ h9 => h9) X0 hcs (pc' := 532) (st := []) (e4_kind_2 (X := XL b nS xs) XL_S l a M i (by omega) hC) (cwV 2 F.2.2.2.2 (goodIn_L gL_law_X4_kind) rfl rfl rfl (by decide +kernel) ⟨Nat.le_of_ble_eq_true rfl, Nat.le_of_ble_eq_true rfl⟩) rfl rfl rfl rfl (Nat.le_of_ble_eq_true rfl) dL_law_529 rfl (fun z_529 M_529 q_529 => ?_)
            obtain ⟨rfl, mq_529⟩ := q_529
            have mq_529 := mq_529.symm; subst mq_529
            have kd_529 := (CI_grp hC).2.2.2.2 i (by omega) (by omega)
            refine k_aload_n F (pc' := 533) dL_law_532 rfl rfl ?_
            refine k_iload F (pc' := 535) dL_law_533 rfl rfl ?_
            refine k_iconst F (pc' := 536) dL_law_535 rfl ?_
            refine k_callI F K (XL_c b nS xs) (fun _ h9 => h9) X0 hcs (pc' := 539) (st := [.int (iI (M 32 i / M 30 i))]) (e4_kind_1 (X := XL b nS xs) XL_S l a M i (by omega) hC) (cwV 2 F.2.2.2.2 (goodIn_L gL_law_X4_kind) rfl rfl rfl (by decide +kernel) ⟨Nat.le_of_ble_eq_true rfl, Nat.le_of_ble_eq_true rfl⟩) rfl rfl rfl rfl (Nat.le_of_ble_eq_true rfl) dL_law_536 rfl (fun z_536 M_536 q_536 => ?_)
            obtain ⟨rfl, mq_536⟩ := q_536
            have mq_536 := mq_536.symm; subst mq_536
            have kd_536 := (CI_grp hC).2.2.2.2 i (by omega) (by omega)
            refine k_aload F (pc' := 541) dL_law_539 rfl rfl ?_
            refine k_iconst F (pc' := 542) dL_law_541 rfl ?_
            refine k_iald F K (k := 44) (v := M 9 0) (pc' := 543) rfl (by decide) (by decide) dL_law_542 rfl (by exact hm1) ?_
            refine k_iadd F (pc' := 544) dL_law_543 rfl ?_
            refine k_icmp_gt F (pc' := 547) (tgt := 576) dL_law_544 rfl (by decide) (by omega) (by omega) (fun c_544 => ?_) (fun c_544 => ?_)
            · skip
              exfalso; omega
            · skip
              refine k_iload F (pc' := 549) dL_law_547 rfl rfl ?_
              have lp_584 : ∀ (n_584 : Nat) (sz : Int) (had : Int) (hm_584 : 61 - sz < (n_584 : Int)) (hs : 1 ≤ sz ∧ sz ≤ 61) (hh : had = if sz = 1 then 1 else dz (M 32 i / M 30 i) (sz - 1) (M 9 4)), KK kc ks p l e room_1 s m #[.ref b] below meth c (lw_Z below #[.ref b] s) D (fun q : Nat => s.heap.size ≤ q) 19 (wld T a LL M) 584 [some (.ref b), some (.int (iI t)), some (.ref (a 0)), some (.ref (a 43)), some (.ref (a 44)), some (.int (iI (M 24 0))), some (.int (iI (M 24 6))), none, some (.int (iI (o + (M 30 i)))), some (.int (iI i)), some (.int (iI had)), some (.int (iI sz)), none, none, none, none, none, none, none] [] := by
                intro n_584
                induction n_584 with
                | zero => intro sz had hm_584 hs hh; exfalso; omega
                | succ n_584 ih_584 =>
                  intro sz had hm_584 hs hh
                  refine k_iload F (pc' := 586) dL_law_584 rfl rfl ?_
                  refine k_bipush F (pc' := 588) dL_law_586 rfl (by decide +kernel) ?_
                  refine k_icmp_ge F (pc' := 591) (tgt := 683) dL_law_588 rfl (by decide) (by omega) (by decide) (fun c_588 => ?_) (fun c_588 => ?_)
                  · skip
                    refine k_iinc F (pc' := 686) (lv' := [some (.ref b), some (.int (iI t)), some (.ref (a 0)), some (.ref (a 43)), some (.ref (a 44)), some (.int (iI (M 24 0))), some (.int (iI (M 24 6))), none, some (.int (iI (o + (M 30 i)))), some (.int (iI (i + 1))), some (.int (iI had)), some (.int (iI sz)), none, none, none, none, none, none, none]) dL_law_683 rfl rfl (by decide) rfl ?_
                    refine k_goto F (tgt := 478) dL_law_686 (by decide) ?_
                    refine k_lvw [some (.ref b), some (.int (iI t)), some (.ref (a 0)), some (.ref (a 43)), some (.ref (a 44)), some (.int (iI (M 24 0))), some (.int (iI (M 24 6))), none, some (.int (iI (o + (M 30 i)))), some (.int (iI (i + 1))), none, none, none, none, none, none, none, none, none] (lvw_of _ _ [true, true, true, true, true, true, true, false, true, true, false, false, false, false, false, false, false, false, false] rfl) ?_
                    exact ih_478 (i + 1) (o + (M 30 i)) (by omega) (by omega) (by rw [msI_s hi.1, ho])
                  · skip
                    have kg := G5 i (by omega) (by omega)
                    have dR := dz_R (a := M 32 i) (b := M 30 i) (sz := sz) (bo := M 9 4) kg.1 kg.2.2.1 (by omega) (CI_rul hC).2.2.2
                    have hd0 : had = 1 ∧ sz = 1 ∨ (1 < sz ∧ had ≤ dz (M 32 i / M 30 i) sz (M 9 4) ∧ dz (M 32 i / M 30 i) sz (M 9 4) ≤ had + 1 ∧ ∀ t, 1 ≤ t → t < sz → dz (M 32 i / M 30 i) t (M 9 4) ≤ had) := had_step kg.2.2.2 kg.2.1 r0 (div_R kg.1.1 kg.2.2.1).2 hh hs.1
                    refine k_aload_n F (pc' := 592) dL_law_591 rfl rfl ?_
                    refine k_iload F (pc' := 594) dL_law_592 rfl rfl ?_
                    refine k_iload F (pc' := 596) dL_law_594 rfl rfl ?_
                    refine k_callI F K (XL_c b nS xs) (fun _ h9 => h9) X0 hcs (pc' := 599) (st := []) (e4_dots (X := XL b nS xs) XL_S l a M i sz (by omega) (by omega) hC) (cwV 2 F.2.2.2.2 (goodIn_L gL_law_X4_dots) rfl rfl rfl (by decide +kernel) ⟨Nat.le_of_ble_eq_true rfl, Nat.le_of_ble_eq_true rfl⟩) rfl rfl rfl rfl (Nat.le_of_ble_eq_true rfl) dL_law_596 rfl (fun z_596 M_596 q_596 => ?_)
                    obtain ⟨rfl, mq_596⟩ := q_596
                    have mq_596 := mq_596.symm; subst mq_596
                    have dz_596 := CI_dz hC (c := i) (sz := sz) (by omega) (by omega)
                    refine k_istore F (pc' := 601) (lv' := [some (.ref b), some (.int (iI t)), some (.ref (a 0)), some (.ref (a 43)), some (.ref (a 44)), some (.int (iI (M 24 0))), some (.int (iI (M 24 6))), none, some (.int (iI (o + (M 30 i)))), some (.int (iI i)), some (.int (iI had)), some (.int (iI sz)), some (.int (iI (dz (M 32 i / M 30 i) sz (M 9 4)))), none, none, none, none, none, none]) dL_law_599 rfl (by decide) rfl ?_
                    refine k_iload F (pc' := 603) dL_law_601 rfl rfl ?_
                    refine k_iload F (pc' := 605) dL_law_603 rfl rfl ?_
                    refine k_icmp_lt F (pc' := 608) (tgt := 643) dL_law_605 rfl (by decide) (by omega) (by omega) (fun c_605 => ?_) (fun c_605 => ?_)
                    · skip
                      exfalso; omega
                    · skip
                      refine k_iload F (pc' := 610) dL_law_608 rfl rfl ?_
                      refine k_iload F (pc' := 612) dL_law_610 rfl rfl ?_
                      refine k_iconst F (pc' := 613) dL_law_612 rfl ?_
                      refine k_iadd F (pc' := 614) dL_law_613 rfl ?_
                      refine k_icmp_le F (pc' := 617) (tgt := 623) dL_law_614 rfl (by decide) (by omega) (by omega) (fun c_614 => ?_) (fun c_614 => ?_)
                      · skip
                        refine k_iload F (pc' := 625) dL_law_623 rfl rfl ?_
                        refine k_if_le F (pc' := 628) (tgt := 645) dL_law_625 rfl (by decide) (by omega) (fun c_625 => ?_) (fun c_625 => ?_)
                        · skip
                          refine k_iload F (pc' := 647) dL_law_645 rfl rfl ?_
                          refine k_iconst F (pc' := 648) dL_law_647 rfl ?_
                          refine k_icmp_le F (pc' := 651) (tgt := 673) dL_law_648 rfl (by decide) (by omega) (by decide) (fun c_648 => ?_) (fun c_648 => ?_)
                          · skip
                            refine k_iload F (pc' := 675) dL_law_673 rfl rfl ?_
                            refine k_istore F (pc' := 677) (lv' := [some (.ref b), some (.int (iI t)), some (.ref (a 0)), some (.ref (a 43)), some (.ref (a 44)), some (.int (iI (M 24 0))), some (.int (iI (M 24 6))), none, some (.int (iI (o + (M 30 i)))), some (.int (iI i)), some (.int (iI (dz (M 32 i / M 30 i) sz (M 9 4)))), some (.int (iI sz)), some (.int (iI (dz (M 32 i / M 30 i) sz (M 9 4)))), none, none, none, none, none, none]) dL_law_675 rfl (by decide) rfl ?_
                            refine k_iinc F (pc' := 680) (lv' := [some (.ref b), some (.int (iI t)), some (.ref (a 0)), some (.ref (a 43)), some (.ref (a 44)), some (.int (iI (M 24 0))), some (.int (iI (M 24 6))), none, some (.int (iI (o + (M 30 i)))), some (.int (iI i)), some (.int (iI (dz (M 32 i / M 30 i) sz (M 9 4)))), some (.int (iI (sz + 1))), some (.int (iI (dz (M 32 i / M 30 i) sz (M 9 4)))), none, none, none, none, none, none]) dL_law_677 rfl rfl (by decide) rfl ?_
                            refine k_goto F (tgt := 584) dL_law_680 (by decide) ?_
                            refine k_lvw [some (.ref b), some (.int (iI t)), some (.ref (a 0)), some (.ref (a 43)), some (.ref (a 44)), some (.int (iI (M 24 0))), some (.int (iI (M 24 6))), none, some (.int (iI (o + (M 30 i)))), some (.int (iI i)), some (.int (iI (dz (M 32 i / M 30 i) sz (M 9 4)))), some (.int (iI (sz + 1))), none, none, none, none, none, none, none] (lvw_of _ _ [true, true, true, true, true, true, true, false, true, true, true, true, false, false, false, false, false, false, false] rfl) ?_
                            exact ih_584 (sz + 1) (dz (M 32 i / M 30 i) sz (M 9 4)) (by omega) (by omega) (by rw [if_neg (by omega), show sz + 1 - 1 = sz by omega])
                          · skip
                            refine k_iload F (pc' := 653) dL_law_651 rfl rfl ?_
                            refine k_iload F (pc' := 655) dL_law_653 rfl rfl ?_
                            refine k_icmp_le F (pc' := 658) (tgt := 673) dL_law_655 rfl (by decide) (by omega) (by omega) (fun c_655 => ?_) (fun c_655 => ?_)
                            · skip
                              refine k_iload F (pc' := 675) dL_law_673 rfl rfl ?_
                              refine k_istore F (pc' := 677) (lv' := [some (.ref b), some (.int (iI t)), some (.ref (a 0)), some (.ref (a 43)), some (.ref (a 44)), some (.int (iI (M 24 0))), some (.int (iI (M 24 6))), none, some (.int (iI (o + (M 30 i)))), some (.int (iI i)), some (.int (iI (dz (M 32 i / M 30 i) sz (M 9 4)))), some (.int (iI sz)), some (.int (iI (dz (M 32 i / M 30 i) sz (M 9 4)))), none, none, none, none, none, none]) dL_law_675 rfl (by decide) rfl ?_
                              refine k_iinc F (pc' := 680) (lv' := [some (.ref b), some (.int (iI t)), some (.ref (a 0)), some (.ref (a 43)), some (.ref (a 44)), some (.int (iI (M 24 0))), some (.int (iI (M 24 6))), none, some (.int (iI (o + (M 30 i)))), some (.int (iI i)), some (.int (iI (dz (M 32 i / M 30 i) sz (M 9 4)))), some (.int (iI (sz + 1))), some (.int (iI (dz (M 32 i / M 30 i) sz (M 9 4)))), none, none, none, none, none, none]) dL_law_677 rfl rfl (by decide) rfl ?_
                              refine k_goto F (tgt := 584) dL_law_680 (by decide) ?_
                              refine k_lvw [some (.ref b), some (.int (iI t)), some (.ref (a 0)), some (.ref (a 43)), some (.ref (a 44)), some (.int (iI (M 24 0))), some (.int (iI (M 24 6))), none, some (.int (iI (o + (M 30 i)))), some (.int (iI i)), some (.int (iI (dz (M 32 i / M 30 i) sz (M 9 4)))), some (.int (iI (sz + 1))), none, none, none, none, none, none, none] (lvw_of _ _ [true, true, true, true, true, true, true, false, true, true, true, true, false, false, false, false, false, false, false] rfl) ?_
                              exact ih_584 (sz + 1) (dz (M 32 i / M 30 i) sz (M 9 4)) (by omega) (by omega) (by rw [if_neg (by omega), show sz + 1 - 1 = sz by omega])
                            · skip
                              refine k_aload_n F (pc' := 659) dL_law_658 rfl rfl ?_
                              refine k_iload F (pc' := 661) dL_law_659 rfl rfl ?_
                              refine k_iload F (pc' := 663) dL_law_661 rfl rfl ?_
                              refine k_callI F K (XL_c b nS xs) (fun _ h9 => h9) X0 hcs (pc' := 666) (st := []) (e4_grows (X := XL b nS xs) XL_S l a M i (dz (M 32 i / M 30 i) sz (M 9 4)) (by omega) (by omega) hC) (cwV 2 F.2.2.2.2 (goodIn_L gL_law_X4_grows) rfl rfl rfl (by decide +kernel) ⟨Nat.le_of_ble_eq_true rfl, Nat.le_of_ble_eq_true rfl⟩) rfl rfl rfl rfl (Nat.le_of_ble_eq_true rfl) dL_law_663 rfl (fun z_663 M_663 q_663 => ?_)
                              obtain ⟨rfl, mq_663⟩ := q_663
                              have mq_663 := mq_663.symm; subst mq_663
                              have gr : growsI (fun t => dz (M 32 i / M 30 i) t (M 9 4)) (dz (M 32 i / M 30 i) sz (M 9 4)) 1 = sz := grows_at (by omega) (Int.le_refl _) (fun t t1 t2 => by rcases hd0 with z | z; omega; have := z.2.2.2 t t1 t2; omega)
                              refine k_iload F (pc' := 668) dL_law_666 rfl rfl ?_
                              refine k_icmp_eq F (pc' := 671) (tgt := 673) dL_law_668 rfl (by decide) (by rw [gr]; omega) (by omega) (fun c_668 => ?_) (fun c_668 => ?_)
                              · skip
                                refine k_iload F (pc' := 675) dL_law_673 rfl rfl ?_
                                refine k_istore F (pc' := 677) (lv' := [some (.ref b), some (.int (iI t)), some (.ref (a 0)), some (.ref (a 43)), some (.ref (a 44)), some (.int (iI (M 24 0))), some (.int (iI (M 24 6))), none, some (.int (iI (o + (M 30 i)))), some (.int (iI i)), some (.int (iI (dz (M 32 i / M 30 i) sz (M 9 4)))), some (.int (iI sz)), some (.int (iI (dz (M 32 i / M 30 i) sz (M 9 4)))), none, none, none, none, none, none]) dL_law_675 rfl (by decide) rfl ?_
                                refine k_iinc F (pc' := 680) (lv' := [some (.ref b), some (.int (iI t)), some (.ref (a 0)), some (.ref (a 43)), some (.ref (a 44)), some (.int (iI (M 24 0))), some (.int (iI (M 24 6))), none, some (.int (iI (o + (M 30 i)))), some (.int (iI i)), some (.int (iI (dz (M 32 i / M 30 i) sz (M 9 4)))), some (.int (iI (sz + 1))), some (.int (iI (dz (M 32 i / M 30 i) sz (M 9 4)))), none, none, none, none, none, none]) dL_law_677 rfl rfl (by decide) rfl ?_
                                refine k_goto F (tgt := 584) dL_law_680 (by decide) ?_
                                refine k_lvw [some (.ref b), some (.int (iI t)), some (.ref (a 0)), some (.ref (a 43)), some (.ref (a 44)), some (.int (iI (M 24 0))), some (.int (iI (M 24 6))), none, some (.int (iI (o + (M 30 i)))), some (.int (iI i)), some (.int (iI (dz (M 32 i / M 30 i) sz (M 9 4)))), some (.int (iI (sz + 1))), none, none, none, none, none, none, none] (lvw_of _ _ [true, true, true, true, true, true, true, false, true, true, true, true, false, false, false, false, false, false, false] rfl) ?_
                                exact ih_584 (sz + 1) (dz (M 32 i / M 30 i) sz (M 9 4)) (by omega) (by omega) (by rw [if_neg (by omega), show sz + 1 - 1 = sz by omega])
                              · skip
                                exact absurd gr c_668
                        · skip
                          have dl := dots_up hC (c := i) (sz := sz) (by omega) (by omega) (by omega)
                          refine k_iload F (pc' := 630) dL_law_628 rfl rfl ?_
                          refine k_aload_n F (pc' := 631) dL_law_630 rfl rfl ?_
                          refine k_iload F (pc' := 633) dL_law_631 rfl rfl ?_
                          refine k_iconst F (pc' := 634) dL_law_633 rfl ?_
                          refine k_isub F (pc' := 635) dL_law_634 rfl ?_
                          refine k_iload F (pc' := 637) dL_law_635 rfl rfl ?_
                          refine k_callI F K (XL_c b nS xs) (fun _ h9 => h9) X0 hcs (pc' := 640) (st := [.int (iI (dz (M 32 i / M 30 i) sz (M 9 4)))]) (e4_dots (X := XL b nS xs) XL_S l a M (i - 1) sz (by omega) (by omega) hC) (cwV 2 F.2.2.2.2 (goodIn_L gL_law_X4_dots) rfl rfl rfl (by decide +kernel) ⟨Nat.le_of_ble_eq_true rfl, Nat.le_of_ble_eq_true rfl⟩) rfl rfl rfl rfl (Nat.le_of_ble_eq_true rfl) dL_law_637 rfl (fun z_637 M_637 q_637 => ?_)
                          obtain ⟨rfl, mq_637⟩ := q_637
                          have mq_637 := mq_637.symm; subst mq_637
                          have dz_637 := CI_dz hC (c := i - 1) (sz := sz) (by omega) (by omega)
                          refine k_icmp_ge F (pc' := 643) (tgt := 645) dL_law_640 rfl (by decide) (by omega) (by omega) (fun c_640 => ?_) (fun c_640 => ?_)
                          · skip
                            refine k_iload F (pc' := 647) dL_law_645 rfl rfl ?_
                            refine k_iconst F (pc' := 648) dL_law_647 rfl ?_
                            refine k_icmp_le F (pc' := 651) (tgt := 673) dL_law_648 rfl (by decide) (by omega) (by decide) (fun c_648 => ?_) (fun c_648 => ?_)
                            · skip
                              refine k_iload F (pc' := 675) dL_law_673 rfl rfl ?_
                              refine k_istore F (pc' := 677) (lv' := [some (.ref b), some (.int (iI t)), some (.ref (a 0)), some (.ref (a 43)), some (.ref (a 44)), some (.int (iI (M 24 0))), some (.int (iI (M 24 6))), none, some (.int (iI (o + (M 30 i)))), some (.int (iI i)), some (.int (iI (dz (M 32 i / M 30 i) sz (M 9 4)))), some (.int (iI sz)), some (.int (iI (dz (M 32 i / M 30 i) sz (M 9 4)))), none, none, none, none, none, none]) dL_law_675 rfl (by decide) rfl ?_
                              refine k_iinc F (pc' := 680) (lv' := [some (.ref b), some (.int (iI t)), some (.ref (a 0)), some (.ref (a 43)), some (.ref (a 44)), some (.int (iI (M 24 0))), some (.int (iI (M 24 6))), none, some (.int (iI (o + (M 30 i)))), some (.int (iI i)), some (.int (iI (dz (M 32 i / M 30 i) sz (M 9 4)))), some (.int (iI (sz + 1))), some (.int (iI (dz (M 32 i / M 30 i) sz (M 9 4)))), none, none, none, none, none, none]) dL_law_677 rfl rfl (by decide) rfl ?_
                              refine k_goto F (tgt := 584) dL_law_680 (by decide) ?_
                              refine k_lvw [some (.ref b), some (.int (iI t)), some (.ref (a 0)), some (.ref (a 43)), some (.ref (a 44)), some (.int (iI (M 24 0))), some (.int (iI (M 24 6))), none, some (.int (iI (o + (M 30 i)))), some (.int (iI i)), some (.int (iI (dz (M 32 i / M 30 i) sz (M 9 4)))), some (.int (iI (sz + 1))), none, none, none, none, none, none, none] (lvw_of _ _ [true, true, true, true, true, true, true, false, true, true, true, true, false, false, false, false, false, false, false] rfl) ?_
                              exact ih_584 (sz + 1) (dz (M 32 i / M 30 i) sz (M 9 4)) (by omega) (by omega) (by rw [if_neg (by omega), show sz + 1 - 1 = sz by omega])
                            · skip
                              refine k_iload F (pc' := 653) dL_law_651 rfl rfl ?_
                              refine k_iload F (pc' := 655) dL_law_653 rfl rfl ?_
                              refine k_icmp_le F (pc' := 658) (tgt := 673) dL_law_655 rfl (by decide) (by omega) (by omega) (fun c_655 => ?_) (fun c_655 => ?_)
                              · skip
                                refine k_iload F (pc' := 675) dL_law_673 rfl rfl ?_
                                refine k_istore F (pc' := 677) (lv' := [some (.ref b), some (.int (iI t)), some (.ref (a 0)), some (.ref (a 43)), some (.ref (a 44)), some (.int (iI (M 24 0))), some (.int (iI (M 24 6))), none, some (.int (iI (o + (M 30 i)))), some (.int (iI i)), some (.int (iI (dz (M 32 i / M 30 i) sz (M 9 4)))), some (.int (iI sz)), some (.int (iI (dz (M 32 i / M 30 i) sz (M 9 4)))), none, none, none, none, none, none]) dL_law_675 rfl (by decide) rfl ?_
                                refine k_iinc F (pc' := 680) (lv' := [some (.ref b), some (.int (iI t)), some (.ref (a 0)), some (.ref (a 43)), some (.ref (a 44)), some (.int (iI (M 24 0))), some (.int (iI (M 24 6))), none, some (.int (iI (o + (M 30 i)))), some (.int (iI i)), some (.int (iI (dz (M 32 i / M 30 i) sz (M 9 4)))), some (.int (iI (sz + 1))), some (.int (iI (dz (M 32 i / M 30 i) sz (M 9 4)))), none, none, none, none, none, none]) dL_law_677 rfl rfl (by decide) rfl ?_
                                refine k_goto F (tgt := 584) dL_law_680 (by decide) ?_
                                refine k_lvw [some (.ref b), some (.int (iI t)), some (.ref (a 0)), some (.ref (a 43)), some (.ref (a 44)), some (.int (iI (M 24 0))), some (.int (iI (M 24 6))), none, some (.int (iI (o + (M 30 i)))), some (.int (iI i)), some (.int (iI (dz (M 32 i / M 30 i) sz (M 9 4)))), some (.int (iI (sz + 1))), none, none, none, none, none, none, none] (lvw_of _ _ [true, true, true, true, true, true, true, false, true, true, true, true, false, false, false, false, false, false, false] rfl) ?_
                                exact ih_584 (sz + 1) (dz (M 32 i / M 30 i) sz (M 9 4)) (by omega) (by omega) (by rw [if_neg (by omega), show sz + 1 - 1 = sz by omega])
                              · skip
                                refine k_aload_n F (pc' := 659) dL_law_658 rfl rfl ?_
                                refine k_iload F (pc' := 661) dL_law_659 rfl rfl ?_
                                refine k_iload F (pc' := 663) dL_law_661 rfl rfl ?_
                                refine k_callI F K (XL_c b nS xs) (fun _ h9 => h9) X0 hcs (pc' := 666) (st := []) (e4_grows (X := XL b nS xs) XL_S l a M i (dz (M 32 i / M 30 i) sz (M 9 4)) (by omega) (by omega) hC) (cwV 2 F.2.2.2.2 (goodIn_L gL_law_X4_grows) rfl rfl rfl (by decide +kernel) ⟨Nat.le_of_ble_eq_true rfl, Nat.le_of_ble_eq_true rfl⟩) rfl rfl rfl rfl (Nat.le_of_ble_eq_true rfl) dL_law_663 rfl (fun z_663 M_663 q_663 => ?_)
                                obtain ⟨rfl, mq_663⟩ := q_663
                                have mq_663 := mq_663.symm; subst mq_663
                                have gr : growsI (fun t => dz (M 32 i / M 30 i) t (M 9 4)) (dz (M 32 i / M 30 i) sz (M 9 4)) 1 = sz := grows_at (by omega) (Int.le_refl _) (fun t t1 t2 => by rcases hd0 with z | z; omega; have := z.2.2.2 t t1 t2; omega)
                                refine k_iload F (pc' := 668) dL_law_666 rfl rfl ?_
                                refine k_icmp_eq F (pc' := 671) (tgt := 673) dL_law_668 rfl (by decide) (by rw [gr]; omega) (by omega) (fun c_668 => ?_) (fun c_668 => ?_)
                                · skip
                                  refine k_iload F (pc' := 675) dL_law_673 rfl rfl ?_
                                  refine k_istore F (pc' := 677) (lv' := [some (.ref b), some (.int (iI t)), some (.ref (a 0)), some (.ref (a 43)), some (.ref (a 44)), some (.int (iI (M 24 0))), some (.int (iI (M 24 6))), none, some (.int (iI (o + (M 30 i)))), some (.int (iI i)), some (.int (iI (dz (M 32 i / M 30 i) sz (M 9 4)))), some (.int (iI sz)), some (.int (iI (dz (M 32 i / M 30 i) sz (M 9 4)))), none, none, none, none, none, none]) dL_law_675 rfl (by decide) rfl ?_
                                  refine k_iinc F (pc' := 680) (lv' := [some (.ref b), some (.int (iI t)), some (.ref (a 0)), some (.ref (a 43)), some (.ref (a 44)), some (.int (iI (M 24 0))), some (.int (iI (M 24 6))), none, some (.int (iI (o + (M 30 i)))), some (.int (iI i)), some (.int (iI (dz (M 32 i / M 30 i) sz (M 9 4)))), some (.int (iI (sz + 1))), some (.int (iI (dz (M 32 i / M 30 i) sz (M 9 4)))), none, none, none, none, none, none]) dL_law_677 rfl rfl (by decide) rfl ?_
                                  refine k_goto F (tgt := 584) dL_law_680 (by decide) ?_
                                  refine k_lvw [some (.ref b), some (.int (iI t)), some (.ref (a 0)), some (.ref (a 43)), some (.ref (a 44)), some (.int (iI (M 24 0))), some (.int (iI (M 24 6))), none, some (.int (iI (o + (M 30 i)))), some (.int (iI i)), some (.int (iI (dz (M 32 i / M 30 i) sz (M 9 4)))), some (.int (iI (sz + 1))), none, none, none, none, none, none, none] (lvw_of _ _ [true, true, true, true, true, true, true, false, true, true, true, true, false, false, false, false, false, false, false] rfl) ?_
                                  exact ih_584 (sz + 1) (dz (M 32 i / M 30 i) sz (M 9 4)) (by omega) (by omega) (by rw [if_neg (by omega), show sz + 1 - 1 = sz by omega])
                                · skip
                                  exact absurd gr c_668
                          · skip
                            exfalso; omega
                      · skip
                        refine k_iload F (pc' := 619) dL_law_617 rfl rfl ?_
                        refine k_iconst F (pc' := 620) dL_law_619 rfl ?_
                        refine k_icmp_gt F (pc' := 623) (tgt := 643) dL_law_620 rfl (by decide) (by omega) (by decide) (fun c_620 => ?_) (fun c_620 => ?_)
                        · skip
                          exfalso; omega
                        · skip
                          refine k_iload F (pc' := 625) dL_law_623 rfl rfl ?_
                          refine k_if_le F (pc' := 628) (tgt := 645) dL_law_625 rfl (by decide) (by omega) (fun c_625 => ?_) (fun c_625 => ?_)
                          · skip
                            refine k_iload F (pc' := 647) dL_law_645 rfl rfl ?_
                            refine k_iconst F (pc' := 648) dL_law_647 rfl ?_
                            refine k_icmp_le F (pc' := 651) (tgt := 673) dL_law_648 rfl (by decide) (by omega) (by decide) (fun c_648 => ?_) (fun c_648 => ?_)
                            · skip
                              refine k_iload F (pc' := 675) dL_law_673 rfl rfl ?_
                              refine k_istore F (pc' := 677) (lv' := [some (.ref b), some (.int (iI t)), some (.ref (a 0)), some (.ref (a 43)), some (.ref (a 44)), some (.int (iI (M 24 0))), some (.int (iI (M 24 6))), none, some (.int (iI (o + (M 30 i)))), some (.int (iI i)), some (.int (iI (dz (M 32 i / M 30 i) sz (M 9 4)))), some (.int (iI sz)), some (.int (iI (dz (M 32 i / M 30 i) sz (M 9 4)))), none, none, none, none, none, none]) dL_law_675 rfl (by decide) rfl ?_
                              refine k_iinc F (pc' := 680) (lv' := [some (.ref b), some (.int (iI t)), some (.ref (a 0)), some (.ref (a 43)), some (.ref (a 44)), some (.int (iI (M 24 0))), some (.int (iI (M 24 6))), none, some (.int (iI (o + (M 30 i)))), some (.int (iI i)), some (.int (iI (dz (M 32 i / M 30 i) sz (M 9 4)))), some (.int (iI (sz + 1))), some (.int (iI (dz (M 32 i / M 30 i) sz (M 9 4)))), none, none, none, none, none, none]) dL_law_677 rfl rfl (by decide) rfl ?_
                              refine k_goto F (tgt := 584) dL_law_680 (by decide) ?_
                              refine k_lvw [some (.ref b), some (.int (iI t)), some (.ref (a 0)), some (.ref (a 43)), some (.ref (a 44)), some (.int (iI (M 24 0))), some (.int (iI (M 24 6))), none, some (.int (iI (o + (M 30 i)))), some (.int (iI i)), some (.int (iI (dz (M 32 i / M 30 i) sz (M 9 4)))), some (.int (iI (sz + 1))), none, none, none, none, none, none, none] (lvw_of _ _ [true, true, true, true, true, true, true, false, true, true, true, true, false, false, false, false, false, false, false] rfl) ?_
                              exact ih_584 (sz + 1) (dz (M 32 i / M 30 i) sz (M 9 4)) (by omega) (by omega) (by rw [if_neg (by omega), show sz + 1 - 1 = sz by omega])
                            · skip
                              refine k_iload F (pc' := 653) dL_law_651 rfl rfl ?_
                              refine k_iload F (pc' := 655) dL_law_653 rfl rfl ?_
                              refine k_icmp_le F (pc' := 658) (tgt := 673) dL_law_655 rfl (by decide) (by omega) (by omega) (fun c_655 => ?_) (fun c_655 => ?_)
                              · skip
                                refine k_iload F (pc' := 675) dL_law_673 rfl rfl ?_
                                refine k_istore F (pc' := 677) (lv' := [some (.ref b), some (.int (iI t)), some (.ref (a 0)), some (.ref (a 43)), some (.ref (a 44)), some (.int (iI (M 24 0))), some (.int (iI (M 24 6))), none, some (.int (iI (o + (M 30 i)))), some (.int (iI i)), some (.int (iI (dz (M 32 i / M 30 i) sz (M 9 4)))), some (.int (iI sz)), some (.int (iI (dz (M 32 i / M 30 i) sz (M 9 4)))), none, none, none, none, none, none]) dL_law_675 rfl (by decide) rfl ?_
                                refine k_iinc F (pc' := 680) (lv' := [some (.ref b), some (.int (iI t)), some (.ref (a 0)), some (.ref (a 43)), some (.ref (a 44)), some (.int (iI (M 24 0))), some (.int (iI (M 24 6))), none, some (.int (iI (o + (M 30 i)))), some (.int (iI i)), some (.int (iI (dz (M 32 i / M 30 i) sz (M 9 4)))), some (.int (iI (sz + 1))), some (.int (iI (dz (M 32 i / M 30 i) sz (M 9 4)))), none, none, none, none, none, none]) dL_law_677 rfl rfl (by decide) rfl ?_
                                refine k_goto F (tgt := 584) dL_law_680 (by decide) ?_
                                refine k_lvw [some (.ref b), some (.int (iI t)), some (.ref (a 0)), some (.ref (a 43)), some (.ref (a 44)), some (.int (iI (M 24 0))), some (.int (iI (M 24 6))), none, some (.int (iI (o + (M 30 i)))), some (.int (iI i)), some (.int (iI (dz (M 32 i / M 30 i) sz (M 9 4)))), some (.int (iI (sz + 1))), none, none, none, none, none, none, none] (lvw_of _ _ [true, true, true, true, true, true, true, false, true, true, true, true, false, false, false, false, false, false, false] rfl) ?_
                                exact ih_584 (sz + 1) (dz (M 32 i / M 30 i) sz (M 9 4)) (by omega) (by omega) (by rw [if_neg (by omega), show sz + 1 - 1 = sz by omega])
                              · skip
                                refine k_aload_n F (pc' := 659) dL_law_658 rfl rfl ?_
                                refine k_iload F (pc' := 661) dL_law_659 rfl rfl ?_
                                refine k_iload F (pc' := 663) dL_law_661 rfl rfl ?_
                                refine k_callI F K (XL_c b nS xs) (fun _ h9 => h9) X0 hcs (pc' := 666) (st := []) (e4_grows (X := XL b nS xs) XL_S l a M i (dz (M 32 i / M 30 i) sz (M 9 4)) (by omega) (by omega) hC) (cwV 2 F.2.2.2.2 (goodIn_L gL_law_X4_grows) rfl rfl rfl (by decide +kernel) ⟨Nat.le_of_ble_eq_true rfl, Nat.le_of_ble_eq_true rfl⟩) rfl rfl rfl rfl (Nat.le_of_ble_eq_true rfl) dL_law_663 rfl (fun z_663 M_663 q_663 => ?_)
                                obtain ⟨rfl, mq_663⟩ := q_663
                                have mq_663 := mq_663.symm; subst mq_663
                                have gr : growsI (fun t => dz (M 32 i / M 30 i) t (M 9 4)) (dz (M 32 i / M 30 i) sz (M 9 4)) 1 = sz := grows_at (by omega) (Int.le_refl _) (fun t t1 t2 => by rcases hd0 with z | z; omega; have := z.2.2.2 t t1 t2; omega)
                                refine k_iload F (pc' := 668) dL_law_666 rfl rfl ?_
                                refine k_icmp_eq F (pc' := 671) (tgt := 673) dL_law_668 rfl (by decide) (by rw [gr]; omega) (by omega) (fun c_668 => ?_) (fun c_668 => ?_)
                                · skip
                                  refine k_iload F (pc' := 675) dL_law_673 rfl rfl ?_
                                  refine k_istore F (pc' := 677) (lv' := [some (.ref b), some (.int (iI t)), some (.ref (a 0)), some (.ref (a 43)), some (.ref (a 44)), some (.int (iI (M 24 0))), some (.int (iI (M 24 6))), none, some (.int (iI (o + (M 30 i)))), some (.int (iI i)), some (.int (iI (dz (M 32 i / M 30 i) sz (M 9 4)))), some (.int (iI sz)), some (.int (iI (dz (M 32 i / M 30 i) sz (M 9 4)))), none, none, none, none, none, none]) dL_law_675 rfl (by decide) rfl ?_
                                  refine k_iinc F (pc' := 680) (lv' := [some (.ref b), some (.int (iI t)), some (.ref (a 0)), some (.ref (a 43)), some (.ref (a 44)), some (.int (iI (M 24 0))), some (.int (iI (M 24 6))), none, some (.int (iI (o + (M 30 i)))), some (.int (iI i)), some (.int (iI (dz (M 32 i / M 30 i) sz (M 9 4)))), some (.int (iI (sz + 1))), some (.int (iI (dz (M 32 i / M 30 i) sz (M 9 4)))), none, none, none, none, none, none]) dL_law_677 rfl rfl (by decide) rfl ?_
                                  refine k_goto F (tgt := 584) dL_law_680 (by decide) ?_
                                  refine k_lvw [some (.ref b), some (.int (iI t)), some (.ref (a 0)), some (.ref (a 43)), some (.ref (a 44)), some (.int (iI (M 24 0))), some (.int (iI (M 24 6))), none, some (.int (iI (o + (M 30 i)))), some (.int (iI i)), some (.int (iI (dz (M 32 i / M 30 i) sz (M 9 4)))), some (.int (iI (sz + 1))), none, none, none, none, none, none, none] (lvw_of _ _ [true, true, true, true, true, true, true, false, true, true, true, true, false, false, false, false, false, false, false] rfl) ?_
                                  exact ih_584 (sz + 1) (dz (M 32 i / M 30 i) sz (M 9 4)) (by omega) (by omega) (by rw [if_neg (by omega), show sz + 1 - 1 = sz by omega])
                                · skip
                                  exact absurd gr c_668
                          · skip
                            have dl := dots_up hC (c := i) (sz := sz) (by omega) (by omega) (by omega)
                            refine k_iload F (pc' := 630) dL_law_628 rfl rfl ?_
                            refine k_aload_n F (pc' := 631) dL_law_630 rfl rfl ?_
                            refine k_iload F (pc' := 633) dL_law_631 rfl rfl ?_
                            refine k_iconst F (pc' := 634) dL_law_633 rfl ?_
                            refine k_isub F (pc' := 635) dL_law_634 rfl ?_
                            refine k_iload F (pc' := 637) dL_law_635 rfl rfl ?_
                            refine k_callI F K (XL_c b nS xs) (fun _ h9 => h9) X0 hcs (pc' := 640) (st := [.int (iI (dz (M 32 i / M 30 i) sz (M 9 4)))]) (e4_dots (X := XL b nS xs) XL_S l a M (i - 1) sz (by omega) (by omega) hC) (cwV 2 F.2.2.2.2 (goodIn_L gL_law_X4_dots) rfl rfl rfl (by decide +kernel) ⟨Nat.le_of_ble_eq_true rfl, Nat.le_of_ble_eq_true rfl⟩) rfl rfl rfl rfl (Nat.le_of_ble_eq_true rfl) dL_law_637 rfl (fun z_637 M_637 q_637 => ?_)
                            obtain ⟨rfl, mq_637⟩ := q_637
                            have mq_637 := mq_637.symm; subst mq_637
                            have dz_637 := CI_dz hC (c := i - 1) (sz := sz) (by omega) (by omega)
                            refine k_icmp_ge F (pc' := 643) (tgt := 645) dL_law_640 rfl (by decide) (by omega) (by omega) (fun c_640 => ?_) (fun c_640 => ?_)
                            · skip
                              refine k_iload F (pc' := 647) dL_law_645 rfl rfl ?_
                              refine k_iconst F (pc' := 648) dL_law_647 rfl ?_
                              refine k_icmp_le F (pc' := 651) (tgt := 673) dL_law_648 rfl (by decide) (by omega) (by decide) (fun c_648 => ?_) (fun c_648 => ?_)
                              · skip
                                refine k_iload F (pc' := 675) dL_law_673 rfl rfl ?_
                                refine k_istore F (pc' := 677) (lv' := [some (.ref b), some (.int (iI t)), some (.ref (a 0)), some (.ref (a 43)), some (.ref (a 44)), some (.int (iI (M 24 0))), some (.int (iI (M 24 6))), none, some (.int (iI (o + (M 30 i)))), some (.int (iI i)), some (.int (iI (dz (M 32 i / M 30 i) sz (M 9 4)))), some (.int (iI sz)), some (.int (iI (dz (M 32 i / M 30 i) sz (M 9 4)))), none, none, none, none, none, none]) dL_law_675 rfl (by decide) rfl ?_
                                refine k_iinc F (pc' := 680) (lv' := [some (.ref b), some (.int (iI t)), some (.ref (a 0)), some (.ref (a 43)), some (.ref (a 44)), some (.int (iI (M 24 0))), some (.int (iI (M 24 6))), none, some (.int (iI (o + (M 30 i)))), some (.int (iI i)), some (.int (iI (dz (M 32 i / M 30 i) sz (M 9 4)))), some (.int (iI (sz + 1))), some (.int (iI (dz (M 32 i / M 30 i) sz (M 9 4)))), none, none, none, none, none, none]) dL_law_677 rfl rfl (by decide) rfl ?_
                                refine k_goto F (tgt := 584) dL_law_680 (by decide) ?_
                                refine k_lvw [some (.ref b), some (.int (iI t)), some (.ref (a 0)), some (.ref (a 43)), some (.ref (a 44)), some (.int (iI (M 24 0))), some (.int (iI (M 24 6))), none, some (.int (iI (o + (M 30 i)))), some (.int (iI i)), some (.int (iI (dz (M 32 i / M 30 i) sz (M 9 4)))), some (.int (iI (sz + 1))), none, none, none, none, none, none, none] (lvw_of _ _ [true, true, true, true, true, true, true, false, true, true, true, true, false, false, false, false, false, false, false] rfl) ?_
                                exact ih_584 (sz + 1) (dz (M 32 i / M 30 i) sz (M 9 4)) (by omega) (by omega) (by rw [if_neg (by omega), show sz + 1 - 1 = sz by omega])
                              · skip
                                refine k_iload F (pc' := 653) dL_law_651 rfl rfl ?_
                                refine k_iload F (pc' := 655) dL_law_653 rfl rfl ?_
                                refine k_icmp_le F (pc' := 658) (tgt := 673) dL_law_655 rfl (by decide) (by omega) (by omega) (fun c_655 => ?_) (fun c_655 => ?_)
                                · skip
                                  refine k_iload F (pc' := 675) dL_law_673 rfl rfl ?_
                                  refine k_istore F (pc' := 677) (lv' := [some (.ref b), some (.int (iI t)), some (.ref (a 0)), some (.ref (a 43)), some (.ref (a 44)), some (.int (iI (M 24 0))), some (.int (iI (M 24 6))), none, some (.int (iI (o + (M 30 i)))), some (.int (iI i)), some (.int (iI (dz (M 32 i / M 30 i) sz (M 9 4)))), some (.int (iI sz)), some (.int (iI (dz (M 32 i / M 30 i) sz (M 9 4)))), none, none, none, none, none, none]) dL_law_675 rfl (by decide) rfl ?_
                                  refine k_iinc F (pc' := 680) (lv' := [some (.ref b), some (.int (iI t)), some (.ref (a 0)), some (.ref (a 43)), some (.ref (a 44)), some (.int (iI (M 24 0))), some (.int (iI (M 24 6))), none, some (.int (iI (o + (M 30 i)))), some (.int (iI i)), some (.int (iI (dz (M 32 i / M 30 i) sz (M 9 4)))), some (.int (iI (sz + 1))), some (.int (iI (dz (M 32 i / M 30 i) sz (M 9 4)))), none, none, none, none, none, none]) dL_law_677 rfl rfl (by decide) rfl ?_
                                  refine k_goto F (tgt := 584) dL_law_680 (by decide) ?_
                                  refine k_lvw [some (.ref b), some (.int (iI t)), some (.ref (a 0)), some (.ref (a 43)), some (.ref (a 44)), some (.int (iI (M 24 0))), some (.int (iI (M 24 6))), none, some (.int (iI (o + (M 30 i)))), some (.int (iI i)), some (.int (iI (dz (M 32 i / M 30 i) sz (M 9 4)))), some (.int (iI (sz + 1))), none, none, none, none, none, none, none] (lvw_of _ _ [true, true, true, true, true, true, true, false, true, true, true, true, false, false, false, false, false, false, false] rfl) ?_
                                  exact ih_584 (sz + 1) (dz (M 32 i / M 30 i) sz (M 9 4)) (by omega) (by omega) (by rw [if_neg (by omega), show sz + 1 - 1 = sz by omega])
                                · skip
                                  refine k_aload_n F (pc' := 659) dL_law_658 rfl rfl ?_
                                  refine k_iload F (pc' := 661) dL_law_659 rfl rfl ?_
                                  refine k_iload F (pc' := 663) dL_law_661 rfl rfl ?_
                                  refine k_callI F K (XL_c b nS xs) (fun _ h9 => h9) X0 hcs (pc' := 666) (st := []) (e4_grows (X := XL b nS xs) XL_S l a M i (dz (M 32 i / M 30 i) sz (M 9 4)) (by omega) (by omega) hC) (cwV 2 F.2.2.2.2 (goodIn_L gL_law_X4_grows) rfl rfl rfl (by decide +kernel) ⟨Nat.le_of_ble_eq_true rfl, Nat.le_of_ble_eq_true rfl⟩) rfl rfl rfl rfl (Nat.le_of_ble_eq_true rfl) dL_law_663 rfl (fun z_663 M_663 q_663 => ?_)
                                  obtain ⟨rfl, mq_663⟩ := q_663
                                  have mq_663 := mq_663.symm; subst mq_663
                                  have gr : growsI (fun t => dz (M 32 i / M 30 i) t (M 9 4)) (dz (M 32 i / M 30 i) sz (M 9 4)) 1 = sz := grows_at (by omega) (Int.le_refl _) (fun t t1 t2 => by rcases hd0 with z | z; omega; have := z.2.2.2 t t1 t2; omega)
                                  refine k_iload F (pc' := 668) dL_law_666 rfl rfl ?_
                                  refine k_icmp_eq F (pc' := 671) (tgt := 673) dL_law_668 rfl (by decide) (by rw [gr]; omega) (by omega) (fun c_668 => ?_) (fun c_668 => ?_)
                                  · skip
                                    refine k_iload F (pc' := 675) dL_law_673 rfl rfl ?_
                                    refine k_istore F (pc' := 677) (lv' := [some (.ref b), some (.int (iI t)), some (.ref (a 0)), some (.ref (a 43)), some (.ref (a 44)), some (.int (iI (M 24 0))), some (.int (iI (M 24 6))), none, some (.int (iI (o + (M 30 i)))), some (.int (iI i)), some (.int (iI (dz (M 32 i / M 30 i) sz (M 9 4)))), some (.int (iI sz)), some (.int (iI (dz (M 32 i / M 30 i) sz (M 9 4)))), none, none, none, none, none, none]) dL_law_675 rfl (by decide) rfl ?_
                                    refine k_iinc F (pc' := 680) (lv' := [some (.ref b), some (.int (iI t)), some (.ref (a 0)), some (.ref (a 43)), some (.ref (a 44)), some (.int (iI (M 24 0))), some (.int (iI (M 24 6))), none, some (.int (iI (o + (M 30 i)))), some (.int (iI i)), some (.int (iI (dz (M 32 i / M 30 i) sz (M 9 4)))), some (.int (iI (sz + 1))), some (.int (iI (dz (M 32 i / M 30 i) sz (M 9 4)))), none, none, none, none, none, none]) dL_law_677 rfl rfl (by decide) rfl ?_
                                    refine k_goto F (tgt := 584) dL_law_680 (by decide) ?_
                                    refine k_lvw [some (.ref b), some (.int (iI t)), some (.ref (a 0)), some (.ref (a 43)), some (.ref (a 44)), some (.int (iI (M 24 0))), some (.int (iI (M 24 6))), none, some (.int (iI (o + (M 30 i)))), some (.int (iI i)), some (.int (iI (dz (M 32 i / M 30 i) sz (M 9 4)))), some (.int (iI (sz + 1))), none, none, none, none, none, none, none] (lvw_of _ _ [true, true, true, true, true, true, true, false, true, true, true, true, false, false, false, false, false, false, false] rfl) ?_
                                    exact ih_584 (sz + 1) (dz (M 32 i / M 30 i) sz (M 9 4)) (by omega) (by omega) (by rw [if_neg (by omega), show sz + 1 - 1 = sz by omega])
                                  · skip
                                    exact absurd gr c_668
                            · skip
                              exfalso; omega
              refine k_if_le F (pc' := 552) (tgt := 578) dL_law_549 rfl (by decide) (by omega) (fun c_549 => ?_) (fun c_549 => ?_)
              · skip
                refine k_iconst F (pc' := 579) dL_law_578 rfl ?_
                refine k_istore F (pc' := 581) (lv' := [some (.ref b), some (.int (iI t)), some (.ref (a 0)), some (.ref (a 43)), some (.ref (a 44)), some (.int (iI (M 24 0))), some (.int (iI (M 24 6))), none, some (.int (iI (o + (M 30 i)))), some (.int (iI i)), some (.int (iI 1)), none, none, none, none, none, none, none, none]) dL_law_579 rfl (by decide) rfl ?_
                refine k_iconst F (pc' := 582) dL_law_581 rfl ?_
                refine k_istore F (pc' := 584) (lv' := [some (.ref b), some (.int (iI t)), some (.ref (a 0)), some (.ref (a 43)), some (.ref (a 44)), some (.int (iI (M 24 0))), some (.int (iI (M 24 6))), none, some (.int (iI (o + (M 30 i)))), some (.int (iI i)), some (.int (iI 1)), some (.int (iI 1)), none, none, none, none, none, none, none]) dL_law_582 rfl (by decide) rfl ?_
                exact lp_584 ((61 - 1 : Int).toNat + 1) 1 1 (by omega) (by omega) ((if_pos rfl).symm)
              · skip
                have g3 := G3 (i - 1) (by omega) (by omega)
                rw [show i - 1 + 1 = i by omega] at g3
                refine k_aload_n F (pc' := 553) dL_law_552 rfl rfl ?_
                refine k_iload F (pc' := 555) dL_law_553 rfl rfl ?_
                refine k_iconst F (pc' := 556) dL_law_555 rfl ?_
                refine k_callI F K (XL_c b nS xs) (fun _ h9 => h9) X0 hcs (pc' := 559) (st := []) (e4_kind_1 (X := XL b nS xs) XL_S l a M i (by omega) hC) (cwV 2 F.2.2.2.2 (goodIn_L gL_law_X4_kind) rfl rfl rfl (by decide +kernel) ⟨Nat.le_of_ble_eq_true rfl, Nat.le_of_ble_eq_true rfl⟩) rfl rfl rfl rfl (Nat.le_of_ble_eq_true rfl) dL_law_556 rfl (fun z_556 M_556 q_556 => ?_)
                obtain ⟨rfl, mq_556⟩ := q_556
                have mq_556 := mq_556.symm; subst mq_556
                have kd_556 := (CI_grp hC).2.2.2.2 i (by omega) (by omega)
                refine k_aload_n F (pc' := 560) dL_law_559 rfl rfl ?_
                refine k_iload F (pc' := 562) dL_law_560 rfl rfl ?_
                refine k_iconst F (pc' := 563) dL_law_562 rfl ?_
                refine k_isub F (pc' := 564) dL_law_563 rfl ?_
                refine k_iconst F (pc' := 565) dL_law_564 rfl ?_
                refine k_callI F K (XL_c b nS xs) (fun _ h9 => h9) X0 hcs (pc' := 568) (st := [.int (iI (M 31 i))]) (e4_kind_1 (X := XL b nS xs) XL_S l a M (i - 1) (by omega) hC) (cwV 2 F.2.2.2.2 (goodIn_L gL_law_X4_kind) rfl rfl rfl (by decide +kernel) ⟨Nat.le_of_ble_eq_true rfl, Nat.le_of_ble_eq_true rfl⟩) rfl rfl rfl rfl (Nat.le_of_ble_eq_true rfl) dL_law_565 rfl (fun z_565 M_565 q_565 => ?_)
                obtain ⟨rfl, mq_565⟩ := q_565
                have mq_565 := mq_565.symm; subst mq_565
                have kd_565 := (CI_grp hC).2.2.2.2 (i - 1) (by omega) (by omega)
                refine k_aload F (pc' := 570) dL_law_568 rfl rfl ?_
                refine k_iconst F (pc' := 571) dL_law_570 rfl ?_
                refine k_iald F K (k := 44) (v := M 9 0) (pc' := 572) rfl (by decide) (by decide) dL_law_571 rfl (by exact hm1) ?_
                refine k_iadd F (pc' := 573) dL_law_572 rfl ?_
                refine k_icmp_gt F (pc' := 576) (tgt := 578) dL_law_573 rfl (by decide) (by omega) (by omega) (fun c_573 => ?_) (fun c_573 => ?_)
                · skip
                  refine k_iconst F (pc' := 579) dL_law_578 rfl ?_
                  refine k_istore F (pc' := 581) (lv' := [some (.ref b), some (.int (iI t)), some (.ref (a 0)), some (.ref (a 43)), some (.ref (a 44)), some (.int (iI (M 24 0))), some (.int (iI (M 24 6))), none, some (.int (iI (o + (M 30 i)))), some (.int (iI i)), some (.int (iI 1)), none, none, none, none, none, none, none, none]) dL_law_579 rfl (by decide) rfl ?_
                  refine k_iconst F (pc' := 582) dL_law_581 rfl ?_
                  refine k_istore F (pc' := 584) (lv' := [some (.ref b), some (.int (iI t)), some (.ref (a 0)), some (.ref (a 43)), some (.ref (a 44)), some (.int (iI (M 24 0))), some (.int (iI (M 24 6))), none, some (.int (iI (o + (M 30 i)))), some (.int (iI i)), some (.int (iI 1)), some (.int (iI 1)), none, none, none, none, none, none, none]) dL_law_582 rfl (by decide) rfl ?_
                  exact lp_584 ((61 - 1 : Int).toNat + 1) 1 1 (by omega) (by omega) ((if_pos rfl).symm)
                · skip
                  exfalso; omega
  exact lp_478 ((M 24 6 - 0 : Int).toNat + 1) 0 0 (by omega) (by omega) ((msI_0 _).symm)

set_option maxHeartbeats 4000000 in
set_option maxRecDepth 100000 in
theorem law_s5 (F : CallFix p m c cL_law 19 s #[.ref b] lw_tbl RL) (K : va_K D vwCl (tysT T) s) (X0 : XL b nS xs (fun q : Nat => s.heap.size ≤ q) s s.heap) (hcs : kc ≤ room_1.cells ∧ ks ≤ room_1.slots) (M : Mem) (mk t : Int) (hk : 0 ≤ mk ∧ mk ≤ 12) (hJ : BJ M mk) (kk_913 : KK kc ks p l e room_1 s m #[.ref b] below meth c (lw_Z below #[.ref b] s) D (fun q : Nat => s.heap.size ≤ q) 19 (wld T a LL M) 913 [some (.ref b), some (.int (iI t)), some (.ref (a 0)), some (.ref (a 43)), some (.ref (a 44)), some (.int (iI (M 24 0))), none, none, none, none, none, none, none, none, none, none, none, none, none] []) : KK kc ks p l e room_1 s m #[.ref b] below meth c (lw_Z below #[.ref b] s) D (fun q : Nat => s.heap.size ≤ q) 19 (wld T a LL M) 698 [some (.ref b), some (.int (iI t)), some (.ref (a 0)), some (.ref (a 43)), some (.ref (a 44)), some (.int (iI (M 24 0))), some (.int (iI (M 24 6))), none, none, none, none, none, none, none, none, none, none, none, none] [] := by
  have hB := hJ.1
  have hC := hB.1
  have hn := CI_n hC
  have hg := (CI_grp hC).1
  have b4 := hB.2.1
  have b44 := hB.2.2.1
  have r0 := CI_r0 hC
  refine k_iconst F (pc' := 699) dL_law_698 rfl ?_
  refine k_istore F (pc' := 701) (lv' := [some (.ref b), some (.int (iI t)), some (.ref (a 0)), some (.ref (a 43)), some (.ref (a 44)), some (.int (iI (M 24 0))), some (.int (iI (M 24 6))), none, none, some (.int (iI 0)), none, none, none, none, none, none, none, none, none]) dL_law_699 rfl (by decide) rfl ?_
  have lp_701 : ∀ (n_701 : Nat) (i : Int) (hm_701 : mk - i < (n_701 : Int)) (hi : 0 ≤ i ∧ i ≤ mk), KK kc ks p l e room_1 s m #[.ref b] below meth c (lw_Z below #[.ref b] s) D (fun q : Nat => s.heap.size ≤ q) 19 (wld T a LL M) 701 [some (.ref b), some (.int (iI t)), some (.ref (a 0)), some (.ref (a 43)), some (.ref (a 44)), some (.int (iI (M 24 0))), some (.int (iI (M 24 6))), none, none, some (.int (iI i)), none, none, none, none, none, none, none, none, none] [] := by
    intro n_701
    induction n_701 with
    | zero => intro i hm_701 hi; exfalso; omega
    | succ n_701 ih_701 =>
      intro i hm_701 hi
      refine k_iload F (pc' := 703) dL_law_701 rfl rfl ?_
      refine k_aload F (pc' := 705) dL_law_703 rfl rfl ?_
      refine k_iconst F (pc' := 706) dL_law_705 rfl ?_
      refine k_iald F K (k := 44) (v := mk) (pc' := 707) rfl (by decide) (by decide) dL_law_706 rfl (by exact b44) ?_
      refine k_icmp_ge F (pc' := 710) (tgt := 913) dL_law_707 rfl (by decide) (by omega) (by omega) (fun c_707 => ?_) (fun c_707 => ?_)
      · skip
        refine k_lvw [some (.ref b), some (.int (iI t)), some (.ref (a 0)), some (.ref (a 43)), some (.ref (a 44)), some (.int (iI (M 24 0))), none, none, none, none, none, none, none, none, none, none, none, none, none] (lvw_of _ _ [true, true, true, true, true, true, false, false, false, false, false, false, false, false, false, false, false, false, false] rfl) ?_
        exact kk_913  
      · skip
        refine k_iconst F (pc' := 711) dL_law_710 rfl ?_
        refine k_istore F (pc' := 713) (lv' := [some (.ref b), some (.int (iI t)), some (.ref (a 0)), some (.ref (a 43)), some (.ref (a 44)), some (.int (iI (M 24 0))), some (.int (iI (M 24 6))), none, none, some (.int (iI i)), some (.int (iI 0)), none, none, none, none, none, none, none, none]) dL_law_711 rfl (by decide) rfl ?_
        have lp_713 : ∀ (n_713 : Nat) (j : Int) (hm_713 : mk - j < (n_713 : Int)) (hj : 0 ≤ j ∧ j ≤ mk), KK kc ks p l e room_1 s m #[.ref b] below meth c (lw_Z below #[.ref b] s) D (fun q : Nat => s.heap.size ≤ q) 19 (wld T a LL M) 713 [some (.ref b), some (.int (iI t)), some (.ref (a 0)), some (.ref (a 43)), some (.ref (a 44)), some (.int (iI (M 24 0))), some (.int (iI (M 24 6))), none, none, some (.int (iI i)), some (.int (iI j)), none, none, none, none, none, none, none, none] [] := by
          intro n_713
          induction n_713 with
          | zero => intro j hm_713 hj; exfalso; omega
          | succ n_713 ih_713 =>
            intro j hm_713 hj
            refine k_iload F (pc' := 715) dL_law_713 rfl rfl ?_
            refine k_aload F (pc' := 717) dL_law_715 rfl rfl ?_
            refine k_iconst F (pc' := 718) dL_law_717 rfl ?_
            refine k_iald F K (k := 44) (v := mk) (pc' := 719) rfl (by decide) (by decide) dL_law_718 rfl (by exact b44) ?_
            refine k_icmp_ge F (pc' := 722) (tgt := 907) dL_law_719 rfl (by decide) (by omega) (by omega) (fun c_719 => ?_) (fun c_719 => ?_)
            · skip
              refine k_iinc F (pc' := 910) (lv' := [some (.ref b), some (.int (iI t)), some (.ref (a 0)), some (.ref (a 43)), some (.ref (a 44)), some (.int (iI (M 24 0))), some (.int (iI (M 24 6))), none, none, some (.int (iI (i + 1))), some (.int (iI j)), none, none, none, none, none, none, none, none]) dL_law_907 rfl rfl (by decide) rfl ?_
              refine k_goto F (tgt := 701) dL_law_910 (by decide) ?_
              refine k_lvw [some (.ref b), some (.int (iI t)), some (.ref (a 0)), some (.ref (a 43)), some (.ref (a 44)), some (.int (iI (M 24 0))), some (.int (iI (M 24 6))), none, none, some (.int (iI (i + 1))), none, none, none, none, none, none, none, none, none] (lvw_of _ _ [true, true, true, true, true, true, true, false, false, true, false, false, false, false, false, false, false, false, false] rfl) ?_
              exact ih_701 (i + 1) (by omega) (by omega)
            · skip
              refine k_aload_n F (pc' := 723) dL_law_722 rfl rfl ?_
              refine k_iload F (pc' := 725) dL_law_723 rfl rfl ?_
              refine k_iconst F (pc' := 726) dL_law_725 rfl ?_
              refine k_callI F K (XL_c b nS xs) (fun _ h9 => h9) X0 hcs (pc' := 729) (st := []) (e4_told_4 (X := XL b nS xs) XL_S l a M i (by omega) hC) (cwV 2 F.2.2.2.2 (goodIn_L gL_law_X4_told) rfl rfl rfl (by decide +kernel) ⟨Nat.le_of_ble_eq_true rfl, Nat.le_of_ble_eq_true rfl⟩) rfl rfl rfl rfl (Nat.le_of_ble_eq_true rfl) dL_law_726 rfl (fun z_726 M_726 q_726 => ?_)
              obtain ⟨we_726, mq_726⟩ := q_726
              have mq_726 := mq_726.symm; subst mq_726
              have wr_726 := wedge_R we_726
              refine k_if_ge F (pc' := 732) (tgt := 901) dL_law_729 rfl (by decide) (by omega) (fun c_729 => ?_) (fun c_729 => ?_)
              · skip
                refine k_iinc F (pc' := 904) (lv' := [some (.ref b), some (.int (iI t)), some (.ref (a 0)), some (.ref (a 43)), some (.ref (a 44)), some (.int (iI (M 24 0))), some (.int (iI (M 24 6))), none, none, some (.int (iI i)), some (.int (iI (j + 1))), none, none, none, none, none, none, none, none]) dL_law_901 rfl rfl (by decide) rfl ?_
                refine k_goto F (tgt := 713) dL_law_904 (by decide) ?_
                exact ih_713 (j + 1) (by omega) (by omega)
              · skip
                refine k_aload_n F (pc' := 733) dL_law_732 rfl rfl ?_
                refine k_iload F (pc' := 735) dL_law_733 rfl rfl ?_
                refine k_iconst F (pc' := 736) dL_law_735 rfl ?_
                refine k_callI F K (XL_c b nS xs) (fun _ h9 => h9) X0 hcs (pc' := 739) (st := []) (e4_told_4 (X := XL b nS xs) XL_S l a M j (by omega) hC) (cwV 2 F.2.2.2.2 (goodIn_L gL_law_X4_told) rfl rfl rfl (by decide +kernel) ⟨Nat.le_of_ble_eq_true rfl, Nat.le_of_ble_eq_true rfl⟩) rfl rfl rfl rfl (Nat.le_of_ble_eq_true rfl) dL_law_736 rfl (fun z_736 M_736 q_736 => ?_)
                obtain ⟨we_736, mq_736⟩ := q_736
                have mq_736 := mq_736.symm; subst mq_736
                have wr_736 := wedge_R we_736
                refine k_if_ge F (pc' := 742) (tgt := 901) dL_law_739 rfl (by decide) (by omega) (fun c_739 => ?_) (fun c_739 => ?_)
                · skip
                  refine k_iinc F (pc' := 904) (lv' := [some (.ref b), some (.int (iI t)), some (.ref (a 0)), some (.ref (a 43)), some (.ref (a 44)), some (.int (iI (M 24 0))), some (.int (iI (M 24 6))), none, none, some (.int (iI i)), some (.int (iI (j + 1))), none, none, none, none, none, none, none, none]) dL_law_901 rfl rfl (by decide) rfl ?_
                  refine k_goto F (tgt := 713) dL_law_904 (by decide) ?_
                  exact ih_713 (j + 1) (by omega) (by omega)
                · skip
                  refine k_aload_n F (pc' := 743) dL_law_742 rfl rfl ?_
                  refine k_iload F (pc' := 745) dL_law_743 rfl rfl ?_
                  refine k_iconst F (pc' := 746) dL_law_745 rfl ?_
                  refine k_callI F K (XL_c b nS xs) (fun _ h9 => h9) X0 hcs (pc' := 749) (st := []) (e4_told_0 (X := XL b nS xs) XL_S l a M i (by omega) hC) (cwV 2 F.2.2.2.2 (goodIn_L gL_law_X4_told) rfl rfl rfl (by decide +kernel) ⟨Nat.le_of_ble_eq_true rfl, Nat.le_of_ble_eq_true rfl⟩) rfl rfl rfl rfl (Nat.le_of_ble_eq_true rfl) dL_law_746 rfl (fun z_746 M_746 q_746 => ?_)
                  obtain ⟨rfl, mq_746⟩ := q_746
                  have mq_746 := mq_746.symm; subst mq_746
                  have ed_746 := CI_edge hC (i)
                  refine k_iconst F (pc' := 750) dL_law_749 rfl ?_
                  refine k_icmp_ne F (pc' := 753) (tgt := 901) dL_law_750 rfl (by decide) (by omega) (by decide) (fun c_750 => ?_) (fun c_750 => ?_)
                  · skip
                    refine k_iinc F (pc' := 904) (lv' := [some (.ref b), some (.int (iI t)), some (.ref (a 0)), some (.ref (a 43)), some (.ref (a 44)), some (.int (iI (M 24 0))), some (.int (iI (M 24 6))), none, none, some (.int (iI i)), some (.int (iI (j + 1))), none, none, none, none, none, none, none, none]) dL_law_901 rfl rfl (by decide) rfl ?_
                    refine k_goto F (tgt := 713) dL_law_904 (by decide) ?_
                    exact ih_713 (j + 1) (by omega) (by omega)
                  · skip
                    refine k_aload_n F (pc' := 754) dL_law_753 rfl rfl ?_
                    refine k_iload F (pc' := 756) dL_law_754 rfl rfl ?_
                    refine k_iconst F (pc' := 757) dL_law_756 rfl ?_
                    refine k_callI F K (XL_c b nS xs) (fun _ h9 => h9) X0 hcs (pc' := 760) (st := []) (e4_told_0 (X := XL b nS xs) XL_S l a M j (by omega) hC) (cwV 2 F.2.2.2.2 (goodIn_L gL_law_X4_told) rfl rfl rfl (by decide +kernel) ⟨Nat.le_of_ble_eq_true rfl, Nat.le_of_ble_eq_true rfl⟩) rfl rfl rfl rfl (Nat.le_of_ble_eq_true rfl) dL_law_757 rfl (fun z_757 M_757 q_757 => ?_)
                    obtain ⟨rfl, mq_757⟩ := q_757
                    have mq_757 := mq_757.symm; subst mq_757
                    have ed_757 := CI_edge hC (j)
                    refine k_if_ne F (pc' := 763) (tgt := 901) dL_law_760 rfl (by decide) (by omega) (fun c_760 => ?_) (fun c_760 => ?_)
                    · skip
                      refine k_iinc F (pc' := 904) (lv' := [some (.ref b), some (.int (iI t)), some (.ref (a 0)), some (.ref (a 43)), some (.ref (a 44)), some (.int (iI (M 24 0))), some (.int (iI (M 24 6))), none, none, some (.int (iI i)), some (.int (iI (j + 1))), none, none, none, none, none, none, none, none]) dL_law_901 rfl rfl (by decide) rfl ?_
                      refine k_goto F (tgt := 713) dL_law_904 (by decide) ?_
                      exact ih_713 (j + 1) (by omega) (by omega)
                    · skip
                      refine k_aload_n F (pc' := 764) dL_law_763 rfl rfl ?_
                      refine k_iload F (pc' := 766) dL_law_764 rfl rfl ?_
                      refine k_iconst F (pc' := 767) dL_law_766 rfl ?_
                      refine k_callI F K (XL_c b nS xs) (fun _ h9 => h9) X0 hcs (pc' := 770) (st := []) (e4_told_1 (X := XL b nS xs) XL_S l a M j (by omega) hC) (cwV 2 F.2.2.2.2 (goodIn_L gL_law_X4_told) rfl rfl rfl (by decide +kernel) ⟨Nat.le_of_ble_eq_true rfl, Nat.le_of_ble_eq_true rfl⟩) rfl rfl rfl rfl (Nat.le_of_ble_eq_true rfl) dL_law_767 rfl (fun z_767 M_767 q_767 => ?_)
                      obtain ⟨rfl, mq_767⟩ := q_767
                      have mq_767 := mq_767.symm; subst mq_767
                      have ed_767 := CI_edge hC (j)
                      refine k_aload_n F (pc' := 771) dL_law_770 rfl rfl ?_
                      refine k_iload F (pc' := 773) dL_law_771 rfl rfl ?_
                      refine k_iconst F (pc' := 774) dL_law_773 rfl ?_
                      refine k_callI F K (XL_c b nS xs) (fun _ h9 => h9) X0 hcs (pc' := 777) (st := [.int (iI (M 6 j))]) (e4_told_1 (X := XL b nS xs) XL_S l a M i (by omega) hC) (cwV 2 F.2.2.2.2 (goodIn_L gL_law_X4_told) rfl rfl rfl (by decide +kernel) ⟨Nat.le_of_ble_eq_true rfl, Nat.le_of_ble_eq_true rfl⟩) rfl rfl rfl rfl (Nat.le_of_ble_eq_true rfl) dL_law_774 rfl (fun z_774 M_774 q_774 => ?_)
                      obtain ⟨rfl, mq_774⟩ := q_774
                      have mq_774 := mq_774.symm; subst mq_774
                      have ed_774 := CI_edge hC (i)
                      refine k_icmp_le F (pc' := 780) (tgt := 901) dL_law_777 rfl (by decide) (by omega) (by omega) (fun c_777 => ?_) (fun c_777 => ?_)
                      · skip
                        refine k_iinc F (pc' := 904) (lv' := [some (.ref b), some (.int (iI t)), some (.ref (a 0)), some (.ref (a 43)), some (.ref (a 44)), some (.int (iI (M 24 0))), some (.int (iI (M 24 6))), none, none, some (.int (iI i)), some (.int (iI (j + 1))), none, none, none, none, none, none, none, none]) dL_law_901 rfl rfl (by decide) rfl ?_
                        refine k_goto F (tgt := 713) dL_law_904 (by decide) ?_
                        exact ih_713 (j + 1) (by omega) (by omega)
                      · skip
                        refine k_aload_n F (pc' := 781) dL_law_780 rfl rfl ?_
                        refine k_iload F (pc' := 783) dL_law_781 rfl rfl ?_
                        refine k_iconst F (pc' := 784) dL_law_783 rfl ?_
                        refine k_callI F K (XL_c b nS xs) (fun _ h9 => h9) X0 hcs (pc' := 787) (st := []) (e4_told_1 (X := XL b nS xs) XL_S l a M j (by omega) hC) (cwV 2 F.2.2.2.2 (goodIn_L gL_law_X4_told) rfl rfl rfl (by decide +kernel) ⟨Nat.le_of_ble_eq_true rfl, Nat.le_of_ble_eq_true rfl⟩) rfl rfl rfl rfl (Nat.le_of_ble_eq_true rfl) dL_law_784 rfl (fun z_784 M_784 q_784 => ?_)
                        obtain ⟨rfl, mq_784⟩ := q_784
                        have mq_784 := mq_784.symm; subst mq_784
                        have ed_784 := CI_edge hC (j)
                        refine k_aload_n F (pc' := 788) dL_law_787 rfl rfl ?_
                        refine k_iload F (pc' := 790) dL_law_788 rfl rfl ?_
                        refine k_iconst F (pc' := 791) dL_law_790 rfl ?_
                        refine k_callI F K (XL_c b nS xs) (fun _ h9 => h9) X0 hcs (pc' := 794) (st := [.int (iI (M 6 j))]) (e4_told_1 (X := XL b nS xs) XL_S l a M i (by omega) hC) (cwV 2 F.2.2.2.2 (goodIn_L gL_law_X4_told) rfl rfl rfl (by decide +kernel) ⟨Nat.le_of_ble_eq_true rfl, Nat.le_of_ble_eq_true rfl⟩) rfl rfl rfl rfl (Nat.le_of_ble_eq_true rfl) dL_law_791 rfl (fun z_791 M_791 q_791 => ?_)
                        obtain ⟨rfl, mq_791⟩ := q_791
                        have mq_791 := mq_791.symm; subst mq_791
                        have ed_791 := CI_edge hC (i)
                        refine k_sipush F (pc' := 797) dL_law_794 rfl (by decide +kernel) ?_
                        refine k_iadd F (pc' := 798) dL_law_797 rfl ?_
                        refine k_icmp_gt F (pc' := 801) (tgt := 901) dL_law_798 rfl (by decide) (by omega) (by omega) (fun c_798 => ?_) (fun c_798 => ?_)
                        · skip
                          refine k_iinc F (pc' := 904) (lv' := [some (.ref b), some (.int (iI t)), some (.ref (a 0)), some (.ref (a 43)), some (.ref (a 44)), some (.int (iI (M 24 0))), some (.int (iI (M 24 6))), none, none, some (.int (iI i)), some (.int (iI (j + 1))), none, none, none, none, none, none, none, none]) dL_law_901 rfl rfl (by decide) rfl ?_
                          refine k_goto F (tgt := 713) dL_law_904 (by decide) ?_
                          exact ih_713 (j + 1) (by omega) (by omega)
                        · skip
                          refine k_aload_n F (pc' := 802) dL_law_801 rfl rfl ?_
                          refine k_iload F (pc' := 804) dL_law_802 rfl rfl ?_
                          refine k_iconst F (pc' := 805) dL_law_804 rfl ?_
                          refine k_callI F K (XL_c b nS xs) (fun _ h9 => h9) X0 hcs (pc' := 808) (st := []) (e4_told_3 (X := XL b nS xs) XL_S l a M i (by omega) hC) (cwV 2 F.2.2.2.2 (goodIn_L gL_law_X4_told) rfl rfl rfl (by decide +kernel) ⟨Nat.le_of_ble_eq_true rfl, Nat.le_of_ble_eq_true rfl⟩) rfl rfl rfl rfl (Nat.le_of_ble_eq_true rfl) dL_law_805 rfl (fun z_805 M_805 q_805 => ?_)
                          obtain ⟨rfl, mq_805⟩ := q_805
                          have mq_805 := mq_805.symm; subst mq_805
                          have ed_805 := CI_edge hC (i)
                          refine k_aload_n F (pc' := 809) dL_law_808 rfl rfl ?_
                          refine k_iload F (pc' := 811) dL_law_809 rfl rfl ?_
                          refine k_iconst F (pc' := 812) dL_law_811 rfl ?_
                          refine k_callI F K (XL_c b nS xs) (fun _ h9 => h9) X0 hcs (pc' := 815) (st := [.int (iI (M 8 i))]) (e4_told_2 (X := XL b nS xs) XL_S l a M j (by omega) hC) (cwV 2 F.2.2.2.2 (goodIn_L gL_law_X4_told) rfl rfl rfl (by decide +kernel) ⟨Nat.le_of_ble_eq_true rfl, Nat.le_of_ble_eq_true rfl⟩) rfl rfl rfl rfl (Nat.le_of_ble_eq_true rfl) dL_law_812 rfl (fun z_812 M_812 q_812 => ?_)
                          obtain ⟨rfl, mq_812⟩ := q_812
                          have mq_812 := mq_812.symm; subst mq_812
                          have ed_812 := CI_edge hC (j)
                          refine k_icmp_le F (pc' := 818) (tgt := 901) dL_law_815 rfl (by decide) (by omega) (by omega) (fun c_815 => ?_) (fun c_815 => ?_)
                          · skip
                            refine k_iinc F (pc' := 904) (lv' := [some (.ref b), some (.int (iI t)), some (.ref (a 0)), some (.ref (a 43)), some (.ref (a 44)), some (.int (iI (M 24 0))), some (.int (iI (M 24 6))), none, none, some (.int (iI i)), some (.int (iI (j + 1))), none, none, none, none, none, none, none, none]) dL_law_901 rfl rfl (by decide) rfl ?_
                            refine k_goto F (tgt := 713) dL_law_904 (by decide) ?_
                            exact ih_713 (j + 1) (by omega) (by omega)
                          · skip
                            refine k_aload_n F (pc' := 819) dL_law_818 rfl rfl ?_
                            refine k_iload F (pc' := 821) dL_law_819 rfl rfl ?_
                            refine k_iconst F (pc' := 822) dL_law_821 rfl ?_
                            refine k_callI F K (XL_c b nS xs) (fun _ h9 => h9) X0 hcs (pc' := 825) (st := []) (e4_told_3 (X := XL b nS xs) XL_S l a M j (by omega) hC) (cwV 2 F.2.2.2.2 (goodIn_L gL_law_X4_told) rfl rfl rfl (by decide +kernel) ⟨Nat.le_of_ble_eq_true rfl, Nat.le_of_ble_eq_true rfl⟩) rfl rfl rfl rfl (Nat.le_of_ble_eq_true rfl) dL_law_822 rfl (fun z_822 M_822 q_822 => ?_)
                            obtain ⟨rfl, mq_822⟩ := q_822
                            have mq_822 := mq_822.symm; subst mq_822
                            have ed_822 := CI_edge hC (j)
                            refine k_aload_n F (pc' := 826) dL_law_825 rfl rfl ?_
                            refine k_iload F (pc' := 828) dL_law_826 rfl rfl ?_
                            refine k_iconst F (pc' := 829) dL_law_828 rfl ?_
                            refine k_callI F K (XL_c b nS xs) (fun _ h9 => h9) X0 hcs (pc' := 832) (st := [.int (iI (M 8 j))]) (e4_told_2 (X := XL b nS xs) XL_S l a M i (by omega) hC) (cwV 2 F.2.2.2.2 (goodIn_L gL_law_X4_told) rfl rfl rfl (by decide +kernel) ⟨Nat.le_of_ble_eq_true rfl, Nat.le_of_ble_eq_true rfl⟩) rfl rfl rfl rfl (Nat.le_of_ble_eq_true rfl) dL_law_829 rfl (fun z_829 M_829 q_829 => ?_)
                            obtain ⟨rfl, mq_829⟩ := q_829
                            have mq_829 := mq_829.symm; subst mq_829
                            have ed_829 := CI_edge hC (i)
                            refine k_icmp_gt F (pc' := 835) (tgt := 838) dL_law_832 rfl (by decide) (by omega) (by omega) (fun c_832 => ?_) (fun c_832 => ?_)
                            · skip
                              have hcan : canC M i j := by
                                have y1 := hJ.2 i (by omega) (by omega)
                                have y2 := hJ.2 j (by omega) (by omega)
                                exact ⟨⟨by omega, by omega, by omega, by omega⟩, by omega⟩
                              refine k_iconst F (pc' := 839) dL_law_838 rfl ?_
                              refine k_istore F (pc' := 841) (lv' := [some (.ref b), some (.int (iI t)), some (.ref (a 0)), some (.ref (a 43)), some (.ref (a 44)), some (.int (iI (M 24 0))), some (.int (iI (M 24 6))), none, none, some (.int (iI i)), some (.int (iI j)), some (.int (iI 0)), none, none, none, none, none, none, none]) dL_law_839 rfl (by decide) rfl ?_
                              refine k_iconst F (pc' := 842) dL_law_841 rfl ?_
                              refine k_istore F (pc' := 844) (lv' := [some (.ref b), some (.int (iI t)), some (.ref (a 0)), some (.ref (a 43)), some (.ref (a 44)), some (.int (iI (M 24 0))), some (.int (iI (M 24 6))), none, none, some (.int (iI i)), some (.int (iI j)), some (.int (iI 0)), some (.int (iI 0)), none, none, none, none, none, none]) dL_law_842 rfl (by decide) rfl ?_
                              have lp_844 : ∀ (n_844 : Nat) (ov : Int) (q : Int) (hm_844 : M 24 0 - q < (n_844 : Int)) (hq : 0 ≤ q ∧ q ≤ M 24 0) (hov : ov = 0 ∨ ov = 1) (hno : ov = 0 → ∀ g, 0 ≤ g → g < q → ¬ (M 6 i ≤ M 26 g ∧ M 25 g ≤ M 6 j)), KK kc ks p l e room_1 s m #[.ref b] below meth c (lw_Z below #[.ref b] s) D (fun q : Nat => s.heap.size ≤ q) 19 (wld T a LL M) 844 [some (.ref b), some (.int (iI t)), some (.ref (a 0)), some (.ref (a 43)), some (.ref (a 44)), some (.int (iI (M 24 0))), some (.int (iI (M 24 6))), none, none, some (.int (iI i)), some (.int (iI j)), some (.int (iI ov)), some (.int (iI q)), none, none, none, none, none, none] [] := by
                                intro n_844
                                induction n_844 with
                                | zero => intro ov q hm_844 hq hov hno; exfalso; omega
                                | succ n_844 ih_844 =>
                                  intro ov q hm_844 hq hov hno
                                  refine k_iload F (pc' := 846) dL_law_844 rfl rfl ?_
                                  refine k_iload F (pc' := 848) dL_law_846 rfl rfl ?_
                                  refine k_icmp_ge F (pc' := 851) (tgt := 894) dL_law_848 rfl (by decide) (by omega) (by omega) (fun c_848 => ?_) (fun c_848 => ?_)
                                  · skip
                                    have hno2 : ov = 0 → False := fun z => by
                                      obtain ⟨g, g0, g1, g2, g3⟩ := CI_max hC (u := i) (d := j) (by omega) (by omega) (by omega) hcan
                                      exact hno z g g0 (by omega) ⟨g3, g2⟩
                                    refine k_iload F (pc' := 896) dL_law_894 rfl rfl ?_
                                    refine k_if_ne F (pc' := 899) (tgt := 901) dL_law_896 rfl (by decide) (by omega) (fun c_896 => ?_) (fun c_896 => ?_)
                                    · skip
                                      refine k_iinc F (pc' := 904) (lv' := [some (.ref b), some (.int (iI t)), some (.ref (a 0)), some (.ref (a 43)), some (.ref (a 44)), some (.int (iI (M 24 0))), some (.int (iI (M 24 6))), none, none, some (.int (iI i)), some (.int (iI (j + 1))), some (.int (iI ov)), some (.int (iI q)), none, none, none, none, none, none]) dL_law_901 rfl rfl (by decide) rfl ?_
                                      refine k_goto F (tgt := 713) dL_law_904 (by decide) ?_
                                      refine k_lvw [some (.ref b), some (.int (iI t)), some (.ref (a 0)), some (.ref (a 43)), some (.ref (a 44)), some (.int (iI (M 24 0))), some (.int (iI (M 24 6))), none, none, some (.int (iI i)), some (.int (iI (j + 1))), none, none, none, none, none, none, none, none] (lvw_of _ _ [true, true, true, true, true, true, true, false, false, true, true, false, false, false, false, false, false, false, false] rfl) ?_
                                      exact ih_713 (j + 1) (by omega) (by omega)
                                    · skip
                                      exact (hno2 (by omega)).elim
                                  · skip
                                    refine k_aload_n F (pc' := 852) dL_law_851 rfl rfl ?_
                                    refine k_iload F (pc' := 854) dL_law_852 rfl rfl ?_
                                    refine k_iconst F (pc' := 855) dL_law_854 rfl ?_
                                    refine k_callI F K (XL_c b nS xs) (fun _ h9 => h9) X0 hcs (pc' := 858) (st := []) (e4_stem_1 (X := XL b nS xs) XL_S l a M q (by omega) hC) (cwV 2 F.2.2.2.2 (goodIn_L gL_law_X4_stem) rfl rfl rfl (by decide +kernel) ⟨Nat.le_of_ble_eq_true rfl, Nat.le_of_ble_eq_true rfl⟩) rfl rfl rfl rfl (Nat.le_of_ble_eq_true rfl) dL_law_855 rfl (fun z_855 M_855 q_855 => ?_)
                                    obtain ⟨rfl, mq_855⟩ := q_855
                                    have mq_855 := mq_855.symm; subst mq_855
                                    have st_855 := (CI_stem hC (j := q) (by omega) (by omega)).1
                                    refine k_aload_n F (pc' := 859) dL_law_858 rfl rfl ?_
                                    refine k_iload F (pc' := 861) dL_law_859 rfl rfl ?_
                                    refine k_iconst F (pc' := 862) dL_law_861 rfl ?_
                                    refine k_callI F K (XL_c b nS xs) (fun _ h9 => h9) X0 hcs (pc' := 865) (st := [.int (iI (M 26 q))]) (e4_told_1 (X := XL b nS xs) XL_S l a M i (by omega) hC) (cwV 2 F.2.2.2.2 (goodIn_L gL_law_X4_told) rfl rfl rfl (by decide +kernel) ⟨Nat.le_of_ble_eq_true rfl, Nat.le_of_ble_eq_true rfl⟩) rfl rfl rfl rfl (Nat.le_of_ble_eq_true rfl) dL_law_862 rfl (fun z_862 M_862 q_862 => ?_)
                                    obtain ⟨rfl, mq_862⟩ := q_862
                                    have mq_862 := mq_862.symm; subst mq_862
                                    have ed_862 := CI_edge hC (i)
                                    refine k_icmp_lt F (pc' := 868) (tgt := 888) dL_law_865 rfl (by decide) (by omega) (by omega) (fun c_865 => ?_) (fun c_865 => ?_)
                                    · skip
                                      refine k_iinc F (pc' := 891) (lv' := [some (.ref b), some (.int (iI t)), some (.ref (a 0)), some (.ref (a 43)), some (.ref (a 44)), some (.int (iI (M 24 0))), some (.int (iI (M 24 6))), none, none, some (.int (iI i)), some (.int (iI j)), some (.int (iI ov)), some (.int (iI (q + 1))), none, none, none, none, none, none]) dL_law_888 rfl rfl (by decide) rfl ?_
                                      refine k_goto F (tgt := 844) dL_law_891 (by decide) ?_
                                      exact ih_844 ov (q + 1) (by omega) (by omega) (by omega) (by
  intro z g g0 g1 g2
  by_cases e9 : g = q
  · subst e9; omega
  · exact hno (by omega) g g0 (by omega) g2)
                                    · skip
                                      refine k_aload_n F (pc' := 869) dL_law_868 rfl rfl ?_
                                      refine k_iload F (pc' := 871) dL_law_869 rfl rfl ?_
                                      refine k_iconst F (pc' := 872) dL_law_871 rfl ?_
                                      refine k_callI F K (XL_c b nS xs) (fun _ h9 => h9) X0 hcs (pc' := 875) (st := []) (e4_stem_0 (X := XL b nS xs) XL_S l a M q (by omega) hC) (cwV 2 F.2.2.2.2 (goodIn_L gL_law_X4_stem) rfl rfl rfl (by decide +kernel) ⟨Nat.le_of_ble_eq_true rfl, Nat.le_of_ble_eq_true rfl⟩) rfl rfl rfl rfl (Nat.le_of_ble_eq_true rfl) dL_law_872 rfl (fun z_872 M_872 q_872 => ?_)
                                      obtain ⟨rfl, mq_872⟩ := q_872
                                      have mq_872 := mq_872.symm; subst mq_872
                                      have st_872 := (CI_stem hC (j := q) (by omega) (by omega)).1
                                      refine k_aload_n F (pc' := 876) dL_law_875 rfl rfl ?_
                                      refine k_iload F (pc' := 878) dL_law_876 rfl rfl ?_
                                      refine k_iconst F (pc' := 879) dL_law_878 rfl ?_
                                      refine k_callI F K (XL_c b nS xs) (fun _ h9 => h9) X0 hcs (pc' := 882) (st := [.int (iI (M 25 q))]) (e4_told_1 (X := XL b nS xs) XL_S l a M j (by omega) hC) (cwV 2 F.2.2.2.2 (goodIn_L gL_law_X4_told) rfl rfl rfl (by decide +kernel) ⟨Nat.le_of_ble_eq_true rfl, Nat.le_of_ble_eq_true rfl⟩) rfl rfl rfl rfl (Nat.le_of_ble_eq_true rfl) dL_law_879 rfl (fun z_879 M_879 q_879 => ?_)
                                      obtain ⟨rfl, mq_879⟩ := q_879
                                      have mq_879 := mq_879.symm; subst mq_879
                                      have ed_879 := CI_edge hC (j)
                                      refine k_icmp_gt F (pc' := 885) (tgt := 888) dL_law_882 rfl (by decide) (by omega) (by omega) (fun c_882 => ?_) (fun c_882 => ?_)
                                      · skip
                                        refine k_iinc F (pc' := 891) (lv' := [some (.ref b), some (.int (iI t)), some (.ref (a 0)), some (.ref (a 43)), some (.ref (a 44)), some (.int (iI (M 24 0))), some (.int (iI (M 24 6))), none, none, some (.int (iI i)), some (.int (iI j)), some (.int (iI ov)), some (.int (iI (q + 1))), none, none, none, none, none, none]) dL_law_888 rfl rfl (by decide) rfl ?_
                                        refine k_goto F (tgt := 844) dL_law_891 (by decide) ?_
                                        exact ih_844 ov (q + 1) (by omega) (by omega) (by omega) (by
  intro z g g0 g1 g2
  by_cases e9 : g = q
  · subst e9; omega
  · exact hno (by omega) g g0 (by omega) g2)
                                      · skip
                                        refine k_iconst F (pc' := 886) dL_law_885 rfl ?_
                                        refine k_istore F (pc' := 888) (lv' := [some (.ref b), some (.int (iI t)), some (.ref (a 0)), some (.ref (a 43)), some (.ref (a 44)), some (.int (iI (M 24 0))), some (.int (iI (M 24 6))), none, none, some (.int (iI i)), some (.int (iI j)), some (.int (iI 1)), some (.int (iI q)), none, none, none, none, none, none]) dL_law_886 rfl (by decide) rfl ?_
                                        refine k_iinc F (pc' := 891) (lv' := [some (.ref b), some (.int (iI t)), some (.ref (a 0)), some (.ref (a 43)), some (.ref (a 44)), some (.int (iI (M 24 0))), some (.int (iI (M 24 6))), none, none, some (.int (iI i)), some (.int (iI j)), some (.int (iI 1)), some (.int (iI (q + 1))), none, none, none, none, none, none]) dL_law_888 rfl rfl (by decide) rfl ?_
                                        refine k_goto F (tgt := 844) dL_law_891 (by decide) ?_
                                        exact ih_844 1 (q + 1) (by omega) (by omega) (by omega) (by
  intro z g g0 g1 g2
  by_cases e9 : g = q
  · subst e9; omega
  · exact hno (by omega) g g0 (by omega) g2)
                              exact lp_844 ((M 24 0 - 0 : Int).toNat + 1) 0 0 (by omega) (by omega) (by omega) (fun _ g g0 g1 => by omega)
                            · skip
                              refine k_goto F (tgt := 901) dL_law_835 (by decide) ?_
                              refine k_iinc F (pc' := 904) (lv' := [some (.ref b), some (.int (iI t)), some (.ref (a 0)), some (.ref (a 43)), some (.ref (a 44)), some (.int (iI (M 24 0))), some (.int (iI (M 24 6))), none, none, some (.int (iI i)), some (.int (iI (j + 1))), none, none, none, none, none, none, none, none]) dL_law_901 rfl rfl (by decide) rfl ?_
                              refine k_goto F (tgt := 713) dL_law_904 (by decide) ?_
                              exact ih_713 (j + 1) (by omega) (by omega)
        exact lp_713 ((mk - 0 : Int).toNat + 1) 0 (by omega) (by omega)
  exact lp_701 ((mk - 0 : Int).toNat + 1) 0 (by omega) (by omega)
end LAWA
