/-! ===== the law: a turn, its first and its last steps ===== -/
theorem dist_R {M : Mem} (hC : CI M) {sz : Int} (hz : 1 ≤ sz ∧ sz ≤ 60) : -3 ≤ pif (okL (viewC M) sz) (leastL (viewC M) sz) (-3) ∧ pif (okL (viewC M) sz) (leastL (viewC M) sz) (-3) ≤ 20000000000 := by
  by_cases h : okL (viewC M) sz
  · rw [pif_t h]
    have := leastL_R (CI_lOK hC) (CI_rul hC) hz h
    omega
  · rw [pif_f h]
    decide
theorem rul_cpr {f g : Int → Int} (h : rulB g) : rulB (cpr f g 0 5) := by
  obtain ⟨r0, r1, r2, r3, r4⟩ := h
  refine ⟨?_, ?_, ?_, ?_, ?_⟩
  · rw [cpr_at (by decide)]; exact r0
  · rw [cpr_at (by decide)]; exact r1
  · rw [cpr_at (by decide)]; exact r2
  · rw [cpr_at (by decide)]; exact r3
  · rw [cpr_at (by decide)]; exact r4
theorem img_ok {M : Mem} (hC : CI M) : CI (sc (takeM M 10 4) 23 (upf (M 23) 0 1)) := by
  obtain ⟨hB, hK, hF⟩ := hC
  obtain ⟨b1, b2, bL, bI, bJ, b23⟩ := hB
  refine ⟨⟨b1, b2, bL, ⟨bL.1, ?_, ?_, ?_, ?_, ?_⟩, bJ, fun j => ?_⟩, hK, hF⟩
  · exact cpr_R bI.2.1 bL.2.1
  · exact cpr_R bI.2.2.1 bL.2.2.1
  · exact cpr_R bI.2.2.2.1 bL.2.2.2.1
  · exact cpr_R bI.2.2.2.2.1 bL.2.2.2.2.1
  · exact rul_cpr bL.2.2.2.2.2
  · show 0 ≤ upf (M 23) 0 1 j ∧ upf (M 23) 0 1 j ≤ 1
    unfold upf
    split
    · decide
    · exact b23 j
theorem erase_ok {M N : Mem} {u : Int} (hC : CI M) (hu : 0 ≤ u ∧ u < M 4 4) (h : rnQ (edD M u) N) : CI N := by
  obtain ⟨hB, hK, hF⟩ := hC
  obtain ⟨b1, b2, bL, bI, bJ, b23⟩ := hB
  have hm := bL.1
  refine CI_rn (M := edD M u) ⟨b1, b2, ⟨?_, ?_, ?_, ?_, ?_, bL.2.2.2.2.2⟩, bI, bJ, b23⟩ hK.1 h
  · show 0 ≤ M 4 4 - 1 ∧ M 4 4 - 1 ≤ 16
    omega
  · exact del1_R bL.2.1
  · exact del1_R bL.2.2.1
  · exact del1_R bL.2.2.2.1
  · exact del1_R bL.2.2.2.2.1
theorem rest_ok {M N : Mem} (hC : CI M) (h : rnQ (takeM M 4 10) N) : CI N := by
  obtain ⟨hB, hK, hF⟩ := hC
  obtain ⟨b1, b2, bL, bI, bJ, b23⟩ := hB
  refine CI_rn (M := takeM M 4 10) ⟨b1, b2, ⟨bI.1, ?_, ?_, ?_, ?_, ?_⟩, bI, bJ, b23⟩ hK.1 h
  · exact cpr_R bL.2.1 bI.2.1
  · exact cpr_R bL.2.2.1 bI.2.2.1
  · exact cpr_R bL.2.2.2.1 bI.2.2.2.1
  · exact cpr_R bL.2.2.2.2.1 bI.2.2.2.2.1
  · exact rul_cpr bI.2.2.2.2.2
theorem img_kept {M N : Mem} {u : Int} (h : rnQ (edD (sc (takeM M 10 4) 23 (upf (M 23) 0 1)) u) N) : N 23 0 = 1 := by
  rw [rn_id h (k := 23) (by decide)]
  show upf (M 23) 0 1 0 = 1
  exact upf_s _ _ _
theorem del1_e {f : Int → Int} {k : Int} : del1 f k k = f := by
  funext j
  exact if_neg (by omega)
theorem cpr_cpr {f g : Int → Int} {z : Int} : cpr f (cpr g f 0 z) 0 z = f := by
  funext j
  unfold cpr
  by_cases h : 0 ≤ j ∧ j < z
  · rw [if_pos h, if_pos (by omega), show (0 : Int) + (0 + j) = j by omega]
  · rw [if_neg h]
theorem img_back {M N N2 : Mem} {mk : Int} (hJ : BJ M mk) (hm : 0 < mk) (h3 : rnQ (edD (sc (takeM M 10 4) 23 (upf (M 23) 0 1)) (mk - 1)) N) (h4 : rnQ (takeM N 4 10) N2) : BJ N2 mk ∧ same (viewC M) (viewC N2) := by
  obtain ⟨⟨hC, b4, b44, b9⟩, hE⟩ := hJ
  have hCb := img_ok hC
  have hCc := erase_ok hCb (u := mk - 1) (by show 0 ≤ mk - 1 ∧ mk - 1 < M 4 4; omega) h3
  have hCd := rest_ok hCc h4
  have n : ∀ k : Nat, k < 24 → N k = (edD (sc (takeM M 10 4) 23 (upf (M 23) 0 1)) (mk - 1)) k := fun k hk => rn_id h3 (Or.inl hk)
  have n2 : ∀ k : Nat, k < 24 → N2 k = (takeM N 4 10) k := fun k hk => rn_id h4 (Or.inl hk)
  have d : ∀ f : Int → Int, del1 f (mk - 1) (M 4 4 - 1) = f := fun f => by rw [b4]; exact del1_e
  have e4 : N2 4 4 = M 4 4 := by
    rw [n2 4 (by decide)]
    show N 10 4 = M 4 4
    rw [n 10 (by decide)]
    rfl
  have e5 : N2 5 = M 5 := by
    rw [n2 5 (by decide)]
    show cpr (N 5) (N 11) 0 16 = M 5
    rw [n 5 (by decide), n 11 (by decide)]
    show cpr (del1 (M 5) (mk - 1) (M 4 4 - 1)) (cpr (M 11) (M 5) 0 16) 0 16 = M 5
    rw [d]
    exact cpr_cpr
  have e6 : N2 6 = M 6 := by
    rw [n2 6 (by decide)]
    show cpr (N 6) (N 12) 0 16 = M 6
    rw [n 6 (by decide), n 12 (by decide)]
    show cpr (del1 (M 6) (mk - 1) (M 4 4 - 1)) (cpr (M 12) (M 6) 0 16) 0 16 = M 6
    rw [d]
    exact cpr_cpr
  have e7 : N2 7 = M 7 := by
    rw [n2 7 (by decide)]
    show cpr (N 7) (N 13) 0 16 = M 7
    rw [n 7 (by decide), n 13 (by decide)]
    show cpr (del1 (M 7) (mk - 1) (M 4 4 - 1)) (cpr (M 13) (M 7) 0 16) 0 16 = M 7
    rw [d]
    exact cpr_cpr
  have e8 : N2 8 = M 8 := by
    rw [n2 8 (by decide)]
    show cpr (N 8) (N 14) 0 16 = M 8
    rw [n 8 (by decide), n 14 (by decide)]
    show cpr (del1 (M 8) (mk - 1) (M 4 4 - 1)) (cpr (M 14) (M 8) 0 16) 0 16 = M 8
    rw [d]
    exact cpr_cpr
  have e9 : N2 9 = M 9 := by
    rw [n2 9 (by decide)]
    show cpr (N 9) (N 15) 0 5 = M 9
    rw [n 9 (by decide), n 15 (by decide)]
    show cpr (M 9) (cpr (M 15) (M 9) 0 5) 0 5 = M 9
    exact cpr_cpr
  have e1 : N2 1 1 = M 1 1 := by
    rw [n2 1 (by decide)]
    show N 1 1 = M 1 1
    rw [n 1 (by decide)]
    rfl
  have e44 : N2 44 = M 44 := by
    rw [rn_id h4 (k := 44) (by decide)]
    show N 44 = M 44
    rw [rn_id h3 (k := 44) (by decide)]
    rfl
  refine ⟨⟨⟨hCd, by rw [e4]; exact b4, by rw [e44]; exact b44, fun i a b => by rw [e9, e44]; exact b9 i a b⟩, fun u u0 u1 => ?_⟩, CI_same hC hCd e1 e4 e5 e6 e7 e8 (fun w _ _ => by rw [e9])⟩
  rw [e4] at u1
  rw [e7, e8]
  exact hE u u0 u1
section LAWC
variable {p : Program} {l : Launch} {e : Env} {s : State} {m : MethodId} {below : List Frame} {meth : Method} {c : Code} {D : va_G} {T : Nat → ClassId} {a : Nat → Nat} {b nS kc ks : Nat} {xs : Nat → Int32}
set_option maxHeartbeats 4000000 in
set_option maxRecDepth 100000 in
theorem law_s0 (F : CallFix p m c cL_law 19 s #[.ref b] lw_tbl RL) (K : va_K D vwCl (tysT T) s) (X0 : XL b nS xs (fun q : Nat => s.heap.size ≤ q) s s.heap) (hcs : kc ≤ room_1.cells ∧ ks ≤ room_1.slots) (M : Mem) (t : Int) (ht : 0 ≤ t ∧ t ≤ 2) (hC : CI M) (h4 : M 4 4 = 0) (h44 : ∀ j, M 44 j = 0) (h9 : M 9 = rul0) (kk_43 : ∀ (R : Mem) (mk : Int) (hk : 0 ≤ mk ∧ mk ≤ 12) (hJ : BJ R mk), KK kc ks p l e room_1 s m #[.ref b] below meth c (lw_Z below #[.ref b] s) D (fun q : Nat => s.heap.size ≤ q) 19 (wld T a LL R) 43 [some (.ref b), some (.int (iI t)), some (.ref (a 0)), some (.ref (a 43)), some (.ref (a 44)), none, none, none, none, none, none, none, none, none, none, none, none, none, none] []) : KK kc ks p l e room_1 s m #[.ref b] below meth c (lw_Z below #[.ref b] s) D (fun q : Nat => s.heap.size ≤ q) 19 (wld T a LL M) 26 [some (.ref b), some (.int (iI t)), some (.ref (a 0)), some (.ref (a 43)), some (.ref (a 44)), none, none, none, none, none, none, none, none, none, none, none, none, none, none] [] := by
  refine k_aload_n F (pc' := 27) dL_law_26 rfl rfl ?_
  refine k_aload_n F (pc' := 28) dL_law_27 rfl rfl ?_
  refine k_bipush F (pc' := 30) dL_law_28 rfl (by decide +kernel) ?_
  refine k_iload_n F (pc' := 31) dL_law_30 rfl rfl ?_
  refine k_imul F (pc' := 32) dL_law_31 rfl ?_
  refine k_aload_n F (pc' := 33) dL_law_32 rfl rfl ?_
  refine k_aload F (pc' := 35) dL_law_33 rfl rfl ?_
  refine k_callSI F K (XL_c b nS xs) (fun _ h9 => h9) X0 hcs (pc' := 38) (st := []) (c_all l a b nS xs M (9 * t) (by omega) hC h4 h44 h9) (va_cwS 5 F.2.2.2.2 (goodIn_L gL_law_L_all) rfl rfl rfl (by decide +kernel) ⟨Nat.le_of_ble_eq_true rfl, Nat.le_of_ble_eq_true rfl⟩) rfl rfl (Nat.le_of_ble_eq_true rfl) dL_law_35 rfl (fun z_35 M_35 q_35 => ?_)
  obtain ⟨ez_35, mk, hk, hJ⟩ := q_35
  subst ez_35
  refine k_if_ne F (pc' := 41) (tgt := 43) dL_law_38 rfl (by decide) (by decide) (fun c_38 => ?_) (fun c_38 => ?_)
  · skip
    exact kk_43 M_35 mk (hk) (hJ)
  · skip
    exact absurd c_38 (by decide)

set_option maxHeartbeats 4000000 in
set_option maxRecDepth 100000 in
theorem law_s6 (F : CallFix p m c cL_law 19 s #[.ref b] lw_tbl RL) (K : va_K D vwCl (tysT T) s) (X0 : XL b nS xs (fun q : Nat => s.heap.size ≤ q) s s.heap) (hcs : kc ≤ room_1.cells ∧ ks ≤ room_1.slots) (M : Mem) (mk t n : Int) (hk : 0 ≤ mk ∧ mk ≤ 12) (ht : 0 ≤ t ∧ t ≤ 2) (hJ : BJ M mk) (hnM : M 24 0 = n) (kk_1320 : ∀ (R : Mem) (had : Int) (hJR : BJ R mk) (hhR : had = 0 ∨ (had = 1 ∧ ∃ x, (1 ≤ x ∧ x ≤ 60) ∧ okL (viewC R) x)), KK kc ks p l e room_1 s m #[.ref b] below meth c (lw_Z below #[.ref b] s) D (fun q : Nat => s.heap.size ≤ q) 19 (wld T a LL R) 1320 [some (.ref b), some (.int (iI t)), some (.ref (a 0)), some (.ref (a 43)), some (.ref (a 44)), none, none, none, none, some (.int (iI had)), none, none, none, none, none, none, none, none, none] []) : KK kc ks p l e room_1 s m #[.ref b] below meth c (lw_Z below #[.ref b] s) D (fun q : Nat => s.heap.size ≤ q) 19 (wld T a LL M) 913 [some (.ref b), some (.int (iI t)), some (.ref (a 0)), some (.ref (a 43)), some (.ref (a 44)), some (.int (iI n)), none, none, none, none, none, none, none, none, none, none, none, none, none] [] := by
  refine k_iconst F (pc' := 914) dL_law_913 rfl ?_
  refine k_istore F (pc' := 916) (lv' := [some (.ref b), some (.int (iI t)), some (.ref (a 0)), some (.ref (a 43)), some (.ref (a 44)), some (.int (iI n)), none, none, none, some (.int (iI 0)), none, none, none, none, none, none, none, none, none]) dL_law_914 rfl (by decide) rfl ?_
  refine k_iconst F (pc' := 917) dL_law_916 rfl ?_
  refine k_istore F (pc' := 919) (lv' := [some (.ref b), some (.int (iI t)), some (.ref (a 0)), some (.ref (a 43)), some (.ref (a 44)), some (.int (iI n)), none, none, none, some (.int (iI 0)), some (.int (iI 1)), none, none, none, none, none, none, none, none]) dL_law_917 rfl (by decide) rfl ?_
  have lp_919 : ∀ (n_919 : Nat) (P : Mem) (had : Int) (sz : Int) (hm_919 : 71 - sz < (n_919 : Int)) (hs : 1 ≤ sz ∧ sz ≤ 70) (hJP : BJ P mk) (hnP : P 24 0 = n) (hhad : had = 0 ∨ (had = 1 ∧ ∃ x, (1 ≤ x ∧ x ≤ 60) ∧ okL (viewC P) x)), KK kc ks p l e room_1 s m #[.ref b] below meth c (lw_Z below #[.ref b] s) D (fun q : Nat => s.heap.size ≤ q) 19 (wld T a LL P) 919 [some (.ref b), some (.int (iI t)), some (.ref (a 0)), some (.ref (a 43)), some (.ref (a 44)), some (.int (iI n)), none, none, none, some (.int (iI had)), some (.int (iI sz)), none, none, none, none, none, none, none, none] [] := by
    intro n_919
    induction n_919 with
    | zero => intro P had sz hm_919 hs hJP hnP hhad; exfalso; omega
    | succ n_919 ih_919 =>
      intro P had sz hm_919 hs hJP hnP hhad
      have hB := hJP.1
      have hC := hB.1
      have hn := CI_n hC
      have hL := CI_lOK hC
      have hRu := CI_rul hC
      have b4 := hB.2.1
      have hh1 : had = 0 ∨ had = 1 := hhad.imp id (fun q => q.1)
      refine k_iload F (pc' := 921) dL_law_919 rfl rfl ?_
      refine k_bipush F (pc' := 923) dL_law_921 rfl (by decide +kernel) ?_
      refine k_icmp_ge F (pc' := 926) (tgt := 1320) dL_law_923 rfl (by decide) (by omega) (by decide) (fun c_923 => ?_) (fun c_923 => ?_)
      · skip
        refine k_lvw [some (.ref b), some (.int (iI t)), some (.ref (a 0)), some (.ref (a 43)), some (.ref (a 44)), none, none, none, none, some (.int (iI had)), none, none, none, none, none, none, none, none, none] (lvw_of _ _ [true, true, true, true, true, false, false, false, false, true, false, false, false, false, false, false, false, false, false] rfl) ?_
        exact kk_1320 P had (hJP) (hhad)
      · skip
        have lp_1300 : ∀ (R : Mem) (hd : Int) (hJR : BJ R mk) (hnR : R 24 0 = n) (hhR : hd = 0 ∨ (hd = 1 ∧ ∃ x, (1 ≤ x ∧ x ≤ 60) ∧ okL (viewC R) x)), KK kc ks p l e room_1 s m #[.ref b] below meth c (lw_Z below #[.ref b] s) D (fun q : Nat => s.heap.size ≤ q) 19 (wld T a LL R) 1300 [some (.ref b), some (.int (iI t)), some (.ref (a 0)), some (.ref (a 43)), some (.ref (a 44)), some (.int (iI n)), none, none, none, some (.int (iI hd)), some (.int (iI sz)), none, none, none, none, none, none, none, none] [] := by
          intro R hd hJR hnR hhR
          have hh2 : hd = 0 ∨ hd = 1 := hhR.imp id (fun q => q.1)
          refine k_iload F (pc' := 1302) dL_law_1300 rfl rfl ?_
          refine k_iconst F (pc' := 1303) dL_law_1302 rfl ?_
          refine k_aload_n F (pc' := 1304) dL_law_1303 rfl rfl ?_
          refine k_bipush F (pc' := 1306) dL_law_1304 rfl (by decide +kernel) ?_
          refine k_iload_n F (pc' := 1307) dL_law_1306 rfl rfl ?_
          refine k_iadd F (pc' := 1308) dL_law_1307 rfl ?_
          refine k_callSI F K (XL_c b nS xs) (fun _ h9 => h9) X0 hcs (pc' := 1311) (st := [.int (iI 1), .int (iI sz)]) (c_cell l a b nS xs R (27 + t) (by omega)) (va_cwS 2 F.2.2.2.2 (goodIn_L gL_law_L_cell) rfl rfl rfl (by decide +kernel) ⟨Nat.le_of_ble_eq_true rfl, Nat.le_of_ble_eq_true rfl⟩) rfl rfl (Nat.le_of_ble_eq_true rfl) dL_law_1308 rfl (fun z_1308 M_1308 q_1308 => ?_)
          obtain ⟨hc_1308, mc_1308⟩ := q_1308
          have mc_1308 := mc_1308.symm; subst mc_1308
          refine k_iconst F (pc' := 1312) dL_law_1311 rfl ?_
          refine k_iand F (pc' := 1313) dL_law_1312 rfl ?_
          have ba := andZ_le (x := z_1308) (y := 3) (by decide)
          refine k_iadd F (pc' := 1314) dL_law_1313 rfl ?_
          refine k_iadd F (pc' := 1315) dL_law_1314 rfl ?_
          refine k_istore F (pc' := 1317) (lv' := [some (.ref b), some (.int (iI t)), some (.ref (a 0)), some (.ref (a 43)), some (.ref (a 44)), some (.int (iI n)), none, none, none, some (.int (iI hd)), some (.int (iI (sz + (1 + (andZ z_1308 3))))), none, none, none, none, none, none, none, none]) dL_law_1315 rfl (by decide) rfl ?_
          refine k_goto F (tgt := 919) dL_law_1317 (by decide) ?_
          exact ih_919 R hd (sz + (1 + (andZ z_1308 3))) (by omega) (by omega) (hJR) (hnR) (hhR)
        refine k_aload_n F (pc' := 927) dL_law_926 rfl rfl ?_
        refine k_iload F (pc' := 929) dL_law_927 rfl rfl ?_
        refine k_iconst F (pc' := 930) dL_law_929 rfl ?_
        refine k_callI F K (XL_c b nS xs) (fun _ h9 => h9) X0 hcs (pc' := 933) (st := []) (e4_why_0 (X := XL b nS xs) XL_S l a P sz (by omega) hC) (cwV 2 F.2.2.2.2 (goodIn_L gL_law_X4_why) rfl rfl rfl (by decide +kernel) ⟨Nat.le_of_ble_eq_true rfl, Nat.le_of_ble_eq_true rfl⟩) rfl rfl rfl rfl (Nat.le_of_ble_eq_true rfl) dL_law_930 rfl (fun z_930 M_930 q_930 => ?_)
        obtain ⟨hw_930, hk0_930, ho_930⟩ := q_930
        rw [view_keep (keepF_0 P)] at hw_930
        have hk_930 : keepF P M_930 := keepF_t (keepF_0 P) hk0_930
        have hC_930 := CI_keep hC hk_930 ho_930
        have n_930n : M_930 24 0 = n := by rw [hk_930 24 (Or.inl (by decide))]; exact hnP
        have k_930n : M_930 24 6 = P 24 6 := by rw [hk_930 24 (Or.inl (by decide))]
        rcases hw_930 with ⟨hok0, hz⟩ | ⟨bb, hbb, hb1, hb2, hz⟩
        · have hok : okL (viewC P) sz := hok0
          have hz := hz.trans (if_pos rfl)
          subst hz
          refine k_istore F (pc' := 935) (lv' := [some (.ref b), some (.int (iI t)), some (.ref (a 0)), some (.ref (a 43)), some (.ref (a 44)), some (.int (iI n)), none, none, none, some (.int (iI had)), some (.int (iI sz)), some (.int (iI 0)), none, none, none, none, none, none, none]) dL_law_933 rfl (by decide) rfl ?_
          refine k_aload_n F (pc' := 936) dL_law_935 rfl rfl ?_
          refine k_iload F (pc' := 938) dL_law_936 rfl rfl ?_
          refine k_callJ F K (XL_c b nS xs) (fun _ h9 => h9) X0 hcs (pc' := 941) (st := []) (e4_dist (X := XL b nS xs) XL_S l a M_930 sz (by first | decide | omega) hC_930) (cwV 1 F.2.2.2.2 (goodIn_L gL_law_X4_distortion) rfl rfl rfl (by decide +kernel) ⟨Nat.le_of_ble_eq_true rfl, Nat.le_of_ble_eq_true rfl⟩) rfl rfl rfl rfl (Nat.le_of_ble_eq_true rfl) dL_law_938 rfl (fun z_938 M_938 q_938 => ?_)
          obtain ⟨ez_938, hk0_938, ho_938⟩ := q_938
          rw [view_keep hk_930] at ez_938
          rw [pif_t hok] at ez_938
          have hk_938 : keepF P M_938 := keepF_t hk_930 hk0_938
          have hC_938 := CI_keep hC hk_938 ho_938
          have n_938n : M_938 24 0 = n := by rw [hk_938 24 (Or.inl (by decide))]; exact hnP
          have k_938n : M_938 24 6 = P 24 6 := by rw [hk_938 24 (Or.inl (by decide))]
          refine k_lstore F (pc' := 943) (lv' := [some (.ref b), some (.int (iI t)), some (.ref (a 0)), some (.ref (a 43)), some (.ref (a 44)), some (.int (iI n)), none, none, none, some (.int (iI had)), some (.int (iI sz)), some (.int (iI 0)), some (.long (lI z_938)), none, none, none, none, none, none]) dL_law_941 rfl (by decide) rfl ?_
          refine k_iload F (pc' := 945) dL_law_943 rfl rfl ?_
          refine k_if_le F (pc' := 948) (tgt := 1030) dL_law_945 rfl (by decide) (by decide) (fun c_945 => ?_) (fun c_945 => ?_)
          · skip
            refine k_lvw [some (.ref b), some (.int (iI t)), some (.ref (a 0)), some (.ref (a 43)), some (.ref (a 44)), some (.int (iI n)), none, none, none, none, some (.int (iI sz)), none, some (.long (lI z_938)), none, none, none, none, none, none] (lvw_of _ _ [true, true, true, true, true, true, false, false, false, false, true, false, true, false, false, false, false, false, false] rfl) ?_
            refine law_s6a F K X0 hcs P mk t n sz hk hJP hnP (by omega) z_938 hok ez_938 M_938 hk_938 ho_938 (fun Q2 hkQ2 hoQ2 => ?_)
            refine law_s6b F K X0 hcs P mk t n sz hk hJP hnP (by omega) z_938 hok Q2 hkQ2 hoQ2 (fun Q3 hkQ3 hoQ3 => ?_)
            refine law_s6c F K X0 hcs P mk t n sz hk hJP hnP (by omega) z_938 hok ez_938 Q3 hkQ3 hoQ3 (fun R hJR hnR hoR => ?_)
            exact lp_1300 R 1 hJR hnR (Or.inr ⟨rfl, sz, by omega, (hoR sz).mpr hok⟩)
          · skip
            exact absurd c_945 (by decide)
        · have hnok : ¬ okL (viewC P) sz := fun q => by have q2 : lpp (wL (viewC P) sz) bb + wL (viewC P) sz bb ≤ sz := q bb hbb.1 hbb.2; omega
          have hz0 : (sz < wL (viewC P) sz bb ∧ z_930 = 1) ∨ (wL (viewC P) sz bb ≤ sz ∧ z_930 = 2) := by
            rw [if_neg (by decide)] at hz
            by_cases g : sz < wL (viewC P) sz bb
            · rw [if_pos g] at hz; exact Or.inl ⟨g, hz⟩
            · rw [if_neg g] at hz; exact Or.inr ⟨by omega, hz⟩
          refine k_istore F (pc' := 935) (lv' := [some (.ref b), some (.int (iI t)), some (.ref (a 0)), some (.ref (a 43)), some (.ref (a 44)), some (.int (iI n)), none, none, none, some (.int (iI had)), some (.int (iI sz)), some (.int (iI z_930)), none, none, none, none, none, none, none]) dL_law_933 rfl (by decide) rfl ?_
          refine k_aload_n F (pc' := 936) dL_law_935 rfl rfl ?_
          refine k_iload F (pc' := 938) dL_law_936 rfl rfl ?_
          refine k_callJ F K (XL_c b nS xs) (fun _ h9 => h9) X0 hcs (pc' := 941) (st := []) (e4_dist (X := XL b nS xs) XL_S l a M_930 sz (by first | decide | omega) hC_930) (cwV 1 F.2.2.2.2 (goodIn_L gL_law_X4_distortion) rfl rfl rfl (by decide +kernel) ⟨Nat.le_of_ble_eq_true rfl, Nat.le_of_ble_eq_true rfl⟩) rfl rfl rfl rfl (Nat.le_of_ble_eq_true rfl) dL_law_938 rfl (fun z_938 M_938 q_938 => ?_)
          obtain ⟨ez_938, hk0_938, ho_938⟩ := q_938
          rw [view_keep hk_930] at ez_938
          rw [pif_f hnok] at ez_938
          subst ez_938
          have hk_938 : keepF P M_938 := keepF_t hk_930 hk0_938
          have hC_938 := CI_keep hC hk_938 ho_938
          have n_938n : M_938 24 0 = n := by rw [hk_938 24 (Or.inl (by decide))]; exact hnP
          have k_938n : M_938 24 6 = P 24 6 := by rw [hk_938 24 (Or.inl (by decide))]
          refine k_lstore F (pc' := 943) (lv' := [some (.ref b), some (.int (iI t)), some (.ref (a 0)), some (.ref (a 43)), some (.ref (a 44)), some (.int (iI n)), none, none, none, some (.int (iI had)), some (.int (iI sz)), some (.int (iI z_930)), some (.long (lI (-3))), none, none, none, none, none, none]) dL_law_941 rfl (by decide) rfl ?_
          refine k_iload F (pc' := 945) dL_law_943 rfl rfl ?_
          refine k_if_le F (pc' := 948) (tgt := 1030) dL_law_945 rfl (by decide) (by omega) (fun c_945 => ?_) (fun c_945 => ?_)
          · skip
            exfalso; omega
          · skip
            refine law_s6n F K X0 hcs P mk t n sz hk hJP hnP (by omega) had z_930 bb hnok hbb hb1 hb2 hz0 M_938 hk_938 ho_938 (fun R hJR hnR hoR => ?_)
            exact lp_1300 R had hJR hnR (hhad.imp id (fun q => ⟨q.1, q.2.elim (fun x qx => ⟨x, qx.1, (hoR x).mpr qx.2⟩)⟩))
  exact lp_919 ((71 - 1 : Int).toNat + 1) M 0 1 (by omega) (by omega) (hJ) (hnM) (Or.inl rfl)

set_option maxHeartbeats 4000000 in
set_option maxRecDepth 100000 in
theorem law_s7 (F : CallFix p m c cL_law 19 s #[.ref b] lw_tbl RL) (K : va_K D vwCl (tysT T) s) (X0 : XL b nS xs (fun q : Nat => s.heap.size ≤ q) s s.heap) (hcs : kc ≤ room_1.cells ∧ ks ≤ room_1.slots) (M : Mem) (mk t had : Int) (hk : 0 ≤ mk ∧ mk ≤ 12) (hJ : BJ M mk) (hhM : had = 0 ∨ (had = 1 ∧ ∃ x, (1 ≤ x ∧ x ≤ 60) ∧ okL (viewC M) x)) (kk_1428 : ∀ (R : Mem), KK kc ks p l e room_1 s m #[.ref b] below meth c (lw_Z below #[.ref b] s) D (fun q : Nat => s.heap.size ≤ q) 19 (wld T a LL R) 1428 [some (.ref b), some (.int (iI t)), some (.ref (a 0)), some (.ref (a 43)), some (.ref (a 44)), none, none, none, none, none, none, none, none, none, none, none, none, none, none] []) : KK kc ks p l e room_1 s m #[.ref b] below meth c (lw_Z below #[.ref b] s) D (fun q : Nat => s.heap.size ≤ q) 19 (wld T a LL M) 1320 [some (.ref b), some (.int (iI t)), some (.ref (a 0)), some (.ref (a 43)), some (.ref (a 44)), none, none, none, none, some (.int (iI had)), none, none, none, none, none, none, none, none, none] [] := by
  have hB := hJ.1
  have hC := hB.1
  have b4 := hB.2.1
  have b44 := hB.2.2.1
  have hh1 : had = 0 ∨ had = 1 := hhM.imp id (fun q => q.1)
  refine k_aload F (pc' := 1322) dL_law_1320 rfl rfl ?_
  refine k_iconst F (pc' := 1323) dL_law_1322 rfl ?_
  refine k_iald F K (k := 44) (v := mk) (pc' := 1324) rfl (by decide) (by decide) dL_law_1323 rfl (by exact b44) ?_
  have lp_1398 : ∀ (R : Mem) (hCR : CI R) (hhR : had = 0 ∨ (had = 1 ∧ ∃ x, (1 ≤ x ∧ x ≤ 60) ∧ okL (viewC R) x)), KK kc ks p l e room_1 s m #[.ref b] below meth c (lw_Z below #[.ref b] s) D (fun q : Nat => s.heap.size ≤ q) 19 (wld T a LL R) 1398 [some (.ref b), some (.int (iI t)), some (.ref (a 0)), some (.ref (a 43)), some (.ref (a 44)), none, none, none, none, some (.int (iI had)), none, none, none, none, none, none, none, none, none] [] := by
    intro R hCR hhR
    refine k_iload F (pc' := 1400) dL_law_1398 rfl rfl ?_
    refine k_aload_n F (pc' := 1401) dL_law_1400 rfl rfl ?_
    refine k_bipush F (pc' := 1403) dL_law_1401 rfl (by decide +kernel) ?_
    refine k_callI F K (XL_c b nS xs) (fun _ h9 => h9) X0 hcs (pc' := 1406) (st := [.int (iI had)]) (e4_best (X := XL b nS xs) XL_S l a R hCR) (cwV 1 F.2.2.2.2 (goodIn_L gL_law_X4_best) rfl rfl rfl (by decide +kernel) ⟨Nat.le_of_ble_eq_true rfl, Nat.le_of_ble_eq_true rfl⟩) rfl rfl rfl rfl (Nat.le_of_ble_eq_true rfl) dL_law_1403 rfl (fun z_1403 M_1403 q_1403 => ?_)
    obtain ⟨eb_1403, hk0_1403, ho_1403⟩ := q_1403
    have bo := bestN_or (ok := okL (viewC R)) (ls := leastL (viewC R)) 60
    have bo2 : z_1403 = -6 ∨ (1 ≤ z_1403 ∧ z_1403 ≤ 60) := by rw [eb_1403]; exact bo
    have bp : had = 1 → 1 ≤ z_1403 := fun q => by
      rw [eb_1403]
      rcases hhR with z | ⟨-, x, x1, x2⟩
      · omega
      · exact bestN_p 60 ⟨x, x1.1, x1.2, x2⟩
    have hCf := CI_keep hCR hk0_1403 ho_1403
    refine k_if_le F (pc' := 1409) (tgt := 1413) dL_law_1406 rfl (by decide) (by omega) (fun c_1406 => ?_) (fun c_1406 => ?_)
    · skip
      refine k_iconst F (pc' := 1414) dL_law_1413 rfl ?_
      refine k_icmp_eq F (pc' := 1417) (tgt := 1428) dL_law_1414 rfl (by decide) (by omega) (by decide) (fun c_1414 => ?_) (fun c_1414 => ?_)
      · skip
        refine k_lvw [some (.ref b), some (.int (iI t)), some (.ref (a 0)), some (.ref (a 43)), some (.ref (a 44)), none, none, none, none, none, none, none, none, none, none, none, none, none, none] (lvw_of _ _ [true, true, true, true, true, false, false, false, false, false, false, false, false, false, false, false, false, false, false] rfl) ?_
        exact kk_1428 M_1403 
      · skip
        refine k_aload_n F (pc' := 1418) dL_law_1417 rfl rfl ?_
        refine k_bipush F (pc' := 1420) dL_law_1418 rfl (by decide +kernel) ?_
        refine k_callI F K (XL_c b nS xs) (fun _ h9 => h9) X0 hcs (pc' := 1423) (st := []) (e4_best (X := XL b nS xs) XL_S l a M_1403 hCf) (cwV 1 F.2.2.2.2 (goodIn_L gL_law_X4_best) rfl rfl rfl (by decide +kernel) ⟨Nat.le_of_ble_eq_true rfl, Nat.le_of_ble_eq_true rfl⟩) rfl rfl rfl rfl (Nat.le_of_ble_eq_true rfl) dL_law_1420 rfl (fun z_1420 M_1420 q_1420 => ?_)
        obtain ⟨eb_1420, hk0_1420, ho_1420⟩ := q_1420
        rw [view_keep hk0_1403, ← eb_1403] at eb_1420
        refine k_if_ge F (pc' := 1426) (tgt := 1428) dL_law_1423 rfl (by decide) (by omega) (fun c_1423 => ?_) (fun c_1423 => ?_)
        · skip
          refine k_lvw [some (.ref b), some (.int (iI t)), some (.ref (a 0)), some (.ref (a 43)), some (.ref (a 44)), none, none, none, none, none, none, none, none, none, none, none, none, none, none] (lvw_of _ _ [true, true, true, true, true, false, false, false, false, false, false, false, false, false, false, false, false, false, false] rfl) ?_
          exact kk_1428 M_1420 
        · skip
          exfalso; omega
    · skip
      refine k_iconst F (pc' := 1410) dL_law_1409 rfl ?_
      refine k_goto F (tgt := 1414) dL_law_1410 (by decide) ?_
      refine k_icmp_eq F (pc' := 1417) (tgt := 1428) dL_law_1414 rfl (by decide) (by omega) (by decide) (fun c_1414 => ?_) (fun c_1414 => ?_)
      · skip
        refine k_lvw [some (.ref b), some (.int (iI t)), some (.ref (a 0)), some (.ref (a 43)), some (.ref (a 44)), none, none, none, none, none, none, none, none, none, none, none, none, none, none] (lvw_of _ _ [true, true, true, true, true, false, false, false, false, false, false, false, false, false, false, false, false, false, false] rfl) ?_
        exact kk_1428 M_1403 
      · skip
        refine k_aload_n F (pc' := 1418) dL_law_1417 rfl rfl ?_
        refine k_bipush F (pc' := 1420) dL_law_1418 rfl (by decide +kernel) ?_
        refine k_callI F K (XL_c b nS xs) (fun _ h9 => h9) X0 hcs (pc' := 1423) (st := []) (e4_best (X := XL b nS xs) XL_S l a M_1403 hCf) (cwV 1 F.2.2.2.2 (goodIn_L gL_law_X4_best) rfl rfl rfl (by decide +kernel) ⟨Nat.le_of_ble_eq_true rfl, Nat.le_of_ble_eq_true rfl⟩) rfl rfl rfl rfl (Nat.le_of_ble_eq_true rfl) dL_law_1420 rfl (fun z_1420 M_1420 q_1420 => ?_)
        obtain ⟨eb_1420, hk0_1420, ho_1420⟩ := q_1420
        rw [view_keep hk0_1403, ← eb_1403] at eb_1420
        refine k_if_ge F (pc' := 1426) (tgt := 1428) dL_law_1423 rfl (by decide) (by omega) (fun c_1423 => ?_) (fun c_1423 => ?_)
        · skip
          refine k_lvw [some (.ref b), some (.int (iI t)), some (.ref (a 0)), some (.ref (a 43)), some (.ref (a 44)), none, none, none, none, none, none, none, none, none, none, none, none, none, none] (lvw_of _ _ [true, true, true, true, true, false, false, false, false, false, false, false, false, false, false, false, false, false, false] rfl) ?_
          exact kk_1428 M_1420 
        · skip
          exfalso; omega
  refine k_if_le F (pc' := 1327) (tgt := 1398) dL_law_1324 rfl (by decide) (by omega) (fun c_1324 => ?_) (fun c_1324 => ?_)
  · skip
    exact lp_1398 M (hC) (hhM)
  · skip
    refine k_aload F (pc' := 1329) dL_law_1327 rfl rfl ?_
    refine k_iconst F (pc' := 1330) dL_law_1329 rfl ?_
    refine k_iald F K (k := 44) (v := mk) (pc' := 1331) rfl (by decide) (by decide) dL_law_1330 rfl (by exact b44) ?_
    refine k_iconst F (pc' := 1332) dL_law_1331 rfl ?_
    refine k_isub F (pc' := 1333) dL_law_1332 rfl ?_
    refine k_istore F (pc' := 1335) (lv' := [some (.ref b), some (.int (iI t)), some (.ref (a 0)), some (.ref (a 43)), some (.ref (a 44)), none, none, none, none, some (.int (iI had)), some (.int (iI (mk - 1))), none, none, none, none, none, none, none, none]) dL_law_1333 rfl (by decide) rfl ?_
    refine k_aload_n F (pc' := 1336) dL_law_1335 rfl rfl ?_
    refine k_bipush F (pc' := 1338) dL_law_1336 rfl (by decide +kernel) ?_
    refine k_callJ F K (XL_c b nS xs) (fun _ h9 => h9) X0 hcs (pc' := 1341) (st := []) (e4_dist (X := XL b nS xs) XL_S l a M 30 (by first | decide | omega) hC) (cwV 1 F.2.2.2.2 (goodIn_L gL_law_X4_distortion) rfl rfl rfl (by decide +kernel) ⟨Nat.le_of_ble_eq_true rfl, Nat.le_of_ble_eq_true rfl⟩) rfl rfl rfl rfl (Nat.le_of_ble_eq_true rfl) dL_law_1338 rfl (fun z_1338 M_1338 q_1338 => ?_)
    obtain ⟨ez_1338, hk0_1338, ho_1338⟩ := q_1338
    have dR := dist_R hC (sz := 30) (by decide)
    rw [← ez_1338] at dR
    have hJa := BJ_keep hJ hk0_1338 ho_1338
    have va := view_keep hk0_1338
    refine k_lstore F (pc' := 1343) (lv' := [some (.ref b), some (.int (iI t)), some (.ref (a 0)), some (.ref (a 43)), some (.ref (a 44)), none, none, none, none, some (.int (iI had)), some (.int (iI (mk - 1))), some (.long (lI z_1338)), none, none, none, none, none, none, none]) dL_law_1341 rfl (by decide) rfl ?_
    refine k_aload_n F (pc' := 1344) dL_law_1343 rfl rfl ?_
    refine k_iconst F (pc' := 1345) dL_law_1344 rfl ?_
    refine k_callI F K (XL_c b nS xs) (fun _ h9 => h9) X0 hcs (pc' := 1348) (st := []) (e4_image (X := XL b nS xs) XL_S l a M_1338) (cwV 1 F.2.2.2.2 (goodIn_L gL_law_X4_image) rfl rfl rfl (by decide +kernel) ⟨Nat.le_of_ble_eq_true rfl, Nat.le_of_ble_eq_true rfl⟩) rfl rfl rfl rfl (Nat.le_of_ble_eq_true rfl) dL_law_1345 rfl (fun z_1345 M_1345 q_1345 => ?_)
    obtain ⟨rfl, ei_1345⟩ := q_1345
    subst ei_1345
    have hCb := img_ok hJa.1.1
    refine k_iconst F (pc' := 1349) dL_law_1348 rfl ?_
    refine k_icmp_ne F (pc' := 1352) (tgt := 1396) dL_law_1349 rfl (by decide) (by decide) (by decide) (fun c_1349 => ?_) (fun c_1349 => ?_)
    · skip
      exact absurd c_1349 (by decide)
    · skip
      have m4b : (sc (takeM M_1338 10 4) 23 (upf (M_1338 23) 0 1)) 4 4 = mk := hJa.1.2.1
      refine k_aload_n F (pc' := 1353) dL_law_1352 rfl rfl ?_
      refine k_iload F (pc' := 1355) dL_law_1353 rfl rfl ?_
      refine k_callI F K (XL_c b nS xs) (fun _ h9 => h9) X0 hcs (pc' := 1358) (st := []) (e4_erase (X := XL b nS xs) XL_S l a (sc (takeM M_1338 10 4) 23 (upf (M_1338 23) 0 1)) (mk - 1) (by rw [m4b]; omega) hCb) (cwV 1 F.2.2.2.2 (goodIn_L gL_law_X4_erase) rfl rfl rfl (by decide +kernel) ⟨Nat.le_of_ble_eq_true rfl, Nat.le_of_ble_eq_true rfl⟩) rfl rfl rfl rfl (Nat.le_of_ble_eq_true rfl) dL_law_1355 rfl (fun z_1355 M_1355 q_1355 => ?_)
      obtain ⟨ee_1355, hrn_1355⟩ := q_1355
      have ee2 : z_1355 = mk - 1 := by rw [ee_1355, m4b]
      have hCc := erase_ok hCb (u := mk - 1) (by rw [m4b]; omega) hrn_1355
      refine k_iload F (pc' := 1360) dL_law_1358 rfl rfl ?_
      refine k_icmp_ne F (pc' := 1363) (tgt := 1396) dL_law_1360 rfl (by decide) (by omega) (by omega) (fun c_1360 => ?_) (fun c_1360 => ?_)
      · skip
        exfalso; omega
      · skip
        refine k_aload_n F (pc' := 1364) dL_law_1363 rfl rfl ?_
        refine k_iconst F (pc' := 1365) dL_law_1364 rfl ?_
        refine k_callI F K (XL_c b nS xs) (fun _ h9 => h9) X0 hcs (pc' := 1368) (st := []) (e4_restore (X := XL b nS xs) XL_S l a M_1355 (img_kept hrn_1355) hCc) (cwV 1 F.2.2.2.2 (goodIn_L gL_law_X4_restore) rfl rfl rfl (by decide +kernel) ⟨Nat.le_of_ble_eq_true rfl, Nat.le_of_ble_eq_true rfl⟩) rfl rfl rfl rfl (Nat.le_of_ble_eq_true rfl) dL_law_1365 rfl (fun z_1365 M_1365 q_1365 => ?_)
        obtain ⟨rfl, hrn_1365⟩ := q_1365
        obtain ⟨hJd, hsd⟩ := img_back hJa (by omega) hrn_1355 hrn_1365
        refine k_iconst F (pc' := 1369) dL_law_1368 rfl ?_
        refine k_icmp_ne F (pc' := 1372) (tgt := 1396) dL_law_1369 rfl (by decide) (by decide) (by decide) (fun c_1369 => ?_) (fun c_1369 => ?_)
        · skip
          exact absurd c_1369 (by decide)
        · skip
          refine k_aload_n F (pc' := 1373) dL_law_1372 rfl rfl ?_
          refine k_bipush F (pc' := 1375) dL_law_1373 rfl (by decide +kernel) ?_
          refine k_callJ F K (XL_c b nS xs) (fun _ h9 => h9) X0 hcs (pc' := 1378) (st := []) (e4_dist (X := XL b nS xs) XL_S l a M_1365 30 (by first | decide | omega) hJd.1.1) (cwV 1 F.2.2.2.2 (goodIn_L gL_law_X4_distortion) rfl rfl rfl (by decide +kernel) ⟨Nat.le_of_ble_eq_true rfl, Nat.le_of_ble_eq_true rfl⟩) rfl rfl rfl rfl (Nat.le_of_ble_eq_true rfl) dL_law_1375 rfl (fun z_1375 M_1375 q_1375 => ?_)
          obtain ⟨ez_1375, hk0_1375, ho_1375⟩ := q_1375
          rw [same_okf (CI_lOK hJa.1.1) hsd, same_least (CI_lOK hJa.1.1) hsd, va, ← ez_1338] at ez_1375
          have hJe := BJ_keep hJd hk0_1375 ho_1375
          have ve := view_keep hk0_1375
          refine k_lload F (pc' := 1380) dL_law_1378 rfl rfl ?_
          refine k_lcmp F (pc' := 1381) dL_law_1380 rfl (by omega) (by omega) ?_
          refine k_if_ne F (pc' := 1384) (tgt := 1396) dL_law_1381 rfl (by decide) (cmpz_R _ _) (fun c_1381 => ?_) (fun c_1381 => ?_)
          · skip
            have c_1381 := cmpz_ne.mp c_1381
            exfalso; omega
          · skip
            have c_1381 := cmpz_eq.mp c_1381
            refine k_aload_n F (pc' := 1385) dL_law_1384 rfl rfl ?_
            refine k_iconst F (pc' := 1386) dL_law_1385 rfl ?_
            refine k_callI F K (XL_c b nS xs) (fun _ h9 => h9) X0 hcs (pc' := 1389) (st := []) (e4_count_1 (X := XL b nS xs) XL_S l a M_1375 hJe.1.1) (cwV 1 F.2.2.2.2 (goodIn_L gL_law_X4_count) rfl rfl rfl (by decide +kernel) ⟨Nat.le_of_ble_eq_true rfl, Nat.le_of_ble_eq_true rfl⟩) rfl rfl rfl rfl (Nat.le_of_ble_eq_true rfl) dL_law_1386 rfl (fun z_1386 M_1386 q_1386 => ?_)
            obtain ⟨ec_1386, mq_1386⟩ := q_1386
            have mq_1386 := mq_1386.symm; subst mq_1386
            have ec2 : z_1386 = mk := ec_1386.trans hJe.1.2.1
            refine k_aload F (pc' := 1391) dL_law_1389 rfl rfl ?_
            refine k_iconst F (pc' := 1392) dL_law_1391 rfl ?_
            refine k_iald F K (k := 44) (v := mk) (pc' := 1393) rfl (by decide) (by decide) dL_law_1392 rfl (by exact hJe.1.2.2.1) ?_
            refine k_icmp_eq F (pc' := 1396) (tgt := 1398) dL_law_1393 rfl (by decide) (by omega) (by omega) (fun c_1393 => ?_) (fun c_1393 => ?_)
            · skip
              refine k_lvw [some (.ref b), some (.int (iI t)), some (.ref (a 0)), some (.ref (a 43)), some (.ref (a 44)), none, none, none, none, some (.int (iI had)), none, none, none, none, none, none, none, none, none] (lvw_of _ _ [true, true, true, true, true, false, false, false, false, true, false, false, false, false, false, false, false, false, false] rfl) ?_
              exact lp_1398 M_1375 (hJe.1.1) (hhM.imp id (fun q => ⟨q.1, q.2.elim (fun x qx => ⟨x, qx.1, by rw [ve, same_okf (CI_lOK hJa.1.1) hsd, va]; exact qx.2⟩)⟩))
            · skip
              exfalso; omega
end LAWC
