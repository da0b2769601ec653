/-! ===== the law: fits, places, weights ===== -/
theorem keepF_t {P Q R : Mem} (h : keepF P Q) (h2 : keepF Q R) : keepF P R := fun k hk => (h2 k hk).trans (h k hk)
theorem keepF_0 (P : Mem) : keepF P P := fun _ _ => rfl
theorem CI_rule {M N : Mem} {w n : Int} (hC : CI M) (hw : 0 ≤ w ∧ w ≤ 4) (hn : 0 ≤ n ∧ n ≤ rmx w) (h : rnQ (sc M 9 (upf (M 9) w n)) N) : CI N := by
  obtain ⟨hCB, hK, hF⟩ := hC
  have hr : rulB (upf (M 9) w n) := by
    obtain ⟨r0, r1, r2, r3, r4⟩ := hCB.2.2.1.2.2.2.2.2
    unfold rmx at hn
    refine ⟨?_, ?_, ?_, ?_, ?_⟩
    · unfold upf; split
      · rw [if_pos (by omega)] at hn; omega
      · exact r0
    · unfold upf; split
      · rw [if_neg (by omega), if_pos (by omega)] at hn; exact hn
      · exact r1
    · unfold upf; split
      · rw [if_neg (by omega), if_pos (by omega)] at hn; exact hn
      · exact r2
    · unfold upf; split
      · rw [if_neg (by omega), if_neg (by omega)] at hn; exact hn
      · exact r3
    · unfold upf; split
      · rw [if_neg (by omega), if_neg (by omega)] at hn; exact hn
      · exact r4
  exact CI_rn (M := sc M 9 (upf (M 9) w n)) ⟨hCB.1, hCB.2.1, ⟨hCB.2.2.1.1, hCB.2.2.1.2.1, hCB.2.2.1.2.2.1, hCB.2.2.1.2.2.2.1, hCB.2.2.1.2.2.2.2.1, hr⟩, hCB.2.2.2.1, hCB.2.2.2.2.1, hCB.2.2.2.2.2⟩ hK.1 h
theorem rule_up {Q N : Mem} (hC : CI Q) (hw9 : Q 9 1 < 9) (h : rnQ (sc Q 9 (upf (Q 9) 1 (Q 9 1 + 1))) N) : CI N ∧ (∀ x, okL (viewC N) x ↔ okL (viewC Q) x) ∧ ∀ x, leastL (viewC Q) x ≤ leastL (viewC N) x := by
  have wR : 0 ≤ Q 9 1 ∧ Q 9 1 ≤ 9 := (CI_rul hC).1
  have hN := CI_rule hC (by decide) (by rw [show rmx 1 = 9 from rfl]; omega) h
  have e : ∀ k : Nat, k < 24 → k ≠ 9 → N k = Q k := fun k k1 k2 => (rn_id h (Or.inl k1)).trans (sc_n k2)
  have e9 : N 9 = upf (Q 9) 1 (Q 9 1 + 1) := rn_id h (by decide)
  have hs := CI_wt hC hN (r := Q 9 1 + 1) (by rw [e 1 (by decide) (by decide)]) (by rw [e 4 (by decide) (by decide)]) (e 5 (by decide) (by decide)) (e 6 (by decide) (by decide)) (e 7 (by decide) (by decide)) (e 8 (by decide) (by decide)) e9
  have hL := wtL_lOK (r := Q 9 1 + 1) (CI_lOK hC)
  refine ⟨hN, fun x => same_ok hL hs, fun x => ?_⟩
  rw [same_least hL hs]
  exact wtL_least (by show Q 9 1 ≤ Q 9 1 + 1; omega)
theorem rule_back {Q N K N2 : Mem} {k : Int} (hJ : BJ Q k) (hw9 : Q 9 1 < 9) (h : rnQ (sc Q 9 (upf (Q 9) 1 (Q 9 1 + 1))) N) (hk : keepF N K) (ho : kOK K) (h2 : rnQ (sc K 9 (upf (K 9) 1 (Q 9 1))) N2) : BJ N2 k ∧ same (viewC Q) (viewC N2) := by
  obtain ⟨⟨hC, h4, h44, h9⟩, hE⟩ := hJ
  have wR : 0 ≤ Q 9 1 ∧ Q 9 1 ≤ 9 := (CI_rul hC).1
  have hN := CI_rule hC (by decide) (by rw [show rmx 1 = 9 from rfl]; omega) h
  have hK := CI_keep hN hk ho
  have hN2 := CI_rule hK (by decide) (by rw [show rmx 1 = 9 from rfl]; omega) h2
  have e : ∀ j : Nat, j < 24 → j ≠ 9 → N2 j = Q j := fun j k1 k2 => (rn_id h2 (Or.inl k1)).trans ((sc_n k2).trans ((hk j (Or.inl (by omega))).trans ((rn_id h (Or.inl k1)).trans (sc_n k2))))
  have e44 : N2 44 = Q 44 := (rn_id h2 (by decide)).trans ((sc_n (by decide)).trans ((hk 44 (Or.inr (by decide))).trans ((rn_id h (by decide)).trans (sc_n (by decide)))))
  have e9 : N2 9 = Q 9 := by
    have a1 : N2 9 = upf (K 9) 1 (Q 9 1) := rn_id h2 (by decide)
    have a2 : K 9 = N 9 := hk 9 (Or.inl (by decide))
    have a3 : N 9 = upf (Q 9) 1 (Q 9 1 + 1) := rn_id h (by decide)
    rw [a1, a2, a3, upf_w]
    funext i
    unfold upf
    by_cases z : i = 1
    · subst z; rw [if_pos rfl]
    · rw [if_neg z]
  have e4 := e 4 (by decide) (by decide)
  refine ⟨⟨⟨hN2, by rw [e4]; exact h4, by rw [e44]; exact h44, fun i a b => by rw [e9, e44]; exact h9 i a b⟩, fun u u0 u1 => ?_⟩, ?_⟩
  · rw [e4] at u1
    rw [e 7 (by decide) (by decide), e 8 (by decide) (by decide)]
    exact hE u u0 u1
  · exact CI_same hC hN2 (by rw [e 1 (by decide) (by decide)]) (by rw [e4]) (e 5 (by decide) (by decide)) (e 6 (by decide) (by decide)) (e 7 (by decide) (by decide)) (e 8 (by decide) (by decide)) (fun w _ _ => by rw [e9])
section LAWB
variable {p : Program} {l : Launch} {e : Env} {s : State} {m : MethodId} {below : List Frame} {meth : Method} {c : Code} {D : va_G} {T : Nat → ClassId} {a : Nat → Nat} {b nS kc ks : Nat} {xs : Nat → Int32}
set_option maxHeartbeats 4000000 in
set_option maxRecDepth 100000 in
theorem law_s6n (F : CallFix p m c cL_law 19 s #[.ref b] lw_tbl RL) (K : va_K D vwCl (tysT T) s) (X0 : XL b nS xs (fun q : Nat => s.heap.size ≤ q) s s.heap) (hcs : kc ≤ room_1.cells ∧ ks ≤ room_1.slots) (P : Mem) (mk t n sz : Int) (hk : 0 ≤ mk ∧ mk ≤ 12) (hJ : BJ P mk) (hnP : P 24 0 = n) (hs : 1 ≤ sz ∧ sz ≤ 60) (had z0 bb : Int) (hnok : ¬ okL (viewC P) sz) (hbb : 0 ≤ bb ∧ bb < viewC P 0 11) (hb1 : sz < lpp (wL (viewC P) sz) bb + wL (viewC P) sz bb) (hb2 : ∀ j, 0 ≤ j → j < bb → lpp (wL (viewC P) sz) j + wL (viewC P) sz j ≤ sz) (hz0 : (sz < wL (viewC P) sz bb ∧ z0 = 1) ∨ (wL (viewC P) sz bb ≤ sz ∧ z0 = 2)) (Q : Mem) (hkQ : keepF P Q) (hoQ : kOK Q) (kk_1300 : ∀ (R : Mem) (hJR : BJ R mk) (hnR : R 24 0 = n) (hoR : ∀ x, okL (viewC R) x ↔ okL (viewC P) x), KK kc ks p l e room_1 s m #[.ref b] below meth c (lw_Z below #[.ref b] s) D (fun q : Nat => s.heap.size ≤ q) 19 (wld T a LL R) 1300 [some (.ref b), some (.int (iI t)), some (.ref (a 0)), some (.ref (a 43)), some (.ref (a 44)), some (.int (iI n)), none, none, none, some (.int (iI had)), some (.int (iI sz)), none, none, none, none, none, none, none, none] []) : KK kc ks p l e room_1 s m #[.ref b] below meth c (lw_Z below #[.ref b] s) D (fun q : Nat => s.heap.size ≤ q) 19 (wld T a LL Q) 948 [some (.ref b), some (.int (iI t)), some (.ref (a 0)), some (.ref (a 43)), some (.ref (a 44)), some (.int (iI n)), none, none, none, some (.int (iI had)), some (.int (iI sz)), some (.int (iI z0)), some (.long (lI (-3))), none, none, none, none, none, none] [] := by
  have hB := hJ.1
  have hC := hB.1
  have hn := CI_n hC
  have hg := (CI_grp hC).1
  have hL := CI_lOK hC
  have hRu := CI_rul hC
  have b4 := hB.2.1
  have hCQ := CI_keep hC hkQ hoQ
  have n_0n : Q 24 0 = n := by rw [hkQ 24 (Or.inl (by decide))]; exact hnP
  have k_0n : Q 24 6 = P 24 6 := by rw [hkQ 24 (Or.inl (by decide))]
  have hbn : bb < P 24 0 := hbb.2
  refine k_aload_n F (pc' := 949) dL_law_948 rfl rfl ?_
  refine k_iload F (pc' := 951) dL_law_949 rfl rfl ?_
  refine k_iconst F (pc' := 952) dL_law_951 rfl ?_
  refine k_callI F K (XL_c b nS xs) (fun _ h9 => h9) X0 hcs (pc' := 955) (st := []) (e4_why_1 (X := XL b nS xs) XL_S l a Q sz (by omega) hCQ) (cwV 2 F.2.2.2.2 (goodIn_L gL_law_X4_why) rfl rfl rfl (by decide +kernel) ⟨Nat.le_of_ble_eq_true rfl, Nat.le_of_ble_eq_true rfl⟩) rfl rfl rfl rfl (Nat.le_of_ble_eq_true rfl) dL_law_952 rfl (fun z_952 M_952 q_952 => ?_)
  obtain ⟨hw_952, hk0_952, ho_952⟩ := q_952
  rw [view_keep hkQ] at hw_952
  have hk_952 : keepF P M_952 := keepF_t hkQ hk0_952
  have hC_952 := CI_keep hC hk_952 ho_952
  have n_952n : M_952 24 0 = n := by rw [hk_952 24 (Or.inl (by decide))]; exact hnP
  have k_952n : M_952 24 6 = P 24 6 := by rw [hk_952 24 (Or.inl (by decide))]
  have hz_952 : z_952 = bb := by
    rcases hw_952 with ⟨h0, -⟩ | ⟨b2, hbb2, g1, g2, hz⟩
    · exact absurd (show okL (viewC P) sz from h0) hnok
    · rw [if_pos rfl] at hz
      rw [hz]
      rcases Int.lt_trichotomy b2 bb with g | g | g
      · have := hb2 b2 hbb2.1 g; omega
      · exact g
      · have := g2 bb hbb.1 g; omega
  refine kh_top (z' := bb) hz_952 ?_
  refine k_istore F (pc' := 957) (lv' := [some (.ref b), some (.int (iI t)), some (.ref (a 0)), some (.ref (a 43)), some (.ref (a 44)), some (.int (iI n)), none, none, none, some (.int (iI had)), some (.int (iI sz)), some (.int (iI z0)), some (.long (lI (-3))), none, some (.int (iI bb)), none, none, none, none]) dL_law_955 rfl (by decide) rfl ?_
  refine k_iload F (pc' := 959) dL_law_957 rfl rfl ?_
  refine k_if_lt F (pc' := 962) (tgt := 1028) dL_law_959 rfl (by decide) (by omega) (fun c_959 => ?_) (fun c_959 => ?_)
  · skip
    exfalso; omega
  · skip
    refine k_iload F (pc' := 964) dL_law_962 rfl rfl ?_
    refine k_iload F (pc' := 966) dL_law_964 rfl rfl ?_
    refine k_icmp_ge F (pc' := 969) (tgt := 1028) dL_law_966 rfl (by decide) (by omega) (by omega) (fun c_966 => ?_) (fun c_966 => ?_)
    · skip
      exfalso; omega
    · skip
      refine k_lload F (pc' := 971) dL_law_969 rfl rfl ?_
      refine k_ldc2 F (pc' := 974) (z := (-3)) dL_law_971 rfl (wsL_law_in _ (List.mem_of_getElem? (l := wsL_law) (i := 4) rfl)) (by decide +kernel) ?_
      refine k_lcmp F (pc' := 975) dL_law_974 rfl (by decide) (by decide) ?_
      refine k_if_ne F (pc' := 978) (tgt := 1028) dL_law_975 rfl (by decide) (by decide) (fun c_975 => ?_) (fun c_975 => ?_)
      · skip
        have c_975 := cmpz_ne.mp c_975
        exact absurd rfl c_975
      · skip
        have c_975 := cmpz_eq.mp c_975
        refine k_aload_n F (pc' := 979) dL_law_978 rfl rfl ?_
        refine k_iload F (pc' := 981) dL_law_979 rfl rfl ?_
        refine k_iload F (pc' := 983) dL_law_981 rfl rfl ?_
        refine k_callI F K (XL_c b nS xs) (fun _ h9 => h9) X0 hcs (pc' := 986) (st := []) (e4_fit (X := XL b nS xs) XL_S l a M_952 sz bb (by omega) (by omega) hC_952) (cwV 2 F.2.2.2.2 (goodIn_L gL_law_X4_fit) rfl rfl rfl (by decide +kernel) ⟨Nat.le_of_ble_eq_true rfl, Nat.le_of_ble_eq_true rfl⟩) rfl rfl rfl rfl (Nat.le_of_ble_eq_true rfl) dL_law_983 rfl (fun z_983 M_983 q_983 => ?_)
        obtain ⟨ez_983, hk0_983, ho_983⟩ := q_983
        rw [view_keep hk_952, pif_f hnok] at ez_983
        have hk_983 : keepF P M_983 := keepF_t hk_952 hk0_983
        have hC_983 := CI_keep hC hk_983 ho_983
        have n_983n : M_983 24 0 = n := by rw [hk_983 24 (Or.inl (by decide))]; exact hnP
        have k_983n : M_983 24 6 = P 24 6 := by rw [hk_983 24 (Or.inl (by decide))]
        refine k_bipush F (pc' := 988) dL_law_986 rfl (by decide +kernel) ?_
        refine k_icmp_ne F (pc' := 991) (tgt := 1028) dL_law_988 rfl (by decide) (by omega) (by decide) (fun c_988 => ?_) (fun c_988 => ?_)
        · skip
          exfalso; omega
        · skip
          refine k_iload F (pc' := 993) dL_law_991 rfl rfl ?_
          refine k_iconst F (pc' := 994) dL_law_993 rfl ?_
          refine k_icmp_ne F (pc' := 997) (tgt := 1001) dL_law_994 rfl (by decide) (by omega) (by decide) (fun c_994 => ?_) (fun c_994 => ?_)
          · skip
            refine k_iconst F (pc' := 1002) dL_law_1001 rfl ?_
            refine k_aload_n F (pc' := 1003) dL_law_1002 rfl rfl ?_
            refine k_aload_n F (pc' := 1004) dL_law_1003 rfl rfl ?_
            refine k_iload F (pc' := 1006) dL_law_1004 rfl rfl ?_
            refine k_iconst F (pc' := 1007) dL_law_1006 rfl ?_
            refine k_callI F K (XL_c b nS xs) (fun _ h9 => h9) X0 hcs (pc' := 1010) (st := [.ref (a 0), .int (iI 0)]) (e4_stem_4 (X := XL b nS xs) XL_S l a M_983 bb (by omega) hC_983) (cwV 2 F.2.2.2.2 (goodIn_L gL_law_X4_stem) rfl rfl rfl (by decide +kernel) ⟨Nat.le_of_ble_eq_true rfl, Nat.le_of_ble_eq_true rfl⟩) rfl rfl rfl rfl (Nat.le_of_ble_eq_true rfl) dL_law_1007 rfl (fun z_1007 M_1007 q_1007 => ?_)
            obtain ⟨rfl, mq_1007⟩ := q_1007
            have mq_1007 := mq_1007.symm; subst mq_1007
            refine kh_top (z' := P 29 bb) (by rw [hk_983 29 (Or.inl (by decide))]) ?_
            have st_1007 := (CI_stem hC (j := bb) (by omega) (by omega)).1
            refine k_iload F (pc' := 1012) dL_law_1010 rfl rfl ?_
            refine k_callI F K (XL_c b nS xs) (fun _ h9 => h9) X0 hcs (pc' := 1015) (st := [.int (iI 0)]) (e4_dots (X := XL b nS xs) XL_S l a M_983 (P 29 bb) sz (by omega) (by omega) hC_983) (cwV 2 F.2.2.2.2 (goodIn_L gL_law_X4_dots) rfl rfl rfl (by decide +kernel) ⟨Nat.le_of_ble_eq_true rfl, Nat.le_of_ble_eq_true rfl⟩) rfl rfl rfl rfl (Nat.le_of_ble_eq_true rfl) dL_law_1012 rfl (fun z_1012 M_1012 q_1012 => ?_)
            obtain ⟨rfl, mq_1012⟩ := q_1012
            have mq_1012 := mq_1012.symm; subst mq_1012
            refine kh_top (z' := wL (viewC P) sz bb) (by rw [hk_983 32 (Or.inl (by decide)), hk_983 30 (Or.inl (by decide)), hk_983 9 (Or.inl (by decide))]; rfl) ?_
            have wr_1012 := wL_R (CI_lOK hC) (CI_rul hC).2.2.2 (sz := sz) (s := bb) hs (by omega) (by show bb < P 24 0; omega)
            refine k_iload F (pc' := 1017) dL_law_1015 rfl rfl ?_
            refine k_icmp_le F (pc' := 1020) (tgt := 1024) dL_law_1017 rfl (by decide) (by omega) (by omega) (fun c_1017 => ?_) (fun c_1017 => ?_)
            · skip
              refine k_iconst F (pc' := 1025) dL_law_1024 rfl ?_
              refine k_icmp_eq F (pc' := 1028) (tgt := 1300) dL_law_1025 rfl (by decide) (by decide) (by decide) (fun c_1025 => ?_) (fun c_1025 => ?_)
              · skip
                refine k_lvw [some (.ref b), some (.int (iI t)), some (.ref (a 0)), some (.ref (a 43)), some (.ref (a 44)), some (.int (iI n)), none, none, none, some (.int (iI had)), some (.int (iI sz)), none, none, none, none, none, none, none, none] (lvw_of _ _ [true, true, true, true, true, true, false, false, false, true, true, false, false, false, false, false, false, false, false] rfl) ?_
                exact kk_1300 M_983 (BJ_keep hJ hk_983 ho_983) (n_983n) (fun x => by rw [view_keep hk_983])
              · skip
                exact absurd c_1025 (by decide)
            · skip
              refine k_iconst F (pc' := 1021) dL_law_1020 rfl ?_
              refine k_goto F (tgt := 1025) dL_law_1021 (by decide) ?_
              refine k_icmp_eq F (pc' := 1028) (tgt := 1300) dL_law_1025 rfl (by decide) (by decide) (by decide) (fun c_1025 => ?_) (fun c_1025 => ?_)
              · skip
                exact absurd c_1025 (by decide)
              · skip
                exfalso; omega
          · skip
            refine k_iconst F (pc' := 998) dL_law_997 rfl ?_
            refine k_goto F (tgt := 1002) dL_law_998 (by decide) ?_
            refine k_aload_n F (pc' := 1003) dL_law_1002 rfl rfl ?_
            refine k_aload_n F (pc' := 1004) dL_law_1003 rfl rfl ?_
            refine k_iload F (pc' := 1006) dL_law_1004 rfl rfl ?_
            refine k_iconst F (pc' := 1007) dL_law_1006 rfl ?_
            refine k_callI F K (XL_c b nS xs) (fun _ h9 => h9) X0 hcs (pc' := 1010) (st := [.ref (a 0), .int (iI 1)]) (e4_stem_4 (X := XL b nS xs) XL_S l a M_983 bb (by omega) hC_983) (cwV 2 F.2.2.2.2 (goodIn_L gL_law_X4_stem) rfl rfl rfl (by decide +kernel) ⟨Nat.le_of_ble_eq_true rfl, Nat.le_of_ble_eq_true rfl⟩) rfl rfl rfl rfl (Nat.le_of_ble_eq_true rfl) dL_law_1007 rfl (fun z_1007 M_1007 q_1007 => ?_)
            obtain ⟨rfl, mq_1007⟩ := q_1007
            have mq_1007 := mq_1007.symm; subst mq_1007
            refine kh_top (z' := P 29 bb) (by rw [hk_983 29 (Or.inl (by decide))]) ?_
            have st_1007 := (CI_stem hC (j := bb) (by omega) (by omega)).1
            refine k_iload F (pc' := 1012) dL_law_1010 rfl rfl ?_
            refine k_callI F K (XL_c b nS xs) (fun _ h9 => h9) X0 hcs (pc' := 1015) (st := [.int (iI 1)]) (e4_dots (X := XL b nS xs) XL_S l a M_983 (P 29 bb) sz (by omega) (by omega) hC_983) (cwV 2 F.2.2.2.2 (goodIn_L gL_law_X4_dots) rfl rfl rfl (by decide +kernel) ⟨Nat.le_of_ble_eq_true rfl, Nat.le_of_ble_eq_true rfl⟩) rfl rfl rfl rfl (Nat.le_of_ble_eq_true rfl) dL_law_1012 rfl (fun z_1012 M_1012 q_1012 => ?_)
            obtain ⟨rfl, mq_1012⟩ := q_1012
            have mq_1012 := mq_1012.symm; subst mq_1012
            refine kh_top (z' := wL (viewC P) sz bb) (by rw [hk_983 32 (Or.inl (by decide)), hk_983 30 (Or.inl (by decide)), hk_983 9 (Or.inl (by decide))]; rfl) ?_
            have wr_1012 := wL_R (CI_lOK hC) (CI_rul hC).2.2.2 (sz := sz) (s := bb) hs (by omega) (by show bb < P 24 0; omega)
            refine k_iload F (pc' := 1017) dL_law_1015 rfl rfl ?_
            refine k_icmp_le F (pc' := 1020) (tgt := 1024) dL_law_1017 rfl (by decide) (by omega) (by omega) (fun c_1017 => ?_) (fun c_1017 => ?_)
            · skip
              refine k_iconst F (pc' := 1025) dL_law_1024 rfl ?_
              refine k_icmp_eq F (pc' := 1028) (tgt := 1300) dL_law_1025 rfl (by decide) (by decide) (by decide) (fun c_1025 => ?_) (fun c_1025 => ?_)
              · skip
                exact absurd c_1025 (by decide)
              · skip
                exfalso; omega
            · skip
              refine k_iconst F (pc' := 1021) dL_law_1020 rfl ?_
              refine k_goto F (tgt := 1025) dL_law_1021 (by decide) ?_
              refine k_icmp_eq F (pc' := 1028) (tgt := 1300) dL_law_1025 rfl (by decide) (by decide) (by decide) (fun c_1025 => ?_) (fun c_1025 => ?_)
              · skip
                refine k_lvw [some (.ref b), some (.int (iI t)), some (.ref (a 0)), some (.ref (a 43)), some (.ref (a 44)), some (.int (iI n)), none, none, none, some (.int (iI had)), some (.int (iI sz)), none, none, none, none, none, none, none, none] (lvw_of _ _ [true, true, true, true, true, true, false, false, false, true, true, false, false, false, false, false, false, false, false] rfl) ?_
                exact kk_1300 M_983 (BJ_keep hJ hk_983 ho_983) (n_983n) (fun x => by rw [view_keep hk_983])
              · skip
                exact absurd c_1025 (by decide)

set_option maxHeartbeats 4000000 in
set_option maxRecDepth 100000 in
theorem law_s6a (F : CallFix p m c cL_law 19 s #[.ref b] lw_tbl RL) (K : va_K D vwCl (tysT T) s) (X0 : XL b nS xs (fun q : Nat => s.heap.size ≤ q) s s.heap) (hcs : kc ≤ room_1.cells ∧ ks ≤ room_1.slots) (P : Mem) (mk t n sz : Int) (hk : 0 ≤ mk ∧ mk ≤ 12) (hJ : BJ P mk) (hnP : P 24 0 = n) (hs : 1 ≤ sz ∧ sz ≤ 60) (dd : Int) (hok : okL (viewC P) sz) (hdd : dd = leastL (viewC P) sz) (Q : Mem) (hkQ : keepF P Q) (hoQ : kOK Q) (kk_1177 : ∀ (Q2 : Mem) (hkQ2 : keepF P Q2) (hoQ2 : kOK Q2), KK kc ks p l e room_1 s m #[.ref b] below meth c (lw_Z below #[.ref b] s) D (fun q : Nat => s.heap.size ≤ q) 19 (wld T a LL Q2) 1177 [some (.ref b), some (.int (iI t)), some (.ref (a 0)), some (.ref (a 43)), some (.ref (a 44)), some (.int (iI n)), none, none, none, some (.int (iI 1)), some (.int (iI sz)), none, some (.long (lI dd)), none, none, some (.int (iI (-1000000))), none, none, none] []) : KK kc ks p l e room_1 s m #[.ref b] below meth c (lw_Z below #[.ref b] s) D (fun q : Nat => s.heap.size ≤ q) 19 (wld T a LL Q) 1030 [some (.ref b), some (.int (iI t)), some (.ref (a 0)), some (.ref (a 43)), some (.ref (a 44)), some (.int (iI n)), none, none, none, none, some (.int (iI sz)), none, some (.long (lI dd)), none, none, none, none, none, none] [] := by
  have hB := hJ.1
  have hC := hB.1
  have hn := CI_n hC
  have hg := (CI_grp hC).1
  have hL := CI_lOK hC
  have hRu := CI_rul hC
  have b4 := hB.2.1
  have hCQ := CI_keep hC hkQ hoQ
  have n_0n : Q 24 0 = n := by rw [hkQ 24 (Or.inl (by decide))]; exact hnP
  have k_0n : Q 24 6 = P 24 6 := by rw [hkQ 24 (Or.inl (by decide))]
  have dR := leastL_R hL hRu hs hok
  have pO : plOK (P 24 0) (P 25) (P 26) (dotL (viewC P) sz) (wL (viewC P) sz) := L_plOK hL hRu hs hok
  refine k_iconst F (pc' := 1031) dL_law_1030 rfl ?_
  refine k_istore F (pc' := 1033) (lv' := [some (.ref b), some (.int (iI t)), some (.ref (a 0)), some (.ref (a 43)), some (.ref (a 44)), some (.int (iI n)), none, none, none, some (.int (iI 1)), some (.int (iI sz)), none, some (.long (lI dd)), none, none, none, none, none, none]) dL_law_1031 rfl (by decide) rfl ?_
  refine k_lload F (pc' := 1035) dL_law_1033 rfl rfl ?_
  refine k_lconst F (pc' := 1036) (z := 0) dL_law_1035 rfl rfl ?_
  refine k_lcmp F (pc' := 1037) dL_law_1036 rfl (by omega) (by decide) ?_
  refine k_if_lt F (pc' := 1040) (tgt := 1052) dL_law_1037 rfl (by decide) (cmpz_R _ _) (fun c_1037 => ?_) (fun c_1037 => ?_)
  · skip
    have c_1037 := cmpz_lt.mp c_1037
    exfalso; omega
  · skip
    have c_1037 := cmpz_ge.mp c_1037
    refine k_aload_n F (pc' := 1041) dL_law_1040 rfl rfl ?_
    refine k_iload F (pc' := 1043) dL_law_1041 rfl rfl ?_
    refine k_iconst F (pc' := 1044) dL_law_1043 rfl ?_
    refine k_callI F K (XL_c b nS xs) (fun _ h9 => h9) X0 hcs (pc' := 1047) (st := []) (e4_why_1 (X := XL b nS xs) XL_S l a Q sz (by omega) hCQ) (cwV 2 F.2.2.2.2 (goodIn_L gL_law_X4_why) rfl rfl rfl (by decide +kernel) ⟨Nat.le_of_ble_eq_true rfl, Nat.le_of_ble_eq_true rfl⟩) rfl rfl rfl rfl (Nat.le_of_ble_eq_true rfl) dL_law_1044 rfl (fun z_1044 M_1044 q_1044 => ?_)
    obtain ⟨hw_1044, hk0_1044, ho_1044⟩ := q_1044
    rw [view_keep hkQ] at hw_1044
    have hk_1044 : keepF P M_1044 := keepF_t hkQ hk0_1044
    have hC_1044 := CI_keep hC hk_1044 ho_1044
    have n_1044n : M_1044 24 0 = n := by rw [hk_1044 24 (Or.inl (by decide))]; exact hnP
    have k_1044n : M_1044 24 6 = P 24 6 := by rw [hk_1044 24 (Or.inl (by decide))]
    have hz_1044 : z_1044 = -6 := by
      rcases hw_1044 with ⟨-, hz⟩ | ⟨bb, hbb, hb1, -, -⟩
      · exact hz.trans (if_neg (by decide))
      · have q2 : lpp (wL (viewC P) sz) bb + wL (viewC P) sz bb ≤ sz := hok bb hbb.1 hbb.2
        omega
    refine k_bipush F (pc' := 1049) dL_law_1047 rfl (by decide +kernel) ?_
    refine k_icmp_eq F (pc' := 1052) (tgt := 1054) dL_law_1049 rfl (by decide) (by omega) (by decide) (fun c_1049 => ?_) (fun c_1049 => ?_)
    · skip
      refine k_iconst F (pc' := 1055) dL_law_1054 rfl ?_
      refine k_istore F (pc' := 1057) (lv' := [some (.ref b), some (.int (iI t)), some (.ref (a 0)), some (.ref (a 43)), some (.ref (a 44)), some (.int (iI n)), none, none, none, some (.int (iI 1)), some (.int (iI sz)), none, some (.long (lI dd)), none, some (.int (iI 0)), none, none, none, none]) dL_law_1055 rfl (by decide) rfl ?_
      refine k_ldc F (pc' := 1059) (z := (-1000000)) dL_law_1057 rfl (wsL_law_in _ (List.mem_of_getElem? (l := wsL_law) (i := 5) rfl)) (by decide +kernel) ?_
      refine k_istore F (pc' := 1061) (lv' := [some (.ref b), some (.int (iI t)), some (.ref (a 0)), some (.ref (a 43)), some (.ref (a 44)), some (.int (iI n)), none, none, none, some (.int (iI 1)), some (.int (iI sz)), none, some (.long (lI dd)), none, some (.int (iI 0)), some (.int (iI (-1000000))), none, none, none]) dL_law_1059 rfl (by decide) rfl ?_
      refine k_iconst F (pc' := 1062) dL_law_1061 rfl ?_
      refine k_istore F (pc' := 1064) (lv' := [some (.ref b), some (.int (iI t)), some (.ref (a 0)), some (.ref (a 43)), some (.ref (a 44)), some (.int (iI n)), none, none, none, some (.int (iI 1)), some (.int (iI sz)), none, some (.long (lI dd)), none, some (.int (iI 0)), some (.int (iI (-1000000))), some (.int (iI 0)), none, none]) dL_law_1062 rfl (by decide) rfl ?_
      have lp_1064 : ∀ (n_1064 : Nat) (R : Mem) (q : Int) (i : Int) (hm_1064 : n - i < (n_1064 : Int)) (hi : 0 ≤ i ∧ i ≤ n) (hq : (0 ≤ q ∧ q ≤ 200) ∧ (i < n → q ≤ dotL (viewC P) sz i)) (hkR : keepF P R) (hoR : kOK R), KK kc ks p l e room_1 s m #[.ref b] below meth c (lw_Z below #[.ref b] s) D (fun q : Nat => s.heap.size ≤ q) 19 (wld T a LL R) 1064 [some (.ref b), some (.int (iI t)), some (.ref (a 0)), some (.ref (a 43)), some (.ref (a 44)), some (.int (iI n)), none, none, none, some (.int (iI 1)), some (.int (iI sz)), none, some (.long (lI dd)), none, some (.int (iI q)), some (.int (iI (-1000000))), some (.int (iI i)), none, none] [] := by
        intro n_1064
        induction n_1064 with
        | zero => intro R q i hm_1064 hi hq hkR hoR; exfalso; omega
        | succ n_1064 ih_1064 =>
          intro R q i hm_1064 hi hq hkR hoR
          have hCR := CI_keep hC hkR hoR
          have n_1n : R 24 0 = n := by rw [hkR 24 (Or.inl (by decide))]; exact hnP
          have k_1n : R 24 6 = P 24 6 := by rw [hkR 24 (Or.inl (by decide))]
          refine k_iload F (pc' := 1066) dL_law_1064 rfl rfl ?_
          refine k_iload F (pc' := 1068) dL_law_1066 rfl rfl ?_
          refine k_icmp_ge F (pc' := 1071) (tgt := 1177) dL_law_1068 rfl (by decide) (by omega) (by omega) (fun c_1068 => ?_) (fun c_1068 => ?_)
          · skip
            refine k_lvw [some (.ref b), some (.int (iI t)), some (.ref (a 0)), some (.ref (a 43)), some (.ref (a 44)), some (.int (iI n)), none, none, none, some (.int (iI 1)), some (.int (iI sz)), none, some (.long (lI dd)), none, none, some (.int (iI (-1000000))), none, none, none] (lvw_of _ _ [true, true, true, true, true, true, false, false, false, true, true, false, true, false, false, true, false, false, false] rfl) ?_
            exact kk_1177 R (hkR) (hoR)
          · skip
            have iP : i < P 24 0 := by omega
            have d1 := dotL_R hL hRu hs hok (s := i) hi.1 iP
            have d2 := dot_in hL hRu hs hok (s := i) hi.1 iP
            have qd := hq.2 (by omega)
            have pl : plF (P 24 0) (P 25 i) (P 25) (P 26) (dotL (viewC P) sz) (wL (viewC P) sz) sz = 1000 * dotL (viewC P) sz i := pl_left pO hi.1 iP
            have pr : plF (P 24 0) (P 26 i) (P 25) (P 26) (dotL (viewC P) sz) (wL (viewC P) sz) sz = 1000 * (dotL (viewC P) sz i + wL (viewC P) sz i) := pl_right pO hi.1 iP
            refine k_aload_n F (pc' := 1072) dL_law_1071 rfl rfl ?_
            refine k_iload F (pc' := 1074) dL_law_1072 rfl rfl ?_
            refine k_iload F (pc' := 1076) dL_law_1074 rfl rfl ?_
            refine k_callI F K (XL_c b nS xs) (fun _ h9 => h9) X0 hcs (pc' := 1079) (st := []) (e4_fit (X := XL b nS xs) XL_S l a R sz i (by omega) (by omega) hCR) (cwV 2 F.2.2.2.2 (goodIn_L gL_law_X4_fit) rfl rfl rfl (by decide +kernel) ⟨Nat.le_of_ble_eq_true rfl, Nat.le_of_ble_eq_true rfl⟩) rfl rfl rfl rfl (Nat.le_of_ble_eq_true rfl) dL_law_1076 rfl (fun z_1076 M_1076 q_1076 => ?_)
            obtain ⟨ez_1076, hk0_1076, ho_1076⟩ := q_1076
            rw [view_keep hkR, pif_t hok] at ez_1076
            have hk_1076 : keepF P M_1076 := keepF_t hkR hk0_1076
            have hC_1076 := CI_keep hC hk_1076 ho_1076
            have n_1076n : M_1076 24 0 = n := by rw [hk_1076 24 (Or.inl (by decide))]; exact hnP
            have k_1076n : M_1076 24 6 = P 24 6 := by rw [hk_1076 24 (Or.inl (by decide))]
            refine k_istore F (pc' := 1081) (lv' := [some (.ref b), some (.int (iI t)), some (.ref (a 0)), some (.ref (a 43)), some (.ref (a 44)), some (.int (iI n)), none, none, none, some (.int (iI 1)), some (.int (iI sz)), none, some (.long (lI dd)), none, some (.int (iI q)), some (.int (iI (-1000000))), some (.int (iI i)), some (.int (iI z_1076)), none]) dL_law_1079 rfl (by decide) rfl ?_
            refine k_aload_n F (pc' := 1082) dL_law_1081 rfl rfl ?_
            refine k_aload_n F (pc' := 1083) dL_law_1082 rfl rfl ?_
            refine k_iload F (pc' := 1085) dL_law_1083 rfl rfl ?_
            refine k_iconst F (pc' := 1086) dL_law_1085 rfl ?_
            refine k_callI F K (XL_c b nS xs) (fun _ h9 => h9) X0 hcs (pc' := 1089) (st := [.ref (a 0)]) (e4_stem_4 (X := XL b nS xs) XL_S l a M_1076 i (by omega) hC_1076) (cwV 2 F.2.2.2.2 (goodIn_L gL_law_X4_stem) rfl rfl rfl (by decide +kernel) ⟨Nat.le_of_ble_eq_true rfl, Nat.le_of_ble_eq_true rfl⟩) rfl rfl rfl rfl (Nat.le_of_ble_eq_true rfl) dL_law_1086 rfl (fun z_1086 M_1086 q_1086 => ?_)
            obtain ⟨rfl, mq_1086⟩ := q_1086
            have mq_1086 := mq_1086.symm; subst mq_1086
            refine kh_top (z' := P 29 i) (by rw [hk_1076 29 (Or.inl (by decide))]) ?_
            have st_1086 := (CI_stem hC (j := i) (by omega) (by omega)).1
            refine k_iload F (pc' := 1091) dL_law_1089 rfl rfl ?_
            refine k_callI F K (XL_c b nS xs) (fun _ h9 => h9) X0 hcs (pc' := 1094) (st := []) (e4_dots (X := XL b nS xs) XL_S l a M_1076 (P 29 i) sz (by omega) (by omega) hC_1076) (cwV 2 F.2.2.2.2 (goodIn_L gL_law_X4_dots) rfl rfl rfl (by decide +kernel) ⟨Nat.le_of_ble_eq_true rfl, Nat.le_of_ble_eq_true rfl⟩) rfl rfl rfl rfl (Nat.le_of_ble_eq_true rfl) dL_law_1091 rfl (fun z_1091 M_1091 q_1091 => ?_)
            obtain ⟨rfl, mq_1091⟩ := q_1091
            have mq_1091 := mq_1091.symm; subst mq_1091
            refine kh_top (z' := wL (viewC P) sz i) (by rw [hk_1076 32 (Or.inl (by decide)), hk_1076 30 (Or.inl (by decide)), hk_1076 9 (Or.inl (by decide))]; rfl) ?_
            have wr_1091 := wL_R (CI_lOK hC) (CI_rul hC).2.2.2 (sz := sz) (s := i) hs (by omega) (by show i < P 24 0; omega)
            refine k_istore F (pc' := 1096) (lv' := [some (.ref b), some (.int (iI t)), some (.ref (a 0)), some (.ref (a 43)), some (.ref (a 44)), some (.int (iI n)), none, none, none, some (.int (iI 1)), some (.int (iI sz)), none, some (.long (lI dd)), none, some (.int (iI q)), some (.int (iI (-1000000))), some (.int (iI i)), some (.int (iI z_1076)), some (.int (iI (wL (viewC P) sz i)))]) dL_law_1094 rfl (by decide) rfl ?_
            refine k_iload F (pc' := 1098) dL_law_1096 rfl rfl ?_
            refine k_iload F (pc' := 1100) dL_law_1098 rfl rfl ?_
            refine k_icmp_lt F (pc' := 1103) (tgt := 1160) dL_law_1100 rfl (by decide) (by omega) (by omega) (fun c_1100 => ?_) (fun c_1100 => ?_)
            · skip
              exfalso; omega
            · skip
              refine k_iload F (pc' := 1105) dL_law_1103 rfl rfl ?_
              refine k_iload F (pc' := 1107) dL_law_1105 rfl rfl ?_
              refine k_iadd F (pc' := 1108) dL_law_1107 rfl ?_
              refine k_iload F (pc' := 1110) dL_law_1108 rfl rfl ?_
              refine k_icmp_gt F (pc' := 1113) (tgt := 1160) dL_law_1110 rfl (by decide) (by omega) (by omega) (fun c_1110 => ?_) (fun c_1110 => ?_)
              · skip
                exfalso; omega
              · skip
                refine k_aload_n F (pc' := 1114) dL_law_1113 rfl rfl ?_
                refine k_iload F (pc' := 1116) dL_law_1114 rfl rfl ?_
                refine k_aload_n F (pc' := 1117) dL_law_1116 rfl rfl ?_
                refine k_iload F (pc' := 1119) dL_law_1117 rfl rfl ?_
                refine k_iconst F (pc' := 1120) dL_law_1119 rfl ?_
                refine k_callI F K (XL_c b nS xs) (fun _ h9 => h9) X0 hcs (pc' := 1123) (st := [.int (iI sz), .ref (a 0)]) (e4_stem_0 (X := XL b nS xs) XL_S l a M_1076 i (by omega) hC_1076) (cwV 2 F.2.2.2.2 (goodIn_L gL_law_X4_stem) rfl rfl rfl (by decide +kernel) ⟨Nat.le_of_ble_eq_true rfl, Nat.le_of_ble_eq_true rfl⟩) rfl rfl rfl rfl (Nat.le_of_ble_eq_true rfl) dL_law_1120 rfl (fun z_1120 M_1120 q_1120 => ?_)
                obtain ⟨rfl, mq_1120⟩ := q_1120
                have mq_1120 := mq_1120.symm; subst mq_1120
                refine kh_top (z' := P 25 i) (by rw [hk_1076 25 (Or.inl (by decide))]) ?_
                have st_1120 := (CI_stem hC (j := i) (by omega) (by omega)).1
                refine k_callI F K (XL_c b nS xs) (fun _ h9 => h9) X0 hcs (pc' := 1126) (st := []) (e4_place (X := XL b nS xs) XL_S l a M_1076 sz (P 25 i) (by omega) (by omega) (by rw [view_keep hk_1076]; exact hok) hC_1076) (cwV 2 F.2.2.2.2 (goodIn_L gL_law_X4_place) rfl rfl rfl (by decide +kernel) ⟨Nat.le_of_ble_eq_true rfl, Nat.le_of_ble_eq_true rfl⟩) rfl rfl rfl rfl (Nat.le_of_ble_eq_true rfl) dL_law_1123 rfl (fun z_1123 M_1123 q_1123 => ?_)
                obtain ⟨ez_1123, hk0_1123, ho_1123⟩ := q_1123
                rw [view_keep hk_1076, hk_1076 24 (Or.inl (by decide)), hk_1076 25 (Or.inl (by decide)), hk_1076 26 (Or.inl (by decide))] at ez_1123
                have hk_1123 : keepF P M_1123 := keepF_t hk_1076 hk0_1123
                have hC_1123 := CI_keep hC hk_1123 ho_1123
                have n_1123n : M_1123 24 0 = n := by rw [hk_1123 24 (Or.inl (by decide))]; exact hnP
                have k_1123n : M_1123 24 6 = P 24 6 := by rw [hk_1123 24 (Or.inl (by decide))]
                refine k_sipush F (pc' := 1129) dL_law_1126 rfl (by decide +kernel) ?_
                refine k_iload F (pc' := 1131) dL_law_1129 rfl rfl ?_
                refine k_imul F (pc' := 1132) dL_law_1131 rfl ?_
                refine k_icmp_ne F (pc' := 1135) (tgt := 1160) dL_law_1132 rfl (by decide) (by omega) (by omega) (fun c_1132 => ?_) (fun c_1132 => ?_)
                · skip
                  exfalso; omega
                · skip
                  refine k_aload_n F (pc' := 1136) dL_law_1135 rfl rfl ?_
                  refine k_iload F (pc' := 1138) dL_law_1136 rfl rfl ?_
                  refine k_aload_n F (pc' := 1139) dL_law_1138 rfl rfl ?_
                  refine k_iload F (pc' := 1141) dL_law_1139 rfl rfl ?_
                  refine k_iconst F (pc' := 1142) dL_law_1141 rfl ?_
                  refine k_callI F K (XL_c b nS xs) (fun _ h9 => h9) X0 hcs (pc' := 1145) (st := [.int (iI sz), .ref (a 0)]) (e4_stem_1 (X := XL b nS xs) XL_S l a M_1123 i (by omega) hC_1123) (cwV 2 F.2.2.2.2 (goodIn_L gL_law_X4_stem) rfl rfl rfl (by decide +kernel) ⟨Nat.le_of_ble_eq_true rfl, Nat.le_of_ble_eq_true rfl⟩) rfl rfl rfl rfl (Nat.le_of_ble_eq_true rfl) dL_law_1142 rfl (fun z_1142 M_1142 q_1142 => ?_)
                  obtain ⟨rfl, mq_1142⟩ := q_1142
                  have mq_1142 := mq_1142.symm; subst mq_1142
                  refine kh_top (z' := P 26 i) (by rw [hk_1123 26 (Or.inl (by decide))]) ?_
                  have st_1142 := (CI_stem hC (j := i) (by omega) (by omega)).1
                  refine k_callI F K (XL_c b nS xs) (fun _ h9 => h9) X0 hcs (pc' := 1148) (st := []) (e4_place (X := XL b nS xs) XL_S l a M_1123 sz (P 26 i) (by omega) (by omega) (by rw [view_keep hk_1123]; exact hok) hC_1123) (cwV 2 F.2.2.2.2 (goodIn_L gL_law_X4_place) rfl rfl rfl (by decide +kernel) ⟨Nat.le_of_ble_eq_true rfl, Nat.le_of_ble_eq_true rfl⟩) rfl rfl rfl rfl (Nat.le_of_ble_eq_true rfl) dL_law_1145 rfl (fun z_1145 M_1145 q_1145 => ?_)
                  obtain ⟨ez_1145, hk0_1145, ho_1145⟩ := q_1145
                  rw [view_keep hk_1123, hk_1123 24 (Or.inl (by decide)), hk_1123 25 (Or.inl (by decide)), hk_1123 26 (Or.inl (by decide))] at ez_1145
                  have hk_1145 : keepF P M_1145 := keepF_t hk_1123 hk0_1145
                  have hC_1145 := CI_keep hC hk_1145 ho_1145
                  have n_1145n : M_1145 24 0 = n := by rw [hk_1145 24 (Or.inl (by decide))]; exact hnP
                  have k_1145n : M_1145 24 6 = P 24 6 := by rw [hk_1145 24 (Or.inl (by decide))]
                  refine k_sipush F (pc' := 1151) dL_law_1148 rfl (by decide +kernel) ?_
                  refine k_iload F (pc' := 1153) dL_law_1151 rfl rfl ?_
                  refine k_iload F (pc' := 1155) dL_law_1153 rfl rfl ?_
                  refine k_iadd F (pc' := 1156) dL_law_1155 rfl ?_
                  refine k_imul F (pc' := 1157) dL_law_1156 rfl ?_
                  refine k_icmp_eq F (pc' := 1160) (tgt := 1162) dL_law_1157 rfl (by decide) (by omega) (by omega) (fun c_1157 => ?_) (fun c_1157 => ?_)
                  · skip
                    refine k_iload F (pc' := 1164) dL_law_1162 rfl rfl ?_
                    refine k_iload F (pc' := 1166) dL_law_1164 rfl rfl ?_
                    refine k_iadd F (pc' := 1167) dL_law_1166 rfl ?_
                    refine k_iconst F (pc' := 1168) dL_law_1167 rfl ?_
                    refine k_iadd F (pc' := 1169) dL_law_1168 rfl ?_
                    refine k_istore F (pc' := 1171) (lv' := [some (.ref b), some (.int (iI t)), some (.ref (a 0)), some (.ref (a 43)), some (.ref (a 44)), some (.int (iI n)), none, none, none, some (.int (iI 1)), some (.int (iI sz)), none, some (.long (lI dd)), none, some (.int (iI ((z_1076 + (wL (viewC P) sz i)) + 1))), some (.int (iI (-1000000))), some (.int (iI i)), some (.int (iI z_1076)), some (.int (iI (wL (viewC P) sz i)))]) dL_law_1169 rfl (by decide) rfl ?_
                    refine k_iinc F (pc' := 1174) (lv' := [some (.ref b), some (.int (iI t)), some (.ref (a 0)), some (.ref (a 43)), some (.ref (a 44)), some (.int (iI n)), none, none, none, some (.int (iI 1)), some (.int (iI sz)), none, some (.long (lI dd)), none, some (.int (iI ((z_1076 + (wL (viewC P) sz i)) + 1))), some (.int (iI (-1000000))), some (.int (iI (i + 1))), some (.int (iI z_1076)), some (.int (iI (wL (viewC P) sz i)))]) dL_law_1171 rfl rfl (by decide) rfl ?_
                    refine k_goto F (tgt := 1064) dL_law_1174 (by decide) ?_
                    refine k_lvw [some (.ref b), some (.int (iI t)), some (.ref (a 0)), some (.ref (a 43)), some (.ref (a 44)), some (.int (iI n)), none, none, none, some (.int (iI 1)), some (.int (iI sz)), none, some (.long (lI dd)), none, some (.int (iI ((z_1076 + (wL (viewC P) sz i)) + 1))), some (.int (iI (-1000000))), some (.int (iI (i + 1))), none, none] (lvw_of _ _ [true, true, true, true, true, true, false, false, false, true, true, false, true, false, true, true, true, false, false] rfl) ?_
                    exact ih_1064 M_1145 ((z_1076 + (wL (viewC P) sz i)) + 1) (i + 1) (by omega) (by omega) (⟨by omega, fun z => by have := dot_next hL hRu hs hok (s := i) hi.1 (by show i + 1 < P 24 0; omega); omega⟩) (hk_1145) (ho_1145)
                  · skip
                    exfalso; omega
      exact lp_1064 ((n - 0 : Int).toNat + 1) M_1044 0 0 (by omega) (by omega) (⟨by omega, fun z => (dotL_R hL hRu hs hok (s := 0) (by decide) (by show 0 < P 24 0; omega)).1⟩) (hk_1044) (ho_1044)
    · skip
      exfalso; omega

set_option maxHeartbeats 4000000 in
set_option maxRecDepth 100000 in
theorem law_s6b (F : CallFix p m c cL_law 19 s #[.ref b] lw_tbl RL) (K : va_K D vwCl (tysT T) s) (X0 : XL b nS xs (fun q : Nat => s.heap.size ≤ q) s s.heap) (hcs : kc ≤ room_1.cells ∧ ks ≤ room_1.slots) (P : Mem) (mk t n sz : Int) (hk : 0 ≤ mk ∧ mk ≤ 12) (hJ : BJ P mk) (hnP : P 24 0 = n) (hs : 1 ≤ sz ∧ sz ≤ 60) (dd : Int) (hok : okL (viewC P) sz) (Q : Mem) (hkQ : keepF P Q) (hoQ : kOK Q) (kk_1217 : ∀ (Q2 : Mem) (hkQ2 : keepF P Q2) (hoQ2 : kOK Q2), KK kc ks p l e room_1 s m #[.ref b] below meth c (lw_Z below #[.ref b] s) D (fun q : Nat => s.heap.size ≤ q) 19 (wld T a LL Q2) 1217 [some (.ref b), some (.int (iI t)), some (.ref (a 0)), some (.ref (a 43)), some (.ref (a 44)), some (.int (iI n)), none, none, none, some (.int (iI 1)), some (.int (iI sz)), none, some (.long (lI dd)), none, none, none, none, none, none] []) : KK kc ks p l e room_1 s m #[.ref b] below meth c (lw_Z below #[.ref b] s) D (fun q : Nat => s.heap.size ≤ q) 19 (wld T a LL Q) 1177 [some (.ref b), some (.int (iI t)), some (.ref (a 0)), some (.ref (a 43)), some (.ref (a 44)), some (.int (iI n)), none, none, none, some (.int (iI 1)), some (.int (iI sz)), none, some (.long (lI dd)), none, none, some (.int (iI (-1000000))), none, none, none] [] := by
  have hB := hJ.1
  have hC := hB.1
  have hn := CI_n hC
  have hg := (CI_grp hC).1
  have hL := CI_lOK hC
  have hRu := CI_rul hC
  have b4 := hB.2.1
  have pO : plOK (P 24 0) (P 25) (P 26) (dotL (viewC P) sz) (wL (viewC P) sz) := L_plOK hL hRu hs hok
  have pM : ∀ x y, x ≤ y → plF (P 24 0) x (P 25) (P 26) (dotL (viewC P) sz) (wL (viewC P) sz) sz ≤ plF (P 24 0) y (P 25) (P 26) (dotL (viewC P) sz) (wL (viewC P) sz) sz := fun x y h => plF_mono pO hn.1 (by omega) h
  have pR : ∀ x, 0 ≤ x ∧ x ≤ 999 → -60000 ≤ plF (P 24 0) x (P 25) (P 26) (dotL (viewC P) sz) (wL (viewC P) sz) sz ∧ plF (P 24 0) x (P 25) (P 26) (dotL (viewC P) sz) (wL (viewC P) sz) sz ≤ 120000 := fun x hx => plF_R pO hn.1 hs (fun i i0 i1 => ⟨by have := (CI_stem hC i0 i1).1; omega, dot_in hL hRu hs hok i0 i1⟩) (fun i i0 i1 => ⟨by have := (CI_stem hC i0 i1).1; omega, (dotL_R hL hRu hs hok i0 i1).1⟩) hx
  refine k_iconst F (pc' := 1178) dL_law_1177 rfl ?_
  refine k_istore F (pc' := 1180) (lv' := [some (.ref b), some (.int (iI t)), some (.ref (a 0)), some (.ref (a 43)), some (.ref (a 44)), some (.int (iI n)), none, none, none, some (.int (iI 1)), some (.int (iI sz)), none, some (.long (lI dd)), none, none, some (.int (iI (-1000000))), some (.int (iI 0)), none, none]) dL_law_1178 rfl (by decide) rfl ?_
  have lp_1180 : ∀ (n_1180 : Nat) (R : Mem) (la : Int) (x : Int) (hm_1180 : 1037 - x < (n_1180 : Int)) (hx : 0 ≤ x ∧ x ≤ 1036) (hla : -1000000 ≤ la ∧ la ≤ 120000) (hl : ∀ y, x ≤ y → la ≤ plF (P 24 0) y (P 25) (P 26) (dotL (viewC P) sz) (wL (viewC P) sz) sz) (hkR : keepF P R) (hoR : kOK R), KK kc ks p l e room_1 s m #[.ref b] below meth c (lw_Z below #[.ref b] s) D (fun q : Nat => s.heap.size ≤ q) 19 (wld T a LL R) 1180 [some (.ref b), some (.int (iI t)), some (.ref (a 0)), some (.ref (a 43)), some (.ref (a 44)), some (.int (iI n)), none, none, none, some (.int (iI 1)), some (.int (iI sz)), none, some (.long (lI dd)), none, none, some (.int (iI la)), some (.int (iI x)), none, none] [] := by
    intro n_1180
    induction n_1180 with
    | zero => intro R la x hm_1180 hx hla hl hkR hoR; exfalso; omega
    | succ n_1180 ih_1180 =>
      intro R la x hm_1180 hx hla hl hkR hoR
      have hCR := CI_keep hC hkR hoR
      refine k_iload F (pc' := 1182) dL_law_1180 rfl rfl ?_
      refine k_sipush F (pc' := 1185) dL_law_1182 rfl (by decide +kernel) ?_
      refine k_icmp_ge F (pc' := 1188) (tgt := 1217) dL_law_1185 rfl (by decide) (by omega) (by decide) (fun c_1185 => ?_) (fun c_1185 => ?_)
      · skip
        refine k_lvw [some (.ref b), some (.int (iI t)), some (.ref (a 0)), some (.ref (a 43)), some (.ref (a 44)), some (.int (iI n)), none, none, none, some (.int (iI 1)), some (.int (iI sz)), none, some (.long (lI dd)), none, none, none, none, none, none] (lvw_of _ _ [true, true, true, true, true, true, false, false, false, true, true, false, true, false, false, false, false, false, false] rfl) ?_
        exact kk_1217 R (hkR) (hoR)
      · skip
        refine k_aload_n F (pc' := 1189) dL_law_1188 rfl rfl ?_
        refine k_iload F (pc' := 1191) dL_law_1189 rfl rfl ?_
        refine k_iload F (pc' := 1193) dL_law_1191 rfl rfl ?_
        refine k_callI F K (XL_c b nS xs) (fun _ h9 => h9) X0 hcs (pc' := 1196) (st := []) (e4_place (X := XL b nS xs) XL_S l a R sz x (by omega) (by omega) (by rw [view_keep hkR]; exact hok) hCR) (cwV 2 F.2.2.2.2 (goodIn_L gL_law_X4_place) rfl rfl rfl (by decide +kernel) ⟨Nat.le_of_ble_eq_true rfl, Nat.le_of_ble_eq_true rfl⟩) rfl rfl rfl rfl (Nat.le_of_ble_eq_true rfl) dL_law_1193 rfl (fun z_1193 M_1193 q_1193 => ?_)
        obtain ⟨ez_1193, hk0_1193, ho_1193⟩ := q_1193
        rw [view_keep hkR, hkR 24 (Or.inl (by decide)), hkR 25 (Or.inl (by decide)), hkR 26 (Or.inl (by decide))] at ez_1193
        have hk_1193 : keepF P M_1193 := keepF_t hkR hk0_1193
        have hC_1193 := CI_keep hC hk_1193 ho_1193
        have n_1193n : M_1193 24 0 = n := by rw [hk_1193 24 (Or.inl (by decide))]; exact hnP
        have k_1193n : M_1193 24 6 = P 24 6 := by rw [hk_1193 24 (Or.inl (by decide))]
        have pr_1193 := pR x (by omega)
        have pl_1193 := hl x (Int.le_refl _)
        refine k_istore F (pc' := 1198) (lv' := [some (.ref b), some (.int (iI t)), some (.ref (a 0)), some (.ref (a 43)), some (.ref (a 44)), some (.int (iI n)), none, none, none, some (.int (iI 1)), some (.int (iI sz)), none, some (.long (lI dd)), none, none, some (.int (iI la)), some (.int (iI x)), some (.int (iI z_1193)), none]) dL_law_1196 rfl (by decide) rfl ?_
        refine k_iload F (pc' := 1200) dL_law_1198 rfl rfl ?_
        refine k_iload F (pc' := 1202) dL_law_1200 rfl rfl ?_
        refine k_icmp_ge F (pc' := 1205) (tgt := 1207) dL_law_1202 rfl (by decide) (by omega) (by omega) (fun c_1202 => ?_) (fun c_1202 => ?_)
        · skip
          refine k_iload F (pc' := 1209) dL_law_1207 rfl rfl ?_
          refine k_istore F (pc' := 1211) (lv' := [some (.ref b), some (.int (iI t)), some (.ref (a 0)), some (.ref (a 43)), some (.ref (a 44)), some (.int (iI n)), none, none, none, some (.int (iI 1)), some (.int (iI sz)), none, some (.long (lI dd)), none, none, some (.int (iI z_1193)), some (.int (iI x)), some (.int (iI z_1193)), none]) dL_law_1209 rfl (by decide) rfl ?_
          refine k_iinc F (pc' := 1214) (lv' := [some (.ref b), some (.int (iI t)), some (.ref (a 0)), some (.ref (a 43)), some (.ref (a 44)), some (.int (iI n)), none, none, none, some (.int (iI 1)), some (.int (iI sz)), none, some (.long (lI dd)), none, none, some (.int (iI z_1193)), some (.int (iI (x + 37))), some (.int (iI z_1193)), none]) dL_law_1211 rfl rfl (by decide) rfl ?_
          refine k_goto F (tgt := 1180) dL_law_1214 (by decide) ?_
          refine k_lvw [some (.ref b), some (.int (iI t)), some (.ref (a 0)), some (.ref (a 43)), some (.ref (a 44)), some (.int (iI n)), none, none, none, some (.int (iI 1)), some (.int (iI sz)), none, some (.long (lI dd)), none, none, some (.int (iI z_1193)), some (.int (iI (x + 37))), none, none] (lvw_of _ _ [true, true, true, true, true, true, false, false, false, true, true, false, true, false, false, true, true, false, false] rfl) ?_
          exact ih_1180 M_1193 z_1193 (x + 37) (by omega) (by omega) (by omega) (fun y y0 => by rw [ez_1193]; exact pM x y (by omega)) (hk_1193) (ho_1193)
        · skip
          exfalso; omega
  exact lp_1180 ((1037 - 0 : Int).toNat + 1) Q (-1000000) 0 (by omega) (by omega) (by omega) (fun y y0 => by have a1 := pM 0 y y0; have a2 := (pR 0 (by decide)).1; omega) (hkQ) (hoQ)

set_option maxHeartbeats 4000000 in
set_option maxRecDepth 100000 in
theorem law_s6c (F : CallFix p m c cL_law 19 s #[.ref b] lw_tbl RL) (K : va_K D vwCl (tysT T) s) (X0 : XL b nS xs (fun q : Nat => s.heap.size ≤ q) s s.heap) (hcs : kc ≤ room_1.cells ∧ ks ≤ room_1.slots) (P : Mem) (mk t n sz : Int) (hk : 0 ≤ mk ∧ mk ≤ 12) (hJ : BJ P mk) (hnP : P 24 0 = n) (hs : 1 ≤ sz ∧ sz ≤ 60) (dd : Int) (hok : okL (viewC P) sz) (hdd : dd = leastL (viewC P) sz) (Q : Mem) (hkQ : keepF P Q) (hoQ : kOK Q) (kk_1300 : ∀ (R : Mem) (hJR : BJ R mk) (hnR : R 24 0 = n) (hoR : ∀ x, okL (viewC R) x ↔ okL (viewC P) x), KK kc ks p l e room_1 s m #[.ref b] below meth c (lw_Z below #[.ref b] s) D (fun q : Nat => s.heap.size ≤ q) 19 (wld T a LL R) 1300 [some (.ref b), some (.int (iI t)), some (.ref (a 0)), some (.ref (a 43)), some (.ref (a 44)), some (.int (iI n)), none, none, none, some (.int (iI 1)), some (.int (iI sz)), none, none, none, none, none, none, none, none] []) : KK kc ks p l e room_1 s m #[.ref b] below meth c (lw_Z below #[.ref b] s) D (fun q : Nat => s.heap.size ≤ q) 19 (wld T a LL Q) 1217 [some (.ref b), some (.int (iI t)), some (.ref (a 0)), some (.ref (a 43)), some (.ref (a 44)), some (.int (iI n)), none, none, none, some (.int (iI 1)), some (.int (iI sz)), none, some (.long (lI dd)), none, none, none, none, none, none] [] := by
  have hB := hJ.1
  have hC := hB.1
  have hn := CI_n hC
  have hg := (CI_grp hC).1
  have hL := CI_lOK hC
  have hRu := CI_rul hC
  have b4 := hB.2.1
  have hCQ := CI_keep hC hkQ hoQ
  have n_0n : Q 24 0 = n := by rw [hkQ 24 (Or.inl (by decide))]; exact hnP
  have k_0n : Q 24 6 = P 24 6 := by rw [hkQ 24 (Or.inl (by decide))]
  have dR := leastL_R hL hRu hs hok
  have hJQ := BJ_keep hJ hkQ hoQ
  have vQ := view_keep hkQ
  have hokQ : okL (viewC Q) sz := by rw [vQ]; exact hok
  have hddQ : dd = leastL (viewC Q) sz := by rw [vQ]; exact hdd
  have w1 : Q 44 2 = Q 9 1 := (hJQ.1.2.2.2 1 (by decide) (by decide)).symm
  have wR := (CI_rul hCQ).1
  have wR1 : 0 ≤ Q 9 1 ∧ Q 9 1 ≤ 9 := wR
  have tm5 : Int.tmod sz 5 = sz % 5 := Int.tmod_eq_emod_of_nonneg (by omega)
  refine k_iload F (pc' := 1219) dL_law_1217 rfl rfl ?_
  have lp_1231 : ∀ (_ : Unit), KK kc ks p l e room_1 s m #[.ref b] below meth c (lw_Z below #[.ref b] s) D (fun q : Nat => s.heap.size ≤ q) 19 (wld T a LL Q) 1231 [some (.ref b), some (.int (iI t)), some (.ref (a 0)), some (.ref (a 43)), some (.ref (a 44)), some (.int (iI n)), none, none, none, some (.int (iI 1)), some (.int (iI sz)), none, some (.long (lI dd)), none, none, none, none, none, none] [] := by
    intro _ 
    refine k_aload F (pc' := 1233) dL_law_1231 rfl rfl ?_
    refine k_iconst F (pc' := 1234) dL_law_1233 rfl ?_
    refine k_iald F K (k := 44) (v := Q 9 1) (pc' := 1235) rfl (by decide) (by decide) dL_law_1234 rfl (by exact w1) ?_
    refine k_istore F (pc' := 1237) (lv' := [some (.ref b), some (.int (iI t)), some (.ref (a 0)), some (.ref (a 43)), some (.ref (a 44)), some (.int (iI n)), none, none, none, some (.int (iI 1)), some (.int (iI sz)), none, some (.long (lI dd)), none, none, none, some (.int (iI (Q 9 1))), none, none]) dL_law_1235 rfl (by decide) rfl ?_
    refine k_iload F (pc' := 1239) dL_law_1237 rfl rfl ?_
    refine k_bipush F (pc' := 1241) dL_law_1239 rfl (by decide +kernel) ?_
    refine k_icmp_ge F (pc' := 1244) (tgt := 1300) dL_law_1241 rfl (by decide) (by omega) (by decide) (fun c_1241 => ?_) (fun c_1241 => ?_)
    · skip
      refine k_lvw [some (.ref b), some (.int (iI t)), some (.ref (a 0)), some (.ref (a 43)), some (.ref (a 44)), some (.int (iI n)), none, none, none, some (.int (iI 1)), some (.int (iI sz)), none, none, none, none, none, none, none, none] (lvw_of _ _ [true, true, true, true, true, true, false, false, false, true, true, false, false, false, false, false, false, false, false] rfl) ?_
      exact kk_1300 Q (hJQ) (n_0n) (fun x => by rw [vQ])
    · skip
      refine k_iload F (pc' := 1246) dL_law_1244 rfl rfl ?_
      refine k_iconst F (pc' := 1247) dL_law_1246 rfl ?_
      refine k_irem F (pc' := 1248) dL_law_1247 rfl (by omega) (by decide) (by omega) ?_
      refine k_iconst F (pc' := 1249) dL_law_1248 rfl ?_
      refine k_icmp_ne F (pc' := 1252) (tgt := 1300) dL_law_1249 rfl (by decide) (by omega) (by decide) (fun c_1249 => ?_) (fun c_1249 => ?_)
      · skip
        refine k_lvw [some (.ref b), some (.int (iI t)), some (.ref (a 0)), some (.ref (a 43)), some (.ref (a 44)), some (.int (iI n)), none, none, none, some (.int (iI 1)), some (.int (iI sz)), none, none, none, none, none, none, none, none] (lvw_of _ _ [true, true, true, true, true, true, false, false, false, true, true, false, false, false, false, false, false, false, false] rfl) ?_
        exact kk_1300 Q (hJQ) (n_0n) (fun x => by rw [vQ])
      · skip
        have w9 : Q 9 1 < 9 := by omega
        refine k_aload_n F (pc' := 1253) dL_law_1252 rfl rfl ?_
        refine k_iconst F (pc' := 1254) dL_law_1253 rfl ?_
        refine k_iload F (pc' := 1256) dL_law_1254 rfl rfl ?_
        refine k_iconst F (pc' := 1257) dL_law_1256 rfl ?_
        refine k_iadd F (pc' := 1258) dL_law_1257 rfl ?_
        refine k_callI F K (XL_c b nS xs) (fun _ h9 => h9) X0 hcs (pc' := 1261) (st := []) (e4_rule (X := XL b nS xs) XL_S l a Q 1 ((Q 9 1) + 1) (by decide) (by rw [show rmx 1 = 9 from rfl]; omega) hCQ) (cwV 2 F.2.2.2.2 (goodIn_L gL_law_X4_rule) rfl rfl rfl (by decide +kernel) ⟨Nat.le_of_ble_eq_true rfl, Nat.le_of_ble_eq_true rfl⟩) rfl rfl rfl rfl (Nat.le_of_ble_eq_true rfl) dL_law_1258 rfl (fun z_1258 M_1258 q_1258 => ?_)
        obtain ⟨er_1258, hrn_1258⟩ := q_1258
        obtain ⟨hCa, hoa, hla⟩ := rule_up hCQ w9 hrn_1258
        refine k_pop F (pc' := 1262) dL_law_1261 rfl ?_
        refine k_aload_n F (pc' := 1263) dL_law_1262 rfl rfl ?_
        refine k_iload F (pc' := 1265) dL_law_1263 rfl rfl ?_
        refine k_callJ F K (XL_c b nS xs) (fun _ h9 => h9) X0 hcs (pc' := 1268) (st := []) (e4_dist (X := XL b nS xs) XL_S l a M_1258 sz (by omega) hCa) (cwV 1 F.2.2.2.2 (goodIn_L gL_law_X4_distortion) rfl rfl rfl (by decide +kernel) ⟨Nat.le_of_ble_eq_true rfl, Nat.le_of_ble_eq_true rfl⟩) rfl rfl rfl rfl (Nat.le_of_ble_eq_true rfl) dL_law_1265 rfl (fun z_1265 M_1265 q_1265 => ?_)
        obtain ⟨ez_1265, hk0_1265, ho_1265⟩ := q_1265
        rw [pif_t ((hoa sz).mpr hokQ)] at ez_1265
        have lm := hla sz
        have lR := leastL_R (CI_lOK hCa) (CI_rul hCa) hs ((hoa sz).mpr hokQ)
        have hC_1265 := CI_keep hCa hk0_1265 ho_1265
        refine k_lstore F (pc' := 1270) (lv' := [some (.ref b), some (.int (iI t)), some (.ref (a 0)), some (.ref (a 43)), some (.ref (a 44)), some (.int (iI n)), none, none, none, some (.int (iI 1)), some (.int (iI sz)), none, some (.long (lI dd)), none, none, none, some (.int (iI (Q 9 1))), some (.long (lI z_1265)), none]) dL_law_1268 rfl (by decide) rfl ?_
        refine k_aload_n F (pc' := 1271) dL_law_1270 rfl rfl ?_
        refine k_iconst F (pc' := 1272) dL_law_1271 rfl ?_
        refine k_iload F (pc' := 1274) dL_law_1272 rfl rfl ?_
        refine k_callI F K (XL_c b nS xs) (fun _ h9 => h9) X0 hcs (pc' := 1277) (st := []) (e4_rule (X := XL b nS xs) XL_S l a M_1265 1 (Q 9 1) (by decide) (by rw [show rmx 1 = 9 from rfl]; omega) hC_1265) (cwV 2 F.2.2.2.2 (goodIn_L gL_law_X4_rule) rfl rfl rfl (by decide +kernel) ⟨Nat.le_of_ble_eq_true rfl, Nat.le_of_ble_eq_true rfl⟩) rfl rfl rfl rfl (Nat.le_of_ble_eq_true rfl) dL_law_1274 rfl (fun z_1274 M_1274 q_1274 => ?_)
        obtain ⟨er_1274, hrn_1274⟩ := q_1274
        obtain ⟨hJb, hsb⟩ := rule_back hJQ w9 hrn_1258 hk0_1265 ho_1265 hrn_1274
        refine k_pop F (pc' := 1278) dL_law_1277 rfl ?_
        refine k_lload F (pc' := 1280) dL_law_1278 rfl rfl ?_
        refine k_lload F (pc' := 1282) dL_law_1280 rfl rfl ?_
        refine k_lcmp F (pc' := 1283) dL_law_1282 rfl (by omega) (by omega) ?_
        refine k_if_lt F (pc' := 1286) (tgt := 1298) dL_law_1283 rfl (by decide) (cmpz_R _ _) (fun c_1283 => ?_) (fun c_1283 => ?_)
        · skip
          have c_1283 := cmpz_lt.mp c_1283
          exfalso; omega
        · skip
          have c_1283 := cmpz_ge.mp c_1283
          refine k_aload_n F (pc' := 1287) dL_law_1286 rfl rfl ?_
          refine k_iload F (pc' := 1289) dL_law_1287 rfl rfl ?_
          refine k_callJ F K (XL_c b nS xs) (fun _ h9 => h9) X0 hcs (pc' := 1292) (st := []) (e4_dist (X := XL b nS xs) XL_S l a M_1274 sz (by omega) hJb.1.1) (cwV 1 F.2.2.2.2 (goodIn_L gL_law_X4_distortion) rfl rfl rfl (by decide +kernel) ⟨Nat.le_of_ble_eq_true rfl, Nat.le_of_ble_eq_true rfl⟩) rfl rfl rfl rfl (Nat.le_of_ble_eq_true rfl) dL_law_1289 rfl (fun z_1289 M_1289 q_1289 => ?_)
          obtain ⟨ez_1289, hk0_1289, ho_1289⟩ := q_1289
          rw [pif_t ((same_ok (CI_lOK hCQ) hsb).mpr hokQ), same_least (CI_lOK hCQ) hsb] at ez_1289
          refine k_lload F (pc' := 1294) dL_law_1292 rfl rfl ?_
          refine k_lcmp F (pc' := 1295) dL_law_1294 rfl (by omega) (by omega) ?_
          refine k_if_eq F (pc' := 1298) (tgt := 1300) dL_law_1295 rfl (by decide) (cmpz_R _ _) (fun c_1295 => ?_) (fun c_1295 => ?_)
          · skip
            have c_1295 := cmpz_eq.mp c_1295
            refine k_lvw [some (.ref b), some (.int (iI t)), some (.ref (a 0)), some (.ref (a 43)), some (.ref (a 44)), some (.int (iI n)), none, none, none, some (.int (iI 1)), some (.int (iI sz)), none, none, none, none, none, none, none, none] (lvw_of _ _ [true, true, true, true, true, true, false, false, false, true, true, false, false, false, false, false, false, false, false] rfl) ?_
            exact kk_1300 M_1289 (BJ_keep hJb hk0_1289 ho_1289) (by rw [hk0_1289 24 (Or.inl (by decide))]; exact hsb.1.1.trans n_0n) (fun x => by rw [view_keep hk0_1289, same_ok (CI_lOK hCQ) hsb, vQ])
          · skip
            have c_1295 := cmpz_ne.mp c_1295
            exfalso; omega
  refine k_if_ne F (pc' := 1222) (tgt := 1231) dL_law_1219 rfl (by decide) (by omega) (fun c_1219 => ?_) (fun c_1219 => ?_)
  · skip
    exact lp_1231 () 
  · skip
    have l0 : leastL (viewC P) sz = 0 := if_pos (by show P 24 0 ≤ 0; omega)
    refine k_lload F (pc' := 1224) dL_law_1222 rfl rfl ?_
    refine k_lconst F (pc' := 1225) (z := 0) dL_law_1224 rfl rfl ?_
    refine k_lcmp F (pc' := 1226) dL_law_1225 rfl (by omega) (by decide) ?_
    refine k_if_eq F (pc' := 1229) (tgt := 1231) dL_law_1226 rfl (by decide) (cmpz_R _ _) (fun c_1226 => ?_) (fun c_1226 => ?_)
    · skip
      have c_1226 := cmpz_eq.mp c_1226
      exact lp_1231 () 
    · skip
      have c_1226 := cmpz_ne.mp c_1226
      exfalso; omega
end LAWB
