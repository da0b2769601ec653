/-! ===== the reference: fits told ===== -/
theorem keepR_t {M K N : Mem} (h : keepR M K) (h2 : keepR K N) : keepR M N := by
  obtain ⟨a1, a2, a3, a4, a5, a6, a7⟩ := h
  obtain ⟨b1, b2, b3, b4, b5, b6, b7⟩ := h2
  exact ⟨b1.trans a1, b2.trans a2, b3.trans a3, b4.trans a4, b5.trans a5, b6.trans a6, b7.trans a7⟩
def lfR (M : Mem) (ord : Int → Int) (sz z : Int) (K : Mem) : Prop := keepR M K ∧ z = zC (okL (laid M ord) sz) ∧ (okL (laid M ord) sz → K 0 20 = leastL (laid M ord) sz ∧ ∀ s, 0 ≤ s → s < laid M ord 0 11 → K 15 s = dotL (laid M ord) sz s ∧ K 16 s = wL (laid M ord) sz s) ∧ K 0 11 = laid M ord 0 11 ∧ ∀ s, 0 ≤ s → s < laid M ord 0 11 → K 5 s = laid M ord 5 s ∧ K 6 s = laid M ord 6 s
theorem lf_conv {M X K : Mem} {ord : Int → Int} {sz z : Int} (hR : refOK M) (ho : isOrd (sR M).1 (wS (sR M)) ord) (hk : keepR M X) (_ : 1 ≤ sz ∧ sz ≤ 60) (h : lfQ X ord sz z K) : lfR M ord sz z K := by
  have hs := (lay_k hR hk ho).2
  have hl := laid_ok hR ho
  obtain ⟨h1, h2, h3, h4, h5, h6⟩ := h
  refine ⟨keepR_t hk h1, h2.trans (zC_iff (same_ok hl hs)), fun q => ?_, h4.trans hs.1.1, fun s a b => ?_⟩
  · have p := h3 ((same_ok hl hs).mpr q)
    refine ⟨p.1.trans (same_least hl hs), fun s a b => ?_⟩
    have r := p.2 s a (by rw [hs.1.1]; exact b)
    exact ⟨r.1.trans (same_dot hl hs a b), r.2.trans (same_w hl hs a b)⟩
  · have p := hs.2.1 s a b
    rw [h5, h6]
    exact ⟨p.1, p.2.1⟩
theorem laid_rul {M : Mem} (hR : refOK M) (ord : Int → Int) : rulL (laid M ord) := ⟨hR.2.2.2.1, hR.2.2.2.2.1, hR.2.2.2.2.2.1, hR.2.2.2.2.2.2⟩
noncomputable def fitZ (L : Mem) (sz j : Int) : Int := if 0 ≤ j ∧ j ≤ L 0 11 - 1 then (if 1 ≤ sz ∧ sz ≤ 60 then pif (okL L sz) (dotL L sz j) (-3) else -2) else -1
noncomputable def distZ (L : Mem) (sz : Int) : Int := if 1 ≤ sz ∧ sz ≤ 60 then pif (okL L sz) (leastL L sz) (-3) else -2
noncomputable def bestN (ok : Int → Prop) (ls : Int → Int) : Nat → Int × Int
  | 0 => (-6, 0)
  | k + 1 => pif (ok (k + 1)) (if (bestN ok ls k).1 < 0 ∨ ls (k + 1) * (bestN ok ls k).1 ≤ (bestN ok ls k).2 * (k + 1) then ((k : Int) + 1, ls (k + 1)) else bestN ok ls k) (bestN ok ls k)
noncomputable def bestI (ok : Int → Prop) (ls : Int → Int) (k : Int) : Int × Int := bestN ok ls k.toNat
theorem bestI_s {ok : Int → Prop} {ls : Int → Int} {k b l : Int} (h : 1 ≤ k) (hb : bestI ok ls (k - 1) = (b, l)) : bestI ok ls k = pif (ok k) (if b < 0 ∨ ls k * b ≤ l * k then (k, ls k) else (b, l)) (b, l) := by
  unfold bestI at hb ⊢
  rw [show k.toNat = (k - 1).toNat + 1 by omega]
  show pif (ok ((((k - 1).toNat : Nat) : Int) + 1)) _ _ = _
  rw [hb, show (((k - 1).toNat : Nat) : Int) + 1 = k by omega]
theorem bestI_n {ok : Int → Prop} {ls : Int → Int} {k : Int} (h : 1 ≤ k) (hk : ¬ ok k) : bestI ok ls k = bestI ok ls (k - 1) := by
  rw [bestI_s h rfl, pif_f hk]; rfl
noncomputable def bestZ (L : Mem) (mo : Int) : Int := if 1 ≤ mo ∧ mo ≤ 60 then (bestI (okL L) (leastL L) mo).1 else -2
theorem bestN_c {ok ok2 : Int → Prop} {ls ls2 : Int → Int} (h : ∀ k, ok2 k ↔ ok k) (h2 : ∀ k, ls2 k = ls k) (k : Nat) : bestN ok2 ls2 k = bestN ok ls k := by
  rw [show ok2 = ok from funext fun k => propext (h k), show ls2 = ls from funext h2]
theorem leastL_R {L : Mem} {sz : Int} (h : lOK L) (hR : rulL L) (hz : 1 ≤ sz ∧ sz ≤ 60) (hok : okL L sz) : 0 ≤ leastL L sz ∧ leastL L sz ≤ 20000000000 := by
  unfold leastL
  by_cases c : L 0 11 ≤ 0
  · rw [if_pos c]; omega
  · rw [if_neg c]
    exact whlL_R h hR hz ((okL_iff h hR hz (by omega)).mp hok) (by omega)
theorem dotL_R {L : Mem} {sz s : Int} (h : lOK L) (hR : rulL L) (hz : 1 ≤ sz ∧ sz ≤ 60) (hok : okL L sz) (h0 : 0 ≤ s) (h1 : s < L 0 11) : 0 ≤ dotL L sz s ∧ dotL L sz s ≤ 60 := by
  have a := SELL_R ((okL_iff h hR hz (by omega)).mp hok) h0 h1
  have b := lpL_up0 h hR hz h0 h1
  have c := lpL_R0 h hR hz h0 (by omega)
  have d := wL_R h hR.2.2.2 hz h0 h1
  unfold dotL
  omega
noncomputable def placeZ (L : Mem) (sz x : Int) : Int := if ¬ (1 ≤ sz ∧ sz ≤ 60) ∨ ¬ (0 ≤ x ∧ x ≤ 999) then -10000002 else pif (okL L sz) (plF (L 0 11) x (L 5) (L 6) (dotL L sz) (wL L sz) sz) (-10000003)
theorem plK {L K : Mem} {sz x : Int} (h : lOK L) (hR : rulL L) (hz : 1 ≤ sz ∧ sz ≤ 60) (hok : okL L sz) (e11 : K 0 11 = L 0 11) (e56 : ∀ s, 0 ≤ s → s < L 0 11 → K 5 s = L 5 s ∧ K 6 s = L 6 s) (hv : ∀ s, 0 ≤ s → s < L 0 11 → K 15 s = dotL L sz s ∧ K 16 s = wL L sz s) :
    plF (K 0 11) x (K 5) (K 6) (K 15) (K 16) sz = plF (L 0 11) x (L 5) (L 6) (dotL L sz) (wL L sz) sz ∧ (∀ s, 0 ≤ s → s < K 0 11 → (0 ≤ K 5 s ∧ K 5 s ≤ 999) ∧ (0 ≤ K 6 s ∧ K 6 s ≤ 999) ∧ K 5 s < K 6 s ∧ (0 ≤ K 15 s ∧ K 15 s ≤ 60) ∧ (1 ≤ K 16 s ∧ K 16 s ≤ 21) ∧ (s + 1 < K 0 11 → K 6 s < K 5 (s + 1))) ∧ 0 ≤ K 0 11 ∧ K 0 11 ≤ 8 := by
  refine ⟨?_, fun s a b => ?_, by rw [e11]; exact h.1⟩
  · rw [e11]
    exact plF_e h.1.1 (fun s a b => ⟨(e56 s a b).1, (e56 s a b).2, (hv s a b).1, (hv s a b).2⟩)
  · rw [e11] at b
    have p := h.2.2.1 s a b
    rw [(e56 s a b).1, (e56 s a b).2, (hv s a b).1, (hv s a b).2, e11]
    refine ⟨p.1, p.2.1, p.2.2.1, dotL_R h hR hz hok a b, wL_R h hR.2.2.2 hz a b, fun c => ?_⟩
    rw [(e56 (s + 1) (by omega) c).1]
    exact h.2.2.2.1 s (s + 1) a (by omega) c
theorem plR_g {n x : Int} {lf rt ld w : Int → Int} {sz s : Int} (h : 0 ≤ s ∧ s < n) (hx : rt s < x) (h2 : s + 1 < n ∧ x < lf (s + 1)) : plR n x lf rt ld w sz (n - s).toNat s = 1000 * (ld s + w s) + Int.tdiv ((x - rt s) * (1000 * ld (s + 1) - 1000 * (ld s + w s))) (lf (s + 1) - rt s) := by
  rw [show (n - s).toNat = (n - s - 1).toNat + 1 by omega]
  show (if x ≤ rt s then _ else if s + 1 < n ∧ x < lf (s + 1) then _ else _) = _
  rw [if_neg (by omega), if_pos h2]
theorem iX5_fit_X5 : ∀ w ∈ wsX50, w ∈ wsX5_fit := fun _ h => List.mem_cons_of_mem _ (List.mem_append_right _ h)
set_option maxHeartbeats 4000000 in
set_option maxRecDepth 100000 in
theorem c5_fit (l : Launch) (a : Nat → Nat) (sz j : Int) (hz : -2147483648 ≤ sz ∧ sz < 2147483648) (hj : -2147483648 ≤ j ∧ j < 2147483648) (M : Mem) (ord : Int → Int) (hR : refOK M) (ho : isOrd (sR M).1 (wS (sR M)) ord) : CtI XT l yX5_fit wsX5_fit ({ frames := 4, cells := 0, slots := 0, locals := 102 } : Room) LR a M [.ref (a 0), .int (iI sz), .int (iI j)] (fun z M' => z = fitZ (laid M ord) sz j ∧ keepR M M') := by
  refine CtI.of (y := yX5_fit) (cc := cX5_fit) (maxL := 3) (ret := (some .int)) (lv := [some (.ref (a 0)), some (.int (iI sz)), some (.int (iI j))]) (by decide) rfl (Nat.le_of_ble_eq_true rfl) (lvOK_of _ _ ⟨rfl, rfl⟩) ?_
  intro p e s m below meth c D T F K X0 hr hlk
  have hXc := XT_c
  obtain ⟨hm, hE, htl, h1, h2, h3, h4⟩ := id hR
  refine g_aload_n F (pc' := 1) dX5_fit_0 rfl rfl ?_
  refine g_callV F K hXc X0 (pc' := 4) (st := []) (c5_layStems l a M ord hm hE ho htl) (cwV 0 F.2.2.2.2 gX5_fit_X5_layStems rfl rfl rfl (by decide +kernel) ⟨Nat.le_of_ble_eq_true rfl, Nat.le_of_ble_eq_true rfl⟩) rfl rfl rfl rfl (Nat.le_of_ble_eq_true rfl) dX5_fit_1 rfl (fun L q_1 => ?_)
  have hL : L = laid M ord := q_1
  have hL1 := laid_ok hR ho
  rw [← hL] at hL1
  obtain ⟨hn, hg, hs, hsep, hc⟩ := id hL1
  have hL4 : 0 ≤ L 2 4 ∧ L 2 4 ≤ 3 := by rw [hL]; exact h4
  refine g_iload_n F (pc' := 5) dX5_fit_4 rfl rfl ?_
  refine g_iconst F (pc' := 6) dX5_fit_5 rfl ?_
  refine g_aload_n F (pc' := 7) dX5_fit_6 rfl rfl ?_
  refine g_getI F K (k := 0) (fld := 11) (ci := 5) (z := L 0 11) (pc' := 10) iX5_fit_X5 rfl rfl rfl (by decide) (List.mem_of_getElem? (i := 1) rfl) dX5_fit_7 rfl (by first | rfl | simp [upf, sc]) ?_
  refine g_iconst F (pc' := 11) dX5_fit_10 rfl ?_
  refine g_isub F (pc' := 12) dX5_fit_11 rfl ?_
  refine g_callP F (pc' := 15) (st := []) (c5_in l j 0 ((L 0 11) - 1) (by omega) (by omega) (by omega)) (va_cwS 3 F.2.2.2.2 gX5_fit_X5_in rfl rfl rfl (by decide +kernel) ⟨Nat.le_of_ble_eq_true rfl, Nat.le_of_ble_eq_true rfl⟩) rfl rfl (Nat.le_of_ble_eq_true rfl) dX5_fit_12 rfl ?_
  refine g_if_ne F (pc' := 18) (tgt := 20) dX5_fit_15 rfl (by decide) (zC_R _) (fun c_15 => ?_) (fun c_15 => ?_)
  · skip
    have c_15 := zC_1 c_15
    refine g_iload_n F (pc' := 21) dX5_fit_20 rfl rfl ?_
    refine g_iconst F (pc' := 22) dX5_fit_21 rfl ?_
    refine g_bipush F (pc' := 24) dX5_fit_22 rfl (by decide +kernel) ?_
    refine g_callP F (pc' := 27) (st := []) (c5_in l sz 1 60 (by omega) (by omega) (by omega)) (va_cwS 3 F.2.2.2.2 gX5_fit_X5_in rfl rfl rfl (by decide +kernel) ⟨Nat.le_of_ble_eq_true rfl, Nat.le_of_ble_eq_true rfl⟩) rfl rfl (Nat.le_of_ble_eq_true rfl) dX5_fit_24 rfl ?_
    refine g_if_ne F (pc' := 30) (tgt := 33) dX5_fit_27 rfl (by decide) (zC_R _) (fun c_27 => ?_) (fun c_27 => ?_)
    · skip
      have c_27 := zC_1 c_27
      have hkX := keepR_l hL
      refine g_aload_n F (pc' := 34) dX5_fit_33 rfl rfl ?_
      refine g_iload_n F (pc' := 35) dX5_fit_34 rfl rfl ?_
      refine g_callI F K hXc X0 (pc' := 38) (st := []) (c5_layFit l a sz (by omega) L ord (refOK_k hR hkX) (lay_k hR hkX ho).1) (cwV 1 F.2.2.2.2 gX5_fit_X5_layFit rfl rfl rfl (by decide +kernel) ⟨Nat.le_of_ble_eq_true rfl, Nat.le_of_ble_eq_true rfl⟩) rfl rfl rfl rfl (Nat.le_of_ble_eq_true rfl) dX5_fit_35 rfl (fun z_35 N q_35 => ?_)
      obtain ⟨hkK, hzK, hvK, e11, e56⟩ := lf_conv hR ho hkX (by omega) q_35
      refine h_top (z' := zC (okL (laid M ord) sz)) hzK ?_
      refine g_if_eq F (pc' := 41) (tgt := 50) dX5_fit_38 rfl (by decide) (zC_R _) (fun c_38 => ?_) (fun c_38 => ?_)
      · skip
        have c_38 := zC_0 c_38
        refine g_bipush F (pc' := 52) dX5_fit_50 rfl (by decide +kernel) ?_
        exact g_iret F hr hlk dX5_fit_52 (⟨by unfold fitZ; rw [← hL, if_pos (by omega), if_pos (by omega), hL, pif_f c_38], hkK⟩)
      · skip
        have c_38 := zC_1 c_38
        refine g_aload_n F (pc' := 42) dX5_fit_41 rfl rfl ?_
        refine g_getR F K (k := 0) (fld := 18) (ci := 5) (q := 15) (pc' := 45) iX5_fit_X5 rfl rfl rfl (by decide) (List.mem_of_getElem? (i := 2) rfl) dX5_fit_42 rfl ?_
        refine g_iload_n F (pc' := 46) dX5_fit_45 rfl rfl ?_
        refine g_iald F K (k := 15) (v := N 15 j) (pc' := 47) rfl (by decide) (by omega) dX5_fit_46 rfl (by first | rfl | simp [upf, sc]) ?_
        refine g_goto F (tgt := 52) dX5_fit_47 (by decide) ?_
        exact g_iret F hr hlk dX5_fit_52 (⟨by unfold fitZ; rw [← hL, if_pos (by omega), if_pos (by omega), hL, pif_t c_38, ((hvK c_38).2 j (by omega) (by rw [← hL]; omega)).1], hkK⟩)
    · skip
      have c_27 := zC_0 c_27
      refine g_bipush F (pc' := 32) dX5_fit_30 rfl (by decide +kernel) ?_
      exact g_iret F hr hlk dX5_fit_32 (⟨by rw [← hL]; unfold fitZ; (repeat (first | rw [if_pos (by omega)] | rw [if_neg (by omega)])), keepR_l hL⟩)
  · skip
    have c_15 := zC_0 c_15
    refine g_iconst F (pc' := 19) dX5_fit_18 rfl ?_
    exact g_iret F hr hlk dX5_fit_19 (⟨by rw [← hL]; unfold fitZ; (repeat (first | rw [if_pos (by omega)] | rw [if_neg (by omega)])), keepR_l hL⟩)

theorem iX5_distortion_X5 : ∀ w ∈ wsX50, w ∈ wsX5_distortion := fun _ h => List.mem_cons_of_mem _ (List.mem_append_right _ h)
set_option maxHeartbeats 4000000 in
set_option maxRecDepth 100000 in
theorem c5_distortion (l : Launch) (a : Nat → Nat) (sz : Int) (hz : -2147483648 ≤ sz ∧ sz < 2147483648) (M : Mem) (ord : Int → Int) (hR : refOK M) (ho : isOrd (sR M).1 (wS (sR M)) ord) : CtJ XT l yX5_distortion wsX5_distortion ({ frames := 4, cells := 0, slots := 0, locals := 102 } : Room) LR a M [.ref (a 0), .int (iI sz)] (fun z M' => z = distZ (laid M ord) sz ∧ keepR M M') := by
  refine CtJ.of (y := yX5_distortion) (cc := cX5_distortion) (maxL := 2) (ret := (some .long)) (lv := [some (.ref (a 0)), some (.int (iI sz))]) (by decide) rfl (Nat.le_of_ble_eq_true rfl) (lvOK_of _ _ ⟨rfl, rfl⟩) ?_
  intro p e s m below meth c D T F K X0 hr hlk
  have hXc := XT_c
  obtain ⟨hm, hE, htl, h1, h2, h3, h4⟩ := id hR
  refine g_iload_n F (pc' := 1) dX5_distortion_0 rfl rfl ?_
  refine g_iconst F (pc' := 2) dX5_distortion_1 rfl ?_
  refine g_bipush F (pc' := 4) dX5_distortion_2 rfl (by decide +kernel) ?_
  refine g_callP F (pc' := 7) (st := []) (c5_in l sz 1 60 (by omega) (by omega) (by omega)) (va_cwS 3 F.2.2.2.2 gX5_distortion_X5_in rfl rfl rfl (by decide +kernel) ⟨Nat.le_of_ble_eq_true rfl, Nat.le_of_ble_eq_true rfl⟩) rfl rfl (Nat.le_of_ble_eq_true rfl) dX5_distortion_4 rfl ?_
  refine g_if_ne F (pc' := 10) (tgt := 14) dX5_distortion_7 rfl (by decide) (zC_R _) (fun c_7 => ?_) (fun c_7 => ?_)
  · skip
    have c_7 := zC_1 c_7
    have hkX := keepR_0 M
    refine g_aload_n F (pc' := 15) dX5_distortion_14 rfl rfl ?_
    refine g_iload_n F (pc' := 16) dX5_distortion_15 rfl rfl ?_
    refine g_callI F K hXc X0 (pc' := 19) (st := []) (c5_layFit l a sz (by omega) M ord (refOK_k hR hkX) (lay_k hR hkX ho).1) (cwV 1 F.2.2.2.2 gX5_distortion_X5_layFit rfl rfl rfl (by decide +kernel) ⟨Nat.le_of_ble_eq_true rfl, Nat.le_of_ble_eq_true rfl⟩) rfl rfl rfl rfl (Nat.le_of_ble_eq_true rfl) dX5_distortion_16 rfl (fun z_16 N q_16 => ?_)
    obtain ⟨hkK, hzK, hvK, e11, e56⟩ := lf_conv hR ho hkX (by omega) q_16
    refine h_top (z' := zC (okL (laid M ord) sz)) hzK ?_
    refine g_if_eq F (pc' := 22) (tgt := 29) dX5_distortion_19 rfl (by decide) (zC_R _) (fun c_19 => ?_) (fun c_19 => ?_)
    · skip
      have c_19 := zC_0 c_19
      refine g_ldc2 F (pc' := 32) (z := (-3)) dX5_distortion_29 rfl (List.mem_of_getElem? (i := 3) rfl) (by decide +kernel) ?_
      exact g_lret F hr hlk dX5_distortion_32 (⟨by unfold distZ; rw [if_pos (by omega), pif_f c_19], hkK⟩)
    · skip
      have c_19 := zC_1 c_19
      refine g_aload_n F (pc' := 23) dX5_distortion_22 rfl rfl ?_
      refine g_getJ F K (k := 0) (fld := 20) (ci := 5) (z := N 0 20) (pc' := 26) iX5_distortion_X5 rfl rfl rfl (by decide) (List.mem_of_getElem? (i := 2) rfl) dX5_distortion_23 rfl (by first | rfl | simp [upf, sc]) ?_
      refine g_goto F (tgt := 32) dX5_distortion_26 (by decide) ?_
      exact g_lret F hr hlk dX5_distortion_32 (⟨by unfold distZ; rw [if_pos (by omega), pif_t c_19, (hvK c_19).1], hkK⟩)
  · skip
    have c_7 := zC_0 c_7
    refine g_ldc2 F (pc' := 13) (z := (-2)) dX5_distortion_10 rfl (List.mem_of_getElem? (i := 1) rfl) (by decide +kernel) ?_
    exact g_lret F hr hlk dX5_distortion_13 (⟨by unfold distZ; (repeat (first | rw [if_pos (by omega)] | rw [if_neg (by omega)])), keepR_0 M⟩)

theorem iX5_best_X5 : ∀ w ∈ wsX50, w ∈ wsX5_best := fun _ h => List.mem_cons_of_mem _ (List.mem_append_right _ h)
set_option maxHeartbeats 4000000 in
set_option maxRecDepth 100000 in
theorem c5_best (l : Launch) (a : Nat → Nat) (mo : Int) (hmo : -2147483648 ≤ mo ∧ mo < 2147483648) (M : Mem) (ord : Int → Int) (hR : refOK M) (ho : isOrd (sR M).1 (wS (sR M)) ord) : CtI XT l yX5_best wsX5_best ({ frames := 4, cells := 0, slots := 0, locals := 102 } : Room) LR a M [.ref (a 0), .int (iI mo)] (fun z M' => z = bestZ (laid M ord) mo ∧ keepR M M') := by
  refine CtI.of (y := yX5_best) (cc := cX5_best) (maxL := 6) (ret := (some .int)) (lv := [some (.ref (a 0)), some (.int (iI mo)), none, none, none, none]) (by decide) rfl (Nat.le_of_ble_eq_true rfl) (lvOK_of _ _ ⟨rfl, rfl⟩) ?_
  intro p e s m below meth c D T F K X0 hr hlk
  have hXc := XT_c
  obtain ⟨hm, hE, htl, h1, h2, h3, h4⟩ := id hR
  refine g_iload_n F (pc' := 1) dX5_best_0 rfl rfl ?_
  refine g_iconst F (pc' := 2) dX5_best_1 rfl ?_
  refine g_bipush F (pc' := 4) dX5_best_2 rfl (by decide +kernel) ?_
  refine g_callP F (pc' := 7) (st := []) (c5_in l mo 1 60 (by omega) (by omega) (by omega)) (va_cwS 3 F.2.2.2.2 gX5_best_X5_in rfl rfl rfl (by decide +kernel) ⟨Nat.le_of_ble_eq_true rfl, Nat.le_of_ble_eq_true rfl⟩) rfl rfl (Nat.le_of_ble_eq_true rfl) dX5_best_4 rfl ?_
  refine g_if_ne F (pc' := 10) (tgt := 13) dX5_best_7 rfl (by decide) (zC_R _) (fun c_7 => ?_) (fun c_7 => ?_)
  · skip
    have c_7 := zC_1 c_7
    refine g_bipush F (pc' := 15) dX5_best_13 rfl (by decide +kernel) ?_
    refine g_istore_n F (pc' := 16) (lv' := [some (.ref (a 0)), some (.int (iI mo)), some (.int (iI (-6))), none, none, none]) dX5_best_15 rfl (by decide) rfl ?_
    refine g_lconst F (pc' := 17) (z := 0) dX5_best_16 rfl rfl ?_
    refine g_lstore_n F (pc' := 18) (lv' := [some (.ref (a 0)), some (.int (iI mo)), some (.int (iI (-6))), some (.long (lI 0)), none, none]) dX5_best_17 rfl (by decide) rfl ?_
    refine g_iconst F (pc' := 19) dX5_best_18 rfl ?_
    refine g_istore F (pc' := 21) (lv' := [some (.ref (a 0)), some (.int (iI mo)), some (.int (iI (-6))), some (.long (lI 0)), none, some (.int (iI 1))]) dX5_best_19 rfl (by decide) rfl ?_
    have lp_21 : ∀ (n_21 : Nat) (N : Mem) (b : Int) (ls : Int) (v : Int) (hm_21 : 61 - v < (n_21 : Int)) (hkX : keepR M N) (hv : 1 ≤ v ∧ v ≤ mo + 1) (hb : bestI (okL (laid M ord)) (leastL (laid M ord)) (v - 1) = (b, ls)) (hbR : (b = -6 ∨ (1 ≤ b ∧ b ≤ 60)) ∧ 0 ≤ ls ∧ ls ≤ 20000000000), GG p l e ({ frames := 4, cells := 0, slots := 0, locals := 102 } : Room) s m ([.ref (a 0), .int (iI mo)].toArray) below meth c (PI D T a LR M (fun z M' => z = bestZ (laid M ord) mo ∧ keepR M M') below ([.ref (a 0), .int (iI mo)].toArray) s) D (AA T a LR M s.heap.size) 6 (wld T a LR N) 21 [some (.ref (a 0)), some (.int (iI mo)), some (.int (iI b)), some (.long (lI ls)), none, some (.int (iI v))] [] := by
      intro n_21
      induction n_21 with
      | zero => intro N b ls v hm_21 hkX hv hb hbR; exfalso; omega
      | succ n_21 ih_21 =>
        intro N b ls v hm_21 hkX hv hb hbR
        have hmo2 : 1 ≤ mo ∧ mo ≤ 60 := by omega
        refine g_iload F (pc' := 23) dX5_best_21 rfl rfl ?_
        refine g_iload_n F (pc' := 24) dX5_best_23 rfl rfl ?_
        refine g_icmp_gt F (pc' := 27) (tgt := 70) dX5_best_24 rfl (by decide) (by omega) (by omega) (fun c_24 => ?_) (fun c_24 => ?_)
        · skip
          refine g_iload_n F (pc' := 71) dX5_best_70 rfl rfl ?_
          exact g_iret F hr hlk dX5_best_71 (⟨by unfold bestZ; rw [if_pos (by omega), show mo = v - 1 by omega, hb], hkX⟩)
        · skip
          refine g_aload_n F (pc' := 28) dX5_best_27 rfl rfl ?_
          refine g_iload F (pc' := 30) dX5_best_28 rfl rfl ?_
          refine g_callI F K hXc X0 (pc' := 33) (st := []) (c5_layFit l a v (by omega) N ord (refOK_k hR hkX) (lay_k hR hkX ho).1) (cwV 1 F.2.2.2.2 gX5_best_X5_layFit rfl rfl rfl (by decide +kernel) ⟨Nat.le_of_ble_eq_true rfl, Nat.le_of_ble_eq_true rfl⟩) rfl rfl rfl rfl (Nat.le_of_ble_eq_true rfl) dX5_best_30 rfl (fun z_30 K2 q_30 => ?_)
          obtain ⟨hkK, hzK, hvK, e11, e56⟩ := lf_conv hR ho hkX (by omega) q_30
          refine h_top (z' := zC (okL (laid M ord) v)) hzK ?_
          refine g_if_eq F (pc' := 36) (tgt := 64) dX5_best_33 rfl (by decide) (zC_R _) (fun c_33 => ?_) (fun c_33 => ?_)
          · skip
            have c_33 := zC_0 c_33
            refine g_iinc F (pc' := 67) (lv' := [some (.ref (a 0)), some (.int (iI mo)), some (.int (iI b)), some (.long (lI ls)), none, some (.int (iI (v + 1)))]) dX5_best_64 rfl rfl (by decide) rfl ?_
            refine g_goto F (tgt := 21) dX5_best_67 (by decide) ?_
            exact ih_21 K2 b ls (v + 1) (by omega) (hkK) (by omega) (by first | (rw [show v + 1 - 1 = v by omega, bestI_n (by omega) c_33]; exact hb) | (rw [show v + 1 - 1 = v by omega, hbs, pif_t c_33, if_pos (by rw [← hkv]; omega), hkv]) | (rw [show v + 1 - 1 = v by omega, hbs, pif_t c_33, if_neg (by rw [← hkv]; omega)])) (by first | exact hbR | exact ⟨Or.inr (by omega), by rw [hkv]; exact hlv⟩)
          · skip
            have c_33 := zC_1 c_33
            have hlv := leastL_R (laid_ok hR ho) (laid_rul hR ord) (sz := v) (by omega) c_33
            have hkv := (hvK c_33).1
            have hbs := bestI_s (ok := (okL (laid M ord))) (ls := (leastL (laid M ord))) (k := v) (by omega) hb
            refine g_iload_n F (pc' := 37) dX5_best_36 rfl rfl ?_
            refine g_if_lt F (pc' := 40) (tgt := 56) dX5_best_37 rfl (by decide) (by omega) (fun c_37 => ?_) (fun c_37 => ?_)
            · skip
              refine g_iload F (pc' := 58) dX5_best_56 rfl rfl ?_
              refine g_istore_n F (pc' := 59) (lv' := [some (.ref (a 0)), some (.int (iI mo)), some (.int (iI v)), some (.long (lI ls)), none, some (.int (iI v))]) dX5_best_58 rfl (by decide) rfl ?_
              refine g_aload_n F (pc' := 60) dX5_best_59 rfl rfl ?_
              refine g_getJ F K (k := 0) (fld := 20) (ci := 5) (z := K2 0 20) (pc' := 63) iX5_best_X5 rfl rfl rfl (by decide) (List.mem_of_getElem? (i := 1) rfl) dX5_best_60 rfl (by first | rfl | simp [upf, sc]) ?_
              refine g_lstore_n F (pc' := 64) (lv' := [some (.ref (a 0)), some (.int (iI mo)), some (.int (iI v)), some (.long (lI (K2 0 20))), none, some (.int (iI v))]) dX5_best_63 rfl (by decide) rfl ?_
              refine g_iinc F (pc' := 67) (lv' := [some (.ref (a 0)), some (.int (iI mo)), some (.int (iI v)), some (.long (lI (K2 0 20))), none, some (.int (iI (v + 1)))]) dX5_best_64 rfl rfl (by decide) rfl ?_
              refine g_goto F (tgt := 21) dX5_best_67 (by decide) ?_
              exact ih_21 K2 v (K2 0 20) (v + 1) (by omega) (hkK) (by omega) (by first | (rw [show v + 1 - 1 = v by omega, bestI_n (by omega) c_33]; exact hb) | (rw [show v + 1 - 1 = v by omega, hbs, pif_t c_33, if_pos (by rw [← hkv]; omega), hkv]) | (rw [show v + 1 - 1 = v by omega, hbs, pif_t c_33, if_neg (by rw [← hkv]; omega)])) (by first | exact hbR | exact ⟨Or.inr (by omega), by rw [hkv]; exact hlv⟩)
            · skip
              refine g_aload_n F (pc' := 41) dX5_best_40 rfl rfl ?_
              refine g_getJ F K (k := 0) (fld := 20) (ci := 5) (z := K2 0 20) (pc' := 44) iX5_best_X5 rfl rfl rfl (by decide) (List.mem_of_getElem? (i := 1) rfl) dX5_best_41 rfl (by first | rfl | simp [upf, sc]) ?_
              refine g_iload_n F (pc' := 45) dX5_best_44 rfl rfl ?_
              refine g_i2l F (pc' := 46) dX5_best_45 rfl (by omega) ?_
              refine g_lmul F (pc' := 47) dX5_best_46 rfl ?_
              refine g_lload_n F (pc' := 48) dX5_best_47 rfl rfl ?_
              refine g_iload F (pc' := 50) dX5_best_48 rfl rfl ?_
              refine g_i2l F (pc' := 51) dX5_best_50 rfl (by omega) ?_
              refine g_lmul F (pc' := 52) dX5_best_51 rfl ?_
              have hp1 := mul_R (x := leastL (laid M ord) v) (y := b) (B := 60) hlv (by omega)
              have hp2 := mul_R (x := ls) (y := v) (B := 60) hbR.2 (by omega)
              rw [← hkv] at hp1
              refine g_lcmp F (pc' := 53) dX5_best_52 rfl (by omega) (by omega) ?_
              refine g_if_gt F (pc' := 56) (tgt := 64) dX5_best_53 rfl (by decide) (cmpz_R _ _) (fun c_53 => ?_) (fun c_53 => ?_)
              · skip
                have c_53 := cmpz_gt.mp c_53
                refine g_iinc F (pc' := 67) (lv' := [some (.ref (a 0)), some (.int (iI mo)), some (.int (iI b)), some (.long (lI ls)), none, some (.int (iI (v + 1)))]) dX5_best_64 rfl rfl (by decide) rfl ?_
                refine g_goto F (tgt := 21) dX5_best_67 (by decide) ?_
                exact ih_21 K2 b ls (v + 1) (by omega) (hkK) (by omega) (by first | (rw [show v + 1 - 1 = v by omega, bestI_n (by omega) c_33]; exact hb) | (rw [show v + 1 - 1 = v by omega, hbs, pif_t c_33, if_pos (by rw [← hkv]; omega), hkv]) | (rw [show v + 1 - 1 = v by omega, hbs, pif_t c_33, if_neg (by rw [← hkv]; omega)])) (by first | exact hbR | exact ⟨Or.inr (by omega), by rw [hkv]; exact hlv⟩)
              · skip
                have c_53 := cmpz_le.mp c_53
                refine g_iload F (pc' := 58) dX5_best_56 rfl rfl ?_
                refine g_istore_n F (pc' := 59) (lv' := [some (.ref (a 0)), some (.int (iI mo)), some (.int (iI v)), some (.long (lI ls)), none, some (.int (iI v))]) dX5_best_58 rfl (by decide) rfl ?_
                refine g_aload_n F (pc' := 60) dX5_best_59 rfl rfl ?_
                refine g_getJ F K (k := 0) (fld := 20) (ci := 5) (z := K2 0 20) (pc' := 63) iX5_best_X5 rfl rfl rfl (by decide) (List.mem_of_getElem? (i := 1) rfl) dX5_best_60 rfl (by first | rfl | simp [upf, sc]) ?_
                refine g_lstore_n F (pc' := 64) (lv' := [some (.ref (a 0)), some (.int (iI mo)), some (.int (iI v)), some (.long (lI (K2 0 20))), none, some (.int (iI v))]) dX5_best_63 rfl (by decide) rfl ?_
                refine g_iinc F (pc' := 67) (lv' := [some (.ref (a 0)), some (.int (iI mo)), some (.int (iI v)), some (.long (lI (K2 0 20))), none, some (.int (iI (v + 1)))]) dX5_best_64 rfl rfl (by decide) rfl ?_
                refine g_goto F (tgt := 21) dX5_best_67 (by decide) ?_
                exact ih_21 K2 v (K2 0 20) (v + 1) (by omega) (hkK) (by omega) (by first | (rw [show v + 1 - 1 = v by omega, bestI_n (by omega) c_33]; exact hb) | (rw [show v + 1 - 1 = v by omega, hbs, pif_t c_33, if_pos (by rw [← hkv]; omega), hkv]) | (rw [show v + 1 - 1 = v by omega, hbs, pif_t c_33, if_neg (by rw [← hkv]; omega)])) (by first | exact hbR | exact ⟨Or.inr (by omega), by rw [hkv]; exact hlv⟩)
    exact lp_21 ((61 - 1 : Int).toNat + 1) M (-6) 0 1 (by omega) (keepR_0 M) (by omega) (rfl) (⟨Or.inl rfl, by decide, by decide⟩)
  · skip
    have c_7 := zC_0 c_7
    refine g_bipush F (pc' := 12) dX5_best_10 rfl (by decide +kernel) ?_
    exact g_iret F hr hlk dX5_best_12 (⟨by unfold bestZ; rw [if_neg (by omega)], keepR_0 M⟩)

theorem iX5_place_X5 : ∀ w ∈ wsX50, w ∈ wsX5_place := fun _ h => List.mem_cons_of_mem _ (List.mem_append_right _ h)
set_option maxHeartbeats 4000000 in
set_option maxRecDepth 100000 in
theorem c5_place (l : Launch) (a : Nat → Nat) (sz x : Int) (hz : -2147483648 ≤ sz ∧ sz < 2147483648) (hx : -2147483648 ≤ x ∧ x < 2147483648) (M : Mem) (ord : Int → Int) (hR : refOK M) (ho : isOrd (sR M).1 (wS (sR M)) ord) : CtI XT l yX5_place wsX5_place ({ frames := 4, cells := 0, slots := 0, locals := 102 } : Room) LR a M [.ref (a 0), .int (iI sz), .int (iI x)] (fun z M' => z = placeZ (laid M ord) sz x ∧ keepR M M') := by
  refine CtI.of (y := yX5_place) (cc := cX5_place) (maxL := 6) (ret := (some .int)) (lv := [some (.ref (a 0)), some (.int (iI sz)), some (.int (iI x)), none, none, none]) (by decide) rfl (Nat.le_of_ble_eq_true rfl) (lvOK_of _ _ ⟨rfl, rfl⟩) ?_
  intro p e s m below meth c D T F K X0 hr hlk
  have hXc := XT_c
  obtain ⟨hm, hE, htl, h1, h2, h3, h4⟩ := id hR
  refine g_iload_n F (pc' := 1) dX5_place_0 rfl rfl ?_
  refine g_iconst F (pc' := 2) dX5_place_1 rfl ?_
  refine g_bipush F (pc' := 4) dX5_place_2 rfl (by decide +kernel) ?_
  refine g_callP F (pc' := 7) (st := []) (c5_in l sz 1 60 (by omega) (by omega) (by omega)) (va_cwS 3 F.2.2.2.2 gX5_place_X5_in rfl rfl rfl (by decide +kernel) ⟨Nat.le_of_ble_eq_true rfl, Nat.le_of_ble_eq_true rfl⟩) rfl rfl (Nat.le_of_ble_eq_true rfl) dX5_place_4 rfl ?_
  refine g_if_eq F (pc' := 10) (tgt := 21) dX5_place_7 rfl (by decide) (zC_R _) (fun c_7 => ?_) (fun c_7 => ?_)
  · skip
    have c_7 := zC_0 c_7
    refine g_ldc F (pc' := 23) (z := (-10000002)) dX5_place_21 rfl (List.mem_of_getElem? (i := 1) rfl) (by decide +kernel) ?_
    exact g_iret F hr hlk dX5_place_23 (⟨by unfold placeZ; rw [if_pos (by omega)], keepR_0 M⟩)
  · skip
    have c_7 := zC_1 c_7
    refine g_iload_n F (pc' := 11) dX5_place_10 rfl rfl ?_
    refine g_iconst F (pc' := 12) dX5_place_11 rfl ?_
    refine g_sipush F (pc' := 15) dX5_place_12 rfl (by decide +kernel) ?_
    refine g_callP F (pc' := 18) (st := []) (c5_in l x 0 999 (by omega) (by omega) (by omega)) (va_cwS 3 F.2.2.2.2 gX5_place_X5_in rfl rfl rfl (by decide +kernel) ⟨Nat.le_of_ble_eq_true rfl, Nat.le_of_ble_eq_true rfl⟩) rfl rfl (Nat.le_of_ble_eq_true rfl) dX5_place_15 rfl ?_
    refine g_if_ne F (pc' := 21) (tgt := 24) dX5_place_18 rfl (by decide) (zC_R _) (fun c_18 => ?_) (fun c_18 => ?_)
    · skip
      have c_18 := zC_1 c_18
      have hkX := keepR_0 M
      refine g_aload_n F (pc' := 25) dX5_place_24 rfl rfl ?_
      refine g_iload_n F (pc' := 26) dX5_place_25 rfl rfl ?_
      refine g_callI F K hXc X0 (pc' := 29) (st := []) (c5_layFit l a sz (by omega) M ord (refOK_k hR hkX) (lay_k hR hkX ho).1) (cwV 1 F.2.2.2.2 gX5_place_X5_layFit rfl rfl rfl (by decide +kernel) ⟨Nat.le_of_ble_eq_true rfl, Nat.le_of_ble_eq_true rfl⟩) rfl rfl rfl rfl (Nat.le_of_ble_eq_true rfl) dX5_place_26 rfl (fun z_26 N q_26 => ?_)
      obtain ⟨hkK, hzK, hvK, e11, e56⟩ := lf_conv hR ho hkX (by omega) q_26
      refine h_top (z' := zC (okL (laid M ord) sz)) hzK ?_
      refine g_if_ne F (pc' := 32) (tgt := 35) dX5_place_29 rfl (by decide) (zC_R _) (fun c_29 => ?_) (fun c_29 => ?_)
      · skip
        have c_29 := zC_1 c_29
        have hzz : 1 ≤ sz ∧ sz ≤ 60 := by omega
        have hxx : 0 ≤ x ∧ x ≤ 999 := by omega
        obtain ⟨-, hvs⟩ := hvK c_29
        have hL1 := laid_ok hR ho
        have hpl := plK hL1 (laid_rul hR ord) hzz c_29 e11 e56 hvs (x := x)
        obtain ⟨hpe, hpR, hn⟩ := hpl
        refine g_aload_n F (pc' := 36) dX5_place_35 rfl rfl ?_
        refine g_getI F K (k := 0) (fld := 11) (ci := 5) (z := N 0 11) (pc' := 39) iX5_place_X5 rfl rfl rfl (by decide) (List.mem_of_getElem? (i := 3) rfl) dX5_place_36 rfl (by first | rfl | simp [upf, sc]) ?_
        refine g_if_ne F (pc' := 42) (tgt := 46) dX5_place_39 rfl (by decide) (by omega) (fun c_39 => ?_) (fun c_39 => ?_)
        · skip
          have hn0 : 0 < N 0 11 := by omega
          have hp0 := hpR 0 (by omega) hn0
          refine g_iload_n F (pc' := 47) dX5_place_46 rfl rfl ?_
          refine g_aload_n F (pc' := 48) dX5_place_47 rfl rfl ?_
          refine g_getR F K (k := 0) (fld := 6) (ci := 5) (q := 5) (pc' := 51) iX5_place_X5 rfl rfl rfl (by decide) (List.mem_of_getElem? (i := 4) rfl) dX5_place_48 rfl ?_
          refine g_iconst F (pc' := 52) dX5_place_51 rfl ?_
          refine g_iald F K (k := 5) (v := N 5 0) (pc' := 53) rfl (by decide) (by decide) dX5_place_52 rfl (by first | rfl | simp [upf, sc]) ?_
          refine g_icmp_gt F (pc' := 56) (tgt := 78) dX5_place_53 rfl (by decide) (by omega) (by omega) (fun c_53 => ?_) (fun c_53 => ?_)
          · skip
            refine g_iconst F (pc' := 79) dX5_place_78 rfl ?_
            refine g_istore_n F (pc' := 80) (lv' := [some (.ref (a 0)), some (.int (iI sz)), some (.int (iI x)), some (.int (iI 0)), none, none]) dX5_place_79 rfl (by decide) rfl ?_
            have lp_80 : ∀ (n_80 : Nat) (v : Int) (hm_80 : 9 - v < (n_80 : Int)) (hv : 0 ≤ v ∧ v ≤ N 0 11) (hZ : plF (N 0 11) x (N 5) (N 6) (N 15) (N 16) sz = plR (N 0 11) x (N 5) (N 6) (N 15) (N 16) sz (N 0 11 - v).toNat v), GG p l e ({ frames := 4, cells := 0, slots := 0, locals := 102 } : Room) s m ([.ref (a 0), .int (iI sz), .int (iI x)].toArray) below meth c (PI D T a LR M (fun z M' => z = placeZ (laid M ord) sz x ∧ keepR M M') below ([.ref (a 0), .int (iI sz), .int (iI x)].toArray) s) D (AA T a LR M s.heap.size) 6 (wld T a LR N) 80 [some (.ref (a 0)), some (.int (iI sz)), some (.int (iI x)), some (.int (iI v)), none, none] [] := by
              intro n_80
              induction n_80 with
              | zero => intro v hm_80 hv hZ; exfalso; omega
              | succ n_80 ih_80 =>
                intro v hm_80 hv hZ
                refine g_iload_n F (pc' := 81) dX5_place_80 rfl rfl ?_
                refine g_aload_n F (pc' := 82) dX5_place_81 rfl rfl ?_
                refine g_getI F K (k := 0) (fld := 11) (ci := 5) (z := N 0 11) (pc' := 85) iX5_place_X5 rfl rfl rfl (by decide) (List.mem_of_getElem? (i := 3) rfl) dX5_place_82 rfl (by first | rfl | simp [upf, sc]) ?_
                refine g_icmp_ge F (pc' := 88) (tgt := 221) dX5_place_85 rfl (by decide) (by omega) (by omega) (fun c_85 => ?_) (fun c_85 => ?_)
                · skip
                  refine g_sipush F (pc' := 224) dX5_place_221 rfl (by decide +kernel) ?_
                  refine g_aload_n F (pc' := 225) dX5_place_224 rfl rfl ?_
                  refine g_getR F K (k := 0) (fld := 18) (ci := 5) (q := 15) (pc' := 228) iX5_place_X5 rfl rfl rfl (by decide) (List.mem_of_getElem? (i := 5) rfl) dX5_place_225 rfl ?_
                  refine g_aload_n F (pc' := 229) dX5_place_228 rfl rfl ?_
                  refine g_getI F K (k := 0) (fld := 11) (ci := 5) (z := N 0 11) (pc' := 232) iX5_place_X5 rfl rfl rfl (by decide) (List.mem_of_getElem? (i := 3) rfl) dX5_place_229 rfl (by first | rfl | simp [upf, sc]) ?_
                  refine g_iconst F (pc' := 233) dX5_place_232 rfl ?_
                  refine g_isub F (pc' := 234) dX5_place_233 rfl ?_
                  refine g_iald F K (k := 15) (v := N 15 ((N 0 11) - 1)) (pc' := 235) rfl (by decide) (by omega) dX5_place_234 rfl (by first | rfl | simp [upf, sc]) ?_
                  refine g_aload_n F (pc' := 236) dX5_place_235 rfl rfl ?_
                  refine g_getR F K (k := 0) (fld := 19) (ci := 5) (q := 16) (pc' := 239) iX5_place_X5 rfl rfl rfl (by decide) (List.mem_of_getElem? (i := 6) rfl) dX5_place_236 rfl ?_
                  refine g_aload_n F (pc' := 240) dX5_place_239 rfl rfl ?_
                  refine g_getI F K (k := 0) (fld := 11) (ci := 5) (z := N 0 11) (pc' := 243) iX5_place_X5 rfl rfl rfl (by decide) (List.mem_of_getElem? (i := 3) rfl) dX5_place_240 rfl (by first | rfl | simp [upf, sc]) ?_
                  refine g_iconst F (pc' := 244) dX5_place_243 rfl ?_
                  refine g_isub F (pc' := 245) dX5_place_244 rfl ?_
                  refine g_iald F K (k := 16) (v := N 16 ((N 0 11) - 1)) (pc' := 246) rfl (by decide) (by omega) dX5_place_245 rfl (by first | rfl | simp [upf, sc]) ?_
                  refine g_iadd F (pc' := 247) dX5_place_246 rfl ?_
                  refine g_imul F (pc' := 248) dX5_place_247 rfl ?_
                  refine g_iload_n F (pc' := 249) dX5_place_248 rfl rfl ?_
                  refine g_aload_n F (pc' := 250) dX5_place_249 rfl rfl ?_
                  refine g_getR F K (k := 0) (fld := 7) (ci := 5) (q := 6) (pc' := 253) iX5_place_X5 rfl rfl rfl (by decide) (List.mem_of_getElem? (i := 7) rfl) dX5_place_250 rfl ?_
                  refine g_aload_n F (pc' := 254) dX5_place_253 rfl rfl ?_
                  refine g_getI F K (k := 0) (fld := 11) (ci := 5) (z := N 0 11) (pc' := 257) iX5_place_X5 rfl rfl rfl (by decide) (List.mem_of_getElem? (i := 3) rfl) dX5_place_254 rfl (by first | rfl | simp [upf, sc]) ?_
                  refine g_iconst F (pc' := 258) dX5_place_257 rfl ?_
                  refine g_isub F (pc' := 259) dX5_place_258 rfl ?_
                  refine g_iald F K (k := 6) (v := N 6 ((N 0 11) - 1)) (pc' := 260) rfl (by decide) (by omega) dX5_place_259 rfl (by first | rfl | simp [upf, sc]) ?_
                  refine g_isub F (pc' := 261) dX5_place_260 rfl ?_
                  refine g_iload_n F (pc' := 262) dX5_place_261 rfl rfl ?_
                  refine g_imul F (pc' := 263) dX5_place_262 rfl ?_
                  refine g_iadd F (pc' := 264) dX5_place_263 rfl ?_
                  exact g_iret F hr hlk dX5_place_264 (⟨by unfold placeZ; rw [if_neg (by omega), pif_t c_29, ← hpe, hZ, show v = N 0 11 by omega, plR_t], hkK⟩)
                · skip
                  have hpv := hpR v hv.1 c_85
                  refine g_sipush F (pc' := 91) dX5_place_88 rfl (by decide +kernel) ?_
                  refine g_aload_n F (pc' := 92) dX5_place_91 rfl rfl ?_
                  refine g_getR F K (k := 0) (fld := 18) (ci := 5) (q := 15) (pc' := 95) iX5_place_X5 rfl rfl rfl (by decide) (List.mem_of_getElem? (i := 5) rfl) dX5_place_92 rfl ?_
                  refine g_iload_n F (pc' := 96) dX5_place_95 rfl rfl ?_
                  refine g_iald F K (k := 15) (v := N 15 v) (pc' := 97) rfl (by decide) (by omega) dX5_place_96 rfl (by first | rfl | simp [upf, sc]) ?_
                  refine g_imul F (pc' := 98) dX5_place_97 rfl ?_
                  refine g_istore F (pc' := 100) (lv' := [some (.ref (a 0)), some (.int (iI sz)), some (.int (iI x)), some (.int (iI v)), some (.int (iI (1000 * (N 15 v)))), none]) dX5_place_98 rfl (by decide) rfl ?_
                  refine g_iload F (pc' := 102) dX5_place_100 rfl rfl ?_
                  refine g_sipush F (pc' := 105) dX5_place_102 rfl (by decide +kernel) ?_
                  refine g_aload_n F (pc' := 106) dX5_place_105 rfl rfl ?_
                  refine g_getR F K (k := 0) (fld := 19) (ci := 5) (q := 16) (pc' := 109) iX5_place_X5 rfl rfl rfl (by decide) (List.mem_of_getElem? (i := 6) rfl) dX5_place_106 rfl ?_
                  refine g_iload_n F (pc' := 110) dX5_place_109 rfl rfl ?_
                  refine g_iald F K (k := 16) (v := N 16 v) (pc' := 111) rfl (by decide) (by omega) dX5_place_110 rfl (by first | rfl | simp [upf, sc]) ?_
                  refine g_imul F (pc' := 112) dX5_place_111 rfl ?_
                  refine g_iadd F (pc' := 113) dX5_place_112 rfl ?_
                  refine g_istore F (pc' := 115) (lv' := [some (.ref (a 0)), some (.int (iI sz)), some (.int (iI x)), some (.int (iI v)), some (.int (iI (1000 * (N 15 v)))), some (.int (iI ((1000 * (N 15 v)) + (1000 * (N 16 v)))))]) dX5_place_113 rfl (by decide) rfl ?_
                  refine g_iload_n F (pc' := 116) dX5_place_115 rfl rfl ?_
                  refine g_aload_n F (pc' := 117) dX5_place_116 rfl rfl ?_
                  refine g_getR F K (k := 0) (fld := 7) (ci := 5) (q := 6) (pc' := 120) iX5_place_X5 rfl rfl rfl (by decide) (List.mem_of_getElem? (i := 7) rfl) dX5_place_117 rfl ?_
                  refine g_iload_n F (pc' := 121) dX5_place_120 rfl rfl ?_
                  refine g_iald F K (k := 6) (v := N 6 v) (pc' := 122) rfl (by decide) (by omega) dX5_place_121 rfl (by first | rfl | simp [upf, sc]) ?_
                  refine g_icmp_gt F (pc' := 125) (tgt := 149) dX5_place_122 rfl (by decide) (by omega) (by omega) (fun c_122 => ?_) (fun c_122 => ?_)
                  · skip
                    refine g_iload_n F (pc' := 150) dX5_place_149 rfl rfl ?_
                    refine g_iconst F (pc' := 151) dX5_place_150 rfl ?_
                    refine g_iadd F (pc' := 152) dX5_place_151 rfl ?_
                    refine g_aload_n F (pc' := 153) dX5_place_152 rfl rfl ?_
                    refine g_getI F K (k := 0) (fld := 11) (ci := 5) (z := N 0 11) (pc' := 156) iX5_place_X5 rfl rfl rfl (by decide) (List.mem_of_getElem? (i := 3) rfl) dX5_place_153 rfl (by first | rfl | simp [upf, sc]) ?_
                    refine g_icmp_ge F (pc' := 159) (tgt := 215) dX5_place_156 rfl (by decide) (by omega) (by omega) (fun c_156 => ?_) (fun c_156 => ?_)
                    · skip
                      refine g_iinc F (pc' := 218) (lv' := [some (.ref (a 0)), some (.int (iI sz)), some (.int (iI x)), some (.int (iI (v + 1))), some (.int (iI (1000 * (N 15 v)))), some (.int (iI ((1000 * (N 15 v)) + (1000 * (N 16 v)))))]) dX5_place_215 rfl rfl (by decide) rfl ?_
                      refine g_goto F (tgt := 80) dX5_place_218 (by decide) ?_
                      refine g_lvw [some (.ref (a 0)), some (.int (iI sz)), some (.int (iI x)), some (.int (iI (v + 1))), none, none] (lvw_of _ _ [true, true, true, true, false, false] rfl) ?_
                      exact ih_80 (v + 1) (by omega) (by omega) (by rw [hZ, plR_c (by omega) (by omega) (by omega)])
                    · skip
                      have hpv1 := hpR (v + 1) (by omega) (by omega)
                      refine g_iload_n F (pc' := 160) dX5_place_159 rfl rfl ?_
                      refine g_aload_n F (pc' := 161) dX5_place_160 rfl rfl ?_
                      refine g_getR F K (k := 0) (fld := 6) (ci := 5) (q := 5) (pc' := 164) iX5_place_X5 rfl rfl rfl (by decide) (List.mem_of_getElem? (i := 4) rfl) dX5_place_161 rfl ?_
                      refine g_iload_n F (pc' := 165) dX5_place_164 rfl rfl ?_
                      refine g_iconst F (pc' := 166) dX5_place_165 rfl ?_
                      refine g_iadd F (pc' := 167) dX5_place_166 rfl ?_
                      refine g_iald F K (k := 5) (v := N 5 (v + 1)) (pc' := 168) rfl (by decide) (by omega) dX5_place_167 rfl (by first | rfl | simp [upf, sc]) ?_
                      refine g_icmp_ge F (pc' := 171) (tgt := 215) dX5_place_168 rfl (by decide) (by omega) (by omega) (fun c_168 => ?_) (fun c_168 => ?_)
                      · skip
                        refine g_iinc F (pc' := 218) (lv' := [some (.ref (a 0)), some (.int (iI sz)), some (.int (iI x)), some (.int (iI (v + 1))), some (.int (iI (1000 * (N 15 v)))), some (.int (iI ((1000 * (N 15 v)) + (1000 * (N 16 v)))))]) dX5_place_215 rfl rfl (by decide) rfl ?_
                        refine g_goto F (tgt := 80) dX5_place_218 (by decide) ?_
                        refine g_lvw [some (.ref (a 0)), some (.int (iI sz)), some (.int (iI x)), some (.int (iI (v + 1))), none, none] (lvw_of _ _ [true, true, true, true, false, false] rfl) ?_
                        exact ih_80 (v + 1) (by omega) (by omega) (by rw [hZ, plR_c (by omega) (by omega) (by omega)])
                      · skip
                        have hpv1 := hpR (v + 1) (by omega) (by omega)
                        refine g_iload F (pc' := 173) dX5_place_171 rfl rfl ?_
                        refine g_iload_n F (pc' := 174) dX5_place_173 rfl rfl ?_
                        refine g_aload_n F (pc' := 175) dX5_place_174 rfl rfl ?_
                        refine g_getR F K (k := 0) (fld := 7) (ci := 5) (q := 6) (pc' := 178) iX5_place_X5 rfl rfl rfl (by decide) (List.mem_of_getElem? (i := 7) rfl) dX5_place_175 rfl ?_
                        refine g_iload_n F (pc' := 179) dX5_place_178 rfl rfl ?_
                        refine g_iald F K (k := 6) (v := N 6 v) (pc' := 180) rfl (by decide) (by omega) dX5_place_179 rfl (by first | rfl | simp [upf, sc]) ?_
                        refine g_isub F (pc' := 181) dX5_place_180 rfl ?_
                        refine g_sipush F (pc' := 184) dX5_place_181 rfl (by decide +kernel) ?_
                        refine g_aload_n F (pc' := 185) dX5_place_184 rfl rfl ?_
                        refine g_getR F K (k := 0) (fld := 18) (ci := 5) (q := 15) (pc' := 188) iX5_place_X5 rfl rfl rfl (by decide) (List.mem_of_getElem? (i := 5) rfl) dX5_place_185 rfl ?_
                        refine g_iload_n F (pc' := 189) dX5_place_188 rfl rfl ?_
                        refine g_iconst F (pc' := 190) dX5_place_189 rfl ?_
                        refine g_iadd F (pc' := 191) dX5_place_190 rfl ?_
                        refine g_iald F K (k := 15) (v := N 15 (v + 1)) (pc' := 192) rfl (by decide) (by omega) dX5_place_191 rfl (by first | rfl | simp [upf, sc]) ?_
                        refine g_imul F (pc' := 193) dX5_place_192 rfl ?_
                        refine g_iload F (pc' := 195) dX5_place_193 rfl rfl ?_
                        refine g_isub F (pc' := 196) dX5_place_195 rfl ?_
                        refine g_imul F (pc' := 197) dX5_place_196 rfl ?_
                        refine g_aload_n F (pc' := 198) dX5_place_197 rfl rfl ?_
                        refine g_getR F K (k := 0) (fld := 6) (ci := 5) (q := 5) (pc' := 201) iX5_place_X5 rfl rfl rfl (by decide) (List.mem_of_getElem? (i := 4) rfl) dX5_place_198 rfl ?_
                        refine g_iload_n F (pc' := 202) dX5_place_201 rfl rfl ?_
                        refine g_iconst F (pc' := 203) dX5_place_202 rfl ?_
                        refine g_iadd F (pc' := 204) dX5_place_203 rfl ?_
                        refine g_iald F K (k := 5) (v := N 5 (v + 1)) (pc' := 205) rfl (by decide) (by omega) dX5_place_204 rfl (by first | rfl | simp [upf, sc]) ?_
                        refine g_aload_n F (pc' := 206) dX5_place_205 rfl rfl ?_
                        refine g_getR F K (k := 0) (fld := 7) (ci := 5) (q := 6) (pc' := 209) iX5_place_X5 rfl rfl rfl (by decide) (List.mem_of_getElem? (i := 7) rfl) dX5_place_206 rfl ?_
                        refine g_iload_n F (pc' := 210) dX5_place_209 rfl rfl ?_
                        refine g_iald F K (k := 6) (v := N 6 v) (pc' := 211) rfl (by decide) (by omega) dX5_place_210 rfl (by first | rfl | simp [upf, sc]) ?_
                        refine g_isub F (pc' := 212) dX5_place_211 rfl ?_
                        have hmul := mulA_R (x := x - N 6 v) (y := 1000 * N 15 (v + 1) - (1000 * N 15 v + 1000 * N 16 v)) (A := 999) (B := 200000) (by omega) (by omega)
                        refine g_idiv F (pc' := 213) dX5_place_212 rfl (by omega) (by omega) (by omega) ?_
                        refine g_iadd F (pc' := 214) dX5_place_213 rfl ?_
                        exact g_iret F hr hlk dX5_place_214 (⟨by unfold placeZ; rw [if_neg (by omega), pif_t c_29, ← hpe, hZ, plR_g (by omega) (by omega) (by omega), show 1000 * N 15 (v + 1) - 1000 * (N 15 v + N 16 v) = 1000 * N 15 (v + 1) - (1000 * N 15 v + 1000 * N 16 v) by omega, show 1000 * (N 15 v + N 16 v) = 1000 * N 15 v + 1000 * N 16 v by omega], hkK⟩)
                  · skip
                    refine g_iload F (pc' := 127) dX5_place_125 rfl rfl ?_
                    refine g_iload_n F (pc' := 128) dX5_place_127 rfl rfl ?_
                    refine g_aload_n F (pc' := 129) dX5_place_128 rfl rfl ?_
                    refine g_getR F K (k := 0) (fld := 6) (ci := 5) (q := 5) (pc' := 132) iX5_place_X5 rfl rfl rfl (by decide) (List.mem_of_getElem? (i := 4) rfl) dX5_place_129 rfl ?_
                    refine g_iload_n F (pc' := 133) dX5_place_132 rfl rfl ?_
                    refine g_iald F K (k := 5) (v := N 5 v) (pc' := 134) rfl (by decide) (by omega) dX5_place_133 rfl (by first | rfl | simp [upf, sc]) ?_
                    refine g_isub F (pc' := 135) dX5_place_134 rfl ?_
                    refine g_iload F (pc' := 137) dX5_place_135 rfl rfl ?_
                    refine g_iload F (pc' := 139) dX5_place_137 rfl rfl ?_
                    refine g_isub F (pc' := 140) dX5_place_139 rfl ?_
                    refine g_imul F (pc' := 141) dX5_place_140 rfl ?_
                    refine g_aload_n F (pc' := 142) dX5_place_141 rfl rfl ?_
                    refine g_iload_n F (pc' := 143) dX5_place_142 rfl rfl ?_
                    refine g_callI F K hXc X0 (pc' := 146) (st := [.int (iI ((x - (N 5 v)) * (((1000 * (N 15 v)) + (1000 * (N 16 v))) - (1000 * (N 15 v))))), .int (iI (1000 * (N 15 v)))]) (c5_width l a N v (by omega)) (cwV 1 F.2.2.2.2 gX5_place_X5_width rfl rfl rfl (by decide +kernel) ⟨Nat.le_of_ble_eq_true rfl, Nat.le_of_ble_eq_true rfl⟩) rfl rfl rfl rfl (Nat.le_of_ble_eq_true rfl) dX5_place_143 rfl (fun z_143 M_143 q_143 => ?_)
                    obtain ⟨rfl, mq_143⟩ := q_143
                    have mq_143 := mq_143.symm; subst mq_143
                    have hmul := mulA_R (x := x - N 5 v) (y := (1000 * N 15 v + 1000 * N 16 v) - 1000 * N 15 v) (A := 999) (B := 100000) (by omega) (by omega)
                    refine g_idiv F (pc' := 147) dX5_place_146 rfl (by omega) (by omega) (by omega) ?_
                    refine g_iadd F (pc' := 148) dX5_place_147 rfl ?_
                    exact g_iret F hr hlk dX5_place_148 (⟨by unfold placeZ; rw [if_neg (by omega), pif_t c_29, ← hpe, hZ, plR_a (by omega) c_122, show 1000 * (N 15 v + N 16 v) - 1000 * N 15 v = (1000 * N 15 v + 1000 * N 16 v) - 1000 * N 15 v by omega], hkK⟩)
            exact lp_80 ((9 - 0 : Int).toNat + 1) 0 (by omega) (by omega) (plF_c hn0 c_53)
          · skip
            refine g_sipush F (pc' := 59) dX5_place_56 rfl (by decide +kernel) ?_
            refine g_aload_n F (pc' := 60) dX5_place_59 rfl rfl ?_
            refine g_getR F K (k := 0) (fld := 18) (ci := 5) (q := 15) (pc' := 63) iX5_place_X5 rfl rfl rfl (by decide) (List.mem_of_getElem? (i := 5) rfl) dX5_place_60 rfl ?_
            refine g_iconst F (pc' := 64) dX5_place_63 rfl ?_
            refine g_iald F K (k := 15) (v := N 15 0) (pc' := 65) rfl (by decide) (by decide) dX5_place_64 rfl (by first | rfl | simp [upf, sc]) ?_
            refine g_imul F (pc' := 66) dX5_place_65 rfl ?_
            refine g_aload_n F (pc' := 67) dX5_place_66 rfl rfl ?_
            refine g_getR F K (k := 0) (fld := 6) (ci := 5) (q := 5) (pc' := 70) iX5_place_X5 rfl rfl rfl (by decide) (List.mem_of_getElem? (i := 4) rfl) dX5_place_67 rfl ?_
            refine g_iconst F (pc' := 71) dX5_place_70 rfl ?_
            refine g_iald F K (k := 5) (v := N 5 0) (pc' := 72) rfl (by decide) (by decide) dX5_place_71 rfl (by first | rfl | simp [upf, sc]) ?_
            refine g_iload_n F (pc' := 73) dX5_place_72 rfl rfl ?_
            refine g_isub F (pc' := 74) dX5_place_73 rfl ?_
            refine g_iload_n F (pc' := 75) dX5_place_74 rfl rfl ?_
            refine g_imul F (pc' := 76) dX5_place_75 rfl ?_
            refine g_isub F (pc' := 77) dX5_place_76 rfl ?_
            exact g_iret F hr hlk dX5_place_77 (⟨by unfold placeZ; rw [if_neg (by omega), pif_t c_29, ← hpe, plF_b (by omega) c_53], hkK⟩)
        · skip
          refine g_iload_n F (pc' := 43) dX5_place_42 rfl rfl ?_
          refine g_iload_n F (pc' := 44) dX5_place_43 rfl rfl ?_
          refine g_imul F (pc' := 45) dX5_place_44 rfl ?_
          exact g_iret F hr hlk dX5_place_45 (⟨by unfold placeZ; rw [if_neg (by omega), pif_t c_29, ← hpe, plF_a c_39], hkK⟩)
      · skip
        have c_29 := zC_0 c_29
        refine g_ldc F (pc' := 34) (z := (-10000003)) dX5_place_32 rfl (List.mem_of_getElem? (i := 2) rfl) (by decide +kernel) ?_
        exact g_iret F hr hlk dX5_place_34 (⟨by unfold placeZ; rw [if_neg (by omega), pif_f c_29], hkK⟩)
    · skip
      have c_18 := zC_0 c_18
      refine g_ldc F (pc' := 23) (z := (-10000002)) dX5_place_21 rfl (List.mem_of_getElem? (i := 1) rfl) (by decide +kernel) ?_
      exact g_iret F hr hlk dX5_place_23 (⟨by unfold placeZ; rw [if_pos (by omega)], keepR_0 M⟩)
