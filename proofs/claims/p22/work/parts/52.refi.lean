/-! ===== the reference: fits told ===== -/
theorem keepR_t {M K N : Mem} (h : keepR M K) (h2 : keepR K N) : keepR M N := by
  obtain ⟨a1, a2, a3, a4, a5, a6, a7⟩ := h
  obtain ⟨b1, b2, b3, b4, b5, b6, b7⟩ := h2
  exact ⟨b1.trans a1, b2.trans a2, b3.trans a3, b4.trans a4, b5.trans a5, b6.trans a6, b7.trans a7⟩
def lfR (M : Mem) (ord : Int → Int) (sz z : Int) (K : Mem) : Prop := keepR M K ∧ z = zC (okL (laid M ord) sz) ∧ (okL (laid M ord) sz → K 0 20 = leastL (laid M ord) sz ∧ ∀ s, 0 ≤ s → s < laid M ord 0 11 → K 15 s = dotL (laid M ord) sz s ∧ K 16 s = wL (laid M ord) sz s) ∧ K 0 11 = laid M ord 0 11 ∧ ∀ s, 0 ≤ s → s < laid M ord 0 11 → K 5 s = laid M ord 5 s ∧ K 6 s = laid M ord 6 s
theorem lf_conv {M X K : Mem} {ord : Int → Int} {sz z : Int} (hR : refOK M) (ho : isOrd (sR M).1 (wS (sR M)) ord) (hk : keepR M X) (_ : 1 ≤ sz ∧ sz ≤ 60) (h : lfQ X ord sz z K) : lfR M ord sz z K := by
  have hs := (lay_k hR hk ho).2
  have hl := laid_ok hR ho
  obtain ⟨h1, h2, h3, h4, h5, h6⟩ := h
  refine ⟨keepR_t hk h1, h2.trans (zC_iff (same_ok hl hs)), fun q => ?_, h4.trans hs.1.1, fun s a b => ?_⟩
  · have p := h3 ((same_ok hl hs).mpr q)
    refine ⟨p.1.trans (same_least hl hs), fun s a b => ?_⟩
    have r := p.2 s a (by rw [hs.1.1]; exact b)
    exact ⟨r.1.trans (same_dot hl hs a b), r.2.trans (same_w hl hs a b)⟩
  · have p := hs.2.1 s a b
    rw [h5, h6]
    exact ⟨p.1, p.2.1⟩
theorem laid_rul {M : Mem} (hR : refOK M) (ord : Int → Int) : rulL (laid M ord) := ⟨hR.2.2.2.1, hR.2.2.2.2.1, hR.2.2.2.2.2.1, hR.2.2.2.2.2.2⟩
noncomputable def fitZ (L : Mem) (sz j : Int) : Int := if 0 ≤ j ∧ j ≤ L 0 11 - 1 then (if 1 ≤ sz ∧ sz ≤ 60 then pif (okL L sz) (dotL L sz j) (-3) else -2) else -1
noncomputable def distZ (L : Mem) (sz : Int) : Int := if 1 ≤ sz ∧ sz ≤ 60 then pif (okL L sz) (leastL L sz) (-3) else -2
noncomputable def bestN (ok : Int → Prop) (ls : Int → Int) : Nat → Int × Int
  | 0 => (-6, 0)
  | k + 1 => pif (ok (k + 1)) (if (bestN ok ls k).1 < 0 ∨ ls (k + 1) * (bestN ok ls k).1 ≤ (bestN ok ls k).2 * (k + 1) then ((k : Int) + 1, ls (k + 1)) else bestN ok ls k) (bestN ok ls k)
noncomputable def bestI (ok : Int → Prop) (ls : Int → Int) (k : Int) : Int × Int := bestN ok ls k.toNat
theorem bestI_s {ok : Int → Prop} {ls : Int → Int} {k b l : Int} (h : 1 ≤ k) (hb : bestI ok ls (k - 1) = (b, l)) : bestI ok ls k = pif (ok k) (if b < 0 ∨ ls k * b ≤ l * k then (k, ls k) else (b, l)) (b, l) := by
  unfold bestI at hb ⊢
  rw [show k.toNat = (k - 1).toNat + 1 by omega]
  show pif (ok ((((k - 1).toNat : Nat) : Int) + 1)) _ _ = _
  rw [hb, show (((k - 1).toNat : Nat) : Int) + 1 = k by omega]
theorem bestI_n {ok : Int → Prop} {ls : Int → Int} {k : Int} (h : 1 ≤ k) (hk : ¬ ok k) : bestI ok ls k = bestI ok ls (k - 1) := by
  rw [bestI_s h rfl, pif_f hk]; rfl
noncomputable def bestZ (L : Mem) (mo : Int) : Int := if 1 ≤ mo ∧ mo ≤ 60 then (bestI (okL L) (leastL L) mo).1 else -2
theorem bestN_c {ok ok2 : Int → Prop} {ls ls2 : Int → Int} (h : ∀ k, ok2 k ↔ ok k) (h2 : ∀ k, ls2 k = ls k) (k : Nat) : bestN ok2 ls2 k = bestN ok ls k := by
  rw [show ok2 = ok from funext fun k => propext (h k), show ls2 = ls from funext h2]
theorem leastL_R {L : Mem} {sz : Int} (h : lOK L) (hR : rulL L) (hz : 1 ≤ sz ∧ sz ≤ 60) (hok : okL L sz) : 0 ≤ leastL L sz ∧ leastL L sz ≤ 20000000000 := by
  unfold leastL
  by_cases c : L 0 11 ≤ 0
  · rw [if_pos c]; omega
  · rw [if_neg c]
    exact whlL_R h hR hz ((okL_iff h hR hz (by omega)).mp hok) (by omega)
theorem dotL_R {L : Mem} {sz s : Int} (h : lOK L) (hR : rulL L) (hz : 1 ≤ sz ∧ sz ≤ 60) (hok : okL L sz) (h0 : 0 ≤ s) (h1 : s < L 0 11) : 0 ≤ dotL L sz s ∧ dotL L sz s ≤ 60 := by
  have a := SELL_R ((okL_iff h hR hz (by omega)).mp hok) h0 h1
  have b := lpL_up0 h hR hz h0 h1
  have c := lpL_R0 h hR hz h0 (by omega)
  have d := wL_R h hR.2.2.2 hz h0 h1
  unfold dotL
  omega
noncomputable def placeZ (L : Mem) (sz x : Int) : Int := if ¬ (1 ≤ sz ∧ sz ≤ 60) ∨ ¬ (0 ≤ x ∧ x ≤ 999) then -10000002 else pif (okL L sz) (plF (L 0 11) x (L 5) (L 6) (dotL L sz) (wL L sz) sz) (-10000003)
theorem plK {L K : Mem} {sz x : Int} (h : lOK L) (hR : rulL L) (hz : 1 ≤ sz ∧ sz ≤ 60) (hok : okL L sz) (e11 : K 0 11 = L 0 11) (e56 : ∀ s, 0 ≤ s → s < L 0 11 → K 5 s = L 5 s ∧ K 6 s = L 6 s) (hv : ∀ s, 0 ≤ s → s < L 0 11 → K 15 s = dotL L sz s ∧ K 16 s = wL L sz s) :
    plF (K 0 11) x (K 5) (K 6) (K 15) (K 16) sz = plF (L 0 11) x (L 5) (L 6) (dotL L sz) (wL L sz) sz ∧ (∀ s, 0 ≤ s → s < K 0 11 → (0 ≤ K 5 s ∧ K 5 s ≤ 999) ∧ (0 ≤ K 6 s ∧ K 6 s ≤ 999) ∧ K 5 s < K 6 s ∧ (0 ≤ K 15 s ∧ K 15 s ≤ 60) ∧ (1 ≤ K 16 s ∧ K 16 s ≤ 21) ∧ (s + 1 < K 0 11 → K 6 s < K 5 (s + 1))) ∧ 0 ≤ K 0 11 ∧ K 0 11 ≤ 8 := by
  refine ⟨?_, fun s a b => ?_, by rw [e11]; exact h.1⟩
  · rw [e11]
    exact plF_e h.1.1 (fun s a b => ⟨(e56 s a b).1, (e56 s a b).2, (hv s a b).1, (hv s a b).2⟩)
  · rw [e11] at b
    have p := h.2.2.1 s a b
    rw [(e56 s a b).1, (e56 s a b).2, (hv s a b).1, (hv s a b).2, e11]
    refine ⟨p.1, p.2.1, p.2.2.1, dotL_R h hR hz hok a b, wL_R h hR.2.2.2 hz a b, fun c => ?_⟩
    rw [(e56 (s + 1) (by omega) c).1]
    exact h.2.2.2.1 s (s + 1) a (by omega) c
theorem plR_g {n x : Int} {lf rt ld w : Int → Int} {sz s : Int} (h : 0 ≤ s ∧ s < n) (hx : rt s < x) (h2 : s + 1 < n ∧ x < lf (s + 1)) : plR n x lf rt ld w sz (n - s).toNat s = 1000 * (ld s + w s) + Int.tdiv ((x - rt s) * (1000 * ld (s + 1) - 1000 * (ld s + w s))) (lf (s + 1) - rt s) := by
  rw [show (n - s).toNat = (n - s - 1).toNat + 1 by omega]
  show (if x ≤ rt s then _ else if s + 1 < n ∧ x < lf (s + 1) then _ else _) = _
  rw [if_neg (by omega), if_pos h2]
