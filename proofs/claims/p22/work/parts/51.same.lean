/-! ===== stems and classes hang on edges and rules alone ===== -/
theorem agree_sym {s t : ST} (h : agree s t) : agree t s :=
  ⟨h.1.symm, fun j a b => by have := h.2 j a (by rw [h.1]; exact b); exact ⟨this.1.symm, this.2.1.symm, this.2.2.1.symm, this.2.2.2.symm⟩⟩
theorem agree_tr {s t u : ST} (h : agree s t) (h2 : agree t u) : agree s u :=
  ⟨h.1.trans h2.1, fun j a b => by
    have p := h.2 j a b
    have q := h2.2 j a (by rw [← h.1]; exact b)
    exact ⟨p.1.trans q.1, p.2.1.trans q.2.1, p.2.2.1.trans q.2.2.1, p.2.2.2.trans q.2.2.2⟩⟩
theorem isOrd_c {n : Int} {wd wd' ord : Int → Int} (h : isOrd n wd ord) (hw : ∀ j, 0 ≤ j → j < n → wd' j = wd j) : isOrd n wd' ord := by
  refine ⟨h.1, fun i j a b c => ?_, h.2.2⟩
  have p := h.1 i a (by omega)
  have q := h.1 j (by omega) c
  rw [hw _ p.1 p.2, hw _ q.1 q.2]
  exact h.2.1 i j a b c
theorem wS_c {s t : ST} (h : agree s t) : ∀ j, 0 ≤ j → j < s.1 → wS t j = wS s j := by
  intro j a b
  have := h.2 j a b
  unfold wS
  rw [this.1, this.2.1]
theorem lay_same {s t : ST} {tol : Int} {ord : Int → Int} {g0 q0 : GS} (h0 : 0 ≤ s.1) (ha : agree s t) (hw : ∀ j : Int, 0 ≤ j → j < s.1 → 1 ≤ wS s j ∧ wS s j ≤ 300) (ho : isOrd s.1 (wS s) ord) (hg : g0.1 = 0) (hq : q0.1 = 0) :
    isOrd t.1 (wS t) ord ∧ gAgree ord s.1 (giterI tol (wS s) ord g0 s.1) (giterI tol (wS t) ord q0 t.1) := by
  refine ⟨by rw [← ha.1]; exact isOrd_c ho (wS_c ha), ?_⟩
  unfold giterI
  rw [← ha.1, ← giter_c (wd := wS s) (wd' := wS t) s.1.toNat (fun i a b => by have := ho.1 i a (by omega); exact (wS_c ha _ this.1 this.2).symm)]
  have := giter_agree (tol := tol) ho hw hg hq s.1.toNat (by omega)
  rw [show ((s.1.toNat : Nat) : Int) = s.1 by omega] at this
  exact this
/-- the same stems, classes, edges' number, signs' number, rules -/
def same (L V : Mem) : Prop := (V 0 11 = L 0 11 ∧ V 0 16 = L 0 16 ∧ V 0 1 = L 0 1 ∧ V 0 3 = L 0 3) ∧ (∀ j, 0 ≤ j → j < L 0 11 → V 5 j = L 5 j ∧ V 6 j = L 6 j ∧ V 7 j = L 7 j ∧ V 8 j = L 8 j ∧ V 9 j = L 9 j) ∧ (∀ c, 0 ≤ c → c < L 0 16 → V 11 c = L 11 c ∧ V 12 c = L 12 c ∧ V 13 c = L 13 c) ∧ ∀ w, 0 ≤ w → w ≤ 4 → V 2 w = L 2 w
theorem same_of {L V : Mem} {s t : ST} {g q : GS} {ord : Int → Int} (e1 : L 0 11 = s.1) (e2 : V 0 11 = t.1) (e5 : L 5 = s.2.1) (f5 : V 5 = t.2.1) (e6 : L 6 = s.2.2.1) (f6 : V 6 = t.2.2.1) (e7 : L 7 = s.2.2.2.1) (f7 : V 7 = t.2.2.2.1) (e8 : L 8 = s.2.2.2.2) (f8 : V 8 = t.2.2.2.2) (g1 : L 0 16 = g.1) (q1 : V 0 16 = q.1) (e9 : L 9 = g.2.1) (f9 : V 9 = q.2.1) (e11 : L 11 = g.2.2.1) (f11 : V 11 = q.2.2.1) (e12 : L 12 = g.2.2.2.1) (f12 : V 12 = q.2.2.2.1) (e13 : L 13 = g.2.2.2.2) (f13 : V 13 = q.2.2.2.2) (ha : agree s t) (ho : isOrd s.1 (wS s) ord) (hg : gAgree ord s.1 g q) (h01 : V 0 1 = L 0 1) (h03 : V 0 3 = L 0 3) (h2 : ∀ w, 0 ≤ w → w ≤ 4 → V 2 w = L 2 w) : same L V := by
  refine ⟨⟨by rw [e2, e1]; exact ha.1.symm, by rw [q1, g1]; exact hg.1.symm, h01, h03⟩, fun j a b => ?_, fun c a b => ?_, h2⟩
  · rw [e1] at b
    have p := ha.2 j a b
    obtain ⟨i, i1, i2, rfl⟩ := ho.2.2 j a b
    have r := hg.2.2 i i1 i2
    rw [e5, f5, e6, f6, e7, f7, e8, f8, e9, f9]
    exact ⟨p.1.symm, p.2.1.symm, p.2.2.1.symm, p.2.2.2.symm, r.symm⟩
  · rw [g1] at b
    have r := hg.2.1 c a b
    rw [e11, f11, e12, f12, e13, f13]
    exact ⟨r.1.symm, r.2.1.symm, r.2.2.symm⟩
theorem canR_k {M K : Mem} (h : K 1 = M 1) : canR K = canR M := by
  funext u d; unfold canR; rw [h]
theorem xR_k {M K : Mem} (h : K 1 = M 1) : xR K = xR M := by
  funext u; unfold xR; rw [h]
theorem sR_k {M K : Mem} (hR : refOK M) (hk : keepR M K) : agree (sR M) (sR K) := by
  obtain ⟨k1, -, k2, -, -, -, -⟩ := hk
  have a := (siter_both (s0 := sR0 M) (t0 := ((0 : Int), M 5, M 6, M 7, M 8)) (canR_x M) hR.1.1 rfl rfl 8).2
  have b := (siter_both (s0 := sR0 K) (t0 := ((0 : Int), M 5, M 6, M 7, M 8)) (canR_x M) hR.1.1 rfl rfl 8).2
  have e : sR K = siter (canR M) frR (xR M) (M 0 1) (sR0 K) 8 := by unfold sR; rw [canR_k k2, xR_k k2, k1]
  rw [e]
  exact agree_tr a (agree_sym b)
theorem refOK_k {M K : Mem} (hR : refOK M) (hk : keepR M K) : refOK K := by
  obtain ⟨k1, -, k2, k3, -, -, -⟩ := hk
  unfold refOK
  rw [k1, k2, k3]
  exact hR
theorem lay_k {M K : Mem} {ord : Int → Int} (hR : refOK M) (hk : keepR M K) (ho : isOrd (sR M).1 (wS (sR M)) ord) : isOrd (sR K).1 (wS (sR K)) ord ∧ same (laid M ord) (laid K ord) := by
  have ha := sR_k hR hk
  have hI := sR_inv hR.1.1
  obtain ⟨k1, k0, k2, k3, -, -, -⟩ := hk
  have h := lay_same (tol := M 2 0) (g0 := gR0 (sM M (sR M))) (q0 := gR0 (sM K (sR K))) hI.1 ha (sM_w hI) ho rfl rfl
  refine ⟨h.1, same_of (s := sR M) (t := sR K) (g := gR (sM M (sR M)) ord) (q := gR (sM K (sR K)) ord) rfl rfl rfl rfl rfl rfl rfl rfl rfl rfl rfl rfl rfl rfl rfl rfl rfl rfl rfl rfl ha ho ?_ k1 k0 (fun w _ _ => by show K 2 w = M 2 w; rw [k3])⟩
  have e : gR (sM K (sR K)) ord = giterI (M 2 0) (wS (sR K)) ord (gR0 (sM K (sR K))) (sR K).1 := by
    show giterI (K 2 0) (wS (sR K)) ord (gR0 (sM K (sR K))) (sR K).1 = _
    rw [k3]
  rw [e]
  exact h.2
section SAME
variable {L V : Mem}
theorem same_w (h : lOK L) (hs : same L V) {sz s : Int} (h0 : 0 ≤ s) (h1 : s < L 0 11) : wL V sz s = wL L sz s := by
  have a := (hs.2.1 s h0 h1).2.2.2.2
  have b := (h.2.2.1 s h0 h1).2.2.2
  have c := hs.2.2.1 (L 9 s) b.1 b.2
  unfold wL
  rw [a, c.1, c.2.2, hs.2.2.2 4 (by decide) (by decide)]
theorem same_lpn (h : lOK L) (hs : same L V) {sz : Int} : ∀ k : Nat, (k : Int) ≤ L 0 11 → lpL V sz (k : Int) = lpL L sz (k : Int)
  | 0, _ => rfl
  | k + 1, hk => by
    have a := same_lpn h hs (sz := sz) k (by omega)
    have e1 : lpL V sz ((k : Int) + 1) = lpL V sz k + wL V sz k + 1 := lpp_s (by omega)
    have e2 : lpL L sz ((k : Int) + 1) = lpL L sz k + wL L sz k + 1 := lpp_s (by omega)
    rw [show (((k + 1 : Nat)) : Int) = (k : Int) + 1 by omega, e1, e2, a, same_w h hs (by omega) (by omega)]
theorem same_lp (h : lOK L) (hs : same L V) {sz i : Int} (h0 : 0 ≤ i) (h1 : i ≤ L 0 11) : lpL V sz i = lpL L sz i := by
  have := same_lpn h hs (sz := sz) i.toNat (by omega)
  rw [show ((i.toNat : Nat) : Int) = i by omega] at this
  exact this
theorem same_rm (h : lOK L) (hs : same L V) {sz : Int} : rmL V sz = rmL L sz := by
  unfold rmL
  rw [hs.1.1]
  by_cases c : L 0 11 ≤ 0
  · rw [if_pos c, if_pos c]
  · rw [if_neg c, if_neg c, same_lp h hs (by omega) (by omega), same_w h hs (by omega) (by omega)]
theorem same_ok (h : lOK L) (hs : same L V) {sz : Int} : okL V sz ↔ okL L sz := by
  constructor
  · intro q s a b
    have := q s a (by rw [hs.1.1]; exact b)
    rw [same_lp h hs a (by omega), same_w h hs a b] at this
    exact this
  · intro q s a b
    rw [hs.1.1] at b
    rw [same_lp h hs a (by omega), same_w h hs a b]
    exact q s a b
theorem same_sc (h : lOK L) (hs : same L V) {sz : Int} : ∀ i, 0 ≤ i → i < L 0 11 → ∀ t, scL L sz i t = scL V sz i t := by
  intro i a b t
  have p := hs.2.1 i a b
  unfold scL scost
  rw [p.1, p.2.1, same_w h hs a b, hs.2.2.2 3 (by decide) (by decide), hs.2.2.2 1 (by decide) (by decide)]
theorem same_gc (hs : same L V) {sz : Int} : ∀ i, 0 ≤ i → i < L 0 11 - 1 → ∀ t, gcL L sz i t = gcL V sz i t := by
  intro i a b t
  have p := hs.2.1 i a (by omega)
  have q := hs.2.1 (i + 1) (by omega) (by omega)
  unfold gcL gcost
  rw [p.2.1, q.1, hs.2.2.2 3 (by decide) (by decide), hs.2.2.2 2 (by decide) (by decide)]
theorem same_least (h : lOK L) (hs : same L V) {sz : Int} : leastL V sz = leastL L sz := by
  unfold leastL
  rw [hs.1.1]
  by_cases c : L 0 11 ≤ 0
  · rw [if_pos c, if_pos c]
  · rw [if_neg c, if_neg c]
    unfold whlL
    rw [hs.1.1, same_rm h hs, hs.2.2.2 3 (by decide) (by decide)]
    exact (whl_c (same_sc h hs) (same_gc hs) (fun i a b => (same_lp h hs a (by omega)).symm) (by omega)).symm
theorem same_dot (h : lOK L) (hs : same L V) {sz s : Int} (h0 : 0 ≤ s) (h1 : s < L 0 11) : dotL V sz s = dotL L sz s := by
  unfold dotL SELL
  rw [hs.1.1, same_rm h hs, hs.2.2.2 3 (by decide) (by decide), same_lp h hs h0 (by omega)]
  rw [selI_c (same_sc h hs) (same_gc hs) (fun i a b => (same_lp h hs a (by omega)).symm) (by omega) (by omega) (by omega)]
theorem same_stem (hs : same L V) (j w : Int) : stemZ V j w = stemZ L j w := by
  unfold stemZ
  rw [hs.1.1]
  by_cases c : 0 ≤ j ∧ j ≤ L 0 11 - 1
  · obtain ⟨a, b, d, e, f⟩ := hs.2.1 j c.1 (by omega)
    rw [if_pos c, if_pos c, a, b, d, e, f]
  · rw [if_neg c, if_neg c]
theorem same_kind (hs : same L V) (k w : Int) : kindZ V k w = kindZ L k w := by
  unfold kindZ
  rw [hs.1.2.1]
  by_cases c : 0 ≤ k ∧ k ≤ L 0 16 - 1
  · obtain ⟨a, b, d⟩ := hs.2.2.1 k c.1 (by omega)
    rw [if_pos c, if_pos c, a, b, d]
  · rw [if_neg c, if_neg c]
theorem same_dots (hs : same L V) (k sz : Int) : dotsZ V k sz = dotsZ L k sz := by
  unfold dotsZ
  rw [hs.1.2.1, hs.2.2.2 4 (by decide) (by decide)]
  by_cases c : 0 ≤ k ∧ k ≤ L 0 16 - 1
  · obtain ⟨a, b, d⟩ := hs.2.2.1 k c.1 (by omega)
    rw [if_pos c, if_pos c, a, d]
  · rw [if_neg c, if_neg c]
theorem same_grows (hs : same L V) (k d : Int) : growsZ V k d = growsZ L k d := by
  unfold growsZ
  rw [hs.1.2.1, hs.2.2.2 4 (by decide) (by decide)]
  by_cases c : 0 ≤ k ∧ k ≤ L 0 16 - 1
  · obtain ⟨a, b, e⟩ := hs.2.2.1 k c.1 (by omega)
    rw [if_pos c, if_pos c, a, e]
  · rw [if_neg c, if_neg c]
theorem same_count (hs : same L V) (w : Int) : countZ V w = countZ L w := by
  unfold countZ
  obtain ⟨a, b, c, d⟩ := hs.1
  rw [a, b, c, d]
  by_cases q : 4 ≤ w ∧ w ≤ 8
  · rw [if_pos q, if_pos q, hs.2.2.2 (w - 4) (by omega) (by omega)]
  · rw [if_neg q, if_neg q]
theorem whyQ_u {n sz w z z2 : Int} {wd wd2 : Int → Int} (hw : ∀ s, 0 ≤ s → s < n → wd2 s = wd s) (hl : ∀ s, 0 ≤ s → s ≤ n → lpp wd2 s = lpp wd s) (h : whyQ n wd sz w z) (h2 : whyQ n wd2 sz w z2) : z2 = z := by
  rcases h with h | ⟨b, b1, b2, b3, b4⟩
  · rcases h2 with h2 | ⟨c, c1, c2, c3, c4⟩
    · rw [h.2, h2.2]
    · have := h.1 c c1.1 c1.2
      rw [hw c c1.1 c1.2, hl c c1.1 (by omega)] at c2
      omega
  · rcases h2 with h2 | ⟨c, c1, c2, c3, c4⟩
    · have := h2.1 b b1.1 b1.2
      rw [hw b b1.1 b1.2, hl b b1.1 (by omega)] at this
      omega
    · rw [hw c c1.1 c1.2, hl c c1.1 (by omega)] at c2
      have e : c = b := by
        rcases Int.lt_trichotomy c b with q | q | q
        · have := b3 c c1.1 q; omega
        · exact q
        · have := c3 b b1.1 q
          rw [hw b b1.1 b1.2, hl b b1.1 (by omega)] at this
          omega
      subst e
      rw [b4, c4, hw c c1.1 c1.2]
theorem same_why (h : lOK L) (hs : same L V) {sz w z z2 : Int} (h1 : whyQ (L 0 11) (wL L sz) sz w z) (h2 : whyQ (V 0 11) (wL V sz) sz w z2) : z2 = z := by
  rw [hs.1.1] at h2
  exact whyQ_u (fun s a b => same_w h hs a b) (fun s a b => same_lp h hs a b) h1 h2
theorem plR_e {n x : Int} {lf rt ld w lf2 rt2 ld2 w2 : Int → Int} {sz : Int} (hn : 0 < n) (he : ∀ s, 0 ≤ s → s < n → lf2 s = lf s ∧ rt2 s = rt s ∧ ld2 s = ld s ∧ w2 s = w s) : ∀ (d : Nat) (s : Int), 0 ≤ s → s + d = n → plR n x lf2 rt2 ld2 w2 sz d s = plR n x lf rt ld w sz d s
  | 0, s, h0, h1 => by
    have a := he (n - 1) (by omega) (by omega)
    show 1000 * (ld2 (n - 1) + w2 (n - 1)) + (x - rt2 (n - 1)) * sz = 1000 * (ld (n - 1) + w (n - 1)) + (x - rt (n - 1)) * sz
    rw [a.2.1, a.2.2.1, a.2.2.2]
  | d + 1, s, h0, h1 => by
    have a := he s h0 (by omega)
    have ih := plR_e (sz := sz) (x := x) hn he d (s + 1) (by omega) (by omega)
    unfold plR
    rw [a.1, a.2.1, a.2.2.1, a.2.2.2, ih]
    by_cases c : s + 1 < n
    · have b := he (s + 1) (by omega) c
      rw [b.1, b.2.2.1]
    · rw [if_neg (show ¬ (s + 1 < n ∧ x < lf2 (s + 1)) by omega), if_neg (show ¬ (s + 1 < n ∧ x < lf (s + 1)) by omega)]
theorem plF_e {n x : Int} {lf rt ld w lf2 rt2 ld2 w2 : Int → Int} {sz : Int} (h0 : 0 ≤ n) (he : ∀ s, 0 ≤ s → s < n → lf2 s = lf s ∧ rt2 s = rt s ∧ ld2 s = ld s ∧ w2 s = w s) : plF n x lf2 rt2 ld2 w2 sz = plF n x lf rt ld w sz := by
  unfold plF
  by_cases c : n = 0
  · rw [if_pos c, if_pos c]
  · have a := he 0 (by omega) (by omega)
    rw [if_neg c, if_neg c, a.1, a.2.2.1, plR_e (by omega) he (n - 0).toNat 0 (by omega) (by omega)]
end SAME
