/-! ===== what the law asks, of numbers alone: stems and classes ===== -/
def CI (C : Mem) : Prop := CBo C ∧ kOK C ∧ FND C
theorem CI_rn {M N : Mem} (hB : CBo M) (hk : ∀ j, 0 ≤ M 37 j ∧ M 37 j ≤ 1) (h : rnQ M N) : CI N := by
  have h1 := rn_FND hB.2.2.1.1.1 h
  have h2 := rn_kOK hk h
  obtain ⟨od, f, ho, rfl, -, -⟩ := h
  exact ⟨hB, h2, h1⟩
theorem rn_id {M N : Mem} (h : rnQ M N) {k : Nat} (hk : k < 24 ∨ 37 < k ∨ (33 < k ∧ k < 37)) : N k = M k := by
  obtain ⟨od, f, -, rfl, -, -⟩ := h
  have e : ∀ j : Nat, (23 < j ∧ j < 34) ∨ j = 37 → k ≠ j := fun j hj => by omega
  exact (sc_n (e 37 (by omega))).trans ((sc_n (e 32 (by omega))).trans ((sc_n (e 31 (by omega))).trans ((sc_n (e 30 (by omega))).trans ((sc_n (e 29 (by omega))).trans ((sc_n (e 24 (by omega))).trans ((sc_n (e 33 (by omega))).trans ((sc_n (e 28 (by omega))).trans ((sc_n (e 27 (by omega))).trans ((sc_n (e 26 (by omega))).trans ((sc_n (e 25 (by omega))).trans (sc_n (e 24 (by omega)))))))))))))
theorem sInv_ag {cn : Int → Int → Prop} {x : Int → Int} {m : Int} {s t : ST} (h : sInv cn x m s) (a : agree s t) : sInv cn x m t := by
  obtain ⟨h0, h1, h2⟩ := h
  have e := a.1
  refine ⟨by rw [← e]; exact h0, fun i a1 a2 => ?_, fun i j a1 a2 a3 => ?_⟩
  · have q := a.2 i a1 (by omega)
    have p := h1 i a1 (by omega)
    rw [← q.1, ← q.2.1, ← q.2.2.1, ← q.2.2.2]
    exact p
  · have q := a.2 i a1 (by omega)
    have r := a.2 j (by omega) (by omega)
    rw [← q.2.1, ← r.1]
    exact h2 i j a1 a2 (by omega)
theorem CI_inv {C : Mem} (h : CI C) : sInv (canC C) (C 6) (C 4 4) (stC C) := by
  obtain ⟨hB, -, od, ho, ha, hg⟩ := h
  exact sInv_ag (siterC_inv (s0 := sC0 C) (canC_x C) hB.2.2.1.1.1 rfl 8) ha
theorem CI_n {C : Mem} (h : CI C) : 0 ≤ C 24 0 ∧ 2 * C 24 0 ≤ C 4 4 :=
  ⟨(CI_inv h).1, sInv_n (canC_x C) (canC_g C) h.1.2.2.1.1.1 (CI_inv h)⟩
/-- nothing free could be a stem -/
theorem stp_p {cn : Int → Int → Prop} {x : Int → Int} {b : Int × Int} {u d : Int} (hu : 0 ≤ u) (h : 0 ≤ b.1 ∨ cn u d) : 0 ≤ (stp cn x b u d).1 := by
  unfold stp
  by_cases q : cn u d ∧ (b.1 < 0 ∨ x d - x u < x b.2 - x b.1 ∨ (x d - x u = x b.2 - x b.1 ∧ x u < x b.1))
  · rw [pif_t q]; exact hu
  · rw [pif_f q]
    rcases h with h | h
    · exact h
    · rcases Int.lt_or_le b.1 0 with z | z
      · exact absurd ⟨h, Or.inl z⟩ q
      · exact z
theorem pin_p {cn : Int → Int → Prop} {x : Int → Int} {b : Int × Int} {u : Int} (hu : 0 ≤ u) : ∀ k : Nat, (0 ≤ b.1 ∨ ∃ d : Int, 0 ≤ d ∧ d < k ∧ cn u d) → 0 ≤ (pin cn x b u k).1
  | 0, h => by
    rcases h with h | ⟨d, d0, d1, -⟩
    · exact h
    · omega
  | k + 1, h => by
    show 0 ≤ (stp cn x (pin cn x b u k) u k).1
    apply stp_p hu
    rcases h with h | ⟨d, d0, d1, hc⟩
    · exact Or.inl (pin_p hu k (Or.inl h))
    · by_cases e : d = k
      · subst e; exact Or.inr hc
      · exact Or.inl (pin_p hu k (Or.inr ⟨d, d0, by omega, hc⟩))
theorem pout_p {cn : Int → Int → Prop} {x : Int → Int} {m : Nat} : ∀ k : Nat, (∃ u d : Int, (0 ≤ u ∧ u < k) ∧ (0 ≤ d ∧ d < m) ∧ cn u d) → 0 ≤ (pout cn x m k).1
  | 0, ⟨u, d, h, _⟩ => by omega
  | k + 1, ⟨u, d, hu, hd, hc⟩ => by
    show 0 ≤ (pin cn x (pout cn x m k) k m).1
    apply pin_p (by omega)
    by_cases e : u = k
    · subst e; exact Or.inr ⟨d, hd.1, hd.2, hc⟩
    · exact Or.inl (pout_p k ⟨u, d, by omega, hd, hc⟩)
theorem siter_max {cn : Int → Int → Prop} {x : Int → Int} {m : Int} (hx : ∀ u d, cn u d → x u < x d) {G : Int → Prop} (hg : ∀ u d, cn u d → G u ∧ ¬ G d) (hm : 0 ≤ m ∧ m < 16) {s0 : ST} (h0 : s0.1 = 0) : (pk cn frC x m (siter cn frC x m s0 8)).1 < 0 := by
  have key : ∀ k : Nat, (pk cn frC x m (siter cn frC x m s0 k)).1 < 0 ∨ (siter cn frC x m s0 k).1 = k ∨ ∃ j : Nat, j < k ∧ (pk cn frC x m (siter cn frC x m s0 j)).1 < 0 := by
    intro k
    induction k with
    | zero => exact Or.inr (Or.inl h0)
    | succ k ih =>
      rcases ih with h | h | ⟨j, j1, j2⟩
      · exact Or.inr (Or.inr ⟨k, by omega, h⟩)
      · by_cases q : (pk cn frC x m (siter cn frC x m s0 k)).1 < 0
        · exact Or.inr (Or.inr ⟨k, by omega, q⟩)
        · refine Or.inr (Or.inl ?_)
          show (sstep cn frC x m (siter cn frC x m s0 k)).1 = _
          unfold sstep
          rw [pif_f q]
          show (siter cn frC x m s0 k).1 + 1 = _
          omega
      · exact Or.inr (Or.inr ⟨j, by omega, j2⟩)
  rcases key 8 with h | h | ⟨j, j1, j2⟩
  · exact h
  · have hI := siterC_inv hx hm.1 h0 8
    have := sInv_n hx hg hm.1 hI
    omega
  · have e := siter_fix j2 (8 - j)
    rw [show j + (8 - j) = 8 by omega] at e
    rw [e]; exact j2
theorem CI_max {C : Mem} (h : CI C) (hm : C 4 4 < 16) {u d : Int} (hu : 0 ≤ u ∧ u < C 4 4) (hd : 0 ≤ d ∧ d < C 4 4) (hc : canC C u d) : ∃ j, 0 ≤ j ∧ j < C 24 0 ∧ C 25 j ≤ C 6 d ∧ C 6 u ≤ C 26 j := by
  obtain ⟨hB, -, od, ho, ha, hg⟩ := h
  have hmm := hB.2.2.1.1.1
  have h1 : (pk (canC C) frC (C 6) (C 4 4) (sC C)).1 < 0 := siter_max (s0 := sC0 C) (canC_x C) (canC_g C) ⟨hmm, hm⟩ rfl
  by_cases q : frC (C 6) (sC C) u d
  · exfalso
    have h2 : 0 ≤ (pk (canC C) frC (C 6) (C 4 4) (sC C)).1 := by
      unfold pk poutI
      exact pout_p _ ⟨u, d, by omega, by omega, hc, q⟩
    omega
  · have q2 : ¬ frC (C 6) (stC C) u d := fun z => q ((frC_c ha u d).mpr z)
    refine Classical.byContradiction fun z => q2 (fun j a b => ?_)
    have e1 : (stC C).2.1 j = C 25 j := rfl
    have e2 : (stC C).2.2.1 j = C 26 j := rfl
    rw [e1, e2]
    rcases Int.lt_or_le (C 6 d) (C 25 j) with r | r
    · exact Or.inl r
    · rcases Int.lt_or_le (C 26 j) (C 6 u) with r2 | r2
      · exact Or.inr r2
      · exact absurd ⟨j, a, b, r, r2⟩ z
/-! ===== classes ===== -/
def msum (f : Int → Int) : Nat → Int
  | 0 => 0
  | k + 1 => msum f k + f k
theorem msum_c {f g : Int → Int} : ∀ k : Nat, (∀ j : Int, 0 ≤ j → j < k → f j = g j) → msum f k = msum g k
  | 0, _ => rfl
  | k + 1, h => by
    show msum f k + f k = msum g k + g k
    rw [msum_c k (fun j a b => h j a (by omega)), h k (by omega) (by omega)]
def msI (f : Int → Int) (k : Int) : Int := msum f k.toNat
theorem msI_s {f : Int → Int} {k : Int} (h : 0 ≤ k) : msI f (k + 1) = msI f k + f k := by
  unfold msI
  rw [show (k + 1).toNat = k.toNat + 1 by omega]
  show msum f k.toNat + f ((k.toNat : Nat) : Int) = _
  rw [show ((k.toNat : Nat) : Int) = k by omega]
theorem msI_c {f g : Int → Int} {k : Int} (h : ∀ j : Int, 0 ≤ j → j < k → f j = g j) : msI f k = msI g k := msum_c _ (fun j a b => h j a (by omega))
theorem msI_0 (f : Int → Int) : msI f 0 = 0 := rfl
def gInv2 (tol : Int) (wd ord : Int → Int) (k : Int) (g : GS) : Prop :=
  0 ≤ g.1 ∧ (∀ i : Int, 0 ≤ i → i < k → (0 ≤ g.2.1 (ord i) ∧ g.2.1 (ord i) < g.1) ∧ g.2.2.2.1 (g.2.1 (ord i)) ≤ wd (ord i) ∧ wd (ord i) ≤ g.2.2.2.1 (g.2.1 (ord i)) + tol) ∧
  (∀ c : Int, 0 ≤ c → c + 1 < g.1 → g.2.2.2.1 c + tol < g.2.2.2.1 (c + 1)) ∧
  msI g.2.2.1 g.1 = k ∧
  (∀ c : Int, 0 ≤ c → c < g.1 → 1 ≤ g.2.2.1 c ∧ g.2.2.1 c * g.2.2.2.1 c ≤ g.2.2.2.2 c ∧ g.2.2.2.2 c ≤ g.2.2.1 c * (g.2.2.2.1 c + tol)) ∧
  (0 < k → 1 ≤ g.1 ∧ ∃ i : Int, 0 ≤ i ∧ i < k ∧ g.2.2.2.1 (g.1 - 1) = wd (ord i)) ∧ (k = 0 → g.1 = 0)
theorem g2_step {tol n k : Int} {wd ord : Int → Int} {g : GS} (ht : 0 ≤ tol) (h : gInv2 tol wd ord k g) (ho : isOrd n wd ord) (hk : 0 ≤ k ∧ k < n) : gInv2 tol wd ord (k + 1) (gstep tol wd g (ord k)) := by
  obtain ⟨n0, kd, mm, lw, sm⟩ := g
  obtain ⟨h0, hA, hB, hC, hD, hE, hF⟩ := h
  simp only at h0 hA hB hC hD hE hF
  have hkd : ∀ i : Int, 0 ≤ i → i < k → ord i ≠ ord k := fun i a b => ord_ne ho a b hk.2
  have hw : ∀ i : Int, 0 ≤ i → i < k → wd (ord i) ≤ wd (ord k) := fun i a b => by
    have := ho.2.1 i k a b hk.2
    omega
  by_cases q : gnew tol (n0, kd, mm, lw, sm) (wd (ord k))
  · have q' : n0 = 0 ∨ tol < wd (ord k) - lw (n0 - 1) := q
    have e : gstep tol wd (n0, kd, mm, lw, sm) (ord k) = (n0 + 1, upf kd (ord k) n0, upf mm n0 1, upf lw n0 (wd (ord k)), upf sm n0 (wd (ord k))) := by
      unfold gstep gmid
      rw [pif_t q]
      show ((n0 + 1 : Int), upf kd (ord k) (n0 + 1 - 1), upf (upf mm n0 0) (n0 + 1 - 1) (upf mm n0 0 (n0 + 1 - 1) + 1), upf lw n0 (wd (ord k)), upf (upf sm n0 0) (n0 + 1 - 1) (upf sm n0 0 (n0 + 1 - 1) + wd (ord k))) = _
      rw [show n0 + 1 - 1 = n0 by omega, upf_s, upf_s, upf_w, upf_w, Int.zero_add, Int.zero_add]
    rw [e]
    refine ⟨by show 0 ≤ n0 + 1; omega, fun i a b => ?_, fun c a b => ?_, ?_, fun c a b => ?_, fun _ => ⟨by show 1 ≤ n0 + 1; omega, k, hk.1, by omega, ?_⟩, fun z => by omega⟩
    · show (0 ≤ upf kd (ord k) n0 (ord i) ∧ upf kd (ord k) n0 (ord i) < n0 + 1) ∧ upf lw n0 (wd (ord k)) (upf kd (ord k) n0 (ord i)) ≤ wd (ord i) ∧ wd (ord i) ≤ upf lw n0 (wd (ord k)) (upf kd (ord k) n0 (ord i)) + tol
      by_cases hi : i = k
      · subst hi
        rw [upf_s, upf_s]
        omega
      · have p := hA i a (by omega)
        rw [upf_n (hkd i a (by omega)), upf_n (by omega)]
        omega
    · have b : c + 1 < n0 + 1 := b
      show upf lw n0 (wd (ord k)) c + tol < upf lw n0 (wd (ord k)) (c + 1)
      rw [upf_n (show c ≠ n0 by omega)]
      by_cases hc : c + 1 = n0
      · rw [hc, upf_s]
        rcases q' with z | z
        · omega
        · rw [show n0 - 1 = c by omega] at z
          omega
      · rw [upf_n hc]
        exact hB c a (by omega)
    · show msI (upf mm n0 1) (n0 + 1) = k + 1
      rw [msI_s h0, upf_s, msI_c (g := mm) (fun j a b => upf_n (by omega)), hC]
    · have b : c < n0 + 1 := b
      show 1 ≤ upf mm n0 1 c ∧ upf mm n0 1 c * upf lw n0 (wd (ord k)) c ≤ upf sm n0 (wd (ord k)) c ∧ upf sm n0 (wd (ord k)) c ≤ upf mm n0 1 c * (upf lw n0 (wd (ord k)) c + tol)
      by_cases hc : c = n0
      · subst hc
        rw [upf_s, upf_s, upf_s]
        omega
      · rw [upf_n hc, upf_n hc, upf_n hc]
        exact hD c a (by omega)
    · show upf lw n0 (wd (ord k)) (n0 + 1 - 1) = wd (ord k)
      rw [show n0 + 1 - 1 = n0 by omega, upf_s]
  · have q' : ¬ (n0 = 0 ∨ tol < wd (ord k) - lw (n0 - 1)) := q
    have e : gstep tol wd (n0, kd, mm, lw, sm) (ord k) = (n0, upf kd (ord k) (n0 - 1), upf mm (n0 - 1) (mm (n0 - 1) + 1), lw, upf sm (n0 - 1) (sm (n0 - 1) + wd (ord k))) := by
      unfold gstep gmid
      rw [pif_f q]
      rfl
    rw [e]
    have hk0 : 0 < k := by
      rcases Int.lt_or_le 0 k with z | z
      · exact z
      · exact absurd (Or.inl (hF (by omega))) q'
    obtain ⟨hn1, i0, j1, j2, j3⟩ := hE hk0
    have hl := hw i0 j1 j2
    refine ⟨h0, fun i a b => ?_, hB, ?_, fun c a b => ?_, fun _ => ⟨hn1, i0, j1, by omega, j3⟩, fun z => by omega⟩
    · show (0 ≤ upf kd (ord k) (n0 - 1) (ord i) ∧ upf kd (ord k) (n0 - 1) (ord i) < n0) ∧ lw (upf kd (ord k) (n0 - 1) (ord i)) ≤ wd (ord i) ∧ wd (ord i) ≤ lw (upf kd (ord k) (n0 - 1) (ord i)) + tol
      by_cases hi : i = k
      · subst hi
        rw [upf_s]
        omega
      · rw [upf_n (hkd i a (by omega))]
        exact hA i a (by omega)
    · show msI (upf mm (n0 - 1) (mm (n0 - 1) + 1)) n0 = k + 1
      have e1 := msI_s (f := upf mm (n0 - 1) (mm (n0 - 1) + 1)) (k := n0 - 1) (by omega)
      have e2 := msI_s (f := mm) (k := n0 - 1) (by omega)
      rw [show n0 - 1 + 1 = n0 by omega] at e1 e2
      rw [e1, upf_s, msI_c (g := mm) (fun j a b => upf_n (by omega))]
      omega
    · have b : c < n0 := b
      show 1 ≤ upf mm (n0 - 1) (mm (n0 - 1) + 1) c ∧ upf mm (n0 - 1) (mm (n0 - 1) + 1) c * lw c ≤ upf sm (n0 - 1) (sm (n0 - 1) + wd (ord k)) c ∧ upf sm (n0 - 1) (sm (n0 - 1) + wd (ord k)) c ≤ upf mm (n0 - 1) (mm (n0 - 1) + 1) c * (lw c + tol)
      have d := hD c a b
      by_cases hc : c = n0 - 1
      · subst hc
        rw [upf_s, upf_s]
        have e1 : (mm (n0 - 1) + 1) * lw (n0 - 1) = mm (n0 - 1) * lw (n0 - 1) + 1 * lw (n0 - 1) := Int.add_mul _ _ _
        have e2 : (mm (n0 - 1) + 1) * (lw (n0 - 1) + tol) = mm (n0 - 1) * (lw (n0 - 1) + tol) + 1 * (lw (n0 - 1) + tol) := Int.add_mul _ _ _
        omega
      · rw [upf_n hc, upf_n hc]
        exact d
theorem giter_inv2 {tol n : Int} {wd ord : Int → Int} {g0 : GS} (ht : 0 ≤ tol) (ho : isOrd n wd ord) (h0 : g0.1 = 0) : ∀ k : Nat, (k : Int) ≤ n → gInv2 tol wd ord k (giter tol wd ord g0 k)
  | 0, _ => ⟨by show 0 ≤ g0.1; omega, fun i a b => by omega, fun c a b => by have : c + 1 < g0.1 := b; omega, by show msI g0.2.2.1 g0.1 = 0; rw [h0]; rfl, fun c a b => by have : c < g0.1 := b; omega, fun z => by omega, fun _ => h0⟩
  | k + 1, hk => by
    have h := giter_inv2 (tol := tol) ht ho h0 k (by omega)
    have := g2_step ht h ho (k := k) ⟨by omega, by omega⟩
    exact this
def GRP (C : Mem) : Prop :=
  (0 ≤ C 24 6 ∧ C 24 6 ≤ C 24 0 ∧ (0 < C 24 0 → 1 ≤ C 24 6)) ∧
  (∀ j, 0 ≤ j → j < C 24 0 → (0 ≤ C 29 j ∧ C 29 j < C 24 6) ∧ C 31 (C 29 j) ≤ C 26 j - C 25 j ∧ C 26 j - C 25 j ≤ C 31 (C 29 j) + C 9 0) ∧
  (∀ c, 0 ≤ c → c + 1 < C 24 6 → C 31 c + C 9 0 < C 31 (c + 1)) ∧
  msI (C 30) (C 24 6) = C 24 0 ∧
  (∀ c, 0 ≤ c → c < C 24 6 → (1 ≤ C 30 c ∧ C 30 c ≤ 8) ∧ (1 ≤ C 31 c ∧ C 31 c ≤ 300) ∧ (0 ≤ C 32 c ∧ C 32 c ≤ 300 * C 30 c) ∧ C 31 c ≤ C 32 c / C 30 c ∧ C 32 c / C 30 c ≤ C 31 c + C 9 0)
theorem CI_grp {C : Mem} (h : CI C) : GRP C := by
  have hnn := CI_n h
  obtain ⟨hB, -, od, ho, ha, hg⟩ := h
  have hmm := hB.2.2.1.1
  have ht : 0 ≤ C 9 0 ∧ C 9 0 ≤ 99 := hB.2.2.1.2.2.2.2.2.1
  have hI : sInv (canC C) (C 6) (C 4 4) (sC C) := siterC_inv (s0 := sC0 C) (canC_x C) hmm.1 rfl 8
  have hw := stC_w hI
  have h0 := hI.1
  have e0 : (sC C).1 = C 24 0 := ha.1
  have hn8 := sInv_n (canC_x C) (canC_g C) hmm.1 hI
  have G1 : gInv (sC C).1 (wS (sC C)) od (sC C).1 (giterI (C 9 0) (wS (sC C)) od (gC0 C) (sC C).1) := giterI_inv (tol := C 9 0) ho hw rfl ⟨h0, Int.le_refl _⟩
  have G2 : gInv2 (C 9 0) (wS (sC C)) od (sC C).1 (giterI (C 9 0) (wS (sC C)) od (gC0 C) (sC C).1) := by
    have q := giter_inv2 (tol := C 9 0) (g0 := gC0 C) ht.1 ho rfl (sC C).1.toNat (by omega)
    rw [show (((sC C).1.toNat : Nat) : Int) = (sC C).1 by omega] at q
    exact q
  generalize giterI (C 9 0) (wS (sC C)) od (gC0 C) (sC C).1 = g at *
  obtain ⟨a1, a2, a3⟩ := hg
  have a1 : g.1 = C 24 6 := a1
  obtain ⟨p1, p2, p3⟩ := G1
  obtain ⟨r0, r1, r2, r3, r4, r5, r6⟩ := G2
  refine ⟨by omega, fun j x y => ?_, fun c x y => ?_, ?_, fun c x y => ?_⟩
  · have y2 : j < (sC C).1 := by omega
    have ej := ha.2 j x y2
    have e1 : (sC C).2.1 j = C 25 j := ej.1
    have e2 : (sC C).2.2.1 j = C 26 j := ej.2.1
    have ew : wS (sC C) j = C 26 j - C 25 j := by unfold wS; rw [e1, e2]
    obtain ⟨i, i1, i2, rfl⟩ := ho.2.2 j x y2
    have s1 := r1 i i1 i2
    have s2 : g.2.1 (od i) = C 29 (od i) := a3 i i1 i2
    have s3 : g.2.2.2.1 (g.2.1 (od i)) = C 31 (g.2.1 (od i)) := (a2 (g.2.1 (od i)) s1.1.1 s1.1.2).2.1
    rw [s3, s2, ew] at s1
    rw [← a1]
    exact s1
  · have s1 := r2 c x (by omega)
    have s2 : g.2.2.2.1 c = C 31 c := (a2 c x (by omega)).2.1
    have s3 : g.2.2.2.1 (c + 1) = C 31 (c + 1) := (a2 (c + 1) (by omega) (by omega)).2.1
    rw [s2, s3] at s1
    exact s1
  · rw [← a1, ← e0, ← r3]
    exact (msI_c (fun j x y => (a2 j x y).1)).symm
  · have y2 : c < g.1 := by omega
    have s1 := r4 c x y2
    have s2 := p2 c x y2
    have s3 := a2 c x y2
    have e1 : g.2.2.1 c = C 30 c := s3.1
    have e2 : g.2.2.2.1 c = C 31 c := s3.2.1
    have e3 : g.2.2.2.2 c = C 32 c := s3.2.2
    rw [e1, e2, e3] at s1 s2
    refine ⟨⟨s1.1, by omega⟩, s2.2.1, ⟨by omega, s2.2.2.2⟩, ?_, ?_⟩
    · exact Int.le_ediv_of_mul_le (by omega) (by rw [Int.mul_comm]; exact s1.2.1)
    · exact Int.ediv_le_of_le_mul (by omega) (by rw [Int.mul_comm]; exact s1.2.2)
theorem CI_lOK {C : Mem} (h : CI C) : lOK (viewC C) := by
  have hI := CI_inv h
  have hn := CI_n h
  have hG := CI_grp h
  have hm := h.1.2.2.1.1
  have h6 := h.1.2.2.1.2.2.1
  obtain ⟨g1, g2, g3, g4, g5⟩ := hG
  refine ⟨by show 0 ≤ C 24 0 ∧ C 24 0 ≤ 8; omega, by show 0 ≤ C 24 6 ∧ C 24 6 ≤ 8; omega, fun j a b => ?_, fun i j a b c => hI.2.2 i j a b c, fun c a b => ?_⟩
  · have b : j < C 24 0 := b
    have p := hI.2.1 j a b
    have w := sInv_w (canC_x C) hI a b
    have e1 : C 25 j = C 6 (C 27 j) := p.2.2.2.1
    have e2 : C 26 j = C 6 (C 28 j) := p.2.2.2.2
    show (0 ≤ C 25 j ∧ C 25 j ≤ 999) ∧ (0 ≤ C 26 j ∧ C 26 j ≤ 999) ∧ C 25 j < C 26 j ∧ (0 ≤ C 29 j ∧ C 29 j < C 24 6)
    refine ⟨by rw [e1]; exact h6 _, by rw [e2]; exact h6 _, w, (g2 j a b).1⟩
  · have q := g5 c a b
    exact ⟨q.1, q.2.1, q.2.2.1⟩
theorem CI_rul {C : Mem} (h : CI C) : rulL (viewC C) := CBo_rul h.1
theorem CI_m {C : Mem} (h : CI C) : 0 ≤ C 4 4 ∧ C 4 4 ≤ 16 := h.1.2.2.1.1
theorem CI_be {C : Mem} (h : CI C) : ∀ j, 0 ≤ j → j < C 24 0 → (0 ≤ C 27 j ∧ C 27 j ≤ 16) ∧ (0 ≤ C 28 j ∧ C 28 j ≤ 16) := by
  intro j a b
  have p := (CI_inv h).2.1 j a b
  have e1 : (stC C).2.2.2.1 j = C 27 j := rfl
  have e2 : (stC C).2.2.2.2 j = C 28 j := rfl
  rw [e1, e2] at p
  have hm := CI_m h
  omega
theorem CI_keep {C K : Mem} (h : CI C) (hk : keepF C K) (ho : kOK K) : CI K := by
  have e : ∀ k, k < 34 → K k = C k := fun k q => hk k (Or.inl q)
  refine ⟨?_, ho, FND_c (by rw [e 4 (by decide)]) (e 5 (by decide)) (e 6 (by decide)) (e 7 (by decide)) (e 8 (by decide)) (e 9 (by decide)) (e 24 (by decide)) (e 25 (by decide)) (e 26 (by decide)) (e 27 (by decide)) (e 28 (by decide)) (e 29 (by decide)) (e 30 (by decide)) (e 31 (by decide)) (e 32 (by decide)) h.2.2⟩
  have hB := h.1
  unfold CBo at hB ⊢
  rw [e 1 (by decide), e 2 (by decide), e 4 (by decide), e 5 (by decide), e 6 (by decide), e 7 (by decide), e 8 (by decide), e 9 (by decide), e 10 (by decide), e 11 (by decide), e 12 (by decide), e 13 (by decide), e 14 (by decide), e 15 (by decide), e 16 (by decide), e 17 (by decide), e 18 (by decide), e 19 (by decide), e 20 (by decide), e 21 (by decide), e 23 (by decide)]
  exact hB
theorem view_keep {C K : Mem} (hk : keepF C K) : viewC K = viewC C := by
  have e : ∀ k, k < 34 → K k = C k := fun k q => hk k (Or.inl q)
  unfold viewC
  rw [e 1 (by decide), e 4 (by decide), e 9 (by decide), e 24 (by decide), e 25 (by decide), e 26 (by decide), e 27 (by decide), e 28 (by decide), e 29 (by decide), e 30 (by decide), e 31 (by decide), e 32 (by decide)]
/-- an edge of a stem is of no other one -/
theorem CI_un {C : Mem} (h : CI C) {u z j : Int} (hz : 0 ≤ z ∧ z < C 24 0) (hj : 0 ≤ j ∧ j < C 24 0) (hne : j ≠ z) (hu : C 27 z = u ∨ C 28 z = u) : C 27 j ≠ u ∧ C 28 j ≠ u :=
  sInv_un (canC_x C) (CI_inv h) (s := stC C) hz hj hne hu
theorem wedge_of {C : Mem} (h : CI C) {u z i : Int} (hw : wedge C u z) (hi : 0 ≤ i ∧ i < C 24 0) (hu : C 27 i = u ∨ C 28 i = u) : z = i := by
  rcases hw with ⟨hz, hw, -⟩ | ⟨-, hno⟩
  · by_cases e : z = i
    · exact e
    · have q := CI_un h hi hz e hu
      rcases hw with w | w
      · exact absurd w q.1
      · exact absurd w q.2
  · have q := hno i hi.1 hi.2
    rcases hu with w | w
    · exact absurd w q.1
    · exact absurd w q.2
