/-! ===== bits (the first rows began as the kit's family of bits of an Int32) ===== -/
def bt (x : Int32) (i : Nat) : Bool := x.toBitVec.getLsbD i
theorem b_ext {x y : Int32} (h : ∀ i, i < 32 → bt x i = bt y i) : x = y := Int32.toBitVec_inj.mp (BitVec.eq_of_getLsbD_eq (fun i hi => h i hi))
theorem b_or (x y : Int32) (i : Nat) : bt (x ||| y) i = (bt x i || bt y i) := by unfold bt; rw [Int32.toBitVec_or, BitVec.getLsbD_or]
theorem b_and (x y : Int32) (i : Nat) : bt (x &&& y) i = (bt x i && bt y i) := by unfold bt; rw [Int32.toBitVec_and, BitVec.getLsbD_and]
theorem b_big {x : Int32} {i : Nat} (h : 32 ≤ i) : bt x i = false := BitVec.getLsbD_of_ge _ _ h
theorem b_0 (i : Nat) : bt 0 i = false := BitVec.getLsbD_zero
theorem s_l : ∀ n, n < 32 → ((nI n &&& 31).toBitVec.smod 32).toNat = n := by decide +kernel
theorem b_shl (n : Nat) (hn : n < 32) (x : Int32) {i : Nat} (hi : i < 32) : bt (x <<< (nI n &&& 31)) i = (decide (n ≤ i) && bt x (i - n)) := by
  unfold bt
  rw [Int32.toBitVec_shiftLeft]
  show (x.toBitVec <<< ((nI n &&& 31).toBitVec.smod 32).toNat).getLsbD i = _
  rw [s_l n hn, BitVec.getLsbD_shiftLeft]
  rcases Nat.lt_or_ge i n with h | h
  · simp [h, Nat.not_le.mpr h]
  · simp [hi, h, Nat.not_lt.mpr h]
theorem b_sshr (n : Nat) (hn : n < 32) (x : Int32) {i : Nat} (hi : i < 32) : bt (x >>> (nI n &&& 31)) i = if n + i < 32 then bt x (n + i) else bt x 31 := by
  unfold bt
  rw [Int32.toBitVec_shiftRight]
  show (x.toBitVec.sshiftRight ((nI n &&& 31).toBitVec.smod 32).toNat).getLsbD i = _
  rw [s_l n hn, BitVec.getLsbD_sshiftRight, BitVec.msb_eq_getLsbD_last]
  simp [hi]
theorem b_1 : ∀ i, i < 32 → bt 1 i = decide (i = 0) := by decide +kernel
theorem bit_z (x : Int32) : (x &&& 1).toInt = if bt x 0 then 1 else 0 := by
  cases hb : bt x 0 with
  | true =>
    have e : x &&& 1 = 1 := b_ext (fun i hi => by
      rw [b_and, b_1 i hi]
      by_cases h : i = 0
      · subst h; rw [hb]; rfl
      · simp [h])
    rw [e]; rfl
  | false =>
    have e : x &&& 1 = 0 := b_ext (fun i hi => by
      rw [b_and, b_1 i hi, b_0]
      by_cases h : i = 0
      · subst h; rw [hb]; rfl
      · simp [h])
    rw [e]; rfl
theorem iI_nI {x : Int} (h : 0 ≤ x) : iI x = nI x.toNat := by
  have e : x = ((x.toNat : Nat) : Int) := by omega
  have e2 : Int32.ofNat x.toNat = iI ((x.toNat : Nat) : Int) := by
    first | rfl | exact (Int32.ofInt_eq_ofNat).symm | simp [iI]
  rw [← e] at e2
  exact e2.symm
theorem bit_at {u x : Int} (h : 0 ≤ x ∧ x < 32) : andZ (shrZ u x) 1 = if bt (iI u) x.toNat then 1 else 0 := by
  have e := b_sshr x.toNat (by omega) (iI u) (i := 0) (by omega)
  rw [if_pos (by omega), Nat.add_zero] at e
  unfold andZ shrZ
  rw [iI_s, iI_nI h.1, show iI 1 = (1 : Int32) from rfl, bit_z, e]
theorem bt_or (u v : Int) (i : Nat) : bt (iI (orZ u v)) i = (bt (iI u) i || bt (iI v) i) := by
  unfold orZ
  rw [iI_s, b_or]
theorem bt_one {n : Int} (h : 0 ≤ n ∧ n < 32) {i : Nat} (hi : i < 32) : bt (iI (shlZ 1 n)) i = decide ((i : Int) = n) := by
  unfold shlZ
  rw [iI_s, iI_nI h.1, b_shl n.toNat (by omega) _ hi, show iI 1 = (1 : Int32) from rfl]
  by_cases q : (i : Int) = n
  · rw [decide_eq_true (by omega : n.toNat ≤ i), b_1 _ (by omega), decide_eq_true (by omega : i - n.toNat = 0), decide_eq_true q]; rfl
  · rw [decide_eq_false q]
    by_cases g : n.toNat ≤ i
    · rw [b_1 _ (by omega), decide_eq_false (by omega : ¬ i - n.toNat = 0), Bool.and_false]
    · rw [decide_eq_false g, Bool.false_and]
/-- the edges of the first stems, as bits -/
def usd (M : Mem) (i x : Int) : Prop := ∃ j, (0 ≤ j ∧ j < i) ∧ (M 27 j = x ∨ M 28 j = x)
def Ub (M : Mem) (u i : Int) : Prop := ∀ x, 0 ≤ x → x < 16 → andZ (shrZ u x) 1 = zC (usd M i x)
theorem Ub_0 (M : Mem) : Ub M 0 0 := by
  intro x x0 x1
  rw [bit_at (by omega), show iI 0 = (0 : Int32) from rfl, b_0, zC_f]
  · rfl
  · rintro ⟨j, hj, -⟩
    omega
theorem Ub_s {M : Mem} {u i : Int} (h : Ub M u i) (hi : 0 ≤ i) (ha : 0 ≤ M 27 i ∧ M 27 i < 16) (hb : 0 ≤ M 28 i ∧ M 28 i < 16) : Ub M (orZ u (orZ (shlZ 1 (M 27 i)) (shlZ 1 (M 28 i)))) (i + 1) := by
  intro x x0 x1
  have hx := h x x0 x1
  rw [bit_at (by omega)] at hx ⊢
  rw [bt_or, bt_or, bt_one (by omega) (by omega), bt_one (by omega) (by omega), show ((x.toNat : Nat) : Int) = x by omega]
  by_cases q : usd M (i + 1) x
  · rw [zC_t q]
    obtain ⟨j, hj, hw⟩ := q
    by_cases e : j = i
    · subst e
      rcases hw with hw | hw
      · rw [decide_eq_true hw.symm, Bool.true_or, Bool.or_true]; rfl
      · rw [decide_eq_true hw.symm, Bool.or_true, Bool.or_true]; rfl
    · rw [zC_t ⟨j, by omega, hw⟩] at hx
      cases hb2 : bt (iI u) x.toNat with
      | true => rfl
      | false => rw [hb2] at hx; exact absurd hx (by decide)
  · rw [zC_f q]
    have q1 : ¬ usd M i x := fun ⟨j, hj, hw⟩ => q ⟨j, by omega, hw⟩
    rw [zC_f q1] at hx
    have e1 : ¬ x = M 27 i := fun z => q ⟨i, by omega, Or.inl z.symm⟩
    have e2 : ¬ x = M 28 i := fun z => q ⟨i, by omega, Or.inr z.symm⟩
    rw [decide_eq_false e1, decide_eq_false e2]
    cases hb2 : bt (iI u) x.toNat with
    | true => rw [hb2] at hx; exact absurd hx (by decide)
    | false => rfl
/-! ===== stems, once more: all that the law asks of one ===== -/
theorem CI_stem {C : Mem} (hC : CI C) {j : Int} (h0 : 0 ≤ j) (h1 : j < C 24 0) : ((0 ≤ C 25 j ∧ C 25 j ≤ 999) ∧ (0 ≤ C 26 j ∧ C 26 j ≤ 999) ∧ (0 ≤ C 27 j ∧ C 27 j < C 4 4) ∧ (0 ≤ C 28 j ∧ C 28 j < C 4 4) ∧ (0 ≤ C 29 j ∧ C 29 j < C 24 6) ∧ C 25 j < C 26 j ∧ C 26 j ≤ C 25 j + 300) ∧ (C 5 (C 27 j) = 1 ∧ C 5 (C 28 j) = 0 ∧ C 6 (C 27 j) = C 25 j ∧ C 6 (C 28 j) = C 26 j ∧ C 7 (C 28 j) < C 8 (C 27 j) ∧ C 7 (C 27 j) < C 8 (C 28 j)) ∧ C 31 (C 29 j) ≤ C 26 j - C 25 j ∧ C 26 j - C 25 j ≤ C 31 (C 29 j) + C 9 0 ∧ (C 29 j + 1 < C 24 6 → C 26 j - C 25 j < C 31 (C 29 j + 1)) := by
  have p : (0 ≤ C 27 j ∧ C 27 j < C 4 4) ∧ (0 ≤ C 28 j ∧ C 28 j < C 4 4) ∧ canC C (C 27 j) (C 28 j) ∧ C 25 j = C 6 (C 27 j) ∧ C 26 j = C 6 (C 28 j) := (CI_inv hC).2.1 j h0 h1
  obtain ⟨p1, p2, ⟨⟨c1, c2, c3, c4⟩, c5⟩, p4, p5⟩ := p
  have h6 := hC.1.2.2.1.2.2.1
  have q1 := h6 (C 27 j)
  have q2 := h6 (C 28 j)
  obtain ⟨g1, g2, g3, g4, g5⟩ := CI_grp hC
  have w := g2 j h0 h1
  refine ⟨⟨by omega, by omega, p1, p2, w.1, by omega, by omega⟩, ⟨c1, c2, p4.symm, p5.symm, by omega, by omega⟩, w.2.1, w.2.2, fun z => ?_⟩
  have := g3 (C 29 j) w.1.1 z
  omega
theorem CI_apart {C : Mem} (hC : CI C) {i j : Int} (h0 : 0 ≤ i) (h1 : i < j) (h2 : j < C 24 0) : C 26 i < C 25 j := (CI_inv hC).2.2 i j h0 h1 h2
theorem CI_edge {C : Mem} (hC : CI C) (u : Int) : (0 ≤ C 5 u ∧ C 5 u ≤ 999) ∧ (0 ≤ C 6 u ∧ C 6 u ≤ 999) ∧ (0 ≤ C 7 u ∧ C 7 u ≤ 999) ∧ (0 ≤ C 8 u ∧ C 8 u ≤ 999) :=
  ⟨hC.1.2.2.1.2.1 u, hC.1.2.2.1.2.2.1 u, hC.1.2.2.1.2.2.2.1 u, hC.1.2.2.1.2.2.2.2.1 u⟩
theorem CI_r0 {C : Mem} (hC : CI C) : 0 ≤ C 9 0 ∧ C 9 0 ≤ 99 := hC.1.2.2.1.2.2.2.2.2.1
theorem CI_free {C : Mem} (hC : CI C) {i : Int} (h0 : 0 ≤ i) (h1 : i < C 24 0) : ¬ usd C i (C 27 i) ∧ ¬ usd C i (C 28 i) := by
  constructor
  · rintro ⟨j, hj, hw⟩
    have q := CI_un hC (u := C 27 i) (z := i) (j := j) ⟨h0, h1⟩ (by omega) (by omega) (Or.inl rfl)
    rcases hw with w | w
    · exact q.1 w
    · exact q.2 w
  · rintro ⟨j, hj, hw⟩
    have q := CI_un hC (u := C 28 i) (z := i) (j := j) ⟨h0, h1⟩ (by omega) (by omega) (Or.inr rfl)
    rcases hw with w | w
    · exact q.1 w
    · exact q.2 w
/-- of an edge: its stem, or none, and its bit -/
theorem wedge_bit {C : Mem} {x z u : Int} (hw : wedge C x z) (hU : Ub C u (C 24 0)) (hx : 0 ≤ x ∧ x < 16) : ((0 ≤ z ∧ z < C 24 0) ∧ andZ (shrZ u x) 1 = 1) ∨ (z = -6 ∧ andZ (shrZ u x) 1 = 0) := by
  have e := hU x hx.1 hx.2
  rcases hw with ⟨hz, hw, -⟩ | ⟨hz, hno⟩
  · refine Or.inl ⟨hz, ?_⟩
    rw [e]
    exact zC_t ⟨z, hz, hw⟩
  · refine Or.inr ⟨hz, ?_⟩
    rw [e]
    refine zC_f ?_
    rintro ⟨j, hj, hw⟩
    have q := hno j hj.1 hj.2
    rcases hw with w | w
    · exact q.1 w
    · exact q.2 w
theorem wedge_R {C : Mem} {x z : Int} (hw : wedge C x z) : z = -6 ∨ (0 ≤ z ∧ z < C 24 0) := by
  rcases hw with ⟨hz, -, -⟩ | ⟨hz, -⟩
  · exact Or.inr hz
  · exact Or.inl hz
theorem BI_keep {C K : Mem} {k : Int} (h : BI C k) (hk : keepF C K) (ho : kOK K) : BI K k := by
  obtain ⟨hC, h4, h44, h9⟩ := h
  refine ⟨CI_keep hC hk ho, ?_, ?_, fun i a b => ?_⟩
  · rw [hk 4 (Or.inl (by decide))]; exact h4
  · rw [hk 44 (Or.inr (by decide))]; exact h44
  · rw [hk 9 (Or.inl (by decide)), hk 44 (Or.inr (by decide))]
    exact h9 i a b
/-! ===== places, within bounds ===== -/
section PLB
variable {n : Int} {lf rt ld w : Int → Int} {sz : Int}
theorem plR_hi (h : plOK n lf rt ld w) (hz : 1 ≤ sz ∧ sz ≤ 60) (hb : ∀ s, 0 ≤ s → s < n → 0 ≤ rt s ∧ ld s + w s ≤ sz) {x : Int} (hx : x ≤ 999) : ∀ (d : Nat) (s : Int), 0 ≤ s → s + d = n → 0 < d → lf s ≤ x → plR n x lf rt ld w sz (n - s).toNat s ≤ 120000
  | 0, s, h0, h1, h2, h3 => by omega
  | d + 1, s, h0, h1, h2, h3 => by
    have hs := h.1 s h0 (by omega)
    have hbs := hb s h0 (by omega)
    rcases Int.lt_or_le (rt s) x with c | c
    · by_cases g : s + 1 < n ∧ x < lf (s + 1)
      · have hs1 := h.2 s h0 g.1
        have hb1 := hb (s + 1) (by omega) g.1
        have hw1 := h.1 (s + 1) (by omega) g.1
        rw [plR_g ⟨h0, by omega⟩ c g]
        have := td_in (x := x - rt s) (a := 1000 * (ld s + w s)) (b := 1000 * ld (s + 1)) (D := lf (s + 1) - rt s) (by omega) (by omega) (by omega)
        omega
      · rw [plR_c ⟨h0, by omega⟩ c g]
        by_cases e : s + 1 < n
        · exact plR_hi h hz hb hx d (s + 1) (by omega) (by omega) (by omega) (by omega)
        · have e2 : s + 1 = n := by omega
          rw [e2, plR_t, show n - 1 = s by omega]
          have := mul_R (x := x - rt s) (y := sz) (A := 999) (B := 60) (by omega) (by omega)
          omega
    · rw [plR_a ⟨h0, by omega⟩ c]
      have := td_in (x := x - lf s) (a := 1000 * ld s) (b := 1000 * (ld s + w s)) (D := rt s - lf s) (by omega) (by omega) (by omega)
      omega
theorem plF_R (h : plOK n lf rt ld w) (hn : 0 ≤ n) (hz : 1 ≤ sz ∧ sz ≤ 60) (hb : ∀ s, 0 ≤ s → s < n → 0 ≤ rt s ∧ ld s + w s ≤ sz) (hl : ∀ s, 0 ≤ s → s < n → lf s ≤ 999 ∧ 0 ≤ ld s) {x : Int} (hx : 0 ≤ x ∧ x ≤ 999) : -60000 ≤ plF n x lf rt ld w sz ∧ plF n x lf rt ld w sz ≤ 120000 := by
  by_cases c : n = 0
  · rw [plF_a c]
    have := mul_R (x := x) (y := sz) (A := 999) (B := 60) (by omega) (by omega)
    omega
  · have l0 := hl 0 (by omega) (by omega)
    have b0 := hb 0 (by omega) (by omega)
    have w0 := h.1 0 (by omega) (by omega)
    rcases Int.lt_or_le (lf 0) x with a | a
    · rw [plF_c (by omega) a]
      have p1 := (plR_lo h (by omega) (sz := sz) (x := x) n.toNat 0 (by omega) (by omega) (by omega) (by omega)).1
      have p2 := plR_hi h hz hb hx.2 n.toNat 0 (by omega) (by omega) (by omega) (by omega)
      omega
    · rw [plF_b c a]
      have := mul_R (x := lf 0 - x) (y := sz) (A := 999) (B := 60) (by omega) (by omega)
      omega
end PLB
