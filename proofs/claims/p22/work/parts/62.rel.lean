/-! ===== the class's memory beside the reference's: the relation ===== -/
def rulB (r : Int → Int) : Prop := (0 ≤ r 0 ∧ r 0 ≤ 99) ∧ (0 ≤ r 1 ∧ r 1 ≤ 9) ∧ (0 ≤ r 2 ∧ r 2 ≤ 9) ∧ (0 ≤ r 3 ∧ r 3 ≤ 3) ∧ (0 ≤ r 4 ∧ r 4 ≤ 3)
def LBf (n : Int) (u x lo hi r : Int → Int) : Prop := (0 ≤ n ∧ n ≤ 16) ∧ (∀ j, 0 ≤ u j ∧ u j ≤ 999) ∧ (∀ j, 0 ≤ x j ∧ x j ≤ 999) ∧ (∀ j, 0 ≤ lo j ∧ lo j ≤ 999) ∧ (∀ j, 0 ≤ hi j ∧ hi j ≤ 999) ∧ rulB r
/-- what holds of the class's numbers -/
def CBo (C : Mem) : Prop := (0 ≤ C 1 1 ∧ C 1 1 ≤ 30) ∧ (∀ j, 0 ≤ C 2 j ∧ C 2 j ≤ 126) ∧ LBf (C 4 4) (C 5) (C 6) (C 7) (C 8) (C 9) ∧ LBf (C 10 4) (C 11) (C 12) (C 13) (C 14) (C 15) ∧ LBf (C 16 4) (C 17) (C 18) (C 19) (C 20) (C 21) ∧ ∀ j, 0 ≤ C 23 j ∧ C 23 j ≤ 1
def PADr (C R : Mem) : Prop := C 1 1 = R 0 3 ∧ C 2 = R 3
def EDG (C R : Mem) : Prop := C 4 4 = R 0 1 ∧ (∀ u, C 5 u = R 1 (4 * u) ∧ C 6 u = R 1 ((4 * u) + 1) ∧ C 7 u = R 1 ((4 * u) + 2) ∧ C 8 u = R 1 ((4 * u) + 3)) ∧ C 9 = R 2
def IMf (n : Int) (u x lo hi r g : Int → Int) (o : Int) : Prop := n = g (o + 69) ∧ (∀ j, 0 ≤ j → j < 16 → u j = g (o + 4 * j) ∧ x j = g (o + (4 * j + 1)) ∧ lo j = g (o + (4 * j + 2)) ∧ hi j = g (o + (4 * j + 3))) ∧ ∀ j, 0 ≤ j → j < 5 → r j = g (o + 64 + j)
def IMG (C R : Mem) : Prop := C 23 = R 18 ∧ (C 23 0 ≠ 0 → IMf (C 10 4) (C 11) (C 12) (C 13) (C 14) (C 15) (R 17) (70 * 0)) ∧ (C 23 1 ≠ 0 → IMf (C 16 4) (C 17) (C 18) (C 19) (C 20) (C 21) (R 17) (70 * 1))
/-- the class's stems and classes are those of its edges and rules -/
def FND (C : Mem) : Prop := ∃ od : Int → Int, isOrd (sC C).1 (wS (sC C)) od ∧ agree (sC C) (stC C) ∧ gAgree od (sC C).1 (giterI (C 9 0) (wS (sC C)) od (gC0 C) (sC C).1) (C 24 6, C 29, C 30, C 31, C 32)
def REL (C R : Mem) : Prop := CBo C ∧ kOK C ∧ PADr C R ∧ EDG C R ∧ IMG C R ∧ FND C
theorem canC_c {C K : Mem} (h5 : K 5 = C 5) (h6 : K 6 = C 6) (h7 : K 7 = C 7) (h8 : K 8 = C 8) : canC K = canC C := by
  funext u d
  unfold canC
  rw [h5, h6, h7, h8]
theorem sC_agree {C K : Mem} (h4 : K 4 4 = C 4 4) (h5 : K 5 = C 5) (h6 : K 6 = C 6) (h7 : K 7 = C 7) (h8 : K 8 = C 8) (hm : 0 ≤ C 4 4) : agree (sC C) (sC K) := by
  have a := (siter_both (s0 := sC0 C) (t0 := sC0 C) (canC_x C) hm rfl rfl 8).2
  have b := (siter_both (s0 := sC0 C) (t0 := sC0 K) (canC_x C) hm rfl rfl 8).2
  have e : sC K = siter (canC C) frC (C 6) (C 4 4) (sC0 K) 8 := by
    unfold sC
    rw [canC_c h5 h6 h7 h8, h6, h4]
  rw [e]
  exact agree_tr (agree_sym a) b
theorem FND_c {C K : Mem} (h4 : K 4 4 = C 4 4) (h5 : K 5 = C 5) (h6 : K 6 = C 6) (h7 : K 7 = C 7) (h8 : K 8 = C 8) (h9 : K 9 = C 9) (h24 : K 24 = C 24) (h25 : K 25 = C 25) (h26 : K 26 = C 26) (h27 : K 27 = C 27) (h28 : K 28 = C 28) (h29 : K 29 = C 29) (h30 : K 30 = C 30) (h31 : K 31 = C 31) (h32 : K 32 = C 32) (h : FND C) : FND K := by
  have hs : sC K = sC C := by
    unfold sC sC0
    rw [canC_c h5 h6 h7 h8, h6, h4, h25, h26, h27, h28]
  have ht : stC K = stC C := by
    unfold stC
    rw [h24, h25, h26, h27, h28]
  have hg : gC0 K = gC0 C := by
    unfold gC0
    rw [h29, h30, h31, h32]
  unfold FND
  rw [hs, ht, hg, h9, h24, h29, h30, h31, h32]
  exact h
theorem gAgree_tr {ord : Int → Int} {k : Int} {g q r : GS} (h : gAgree ord k g q) (h2 : gAgree ord k q r) : gAgree ord k g r :=
  ⟨h.1.trans h2.1, fun c a b => by
    have x := h.2.1 c a b
    have y := h2.2.1 c a (by rw [← h.1]; exact b)
    exact ⟨x.1.trans y.1, x.2.1.trans y.2.1, x.2.2.trans y.2.2⟩, fun i a b => (h.2.2 i a b).trans (h2.2.2 i a b)⟩
theorem gAgree_sym {ord : Int → Int} {k : Int} {g q : GS} (h : gAgree ord k g q) : gAgree ord k q g :=
  ⟨h.1.symm, fun c a b => by
    have x := h.2.1 c a (by rw [h.1]; exact b)
    exact ⟨x.1.symm, x.2.1.symm, x.2.2.symm⟩, fun i a b => (h.2.2 i a b).symm⟩
theorem rn_FND {M N : Mem} (hm : 0 ≤ M 4 4) (h : rnQ M N) : FND N := by
  obtain ⟨od, f, ho, rfl, -, -⟩ := h
  have hI : sInv (canC M) (M 6) (M 4 4) (sC M) := siterC_inv (s0 := sC0 M) (canC_x M) hm rfl 8
  have ha : agree (sC M) (sC (sc (foundM M od) 37 f)) := sC_agree rfl rfl rfl rfl rfl hm
  have hl := lay_same (tol := M 9 0) (g0 := gC0 M) (q0 := gC0 (sc (foundM M od) 37 f)) hI.1 ha (stC_w hI) ho rfl rfl
  refine ⟨od, hl.1, agree_sym ha, ?_⟩
  have h2 := gAgree_sym hl.2
  rw [ha.1] at h2
  have e : giterI (M 9 0) (wS (sC M)) od (gC0 M) (sC (sc (foundM M od) 37 f)).1 = giterI (M 9 0) (wS (sC M)) od (gC0 M) (sC M).1 := by rw [ha.1]
  rw [e] at h2
  exact h2
theorem rn_kOK {M N : Mem} (hk : ∀ j, 0 ≤ M 37 j ∧ M 37 j ≤ 1) (h : rnQ M N) : kOK N := by
  obtain ⟨od, f, ho, rfl, h0, h1⟩ := h
  refine ⟨fun j => ?_, fun t a b c => absurd (h0 t (by omega) b) c⟩
  show 0 ≤ f j ∧ f j ≤ 1
  rcases h1 j with q | q
  · omega
  · rw [q]; exact hk j
theorem REL_rn {M N R : Mem} (hB : CBo M) (hk : ∀ j, 0 ≤ M 37 j ∧ M 37 j ≤ 1) (hP : PADr M R) (hE : EDG M R) (hI : IMG M R) (h : rnQ M N) : REL N R := by
  have h1 := rn_FND hB.2.2.1.1.1 h
  have h2 := rn_kOK hk h
  obtain ⟨od, f, ho, rfl, -, -⟩ := h
  exact ⟨hB, h2, hP, hE, hI, h1⟩
theorem REL_lay {C R : Mem} (h : REL C R) : ∃ ord : Int → Int, isOrd (sR R).1 (wS (sR R)) ord ∧ same (laid R ord) (viewC C) ∧ agree (sR R) (stC C) := by
  obtain ⟨hB, hk, hP, hE, hI, od, ho, ha, hg⟩ := h
  have hm : 0 ≤ C 4 4 := hB.2.2.1.1.1
  have ec : canR R = canC C := by
    funext u d
    unfold canR canC
    have p := hE.2.1 u
    have q := hE.2.1 d
    rw [p.1, p.2.1, p.2.2.1, p.2.2.2, q.1, q.2.1, q.2.2.1, q.2.2.2]
  have ex : xR R = C 6 := by
    funext e
    exact (hE.2.1 e).2.1.symm
  have es : sR R = siter (canC C) frR (C 6) (C 4 4) (sR0 R) 8 := by
    unfold sR
    rw [ec, ex, hE.1]
  have h1 : agree (sR R) (sC C) := by
    rw [es]
    exact (siter_both (s0 := sR0 R) (t0 := sC0 C) (canC_x C) hm rfl rfl 8).2
  have hI0 : sInv (canC C) (C 6) (C 4 4) (sC C) := siterC_inv (s0 := sC0 C) (canC_x C) hm rfl 8
  have hl := lay_same (tol := C 9 0) (g0 := gC0 C) (q0 := gR0 (sM R (sR R))) hI0.1 (agree_sym h1) (stC_w hI0) ho rfl rfl
  have key := gAgree_tr (gAgree_sym hl.2) hg
  rw [← h1.1] at key
  have e : gR (sM R (sR R)) od = giterI (C 9 0) (wS (sR R)) od (gR0 (sM R (sR R))) (sR R).1 := by
    show giterI (R 2 0) (wS (sR R)) od (gR0 (sM R (sR R))) (sR R).1 = _
    rw [hE.2.2]
  have hg2 : gAgree od (sR R).1 (gR (sM R (sR R)) od) (C 24 6, C 29, C 30, C 31, C 32) := by
    rw [e]
    exact key
  exact ⟨od, hl.1, same_of (s := sR R) (t := stC C) (g := gR (sM R (sR R)) od) (q := (C 24 6, C 29, C 30, C 31, C 32)) rfl rfl rfl rfl rfl rfl rfl rfl rfl rfl rfl rfl rfl rfl rfl rfl rfl rfl rfl rfl (agree_tr h1 ha) hl.1 hg2 hE.1 hP.1 (fun w _ _ => by show C 9 w = R 2 w; rw [hE.2.2]), agree_tr h1 ha⟩
theorem REL_ref {C R : Mem} (h : REL C R) : refOK R := by
  obtain ⟨hB, hk, hP, hE, hI, hF⟩ := h
  obtain ⟨-, -, ⟨hm, h5, h6, h7, h8, r0, r1, r2, r3, r4⟩, -⟩ := hB
  rw [hE.2.2] at r0 r1 r2 r3 r4
  rw [hE.1] at hm
  refine ⟨hm, fun j => ?_, r0, r1, r2, r3, r4⟩
  have p := hE.2.1 (j / 4)
  rcases (show j % 4 = 0 ∨ j % 4 = 1 ∨ j % 4 = 2 ∨ j % 4 = 3 by omega) with q | q | q | q
  · have := h5 (j / 4)
    rw [p.1, show 4 * (j / 4) = j by omega] at this
    exact this
  · have := h6 (j / 4)
    rw [p.2.1, show 4 * (j / 4) + 1 = j by omega] at this
    exact this
  · have := h7 (j / 4)
    rw [p.2.2.1, show 4 * (j / 4) + 2 = j by omega] at this
    exact this
  · have := h8 (j / 4)
    rw [p.2.2.2, show 4 * (j / 4) + 3 = j by omega] at this
    exact this
theorem same_lOK {L V : Mem} (h : lOK L) (hs : same L V) : lOK V := by
  obtain ⟨⟨a1, a2, a3, a4⟩, b, c, d⟩ := hs
  refine ⟨by rw [a1]; exact h.1, by rw [a2]; exact h.2.1, fun j x y => ?_, fun i j x y z => ?_, fun k x y => ?_⟩
  · rw [a1] at y
    have p := h.2.2.1 j x y
    have q := b j x y
    rw [q.1, q.2.1, q.2.2.2.2, a2]
    exact p
  · rw [a1] at z
    rw [(b i x (by omega)).2.1, (b j (by omega) z).1]
    exact h.2.2.2.1 i j x y z
  · rw [a2] at y
    have q := c k x y
    rw [q.1, q.2.1, q.2.2]
    exact h.2.2.2.2 k x y
theorem CBo_rul {C : Mem} (h : CBo C) : rulL (viewC C) := h.2.2.1.2.2.2.2.2.2
/-! ===== which stem an edge is of ===== -/
theorem sof_no {f : Int → Int} {t : ST} : ∀ (k : Nat) (u : Int), (∀ j : Int, 0 ≤ j → j < k → t.2.2.2.1 j ≠ u ∧ t.2.2.2.2 j ≠ u) → sof f t k u = f u
  | 0, u, h => rfl
  | k + 1, u, h => by
    have a := h k (by omega) (by omega)
    show upf (upf (sof f t k) (t.2.2.2.1 (k : Int)) (k : Int)) (t.2.2.2.2 (k : Int)) (k : Int) u = f u
    rw [upf_n (Ne.symm a.2), upf_n (Ne.symm a.1)]
    exact sof_no k u (fun j x y => h j x (by omega))
theorem sof_at {f : Int → Int} {t : ST} {u z : Int} (hz : 0 ≤ z) (h : t.2.2.2.1 z = u ∨ t.2.2.2.2 z = u) : ∀ (k : Nat), z < (k : Int) → (∀ j : Int, 0 ≤ j → j < (k : Int) → j ≠ z → t.2.2.2.1 j ≠ u ∧ t.2.2.2.2 j ≠ u) → sof f t k u = z
  | 0, hk, _ => by omega
  | k + 1, hk, hn => by
    show upf (upf (sof f t k) (t.2.2.2.1 (k : Int)) (k : Int)) (t.2.2.2.2 (k : Int)) (k : Int) u = z
    by_cases e : (k : Int) = z
    · rw [e]
      by_cases q : t.2.2.2.2 z = u
      · rw [q, upf_s]
      · rw [upf_n (Ne.symm q)]
        rcases h with h | h
        · rw [h, upf_s]
        · exact absurd h q
    · have a := hn k (by omega) (by omega) e
      rw [upf_n (Ne.symm a.2), upf_n (Ne.symm a.1)]
      exact sof_at hz h k (by omega) (fun j x y w => hn j x (by omega) w)
theorem sInv_un {cn : Int → Int → Prop} {x : Int → Int} {m : Int} (hx : ∀ u d, cn u d → x u < x d) {s : ST} (h : sInv cn x m s) {u z j : Int} (hz : 0 ≤ z ∧ z < s.1) (hj : 0 ≤ j ∧ j < s.1) (hne : j ≠ z) (hu : s.2.2.2.1 z = u ∨ s.2.2.2.2 z = u) : s.2.2.2.1 j ≠ u ∧ s.2.2.2.2 j ≠ u := by
  obtain ⟨-, -, -, a1, a2⟩ := h.2.1 z hz.1 hz.2
  obtain ⟨-, -, -, b1, b2⟩ := h.2.1 j hj.1 hj.2
  have wz := sInv_w hx h hz.1 hz.2
  have wj := sInv_w hx h hj.1 hj.2
  have o : s.2.2.1 j < s.2.1 z ∨ s.2.2.1 z < s.2.1 j := by
    rcases Int.lt_or_gt_of_ne hne with q | q
    · exact Or.inl (h.2.2 j z hj.1 q hz.2)
    · exact Or.inr (h.2.2 z j hz.1 q hj.2)
  have xu : x u = s.2.1 z ∨ x u = s.2.2.1 z := by
    rcases hu with q | q
    · left; rw [a1, q]
    · right; rw [a2, q]
  constructor
  · intro e
    rw [e] at b1
    omega
  · intro e
    rw [e] at b2
    omega
theorem told_4 {C R : Mem} {ord : Int → Int} (hm : 0 ≤ R 0 1) (ha : agree (sR R) (stC C)) {u z : Int} (hu : 0 ≤ u ∧ u < 16) (h : wedge C u z) : laid R ord 10 u = z := by
  have hI := sR_inv hm
  show sof (filn (R 10) 16) (sR R) (sR R).1.toNat u = z
  have h0 := hI.1
  have e1 : (sR R).1 = C 24 0 := ha.1
  have hU : ∀ j, 0 ≤ j → j < (sR R).1 → (sR R).2.2.2.1 j = C 27 j ∧ (sR R).2.2.2.2 j = C 28 j := fun j a b => ⟨(ha.2 j a b).2.2.1, (ha.2 j a b).2.2.2⟩
  rcases h with ⟨hz, hw, -⟩ | ⟨rfl, hno⟩
  · have hz' : z < (sR R).1 := by rw [e1]; exact hz.2
    have q := hU z hz.1 hz'
    rw [← q.1, ← q.2] at hw
    exact sof_at hz.1 hw _ (by omega) (fun j a b c => sInv_un (canR_x R) hI ⟨hz.1, hz'⟩ ⟨a, by omega⟩ c hw)
  · rw [sof_no]
    · unfold filn
      rw [if_pos hu]
    · intro j a b
      have q := hU j a (by omega)
      rw [q.1, q.2]
      exact hno j a (by rw [← e1]; omega)
theorem told_eq {C R : Mem} {ord : Int → Int} (hR : refOK R) (hE : EDG C R) (ha : agree (sR R) (stC C)) {u w z z2 : Int} (h : tldQ C u w z) (h2 : z2 = toldZ (laid R ord) u w) : z = z2 := by
  rw [h2]
  have hl := hR.1
  show z = if 0 ≤ u ∧ u ≤ R 0 1 - 1 then (if 0 ≤ w ∧ w ≤ 4 then (if w < 4 then R 1 ((4 * u) + w) else laid R ord 10 u) else -2) else -1
  by_cases c : 0 ≤ u ∧ u ≤ R 0 1 - 1
  · rw [if_pos c]
    have k := h.2 (by rw [hE.1]; exact c)
    have g := hE.2.1 u
    by_cases d : 0 ≤ w ∧ w ≤ 4
    · rw [if_pos d]
      by_cases e : w < 4
      · rw [if_pos e]
        rcases (show w = 0 ∨ w = 1 ∨ w = 2 ∨ w = 3 by omega) with rfl | rfl | rfl | rfl
        · rw [k.1 rfl, g.1, Int.add_zero]
        · rw [k.2.1 rfl, g.2.1]
        · rw [k.2.2.1 rfl, g.2.2.1]
        · rw [k.2.2.2.1 rfl, g.2.2.2]
      · rw [if_neg e]
        obtain rfl : w = 4 := by omega
        exact (told_4 hl.1 ha (by omega) (k.2.2.2.2.1 rfl)).symm
    · rw [if_neg d]
      exact k.2.2.2.2.2 d
  · rw [if_neg c]
    exact h.1 (by rw [hE.1]; exact c)
theorem stem_b {C R : Mem} (hR : refOK R) (ha : agree (sR R) (stC C)) : ∀ j, 0 ≤ j → j < C 24 0 → (0 ≤ C 27 j ∧ C 27 j ≤ 16) ∧ (0 ≤ C 28 j ∧ C 28 j ≤ 16) := by
  intro j a b
  have hI := sR_inv hR.1.1
  have e1 : (sR R).1 = C 24 0 := ha.1
  have b' : j < (sR R).1 := by rw [e1]; exact b
  have q := ha.2 j a b'
  have p := hI.2.1 j a b'
  have m := hR.1.2
  have u1 : (sR R).2.2.2.1 j = C 27 j := q.2.2.1
  have u2 : (sR R).2.2.2.2 j = C 28 j := q.2.2.2
  rw [u1, u2] at p
  omega

