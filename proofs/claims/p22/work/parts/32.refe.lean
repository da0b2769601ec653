/-! ===== the reference: classes ===== -/
def wdR (M : Mem) (i : Int) : Int := M 6 i - M 5 i
def fil (f : Int → Int) (k : Int) : Int → Int := fun j => if 0 ≤ j ∧ j < k then -6 else f j
theorem fil_0 {f : Int → Int} : fil f 0 = f := by funext j; exact if_neg (by omega)
theorem fil_s {f : Int → Int} {k : Int} (h : 0 ≤ k) : upf (fil f k) k (-6) = fil f (k + 1) := by
  funext j
  unfold upf fil
  by_cases hj : j = k
  · subst hj; rw [if_pos rfl, if_pos (by omega)]
  · rw [if_neg hj]
    by_cases h1 : 0 ≤ j ∧ j < k
    · rw [if_pos h1, if_pos (by omega)]
    · rw [if_neg h1, if_neg (by omega)]
def gR0 (M : Mem) : GS := (0, fil (M 9) (M 0 11), M 11, M 12, M 13)
noncomputable def gR (M : Mem) (ord : Int → Int) : GS := giterI (M 2 0) (wdR M) ord (gR0 M) (M 0 11)
def lg (M : Mem) (g : GS) : Mem := sc (sc (sc (sc (sc M 0 (upf (M 0) 16 g.1)) 9 g.2.1) 11 g.2.2.1) 12 g.2.2.2.1) 13 g.2.2.2.2
noncomputable def laidG (M : Mem) (ord : Int → Int) : Mem := lg M (gR M ord)
theorem laid_leaf {M : Mem} {ord : Int → Int} {g : GS} {k : Int} (hk : k = M 0 11) (hg : g = giterI (M 2 0) (wdR M) ord (gR0 M) k) : lg M g = laidG M ord := by
  subst hk; subst hg; rfl
theorem lg_0 (M : Mem) : sc (sc M 0 (upf (M 0) 16 0)) 9 (fil (M 9) (M 0 11)) = lg M (gR0 M) := by
  funext j i
  simp only [lg, gR0, sc]
  (repeat' split) <;> simp_all
theorem gR_un {M : Mem} {ord : Int → Int} {k : Int} (ho : isOrd (M 0 11) (wdR M) ord) (hk : 0 ≤ k ∧ k ≤ M 0 11) : ∀ i : Int, k ≤ i → i < M 0 11 → (giterI (M 2 0) (wdR M) ord (gR0 M) k).2.1 (ord i) = -6 := by
  have key : ∀ t : Nat, (t : Int) ≤ M 0 11 → ∀ i : Int, (t : Int) ≤ i → i < M 0 11 → (giter (M 2 0) (wdR M) ord (gR0 M) t).2.1 (ord i) = -6 := by
    intro t
    induction t with
    | zero =>
      intro _ i h1 h2
      have := ho.1 i (by omega) h2
      show fil (M 9) (M 0 11) (ord i) = -6
      unfold fil
      rw [if_pos this]
    | succ t ih =>
      intro ht i h1 h2
      have hm : (gmid (M 2 0) (giter (M 2 0) (wdR M) ord (gR0 M) t) (wdR M (ord t))).2.1 = (giter (M 2 0) (wdR M) ord (gR0 M) t).2.1 := by
        unfold gmid
        by_cases q : gnew (M 2 0) (giter (M 2 0) (wdR M) ord (gR0 M) t) (wdR M (ord t))
        · rw [pif_t q]; rfl
        · rw [pif_f q]
      show upf (gmid (M 2 0) (giter (M 2 0) (wdR M) ord (gR0 M) t) (wdR M (ord t))).2.1 (ord t) _ (ord i) = -6
      rw [upf_n (fun z => ord_ne ho (i := t) (j := i) (by omega) (by omega) h2 z.symm), hm]
      exact ih (by omega) i (by omega) h2
  have := key k.toNat (by omega)
  rw [show ((k.toNat : Nat) : Int) = k by omega] at this
  exact this
theorem gR_R {n k : Int} {wd ord : Int → Int} {g : GS} (hn : n ≤ 8) (hI : gInv n wd ord k g) (ho : isOrd n wd ord) (hun : ∀ i : Int, k ≤ i → i < n → g.2.1 (ord i) = -6) : ∀ j : Int, 0 ≤ j → j < n → -6 ≤ g.2.1 j ∧ g.2.1 j ≤ 8 ∨ n < k := by
  intro j h1 h2
  obtain ⟨t, t1, t2, rfl⟩ := ho.2.2 j h1 h2
  by_cases z : t < k
  · have := hI.2.2 t t1 z
    have := hI.1
    omega
  · have := hun t (by omega) t2
    omega
