/-! ===== the reference: stems ===== -/
def xR (M : Mem) : Int → Int := fun e => M 1 ((4 * e) + 1)
def sR0 (M : Mem) : ST := (0, M 5, M 6, M 7, M 8)
def cnS (M : Mem) (t : ST) : Int → Int → Prop := fun u d => canR M u d ∧ frR (xR M) t u d
noncomputable def sR (M : Mem) : ST := siter (canR M) frR (xR M) (M 0 1) (sR0 M) 8
def wS (t : ST) (i : Int) : Int := t.2.2.1 i - t.2.1 i
def filn (f : Int → Int) (k : Int) : Int → Int := fun j => if 0 ≤ j ∧ j < k then -6 else f j
theorem filn_0 {f : Int → Int} : filn f 0 = f := by funext j; exact if_neg (by omega)
theorem filn_s {f : Int → Int} {k : Int} (h : 0 ≤ k) : upf (filn f k) k (-6) = filn f (k + 1) := fil_s h
def sof (f : Int → Int) (t : ST) : Nat → Int → Int
  | 0 => f
  | k + 1 => upf (upf (sof f t k) (t.2.2.2.1 k) k) (t.2.2.2.2 k) k
def sofI (f : Int → Int) (t : ST) (k : Int) : Int → Int := sof f t k.toNat
theorem sofI_s {f : Int → Int} {t : ST} {k : Int} (h : 0 ≤ k) : upf (upf (sofI f t k) (t.2.2.2.1 k) k) (t.2.2.2.2 k) k = sofI f t (k + 1) := by
  unfold sofI
  rw [show (k + 1).toNat = k.toNat + 1 by omega]
  show _ = upf (upf (sof f t k.toNat) (t.2.2.2.1 ((k.toNat : Nat) : Int)) ((k.toNat : Nat) : Int)) (t.2.2.2.2 ((k.toNat : Nat) : Int)) ((k.toNat : Nat) : Int)
  rw [show ((k.toNat : Nat) : Int) = k by omega]
def sM (M : Mem) (t : ST) : Mem := sc (sc (sc (sc (sc (sc M 0 (upf (M 0) 11 t.1)) 5 t.2.1) 6 t.2.2.1) 7 t.2.2.2.1) 8 t.2.2.2.2) 10 (sofI (filn (M 10) 16) t t.1)
noncomputable def laid (M : Mem) (ord : Int → Int) : Mem := laidG (sM M (sR M)) ord
theorem sM_0 (M : Mem) : sc M 0 (upf (M 0) 11 0) = sc (sc (sc (sc (sc M 0 (upf (M 0) 11 (sR0 M).1)) 5 (sR0 M).2.1) 6 (sR0 M).2.2.1) 7 (sR0 M).2.2.2.1) 8 (sR0 M).2.2.2.2 := by
  funext j i
  simp only [sR0, sc]
  (repeat' split) <;> simp_all
theorem canR_x (M : Mem) : ∀ u d, canR M u d → xR M u < xR M d := fun u d h => h.1.2.2.1
theorem canR_g (M : Mem) : ∀ u d, canR M u d → (M 1 (4 * u) = 1) ∧ ¬ (M 1 (4 * d) = 1) := fun u d h => ⟨h.1.1, by have := h.1.2.1; omega⟩
theorem sR_b {M : Mem} (hE : ∀ j, 0 ≤ M 1 j ∧ M 1 j ≤ 999) (hm : M 0 1 ≤ 16) {t : ST} (h : sInv (canR M) (xR M) (M 0 1) t) : ∀ j, 0 ≤ j → j < t.1 → (0 ≤ t.2.1 j ∧ t.2.1 j ≤ 999) ∧ (0 ≤ t.2.2.1 j ∧ t.2.2.1 j ≤ 999) ∧ (0 ≤ t.2.2.2.1 j ∧ t.2.2.2.1 j < 16) ∧ (0 ≤ t.2.2.2.2 j ∧ t.2.2.2.2 j < 16) := by
  intro j h1 h2
  obtain ⟨a, b, -, c, d⟩ := h.2.1 j h1 h2
  rw [c, d]
  refine ⟨hE _, hE _, by omega, by omega⟩
theorem pOK_R {cn : Int → Int → Prop} {m b o : Int} (h : pOK cn m (b, o)) : b < 0 ∨ ((0 ≤ b ∧ b < m) ∧ (0 ≤ o ∧ o < m)) := by
  rcases h with h | h
  · have : b = -6 := congrArg Prod.fst h
    left; omega
  · exact Or.inr ⟨h.1, h.2.1⟩
theorem pOK_B {cn : Int → Int → Prop} {m b o : Int} (h : pOK cn m (b, o)) : b = -6 ∨ (0 ≤ b ∧ b < m) := by
  rcases h with h | h
  · exact Or.inl (congrArg Prod.fst h)
  · exact Or.inr h.1
theorem stp_t {cn : Int → Int → Prop} {x : Int → Int} {b : Int × Int} {u d : Int} (h : cn u d ∧ (b.1 < 0 ∨ x d - x u < x b.2 - x b.1 ∨ (x d - x u = x b.2 - x b.1 ∧ x u < x b.1))) : stp cn x b u d = (u, d) := pif_t h
theorem stp_f {cn : Int → Int → Prop} {x : Int → Int} {b : Int × Int} {u d : Int} (h : ¬ (cn u d ∧ (b.1 < 0 ∨ x d - x u < x b.2 - x b.1 ∨ (x d - x u = x b.2 - x b.1 ∧ x u < x b.1)))) : stp cn x b u d = b := pif_f h
theorem ins5_q {x : Int → Int} {t : ST} {b o q : Int} (h : iposI t.2.1 (x b) t.1 = q) : ins5 x t b o = (t.1 + 1, upf (shN t.2.1 q t.1) q (x b), upf (shN t.2.2.1 q t.1) q (x o), upf (shN t.2.2.2.1 q t.1) q b, upf (shN t.2.2.2.2 q t.1) q o) := by
  unfold ins5
  rw [h, shN_i, shN_i, shN_i, shN_i]
theorem ins5_ok {M : Mem} {t : ST} {b o : Int} (hx : ∀ u d, canR M u d → xR M u < xR M d) (hg : ∀ u d, canR M u d → (M 1 (4 * u) = 1) ∧ ¬ (M 1 (4 * d) = 1)) (hm : 0 ≤ M 0 1 ∧ M 0 1 ≤ 16) (hI : sInv (canR M) (xR M) (M 0 1) t) (hp : (b, o) = poutI (cnS M t) (xR M) (M 0 1) (M 0 1)) (hb : 0 ≤ b) : t.1 + 1 ≤ 8 := by
  have h : pOK (cnS M t) (M 0 1) (b, o) := hp ▸ poutI_OK ⟨hm.1, Int.le_refl _⟩
  rcases h with h | h
  · have : b = -6 := congrArg Prod.fst h
    omega
  · have h1 := ins5_inv hx hI h.1 h.2.1 h.2.2.1 ((fr_iff hx hI h.2.2.1).mp h.2.2.2)
    have h2 := sInv_n hx hg hm.1 h1
    have h3 : (ins5 (xR M) t b o).1 = t.1 + 1 := rfl
    have h4 : (ins5 (xR M) t (b, o).1 (b, o).2).1 = t.1 + 1 := rfl
    omega
theorem siter_ins {M : Mem} {t : ST} {k : Nat} {b o : Int} (ht : t = siter (canR M) frR (xR M) (M 0 1) (sR0 M) k) (hp : (b, o) = poutI (cnS M t) (xR M) (M 0 1) (M 0 1)) (hb : 0 ≤ b) : ins5 (xR M) t b o = siter (canR M) frR (xR M) (M 0 1) (sR0 M) (k + 1) := by
  show _ = sstep (canR M) frR (xR M) (M 0 1) (siter (canR M) frR (xR M) (M 0 1) (sR0 M) k)
  rw [← ht]
  have e : pk (canR M) frR (xR M) (M 0 1) t = (b, o) := hp.symm
  unfold sstep
  rw [e, pif_f (by show ¬ b < 0; omega)]
theorem sR_end {M : Mem} {t : ST} {k : Nat} (ht : t = siter (canR M) frR (xR M) (M 0 1) (sR0 M) k) (hk : (k : Int) ≤ 8) (h : (pk (canR M) frR (xR M) (M 0 1) t).1 < 0) : t = sR M := by
  have h1 := siter_fix (k := k) (ht ▸ h) (8 - k)
  unfold sR
  rw [show k + (8 - k) = 8 by omega] at h1
  rw [h1, ht]
theorem sM_w {M : Mem} {t : ST} (hI : sInv (canR M) (xR M) (M 0 1) t) : ∀ j : Int, 0 ≤ j → j < t.1 → 1 ≤ wdR (sM M t) j ∧ wdR (sM M t) j ≤ 300 := by
  intro j h1 h2
  have h3 := sInv_w (canR_x M) hI h1 h2
  obtain ⟨-, -, a, b, c⟩ := hI.2.1 j h1 h2
  have h4 := a.1.2.2.2
  show 1 ≤ t.2.2.1 j - t.2.1 j ∧ t.2.2.1 j - t.2.1 j ≤ 300
  have e1 : xR M (t.2.2.2.1 j) = M 1 ((4 * t.2.2.2.1 j) + 1) := rfl
  have e2 : xR M (t.2.2.2.2 j) = M 1 ((4 * t.2.2.2.2 j) + 1) := rfl
  omega
