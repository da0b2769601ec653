/-! ===== the pad's text: faults and numbers ===== -/
def upz (p : Int → Int) : Int := if p 0 = 117 then 1 else 0
def isF (p : Int → Int) (n i : Int) : Prop := i < n ∧ (48 ≤ p i ∧ p i ≤ 57)
noncomputable def fg (p : Int → Int) (n t : Int) : Int := pif (isF p n t) (pif (isF p n (t + 1)) (pif (isF p n (t + 2)) 3 2) 1) 0
def vz (p : Int → Int) (t : Int) : Nat → Int
  | 0 => 0
  | k + 1 => (10 * vz p t k + p (t + k)) - 48
def vI (p : Int → Int) (t k : Int) : Int := vz p t k.toNat
theorem vI_s {p : Int → Int} {t k : Int} (h : 0 ≤ k) : vI p t (k + 1) = (10 * vI p t k + p (t + k)) - 48 := by
  unfold vI
  rw [show (k + 1).toNat = k.toNat + 1 by omega]
  show (10 * vz p t k.toNat + p (t + (k.toNat : Int))) - 48 = _
  rw [show ((k.toNat : Nat) : Int) = k by omega]
theorem isF_s {p : Int → Int} {n t k : Int} (h : ∀ j, 0 ≤ j → j < k → isF p n (t + j)) (hk : isF p n (t + k)) : ∀ j, 0 ≤ j → j < k + 1 → isF p n (t + j) := by
  intro j h1 h2
  by_cases hj : j = k
  · subst hj; exact hk
  · exact h j h1 (by omega)
theorem vz_R {p : Int → Int} {n t : Int} : ∀ (k : Nat), (∀ j : Int, 0 ≤ j → j < k → isF p n (t + j)) → 0 ≤ vz p t k ∧ vz p t k < 10 ^ k
  | 0, _ => by simp [vz]
  | k + 1, h => by
    have h1 := vz_R k (fun j h1 h2 => h j h1 (by omega))
    have h2 := (h k (by omega) (by omega)).2
    have e : (10 : Int) ^ (k + 1) = 10 ^ k * 10 := Int.pow_succ 10 k
    rw [e]
    show 0 ≤ (10 * vz p t k + p (t + k)) - 48 ∧ (10 * vz p t k + p (t + k)) - 48 < 10 ^ k * 10
    omega
theorem vI_R {p : Int → Int} {n t k x : Int} (hk : 0 ≤ k ∧ k ≤ 3) (h3 : k < 3) (h0 : 0 ≤ t) (hal : ∀ j, 0 ≤ j → j < k → isF p n (t + j)) (hx : 48 ≤ p x ∧ p x ≤ 57) (ht : x = t + k) : 0 ≤ vI p t (k + 1) ∧ vI p t (k + 1) ≤ 1000 := by
  have h1 := vz_R k.toNat (fun j h1 h2 => hal j h1 (by omega))
  rw [vI_s hk.1, ← ht]
  have hc : k = 0 ∨ k = 1 ∨ k = 2 := by omega
  unfold vI
  rcases hc with rfl | rfl | rfl
  · have h4 : (10 : Int) ^ (0 : Int).toNat = 1 := rfl
    rw [h4] at h1; omega
  · have h4 : (10 : Int) ^ (1 : Int).toNat = 10 := rfl
    rw [h4] at h1; omega
  · have h4 : (10 : Int) ^ (2 : Int).toNat = 100 := rfl
    rw [h4] at h1; omega
theorem fg_is {p : Int → Int} {n t k : Int} (hk : 0 ≤ k ∧ k ≤ 3) (hal : ∀ j, 0 ≤ j → j < k → isF p n (t + j)) (hs : k = 3 ∨ ¬ isF p n (t + k)) : fg p n t = k := by
  unfold fg
  have hc : k = 0 ∨ k = 1 ∨ k = 2 ∨ k = 3 := by omega
  rcases hc with rfl | rfl | rfl | rfl
  · rw [pif_f]
    rcases hs with h | h
    · exact absurd h (by decide)
    · simpa using h
  · have h0 := hal 0 (by decide) (by decide)
    rw [pif_t (by simpa using h0), pif_f]
    rcases hs with h | h
    · exact absurd h (by decide)
    · exact h
  · have h0 := hal 0 (by decide) (by decide)
    have h1 := hal 1 (by decide) (by decide)
    rw [pif_t (by simpa using h0), pif_t h1, pif_f]
    rcases hs with h | h
    · exact absurd h (by decide)
    · exact h
  · have h0 := hal 0 (by decide) (by decide)
    have h1 := hal 1 (by decide) (by decide)
    have h2 := hal 2 (by decide) (by decide)
    rw [pif_t (by simpa using h0), pif_t h1, pif_t h2]
theorem fg_0 {p : Int → Int} {n t : Int} (h : ¬ isF p n t) : fg p n t = 0 := pif_f h
theorem fg_R (p : Int → Int) (n t : Int) : 0 ≤ fg p n t ∧ fg p n t ≤ 3 := by
  unfold fg pif
  repeat' split
  all_goals omega
theorem fg_p {p : Int → Int} {n t : Int} (h : isF p n t) : fg p n t ≠ 0 := by
  unfold fg
  rw [pif_t h]
  unfold pif
  repeat' split
  all_goals omega
theorem fg_le {p : Int → Int} {n t : Int} (h : t ≤ n) : t + fg p n t ≤ n := by
  unfold fg
  by_cases h1 : isF p n t
  · rw [pif_t h1]
    by_cases h2 : isF p n (t + 1)
    · rw [pif_t h2]
      by_cases h3 : isF p n (t + 2)
      · rw [pif_t h3]; have := h3.1; omega
      · rw [pif_f h3]; have := h2.1; omega
    · rw [pif_f h2]; have := h1.1; omega
  · rw [pif_f h1]; omega
noncomputable def pe1 (p : Int → Int) (n : Int) : Int := 1 + fg p n 1
noncomputable def pa2 (p : Int → Int) (n : Int) : Int := pe1 p n + 1
noncomputable def pe2 (p : Int → Int) (n : Int) : Int := pa2 p n + fg p n (pa2 p n)
noncomputable def pa3 (p : Int → Int) (n : Int) : Int := pe2 p n + 1
noncomputable def pe3 (p : Int → Int) (n : Int) : Int := pa3 p n + fg p n (pa3 p n)
noncomputable def pv1 (p : Int → Int) (n : Int) : Int := vI p 1 (fg p n 1)
noncomputable def pv2 (p : Int → Int) (n : Int) : Int := vI p (pa2 p n) (fg p n (pa2 p n))
noncomputable def pv3 (p : Int → Int) (n : Int) : Int := vI p (pa3 p n) (fg p n (pa3 p n))
def pst (p : Int → Int) (n : Int) : Prop := 0 < n ∧ (p 0 = 117 ∨ p 0 = 100)
noncomputable def fl (p : Int → Int) (n : Int) : Int :=
  pif (pst p n) (pif (fg p n 1 = 0) 1 (pif (pe1 p n < n ∧ p (pe1 p n) = 44) (pif (fg p n (pa2 p n) = 0) (pa2 p n) (pif (pe2 p n < n ∧ p (pe2 p n) = 45) (pif (fg p n (pa3 p n) = 0) (pa3 p n) (pif (pe3 p n < n) (pe3 p n) (pif (pv2 p n < pv3 p n) (-6) n))) (pe2 p n))) (pe1 p n))) 0
section FL
variable {p : Int → Int} {n : Int}
theorem fl_0 (h : ¬ pst p n) : fl p n = 0 := pif_f h
theorem fl_1 (hs : pst p n) (h : fg p n 1 = 0) : fl p n = 1 := by unfold fl; rw [pif_t hs, pif_t h]
theorem fl_2 (hs : pst p n) (h1 : fg p n 1 ≠ 0) (h : ¬ (pe1 p n < n ∧ p (pe1 p n) = 44)) : fl p n = pe1 p n := by unfold fl; rw [pif_t hs, pif_f h1, pif_f h]
theorem fl_3 (hs : pst p n) (h1 : fg p n 1 ≠ 0) (h2 : pe1 p n < n ∧ p (pe1 p n) = 44) (h : fg p n (pa2 p n) = 0) : fl p n = pa2 p n := by unfold fl; rw [pif_t hs, pif_f h1, pif_t h2, pif_t h]
theorem fl_4 (hs : pst p n) (h1 : fg p n 1 ≠ 0) (h2 : pe1 p n < n ∧ p (pe1 p n) = 44) (h3 : fg p n (pa2 p n) ≠ 0) (h : ¬ (pe2 p n < n ∧ p (pe2 p n) = 45)) : fl p n = pe2 p n := by unfold fl; rw [pif_t hs, pif_f h1, pif_t h2, pif_f h3, pif_f h]
theorem fl_5 (hs : pst p n) (h1 : fg p n 1 ≠ 0) (h2 : pe1 p n < n ∧ p (pe1 p n) = 44) (h3 : fg p n (pa2 p n) ≠ 0) (h4 : pe2 p n < n ∧ p (pe2 p n) = 45) (h : fg p n (pa3 p n) = 0) : fl p n = pa3 p n := by unfold fl; rw [pif_t hs, pif_f h1, pif_t h2, pif_f h3, pif_t h4, pif_t h]
theorem fl_6 (hs : pst p n) (h1 : fg p n 1 ≠ 0) (h2 : pe1 p n < n ∧ p (pe1 p n) = 44) (h3 : fg p n (pa2 p n) ≠ 0) (h4 : pe2 p n < n ∧ p (pe2 p n) = 45) (h5 : fg p n (pa3 p n) ≠ 0) (h : pe3 p n < n) : fl p n = pe3 p n := by unfold fl; rw [pif_t hs, pif_f h1, pif_t h2, pif_f h3, pif_t h4, pif_f h5, pif_t h]
theorem fl_7 (hs : pst p n) (h1 : fg p n 1 ≠ 0) (h2 : pe1 p n < n ∧ p (pe1 p n) = 44) (h3 : fg p n (pa2 p n) ≠ 0) (h4 : pe2 p n < n ∧ p (pe2 p n) = 45) (h5 : fg p n (pa3 p n) ≠ 0) (h6 : ¬ pe3 p n < n) (h : pv2 p n < pv3 p n) : fl p n = -6 := by unfold fl; rw [pif_t hs, pif_f h1, pif_t h2, pif_f h3, pif_t h4, pif_f h5, pif_f h6, pif_t h]
theorem fl_8 (hs : pst p n) (h1 : fg p n 1 ≠ 0) (h2 : pe1 p n < n ∧ p (pe1 p n) = 44) (h3 : fg p n (pa2 p n) ≠ 0) (h4 : pe2 p n < n ∧ p (pe2 p n) = 45) (h5 : fg p n (pa3 p n) ≠ 0) (h6 : ¬ pe3 p n < n) (h : pv3 p n ≤ pv2 p n) : fl p n = n := by unfold fl; rw [pif_t hs, pif_f h1, pif_t h2, pif_f h3, pif_t h4, pif_f h5, pif_f h6, pif_f (by omega)]
theorem fl_R (hn : 0 ≤ n) : fl p n = -6 ∨ 0 ≤ fl p n := by
  have r1 := fg_R p n 1
  have r2 := fg_R p n (pa2 p n)
  have r3 := fg_R p n (pa3 p n)
  have q1 : pe1 p n = 1 + fg p n 1 := rfl
  have q2 : pa2 p n = pe1 p n + 1 := rfl
  have q3 : pe2 p n = pa2 p n + fg p n (pa2 p n) := rfl
  have q4 : pa3 p n = pe2 p n + 1 := rfl
  have q5 : pe3 p n = pa3 p n + fg p n (pa3 p n) := rfl
  unfold fl pif
  repeat' split
  all_goals omega
end FL
