/-! ===== the reference: edges, rules, images ===== -/
theorem fl_B {p : Int → Int} {n : Int} (hn : 0 ≤ n ∧ n ≤ 30) : (fl p n = -6 ∨ 0 ≤ fl p n) ∧ fl p n ≤ 100 := by
  have r1 := fg_R p n 1
  have r2 := fg_R p n (pa2 p n)
  have r3 := fg_R p n (pa3 p n)
  have q1 : pe1 p n = 1 + fg p n 1 := rfl
  have q2 : pa2 p n = pe1 p n + 1 := rfl
  have q3 : pe2 p n = pa2 p n + fg p n (pa2 p n) := rfl
  have q4 : pa3 p n = pe2 p n + 1 := rfl
  have q5 : pe3 p n = pa3 p n + fg p n (pa3 p n) := rfl
  unfold fl pif
  repeat' split
  all_goals omega
noncomputable def edm (M : Mem) : Int → Int := upf (upf (upf (upf (M 1) ((4 * M 0 1) + 0) (upz (M 3))) ((4 * M 0 1) + 1) (pv1 (M 3) (M 0 3))) ((4 * M 0 1) + 2) (pv2 (M 3) (M 0 3))) ((4 * M 0 1) + 3) (pv3 (M 3) (M 0 3))
def delf (f : Int → Int) (lo k : Int) : Int → Int := fun j => if lo ≤ j ∧ j < k then f (j + 4) else f j
theorem delf_0 {f : Int → Int} {lo : Int} : delf f lo lo = f := by funext j; exact if_neg (by omega)
theorem delf_s {f : Int → Int} {lo k : Int} (h : lo ≤ k) : upf (delf f lo k) k (delf f lo k (k + 4)) = delf f lo (k + 1) := by
  funext j
  unfold upf delf
  by_cases hj : j = k
  · subst hj; rw [if_pos rfl, if_neg (by omega), if_pos (by omega)]
  · rw [if_neg hj]
    by_cases h1 : lo ≤ j ∧ j < k
    · rw [if_pos h1, if_pos (by omega)]
    · rw [if_neg h1, if_neg (by omega)]
def rmx (w : Int) : Int := if w = 0 then 99 else if w < 3 then 9 else 3
def cpy (g f : Int → Int) (o k : Int) : Int → Int := fun j => if o ≤ j ∧ j < o + k then f (j - o) else g j
theorem cpy_0 {g f : Int → Int} {o : Int} : cpy g f o 0 = g := by funext j; exact if_neg (by omega)
theorem cpy_s {g f : Int → Int} {o k : Int} (h : 0 ≤ k) : upf (cpy g f o k) (o + k) (f k) = cpy g f o (k + 1) := by
  funext j
  unfold upf cpy
  by_cases hj : j = o + k
  · subst hj; rw [if_pos rfl, if_pos (by omega), show o + k - o = k by omega]
  · rw [if_neg hj]
    by_cases h1 : o ≤ j ∧ j < o + k
    · rw [if_pos h1, if_pos (by omega)]
    · rw [if_neg h1, if_neg (by omega)]
def cpr (g f : Int → Int) (o k : Int) : Int → Int := fun j => if 0 ≤ j ∧ j < k then f (o + j) else g j
theorem cpr_0 {g f : Int → Int} {o : Int} : cpr g f o 0 = g := by funext j; exact if_neg (by omega)
theorem cpr_s {g f : Int → Int} {o k : Int} (h : 0 ≤ k) : upf (cpr g f o k) k (f (o + k)) = cpr g f o (k + 1) := by
  funext j
  unfold upf cpr
  by_cases hj : j = k
  · subst hj; rw [if_pos rfl, if_pos (by omega)]
  · rw [if_neg hj]
    by_cases h1 : 0 ≤ j ∧ j < k
    · rw [if_pos h1, if_pos (by omega)]
    · rw [if_neg h1, if_neg (by omega)]
