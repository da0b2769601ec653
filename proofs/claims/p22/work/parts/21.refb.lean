/-! ===== the reference: methods of stems and drifts ===== -/
def canR (M : Mem) (u d : Int) : Prop := (M 1 (4 * u) = 1 ∧ M 1 (4 * d) = 0 ∧ M 1 ((4 * u) + 1) < M 1 ((4 * d) + 1) ∧ M 1 ((4 * d) + 1) - M 1 ((4 * u) + 1) ≤ 300) ∧ max (M 1 ((4 * u) + 2)) (M 1 ((4 * d) + 2)) < min (M 1 ((4 * u) + 3)) (M 1 ((4 * d) + 3))
def freeR (M : Mem) (n u d : Int) : Prop := ∀ j : Int, 0 ≤ j → j < n → (M 7 j ≠ u ∧ M 8 j ≠ d ∧ (M 1 ((4 * d) + 1) < M 5 j ∨ M 6 j < M 1 ((4 * u) + 1)))
theorem freeR_s {M : Mem} {i u d : Int} (h0 : 0 ≤ i) : freeR M (i + 1) u d ↔ (freeR M i u d ∧ (M 7 i ≠ u ∧ M 8 i ≠ d ∧ (M 1 ((4 * d) + 1) < M 5 i ∨ M 6 i < M 1 ((4 * u) + 1)))) := by
  constructor
  · intro h
    exact ⟨fun j h1 h2 => h j h1 (by omega), h i h0 (by omega)⟩
  · rintro ⟨h, hi⟩ j h1 h2
    by_cases hj : j = i
    · subst hj; exact hi
    · exact h j h1 (by omega)
def cntz (mode t : Int) : Int := if mode % 2 = 1 then t * t / 1000 else t
def jn (mode x y : Int) : Int := if mode < 2 then x + y else max x y
def dz (st sz bold : Int) : Int := max 1 ((st * sz + 500) / 1000) + bold
def absz (x : Int) : Int := if 0 ≤ x then x else -x
theorem mul_R {x y A B : Int} (hx : 0 ≤ x ∧ x ≤ A) (hy : 0 ≤ y ∧ y ≤ B) : 0 ≤ x * y ∧ x * y ≤ A * B :=
  ⟨Int.mul_nonneg hx.1 hy.1, Int.mul_le_mul hx.2 hy.2 hy.1 (by omega)⟩
theorem sq_R {t : Int} (ht : 0 ≤ t ∧ t ≤ 100000000) : 0 ≤ t * t ∧ t * t ≤ 10000000000000000 := mul_R ht ht
theorem mulS_R {x y : Int} (hx : -999 ≤ x ∧ x ≤ 999) (hy : 0 ≤ y ∧ y ≤ 60) : -59940 ≤ x * y ∧ x * y ≤ 59940 := by
  have h := mul_R (x := x + 999) (y := y) (A := 1998) (B := 60) (by omega) hy
  have e : (x + 999) * y = x * y + 999 * y := Int.add_mul x 999 y
  have h2 := mul_R (x := 999 - x) (y := y) (A := 1998) (B := 60) (by omega) hy
  have e2 : (999 - x) * y = 999 * y - x * y := Int.sub_mul 999 x y
  omega
theorem div_R {s c : Int} (hc : 1 ≤ c) (hs : 0 ≤ s ∧ s ≤ 300 * c) : 0 ≤ s / c ∧ s / c ≤ 300 :=
  ⟨Int.ediv_nonneg hs.1 (by omega), by have := Int.ediv_le_of_le_mul (a := s) (b := 300) (c := c) (by omega) (by omega); omega⟩
