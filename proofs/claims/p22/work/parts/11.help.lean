/-! ===== helpers of the printed walks ===== -/
theorem cmpz_ge {a b : Int} : 0 ≤ cmpz a b ↔ b ≤ a := by
  have := @cmpz_lt a b; omega
theorem cmpz_le {a b : Int} : cmpz a b ≤ 0 ↔ a ≤ b := by
  have := @cmpz_gt a b; omega
theorem cmpz_ne {a b : Int} : cmpz a b ≠ 0 ↔ a ≠ b := not_congr cmpz_eq
/-- a truth as a number -/
noncomputable def zC (P : Prop) : Int := @ite Int P (Classical.propDecidable P) 1 0
theorem zC_t {P : Prop} (h : P) : zC P = 1 := if_pos h
theorem zC_f {P : Prop} (h : ¬ P) : zC P = 0 := if_neg h
theorem zC_01 (P : Prop) : zC P = 0 ∨ zC P = 1 := by
  by_cases h : P
  · exact Or.inr (zC_t h)
  · exact Or.inl (zC_f h)
theorem zC_R (P : Prop) : -2147483648 ≤ zC P ∧ zC P < 2147483648 := by
  rcases zC_01 P with h | h <;> rw [h] <;> decide
theorem zC_0 {P : Prop} (h : zC P = 0) : ¬ P := fun q => by rw [zC_t q] at h; exact absurd h (by decide)
theorem zC_1 {P : Prop} (h : zC P ≠ 0) : P := by
  by_cases q : P
  · exact q
  · exact absurd (zC_f q) h
theorem zC_iff {P Q : Prop} (h : P ↔ Q) : zC P = zC Q := by
  by_cases q : P
  · rw [zC_t q, zC_t (h.mp q)]
  · rw [zC_f q, zC_f (fun z => q (h.mpr z))]
/-- a choice by any proposition -/
noncomputable def pif {α : Type} (P : Prop) (x y : α) : α := @ite α P (Classical.propDecidable P) x y
theorem pif_t {α : Type} {P : Prop} {x y : α} (h : P) : pif P x y = x := if_pos h
theorem pif_f {α : Type} {P : Prop} {x y : α} (h : ¬ P) : pif P x y = y := if_neg h
/-- locals at a method's entry -/
def lvA : List Value → List (Option Value)
  | [] => []
  | v :: t => if v.category = 2 then some v :: none :: lvA t else some v :: lvA t
theorem lvA_mem : ∀ (vs : List Value) (k i : Nat) (v : Value), (lvA vs)[i]? = some (some v) → (k + i, v) ∈ lv_args k vs
  | [], k, i, v, h => by simp [lvA] at h
  | w :: t, k, i, v, h => by
    unfold lvA at h
    unfold lv_args
    by_cases hc : w.category = 2
    · rw [if_pos hc] at h
      rw [if_pos hc]
      match i, h with
      | 0, h =>
        simp at h
        subst h
        exact List.mem_cons_self
      | 1, h => simp at h
      | i + 2, h =>
        have h1 : (lvA t)[i]? = some (some v) := by simpa using h
        have h2 := lvA_mem t (k + 2) i v h1
        rw [show k + 2 + i = k + (i + 2) by omega] at h2
        exact List.mem_cons_of_mem _ h2
    · rw [if_neg hc] at h
      rw [if_neg hc]
      match i, h with
      | 0, h =>
        simp at h
        subst h
        exact List.mem_cons_self
      | i + 1, h =>
        have h1 : (lvA t)[i]? = some (some v) := by simpa using h
        have h2 := lvA_mem t (k + 1) i v h1
        rw [show k + 1 + i = k + (i + 1) by omega] at h2
        exact List.mem_cons_of_mem _ h2
def allNone : List (Option Value) → Bool
  | [] => true
  | none :: t => allNone t
  | some _ :: _ => false
theorem allNone_at : ∀ (l : List (Option Value)) (i : Nat) (v : Value), allNone l = true → l[i]? ≠ some (some v)
  | [], i, v, _ => by simp
  | none :: t, 0, v, _ => by simp
  | none :: t, i + 1, v, h => by simpa using allNone_at t i v h
  | some _ :: _, _, _, h => by cases h
theorem lvOK_of (lv : List (Option Value)) (vs : List Value) (h : lv.take (lvA vs).length = lvA vs ∧ allNone (lv.drop (lvA vs).length) = true) : lvOK lv vs := by
  intro i v hi
  by_cases hl : i < (lvA vs).length
  · have h1 : (lv.take (lvA vs).length)[i]? = some (some v) := by rw [List.getElem?_take_of_lt hl]; exact hi
    rw [h.1] at h1
    simpa using lvA_mem vs 0 i v h1
  · have h1 : (lv.drop (lvA vs).length)[i - (lvA vs).length]? = some (some v) := by
      rw [List.getElem?_drop, show (lvA vs).length + (i - (lvA vs).length) = i by omega]; exact hi
    exact absurd h1 (allNone_at _ _ _ h.2)
/-- locals forgotten: each place is as it was, or none -/
def keepN (lv : List (Option Value)) : List Bool → List (Option Value)
  | [] => []
  | b :: bs => (match lv with | [] => none | x :: _ => if b then x else none) :: keepN lv.tail bs
theorem keepN_at : ∀ (bs : List Bool) (lv : List (Option Value)) (i : Nat) (v : Value), (keepN lv bs)[i]? = some (some v) → lv[i]? = some (some v)
  | [], lv, i, v, h => by simp [keepN] at h
  | b :: bs, lv, 0, v, h => by
    cases lv with
    | nil => simp [keepN] at h
    | cons x t =>
      simp [keepN] at h
      simpa using h.2
  | b :: bs, lv, i + 1, v, h => by
    have h1 := keepN_at bs lv.tail i v (by simpa [keepN] using h)
    cases lv with
    | nil => simp at h1
    | cons x t => simpa using h1
theorem lvw_of (lv' lv : List (Option Value)) (bs : List Bool) (h : keepN lv bs = lv') : ∀ (i : Nat) (v : Value), lv'[i]? = some (some v) → lv[i]? = some (some v) := by
  intro i v hi
  rw [← h] at hi
  exact keepN_at bs lv i v hi
def LC : List Kd := [(8, 0, [3, 6, 24, 25, 26, 36]), (6, 0, [4, 0, 5]), (0, 30, []), (0, 3, []), (5, 0, [7, 8, 9, 10, 0, 11]), (0, 16, []), (0, 16, []), (0, 16, []), (0, 16, []), (0, 5, []), (5, 0, [13, 14, 15, 16, 0, 17]), (0, 16, []), (0, 16, []), (0, 16, []), (0, 16, []), (0, 5, []), (5, 0, [19, 20, 21, 22, 0, 23]), (0, 16, []), (0, 16, []), (0, 16, []), (0, 16, []), (0, 5, []), (3, 2, [10, 16]), (2, 2, []), (7, 0, [0, 27, 28, 29, 30, 31, 0, 32, 33, 34, 35]), (0, 8, []), (0, 8, []), (0, 8, []), (0, 8, []), (0, 8, []), (0, 8, []), (0, 8, []), (0, 8, []), (0, 8, []), (4, 0, [37, 38, 39, 40, 6, 26, 41, 42, 43, 44, 0, 0]), (1, 61, []), (0, 61, []), (2, 61, []), (0, 488, []), (0, 8, []), (0, 8, []), (1, 480, []), (1, 60, [])]

