/-! ===== numbers: every int of the machine is read as an Int ===== -/
def iI (z : Int) : Int32 := Int32.ofInt z
def lI (z : Int) : Int64 := Int64.ofInt z
theorem iI_toInt {z : Int} (h : -2147483648 ≤ z ∧ z < 2147483648) : (iI z).toInt = z := Int32.toInt_ofInt_of_le (by omega) (by omega)
theorem lI_toInt {z : Int} (h : -9223372036854775808 ≤ z ∧ z < 9223372036854775808) : (lI z).toInt = z := Int64.toInt_ofInt_of_le (by omega) (by omega)
theorem iI_of (x : Int32) : ∃ z : Int, x = iI z ∧ -2147483648 ≤ z ∧ z < 2147483648 := by
  have h1 := Int32.le_toInt x
  have h2 := Int32.toInt_lt x
  exact ⟨x.toInt, (Int32.ofInt_toInt x).symm, by omega, by omega⟩
theorem iI_add (a b : Int) : iI a + iI b = iI (a + b) := (Int32.ofInt_add a b).symm
theorem iI_sub (a b : Int) : iI a - iI b = iI (a - b) := (Int32.ofInt_sub a b).symm
theorem iI_mul (a b : Int) : iI a * iI b = iI (a * b) := (Int32.ofInt_mul a b).symm
theorem lI_add (a b : Int) : lI a + lI b = lI (a + b) := (Int64.ofInt_add a b).symm
theorem lI_sub (a b : Int) : lI a - lI b = lI (a - b) := (Int64.ofInt_sub a b).symm
theorem lI_mul (a b : Int) : lI a * lI b = lI (a * b) := (Int64.ofInt_mul a b).symm
theorem lI_neg (a : Int) : -lI a = lI (-a) := (Int64.ofInt_neg a).symm
theorem iI_lt {a b : Int} (ha : -2147483648 ≤ a ∧ a < 2147483648) (hb : -2147483648 ≤ b ∧ b < 2147483648) : iI a < iI b ↔ a < b := by
  rw [Int32.lt_iff_toInt_lt, iI_toInt ha, iI_toInt hb]
theorem iI_le {a b : Int} (ha : -2147483648 ≤ a ∧ a < 2147483648) (hb : -2147483648 ≤ b ∧ b < 2147483648) : iI a ≤ iI b ↔ a ≤ b := by
  rw [Int32.le_iff_toInt_le, iI_toInt ha, iI_toInt hb]
theorem iI_eq {a b : Int} (ha : -2147483648 ≤ a ∧ a < 2147483648) (hb : -2147483648 ≤ b ∧ b < 2147483648) : iI a = iI b ↔ a = b := by
  rw [← Int32.toInt_inj, iI_toInt ha, iI_toInt hb]
theorem lI_lt {a b : Int} (ha : -9223372036854775808 ≤ a ∧ a < 9223372036854775808) (hb : -9223372036854775808 ≤ b ∧ b < 9223372036854775808) : lI a < lI b ↔ a < b := by
  rw [Int64.lt_iff_toInt_lt, lI_toInt ha, lI_toInt hb]
theorem lI_eq {a b : Int} (ha : -9223372036854775808 ≤ a ∧ a < 9223372036854775808) (hb : -9223372036854775808 ≤ b ∧ b < 9223372036854775808) : lI a = lI b ↔ a = b := by
  rw [← Int64.toInt_inj, lI_toInt ha, lI_toInt hb]
theorem iI_0 : iI 0 = 0 := rfl
theorem iI_div {a b : Int} (ha : -2147483648 ≤ a ∧ a < 2147483648) (hb : -2147483648 ≤ b ∧ b < 2147483648) : iI a / iI b = iI (a.tdiv b) :=
  (Int32.ofInt_tdiv (by show (-2147483648 : Int) ≤ a; omega) (by show a ≤ (2147483647 : Int); omega) (by show (-2147483648 : Int) ≤ b; omega) (by show b ≤ (2147483647 : Int); omega)).symm
theorem lI_div {a b : Int} (ha : -9223372036854775808 ≤ a ∧ a < 9223372036854775808) (hb : -9223372036854775808 ≤ b ∧ b < 9223372036854775808) : lI a / lI b = lI (a.tdiv b) :=
  (Int64.ofInt_tdiv (by show (-9223372036854775808 : Int) ≤ a; omega) (by show a ≤ (9223372036854775807 : Int); omega) (by show (-9223372036854775808 : Int) ≤ b; omega) (by show b ≤ (9223372036854775807 : Int); omega)).symm
theorem iI_rem {a b : Int} (ha : -2147483648 ≤ a ∧ a < 2147483648) (hb : -2147483648 ≤ b ∧ b < 2147483648) : iI a - iI a / iI b * iI b = iI (a.tmod b) := by
  rw [iI_div ha hb, iI_mul, iI_sub]
  congr 1
  have := Int.tmod_def a b
  rw [this, Int.mul_comm]
theorem iI_l {a : Int} (ha : -2147483648 ≤ a ∧ a < 2147483648) : (iI a).toInt64 = lI a := by
  apply Int64.toInt_inj.mp
  rw [Int32.toInt_toInt64, iI_toInt ha, lI_toInt (by omega)]
theorem iI_clamp {z : Int} (h : 0 ≤ z ∧ z < 2147483648) : (((iI z).toNatClampNeg : Nat) : Int) = z := by
  show (((iI z).toInt.toNat : Nat) : Int) = z
  rw [iI_toInt (by omega)]
  omega
theorem iI_in {z : Int} {n : Nat} (h : 0 ≤ z ∧ z < n) (hn : n < 2147483648) : vp_in (iI z) n := by
  rw [vp_in_iff, iI_toInt (by omega)]
  exact h
/-- three ways of a comparison of longs -/
def cmpz (a b : Int) : Int := if b < a then 1 else if a = b then 0 else -1
theorem cmpz_gt {a b : Int} : 0 < cmpz a b ↔ b < a := by
  unfold cmpz; split
  · simp; omega
  · split <;> simp <;> omega
theorem cmpz_lt {a b : Int} : cmpz a b < 0 ↔ a < b := by
  unfold cmpz; split
  · simp; omega
  · split <;> simp <;> omega
theorem cmpz_eq {a b : Int} : cmpz a b = 0 ↔ a = b := by
  unfold cmpz; split
  · simp; omega
  · split <;> simp <;> omega
theorem cmpz_R (a b : Int) : -2147483648 ≤ cmpz a b ∧ cmpz a b < 2147483648 := by
  unfold cmpz; split
  · simp
  · split <;> simp
theorem lg_cmpz {a b : Int} (ha : -9223372036854775808 ≤ a ∧ a < 9223372036854775808) (hb : -9223372036854775808 ≤ b ∧ b < 9223372036854775808) : lg_cmp (lI a) (lI b) = iI (cmpz a b) := by
  unfold lg_cmp cmpz
  simp only [lI_lt hb ha, lI_eq ha hb]
  split
  · rfl
  · split <;> rfl
/-! ===== the memory of a system: cells by number, places by Int ===== -/
abbrev Mem : Type := Nat → Int → Int
def up (M : Mem) (k : Nat) (j z : Int) : Mem := fun k' j' => if k' = k then (if j' = j then z else M k' j') else M k' j'
theorem up_s (M : Mem) (k : Nat) (j z : Int) : up M k j z k j = z := by simp [up]
theorem up_n {M : Mem} {k k' : Nat} {j z : Int} (h : k' ≠ k) : up M k j z k' = M k' := by funext i; simp [up, h]
theorem up_o {M : Mem} {k : Nat} {j j' z : Int} (h : j' ≠ j) : up M k j z k j' = M k j' := by simp [up, h]
theorem up_if (M : Mem) (k : Nat) (j z j' : Int) : up M k j z k j' = if j' = j then z else M k j' := by simp [up]
/-- a kind of cell: (0, n, _) n ints, (1, n, _) n longs, (2, n, _) n booleans, (3, n, cells) references, (4 + class, _, fields); a field: 0 an int, 1 a long, 2 + the cell that it refers to -/
abbrev Kd : Type := Nat × Nat × List Nat
def fV (a : Nat → Nat) (f : Int → Int) (i : Nat) : Nat → Value
  | 0 => .int (iI (f i))
  | 1 => .long (lI (f i))
  | q + 2 => .ref (a q)
def cE (T : Nat → ClassId) (a : Nat → Nat) (f : Int → Int) : Kd → va_E
  | (0, n, _) => .inl (T 0, n, .inl (fun j => iI (f j)))
  | (1, n, _) => .inl (T 1, n, .inr (.inl (fun j => lI (f j))))
  | (2, n, _) => .inl (T 2, n, .inl (fun j => iI (f j)))
  | (3, n, rs) => .inl (T 3, n, .inr (.inr (.inr (.inr (fun j => (rs[j]?).map a)))))
  | (c + 4, _, fs) => .inr (c, fs.zipIdx.map (fun p => fV a f p.2 p.1))
def wld (T : Nat → ClassId) (a : Nat → Nat) (L : List Kd) (M : Mem) : va_W := L.zipIdx.map (fun p => (a p.2, cE T a (M p.2) p.1))
def tysT (T : Nat → ClassId) : List (ClassId × FieldType) := [(T 0, .int), (T 1, .long), (T 2, .boolean), (T 3, .object "StemDots$Letter")]
theorem wld_at {T : Nat → ClassId} {a : Nat → Nat} {L : List Kd} {M : Mem} {k : Nat} {kd : Kd} (h : L[k]? = some kd) : (wld T a L M)[k]? = some (a k, cE T a (M k) kd) := by
  unfold wld
  rw [List.getElem?_map, List.getElem?_zipIdx, h]
  simp
theorem wld_len {T : Nat → ClassId} {a : Nat → Nat} {L : List Kd} {M : Mem} : (wld T a L M).length = L.length := by simp [wld]
theorem wld_inv {T : Nat → ClassId} {a : Nat → Nat} {L : List Kd} {M : Mem} {k : Nat} {q : Nat × va_E} (h : (wld T a L M)[k]? = some q) : ∃ kd, L[k]? = some kd ∧ q = (a k, cE T a (M k) kd) := by
  unfold wld at h
  rw [List.getElem?_map, List.getElem?_zipIdx] at h
  cases hk : L[k]? with
  | none => rw [hk] at h; simp at h
  | some kd => rw [hk] at h; simp at h; exact ⟨kd, rfl, h.symm⟩
theorem wld_D {T T' : Nat → ClassId} {a : Nat → Nat} {L : List Kd} {M M' : Mem} {A : Nat → Prop} (h : va_D A (wld T a L M)) : va_D A (wld T' a L M') := by
  refine ⟨fun i j p q hp hq e => ?_, fun k q hq => ?_⟩
  · obtain ⟨kd, h1, rfl⟩ := wld_inv hp
    obtain ⟨kd', h2, rfl⟩ := wld_inv hq
    exact h.1 i j _ _ (wld_at h1) (wld_at h2) e
  · obtain ⟨kd, h1, rfl⟩ := wld_inv hq
    exact h.2 k (a k, cE T a (M k) kd) (wld_at h1)
theorem wld_A {T T' : Nat → ClassId} {a : Nat → Nat} {L : List Kd} {M M' : Mem} {sz sz' q : Nat} (h : va_A (wld T a L M) sz q) (hs : sz' ≤ sz) : va_A (wld T' a L M') sz' q := by
  rcases h with ⟨k, e, h⟩ | h
  · obtain ⟨kd, h1, h2⟩ := wld_inv h
    rw [show q = a k from congrArg Prod.fst h2]
    exact Or.inl ⟨k, _, wld_at h1⟩
  · exact Or.inr (Nat.le_trans hs h)
theorem wld_ext {T : Nat → ClassId} {a : Nat → Nat} {L : List Kd} {w : va_W} {M : Mem} (hl : w.length = L.length) (h : ∀ (k : Nat) (kd : Kd), L[k]? = some kd → w[k]? = some (a k, cE T a (M k) kd)) : w = wld T a L M := by
  apply List.ext_getElem?
  intro k
  cases hk : L[k]? with
  | none =>
    have h1 : L.length ≤ k := by simpa using hk
    rw [List.getElem?_eq_none (by omega), List.getElem?_eq_none (by rw [wld_len]; exact h1)]
  | some kd => rw [h k kd hk, wld_at hk]
theorem wld_set {T : Nat → ClassId} {a : Nat → Nat} {L : List Kd} {M M' : Mem} {k : Nat} {kd : Kd} {e : va_E} (h : L[k]? = some kd) (he : cE T a (M' k) kd = e) (ho : ∀ j, j ≠ k → M' j = M j) : (wld T a L M).set k (a k, e) = wld T a L M' := by
  apply wld_ext
  · simp [wld_len]
  · intro j kd' hj
    by_cases hjk : j = k
    · subst hjk
      have : kd' = kd := Option.some.inj (hj.symm.trans h)
      subst this
      have hlt : j < (wld T a L M).length := by rw [wld_len]; exact (List.getElem?_eq_some_iff.mp hj).1
      rw [List.getElem?_set_self hlt, he]
    · rw [List.getElem?_set_ne (fun q => hjk q.symm), wld_at hj, ho j hjk]
/-! ===== locals by place ===== -/
def asL (lv : List (Option Value)) : List (Nat × Value) := lv.zipIdx.filterMap (fun p => p.1.map (fun v => (p.2, v)))
def lh (ls : Array Slot) (nL : Nat) (lv : List (Option Value)) : Prop := lv_has ls nL (asL lv)
theorem asL_mem {lv : List (Option Value)} {i : Nat} {v : Value} : (i, v) ∈ asL lv ↔ lv[i]? = some (some v) := by
  unfold asL
  rw [List.mem_filterMap]
  constructor
  · rintro ⟨⟨x, j⟩, hm, hx⟩
    cases x with
    | none => cases hx
    | some w =>
      simp at hx
      obtain ⟨rfl, rfl⟩ := hx
      have := List.mem_zipIdx_iff_getElem?.mp hm
      simpa using this
  · intro h
    exact ⟨(some v, i), List.mem_zipIdx_iff_getElem?.mpr (by simpa using h), rfl⟩
theorem lh_at {ls : Array Slot} {nL : Nat} {lv : List (Option Value)} (h : lh ls nL lv) {i : Nat} {v : Value} (hi : lv[i]? = some (some v)) : ls[i]? = some (.val v) := h.2.2 (i, v) (asL_mem.mpr hi)
def st1 (lv : List (Option Value)) (i : Nat) (v : Value) : List (Option Value) := lv.zipIdx.map (fun p => if p.2 = i then some v else if p.2 + 1 = i then (match p.1 with | some w => (if w.category = 2 then none else some w) | none => none) else p.1)
def st2 (lv : List (Option Value)) (i : Nat) (v : Value) : List (Option Value) := lv.zipIdx.map (fun p => if p.2 = i then some v else if p.2 = i + 1 then none else if p.2 + 1 = i then (match p.1 with | some w => (if w.category = 2 then none else some w) | none => none) else p.1)
theorem lh_st1 {ls : Array Slot} {nL : Nat} {lv : List (Option Value)} {i : Nat} {v : Value} (h : lv_has ls nL ((i, v) :: (asL lv).filter (fun q => !(q.1 == i) && !(q.1 + 1 == i && q.2.category == 2)))) : lh ls nL (st1 lv i v) := by
  refine ⟨h.1, h.2.1, fun q hq => ?_⟩
  obtain ⟨j, w⟩ := q
  have h1 := asL_mem.mp hq
  unfold st1 at h1
  rw [List.getElem?_map, List.getElem?_zipIdx] at h1
  apply h.2.2
  cases hx : lv[j]? with
  | none => rw [hx] at h1; simp at h1
  | some x =>
    rw [hx] at h1
    simp only [Option.map_some, Nat.zero_add, Option.some.injEq] at h1
    by_cases hj : j = i
    · subst hj
      simp at h1
      subst h1
      exact List.mem_cons_self
    · rw [if_neg hj] at h1
      apply List.mem_cons_of_mem
      rw [List.mem_filter]
      by_cases hj1 : j + 1 = i
      · rw [if_pos hj1] at h1
        cases x with
        | none => cases h1
        | some y =>
          simp only at h1
          split at h1
          · cases h1
          · rename_i hc
            cases h1
            exact ⟨asL_mem.mpr hx, by simp [hj, hc]⟩
      · rw [if_neg hj1] at h1
        subst h1
        exact ⟨asL_mem.mpr hx, by simp [hj, hj1]⟩
theorem lh_st2 {ls : Array Slot} {nL : Nat} {lv : List (Option Value)} {i : Nat} {v : Value} (h : lv_has ls nL ((i, v) :: (asL lv).filter (fun q => !(q.1 == i) && (!(q.1 == i + 1) && !(q.1 + 1 == i && q.2.category == 2))))) : lh ls nL (st2 lv i v) := by
  refine ⟨h.1, h.2.1, fun q hq => ?_⟩
  obtain ⟨j, w⟩ := q
  have h1 := asL_mem.mp hq
  unfold st2 at h1
  rw [List.getElem?_map, List.getElem?_zipIdx] at h1
  apply h.2.2
  cases hx : lv[j]? with
  | none => rw [hx] at h1; simp at h1
  | some x =>
    rw [hx] at h1
    simp only [Option.map_some, Nat.zero_add, Option.some.injEq] at h1
    by_cases hj : j = i
    · subst hj
      simp at h1
      subst h1
      exact List.mem_cons_self
    · rw [if_neg hj] at h1
      apply List.mem_cons_of_mem
      rw [List.mem_filter]
      by_cases hj2 : j = i + 1
      · rw [if_pos hj2] at h1; cases h1
      · rw [if_neg hj2] at h1
        by_cases hj1 : j + 1 = i
        · rw [if_pos hj1] at h1
          cases x with
          | none => cases h1
          | some y =>
            simp only at h1
            split at h1
            · cases h1
            · rename_i hc
              cases h1
              exact ⟨asL_mem.mpr hx, by simp [hj, hj2, hc]⟩
        · rw [if_neg hj1] at h1
          subst h1
          exact ⟨asL_mem.mpr hx, by simp [hj, hj2, hj1]⟩
theorem lh_weak {ls : Array Slot} {nL : Nat} {lv lv' : List (Option Value)} (h : lh ls nL lv) (hs : ∀ (i : Nat) (v : Value), lv'[i]? = some (some v) → lv[i]? = some (some v)) : lh ls nL lv' :=
  ⟨h.1, h.2.1, fun q hq => h.2.2 q (by obtain ⟨i, v⟩ := q; exact asL_mem.mpr (hs i v (asL_mem.mp hq)))⟩

