/-! ===== classes of stems by widths (numbers alone) ===== -/
/-- ord lists the numbers 0 to n - 1 by width, of as wide by number -/
def isOrd (n : Int) (wd ord : Int → Int) : Prop :=
  (∀ i : Int, 0 ≤ i → i < n → 0 ≤ ord i ∧ ord i < n) ∧ (∀ i j : Int, 0 ≤ i → i < j → j < n → wd (ord i) < wd (ord j) ∨ (wd (ord i) = wd (ord j) ∧ ord i < ord j)) ∧
  ∀ j : Int, 0 ≤ j → j < n → ∃ i : Int, 0 ≤ i ∧ i < n ∧ ord i = j
theorem ord_ne {n : Int} {wd ord : Int → Int} (h : isOrd n wd ord) {i j : Int} (h1 : 0 ≤ i) (h2 : i < j) (h3 : j < n) : ord i ≠ ord j := by
  intro z
  have := h.2.1 i j h1 h2 h3
  rw [z] at this
  omega
abbrev GS : Type := Int × (Int → Int) × (Int → Int) × (Int → Int) × (Int → Int)
/-- a class more begins: how many, whose, members, least widths, widths added -/
def gopen (g : GS) (w : Int) : GS := (g.1 + 1, g.2.1, upf g.2.2.1 g.1 0, upf g.2.2.2.1 g.1 w, upf g.2.2.2.2 g.1 0)
def gadd (g : GS) (j w : Int) : GS := (g.1, upf g.2.1 j (g.1 - 1), upf g.2.2.1 (g.1 - 1) (g.2.2.1 (g.1 - 1) + 1), g.2.2.2.1, upf g.2.2.2.2 (g.1 - 1) (g.2.2.2.2 (g.1 - 1) + w))
def gnew (tol : Int) (g : GS) (w : Int) : Prop := g.1 = 0 ∨ tol < w - g.2.2.2.1 (g.1 - 1)
noncomputable def gmid (tol : Int) (g : GS) (w : Int) : GS := pif (gnew tol g w) (gopen g w) g
noncomputable def gstep (tol : Int) (wd : Int → Int) (g : GS) (j : Int) : GS := gadd (gmid tol g (wd j)) j (wd j)
noncomputable def giter (tol : Int) (wd ord : Int → Int) (g0 : GS) : Nat → GS
  | 0 => g0
  | k + 1 => gstep tol wd (giter tol wd ord g0 k) (ord k)
noncomputable def giterI (tol : Int) (wd ord : Int → Int) (g0 : GS) (k : Int) : GS := giter tol wd ord g0 k.toNat
theorem giterI_s {tol : Int} {wd ord : Int → Int} {g0 : GS} {k : Int} (h : 0 ≤ k) : giterI tol wd ord g0 (k + 1) = gstep tol wd (giterI tol wd ord g0 k) (ord k) := by
  unfold giterI
  rw [show (k + 1).toNat = k.toNat + 1 by omega]
  show gstep tol wd _ (ord ((k.toNat : Nat) : Int)) = _
  rw [show ((k.toNat : Nat) : Int) = k by omega]
/-- what holds of the classes when k stems have come -/
def gInv (n : Int) (wd ord : Int → Int) (k : Int) (g : GS) : Prop :=
  (0 ≤ g.1 ∧ g.1 ≤ k ∧ (0 < k → 1 ≤ g.1)) ∧ (∀ c : Int, 0 ≤ c → c < g.1 → (1 ≤ g.2.2.1 c ∧ g.2.2.1 c ≤ k) ∧ (1 ≤ g.2.2.2.1 c ∧ g.2.2.2.1 c ≤ 300) ∧ (g.2.2.1 c ≤ g.2.2.2.2 c ∧ g.2.2.2.2 c ≤ 300 * g.2.2.1 c)) ∧
  (∀ i : Int, 0 ≤ i → i < k → 0 ≤ g.2.1 (ord i) ∧ g.2.1 (ord i) < g.1)
theorem gmid_inv {tol n k : Int} {wd ord : Int → Int} {g : GS} (h : gInv n wd ord k g) {w : Int} (hw : 1 ≤ w ∧ w ≤ 300) (hk : 0 ≤ k) :
    (1 ≤ (gmid tol g w).1 ∧ (gmid tol g w).1 ≤ k + 1) ∧ (∀ c : Int, 0 ≤ c → c < (gmid tol g w).1 → (0 ≤ (gmid tol g w).2.2.1 c ∧ (gmid tol g w).2.2.1 c ≤ k) ∧ (c < (gmid tol g w).1 - 1 → 1 ≤ (gmid tol g w).2.2.1 c) ∧ (1 ≤ (gmid tol g w).2.2.2.1 c ∧ (gmid tol g w).2.2.2.1 c ≤ 300) ∧ ((gmid tol g w).2.2.1 c ≤ (gmid tol g w).2.2.2.2 c ∧ (gmid tol g w).2.2.2.2 c ≤ 300 * (gmid tol g w).2.2.1 c)) ∧ g.1 ≤ (gmid tol g w).1 ∧ (gmid tol g w).2.1 = g.2.1 := by
  obtain ⟨⟨a1, a2, a3⟩, b, c⟩ := h
  by_cases q : gnew tol g w
  · unfold gmid
    rw [pif_t q]
    unfold gopen
    refine ⟨⟨by show 1 ≤ g.1 + 1; omega, by show g.1 + 1 ≤ k + 1; omega⟩, fun d h1 h2 => ?_, by show g.1 ≤ g.1 + 1; omega, rfl⟩
    have h2 : d < g.1 + 1 := h2
    by_cases hd : d = g.1
    · subst hd
      simp only [upf_s]
      omega
    · simp only [upf_n hd]
      have := b d h1 (by omega)
      omega
  · unfold gmid
    rw [pif_f q]
    unfold gnew at q
    refine ⟨⟨by omega, by omega⟩, fun d h1 h2 => ?_, by omega, rfl⟩
    have := b d h1 h2
    omega
theorem gstep_inv {tol n k : Int} {wd ord : Int → Int} {g : GS} (h : gInv n wd ord k g) (ho : isOrd n wd ord) (hk : 0 ≤ k ∧ k < n) (hw : ∀ j : Int, 0 ≤ j → j < n → 1 ≤ wd j ∧ wd j ≤ 300) : gInv n wd ord (k + 1) (gstep tol wd g (ord k)) := by
  have hj := ho.1 k hk.1 hk.2
  have hwk := hw _ hj.1 hj.2
  obtain ⟨m1, m2, m3, m4⟩ := gmid_inv (tol := tol) h hwk hk.1
  have hg := h.2.2
  unfold gstep
  generalize gmid tol g (wd (ord k)) = q at *
  unfold gadd
  refine ⟨⟨by show 0 ≤ q.1; omega, by show q.1 ≤ k + 1; omega, fun _ => by show 1 ≤ q.1; omega⟩, fun c h1 h2 => ?_, fun i h1 h2 => ?_⟩
  · have h2 : c < q.1 := h2
    have hc := m2 c h1 h2
    by_cases hd : c = q.1 - 1
    · subst hd
      simp only [upf_s]
      omega
    · simp only [upf_n hd]
      omega
  · show 0 ≤ upf q.2.1 (ord k) (q.1 - 1) (ord i) ∧ upf q.2.1 (ord k) (q.1 - 1) (ord i) < q.1
    by_cases hi : i = k
    · subst hi; rw [upf_s]; omega
    · rw [upf_n (ord_ne ho h1 (by omega) hk.2), m4]
      have := hg i h1 (by omega)
      omega
theorem giter_inv {tol n : Int} {wd ord : Int → Int} {g0 : GS} (ho : isOrd n wd ord) (hw : ∀ j : Int, 0 ≤ j → j < n → 1 ≤ wd j ∧ wd j ≤ 300) (h0 : g0.1 = 0) : ∀ k : Nat, (k : Int) ≤ n → gInv n wd ord k (giter tol wd ord g0 k)
  | 0, _ => ⟨⟨by show 0 ≤ g0.1; omega, by show g0.1 ≤ 0; omega, fun h => by omega⟩, fun c h1 h2 => by have : c < g0.1 := h2; omega, fun i h1 h2 => by omega⟩
  | k + 1, hk => by
    have h := giter_inv (tol := tol) ho hw h0 k (by omega)
    have := gstep_inv (tol := tol) h ho (k := k) ⟨by omega, by omega⟩ hw
    exact this
theorem giterI_inv {tol n k : Int} {wd ord : Int → Int} {g0 : GS} (ho : isOrd n wd ord) (hw : ∀ j : Int, 0 ≤ j → j < n → 1 ≤ wd j ∧ wd j ≤ 300) (h0 : g0.1 = 0) (hk : 0 ≤ k ∧ k ≤ n) : gInv n wd ord k (giterI tol wd ord g0 k) := by
  have h := giter_inv (tol := tol) ho hw h0 k.toNat (by omega)
  unfold giterI
  rw [show ((k.toNat : Nat) : Int) = k by omega] at h
  exact h
/-- two runs from other rows agree where anything is told -/
def gAgree (ord : Int → Int) (k : Int) (g q : GS) : Prop := g.1 = q.1 ∧ (∀ c : Int, 0 ≤ c → c < g.1 → g.2.2.1 c = q.2.2.1 c ∧ g.2.2.2.1 c = q.2.2.2.1 c ∧ g.2.2.2.2 c = q.2.2.2.2 c) ∧ ∀ i : Int, 0 ≤ i → i < k → g.2.1 (ord i) = q.2.1 (ord i)
theorem gmid_agree {tol k : Int} {ord : Int → Int} {g q : GS} (h : gAgree ord k g q) (h0 : 0 ≤ g.1) (w : Int) : gAgree ord k (gmid tol g w) (gmid tol q w) := by
  have e : gnew tol g w ↔ gnew tol q w := by
    unfold gnew
    rw [h.1]
    by_cases z : q.1 = 0
    · simp [z]
    · have e1 := (h.2.1 (g.1 - 1) (by have := h.1; omega) (by omega)).2.1
      rw [h.1] at e1
      rw [e1]
  unfold gmid
  by_cases r : gnew tol g w
  · rw [pif_t r, pif_t (e.mp r)]
    unfold gopen
    refine ⟨by show g.1 + 1 = q.1 + 1; rw [h.1], fun c h1 h2 => ?_, h.2.2⟩
    have h2 : c < g.1 + 1 := h2
    show upf _ g.1 _ c = upf _ q.1 _ c ∧ upf _ g.1 _ c = upf _ q.1 _ c ∧ upf _ g.1 _ c = upf _ q.1 _ c
    rw [← h.1]
    by_cases hc : c = g.1
    · subst hc; simp only [upf_s]; simp
    · simp only [upf_n hc]; exact h.2.1 c h1 (by omega)
  · rw [pif_f r, pif_f (fun z => r (e.mpr z))]
    exact h
theorem gstep_agree {tol n k : Int} {wd ord : Int → Int} {g q : GS} (h : gAgree ord k g q) (ho : isOrd n wd ord) (hi : gInv n wd ord k g) (hk : 0 ≤ k ∧ k < n) (hw : 1 ≤ wd (ord k) ∧ wd (ord k) ≤ 300) : gAgree ord (k + 1) (gstep tol wd g (ord k)) (gstep tol wd q (ord k)) := by
  have hm := gmid_agree (tol := tol) h hi.1.1 (wd (ord k))
  obtain ⟨m1, m2, m3, m4⟩ := gmid_inv (tol := tol) hi hw hk.1
  unfold gstep
  generalize gmid tol g (wd (ord k)) = a at *
  generalize gmid tol q (wd (ord k)) = b at *
  unfold gadd
  refine ⟨hm.1, fun c h1 h2 => ?_, fun i h1 h2 => ?_⟩
  · have h2 : c < a.1 := h2
    show upf _ (a.1 - 1) _ c = upf _ (b.1 - 1) _ c ∧ a.2.2.2.1 c = b.2.2.2.1 c ∧ upf _ (a.1 - 1) _ c = upf _ (b.1 - 1) _ c
    rw [← hm.1]
    have hc2 := hm.2.1 c h1 h2
    by_cases hc : c = a.1 - 1
    · subst hc; simp only [upf_s]; rw [hc2.1, hc2.2.1, hc2.2.2]; simp
    · simp only [upf_n hc]; exact hc2
  · show upf _ (ord k) (a.1 - 1) (ord i) = upf _ (ord k) (b.1 - 1) (ord i)
    rw [← hm.1]
    by_cases hi : i = k
    · subst hi; simp only [upf_s]
    · rw [upf_n (ord_ne ho h1 (by omega) hk.2), upf_n (ord_ne ho h1 (by omega) hk.2)]
      exact hm.2.2 i h1 (by omega)
theorem giter_agree {tol n : Int} {wd ord : Int → Int} {g0 q0 : GS} (ho : isOrd n wd ord) (hw : ∀ j : Int, 0 ≤ j → j < n → 1 ≤ wd j ∧ wd j ≤ 300) (h0 : g0.1 = 0) (hq : q0.1 = 0) : ∀ k : Nat, (k : Int) ≤ n → gAgree ord k (giter tol wd ord g0 k) (giter tol wd ord q0 k)
  | 0, _ => ⟨by show g0.1 = q0.1; omega, fun c h1 h2 => by have : c < g0.1 := h2; omega, fun i h1 h2 => by omega⟩
  | k + 1, hk => by
    have hj := ho.1 k (by omega) (by omega)
    exact gstep_agree (giter_agree ho hw h0 hq k (by omega)) ho (giter_inv ho hw h0 k (by omega)) (k := k) ⟨by omega, by omega⟩ (hw _ hj.1 hj.2)
/-- the widths alone count -/
theorem giter_c {tol : Int} {wd wd' ord : Int → Int} {g0 : GS} : ∀ k : Nat, (∀ i : Int, 0 ≤ i → i < k → wd (ord i) = wd' (ord i)) → giter tol wd ord g0 k = giter tol wd' ord g0 k
  | 0, _ => rfl
  | k + 1, h => by
    show gstep tol wd (giter tol wd ord g0 k) (ord k) = gstep tol wd' (giter tol wd' ord g0 k) (ord k)
    rw [giter_c k (fun i h1 h2 => h i h1 (by omega))]
    unfold gstep
    rw [h k (by omega) (by omega)]
/-- the next one: of those that no class has the first of the narrowest -/
theorem ord_next {n k nx : Int} {wd ord kd : Int → Int} (ho : isOrd n wd ord) (hk : 0 ≤ k ∧ k < n) (ha : ∀ i : Int, 0 ≤ i → i < k → 0 ≤ kd (ord i)) (hu : ∀ i : Int, k ≤ i → i < n → kd (ord i) < 0)
    (h : (nx = -6 ∧ ∀ j : Int, 0 ≤ j → j < n → 0 ≤ kd j) ∨ ((0 ≤ nx ∧ nx < n) ∧ kd nx < 0 ∧ ∀ j : Int, 0 ≤ j → j < n → kd j < 0 → wd nx < wd j ∨ (wd nx = wd j ∧ nx ≤ j))) : nx = ord k := by
  have hj := ho.1 k hk.1 hk.2
  have hku := hu k (Int.le_refl _) hk.2
  rcases h with ⟨-, h⟩ | ⟨h1, h2, h3⟩
  · have := h _ hj.1 hj.2; omega
  · obtain ⟨t, t1, t2, t3⟩ := ho.2.2 nx h1.1 h1.2
    have t4 : k ≤ t := by
      rcases Int.lt_or_le t k with z | z
      · have := ha t t1 z; rw [t3] at this; omega
      · exact z
    by_cases e : t = k
    · rw [← t3, e]
    · have a := ho.2.1 k t hk.1 (by omega) t2
      have b := h3 _ hj.1 hj.2 hku
      rw [t3] at a
      omega

