/-! ===== fits (numbers alone): the least sums from a stem on, and the walk that takes the least dots ===== -/
def scost (md r : Int) (lf rt w : Int → Int) (sz i t : Int) : Int := cntz md (absz (1000 * (2 * t + w i) - (lf i + rt i) * sz)) * r
def gcost (md r : Int) (lf rt : Int → Int) (sz i g : Int) : Int := cntz md (2 * absz (1000 * g - (lf (i + 1) - rt i) * sz)) * r
def minN (f : Int → Int) (lo : Int) : Nat → Int
  | 0 => f lo
  | k + 1 => min (minN f lo k) (f (lo + (k + 1)))
def mI (f : Int → Int) (lo hi : Int) : Int := minN f lo (hi - lo).toNat
theorem mI_0 (f : Int → Int) (lo : Int) : mI f lo lo = f lo := by unfold mI; rw [Int.sub_self]; rfl
theorem mI_s {f : Int → Int} {lo hi : Int} (h : lo ≤ hi) : mI f lo (hi + 1) = min (mI f lo hi) (f (hi + 1)) := by
  unfold mI
  rw [show (hi + 1 - lo).toNat = (hi - lo).toNat + 1 by omega]
  show min (minN f lo (hi - lo).toNat) (f (lo + (((hi - lo).toNat : Nat) + 1))) = _
  rw [show lo + ((((hi - lo).toNat : Nat) : Int) + 1) = hi + 1 by omega]
theorem minN_le (f : Int → Int) (lo : Int) : ∀ (k : Nat) (j : Int), 0 ≤ j → j ≤ k → minN f lo k ≤ f (lo + j)
  | 0, j, h0, h1 => by rw [show j = 0 by omega, Int.add_zero]; exact Int.le_refl _
  | k + 1, j, h0, h1 => by
    show min (minN f lo k) (f (lo + (k + 1))) ≤ _
    by_cases hj : j = k + 1
    · subst hj; omega
    · have := minN_le f lo k j h0 (by omega); omega
theorem minN_ex (f : Int → Int) (lo : Int) : ∀ k : Nat, ∃ j : Int, 0 ≤ j ∧ j ≤ k ∧ minN f lo k = f (lo + j)
  | 0 => ⟨0, by omega, by omega, by rw [Int.add_zero]; rfl⟩
  | k + 1 => by
    obtain ⟨j, h0, h1, h2⟩ := minN_ex f lo k
    by_cases h : minN f lo k ≤ f (lo + (k + 1))
    · exact ⟨j, h0, by omega, by show min _ _ = _; rw [← h2]; omega⟩
    · exact ⟨k + 1, by omega, by omega, by show min _ _ = _; omega⟩
theorem mI_le {f : Int → Int} {lo hi x : Int} (h0 : lo ≤ x) (h1 : x ≤ hi) : mI f lo hi ≤ f x := by
  have := minN_le f lo (hi - lo).toNat (x - lo) (by omega) (by omega)
  rw [show lo + (x - lo) = x by omega] at this
  exact this
theorem mI_ex {f : Int → Int} {lo hi : Int} (h : lo ≤ hi) : ∃ x : Int, lo ≤ x ∧ x ≤ hi ∧ mI f lo hi = f x := by
  obtain ⟨j, h0, h1, h2⟩ := minN_ex f lo (hi - lo).toNat
  exact ⟨lo + j, by omega, by omega, h2⟩
theorem minN_c {f g : Int → Int} {lo : Int} : ∀ k : Nat, (∀ x : Int, lo ≤ x → x ≤ lo + k → f x = g x) → minN f lo k = minN g lo k
  | 0, h => h lo (Int.le_refl _) (by omega)
  | k + 1, h => by
    show min (minN f lo k) (f (lo + (k + 1))) = min (minN g lo k) (g (lo + (k + 1)))
    rw [minN_c k (fun x h0 h1 => h x h0 (by omega)), h (lo + (k + 1)) (by omega) (by omega)]
theorem mI_c {f g : Int → Int} {lo hi : Int} (hl : lo ≤ hi) (h : ∀ x : Int, lo ≤ x → x ≤ hi → f x = g x) : mI f lo hi = mI g lo hi :=
  minN_c _ (fun x h0 h1 => h x h0 (by omega))
theorem jn_assoc (md a b c : Int) : jn md (jn md a b) c = jn md a (jn md b c) := by
  unfold jn
  by_cases h : md < 2
  · simp only [if_pos h]; omega
  · simp only [if_neg h]; omega
/-- the least sum from a stem on, that stem at a shift from its leftmost dot -/
def VS (md : Int) (sc gc : Int → Int → Int) (n : Int) (lp : Int → Int) (room : Int) : Nat → Int → Int
  | 0, sh => sc (n - 1) (lp (n - 1) + sh)
  | d + 1, sh => jn md (sc (n - 2 - d) (lp (n - 2 - d) + sh)) (mI (fun nx => jn md (gc (n - 2 - d) (1 + (nx - sh))) (VS md sc gc n lp room d nx)) sh room)
def Vi (md : Int) (sc gc : Int → Int → Int) (n : Int) (lp : Int → Int) (room i sh : Int) : Int := VS md sc gc n lp room (n - 1 - i).toNat sh
def lsN (f : Int → Int) (al : Int) : Int → Nat → Int
  | lo, 0 => lo
  | lo, k + 1 => if f lo ≤ al then lo else lsN f al (lo + 1) k
def lsI (f : Int → Int) (al lo hi : Int) : Int := lsN f al lo (hi - lo).toNat
theorem lsN_R (f : Int → Int) (al : Int) : ∀ (k : Nat) (lo : Int), lo ≤ lsN f al lo k ∧ lsN f al lo k ≤ lo + k
  | 0, lo => by simp [lsN]
  | k + 1, lo => by
    unfold lsN
    split
    · omega
    · have := lsN_R f al k (lo + 1); omega
theorem lsN_ok (f : Int → Int) (al : Int) : ∀ (k : Nat) (lo : Int), (∃ x : Int, lo ≤ x ∧ x ≤ lo + k ∧ f x ≤ al) → f (lsN f al lo k) ≤ al ∧ ∀ j : Int, lo ≤ j → j < lsN f al lo k → al < f j
  | 0, lo, ⟨x, h0, h1, h2⟩ => by
    have : x = lo := by omega
    subst this
    exact ⟨h2, fun j a b => by simp [lsN] at b; omega⟩
  | k + 1, lo, ⟨x, h0, h1, h2⟩ => by
    unfold lsN
    by_cases h : f lo ≤ al
    · rw [if_pos h]; exact ⟨h, fun j a b => by omega⟩
    · rw [if_neg h]
      have hx : lo ≠ x := fun e => h (e ▸ h2)
      obtain ⟨a, b⟩ := lsN_ok f al k (lo + 1) ⟨x, by omega, by omega, h2⟩
      refine ⟨a, fun j c d => ?_⟩
      by_cases hj : j = lo
      · subst hj; omega
      · exact b j (by omega) d
theorem lsI_R {f : Int → Int} {al lo hi : Int} (h : lo ≤ hi) : lo ≤ lsI f al lo hi ∧ lsI f al lo hi ≤ hi := by
  have := lsN_R f al (hi - lo).toNat lo
  unfold lsI; omega
theorem lsI_ok {f : Int → Int} {al lo hi : Int} (h : ∃ x : Int, lo ≤ x ∧ x ≤ hi ∧ f x ≤ al) : f (lsI f al lo hi) ≤ al ∧ ∀ j : Int, lo ≤ j → j < lsI f al lo hi → al < f j := by
  obtain ⟨x, h0, h1, h2⟩ := h
  exact lsN_ok f al (hi - lo).toNat lo ⟨x, h0, by omega, h2⟩
theorem lsI_t {f : Int → Int} {al lo hi : Int} (h : f lo ≤ al ∨ hi ≤ lo) (hl : lo ≤ hi) : lsI f al lo hi = lo := by
  unfold lsI
  by_cases e : hi ≤ lo
  · rw [show (hi - lo).toNat = 0 by omega]; rfl
  · rw [show (hi - lo).toNat = (hi - lo - 1).toNat + 1 by omega]
    show (if f lo ≤ al then lo else _) = lo
    rw [if_pos (by omega)]
theorem lsI_f {f : Int → Int} {al lo hi : Int} (h : al < f lo) (hl : lo < hi) : lsI f al lo hi = lsI f al (lo + 1) hi := by
  unfold lsI
  rw [show (hi - lo).toNat = (hi - (lo + 1)).toNat + 1 by omega]
  show (if f lo ≤ al then lo else _) = _
  rw [if_neg (by omega)]
def wo (md al c : Int) : Int := if md < 2 then al - c else al
section FITS
variable {md : Int} {sc gc : Int → Int → Int} {n : Int} {lp : Int → Int} {room : Int}
theorem Vi_last (sh : Int) : Vi md sc gc n lp room (n - 1) sh = sc (n - 1) (lp (n - 1) + sh) := by
  unfold Vi; rw [show (n - 1 - (n - 1)).toNat = 0 by omega]; rfl
theorem Vi_step {i : Int} (h0 : 0 ≤ i) (h1 : i < n - 1) (sh : Int) : Vi md sc gc n lp room i sh = jn md (sc i (lp i + sh)) (mI (fun nx => jn md (gc i (1 + (nx - sh))) (Vi md sc gc n lp room (i + 1) nx)) sh room) := by
  unfold Vi
  rw [show (n - 1 - i).toNat = (n - 1 - (i + 1)).toNat + 1 by omega]
  show jn md (sc (n - 2 - (((n - 1 - (i + 1)).toNat : Nat) : Int)) (lp (n - 2 - (((n - 1 - (i + 1)).toNat : Nat) : Int)) + sh)) (mI (fun nx => jn md (gc (n - 2 - (((n - 1 - (i + 1)).toNat : Nat) : Int)) (1 + (nx - sh))) _) sh room) = _
  rw [show n - 2 - (((n - 1 - (i + 1)).toNat : Nat) : Int) = i by omega]
/-- what must come out at a stem, the one before it at a shift -/
def fS (md : Int) (sc gc : Int → Int → Int) (n : Int) (lp : Int → Int) (room i b nx : Int) : Int :=
  if i = 0 then Vi md sc gc n lp room 0 nx else jn md (gc (i - 1) (1 + (nx - b))) (Vi md sc gc n lp room i nx)
def whl (md : Int) (sc gc : Int → Int → Int) (n : Int) (lp : Int → Int) (room : Int) : Int := mI (Vi md sc gc n lp room 0) 0 room
/-- the shift of the stem taken last, and what is still allowed -/
def SEL (md : Int) (sc gc : Int → Int → Int) (n : Int) (lp : Int → Int) (room : Int) : Nat → Int × Int
  | 0 => (0, whl md sc gc n lp room)
  | i + 1 =>
    (lsI (fS md sc gc n lp room i (SEL md sc gc n lp room i).1) (SEL md sc gc n lp room i).2 (SEL md sc gc n lp room i).1 room,
     if i = 0 then wo md (SEL md sc gc n lp room i).2 (sc i (lp i + lsI (fS md sc gc n lp room i (SEL md sc gc n lp room i).1) (SEL md sc gc n lp room i).2 (SEL md sc gc n lp room i).1 room))
     else wo md (wo md (SEL md sc gc n lp room i).2 (sc i (lp i + lsI (fS md sc gc n lp room i (SEL md sc gc n lp room i).1) (SEL md sc gc n lp room i).2 (SEL md sc gc n lp room i).1 room)))
       (gc ((i : Int) - 1) (1 + (lsI (fS md sc gc n lp room i (SEL md sc gc n lp room i).1) (SEL md sc gc n lp room i).2 (SEL md sc gc n lp room i).1 room - (SEL md sc gc n lp room i).1))))
def selI (md : Int) (sc gc : Int → Int → Int) (n : Int) (lp : Int → Int) (room i : Int) : Int × Int := SEL md sc gc n lp room i.toNat
theorem selI_0 : selI md sc gc n lp room 0 = (0, whl md sc gc n lp room) := rfl
theorem selI_s {i : Int} (h : 0 ≤ i) : selI md sc gc n lp room (i + 1) =
    (lsI (fS md sc gc n lp room i (selI md sc gc n lp room i).1) (selI md sc gc n lp room i).2 (selI md sc gc n lp room i).1 room,
     if i = 0 then wo md (selI md sc gc n lp room i).2 (sc i (lp i + (lsI (fS md sc gc n lp room i (selI md sc gc n lp room i).1) (selI md sc gc n lp room i).2 (selI md sc gc n lp room i).1 room)))
     else wo md (wo md (selI md sc gc n lp room i).2 (sc i (lp i + (lsI (fS md sc gc n lp room i (selI md sc gc n lp room i).1) (selI md sc gc n lp room i).2 (selI md sc gc n lp room i).1 room))))
       (gc (i - 1) (1 + ((lsI (fS md sc gc n lp room i (selI md sc gc n lp room i).1) (selI md sc gc n lp room i).2 (selI md sc gc n lp room i).1 room) - (selI md sc gc n lp room i).1)))) := by
  unfold selI
  rw [show (i + 1).toNat = i.toNat + 1 by omega]
  show (_, _) = _
  rw [show ((i.toNat : Nat) : Int) = i by omega]
  have e : (i.toNat = 0) = (i = 0) := by apply propext; omega
  simp only [e]
/-- the invariant of the walk -/
def selOK (md : Int) (sc gc : Int → Int → Int) (n : Int) (lp : Int → Int) (room i b al : Int) : Prop :=
  (0 ≤ b ∧ b ≤ room) ∧ (∃ x : Int, b ≤ x ∧ x ≤ room ∧ fS md sc gc n lp room i b x ≤ al) ∧ (md < 2 → ∀ x : Int, b ≤ x → x ≤ room → al ≤ fS md sc gc n lp room i b x)
theorem sel_ok (hr : 0 ≤ room) : ∀ i : Nat, (i : Int) < n → selOK md sc gc n lp room i (SEL md sc gc n lp room i).1 (SEL md sc gc n lp room i).2
  | 0, _ => by
    refine ⟨⟨Int.le_refl _, hr⟩, ?_, fun _ x h0 h1 => ?_⟩
    · obtain ⟨x, h0, h1, h2⟩ := mI_ex (f := Vi md sc gc n lp room 0) hr
      exact ⟨x, h0, h1, by show (if (0 : Int) = 0 then Vi md sc gc n lp room 0 x else _) ≤ mI _ 0 room; rw [if_pos rfl, h2]; exact Int.le_refl _⟩
    · show mI (Vi md sc gc n lp room 0) 0 room ≤ (if (0 : Int) = 0 then Vi md sc gc n lp room 0 x else _)
      rw [if_pos rfl]
      exact mI_le h0 h1
  | i + 1, hi => by
    obtain ⟨⟨a1, a2⟩, a3, a4⟩ := sel_ok hr i (by omega)
    have hs := selI_s (md := md) (sc := sc) (gc := gc) (n := n) (lp := lp) (room := room) (i := (i : Int)) (by omega)
    have e1 : selI md sc gc n lp room ((i : Int) + 1) = SEL md sc gc n lp room (i + 1) := by unfold selI; rw [show ((i : Int) + 1).toNat = i + 1 by omega]
    have e2 : selI md sc gc n lp room (i : Int) = SEL md sc gc n lp room i := by unfold selI; rw [Int.toNat_natCast]
    rw [e1, e2] at hs
    obtain ⟨b, al, hp⟩ : ∃ b al, SEL md sc gc n lp room i = (b, al) := ⟨_, _, rfl⟩
    rw [hp] at a1 a2 a3 a4 hs
    simp only at a1 a2 a3 a4 hs
    have hR := lsI_R (f := fS md sc gc n lp room i b) (al := al) a2
    have hok := lsI_ok a3
    generalize lsI (fS md sc gc n lp room i b) al b room = s at hs hR hok
    rw [hs]
    simp only
    have hv := Vi_step (md := md) (sc := sc) (gc := gc) (n := n) (lp := lp) (room := room) (i := (i : Int)) (by omega) (by omega) s
    have hf : ∀ x : Int, fS md sc gc n lp room ((i + 1 : Nat) : Int) s x = jn md (gc i (1 + (x - s))) (Vi md sc gc n lp room (i + 1) x) := by
      intro x
      unfold fS
      rw [if_neg (by omega), show (((i + 1 : Nat) : Int) - 1) = i by omega]
      rfl
    have hm := mI_ex (f := fun nx => jn md (gc i (1 + (nx - s))) (Vi md sc gc n lp room (i + 1) nx)) hR.2
    have hml := fun x (h0 : s ≤ x) (h1 : x ≤ room) => mI_le (f := fun nx => jn md (gc i (1 + (nx - s))) (Vi md sc gc n lp room (i + 1) nx)) h0 h1
    generalize mI (fun nx => jn md (gc i (1 + (nx - s))) (Vi md sc gc n lp room (i + 1) nx)) s room = mm at hv hm hml
    have hfs := hok.1
    refine ⟨⟨by omega, hR.2⟩, ?_, fun hmd x h0 h1 => ?_⟩
    · obtain ⟨x, h0, h1, h2⟩ := hm
      refine ⟨x, h0, h1, ?_⟩
      rw [hf x, ← h2]
      unfold fS at hfs
      by_cases hi0 : (i : Int) = 0
      · rw [if_pos hi0] at hfs ⊢
        rw [hi0] at hv
        rw [hv] at hfs
        rw [hi0]
        unfold wo jn at *
        by_cases hmd : md < 2
        · rw [if_pos hmd] at hfs ⊢; omega
        · rw [if_neg hmd] at hfs ⊢; omega
      · rw [if_neg hi0] at hfs ⊢
        rw [hv] at hfs
        unfold wo jn at *
        by_cases hmd : md < 2
        · simp only [if_pos hmd] at hfs ⊢; omega
        · simp only [if_neg hmd] at hfs ⊢; omega
    · have h4 := a4 hmd s hR.1 hR.2
      have h5 := hml x h0 h1
      rw [hf x]
      unfold fS at h4
      by_cases hi0 : (i : Int) = 0
      · rw [if_pos hi0] at h4 ⊢
        rw [hi0] at hv
        rw [hv] at h4
        rw [hi0] at h5 ⊢
        unfold wo jn at *
        simp only [if_pos hmd] at h4 h5 ⊢
        omega
      · rw [if_neg hi0] at h4 ⊢
        rw [hv] at h4
        unfold wo jn at *
        simp only [if_pos hmd] at h4 h5 ⊢
        omega
end FITS
