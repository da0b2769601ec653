/-! ===== fits (numbers alone): the reference's walk ===== -/
theorem jn_comm (md a b : Int) : jn md a b = jn md b a := by unfold jn; split <;> omega
/-- the least of those come so far; a great number where there is none -/
def mS8 (g : Int → Int) (sh rm c : Int) : Int := if sh ≤ min c rm then mI g sh (min c rm) else 1000000000000000
theorem mS_0 {g : Int → Int} {sh rm c : Int} (h : c < sh) : mS8 g sh rm c = 1000000000000000 := if_neg (by omega)
theorem mS_n {g : Int → Int} {sh rm c : Int} (h : rm < sh) : mS8 g sh rm c = 1000000000000000 := if_neg (by omega)
theorem mS_e {g : Int → Int} {sh rm c : Int} (h : sh ≤ rm) (h2 : rm ≤ c) : mS8 g sh rm c = mI g sh rm := by
  unfold mS8
  rw [show min c rm = rm by omega, if_pos h]
theorem mS_R {g : Int → Int} {sh rm c : Int} (hg : ∀ x, sh ≤ x → x ≤ rm → 0 ≤ g x ∧ g x < 1000000000000000) : 0 ≤ mS8 g sh rm c ∧ mS8 g sh rm c ≤ 1000000000000000 := by
  unfold mS8
  split
  · rename_i h
    obtain ⟨x, h0, h1, h2⟩ := mI_ex (f := g) h
    have := hg x h0 (by omega)
    omega
  · omega
theorem mS_f {g : Int → Int} {sh rm c : Int} (h : rm < c + 1) : mS8 g sh rm (c + 1) = mS8 g sh rm c := by
  unfold mS8
  rw [show min (c + 1) rm = min c rm by omega]
theorem mS_t {g : Int → Int} {sh rm c : Int} (h : c + 1 ≤ rm) (h2 : sh ≤ c + 1) (h3 : g (c + 1) < 1000000000000000) : mS8 g sh rm (c + 1) = if g (c + 1) < mS8 g sh rm c then g (c + 1) else mS8 g sh rm c := by
  unfold mS8
  rw [show min (c + 1) rm = c + 1 by omega, show min c rm = c by omega, if_pos h2]
  by_cases q : sh ≤ c
  · rw [if_pos q, mI_s q]; split <;> omega
  · rw [if_neg q, show sh = c + 1 by omega, mI_0, if_pos h3]
section FITS2
variable {md : Int} {sc gc : Int → Int → Int} {n : Int} {lp : Int → Int} {room : Int}
/-- what is used up, beside what is still allowed -/
def hadQ (md : Int) (sc gc : Int → Int → Int) (n : Int) (lp : Int → Int) (room i b al had : Int) : Prop := 0 ≤ had ∧ (md < 2 → had + al = whl md sc gc n lp room) ∧ (¬ md < 2 → al = whl md sc gc n lp room ∧ had ≤ whl md sc gc n lp room ∧ ∀ x, b ≤ x → x ≤ room → whl md sc gc n lp room ≤ max had (fS md sc gc n lp room i b x))
theorem had_iff {i b al had x : Int} (hq : hadQ md sc gc n lp room i b al had) (hs : selOK md sc gc n lp room i b al) (h0 : b ≤ x) (h1 : x ≤ room) : jn md had (fS md sc gc n lp room i b x) = whl md sc gc n lp room ↔ fS md sc gc n lp room i b x ≤ al := by
  obtain ⟨p0, p1, p2⟩ := hq
  obtain ⟨-, -, s3⟩ := hs
  unfold jn
  by_cases h : md < 2
  · have a := p1 h
    have c := s3 h x h0 h1
    simp only [if_pos h]
    omega
  · have a := p2 h
    have c := a.2.2 x h0 h1
    simp only [if_neg h]
    omega
theorem had_0 (hr : 0 ≤ room) (hw : 0 ≤ whl md sc gc n lp room) : hadQ md sc gc n lp room 0 0 (whl md sc gc n lp room) 0 := by
  refine ⟨Int.le_refl _, fun _ => by omega, fun _ => ⟨rfl, hw, fun x h0 h1 => ?_⟩⟩
  have e : fS md sc gc n lp room 0 0 x = Vi md sc gc n lp room 0 x := if_pos rfl
  have : whl md sc gc n lp room ≤ Vi md sc gc n lp room 0 x := mI_le h0 h1
  rw [e]
  omega
theorem had_s {i b al had s : Int} (h0 : 0 ≤ i) (hi : i + 1 < n) (hq : hadQ md sc gc n lp room i b al had) (h1 : b ≤ s) (h2 : s ≤ room) (hfs : fS md sc gc n lp room i b s ≤ al) (hsc : 0 ≤ sc i (lp i + s)) (hgc : i ≠ 0 → 0 ≤ gc (i - 1) (1 + (s - b))) :
    hadQ md sc gc n lp room (i + 1) s (if i = 0 then wo md al (sc i (lp i + s)) else wo md (wo md al (sc i (lp i + s))) (gc (i - 1) (1 + (s - b)))) (jn md (if i = 0 then had else jn md had (gc (i - 1) (1 + (s - b)))) (sc i (lp i + s))) := by
  obtain ⟨p0, p1, p2⟩ := hq
  have hv := Vi_step (md := md) (sc := sc) (gc := gc) (n := n) (lp := lp) (room := room) h0 (by omega) s
  have hml := fun x (h0 : s ≤ x) (h1 : x ≤ room) => mI_le (f := fun nx => jn md (gc i (1 + (nx - s))) (Vi md sc gc n lp room (i + 1) nx)) h0 h1
  have hf : ∀ x : Int, fS md sc gc n lp room (i + 1) s x = jn md (gc i (1 + (x - s))) (Vi md sc gc n lp room (i + 1) x) := by
    intro x
    unfold fS
    rw [if_neg (by omega), show i + 1 - 1 = i by omega]
  generalize mI (fun nx => jn md (gc i (1 + (nx - s))) (Vi md sc gc n lp room (i + 1) nx)) s room = mm at hv hml
  by_cases h : md < 2
  · have a := p1 h
    refine ⟨?_, fun _ => ?_, fun z => absurd h z⟩
    · unfold jn
      by_cases c : i = 0
      · simp only [if_pos c, if_pos h]; omega
      · have := hgc c
        simp only [if_neg c, if_pos h]; omega
    · unfold jn wo
      by_cases c : i = 0
      · simp only [if_pos c, if_pos h]; omega
      · simp only [if_neg c, if_pos h]; omega
  · have a := p2 h
    have w := a.2.2 s h1 h2
    refine ⟨?_, fun z => absurd z h, fun _ => ⟨?_, ?_, fun x x0 x1 => ?_⟩⟩
    · unfold jn
      by_cases c : i = 0
      · simp only [if_pos c, if_neg h]; omega
      · have := hgc c
        simp only [if_neg c, if_neg h]; omega
    · unfold wo
      by_cases c : i = 0
      · simp only [if_pos c, if_neg h]; omega
      · simp only [if_neg c, if_neg h]; omega
    · unfold fS at hfs
      unfold jn at hfs hv ⊢
      by_cases c : i = 0
      · subst c
        simp only [if_neg h, if_pos] at hfs hv ⊢
        omega
      · simp only [if_neg c, if_neg h] at hfs hv ⊢
        omega
    · have h5 := hml x x0 x1
      rw [hf x]
      unfold fS at w
      unfold jn at w hv h5 ⊢
      by_cases c : i = 0
      · subst c
        simp only [if_neg h, if_pos] at w hv h5 ⊢
        omega
      · simp only [if_neg c, if_neg h] at w hv h5 ⊢
        omega
end FITS2
/-! ===== the reference: fits ===== -/
def rulL (L : Mem) : Prop := (0 ≤ L 2 1 ∧ L 2 1 ≤ 9) ∧ (0 ≤ L 2 2 ∧ L 2 2 ≤ 9) ∧ (0 ≤ L 2 3 ∧ L 2 3 ≤ 3) ∧ (0 ≤ L 2 4 ∧ L 2 4 ≤ 3)
def scL (L : Mem) (sz : Int) : Int → Int → Int := scost (L 2 3) (L 2 1) (L 5) (L 6) (wL L sz) sz
def gcL (L : Mem) (sz : Int) : Int → Int → Int := gcost (L 2 3) (L 2 2) (L 5) (L 6) sz
def lpL (L : Mem) (sz : Int) : Int → Int := lpp (wL L sz)
def rmL (L : Mem) (sz : Int) : Int := if L 0 11 ≤ 0 then 0 else sz - lpL L sz (L 0 11 - 1) - wL L sz (L 0 11 - 1)
def VL (L : Mem) (sz i : Int) : Int → Int := Vi (L 2 3) (scL L sz) (gcL L sz) (L 0 11) (lpL L sz) (rmL L sz) i
def SELL (L : Mem) (sz i : Int) : Int × Int := selI (L 2 3) (scL L sz) (gcL L sz) (L 0 11) (lpL L sz) (rmL L sz) i
def whlL (L : Mem) (sz : Int) : Int := whl (L 2 3) (scL L sz) (gcL L sz) (L 0 11) (lpL L sz) (rmL L sz)
def FSL (L : Mem) (sz v : Int) : Int → Int := fS (L 2 3) (scL L sz) (gcL L sz) (L 0 11) (lpL L sz) (rmL L sz) v (SELL L sz v).1
def dotL (L : Mem) (sz s : Int) : Int := lpL L sz s + (SELL L sz (s + 1)).1
def leastL (L : Mem) (sz : Int) : Int := if L 0 11 ≤ 0 then 0 else whlL L sz
def okL (L : Mem) (sz : Int) : Prop := ∀ s, 0 ≤ s → s < L 0 11 → lpL L sz s + wL L sz s ≤ sz
def FR8 (L : Mem) (sz i t : Int) : Int := if t - lpL L sz i ≤ rmL L sz then VL L sz i (t - lpL L sz i) else 1000000000000000
def FN8 (L : Mem) (sz v sh : Int) : Int → Int := fun nx => jn (L 2 3) (gcL L sz v (1 + (nx - sh))) (VL L sz (v + 1) nx)
def had8 (L : Mem) (sz v had : Int) : Prop := hadQ (L 2 3) (scL L sz) (gcL L sz) (L 0 11) (lpL L sz) (rmL L sz) v (SELL L sz v).1 (SELL L sz v).2 had
def hadN (L : Mem) (sz v had : Int) : Int := jn (L 2 3) (if v = 0 then had else jn (L 2 3) had (gcL L sz (v - 1) (1 + ((SELL L sz (v + 1)).1 - (SELL L sz v).1)))) (scL L sz v (lpL L sz v + (SELL L sz (v + 1)).1))
def lfQ (M : Mem) (ord : Int → Int) (sz z : Int) (M' : Mem) : Prop := keepR M M' ∧ z = zC (okL (laid M ord) sz) ∧ (okL (laid M ord) sz → M' 0 20 = leastL (laid M ord) sz ∧ ∀ s, 0 ≤ s → s < laid M ord 0 11 → M' 15 s = dotL (laid M ord) sz s ∧ M' 16 s = wL (laid M ord) sz s) ∧ M' 0 11 = laid M ord 0 11 ∧ M' 5 = laid M ord 5 ∧ M' 6 = laid M ord 6
theorem lpL_0 (L : Mem) (sz : Int) : lpL L sz 0 = 0 := rfl
section LFIT
variable {L : Mem} {sz : Int}
theorem rul4 (hR : rulL L) : 0 ≤ L 2 4 ∧ L 2 4 ≤ 3 := hR.2.2.2
theorem lpL_le (h : lOK L) (hR : rulL L) (hz : 1 ≤ sz ∧ sz ≤ 60) : ∀ (k : Nat) (i : Int), 0 ≤ i → i + k < L 0 11 → lpL L sz i + wL L sz i + k ≤ lpL L sz (i + k) + wL L sz (i + k)
  | 0, i, h0, h1 => by rw [show i + ((0 : Nat) : Int) = i by omega]; omega
  | k + 1, i, h0, h1 => by
    have a := lpL_le h hR hz k i h0 (by omega)
    have b := lpp_s (w := wL L sz) (i := i + k) (by omega)
    have c := wL_R h hR.2.2.2 hz (s := i + (k + 1 : Nat)) (by omega) (by omega)
    rw [show i + ((k + 1 : Nat) : Int) = i + k + 1 by omega] at c ⊢
    unfold lpL at a ⊢
    omega
theorem rmL_e (h : 0 < L 0 11) : rmL L sz = sz - lpL L sz (L 0 11 - 1) - wL L sz (L 0 11 - 1) := if_neg (by omega)
theorem lpL_up0 (h : lOK L) (hR : rulL L) (hz : 1 ≤ sz ∧ sz ≤ 60) {i : Int} (h0 : 0 ≤ i) (h1 : i < L 0 11) : lpL L sz i + wL L sz i + rmL L sz ≤ sz := by
  have a := lpL_le h hR hz (L 0 11 - 1 - i).toNat i h0 (by omega)
  rw [show i + (((L 0 11 - 1 - i).toNat : Nat) : Int) = L 0 11 - 1 by omega] at a
  rw [rmL_e (by omega)]
  omega
theorem lpL_R0 (h : lOK L) (hR : rulL L) (hz : 1 ≤ sz ∧ sz ≤ 60) {i : Int} (h0 : 0 ≤ i) (h1 : i ≤ L 0 11) : 0 ≤ lpL L sz i ∧ lpL L sz i ≤ 22 * i := lpL_R h hR.2.2.2 hz i h0 h1
theorem okL_iff (h : lOK L) (hR : rulL L) (hz : 1 ≤ sz ∧ sz ≤ 60) (hn : 0 < L 0 11) : okL L sz ↔ 0 ≤ rmL L sz := by
  constructor
  · intro q
    have := q (L 0 11 - 1) (by omega) (by omega)
    rw [rmL_e hn]; omega
  · intro q s a b
    have := lpL_up0 h hR hz a b
    omega
theorem scL_R (h : lOK L) (hR : rulL L) (hz : 1 ≤ sz ∧ sz ≤ 60) {v p : Int} (h0 : 0 ≤ v ∧ v < L 0 11) (h1 : 0 ≤ p ∧ p ≤ 60) : 0 ≤ scL L sz v p ∧ scL L sz v p ≤ 1000000000 := by
  have a := h.2.2.1 v h0.1 h0.2
  have b := wL_R h hR.2.2.2 hz h0.1 h0.2
  exact scost_R hR.1 a.1 a.2.1 (by omega) (by omega) h1
theorem gcL_R (h : lOK L) (hR : rulL L) (hz : 1 ≤ sz ∧ sz ≤ 60) {v g : Int} (h0 : 0 ≤ v ∧ v + 1 < L 0 11) (h1 : 0 ≤ g ∧ g ≤ 61) : 0 ≤ gcL L sz v g ∧ gcL L sz v g ≤ 1000000000 :=
  gcost_R hR.2.1 (h.2.2.1 (v + 1) (by omega) (by omega)).1 (h.2.2.1 v (by omega) (by omega)).2.1 (by omega) h1
theorem VL_R (h : lOK L) (hR : rulL L) (hz : 1 ≤ sz ∧ sz ≤ 60) {i x : Int} (h0 : 0 ≤ i) (h1 : i < L 0 11) (h2 : -lpL L sz i ≤ x) (h3 : x ≤ rmL L sz) : 0 ≤ VL L sz i x ∧ VL L sz i x ≤ 20000000000 := by
  refine Vi_R h.1.2 (fun i sh a b c d => ?_) (fun i sh nx a b c d e => ?_) (fun i a b => ?_) h0 h1 h2 h3
  · have := lpL_up0 h hR hz a b
    have := wL_R h hR.2.2.2 hz a b
    exact scL_R h hR hz ⟨a, b⟩ (by omega)
  · have := lpL_up0 h hR hz a (by omega : i < L 0 11)
    have := wL_R h hR.2.2.2 hz a (by omega : i < L 0 11)
    exact gcL_R h hR hz ⟨a, by omega⟩ (by omega)
  · have := lpp_s (w := wL L sz) (i := i) a
    have := wL_R h hR.2.2.2 hz a (by omega : i < L 0 11)
    unfold lpL
    omega
theorem VL_lt (h : lOK L) (hR : rulL L) (hz : 1 ≤ sz ∧ sz ≤ 60) {i x : Int} (h0 : 0 ≤ i) (h1 : i < L 0 11) (h2 : -lpL L sz i ≤ x) (h3 : x ≤ rmL L sz) : 0 ≤ VL L sz i x ∧ VL L sz i x < 1000000000000000 := by
  have := VL_R h hR hz h0 h1 h2 h3; omega
theorem FN8_R (h : lOK L) (hR : rulL L) (hz : 1 ≤ sz ∧ sz ≤ 60) {v sh x : Int} (h0 : 0 ≤ v) (h1 : v + 1 < L 0 11) (h2 : -lpL L sz v ≤ sh) (h3 : sh ≤ x) (h4 : x ≤ rmL L sz) : 0 ≤ FN8 L sz v sh x ∧ FN8 L sz v sh x < 1000000000000000 := by
  have a := lpL_up0 h hR hz h0 (by omega : v < L 0 11)
  have b := wL_R h hR.2.2.2 hz h0 (by omega : v < L 0 11)
  have c := lpp_s (w := wL L sz) (i := v) h0
  have d : lpL L sz (v + 1) = lpL L sz v + wL L sz v + 1 := c
  have g := gcL_R h hR hz (v := v) (g := 1 + (x - sh)) ⟨h0, h1⟩ (by omega)
  have u := VL_R h hR hz (i := v + 1) (x := x) (by omega) h1 (by omega) h4
  have w := jn_R (L 2 3) g u
  unfold FN8
  omega
theorem FR8_R (h : lOK L) (hR : rulL L) (hz : 1 ≤ sz ∧ sz ≤ 60) {v p : Int} (h0 : 0 ≤ v) (h1 : v < L 0 11) (h2 : 0 ≤ p) : 0 ≤ FR8 L sz v p ∧ FR8 L sz v p ≤ 1000000000000000 ∧ (FR8 L sz v p < 1000000000000000 ↔ p - lpL L sz v ≤ rmL L sz) := by
  unfold FR8
  by_cases c : p - lpL L sz v ≤ rmL L sz
  · have := VL_R h hR hz h0 h1 (x := p - lpL L sz v) (by omega) c
    rw [if_pos c]; omega
  · rw [if_neg c]; omega
theorem FR8_t {v p : Int} (h : p - lpL L sz v ≤ rmL L sz) : FR8 L sz v p = VL L sz v (p - lpL L sz v) := if_pos h
theorem FR8_f {v p : Int} (h : rmL L sz < p - lpL L sz v) : FR8 L sz v p = 1000000000000000 := if_neg (by omega)
theorem FR8_last (hn : 0 < L 0 11) (h : lOK L) (hR : rulL L) (hz : 1 ≤ sz ∧ sz ≤ 60) {v p : Int} (hv : v = L 0 11 - 1) (hp : 0 ≤ p) (h1 : p + wL L sz v ≤ sz) : jn (L 2 3) 0 (scL L sz v p) = FR8 L sz v p := by
  have hw := wL_R h hR.2.2.2 hz (s := v) (by omega) (by omega)
  have hs := scL_R h hR hz (v := v) (p := p) ⟨by omega, by omega⟩ (by omega)
  have hr := rmL_e (L := L) (sz := sz) hn
  rw [← hv] at hr
  rw [FR8_t (by omega)]
  have e : VL L sz v (p - lpL L sz v) = scL L sz v p := by
    unfold VL
    rw [hv, Vi_last]
    congr 1
    omega
  rw [e]
  unfold jn
  split <;> omega
theorem FR8_in (h : lOK L) (hR : rulL L) (hz : 1 ≤ sz ∧ sz ≤ 60) {v p y : Int} (h0 : 0 ≤ v) (hv : v < L 0 11 - 1) (hp : 0 ≤ p) (hy : 61 ≤ y) (hl : mS8 (FN8 L sz v (p - lpL L sz v)) (p - lpL L sz v) (rmL L sz) (y - 1 - lpL L sz (v + 1)) < 1000000000000000) : jn (L 2 3) (mS8 (FN8 L sz v (p - lpL L sz v)) (p - lpL L sz v) (rmL L sz) (y - 1 - lpL L sz (v + 1))) (scL L sz v p) = FR8 L sz v p := by
  have a := lpL_up0 h hR hz (i := v + 1) (by omega) (by omega)
  have b := wL_R h hR.2.2.2 hz (s := v + 1) (by omega) (by omega)
  by_cases c : p - lpL L sz v ≤ rmL L sz
  · rw [mS_e c (by omega), FR8_t c]
    unfold VL
    rw [Vi_step h0 hv, jn_comm, show lpL L sz v + (p - lpL L sz v) = p by omega]
    rfl
  · rw [mS_n (by omega)] at hl
    omega
theorem FR8_no (h : lOK L) (hR : rulL L) (hz : 1 ≤ sz ∧ sz ≤ 60) {v p y : Int} (h0 : 0 ≤ v) (hv : v < L 0 11 - 1) (hp : 0 ≤ p) (hy : 61 ≤ y) (hl : 1000000000000000 ≤ mS8 (FN8 L sz v (p - lpL L sz v)) (p - lpL L sz v) (rmL L sz) (y - 1 - lpL L sz (v + 1))) : 1000000000000000 = FR8 L sz v p := by
  have a := lpL_up0 h hR hz (i := v + 1) (by omega) (by omega)
  have b := wL_R h hR.2.2.2 hz (s := v + 1) (by omega) (by omega)
  by_cases c : p - lpL L sz v ≤ rmL L sz
  · rw [mS_e c (by omega)] at hl
    obtain ⟨x, h2, h3, h4⟩ := mI_ex (f := FN8 L sz v (p - lpL L sz v)) c
    have := FN8_R h hR hz h0 (by omega) (by omega) h2 h3
    omega
  · exact (FR8_f (by omega)).symm
theorem in_skip (h : lOK L) (hR : rulL L) (hz : 1 ≤ sz ∧ sz ≤ 60) {g : Int → Int} {v sh y le : Int} (h0 : 0 ≤ v) (hv : v < L 0 11 - 1) (hy : 0 ≤ y) (hl : le = mS8 g sh (rmL L sz) (y - 1 - lpL L sz (v + 1))) (hf : 1000000000000000 ≤ FR8 L sz (v + 1) y) : le = mS8 g sh (rmL L sz) (y + 1 - 1 - lpL L sz (v + 1)) := by
  have a := (FR8_R h hR hz (v := v + 1) (p := y) (by omega) (by omega) hy).2.2
  rw [show y + 1 - 1 - lpL L sz (v + 1) = (y - 1 - lpL L sz (v + 1)) + 1 by omega, mS_f (by omega)]
  exact hl
theorem in_take (h : lOK L) (hR : rulL L) (hz : 1 ≤ sz ∧ sz ≤ 60) {v p y le cand : Int} (h0 : 0 ≤ v) (hv : v < L 0 11 - 1) (hp : 0 ≤ p) (hy : p + wL L sz v + 1 ≤ y) (hl : le = mS8 (FN8 L sz v (p - lpL L sz v)) (p - lpL L sz v) (rmL L sz) (y - 1 - lpL L sz (v + 1))) (hf : FR8 L sz (v + 1) y < 1000000000000000) (hc : cand = jn (L 2 3) (gcL L sz v ((y - p) - wL L sz v)) (FR8 L sz (v + 1) y)) {le2 : Int} (h2 : (cand < le ∧ le2 = cand) ∨ (le ≤ cand ∧ le2 = le)) : le2 = mS8 (FN8 L sz v (p - lpL L sz v)) (p - lpL L sz v) (rmL L sz) (y + 1 - 1 - lpL L sz (v + 1)) := by
  have wv := wL_R h hR.2.2.2 hz h0 (by omega : v < L 0 11)
  have a := (FR8_R h hR hz (v := v + 1) (p := y) (by omega) (by omega) (by omega)).2.2.mp hf
  have d : lpL L sz (v + 1) = lpL L sz v + wL L sz v + 1 := lpp_s h0
  have e : cand = FN8 L sz v (p - lpL L sz v) (y - lpL L sz (v + 1)) := by
    rw [hc, FR8_t a]
    unfold FN8
    rw [show 1 + (y - lpL L sz (v + 1) - (p - lpL L sz v)) = (y - p) - wL L sz v by omega]
  have r := FN8_R h hR hz (sh := p - lpL L sz v) (x := y - lpL L sz (v + 1)) h0 (by omega) (by omega) (by omega) a
  rw [show y + 1 - 1 - lpL L sz (v + 1) = (y - 1 - lpL L sz (v + 1)) + 1 by omega, mS_t (by omega) (by omega) (by rw [show y - 1 - lpL L sz (v + 1) + 1 = y - lpL L sz (v + 1) by omega]; exact r.2), ← hl, show y - 1 - lpL L sz (v + 1) + 1 = y - lpL L sz (v + 1) by omega, ← e]
  rcases h2 with q | q
  · rw [if_pos q.1]; exact q.2
  · rw [if_neg (by omega)]; exact q.2
theorem wh_step (h : lOK L) (hR : rulL L) (hz : 1 ≤ sz ∧ sz ≤ 60) (hn : 0 < L 0 11) {k wh wh2 : Int} (hk : 0 ≤ k) (hw : wh = mS8 (VL L sz 0) 0 (rmL L sz) (k - 1)) (h2 : (FR8 L sz 0 k < wh ∧ wh2 = FR8 L sz 0 k) ∨ (wh ≤ FR8 L sz 0 k ∧ wh2 = wh)) : wh2 = mS8 (VL L sz 0) 0 (rmL L sz) (k + 1 - 1) := by
  have e0 := lpL_0 L sz
  have a := (FR8_R h hR hz (v := 0) (p := k) (by omega) hn hk).2.2
  rw [show k + 1 - 1 = (k - 1) + 1 by omega]
  have hwR : wh ≤ 1000000000000000 := by rw [hw]; exact (mS_R (fun x x1 x2 => VL_lt h hR hz (by omega) hn (by omega) x2)).2
  by_cases c : k ≤ rmL L sz
  · have r := VL_lt h hR hz (i := 0) (x := k) (by omega) hn (by omega) c
    have e1 : FR8 L sz 0 k = VL L sz 0 k := by rw [FR8_t (by omega), e0, Int.sub_zero]
    rw [mS_t (by omega) (by omega) (by rw [show k - 1 + 1 = k by omega]; exact r.2), ← hw, show k - 1 + 1 = k by omega, ← e1]
    rcases h2 with q | q
    · rw [if_pos q.1]; exact q.2
    · rw [if_neg (by omega)]; exact q.2
  · rw [mS_f (by omega), ← hw]
    rcases h2 with q | q <;> omega
theorem wh_end (h : lOK L) (hR : rulL L) (hz : 1 ≤ sz ∧ sz ≤ 60) (hn : 0 < L 0 11) {k wh : Int} (hk : 60 < k) (hw : wh = mS8 (VL L sz 0) 0 (rmL L sz) (k - 1)) : (wh = 1000000000000000 ∧ rmL L sz < 0) ∨ (wh ≠ 1000000000000000 ∧ 0 ≤ rmL L sz ∧ wh = whlL L sz) := by
  have e0 := lpL_0 L sz
  have a := lpL_up0 h hR hz (i := 0) (by omega) hn
  have b := wL_R h hR.2.2.2 hz (s := 0) (by omega) hn
  by_cases c : 0 ≤ rmL L sz
  · rw [mS_e c (by omega)] at hw
    obtain ⟨x, h2, h3, h4⟩ := mI_ex (f := VL L sz 0) c
    have := VL_lt h hR hz (i := 0) (x := x) (by omega) hn (by omega) h3
    exact Or.inr ⟨by omega, c, hw⟩
  · rw [mS_n (by omega)] at hw
    exact Or.inl ⟨hw, by omega⟩
theorem selL_ok (hr : 0 ≤ rmL L sz) {v : Int} (h0 : 0 ≤ v) (h1 : v < L 0 11) : selOK (L 2 3) (scL L sz) (gcL L sz) (L 0 11) (lpL L sz) (rmL L sz) v (SELL L sz v).1 (SELL L sz v).2 := by
  have h := sel_ok (md := L 2 3) (sc := scL L sz) (gc := gcL L sz) (n := L 0 11) (lp := lpL L sz) hr v.toNat (by omega)
  rw [show ((v.toNat : Nat) : Int) = v by omega] at h
  exact h
theorem SELL_s {v : Int} (h0 : 0 ≤ v) : SELL L sz (v + 1) = (lsI (FSL L sz v) (SELL L sz v).2 (SELL L sz v).1 (rmL L sz), if v = 0 then wo (L 2 3) (SELL L sz v).2 (scL L sz v (lpL L sz v + (lsI (FSL L sz v) (SELL L sz v).2 (SELL L sz v).1 (rmL L sz)))) else wo (L 2 3) (wo (L 2 3) (SELL L sz v).2 (scL L sz v (lpL L sz v + (lsI (FSL L sz v) (SELL L sz v).2 (SELL L sz v).1 (rmL L sz))))) (gcL L sz (v - 1) (1 + ((lsI (FSL L sz v) (SELL L sz v).2 (SELL L sz v).1 (rmL L sz)) - (SELL L sz v).1)))) := selI_s h0
theorem SELL_R (hr : 0 ≤ rmL L sz) {v : Int} (h0 : 0 ≤ v) (h1 : v < L 0 11) : (0 ≤ (SELL L sz v).1 ∧ (SELL L sz v).1 ≤ (SELL L sz (v + 1)).1 ∧ (SELL L sz (v + 1)).1 ≤ rmL L sz) ∧ FSL L sz v (SELL L sz (v + 1)).1 ≤ (SELL L sz v).2 ∧ ∀ j, (SELL L sz v).1 ≤ j → j < (SELL L sz (v + 1)).1 → (SELL L sz v).2 < FSL L sz v j := by
  have h := selL_ok hr h0 h1
  have e : (SELL L sz (v + 1)).1 = lsI (FSL L sz v) (SELL L sz v).2 (SELL L sz v).1 (rmL L sz) := by rw [SELL_s h0]
  have a := lsI_R (f := FSL L sz v) (al := (SELL L sz v).2) h.1.2
  have b := lsI_ok (f := FSL L sz v) h.2.1
  rw [← e] at a b
  exact ⟨⟨h.1.1, a.1, a.2⟩, b.1, b.2⟩
theorem FSL_0 {v x : Int} (h : v = 0) : FSL L sz v x = VL L sz v x := by
  subst h; unfold FSL fS VL; rw [if_pos rfl]
theorem FSL_s {v x : Int} (h : v ≠ 0) : FSL L sz v x = jn (L 2 3) (gcL L sz (v - 1) (1 + (x - (SELL L sz v).1))) (VL L sz v x) := if_neg h
theorem had8_0 (h : lOK L) (hR : rulL L) (hz : 1 ≤ sz ∧ sz ≤ 60) (hr : 0 ≤ rmL L sz) (hn : 0 < L 0 11) : had8 L sz 0 0 := by
  have e0 := lpL_0 L sz
  refine had_0 hr ?_
  exact (mI_R hr (fun x x1 x2 => VL_R h hR hz (i := 0) (x := x) (by omega) hn (by omega) x2)).1
theorem whlL_R (h : lOK L) (hR : rulL L) (hz : 1 ≤ sz ∧ sz ≤ 60) (hr : 0 ≤ rmL L sz) (hn : 0 < L 0 11) : 0 ≤ whlL L sz ∧ whlL L sz ≤ 20000000000 := by
  have e0 := lpL_0 L sz
  exact mI_R hr (fun x x1 x2 => VL_R h hR hz (i := 0) (x := x) (by omega) hn (by omega) x2)
theorem had8_R (h : lOK L) (hR : rulL L) (hz : 1 ≤ sz ∧ sz ≤ 60) (hr : 0 ≤ rmL L sz) {v had : Int} (h0 : 0 ≤ v) (h1 : v < L 0 11) (hq : had8 L sz v had) : 0 ≤ had ∧ had ≤ 20000000000 := by
  have hw := whlL_R h hR hz hr (by omega)
  have hs := SELL_R hr h0 h1
  obtain ⟨p0, p1, p2⟩ := hq
  refine ⟨p0, ?_⟩
  by_cases c : L 2 3 < 2
  · have a := p1 c
    have e : whl (L 2 3) (scL L sz) (gcL L sz) (L 0 11) (lpL L sz) (rmL L sz) = whlL L sz := rfl
    rw [e] at a
    have al : 0 ≤ FSL L sz v (SELL L sz (v + 1)).1 := by
      have a1 := lpL_up0 h hR hz h0 h1
      have b1 := lpL_R0 h hR hz h0 (by omega)
      have u := VL_R h hR hz (i := v) (x := (SELL L sz (v + 1)).1) h0 h1 (by omega) hs.1.2.2
      by_cases c0 : v = 0
      · rw [FSL_0 c0]; exact u.1
      · rw [FSL_s c0]
        have d : lpL L sz (v - 1 + 1) = lpL L sz (v - 1) + wL L sz (v - 1) + 1 := lpp_s (by omega)
        have wv := wL_R h hR.2.2.2 hz (s := v) h0 h1
        exact (jn_R (L 2 3) (gcL_R h hR hz (v := v - 1) (g := 1 + ((SELL L sz (v + 1)).1 - (SELL L sz v).1)) ⟨by omega, by omega⟩ (by omega)) u).1
    omega
  · have a := (p2 c).2.1
    have e : whl (L 2 3) (scL L sz) (gcL L sz) (L 0 11) (lpL L sz) (rmL L sz) = whlL L sz := rfl
    rw [e] at a
    omega
theorem had8_s (h : lOK L) (hR : rulL L) (hz : 1 ≤ sz ∧ sz ≤ 60) (hr : 0 ≤ rmL L sz) {v had : Int} (h0 : 0 ≤ v) (h1 : v + 1 < L 0 11) (hq : had8 L sz v had) : had8 L sz (v + 1) (hadN L sz v had) := by
  have hs := SELL_R hr h0 (by omega : v < L 0 11)
  have a1 := lpL_up0 h hR hz h0 (by omega : v < L 0 11)
  have b1 := lpL_R0 h hR hz h0 (by omega)
  have wv := wL_R h hR.2.2.2 hz (s := v) h0 (by omega)
  have e1 : (SELL L sz (v + 1)).1 = lsI (FSL L sz v) (SELL L sz v).2 (SELL L sz v).1 (rmL L sz) := by rw [SELL_s h0]
  have e2 : (SELL L sz (v + 1)).2 = if v = 0 then wo (L 2 3) (SELL L sz v).2 (scL L sz v (lpL L sz v + (SELL L sz (v + 1)).1)) else wo (L 2 3) (wo (L 2 3) (SELL L sz v).2 (scL L sz v (lpL L sz v + (SELL L sz (v + 1)).1))) (gcL L sz (v - 1) (1 + ((SELL L sz (v + 1)).1 - (SELL L sz v).1))) := by rw [SELL_s h0]
  unfold had8
  rw [e2]
  exact had_s h0 h1 hq hs.1.2.1 hs.1.2.2 hs.2.1 (scL_R h hR hz ⟨h0, by omega⟩ (by omega)).1 (fun c => (gcL_R h hR hz ⟨by omega, by omega⟩ (by omega)).1)
theorem sel_hit (hr : 0 ≤ rmL L sz) {v had x : Int} (h0 : 0 ≤ v) (h1 : v < L 0 11) (hq : had8 L sz v had) (hx : (SELL L sz v).1 ≤ x ∧ x ≤ (SELL L sz (v + 1)).1) : jn (L 2 3) had (FSL L sz v x) = whlL L sz ↔ x = (SELL L sz (v + 1)).1 := by
  have hs := SELL_R hr h0 h1
  have a := had_iff hq (selL_ok hr h0 h1) hx.1 (by omega)
  have e : jn (L 2 3) had (FSL L sz v x) = whlL L sz ↔ FSL L sz v x ≤ (SELL L sz v).2 := a
  rw [e]
  constructor
  · intro q
    by_cases c : x = (SELL L sz (v + 1)).1
    · exact c
    · have := hs.2.2 x hx.1 (by omega)
      omega
  · intro q
    rw [q]; exact hs.2.1
end LFIT
theorem lfQ_k {M M' L : Mem} {ord : Int → Int} (hL : L = laid M ord) (h : keepR L M') : keepR M M' := by
  subst hL; exact h
theorem lfQ_a {M L M' : Mem} {ord : Int → Int} {sz : Int} (hL : L = laid M ord) (hk : keepR L M') (hn : L 0 11 = 0) (e0 : M' 0 20 = 0) (e1 : M' 0 11 = L 0 11) (e5 : M' 5 = L 5) (e6 : M' 6 = L 6) : lfQ M ord sz 1 M' := by
  refine ⟨lfQ_k hL hk, ?_, ?_, by rw [← hL]; exact e1, by rw [← hL]; exact e5, by rw [← hL]; exact e6⟩
  · rw [← hL]
    exact (zC_t (fun s a b => by omega)).symm
  · rw [← hL]
    exact fun _ => ⟨by rw [e0]; unfold leastL; rw [if_pos (by omega)], fun s a b => by omega⟩
theorem lfQ_b {M L M' : Mem} {ord : Int → Int} {sz : Int} (hL : L = laid M ord) (hk : keepR L M') (h : lOK L) (hR : rulL L) (hz : 1 ≤ sz ∧ sz ≤ 60) (hn : 0 < L 0 11) (hr : rmL L sz < 0) (e1 : M' 0 11 = L 0 11) (e5 : M' 5 = L 5) (e6 : M' 6 = L 6) : lfQ M ord sz 0 M' := by
  have hno : ¬ okL L sz := fun q => by have := (okL_iff h hR hz hn).mp q; omega
  refine ⟨lfQ_k hL hk, ?_, ?_, by rw [← hL]; exact e1, by rw [← hL]; exact e5, by rw [← hL]; exact e6⟩
  · rw [← hL]
    exact (zC_f hno).symm
  · rw [← hL]
    exact fun q => absurd q hno
theorem lfQ_c {M L M' : Mem} {ord : Int → Int} {sz wh : Int} (hL : L = laid M ord) (hk : keepR L M') (h : lOK L) (hR : rulL L) (hz : 1 ≤ sz ∧ sz ≤ 60) (hn : 0 < L 0 11) (hr : 0 ≤ rmL L sz) (hw : wh = whlL L sz) (e0 : M' 0 20 = wh) (e1 : M' 0 11 = L 0 11) (e5 : M' 5 = L 5) (e6 : M' 6 = L 6) (hd : ∀ s, 0 ≤ s → s < L 0 11 → M' 15 s = dotL L sz s ∧ M' 16 s = wL L sz s) : lfQ M ord sz 1 M' := by
  refine ⟨lfQ_k hL hk, ?_, ?_, by rw [← hL]; exact e1, by rw [← hL]; exact e5, by rw [← hL]; exact e6⟩
  · rw [← hL]
    exact (zC_t ((okL_iff h hR hz hn).mpr hr)).symm
  · rw [← hL]
    exact fun _ => ⟨by rw [e0, hw]; unfold leastL; rw [if_neg (by omega)], hd⟩
