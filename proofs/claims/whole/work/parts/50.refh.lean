/-! ===== fits (numbers alone): the reference's walk ===== -/
theorem jn_comm (md a b : Int) : jn md a b = jn md b a := by unfold jn; split <;> omega
/-- the least of those come so far; a great number where there is none -/
def mS8 (g : Int → Int) (sh rm c : Int) : Int := if sh ≤ min c rm then mI g sh (min c rm) else 1000000000000000
theorem mS_0 {g : Int → Int} {sh rm c : Int} (h : c < sh) : mS8 g sh rm c = 1000000000000000 := if_neg (by omega)
theorem mS_n {g : Int → Int} {sh rm c : Int} (h : rm < sh) : mS8 g sh rm c = 1000000000000000 := if_neg (by omega)
theorem mS_e {g : Int → Int} {sh rm c : Int} (h : sh ≤ rm) (h2 : rm ≤ c) : mS8 g sh rm c = mI g sh rm := by
  unfold mS8
  rw [show min c rm = rm by omega, if_pos h]
theorem mS_R {g : Int → Int} {sh rm c : Int} (hg : ∀ x, sh ≤ x → x ≤ rm → 0 ≤ g x ∧ g x < 1000000000000000) : 0 ≤ mS8 g sh rm c ∧ mS8 g sh rm c ≤ 1000000000000000 := by
  unfold mS8
  split
  · rename_i h
    obtain ⟨x, h0, h1, h2⟩ := mI_ex (f := g) h
    have := hg x h0 (by omega)
    omega
  · omega
theorem mS_f {g : Int → Int} {sh rm c : Int} (h : rm < c + 1) : mS8 g sh rm (c + 1) = mS8 g sh rm c := by
  unfold mS8
  rw [show min (c + 1) rm = min c rm by omega]
theorem mS_t {g : Int → Int} {sh rm c : Int} (h : c + 1 ≤ rm) (h2 : sh ≤ c + 1) (h3 : g (c + 1) < 1000000000000000) : mS8 g sh rm (c + 1) = if g (c + 1) < mS8 g sh rm c then g (c + 1) else mS8 g sh rm c := by
  unfold mS8
  rw [show min (c + 1) rm = c + 1 by omega, show min c rm = c by omega, if_pos h2]
  by_cases q : sh ≤ c
  · rw [if_pos q, mI_s q]; split <;> omega
  · rw [if_neg q, show sh = c + 1 by omega, mI_0, if_pos h3]
section FITS2
variable {md : Int} {sc gc : Int → Int → Int} {n : Int} {lp : Int → Int} {room : Int}
/-- what is used up, beside what is still allowed -/
def hadQ (md : Int) (sc gc : Int → Int → Int) (n : Int) (lp : Int → Int) (room i b al had : Int) : Prop := 0 ≤ had ∧ (md < 2 → had + al = whl md sc gc n lp room) ∧ (¬ md < 2 → al = whl md sc gc n lp room ∧ had ≤ whl md sc gc n lp room ∧ ∀ x, b ≤ x → x ≤ room → whl md sc gc n lp room ≤ max had (fS md sc gc n lp room i b x))
theorem had_iff {i b al had x : Int} (hq : hadQ md sc gc n lp room i b al had) (hs : selOK md sc gc n lp room i b al) (h0 : b ≤ x) (h1 : x ≤ room) : jn md had (fS md sc gc n lp room i b x) = whl md sc gc n lp room ↔ fS md sc gc n lp room i b x ≤ al := by
  obtain ⟨p0, p1, p2⟩ := hq
  obtain ⟨-, -, s3⟩ := hs
  unfold jn
  by_cases h : md < 2
  · have a := p1 h
    have c := s3 h x h0 h1
    simp only [if_pos h]
    omega
  · have a := p2 h
    have c := a.2.2 x h0 h1
    simp only [if_neg h]
    omega
theorem had_0 (hr : 0 ≤ room) (hw : 0 ≤ whl md sc gc n lp room) : hadQ md sc gc n lp room 0 0 (whl md sc gc n lp room) 0 := by
  refine ⟨Int.le_refl _, fun _ => by omega, fun _ => ⟨rfl, hw, fun x h0 h1 => ?_⟩⟩
  have e : fS md sc gc n lp room 0 0 x = Vi md sc gc n lp room 0 x := if_pos rfl
  have : whl md sc gc n lp room ≤ Vi md sc gc n lp room 0 x := mI_le h0 h1
  rw [e]
  omega
theorem had_s {i b al had s : Int} (h0 : 0 ≤ i) (hi : i + 1 < n) (hq : hadQ md sc gc n lp room i b al had) (h1 : b ≤ s) (h2 : s ≤ room) (hfs : fS md sc gc n lp room i b s ≤ al) (hsc : 0 ≤ sc i (lp i + s)) (hgc : i ≠ 0 → 0 ≤ gc (i - 1) (1 + (s - b))) :
    hadQ md sc gc n lp room (i + 1) s (if i = 0 then wo md al (sc i (lp i + s)) else wo md (wo md al (sc i (lp i + s))) (gc (i - 1) (1 + (s - b)))) (jn md (if i = 0 then had else jn md had (gc (i - 1) (1 + (s - b)))) (sc i (lp i + s))) := by
  obtain ⟨p0, p1, p2⟩ := hq
  have hv := Vi_step (md := md) (sc := sc) (gc := gc) (n := n) (lp := lp) (room := room) h0 (by omega) s
  have hml := fun x (h0 : s ≤ x) (h1 : x ≤ room) => mI_le (f := fun nx => jn md (gc i (1 + (nx - s))) (Vi md sc gc n lp room (i + 1) nx)) h0 h1
  have hf : ∀ x : Int, fS md sc gc n lp room (i + 1) s x = jn md (gc i (1 + (x - s))) (Vi md sc gc n lp room (i + 1) x) := by
    intro x
    unfold fS
    rw [if_neg (by omega), show i + 1 - 1 = i by omega]
  generalize mI (fun nx => jn md (gc i (1 + (nx - s))) (Vi md sc gc n lp room (i + 1) nx)) s room = mm at hv hml
  by_cases h : md < 2
  · have a := p1 h
    refine ⟨?_, fun _ => ?_, fun z => absurd h z⟩
    · unfold jn
      by_cases c : i = 0
      · simp only [if_pos c, if_pos h]; omega
      · have := hgc c
        simp only [if_neg c, if_pos h]; omega
    · unfold jn wo
      by_cases c : i = 0
      · simp only [if_pos c, if_pos h]; omega
      · simp only [if_neg c, if_pos h]; omega
  · have a := p2 h
    have w := a.2.2 s h1 h2
    refine ⟨?_, fun z => absurd z h, fun _ => ⟨?_, ?_, fun x x0 x1 => ?_⟩⟩
    · unfold jn
      by_cases c : i = 0
      · simp only [if_pos c, if_neg h]; omega
      · have := hgc c
        simp only [if_neg c, if_neg h]; omega
    · unfold wo
      by_cases c : i = 0
      · simp only [if_pos c, if_neg h]; omega
      · simp only [if_neg c, if_neg h]; omega
    · unfold fS at hfs
      unfold jn at hfs hv ⊢
      by_cases c : i = 0
      · subst c
        simp only [if_neg h, if_pos] at hfs hv ⊢
        omega
      · simp only [if_neg c, if_neg h] at hfs hv ⊢
        omega
    · have h5 := hml x x0 x1
      rw [hf x]
      unfold fS at w
      unfold jn at w hv h5 ⊢
      by_cases c : i = 0
      · subst c
        simp only [if_neg h, if_pos] at w hv h5 ⊢
        omega
      · simp only [if_neg c, if_neg h] at w hv h5 ⊢
        omega
end FITS2
/-! ===== the reference: fits ===== -/
def rulL (L : Mem) : Prop := (0 ≤ L 2 1 ∧ L 2 1 ≤ 9) ∧ (0 ≤ L 2 2 ∧ L 2 2 ≤ 9) ∧ (0 ≤ L 2 3 ∧ L 2 3 ≤ 3) ∧ (0 ≤ L 2 4 ∧ L 2 4 ≤ 3)
def scL (L : Mem) (sz : Int) : Int → Int → Int := scost (L 2 3) (L 2 1) (L 5) (L 6) (wL L sz) sz
def gcL (L : Mem) (sz : Int) : Int → Int → Int := gcost (L 2 3) (L 2 2) (L 5) (L 6) sz
def lpL (L : Mem) (sz : Int) : Int → Int := lpp (wL L sz)
def rmL (L : Mem) (sz : Int) : Int := if L 0 11 ≤ 0 then 0 else sz - lpL L sz (L 0 11 - 1) - wL L sz (L 0 11 - 1)
def VL (L : Mem) (sz i : Int) : Int → Int := Vi (L 2 3) (scL L sz) (gcL L sz) (L 0 11) (lpL L sz) (rmL L sz) i
def SELL (L : Mem) (sz i : Int) : Int × Int := selI (L 2 3) (scL L sz) (gcL L sz) (L 0 11) (lpL L sz) (rmL L sz) i
def whlL (L : Mem) (sz : Int) : Int := whl (L 2 3) (scL L sz) (gcL L sz) (L 0 11) (lpL L sz) (rmL L sz)
def FSL (L : Mem) (sz v : Int) : Int → Int := fS (L 2 3) (scL L sz) (gcL L sz) (L 0 11) (lpL L sz) (rmL L sz) v (SELL L sz v).1
def dotL (L : Mem) (sz s : Int) : Int := lpL L sz s + (SELL L sz (s + 1)).1
def leastL (L : Mem) (sz : Int) : Int := if L 0 11 ≤ 0 then 0 else whlL L sz
def okL (L : Mem) (sz : Int) : Prop := ∀ s, 0 ≤ s → s < L 0 11 → lpL L sz s + wL L sz s ≤ sz
def FR8 (L : Mem) (sz i t : Int) : Int := if t - lpL L sz i ≤ rmL L sz then VL L sz i (t - lpL L sz i) else 1000000000000000
def FN8 (L : Mem) (sz v sh : Int) : Int → Int := fun nx => jn (L 2 3) (gcL L sz v (1 + (nx - sh))) (VL L sz (v + 1) nx)
def had8 (L : Mem) (sz v had : Int) : Prop := hadQ (L 2 3) (scL L sz) (gcL L sz) (L 0 11) (lpL L sz) (rmL L sz) v (SELL L sz v).1 (SELL L sz v).2 had
def hadN (L : Mem) (sz v had : Int) : Int := jn (L 2 3) (if v = 0 then had else jn (L 2 3) had (gcL L sz (v - 1) (1 + ((SELL L sz (v + 1)).1 - (SELL L sz v).1)))) (scL L sz v (lpL L sz v + (SELL L sz (v + 1)).1))
def lfQ (M : Mem) (ord : Int → Int) (sz z : Int) (M' : Mem) : Prop := keepR M M' ∧ z = zC (okL (laid M ord) sz) ∧ (okL (laid M ord) sz → M' 0 20 = leastL (laid M ord) sz ∧ ∀ s, 0 ≤ s → s < laid M ord 0 11 → M' 15 s = dotL (laid M ord) sz s ∧ M' 16 s = wL (laid M ord) sz s) ∧ M' 0 11 = laid M ord 0 11 ∧ M' 5 = laid M ord 5 ∧ M' 6 = laid M ord 6
theorem lpL_0 (L : Mem) (sz : Int) : lpL L sz 0 = 0 := rfl
section LFIT
variable {L : Mem} {sz : Int}
theorem rul4 (hR : rulL L) : 0 ≤ L 2 4 ∧ L 2 4 ≤ 3 := hR.2.2.2
theorem lpL_le (h : lOK L) (hR : rulL L) (hz : 1 ≤ sz ∧ sz ≤ 60) : ∀ (k : Nat) (i : Int), 0 ≤ i → i + k < L 0 11 → lpL L sz i + wL L sz i + k ≤ lpL L sz (i + k) + wL L sz (i + k)
  | 0, i, h0, h1 => by rw [show i + ((0 : Nat) : Int) = i by omega]; omega
  | k + 1, i, h0, h1 => by
    have a := lpL_le h hR hz k i h0 (by omega)
    have b := lpp_s (w := wL L sz) (i := i + k) (by omega)
    have c := wL_R h hR.2.2.2 hz (s := i + (k + 1 : Nat)) (by omega) (by omega)
    rw [show i + ((k + 1 : Nat) : Int) = i + k + 1 by omega] at c ⊢
    unfold lpL at a ⊢
    omega
theorem rmL_e (h : 0 < L 0 11) : rmL L sz = sz - lpL L sz (L 0 11 - 1) - wL L sz (L 0 11 - 1) := if_neg (by omega)
theorem lpL_up0 (h : lOK L) (hR : rulL L) (hz : 1 ≤ sz ∧ sz ≤ 60) {i : Int} (h0 : 0 ≤ i) (h1 : i < L 0 11) : lpL L sz i + wL L sz i + rmL L sz ≤ sz := by
  have a := lpL_le h hR hz (L 0 11 - 1 - i).toNat i h0 (by omega)
  rw [show i + (((L 0 11 - 1 - i).toNat : Nat) : Int) = L 0 11 - 1 by omega] at a
  rw [rmL_e (by omega)]
  omega
theorem lpL_R0 (h : lOK L) (hR : rulL L) (hz : 1 ≤ sz ∧ sz ≤ 60) {i : Int} (h0 : 0 ≤ i) (h1 : i ≤ L 0 11) : 0 ≤ lpL L sz i ∧ lpL L sz i ≤ 22 * i := lpL_R h hR.2.2.2 hz i h0 h1
theorem okL_iff (h : lOK L) (hR : rulL L) (hz : 1 ≤ sz ∧ sz ≤ 60) (hn : 0 < L 0 11) : okL L sz ↔ 0 ≤ rmL L sz := by
  constructor
  · intro q
    have := q (L 0 11 - 1) (by omega) (by omega)
    rw [rmL_e hn]; omega
  · intro q s a b
    have := lpL_up0 h hR hz a b
    omega
theorem scL_R (h : lOK L) (hR : rulL L) (hz : 1 ≤ sz ∧ sz ≤ 60) {v p : Int} (h0 : 0 ≤ v ∧ v < L 0 11) (h1 : 0 ≤ p ∧ p ≤ 60) : 0 ≤ scL L sz v p ∧ scL L sz v p ≤ 1000000000 := by
  have a := h.2.2.1 v h0.1 h0.2
  have b := wL_R h hR.2.2.2 hz h0.1 h0.2
  exact scost_R hR.1 a.1 a.2.1 (by omega) (by omega) h1
theorem gcL_R (h : lOK L) (hR : rulL L) (hz : 1 ≤ sz ∧ sz ≤ 60) {v g : Int} (h0 : 0 ≤ v ∧ v + 1 < L 0 11) (h1 : 0 ≤ g ∧ g ≤ 61) : 0 ≤ gcL L sz v g ∧ gcL L sz v g ≤ 1000000000 :=
  gcost_R hR.2.1 (h.2.2.1 (v + 1) (by omega) (by omega)).1 (h.2.2.1 v (by omega) (by omega)).2.1 (by omega) h1
theorem VL_R (h : lOK L) (hR : rulL L) (hz : 1 ≤ sz ∧ sz ≤ 60) {i x : Int} (h0 : 0 ≤ i) (h1 : i < L 0 11) (h2 : -lpL L sz i ≤ x) (h3 : x ≤ rmL L sz) : 0 ≤ VL L sz i x ∧ VL L sz i x ≤ 20000000000 := by
  refine Vi_R h.1.2 (fun i sh a b c d => ?_) (fun i sh nx a b c d e => ?_) (fun i a b => ?_) h0 h1 h2 h3
  · have := lpL_up0 h hR hz a b
    have := wL_R h hR.2.2.2 hz a b
    exact scL_R h hR hz ⟨a, b⟩ (by omega)
  · have := lpL_up0 h hR hz a (by omega : i < L 0 11)
    have := wL_R h hR.2.2.2 hz a (by omega : i < L 0 11)
    exact gcL_R h hR hz ⟨a, by omega⟩ (by omega)
  · have := lpp_s (w := wL L sz) (i := i) a
    have := wL_R h hR.2.2.2 hz a (by omega : i < L 0 11)
    unfold lpL
    omega
theorem VL_lt (h : lOK L) (hR : rulL L) (hz : 1 ≤ sz ∧ sz ≤ 60) {i x : Int} (h0 : 0 ≤ i) (h1 : i < L 0 11) (h2 : -lpL L sz i ≤ x) (h3 : x ≤ rmL L sz) : 0 ≤ VL L sz i x ∧ VL L sz i x < 1000000000000000 := by
  have := VL_R h hR hz h0 h1 h2 h3; omega
theorem FN8_R (h : lOK L) (hR : rulL L) (hz : 1 ≤ sz ∧ sz ≤ 60) {v sh x : Int} (h0 : 0 ≤ v) (h1 : v + 1 < L 0 11) (h2 : -lpL L sz v ≤ sh) (h3 : sh ≤ x) (h4 : x ≤ rmL L sz) : 0 ≤ FN8 L sz v sh x ∧ FN8 L sz v sh x < 1000000000000000 := by
  have a := lpL_up0 h hR hz h0 (by omega : v < L 0 11)
  have b := wL_R h hR.2.2.2 hz h0 (by omega : v < L 0 11)
  have c := lpp_s (w := wL L sz) (i := v) h0
  have d : lpL L sz (v + 1) = lpL L sz v + wL L sz v + 1 := c
  have g := gcL_R h hR hz (v := v) (g := 1 + (x - sh)) ⟨h0, h1⟩ (by omega)
  have u := VL_R h hR hz (i := v + 1) (x := x) (by omega) h1 (by omega) h4
  have w := jn_R (L 2 3) g u
  unfold FN8
  omega
theorem FR8_R (h : lOK L) (hR : rulL L) (hz : 1 ≤ sz ∧ sz ≤ 60) {v p : Int} (h0 : 0 ≤ v) (h1 : v < L 0 11) (h2 : 0 ≤ p) : 0 ≤ FR8 L sz v p ∧ FR8 L sz v p ≤ 1000000000000000 ∧ (FR8 L sz v p < 1000000000000000 ↔ p - lpL L sz v ≤ rmL L sz) := by
  unfold FR8
  by_cases c : p - lpL L sz v ≤ rmL L sz
  · have := VL_R h hR hz h0 h1 (x := p - lpL L sz v) (by omega) c
    rw [if_pos c]; omega
  · rw [if_neg c]; omega
theorem FR8_t {v p : Int} (h : p - lpL L sz v ≤ rmL L sz) : FR8 L sz v p = VL L sz v (p - lpL L sz v) := if_pos h
theorem FR8_f {v p : Int} (h : rmL L sz < p - lpL L sz v) : FR8 L sz v p = 1000000000000000 := if_neg (by omega)
theorem FR8_last (hn : 0 < L 0 11) (h : lOK L) (hR : rulL L) (hz : 1 ≤ sz ∧ sz ≤ 60) {v p : Int} (hv : v = L 0 11 - 1) (hp : 0 ≤ p) (h1 : p + wL L sz v ≤ sz) : jn (L 2 3) 0 (scL L sz v p) = FR8 L sz v p := by
  have hw := wL_R h hR.2.2.2 hz (s := v) (by omega) (by omega)
  have hs := scL_R h hR hz (v := v) (p := p) ⟨by omega, by omega⟩ (by omega)
  have hr := rmL_e (L := L) (sz := sz) hn
  rw [← hv] at hr
  rw [FR8_t (by omega)]
  have e : VL L sz v (p - lpL L sz v) = scL L sz v p := by
    unfold VL
    rw [hv, Vi_last]
    congr 1
    omega
  rw [e]
  unfold jn
  split <;> omega
theorem FR8_in (h : lOK L) (hR : rulL L) (hz : 1 ≤ sz ∧ sz ≤ 60) {v p y : Int} (h0 : 0 ≤ v) (hv : v < L 0 11 - 1) (hp : 0 ≤ p) (hy : 61 ≤ y) (hl : mS8 (FN8 L sz v (p - lpL L sz v)) (p - lpL L sz v) (rmL L sz) (y - 1 - lpL L sz (v + 1)) < 1000000000000000) : jn (L 2 3) (mS8 (FN8 L sz v (p - lpL L sz v)) (p - lpL L sz v) (rmL L sz) (y - 1 - lpL L sz (v + 1))) (scL L sz v p) = FR8 L sz v p := by
  have a := lpL_up0 h hR hz (i := v + 1) (by omega) (by omega)
  have b := wL_R h hR.2.2.2 hz (s := v + 1) (by omega) (by omega)
  by_cases c : p - lpL L sz v ≤ rmL L sz
  · rw [mS_e c (by omega), FR8_t c]
    unfold VL
    rw [Vi_step h0 hv, jn_comm, show lpL L sz v + (p - lpL L sz v) = p by omega]
    rfl
  · rw [mS_n (by omega)] at hl
    omega
theorem FR8_no (h : lOK L) (hR : rulL L) (hz : 1 ≤ sz ∧ sz ≤ 60) {v p y : Int} (h0 : 0 ≤ v) (hv : v < L 0 11 - 1) (hp : 0 ≤ p) (hy : 61 ≤ y) (hl : 1000000000000000 ≤ mS8 (FN8 L sz v (p - lpL L sz v)) (p - lpL L sz v) (rmL L sz) (y - 1 - lpL L sz (v + 1))) : 1000000000000000 = FR8 L sz v p := by
  have a := lpL_up0 h hR hz (i := v + 1) (by omega) (by omega)
  have b := wL_R h hR.2.2.2 hz (s := v + 1) (by omega) (by omega)
  by_cases c : p - lpL L sz v ≤ rmL L sz
  · rw [mS_e c (by omega)] at hl
    obtain ⟨x, h2, h3, h4⟩ := mI_ex (f := FN8 L sz v (p - lpL L sz v)) c
    have := FN8_R h hR hz h0 (by omega) (by omega) h2 h3
    omega
  · exact (FR8_f (by omega)).symm
theorem in_skip (h : lOK L) (hR : rulL L) (hz : 1 ≤ sz ∧ sz ≤ 60) {g : Int → Int} {v sh y le : Int} (h0 : 0 ≤ v) (hv : v < L 0 11 - 1) (hy : 0 ≤ y) (hl : le = mS8 g sh (rmL L sz) (y - 1 - lpL L sz (v + 1))) (hf : 1000000000000000 ≤ FR8 L sz (v + 1) y) : le = mS8 g sh (rmL L sz) (y + 1 - 1 - lpL L sz (v + 1)) := by
  have a := (FR8_R h hR hz (v := v + 1) (p := y) (by omega) (by omega) hy).2.2
  rw [show y + 1 - 1 - lpL L sz (v + 1) = (y - 1 - lpL L sz (v + 1)) + 1 by omega, mS_f (by omega)]
  exact hl
theorem in_take (h : lOK L) (hR : rulL L) (hz : 1 ≤ sz ∧ sz ≤ 60) {v p y le cand : Int} (h0 : 0 ≤ v) (hv : v < L 0 11 - 1) (hp : 0 ≤ p) (hy : p + wL L sz v + 1 ≤ y) (hl : le = mS8 (FN8 L sz v (p - lpL L sz v)) (p - lpL L sz v) (rmL L sz) (y - 1 - lpL L sz (v + 1))) (hf : FR8 L sz (v + 1) y < 1000000000000000) (hc : cand = jn (L 2 3) (gcL L sz v ((y - p) - wL L sz v)) (FR8 L sz (v + 1) y)) {le2 : Int} (h2 : (cand < le ∧ le2 = cand) ∨ (le ≤ cand ∧ le2 = le)) : le2 = mS8 (FN8 L sz v (p - lpL L sz v)) (p - lpL L sz v) (rmL L sz) (y + 1 - 1 - lpL L sz (v + 1)) := by
  have wv := wL_R h hR.2.2.2 hz h0 (by omega : v < L 0 11)
  have a := (FR8_R h hR hz (v := v + 1) (p := y) (by omega) (by omega) (by omega)).2.2.mp hf
  have d : lpL L sz (v + 1) = lpL L sz v + wL L sz v + 1 := lpp_s h0
  have e : cand = FN8 L sz v (p - lpL L sz v) (y - lpL L sz (v + 1)) := by
    rw [hc, FR8_t a]
    unfold FN8
    rw [show 1 + (y - lpL L sz (v + 1) - (p - lpL L sz v)) = (y - p) - wL L sz v by omega]
  have r := FN8_R h hR hz (sh := p - lpL L sz v) (x := y - lpL L sz (v + 1)) h0 (by omega) (by omega) (by omega) a
  rw [show y + 1 - 1 - lpL L sz (v + 1) = (y - 1 - lpL L sz (v + 1)) + 1 by omega, mS_t (by omega) (by omega) (by rw [show y - 1 - lpL L sz (v + 1) + 1 = y - lpL L sz (v + 1) by omega]; exact r.2), ← hl, show y - 1 - lpL L sz (v + 1) + 1 = y - lpL L sz (v + 1) by omega, ← e]
  rcases h2 with q | q
  · rw [if_pos q.1]; exact q.2
  · rw [if_neg (by omega)]; exact q.2
theorem wh_step (h : lOK L) (hR : rulL L) (hz : 1 ≤ sz ∧ sz ≤ 60) (hn : 0 < L 0 11) {k wh wh2 : Int} (hk : 0 ≤ k) (hw : wh = mS8 (VL L sz 0) 0 (rmL L sz) (k - 1)) (h2 : (FR8 L sz 0 k < wh ∧ wh2 = FR8 L sz 0 k) ∨ (wh ≤ FR8 L sz 0 k ∧ wh2 = wh)) : wh2 = mS8 (VL L sz 0) 0 (rmL L sz) (k + 1 - 1) := by
  have e0 := lpL_0 L sz
  have a := (FR8_R h hR hz (v := 0) (p := k) (by omega) hn hk).2.2
  rw [show k + 1 - 1 = (k - 1) + 1 by omega]
  have hwR : wh ≤ 1000000000000000 := by rw [hw]; exact (mS_R (fun x x1 x2 => VL_lt h hR hz (by omega) hn (by omega) x2)).2
  by_cases c : k ≤ rmL L sz
  · have r := VL_lt h hR hz (i := 0) (x := k) (by omega) hn (by omega) c
    have e1 : FR8 L sz 0 k = VL L sz 0 k := by rw [FR8_t (by omega), e0, Int.sub_zero]
    rw [mS_t (by omega) (by omega) (by rw [show k - 1 + 1 = k by omega]; exact r.2), ← hw, show k - 1 + 1 = k by omega, ← e1]
    rcases h2 with q | q
    · rw [if_pos q.1]; exact q.2
    · rw [if_neg (by omega)]; exact q.2
  · rw [mS_f (by omega), ← hw]
    rcases h2 with q | q <;> omega
theorem wh_end (h : lOK L) (hR : rulL L) (hz : 1 ≤ sz ∧ sz ≤ 60) (hn : 0 < L 0 11) {k wh : Int} (hk : 60 < k) (hw : wh = mS8 (VL L sz 0) 0 (rmL L sz) (k - 1)) : (wh = 1000000000000000 ∧ rmL L sz < 0) ∨ (wh ≠ 1000000000000000 ∧ 0 ≤ rmL L sz ∧ wh = whlL L sz) := by
  have e0 := lpL_0 L sz
  have a := lpL_up0 h hR hz (i := 0) (by omega) hn
  have b := wL_R h hR.2.2.2 hz (s := 0) (by omega) hn
  by_cases c : 0 ≤ rmL L sz
  · rw [mS_e c (by omega)] at hw
    obtain ⟨x, h2, h3, h4⟩ := mI_ex (f := VL L sz 0) c
    have := VL_lt h hR hz (i := 0) (x := x) (by omega) hn (by omega) h3
    exact Or.inr ⟨by omega, c, hw⟩
  · rw [mS_n (by omega)] at hw
    exact Or.inl ⟨hw, by omega⟩
theorem selL_ok (hr : 0 ≤ rmL L sz) {v : Int} (h0 : 0 ≤ v) (h1 : v < L 0 11) : selOK (L 2 3) (scL L sz) (gcL L sz) (L 0 11) (lpL L sz) (rmL L sz) v (SELL L sz v).1 (SELL L sz v).2 := by
  have h := sel_ok (md := L 2 3) (sc := scL L sz) (gc := gcL L sz) (n := L 0 11) (lp := lpL L sz) hr v.toNat (by omega)
  rw [show ((v.toNat : Nat) : Int) = v by omega] at h
  exact h
theorem SELL_s {v : Int} (h0 : 0 ≤ v) : SELL L sz (v + 1) = (lsI (FSL L sz v) (SELL L sz v).2 (SELL L sz v).1 (rmL L sz), if v = 0 then wo (L 2 3) (SELL L sz v).2 (scL L sz v (lpL L sz v + (lsI (FSL L sz v) (SELL L sz v).2 (SELL L sz v).1 (rmL L sz)))) else wo (L 2 3) (wo (L 2 3) (SELL L sz v).2 (scL L sz v (lpL L sz v + (lsI (FSL L sz v) (SELL L sz v).2 (SELL L sz v).1 (rmL L sz))))) (gcL L sz (v - 1) (1 + ((lsI (FSL L sz v) (SELL L sz v).2 (SELL L sz v).1 (rmL L sz)) - (SELL L sz v).1)))) := selI_s h0
theorem SELL_R (hr : 0 ≤ rmL L sz) {v : Int} (h0 : 0 ≤ v) (h1 : v < L 0 11) : (0 ≤ (SELL L sz v).1 ∧ (SELL L sz v).1 ≤ (SELL L sz (v + 1)).1 ∧ (SELL L sz (v + 1)).1 ≤ rmL L sz) ∧ FSL L sz v (SELL L sz (v + 1)).1 ≤ (SELL L sz v).2 ∧ ∀ j, (SELL L sz v).1 ≤ j → j < (SELL L sz (v + 1)).1 → (SELL L sz v).2 < FSL L sz v j := by
  have h := selL_ok hr h0 h1
  have e : (SELL L sz (v + 1)).1 = lsI (FSL L sz v) (SELL L sz v).2 (SELL L sz v).1 (rmL L sz) := by rw [SELL_s h0]
  have a := lsI_R (f := FSL L sz v) (al := (SELL L sz v).2) h.1.2
  have b := lsI_ok (f := FSL L sz v) h.2.1
  rw [← e] at a b
  exact ⟨⟨h.1.1, a.1, a.2⟩, b.1, b.2⟩
theorem FSL_0 {v x : Int} (h : v = 0) : FSL L sz v x = VL L sz v x := by
  subst h; unfold FSL fS VL; rw [if_pos rfl]
theorem FSL_s {v x : Int} (h : v ≠ 0) : FSL L sz v x = jn (L 2 3) (gcL L sz (v - 1) (1 + (x - (SELL L sz v).1))) (VL L sz v x) := if_neg h
theorem had8_0 (h : lOK L) (hR : rulL L) (hz : 1 ≤ sz ∧ sz ≤ 60) (hr : 0 ≤ rmL L sz) (hn : 0 < L 0 11) : had8 L sz 0 0 := by
  have e0 := lpL_0 L sz
  refine had_0 hr ?_
  exact (mI_R hr (fun x x1 x2 => VL_R h hR hz (i := 0) (x := x) (by omega) hn (by omega) x2)).1
theorem whlL_R (h : lOK L) (hR : rulL L) (hz : 1 ≤ sz ∧ sz ≤ 60) (hr : 0 ≤ rmL L sz) (hn : 0 < L 0 11) : 0 ≤ whlL L sz ∧ whlL L sz ≤ 20000000000 := by
  have e0 := lpL_0 L sz
  exact mI_R hr (fun x x1 x2 => VL_R h hR hz (i := 0) (x := x) (by omega) hn (by omega) x2)
theorem had8_R (h : lOK L) (hR : rulL L) (hz : 1 ≤ sz ∧ sz ≤ 60) (hr : 0 ≤ rmL L sz) {v had : Int} (h0 : 0 ≤ v) (h1 : v < L 0 11) (hq : had8 L sz v had) : 0 ≤ had ∧ had ≤ 20000000000 := by
  have hw := whlL_R h hR hz hr (by omega)
  have hs := SELL_R hr h0 h1
  obtain ⟨p0, p1, p2⟩ := hq
  refine ⟨p0, ?_⟩
  by_cases c : L 2 3 < 2
  · have a := p1 c
    have e : whl (L 2 3) (scL L sz) (gcL L sz) (L 0 11) (lpL L sz) (rmL L sz) = whlL L sz := rfl
    rw [e] at a
    have al : 0 ≤ FSL L sz v (SELL L sz (v + 1)).1 := by
      have a1 := lpL_up0 h hR hz h0 h1
      have b1 := lpL_R0 h hR hz h0 (by omega)
      have u := VL_R h hR hz (i := v) (x := (SELL L sz (v + 1)).1) h0 h1 (by omega) hs.1.2.2
      by_cases c0 : v = 0
      · rw [FSL_0 c0]; exact u.1
      · rw [FSL_s c0]
        have d : lpL L sz (v - 1 + 1) = lpL L sz (v - 1) + wL L sz (v - 1) + 1 := lpp_s (by omega)
        have wv := wL_R h hR.2.2.2 hz (s := v) h0 h1
        exact (jn_R (L 2 3) (gcL_R h hR hz (v := v - 1) (g := 1 + ((SELL L sz (v + 1)).1 - (SELL L sz v).1)) ⟨by omega, by omega⟩ (by omega)) u).1
    omega
  · have a := (p2 c).2.1
    have e : whl (L 2 3) (scL L sz) (gcL L sz) (L 0 11) (lpL L sz) (rmL L sz) = whlL L sz := rfl
    rw [e] at a
    omega
theorem had8_s (h : lOK L) (hR : rulL L) (hz : 1 ≤ sz ∧ sz ≤ 60) (hr : 0 ≤ rmL L sz) {v had : Int} (h0 : 0 ≤ v) (h1 : v + 1 < L 0 11) (hq : had8 L sz v had) : had8 L sz (v + 1) (hadN L sz v had) := by
  have hs := SELL_R hr h0 (by omega : v < L 0 11)
  have a1 := lpL_up0 h hR hz h0 (by omega : v < L 0 11)
  have b1 := lpL_R0 h hR hz h0 (by omega)
  have wv := wL_R h hR.2.2.2 hz (s := v) h0 (by omega)
  have e1 : (SELL L sz (v + 1)).1 = lsI (FSL L sz v) (SELL L sz v).2 (SELL L sz v).1 (rmL L sz) := by rw [SELL_s h0]
  have e2 : (SELL L sz (v + 1)).2 = if v = 0 then wo (L 2 3) (SELL L sz v).2 (scL L sz v (lpL L sz v + (SELL L sz (v + 1)).1)) else wo (L 2 3) (wo (L 2 3) (SELL L sz v).2 (scL L sz v (lpL L sz v + (SELL L sz (v + 1)).1))) (gcL L sz (v - 1) (1 + ((SELL L sz (v + 1)).1 - (SELL L sz v).1))) := by rw [SELL_s h0]
  unfold had8
  rw [e2]
  exact had_s h0 h1 hq hs.1.2.1 hs.1.2.2 hs.2.1 (scL_R h hR hz ⟨h0, by omega⟩ (by omega)).1 (fun c => (gcL_R h hR hz ⟨by omega, by omega⟩ (by omega)).1)
theorem sel_hit (hr : 0 ≤ rmL L sz) {v had x : Int} (h0 : 0 ≤ v) (h1 : v < L 0 11) (hq : had8 L sz v had) (hx : (SELL L sz v).1 ≤ x ∧ x ≤ (SELL L sz (v + 1)).1) : jn (L 2 3) had (FSL L sz v x) = whlL L sz ↔ x = (SELL L sz (v + 1)).1 := by
  have hs := SELL_R hr h0 h1
  have a := had_iff hq (selL_ok hr h0 h1) hx.1 (by omega)
  have e : jn (L 2 3) had (FSL L sz v x) = whlL L sz ↔ FSL L sz v x ≤ (SELL L sz v).2 := a
  rw [e]
  constructor
  · intro q
    by_cases c : x = (SELL L sz (v + 1)).1
    · exact c
    · have := hs.2.2 x hx.1 (by omega)
      omega
  · intro q
    rw [q]; exact hs.2.1
end LFIT
theorem lfQ_k {M M' L : Mem} {ord : Int → Int} (hL : L = laid M ord) (h : keepR L M') : keepR M M' := by
  subst hL; exact h
theorem lfQ_a {M L M' : Mem} {ord : Int → Int} {sz : Int} (hL : L = laid M ord) (hk : keepR L M') (hn : L 0 11 = 0) (e0 : M' 0 20 = 0) (e1 : M' 0 11 = L 0 11) (e5 : M' 5 = L 5) (e6 : M' 6 = L 6) : lfQ M ord sz 1 M' := by
  refine ⟨lfQ_k hL hk, ?_, ?_, by rw [← hL]; exact e1, by rw [← hL]; exact e5, by rw [← hL]; exact e6⟩
  · rw [← hL]
    exact (zC_t (fun s a b => by omega)).symm
  · rw [← hL]
    exact fun _ => ⟨by rw [e0]; unfold leastL; rw [if_pos (by omega)], fun s a b => by omega⟩
theorem lfQ_b {M L M' : Mem} {ord : Int → Int} {sz : Int} (hL : L = laid M ord) (hk : keepR L M') (h : lOK L) (hR : rulL L) (hz : 1 ≤ sz ∧ sz ≤ 60) (hn : 0 < L 0 11) (hr : rmL L sz < 0) (e1 : M' 0 11 = L 0 11) (e5 : M' 5 = L 5) (e6 : M' 6 = L 6) : lfQ M ord sz 0 M' := by
  have hno : ¬ okL L sz := fun q => by have := (okL_iff h hR hz hn).mp q; omega
  refine ⟨lfQ_k hL hk, ?_, ?_, by rw [← hL]; exact e1, by rw [← hL]; exact e5, by rw [← hL]; exact e6⟩
  · rw [← hL]
    exact (zC_f hno).symm
  · rw [← hL]
    exact fun q => absurd q hno
theorem lfQ_c {M L M' : Mem} {ord : Int → Int} {sz wh : Int} (hL : L = laid M ord) (hk : keepR L M') (h : lOK L) (hR : rulL L) (hz : 1 ≤ sz ∧ sz ≤ 60) (hn : 0 < L 0 11) (hr : 0 ≤ rmL L sz) (hw : wh = whlL L sz) (e0 : M' 0 20 = wh) (e1 : M' 0 11 = L 0 11) (e5 : M' 5 = L 5) (e6 : M' 6 = L 6) (hd : ∀ s, 0 ≤ s → s < L 0 11 → M' 15 s = dotL L sz s ∧ M' 16 s = wL L sz s) : lfQ M ord sz 1 M' := by
  refine ⟨lfQ_k hL hk, ?_, ?_, by rw [← hL]; exact e1, by rw [← hL]; exact e5, by rw [← hL]; exact e6⟩
  · rw [← hL]
    exact (zC_t ((okL_iff h hR hz hn).mpr hr)).symm
  · rw [← hL]
    exact fun _ => ⟨by rw [e0, hw]; unfold leastL; rw [if_neg (by omega)], hd⟩
theorem iX5_layFit_X5 : ∀ w ∈ wsX50, w ∈ wsX5_layFit := fun _ h => List.mem_cons_of_mem _ (List.mem_append_right _ h)
set_option maxHeartbeats 4000000 in
set_option maxRecDepth 100000 in
theorem c5_layFit (l : Launch) (a : Nat → Nat) (sz : Int) (hz1 : 1 ≤ sz ∧ sz ≤ 60) (M : Mem) (ord : Int → Int) (hR : refOK M) (ho : isOrd (sR M).1 (wS (sR M)) ord) : CtI XT l yX5_layFit wsX5_layFit ({ frames := 3, cells := 0, slots := 0, locals := 73 } : Room) LR a M [.ref (a 0), .int (iI sz)] (fun z M' => lfQ M ord sz z M') := by
  refine CtI.of (y := yX5_layFit) (cc := cX5_layFit) (maxL := 10) (ret := (some .boolean)) (lv := [some (.ref (a 0)), some (.int (iI sz)), none, none, none, none, none, none, none, none]) (by decide) rfl (Nat.le_of_ble_eq_true rfl) (lvOK_of _ _ ⟨rfl, rfl⟩) ?_
  intro p e s m below meth c D T F K X0 hr hlk
  have hXc := XT_c
  obtain ⟨hm, hE, htl, h1, h2, h3, h4⟩ := id hR
  refine g_aload_n F (pc' := 1) dX5_layFit_0 rfl rfl ?_
  refine g_callV F K hXc X0 (pc' := 4) (st := []) (c5_layStems l a M ord hm hE ho htl) (cwV 0 F.2.2.2.2 gX5_layFit_X5_layStems rfl rfl rfl (by decide +kernel) ⟨Nat.le_of_ble_eq_true rfl, Nat.le_of_ble_eq_true rfl⟩) rfl rfl rfl rfl (Nat.le_of_ble_eq_true rfl) dX5_layFit_1 rfl (fun L q_1 => ?_)
  have hL : L = laid M ord := q_1
  have hL1 := laid_ok hR ho
  rw [← hL] at hL1
  obtain ⟨hn, hg, hs, hsep, hc⟩ := id hL1
  have hL4 : 0 ≤ L 2 4 ∧ L 2 4 ≤ 3 := by rw [hL]; exact h4
  have hRL : rulL L := by rw [hL]; exact ⟨h1, h2, h3, h4⟩
  obtain ⟨r1, r2, r3, r4⟩ := id hRL
  refine g_iconst F (pc' := 5) dX5_layFit_4 rfl ?_
  refine g_istore_n F (pc' := 6) (lv' := [some (.ref (a 0)), some (.int (iI sz)), some (.int (iI 0)), none, none, none, none, none, none, none]) dX5_layFit_5 rfl (by decide) rfl ?_
  have lp_6 : ∀ (n_6 : Nat) (v : Int) (wd : Int → Int) (hm_6 : 9 - v < (n_6 : Int)) (hv : 0 ≤ v ∧ v ≤ L 0 11) (hwd : ∀ j, 0 ≤ j → j < v → wd j = wL L sz j), GG p l e ({ frames := 3, cells := 0, slots := 0, locals := 73 } : Room) s m ([.ref (a 0), .int (iI sz)].toArray) below meth c (PI D T a LR M (fun z M' => lfQ M ord sz z M') below ([.ref (a 0), .int (iI sz)].toArray) s) D (AA T a LR M s.heap.size) 10 (wld T a LR (sc L 16 wd)) 6 [some (.ref (a 0)), some (.int (iI sz)), some (.int (iI v)), none, none, none, none, none, none, none] [] := by
    intro n_6
    induction n_6 with
    | zero => intro v wd hm_6 hv hwd; exfalso; omega
    | succ n_6 ih_6 =>
      intro v wd hm_6 hv hwd
      refine g_iload_n F (pc' := 7) dX5_layFit_6 rfl rfl ?_
      refine g_aload_n F (pc' := 8) dX5_layFit_7 rfl rfl ?_
      refine g_getI F K (k := 0) (fld := 11) (ci := 5) (z := L 0 11) (pc' := 11) iX5_layFit_X5 rfl rfl rfl (by decide) (List.mem_of_getElem? (i := 1) rfl) dX5_layFit_8 rfl (by first | rfl | simp [upf, sc]) ?_
      refine g_icmp_ge F (pc' := 14) (tgt := 37) dX5_layFit_11 rfl (by decide) (by omega) (by omega) (fun c_11 => ?_) (fun c_11 => ?_)
      · skip
        have hwA : ∀ j, 0 ≤ j → j < L 0 11 → wd j = wL L sz j := fun j q1 q2 => hwd j q1 (by omega)
        refine g_aload_n F (pc' := 38) dX5_layFit_37 rfl rfl ?_
        refine g_lconst F (pc' := 39) (z := 0) dX5_layFit_38 rfl rfl ?_
        refine h_putJ F K (k := 0) (fld := 20) (ci := 5) (pc' := 42) (sc (sc L 0 (upf (L 0) 20 0)) 16 wd) (mem_up (by rfl) (by intro j hj; simp only [sc, if_neg hj])) tyX5 tyX5_ok nmX5 iX5_layFit_X5 rfl rfl rfl (by decide) rfl rfl (List.mem_of_getElem? (i := 4) rfl) dX5_layFit_39 rfl ?_
        refine g_aload_n F (pc' := 43) dX5_layFit_42 rfl rfl ?_
        refine g_getI F K (k := 0) (fld := 11) (ci := 5) (z := L 0 11) (pc' := 46) iX5_layFit_X5 rfl rfl rfl (by decide) (List.mem_of_getElem? (i := 1) rfl) dX5_layFit_43 rfl (by first | rfl | simp [upf, sc]) ?_
        refine g_if_ne F (pc' := 49) (tgt := 51) dX5_layFit_46 rfl (by decide) (by omega) (fun c_46 => ?_) (fun c_46 => ?_)
        · skip
          refine g_aload_n F (pc' := 52) dX5_layFit_51 rfl rfl ?_
          refine g_getI F K (k := 0) (fld := 11) (ci := 5) (z := L 0 11) (pc' := 55) iX5_layFit_X5 rfl rfl rfl (by decide) (List.mem_of_getElem? (i := 1) rfl) dX5_layFit_52 rfl (by first | rfl | simp [upf, sc]) ?_
          refine g_iconst F (pc' := 56) dX5_layFit_55 rfl ?_
          refine g_isub F (pc' := 57) dX5_layFit_56 rfl ?_
          refine g_istore_n F (pc' := 58) (lv' := [some (.ref (a 0)), some (.int (iI sz)), some (.int (iI ((L 0 11) - 1))), none, none, none, none, none, none, none]) dX5_layFit_57 rfl (by decide) rfl ?_
          have lp_58 : ∀ (n_58 : Nat) (v : Int) (f : Int → Int) (hm_58 : v + 1 < (n_58 : Int)) (hv : -1 ≤ v ∧ v < L 0 11) (hf : ∀ i, v < i → i < L 0 11 → ∀ t, 0 ≤ t → t ≤ 60 → f (61 * i + t) = FR8 L sz i t), GG p l e ({ frames := 3, cells := 0, slots := 0, locals := 73 } : Room) s m ([.ref (a 0), .int (iI sz)].toArray) below meth c (PI D T a LR M (fun z M' => lfQ M ord sz z M') below ([.ref (a 0), .int (iI sz)].toArray) s) D (AA T a LR M s.heap.size) 10 (wld T a LR (sc (sc (sc L 0 (upf (L 0) 20 0)) 14 f) 16 wd)) 58 [some (.ref (a 0)), some (.int (iI sz)), some (.int (iI v)), none, none, none, none, none, none, none] [] := by
            intro n_58
            induction n_58 with
            | zero => intro v f hm_58 hv hf; exfalso; omega
            | succ n_58 ih_58 =>
              intro v f hm_58 hv hf
              refine g_iload_n F (pc' := 59) dX5_layFit_58 rfl rfl ?_
              refine g_if_lt F (pc' := 62) (tgt := 267) dX5_layFit_59 rfl (by decide) (by omega) (fun c_59 => ?_) (fun c_59 => ?_)
              · skip
                have hn0 : 0 < L 0 11 := by omega
                have hfa : ∀ i, 0 ≤ i → i < L 0 11 → ∀ t, 0 ≤ t → t ≤ 60 → f (61 * i + t) = FR8 L sz i t := fun i q1 q2 => hf i (by omega) q2
                refine g_aload_n F (pc' := 268) dX5_layFit_267 rfl rfl ?_
                refine g_ldc2 F (pc' := 271) (z := 1000000000000000) dX5_layFit_268 rfl (List.mem_of_getElem? (i := 5) rfl) (by decide +kernel) ?_
                refine h_putJ F K (k := 0) (fld := 20) (ci := 5) (pc' := 274) (sc (sc (sc L 0 (upf (L 0) 20 1000000000000000)) 14 f) 16 wd) (mem_up (by first | exact (upf_w _ _ _ _).symm | funext i; simp only [upf, sc]; (repeat' split) <;> first | rfl | omega | simp_all) (by intro j hj; simp only [sc, if_neg hj])) tyX5 tyX5_ok nmX5 iX5_layFit_X5 rfl rfl rfl (by decide) rfl rfl (List.mem_of_getElem? (i := 4) rfl) dX5_layFit_271 rfl ?_
                refine g_iconst F (pc' := 275) dX5_layFit_274 rfl ?_
                refine g_istore_n F (pc' := 276) (lv' := [some (.ref (a 0)), some (.int (iI sz)), some (.int (iI 0)), none, none, none, none, none, none, none]) dX5_layFit_275 rfl (by decide) rfl ?_
                have lp_276 : ∀ (n_276 : Nat) (k : Int) (wh : Int) (hm_276 : 61 - k < (n_276 : Int)) (hk : 0 ≤ k ∧ k ≤ 61) (hwh : wh = mS8 (VL L sz 0) 0 (rmL L sz) (k - 1)), GG p l e ({ frames := 3, cells := 0, slots := 0, locals := 73 } : Room) s m ([.ref (a 0), .int (iI sz)].toArray) below meth c (PI D T a LR M (fun z M' => lfQ M ord sz z M') below ([.ref (a 0), .int (iI sz)].toArray) s) D (AA T a LR M s.heap.size) 10 (wld T a LR (sc (sc (sc L 0 (upf (L 0) 20 wh)) 14 f) 16 wd)) 276 [some (.ref (a 0)), some (.int (iI sz)), some (.int (iI k)), none, none, none, none, none, none, none] [] := by
                  intro n_276
                  induction n_276 with
                  | zero => intro k wh hm_276 hk hwh; exfalso; omega
                  | succ n_276 ih_276 =>
                    intro k wh hm_276 hk hwh
                    have hwhR : 0 ≤ wh ∧ wh ≤ 1000000000000000 := by rw [hwh]; exact mS_R (fun x x1 x2 => VL_lt hL1 hRL hz1 (by omega) (by omega) (by have := lpL_0 L sz; omega) x2)
                    refine g_iload_n F (pc' := 277) dX5_layFit_276 rfl rfl ?_
                    refine g_bipush F (pc' := 279) dX5_layFit_277 rfl (by decide +kernel) ?_
                    refine g_icmp_gt F (pc' := 282) (tgt := 319) dX5_layFit_279 rfl (by decide) (by omega) (by decide) (fun c_279 => ?_) (fun c_279 => ?_)
                    · skip
                      have hwe := wh_end hL1 hRL hz1 hn0 (k := k) (by omega) hwh
                      refine g_aload_n F (pc' := 320) dX5_layFit_319 rfl rfl ?_
                      refine g_getJ F K (k := 0) (fld := 20) (ci := 5) (z := wh) (pc' := 323) iX5_layFit_X5 rfl rfl rfl (by decide) (List.mem_of_getElem? (i := 4) rfl) dX5_layFit_320 rfl (by first | rfl | exact upf_s _ _ _ | simp [upf, sc]) ?_
                      refine g_ldc2 F (pc' := 326) (z := 1000000000000000) dX5_layFit_323 rfl (List.mem_of_getElem? (i := 5) rfl) (by decide +kernel) ?_
                      refine g_lcmp F (pc' := 327) dX5_layFit_326 rfl (by omega) (by decide) ?_
                      refine g_if_ne F (pc' := 330) (tgt := 332) dX5_layFit_327 rfl (by decide) (cmpz_R _ _) (fun c_327 => ?_) (fun c_327 => ?_)
                      · skip
                        have c_327 := cmpz_ne.mp c_327
                        have hrm : 0 ≤ rmL L sz := by rcases hwe with q | q; (exfalso; exact c_327 q.1); exact q.2.1
                        have hwl : wh = whlL L sz := by rcases hwe with q | q; (exfalso; exact c_327 q.1); exact q.2.2
                        refine g_lconst F (pc' := 333) (z := 0) dX5_layFit_332 rfl rfl ?_
                        refine g_lstore_n F (pc' := 334) (lv' := [some (.ref (a 0)), some (.int (iI sz)), some (.long (lI 0)), none, none, none, none, none, none, none]) dX5_layFit_333 rfl (by decide) rfl ?_
                        refine g_iconst F (pc' := 335) dX5_layFit_334 rfl ?_
                        refine g_istore F (pc' := 337) (lv' := [some (.ref (a 0)), some (.int (iI sz)), some (.long (lI 0)), none, some (.int (iI 0)), none, none, none, none, none]) dX5_layFit_335 rfl (by decide) rfl ?_
                        have lp_337 : ∀ (n_337 : Nat) (had : Int) (v : Int) (dt : Int → Int) (hm_337 : 9 - v < (n_337 : Int)) (hv : 0 ≤ v ∧ v ≤ L 0 11) (hdt : ∀ j, 0 ≤ j → j < v → dt j = dotL L sz j) (hq : v < L 0 11 → had8 L sz v had) (hp : 0 < v → 0 ≤ dt (v - 1) ∧ dt (v - 1) = lpL L sz (v - 1) + (SELL L sz v).1), GG p l e ({ frames := 3, cells := 0, slots := 0, locals := 73 } : Room) s m ([.ref (a 0), .int (iI sz)].toArray) below meth c (PI D T a LR M (fun z M' => lfQ M ord sz z M') below ([.ref (a 0), .int (iI sz)].toArray) s) D (AA T a LR M s.heap.size) 10 (wld T a LR (sc (sc (sc (sc L 0 (upf (L 0) 20 wh)) 14 f) 15 dt) 16 wd)) 337 [some (.ref (a 0)), some (.int (iI sz)), some (.long (lI had)), none, some (.int (iI v)), none, none, none, none, none] [] := by
                          intro n_337
                          induction n_337 with
                          | zero => intro had v dt hm_337 hv hdt hq hp; exfalso; omega
                          | succ n_337 ih_337 =>
                            intro had v dt hm_337 hv hdt hq hp
                            refine g_iload F (pc' := 339) dX5_layFit_337 rfl rfl ?_
                            refine g_aload_n F (pc' := 340) dX5_layFit_339 rfl rfl ?_
                            refine g_getI F K (k := 0) (fld := 11) (ci := 5) (z := L 0 11) (pc' := 343) iX5_layFit_X5 rfl rfl rfl (by decide) (List.mem_of_getElem? (i := 1) rfl) dX5_layFit_340 rfl (by first | rfl | simp [upf, sc]) ?_
                            refine g_icmp_ge F (pc' := 346) (tgt := 518) dX5_layFit_343 rfl (by decide) (by omega) (by omega) (fun c_343 => ?_) (fun c_343 => ?_)
                            · skip
                              refine g_iconst F (pc' := 519) dX5_layFit_518 rfl ?_
                              exact g_zret F hr hlk dX5_layFit_519 (Or.inr rfl) (lfQ_c hL (show keepR L _ from ⟨rfl, rfl, rfl, rfl, rfl, rfl, rfl⟩) hL1 hRL hz1 hn0 hrm hwl rfl rfl rfl rfl (fun j q1 q2 => ⟨hdt j q1 (by omega), hwA j q1 q2⟩))
                            · skip
                              have hSR := SELL_R hrm hv.1 c_343
                              have hSv := hSR.1
                              have hupv := lpL_up0 hL1 hRL hz1 hv.1 c_343
                              have hlRv := lpL_R0 hL1 hRL hz1 hv.1 (by omega)
                              have hwRv := wL_R hL1 hL4 hz1 hv.1 c_343
                              have hhR := had8_R hL1 hRL hz1 hrm hv.1 c_343 (hq c_343)
                              have hl0 : v = 0 → lpL L sz v = 0 ∧ (SELL L sz v).1 = 0 := fun q => by subst q; exact ⟨rfl, rfl⟩
                              have lp_385 : ∀ (n_385 : Nat) (hd : Int) (op : Int) (x0 : Int) (dt2 : Int → Int) (hm_385 : 61 - x0 < (n_385 : Int)) (hx0 : 0 ≤ x0 ∧ x0 ≤ 61) (hop : (op = 1 ∧ hd = had ∧ dt2 = dt ∧ lpL L sz v + (SELL L sz v).1 ≤ x0 ∧ x0 ≤ lpL L sz v + (SELL L sz (v + 1)).1) ∨ (op = 0 ∧ dt2 = upf dt v (lpL L sz v + (SELL L sz (v + 1)).1) ∧ hd = hadN L sz v had)), GG p l e ({ frames := 3, cells := 0, slots := 0, locals := 73 } : Room) s m ([.ref (a 0), .int (iI sz)].toArray) below meth c (PI D T a LR M (fun z M' => lfQ M ord sz z M') below ([.ref (a 0), .int (iI sz)].toArray) s) D (AA T a LR M s.heap.size) 10 (wld T a LR (sc (sc (sc (sc L 0 (upf (L 0) 20 wh)) 14 f) 15 dt2) 16 wd)) 385 [some (.ref (a 0)), some (.int (iI sz)), some (.long (lI hd)), none, some (.int (iI v)), none, some (.int (iI op)), some (.int (iI x0)), none, none] [] := by
                                intro n_385
                                induction n_385 with
                                | zero => intro hd op x0 dt2 hm_385 hx0 hop; exfalso; omega
                                | succ n_385 ih_385 =>
                                  intro hd op x0 dt2 hm_385 hx0 hop
                                  refine g_iload F (pc' := 387) dX5_layFit_385 rfl rfl ?_
                                  refine g_bipush F (pc' := 389) dX5_layFit_387 rfl (by decide +kernel) ?_
                                  refine g_icmp_gt F (pc' := 392) (tgt := 512) dX5_layFit_389 rfl (by decide) (by omega) (by decide) (fun c_389 => ?_) (fun c_389 => ?_)
                                  · skip
                                    obtain ⟨q1, q2, q3⟩ : op = 0 ∧ dt2 = upf dt v (lpL L sz v + (SELL L sz (v + 1)).1) ∧ hd = hadN L sz v had := by rcases hop with q | q; (exfalso; omega); exact q
                                    refine g_iinc F (pc' := 515) (lv' := [some (.ref (a 0)), some (.int (iI sz)), some (.long (lI hd)), none, some (.int (iI (v + 1))), none, some (.int (iI op)), some (.int (iI x0)), none, none]) dX5_layFit_512 rfl rfl (by decide) rfl ?_
                                    refine g_goto F (tgt := 337) dX5_layFit_515 (by decide) ?_
                                    refine g_lvw [some (.ref (a 0)), some (.int (iI sz)), some (.long (lI hd)), none, some (.int (iI (v + 1))), none, none, none, none, none] (lvw_of _ _ [true, true, true, false, true, false, false, false, false, false] rfl) ?_
                                    exact ih_337 hd (v + 1) dt2 (by omega) (by omega) (fun j q3 q4 => by rw [q2]; by_cases hj : j = v; (rw [hj, upf_s]; rfl); (rw [upf_n hj]; exact hdt j q3 (by omega))) (fun q => by rw [q3]; exact had8_s hL1 hRL hz1 hrm hv.1 q (hq c_343)) (fun q => by rw [show v + 1 - 1 = v by omega, q2, upf_s]; exact ⟨by omega, rfl⟩)
                                  · skip
                                    refine g_iload F (pc' := 394) dX5_layFit_392 rfl rfl ?_
                                    refine g_if_eq F (pc' := 397) (tgt := 512) dX5_layFit_394 rfl (by decide) (by omega) (fun c_394 => ?_) (fun c_394 => ?_)
                                    · skip
                                      obtain ⟨q1, q2, q3⟩ : op = 0 ∧ dt2 = upf dt v (lpL L sz v + (SELL L sz (v + 1)).1) ∧ hd = hadN L sz v had := by rcases hop with q | q; (exfalso; omega); exact q
                                      refine g_iinc F (pc' := 515) (lv' := [some (.ref (a 0)), some (.int (iI sz)), some (.long (lI hd)), none, some (.int (iI (v + 1))), none, some (.int (iI op)), some (.int (iI x0)), none, none]) dX5_layFit_512 rfl rfl (by decide) rfl ?_
                                      refine g_goto F (tgt := 337) dX5_layFit_515 (by decide) ?_
                                      refine g_lvw [some (.ref (a 0)), some (.int (iI sz)), some (.long (lI hd)), none, some (.int (iI (v + 1))), none, none, none, none, none] (lvw_of _ _ [true, true, true, false, true, false, false, false, false, false] rfl) ?_
                                      exact ih_337 hd (v + 1) dt2 (by omega) (by omega) (fun j q3 q4 => by rw [q2]; by_cases hj : j = v; (rw [hj, upf_s]; rfl); (rw [upf_n hj]; exact hdt j q3 (by omega))) (fun q => by rw [q3]; exact had8_s hL1 hRL hz1 hrm hv.1 q (hq c_343)) (fun q => by rw [show v + 1 - 1 = v by omega, q2, upf_s]; exact ⟨by omega, rfl⟩)
                                    · skip
                                      obtain ⟨q1, q2, q3, q4, q5⟩ : op = 1 ∧ hd = had ∧ dt2 = dt ∧ lpL L sz v + (SELL L sz v).1 ≤ x0 ∧ x0 ≤ lpL L sz v + (SELL L sz (v + 1)).1 := by rcases hop with q | q; exact q; (exfalso; omega)
                                      refine g_iload F (pc' := 399) dX5_layFit_397 rfl rfl ?_
                                      refine g_if_ne F (pc' := 402) (tgt := 406) dX5_layFit_399 rfl (by decide) (by omega) (fun c_399 => ?_) (fun c_399 => ?_)
                                      · skip
                                        have hp1 := hp (by omega)
                                        have hlv1 : lpL L sz (v - 1 + 1) = lpL L sz (v - 1) + wL L sz (v - 1) + 1 := lpp_s (by omega)
                                        rw [show v - 1 + 1 = v by omega] at hlv1
                                        have ed : dt2 (v - 1) = dt (v - 1) := by rw [q3]
                                        have hlR1 := lpL_R0 hL1 hRL hz1 (i := v - 1) (by omega) (by omega)
                                        have hwR1 := wL_R hL1 hL4 hz1 (s := v - 1) (by omega) (by omega)
                                        refine g_aload_n F (pc' := 407) dX5_layFit_406 rfl rfl ?_
                                        refine g_lload_n F (pc' := 408) dX5_layFit_407 rfl rfl ?_
                                        refine g_aload_n F (pc' := 409) dX5_layFit_408 rfl rfl ?_
                                        refine g_iload F (pc' := 411) dX5_layFit_409 rfl rfl ?_
                                        refine g_aload_n F (pc' := 412) dX5_layFit_411 rfl rfl ?_
                                        refine g_getR F K (k := 0) (fld := 18) (ci := 5) (q := 15) (pc' := 415) iX5_layFit_X5 rfl rfl rfl (by decide) (List.mem_of_getElem? (i := 7) rfl) dX5_layFit_412 rfl ?_
                                        refine g_iload F (pc' := 417) dX5_layFit_415 rfl rfl ?_
                                        refine g_iconst F (pc' := 418) dX5_layFit_417 rfl ?_
                                        refine g_isub F (pc' := 419) dX5_layFit_418 rfl ?_
                                        refine g_iald F K (k := 15) (v := dt2 (v - 1)) (pc' := 420) rfl (by decide) (by omega) dX5_layFit_419 rfl (by first | rfl | simp [upf, sc]) ?_
                                        refine g_iload F (pc' := 422) dX5_layFit_420 rfl rfl ?_
                                        refine g_iload_n F (pc' := 423) dX5_layFit_422 rfl rfl ?_
                                        refine g_callJ F K hXc X0 (pc' := 426) (st := [.long (lI hd), .ref (a 0)]) (c5_gapDrift l a (sc (sc (sc (sc L 0 (upf (L 0) 20 wh)) 14 f) 15 dt2) 16 wd) v (dt2 (v - 1)) x0 sz (by omega) (by omega) (by omega) (by omega) (by exact (hs v (by omega) (by omega)).1) (by exact (hs (v - 1) (by omega) (by omega)).2.1) (by show 0 ≤ wd (v - 1) ∧ wd (v - 1) ≤ 60; rw [hwA (v - 1) (by omega) (by omega)]; have := wL_R hL1 hL4 hz1 (s := (v - 1)) (by omega) (by omega); omega) (by show 0 ≤ L 2 2 ∧ L 2 2 ≤ 9; omega) (by show 0 ≤ L 2 3 ∧ L 2 3 ≤ 3; omega)) (cwV 4 F.2.2.2.2 gX5_layFit_X5_gapDrift rfl rfl rfl (by decide +kernel) ⟨Nat.le_of_ble_eq_true rfl, Nat.le_of_ble_eq_true rfl⟩) rfl rfl rfl rfl (Nat.le_of_ble_eq_true rfl) dX5_layFit_423 rfl (fun z_423 M_423 q_423 => ?_)
                                        obtain ⟨rfl, mq_423⟩ := q_423
                                        have mq_423 := mq_423.symm; subst mq_423
                                        refine h_topJ (z' := gcL L sz (v - 1) ((x0 - (dt2 (v - 1))) - wL L sz (v - 1))) (by show cntz (L 2 3) (2 * absz (1000 * ((x0 - (dt2 (v - 1))) - wd (v - 1)) - (L 5 v - L 6 (v - 1)) * sz)) * L 2 2 = gcost _ _ _ _ _ _ _; rw [hwA (v - 1) (by omega) (by omega)]; unfold gcost; rw [show v - 1 + 1 = v by omega]) ?_
                                        have b_423 := gcL_R hL1 hRL hz1 (v := (v - 1)) (g := (x0 - (dt2 (v - 1))) - wL L sz (v - 1)) (by omega) (by omega)
                                        refine g_callJ F K hXc X0 (pc' := 429) (st := []) (c5_both l a (sc (sc (sc (sc L 0 (upf (L 0) 20 wh)) 14 f) 15 dt2) 16 wd) hd (gcL L sz (v - 1) ((x0 - (dt2 (v - 1))) - wL L sz (v - 1))) (by omega) (by omega) (by show 0 ≤ L 2 3 ∧ L 2 3 ≤ 3; omega)) (cwV 2 F.2.2.2.2 gX5_layFit_X5_both rfl rfl rfl (by decide +kernel) ⟨Nat.le_of_ble_eq_true rfl, Nat.le_of_ble_eq_true rfl⟩) rfl rfl rfl rfl (Nat.le_of_ble_eq_true rfl) dX5_layFit_426 rfl (fun z_426 M_426 q_426 => ?_)
                                        obtain ⟨rfl, mq_426⟩ := q_426
                                        have mq_426 := mq_426.symm; subst mq_426
                                        refine h_topJ (z' := jn (L 2 3) hd (gcL L sz (v - 1) ((x0 - (dt2 (v - 1))) - wL L sz (v - 1)))) rfl ?_
                                        have hjR := jn_R (L 2 3) (x := hd) (y := gcL L sz (v - 1) ((x0 - dt2 (v - 1)) - wL L sz (v - 1))) (A := 20000000000) (by omega) b_423
                                        refine g_lstore F (pc' := 431) (lv' := [some (.ref (a 0)), some (.int (iI sz)), some (.long (lI hd)), none, some (.int (iI v)), none, some (.int (iI op)), some (.int (iI x0)), some (.long (lI (jn (L 2 3) hd (gcL L sz (v - 1) ((x0 - (dt2 (v - 1))) - wL L sz (v - 1)))))), none]) dX5_layFit_429 rfl (by decide) rfl ?_
                                        refine g_aload_n F (pc' := 432) dX5_layFit_431 rfl rfl ?_
                                        refine g_getR F K (k := 0) (fld := 17) (ci := 5) (q := 14) (pc' := 435) iX5_layFit_X5 rfl rfl rfl (by decide) (List.mem_of_getElem? (i := 6) rfl) dX5_layFit_432 rfl ?_
                                        refine g_bipush F (pc' := 437) dX5_layFit_435 rfl (by decide +kernel) ?_
                                        refine g_iload F (pc' := 439) dX5_layFit_437 rfl rfl ?_
                                        refine g_imul F (pc' := 440) dX5_layFit_439 rfl ?_
                                        refine g_iload F (pc' := 442) dX5_layFit_440 rfl rfl ?_
                                        refine g_iadd F (pc' := 443) dX5_layFit_442 rfl ?_
                                        refine g_lald F K (k := 14) (v := f ((61 * v) + x0)) (pc' := 444) rfl (by decide) (by omega) dX5_layFit_443 rfl (by first | rfl | simp [upf, sc]) ?_
                                        have e443 : f ((61 * v) + x0) = FR8 L sz v x0 := hfa v (by omega) c_343 x0 (by omega) (by omega)
                                        have e443R := FR8_R hL1 hRL hz1 (v := v) (p := x0) (by omega) c_343 (by omega)
                                        refine g_ldc2 F (pc' := 447) (z := 1000000000000000) dX5_layFit_444 rfl (List.mem_of_getElem? (i := 5) rfl) (by decide +kernel) ?_
                                        refine g_lcmp F (pc' := 448) dX5_layFit_447 rfl (by omega) (by decide) ?_
                                        refine g_if_ge F (pc' := 451) (tgt := 506) dX5_layFit_448 rfl (by decide) (cmpz_R _ _) (fun c_448 => ?_) (fun c_448 => ?_)
                                        · skip
                                          have c_448 := cmpz_ge.mp c_448
                                          refine g_iinc F (pc' := 509) (lv' := [some (.ref (a 0)), some (.int (iI sz)), some (.long (lI hd)), none, some (.int (iI v)), none, some (.int (iI op)), some (.int (iI (x0 + 1))), some (.long (lI (jn (L 2 3) hd (gcL L sz (v - 1) ((x0 - (dt2 (v - 1))) - wL L sz (v - 1)))))), none]) dX5_layFit_506 rfl rfl (by decide) rfl ?_
                                          refine g_goto F (tgt := 385) dX5_layFit_509 (by decide) ?_
                                          refine g_lvw [some (.ref (a 0)), some (.int (iI sz)), some (.long (lI hd)), none, some (.int (iI v)), none, some (.int (iI op)), some (.int (iI (x0 + 1))), none, none] (lvw_of _ _ [true, true, true, false, true, false, true, true, false, false] rfl) ?_
                                          exact ih_385 hd op (x0 + 1) dt2 (by omega) (by omega) (by first | exact Or.inr ⟨rfl, by rw [q3, show x0 = lpL L sz v + (SELL L sz (v + 1)).1 by omega], by unfold hadN; first | (rw [if_pos c_399, q2, show x0 = lpL L sz v + (SELL L sz (v + 1)).1 by omega]) | (rw [if_neg c_399, q2, show (x0 - dt2 (v - 1)) - wL L sz (v - 1) = 1 + ((SELL L sz (v + 1)).1 - (SELL L sz v).1) by omega, show x0 = lpL L sz v + (SELL L sz (v + 1)).1 by omega])⟩ | (refine Or.inl ⟨q1, q2, q3, by omega, ?_⟩; by_cases hxe : x0 = lpL L sz v + (SELL L sz (v + 1)).1; (exfalso; first | omega | exact c_475 (by rw [e470, hwl]; exact (sel_hit hrm hv.1 c_343 (hq c_343) (x := x0 - lpL L sz v) (by omega)).mpr (by omega))); omega))
                                        · skip
                                          have c_448 := cmpz_lt.mp c_448
                                          refine g_aload_n F (pc' := 452) dX5_layFit_451 rfl rfl ?_
                                          refine g_lload F (pc' := 454) dX5_layFit_452 rfl rfl ?_
                                          refine g_aload_n F (pc' := 455) dX5_layFit_454 rfl rfl ?_
                                          refine g_getR F K (k := 0) (fld := 17) (ci := 5) (q := 14) (pc' := 458) iX5_layFit_X5 rfl rfl rfl (by decide) (List.mem_of_getElem? (i := 6) rfl) dX5_layFit_455 rfl ?_
                                          refine g_bipush F (pc' := 460) dX5_layFit_458 rfl (by decide +kernel) ?_
                                          refine g_iload F (pc' := 462) dX5_layFit_460 rfl rfl ?_
                                          refine g_imul F (pc' := 463) dX5_layFit_462 rfl ?_
                                          refine g_iload F (pc' := 465) dX5_layFit_463 rfl rfl ?_
                                          refine g_iadd F (pc' := 466) dX5_layFit_465 rfl ?_
                                          refine g_lald F K (k := 14) (v := f ((61 * v) + x0)) (pc' := 467) rfl (by decide) (by omega) dX5_layFit_466 rfl (by first | rfl | simp [upf, sc]) ?_
                                          refine g_callJ F K hXc X0 (pc' := 470) (st := []) (c5_both l a (sc (sc (sc (sc L 0 (upf (L 0) 20 wh)) 14 f) 15 dt2) 16 wd) (jn (L 2 3) hd (gcL L sz (v - 1) ((x0 - (dt2 (v - 1))) - wL L sz (v - 1)))) (f ((61 * v) + x0)) (by omega) (by omega) (by show 0 ≤ L 2 3 ∧ L 2 3 ≤ 3; omega)) (cwV 2 F.2.2.2.2 gX5_layFit_X5_both rfl rfl rfl (by decide +kernel) ⟨Nat.le_of_ble_eq_true rfl, Nat.le_of_ble_eq_true rfl⟩) rfl rfl rfl rfl (Nat.le_of_ble_eq_true rfl) dX5_layFit_467 rfl (fun z_467 M_467 q_467 => ?_)
                                          obtain ⟨rfl, mq_467⟩ := q_467
                                          have mq_467 := mq_467.symm; subst mq_467
                                          refine h_topJ (z' := jn (L 2 3) (jn (L 2 3) hd (gcL L sz (v - 1) ((x0 - (dt2 (v - 1))) - wL L sz (v - 1)))) (f ((61 * v) + x0))) rfl ?_
                                          have e470 : jn (L 2 3) (jn (L 2 3) hd (gcL L sz (v - 1) ((x0 - dt2 (v - 1)) - wL L sz (v - 1)))) (f ((61 * v) + x0)) = jn (L 2 3) had (FSL L sz v (x0 - lpL L sz v)) := by rw [q2, jn_assoc, e443, FR8_t (by omega), FSL_s c_399, show (x0 - dt2 (v - 1)) - wL L sz (v - 1) = 1 + (x0 - lpL L sz v - (SELL L sz v).1) by omega]
                                          have hj2 := jn_R (L 2 3) (x := jn (L 2 3) hd (gcL L sz (v - 1) ((x0 - (dt2 (v - 1))) - wL L sz (v - 1)))) (y := f ((61 * v) + x0)) (A := 30000000000) (B := 1000000000000000) (by omega) (by omega)
                                          refine g_aload_n F (pc' := 471) dX5_layFit_470 rfl rfl ?_
                                          refine g_getJ F K (k := 0) (fld := 20) (ci := 5) (z := wh) (pc' := 474) iX5_layFit_X5 rfl rfl rfl (by decide) (List.mem_of_getElem? (i := 4) rfl) dX5_layFit_471 rfl (by first | rfl | exact upf_s _ _ _ | simp [upf, sc]) ?_
                                          refine g_lcmp F (pc' := 475) dX5_layFit_474 rfl (by omega) (by omega) ?_
                                          refine g_if_ne F (pc' := 478) (tgt := 506) dX5_layFit_475 rfl (by decide) (cmpz_R _ _) (fun c_475 => ?_) (fun c_475 => ?_)
                                          · skip
                                            have c_475 := cmpz_ne.mp c_475
                                            refine g_iinc F (pc' := 509) (lv' := [some (.ref (a 0)), some (.int (iI sz)), some (.long (lI hd)), none, some (.int (iI v)), none, some (.int (iI op)), some (.int (iI (x0 + 1))), some (.long (lI (jn (L 2 3) hd (gcL L sz (v - 1) ((x0 - (dt2 (v - 1))) - wL L sz (v - 1)))))), none]) dX5_layFit_506 rfl rfl (by decide) rfl ?_
                                            refine g_goto F (tgt := 385) dX5_layFit_509 (by decide) ?_
                                            refine g_lvw [some (.ref (a 0)), some (.int (iI sz)), some (.long (lI hd)), none, some (.int (iI v)), none, some (.int (iI op)), some (.int (iI (x0 + 1))), none, none] (lvw_of _ _ [true, true, true, false, true, false, true, true, false, false] rfl) ?_
                                            exact ih_385 hd op (x0 + 1) dt2 (by omega) (by omega) (by first | exact Or.inr ⟨rfl, by rw [q3, show x0 = lpL L sz v + (SELL L sz (v + 1)).1 by omega], by unfold hadN; first | (rw [if_pos c_399, q2, show x0 = lpL L sz v + (SELL L sz (v + 1)).1 by omega]) | (rw [if_neg c_399, q2, show (x0 - dt2 (v - 1)) - wL L sz (v - 1) = 1 + ((SELL L sz (v + 1)).1 - (SELL L sz v).1) by omega, show x0 = lpL L sz v + (SELL L sz (v + 1)).1 by omega])⟩ | (refine Or.inl ⟨q1, q2, q3, by omega, ?_⟩; by_cases hxe : x0 = lpL L sz v + (SELL L sz (v + 1)).1; (exfalso; first | omega | exact c_475 (by rw [e470, hwl]; exact (sel_hit hrm hv.1 c_343 (hq c_343) (x := x0 - lpL L sz v) (by omega)).mpr (by omega))); omega))
                                          · skip
                                            have c_475 := cmpz_eq.mp c_475
                                            have hxs := (sel_hit hrm hv.1 c_343 (hq c_343) (x := x0 - lpL L sz v) (by omega)).mp (by rw [← hwl, ← e470]; exact c_475)
                                            refine g_aload_n F (pc' := 479) dX5_layFit_478 rfl rfl ?_
                                            refine g_getR F K (k := 0) (fld := 18) (ci := 5) (q := 15) (pc' := 482) iX5_layFit_X5 rfl rfl rfl (by decide) (List.mem_of_getElem? (i := 7) rfl) dX5_layFit_479 rfl ?_
                                            refine g_iload F (pc' := 484) dX5_layFit_482 rfl rfl ?_
                                            refine g_iload F (pc' := 486) dX5_layFit_484 rfl rfl ?_
                                            refine h_iast F K (k := 15) (pc' := 487) (sc (sc (sc (sc L 0 (upf (L 0) 20 wh)) 14 f) 15 (upf dt2 v x0)) 16 wd) (mem_up (by rfl) (by intro j hj; simp only [sc, if_neg hj])) rfl (by decide) (by omega) dX5_layFit_486 rfl ?_
                                            refine g_aload_n F (pc' := 488) dX5_layFit_487 rfl rfl ?_
                                            refine g_lload F (pc' := 490) dX5_layFit_488 rfl rfl ?_
                                            refine g_aload_n F (pc' := 491) dX5_layFit_490 rfl rfl ?_
                                            refine g_iload F (pc' := 493) dX5_layFit_491 rfl rfl ?_
                                            refine g_iload F (pc' := 495) dX5_layFit_493 rfl rfl ?_
                                            refine g_iload_n F (pc' := 496) dX5_layFit_495 rfl rfl ?_
                                            refine g_callJ F K hXc X0 (pc' := 499) (st := [.long (lI (jn (L 2 3) hd (gcL L sz (v - 1) ((x0 - (dt2 (v - 1))) - wL L sz (v - 1))))), .ref (a 0)]) (c5_stemDrift l a (sc (sc (sc (sc L 0 (upf (L 0) 20 wh)) 14 f) 15 (upf dt2 v x0)) 16 wd) v x0 sz (by omega) (by omega) (by omega) (by exact (hs v (by omega) (by omega)).1) (by exact (hs v (by omega) (by omega)).2.1) (by show 0 ≤ wd v ∧ wd v ≤ 60; rw [hwA v (by omega) (by omega)]; have := wL_R hL1 hL4 hz1 (s := v) (by omega) (by omega); omega) (by show 0 ≤ L 2 1 ∧ L 2 1 ≤ 9; omega) (by show 0 ≤ L 2 3 ∧ L 2 3 ≤ 3; omega)) (cwV 3 F.2.2.2.2 gX5_layFit_X5_stemDrift rfl rfl rfl (by decide +kernel) ⟨Nat.le_of_ble_eq_true rfl, Nat.le_of_ble_eq_true rfl⟩) rfl rfl rfl rfl (Nat.le_of_ble_eq_true rfl) dX5_layFit_496 rfl (fun z_496 M_496 q_496 => ?_)
                                            obtain ⟨rfl, mq_496⟩ := q_496
                                            have mq_496 := mq_496.symm; subst mq_496
                                            refine h_topJ (z' := scL L sz v x0) (by show cntz (L 2 3) (absz (1000 * (2 * x0 + wd v) - (L 5 v + L 6 v) * sz)) * L 2 1 = _; rw [hwA v (by omega) (by omega)]; rfl) ?_
                                            have b_496 := scL_R hL1 hRL hz1 (v := v) (p := x0) (by omega) (by omega)
                                            refine g_callJ F K hXc X0 (pc' := 502) (st := []) (c5_both l a (sc (sc (sc (sc L 0 (upf (L 0) 20 wh)) 14 f) 15 (upf dt2 v x0)) 16 wd) (jn (L 2 3) hd (gcL L sz (v - 1) ((x0 - (dt2 (v - 1))) - wL L sz (v - 1)))) (scL L sz v x0) (by omega) (by omega) (by show 0 ≤ L 2 3 ∧ L 2 3 ≤ 3; omega)) (cwV 2 F.2.2.2.2 gX5_layFit_X5_both rfl rfl rfl (by decide +kernel) ⟨Nat.le_of_ble_eq_true rfl, Nat.le_of_ble_eq_true rfl⟩) rfl rfl rfl rfl (Nat.le_of_ble_eq_true rfl) dX5_layFit_499 rfl (fun z_499 M_499 q_499 => ?_)
                                            obtain ⟨rfl, mq_499⟩ := q_499
                                            have mq_499 := mq_499.symm; subst mq_499
                                            refine h_topJ (z' := jn (L 2 3) (jn (L 2 3) hd (gcL L sz (v - 1) ((x0 - (dt2 (v - 1))) - wL L sz (v - 1)))) (scL L sz v x0)) rfl ?_
                                            refine g_lstore_n F (pc' := 503) (lv' := [some (.ref (a 0)), some (.int (iI sz)), some (.long (lI (jn (L 2 3) (jn (L 2 3) hd (gcL L sz (v - 1) ((x0 - (dt2 (v - 1))) - wL L sz (v - 1)))) (scL L sz v x0)))), none, some (.int (iI v)), none, some (.int (iI op)), some (.int (iI x0)), some (.long (lI (jn (L 2 3) hd (gcL L sz (v - 1) ((x0 - (dt2 (v - 1))) - wL L sz (v - 1)))))), none]) dX5_layFit_502 rfl (by decide) rfl ?_
                                            refine g_iconst F (pc' := 504) dX5_layFit_503 rfl ?_
                                            refine g_istore F (pc' := 506) (lv' := [some (.ref (a 0)), some (.int (iI sz)), some (.long (lI (jn (L 2 3) (jn (L 2 3) hd (gcL L sz (v - 1) ((x0 - (dt2 (v - 1))) - wL L sz (v - 1)))) (scL L sz v x0)))), none, some (.int (iI v)), none, some (.int (iI 0)), some (.int (iI x0)), some (.long (lI (jn (L 2 3) hd (gcL L sz (v - 1) ((x0 - (dt2 (v - 1))) - wL L sz (v - 1)))))), none]) dX5_layFit_504 rfl (by decide) rfl ?_
                                            refine g_iinc F (pc' := 509) (lv' := [some (.ref (a 0)), some (.int (iI sz)), some (.long (lI (jn (L 2 3) (jn (L 2 3) hd (gcL L sz (v - 1) ((x0 - (dt2 (v - 1))) - wL L sz (v - 1)))) (scL L sz v x0)))), none, some (.int (iI v)), none, some (.int (iI 0)), some (.int (iI (x0 + 1))), some (.long (lI (jn (L 2 3) hd (gcL L sz (v - 1) ((x0 - (dt2 (v - 1))) - wL L sz (v - 1)))))), none]) dX5_layFit_506 rfl rfl (by decide) rfl ?_
                                            refine g_goto F (tgt := 385) dX5_layFit_509 (by decide) ?_
                                            refine g_lvw [some (.ref (a 0)), some (.int (iI sz)), some (.long (lI (jn (L 2 3) (jn (L 2 3) hd (gcL L sz (v - 1) ((x0 - (dt2 (v - 1))) - wL L sz (v - 1)))) (scL L sz v x0)))), none, some (.int (iI v)), none, some (.int (iI 0)), some (.int (iI (x0 + 1))), none, none] (lvw_of _ _ [true, true, true, false, true, false, true, true, false, false] rfl) ?_
                                            exact ih_385 (jn (L 2 3) (jn (L 2 3) hd (gcL L sz (v - 1) ((x0 - (dt2 (v - 1))) - wL L sz (v - 1)))) (scL L sz v x0)) 0 (x0 + 1) (upf dt2 v x0) (by omega) (by omega) (by first | exact Or.inr ⟨rfl, by rw [q3, show x0 = lpL L sz v + (SELL L sz (v + 1)).1 by omega], by unfold hadN; first | (rw [if_pos c_399, q2, show x0 = lpL L sz v + (SELL L sz (v + 1)).1 by omega]) | (rw [if_neg c_399, q2, show (x0 - dt2 (v - 1)) - wL L sz (v - 1) = 1 + ((SELL L sz (v + 1)).1 - (SELL L sz v).1) by omega, show x0 = lpL L sz v + (SELL L sz (v + 1)).1 by omega])⟩ | (refine Or.inl ⟨q1, q2, q3, by omega, ?_⟩; by_cases hxe : x0 = lpL L sz v + (SELL L sz (v + 1)).1; (exfalso; first | omega | exact c_475 (by rw [e470, hwl]; exact (sel_hit hrm hv.1 c_343 (hq c_343) (x := x0 - lpL L sz v) (by omega)).mpr (by omega))); omega))
                                      · skip
                                        refine g_lload_n F (pc' := 403) dX5_layFit_402 rfl rfl ?_
                                        refine g_goto F (tgt := 429) dX5_layFit_403 (by decide) ?_
                                        refine g_lstore F (pc' := 431) (lv' := [some (.ref (a 0)), some (.int (iI sz)), some (.long (lI hd)), none, some (.int (iI v)), none, some (.int (iI op)), some (.int (iI x0)), some (.long (lI hd)), none]) dX5_layFit_429 rfl (by decide) rfl ?_
                                        refine g_aload_n F (pc' := 432) dX5_layFit_431 rfl rfl ?_
                                        refine g_getR F K (k := 0) (fld := 17) (ci := 5) (q := 14) (pc' := 435) iX5_layFit_X5 rfl rfl rfl (by decide) (List.mem_of_getElem? (i := 6) rfl) dX5_layFit_432 rfl ?_
                                        refine g_bipush F (pc' := 437) dX5_layFit_435 rfl (by decide +kernel) ?_
                                        refine g_iload F (pc' := 439) dX5_layFit_437 rfl rfl ?_
                                        refine g_imul F (pc' := 440) dX5_layFit_439 rfl ?_
                                        refine g_iload F (pc' := 442) dX5_layFit_440 rfl rfl ?_
                                        refine g_iadd F (pc' := 443) dX5_layFit_442 rfl ?_
                                        refine g_lald F K (k := 14) (v := f ((61 * v) + x0)) (pc' := 444) rfl (by decide) (by omega) dX5_layFit_443 rfl (by first | rfl | simp [upf, sc]) ?_
                                        have e443 : f ((61 * v) + x0) = FR8 L sz v x0 := hfa v (by omega) c_343 x0 (by omega) (by omega)
                                        have e443R := FR8_R hL1 hRL hz1 (v := v) (p := x0) (by omega) c_343 (by omega)
                                        refine g_ldc2 F (pc' := 447) (z := 1000000000000000) dX5_layFit_444 rfl (List.mem_of_getElem? (i := 5) rfl) (by decide +kernel) ?_
                                        refine g_lcmp F (pc' := 448) dX5_layFit_447 rfl (by omega) (by decide) ?_
                                        refine g_if_ge F (pc' := 451) (tgt := 506) dX5_layFit_448 rfl (by decide) (cmpz_R _ _) (fun c_448 => ?_) (fun c_448 => ?_)
                                        · skip
                                          have c_448 := cmpz_ge.mp c_448
                                          refine g_iinc F (pc' := 509) (lv' := [some (.ref (a 0)), some (.int (iI sz)), some (.long (lI hd)), none, some (.int (iI v)), none, some (.int (iI op)), some (.int (iI (x0 + 1))), some (.long (lI hd)), none]) dX5_layFit_506 rfl rfl (by decide) rfl ?_
                                          refine g_goto F (tgt := 385) dX5_layFit_509 (by decide) ?_
                                          refine g_lvw [some (.ref (a 0)), some (.int (iI sz)), some (.long (lI hd)), none, some (.int (iI v)), none, some (.int (iI op)), some (.int (iI (x0 + 1))), none, none] (lvw_of _ _ [true, true, true, false, true, false, true, true, false, false] rfl) ?_
                                          exact ih_385 hd op (x0 + 1) dt2 (by omega) (by omega) (by first | exact Or.inr ⟨rfl, by rw [q3, show x0 = lpL L sz v + (SELL L sz (v + 1)).1 by omega], by unfold hadN; first | (rw [if_pos c_399, q2, show x0 = lpL L sz v + (SELL L sz (v + 1)).1 by omega]) | (rw [if_neg c_399, q2, show (x0 - dt2 (v - 1)) - wL L sz (v - 1) = 1 + ((SELL L sz (v + 1)).1 - (SELL L sz v).1) by omega, show x0 = lpL L sz v + (SELL L sz (v + 1)).1 by omega])⟩ | (refine Or.inl ⟨q1, q2, q3, by omega, ?_⟩; by_cases hxe : x0 = lpL L sz v + (SELL L sz (v + 1)).1; (exfalso; first | omega | exact c_475 (by rw [e470, hwl]; exact (sel_hit hrm hv.1 c_343 (hq c_343) (x := x0 - lpL L sz v) (by omega)).mpr (by omega))); omega))
                                        · skip
                                          have c_448 := cmpz_lt.mp c_448
                                          refine g_aload_n F (pc' := 452) dX5_layFit_451 rfl rfl ?_
                                          refine g_lload F (pc' := 454) dX5_layFit_452 rfl rfl ?_
                                          refine g_aload_n F (pc' := 455) dX5_layFit_454 rfl rfl ?_
                                          refine g_getR F K (k := 0) (fld := 17) (ci := 5) (q := 14) (pc' := 458) iX5_layFit_X5 rfl rfl rfl (by decide) (List.mem_of_getElem? (i := 6) rfl) dX5_layFit_455 rfl ?_
                                          refine g_bipush F (pc' := 460) dX5_layFit_458 rfl (by decide +kernel) ?_
                                          refine g_iload F (pc' := 462) dX5_layFit_460 rfl rfl ?_
                                          refine g_imul F (pc' := 463) dX5_layFit_462 rfl ?_
                                          refine g_iload F (pc' := 465) dX5_layFit_463 rfl rfl ?_
                                          refine g_iadd F (pc' := 466) dX5_layFit_465 rfl ?_
                                          refine g_lald F K (k := 14) (v := f ((61 * v) + x0)) (pc' := 467) rfl (by decide) (by omega) dX5_layFit_466 rfl (by first | rfl | simp [upf, sc]) ?_
                                          refine g_callJ F K hXc X0 (pc' := 470) (st := []) (c5_both l a (sc (sc (sc (sc L 0 (upf (L 0) 20 wh)) 14 f) 15 dt2) 16 wd) hd (f ((61 * v) + x0)) (by omega) (by omega) (by show 0 ≤ L 2 3 ∧ L 2 3 ≤ 3; omega)) (cwV 2 F.2.2.2.2 gX5_layFit_X5_both rfl rfl rfl (by decide +kernel) ⟨Nat.le_of_ble_eq_true rfl, Nat.le_of_ble_eq_true rfl⟩) rfl rfl rfl rfl (Nat.le_of_ble_eq_true rfl) dX5_layFit_467 rfl (fun z_467 M_467 q_467 => ?_)
                                          obtain ⟨rfl, mq_467⟩ := q_467
                                          have mq_467 := mq_467.symm; subst mq_467
                                          refine h_topJ (z' := jn (L 2 3) hd (f ((61 * v) + x0))) rfl ?_
                                          have e470 : jn (L 2 3) hd (f ((61 * v) + x0)) = jn (L 2 3) had (FSL L sz v (x0 - lpL L sz v)) := by rw [q2, e443, FR8_t (by omega), FSL_0 c_399]
                                          have hj2 := jn_R (L 2 3) (x := hd) (y := f ((61 * v) + x0)) (A := 30000000000) (B := 1000000000000000) (by omega) (by omega)
                                          refine g_aload_n F (pc' := 471) dX5_layFit_470 rfl rfl ?_
                                          refine g_getJ F K (k := 0) (fld := 20) (ci := 5) (z := wh) (pc' := 474) iX5_layFit_X5 rfl rfl rfl (by decide) (List.mem_of_getElem? (i := 4) rfl) dX5_layFit_471 rfl (by first | rfl | exact upf_s _ _ _ | simp [upf, sc]) ?_
                                          refine g_lcmp F (pc' := 475) dX5_layFit_474 rfl (by omega) (by omega) ?_
                                          refine g_if_ne F (pc' := 478) (tgt := 506) dX5_layFit_475 rfl (by decide) (cmpz_R _ _) (fun c_475 => ?_) (fun c_475 => ?_)
                                          · skip
                                            have c_475 := cmpz_ne.mp c_475
                                            refine g_iinc F (pc' := 509) (lv' := [some (.ref (a 0)), some (.int (iI sz)), some (.long (lI hd)), none, some (.int (iI v)), none, some (.int (iI op)), some (.int (iI (x0 + 1))), some (.long (lI hd)), none]) dX5_layFit_506 rfl rfl (by decide) rfl ?_
                                            refine g_goto F (tgt := 385) dX5_layFit_509 (by decide) ?_
                                            refine g_lvw [some (.ref (a 0)), some (.int (iI sz)), some (.long (lI hd)), none, some (.int (iI v)), none, some (.int (iI op)), some (.int (iI (x0 + 1))), none, none] (lvw_of _ _ [true, true, true, false, true, false, true, true, false, false] rfl) ?_
                                            exact ih_385 hd op (x0 + 1) dt2 (by omega) (by omega) (by first | exact Or.inr ⟨rfl, by rw [q3, show x0 = lpL L sz v + (SELL L sz (v + 1)).1 by omega], by unfold hadN; first | (rw [if_pos c_399, q2, show x0 = lpL L sz v + (SELL L sz (v + 1)).1 by omega]) | (rw [if_neg c_399, q2, show (x0 - dt2 (v - 1)) - wL L sz (v - 1) = 1 + ((SELL L sz (v + 1)).1 - (SELL L sz v).1) by omega, show x0 = lpL L sz v + (SELL L sz (v + 1)).1 by omega])⟩ | (refine Or.inl ⟨q1, q2, q3, by omega, ?_⟩; by_cases hxe : x0 = lpL L sz v + (SELL L sz (v + 1)).1; (exfalso; first | omega | exact c_475 (by rw [e470, hwl]; exact (sel_hit hrm hv.1 c_343 (hq c_343) (x := x0 - lpL L sz v) (by omega)).mpr (by omega))); omega))
                                          · skip
                                            have c_475 := cmpz_eq.mp c_475
                                            have hxs := (sel_hit hrm hv.1 c_343 (hq c_343) (x := x0 - lpL L sz v) (by omega)).mp (by rw [← hwl, ← e470]; exact c_475)
                                            refine g_aload_n F (pc' := 479) dX5_layFit_478 rfl rfl ?_
                                            refine g_getR F K (k := 0) (fld := 18) (ci := 5) (q := 15) (pc' := 482) iX5_layFit_X5 rfl rfl rfl (by decide) (List.mem_of_getElem? (i := 7) rfl) dX5_layFit_479 rfl ?_
                                            refine g_iload F (pc' := 484) dX5_layFit_482 rfl rfl ?_
                                            refine g_iload F (pc' := 486) dX5_layFit_484 rfl rfl ?_
                                            refine h_iast F K (k := 15) (pc' := 487) (sc (sc (sc (sc L 0 (upf (L 0) 20 wh)) 14 f) 15 (upf dt2 v x0)) 16 wd) (mem_up (by rfl) (by intro j hj; simp only [sc, if_neg hj])) rfl (by decide) (by omega) dX5_layFit_486 rfl ?_
                                            refine g_aload_n F (pc' := 488) dX5_layFit_487 rfl rfl ?_
                                            refine g_lload F (pc' := 490) dX5_layFit_488 rfl rfl ?_
                                            refine g_aload_n F (pc' := 491) dX5_layFit_490 rfl rfl ?_
                                            refine g_iload F (pc' := 493) dX5_layFit_491 rfl rfl ?_
                                            refine g_iload F (pc' := 495) dX5_layFit_493 rfl rfl ?_
                                            refine g_iload_n F (pc' := 496) dX5_layFit_495 rfl rfl ?_
                                            refine g_callJ F K hXc X0 (pc' := 499) (st := [.long (lI hd), .ref (a 0)]) (c5_stemDrift l a (sc (sc (sc (sc L 0 (upf (L 0) 20 wh)) 14 f) 15 (upf dt2 v x0)) 16 wd) v x0 sz (by omega) (by omega) (by omega) (by exact (hs v (by omega) (by omega)).1) (by exact (hs v (by omega) (by omega)).2.1) (by show 0 ≤ wd v ∧ wd v ≤ 60; rw [hwA v (by omega) (by omega)]; have := wL_R hL1 hL4 hz1 (s := v) (by omega) (by omega); omega) (by show 0 ≤ L 2 1 ∧ L 2 1 ≤ 9; omega) (by show 0 ≤ L 2 3 ∧ L 2 3 ≤ 3; omega)) (cwV 3 F.2.2.2.2 gX5_layFit_X5_stemDrift rfl rfl rfl (by decide +kernel) ⟨Nat.le_of_ble_eq_true rfl, Nat.le_of_ble_eq_true rfl⟩) rfl rfl rfl rfl (Nat.le_of_ble_eq_true rfl) dX5_layFit_496 rfl (fun z_496 M_496 q_496 => ?_)
                                            obtain ⟨rfl, mq_496⟩ := q_496
                                            have mq_496 := mq_496.symm; subst mq_496
                                            refine h_topJ (z' := scL L sz v x0) (by show cntz (L 2 3) (absz (1000 * (2 * x0 + wd v) - (L 5 v + L 6 v) * sz)) * L 2 1 = _; rw [hwA v (by omega) (by omega)]; rfl) ?_
                                            have b_496 := scL_R hL1 hRL hz1 (v := v) (p := x0) (by omega) (by omega)
                                            refine g_callJ F K hXc X0 (pc' := 502) (st := []) (c5_both l a (sc (sc (sc (sc L 0 (upf (L 0) 20 wh)) 14 f) 15 (upf dt2 v x0)) 16 wd) hd (scL L sz v x0) (by omega) (by omega) (by show 0 ≤ L 2 3 ∧ L 2 3 ≤ 3; omega)) (cwV 2 F.2.2.2.2 gX5_layFit_X5_both rfl rfl rfl (by decide +kernel) ⟨Nat.le_of_ble_eq_true rfl, Nat.le_of_ble_eq_true rfl⟩) rfl rfl rfl rfl (Nat.le_of_ble_eq_true rfl) dX5_layFit_499 rfl (fun z_499 M_499 q_499 => ?_)
                                            obtain ⟨rfl, mq_499⟩ := q_499
                                            have mq_499 := mq_499.symm; subst mq_499
                                            refine h_topJ (z' := jn (L 2 3) hd (scL L sz v x0)) rfl ?_
                                            refine g_lstore_n F (pc' := 503) (lv' := [some (.ref (a 0)), some (.int (iI sz)), some (.long (lI (jn (L 2 3) hd (scL L sz v x0)))), none, some (.int (iI v)), none, some (.int (iI op)), some (.int (iI x0)), some (.long (lI hd)), none]) dX5_layFit_502 rfl (by decide) rfl ?_
                                            refine g_iconst F (pc' := 504) dX5_layFit_503 rfl ?_
                                            refine g_istore F (pc' := 506) (lv' := [some (.ref (a 0)), some (.int (iI sz)), some (.long (lI (jn (L 2 3) hd (scL L sz v x0)))), none, some (.int (iI v)), none, some (.int (iI 0)), some (.int (iI x0)), some (.long (lI hd)), none]) dX5_layFit_504 rfl (by decide) rfl ?_
                                            refine g_iinc F (pc' := 509) (lv' := [some (.ref (a 0)), some (.int (iI sz)), some (.long (lI (jn (L 2 3) hd (scL L sz v x0)))), none, some (.int (iI v)), none, some (.int (iI 0)), some (.int (iI (x0 + 1))), some (.long (lI hd)), none]) dX5_layFit_506 rfl rfl (by decide) rfl ?_
                                            refine g_goto F (tgt := 385) dX5_layFit_509 (by decide) ?_
                                            refine g_lvw [some (.ref (a 0)), some (.int (iI sz)), some (.long (lI (jn (L 2 3) hd (scL L sz v x0)))), none, some (.int (iI v)), none, some (.int (iI 0)), some (.int (iI (x0 + 1))), none, none] (lvw_of _ _ [true, true, true, false, true, false, true, true, false, false] rfl) ?_
                                            exact ih_385 (jn (L 2 3) hd (scL L sz v x0)) 0 (x0 + 1) (upf dt2 v x0) (by omega) (by omega) (by first | exact Or.inr ⟨rfl, by rw [q3, show x0 = lpL L sz v + (SELL L sz (v + 1)).1 by omega], by unfold hadN; first | (rw [if_pos c_399, q2, show x0 = lpL L sz v + (SELL L sz (v + 1)).1 by omega]) | (rw [if_neg c_399, q2, show (x0 - dt2 (v - 1)) - wL L sz (v - 1) = 1 + ((SELL L sz (v + 1)).1 - (SELL L sz v).1) by omega, show x0 = lpL L sz v + (SELL L sz (v + 1)).1 by omega])⟩ | (refine Or.inl ⟨q1, q2, q3, by omega, ?_⟩; by_cases hxe : x0 = lpL L sz v + (SELL L sz (v + 1)).1; (exfalso; first | omega | exact c_475 (by rw [e470, hwl]; exact (sel_hit hrm hv.1 c_343 (hq c_343) (x := x0 - lpL L sz v) (by omega)).mpr (by omega))); omega))
                              refine g_iload F (pc' := 348) dX5_layFit_346 rfl rfl ?_
                              refine g_if_ne F (pc' := 351) (tgt := 355) dX5_layFit_348 rfl (by decide) (by omega) (fun c_348 => ?_) (fun c_348 => ?_)
                              · skip
                                have hp1 := hp (by omega)
                                have hlv1 : lpL L sz (v - 1 + 1) = lpL L sz (v - 1) + wL L sz (v - 1) + 1 := lpp_s (by omega)
                                rw [show v - 1 + 1 = v by omega] at hlv1
                                have hwd1 := hwA (v - 1) (by omega) (by omega)
                                refine g_aload_n F (pc' := 356) dX5_layFit_355 rfl rfl ?_
                                refine g_getR F K (k := 0) (fld := 18) (ci := 5) (q := 15) (pc' := 359) iX5_layFit_X5 rfl rfl rfl (by decide) (List.mem_of_getElem? (i := 7) rfl) dX5_layFit_356 rfl ?_
                                refine g_iload F (pc' := 361) dX5_layFit_359 rfl rfl ?_
                                refine g_iconst F (pc' := 362) dX5_layFit_361 rfl ?_
                                refine g_isub F (pc' := 363) dX5_layFit_362 rfl ?_
                                refine g_iald F K (k := 15) (v := dt (v - 1)) (pc' := 364) rfl (by decide) (by omega) dX5_layFit_363 rfl (by first | rfl | simp [upf, sc]) ?_
                                refine g_aload_n F (pc' := 365) dX5_layFit_364 rfl rfl ?_
                                refine g_getR F K (k := 0) (fld := 19) (ci := 5) (q := 16) (pc' := 368) iX5_layFit_X5 rfl rfl rfl (by decide) (List.mem_of_getElem? (i := 2) rfl) dX5_layFit_365 rfl ?_
                                refine g_iload F (pc' := 370) dX5_layFit_368 rfl rfl ?_
                                refine g_iconst F (pc' := 371) dX5_layFit_370 rfl ?_
                                refine g_isub F (pc' := 372) dX5_layFit_371 rfl ?_
                                refine g_iald F K (k := 16) (v := wd (v - 1)) (pc' := 373) rfl (by decide) (by omega) dX5_layFit_372 rfl (by first | rfl | simp [upf, sc]) ?_
                                refine g_iadd F (pc' := 374) dX5_layFit_373 rfl ?_
                                refine g_iconst F (pc' := 375) dX5_layFit_374 rfl ?_
                                refine g_iadd F (pc' := 376) dX5_layFit_375 rfl ?_
                                refine g_istore F (pc' := 378) (lv' := [some (.ref (a 0)), some (.int (iI sz)), some (.long (lI had)), none, some (.int (iI v)), some (.int (iI (((dt (v - 1)) + (wd (v - 1))) + 1))), none, none, none, none]) dX5_layFit_376 rfl (by decide) rfl ?_
                                refine g_iconst F (pc' := 379) dX5_layFit_378 rfl ?_
                                refine g_istore F (pc' := 381) (lv' := [some (.ref (a 0)), some (.int (iI sz)), some (.long (lI had)), none, some (.int (iI v)), some (.int (iI (((dt (v - 1)) + (wd (v - 1))) + 1))), some (.int (iI 1)), none, none, none]) dX5_layFit_379 rfl (by decide) rfl ?_
                                refine g_iload F (pc' := 383) dX5_layFit_381 rfl rfl ?_
                                refine g_istore F (pc' := 385) (lv' := [some (.ref (a 0)), some (.int (iI sz)), some (.long (lI had)), none, some (.int (iI v)), some (.int (iI (((dt (v - 1)) + (wd (v - 1))) + 1))), some (.int (iI 1)), some (.int (iI (((dt (v - 1)) + (wd (v - 1))) + 1))), none, none]) dX5_layFit_383 rfl (by decide) rfl ?_
                                refine g_lvw [some (.ref (a 0)), some (.int (iI sz)), some (.long (lI had)), none, some (.int (iI v)), none, some (.int (iI 1)), some (.int (iI (((dt (v - 1)) + (wd (v - 1))) + 1))), none, none] (lvw_of _ _ [true, true, true, false, true, false, true, true, false, false] rfl) ?_
                                exact lp_385 ((61 - (((dt (v - 1)) + (wd (v - 1))) + 1) : Int).toNat + 1) had 1 (((dt (v - 1)) + (wd (v - 1))) + 1) dt (by omega) (by omega) (Or.inl ⟨rfl, rfl, rfl, by omega, by omega⟩)
                              · skip
                                refine g_iconst F (pc' := 352) dX5_layFit_351 rfl ?_
                                refine g_goto F (tgt := 376) dX5_layFit_352 (by decide) ?_
                                refine g_istore F (pc' := 378) (lv' := [some (.ref (a 0)), some (.int (iI sz)), some (.long (lI had)), none, some (.int (iI v)), some (.int (iI 0)), none, none, none, none]) dX5_layFit_376 rfl (by decide) rfl ?_
                                refine g_iconst F (pc' := 379) dX5_layFit_378 rfl ?_
                                refine g_istore F (pc' := 381) (lv' := [some (.ref (a 0)), some (.int (iI sz)), some (.long (lI had)), none, some (.int (iI v)), some (.int (iI 0)), some (.int (iI 1)), none, none, none]) dX5_layFit_379 rfl (by decide) rfl ?_
                                refine g_iload F (pc' := 383) dX5_layFit_381 rfl rfl ?_
                                refine g_istore F (pc' := 385) (lv' := [some (.ref (a 0)), some (.int (iI sz)), some (.long (lI had)), none, some (.int (iI v)), some (.int (iI 0)), some (.int (iI 1)), some (.int (iI 0)), none, none]) dX5_layFit_383 rfl (by decide) rfl ?_
                                refine g_lvw [some (.ref (a 0)), some (.int (iI sz)), some (.long (lI had)), none, some (.int (iI v)), none, some (.int (iI 1)), some (.int (iI 0)), none, none] (lvw_of _ _ [true, true, true, false, true, false, true, true, false, false] rfl) ?_
                                exact lp_385 ((61 - 0 : Int).toNat + 1) had 1 0 dt (by omega) (by omega) (Or.inl ⟨rfl, rfl, rfl, by omega, by omega⟩)
                        exact lp_337 ((9 - 0 : Int).toNat + 1) 0 0 (L 15) (by omega) (by omega) (fun j q1 q2 => by omega) (fun _ => had8_0 hL1 hRL hz1 hrm hn0) (fun q => by omega)
                      · skip
                        have c_327 := cmpz_eq.mp c_327
                        refine g_iconst F (pc' := 331) dX5_layFit_330 rfl ?_
                        exact g_zret F hr hlk dX5_layFit_331 (Or.inl rfl) (lfQ_b hL (show keepR L _ from ⟨rfl, rfl, rfl, rfl, rfl, rfl, rfl⟩) hL1 hRL hz1 hn0 (by rcases hwe with q | q; exact q.2; (exfalso; exact q.1 c_327)) rfl rfl rfl)
                    · skip
                      refine g_aload_n F (pc' := 283) dX5_layFit_282 rfl rfl ?_
                      refine g_aload_n F (pc' := 284) dX5_layFit_283 rfl rfl ?_
                      refine g_getR F K (k := 0) (fld := 17) (ci := 5) (q := 14) (pc' := 287) iX5_layFit_X5 rfl rfl rfl (by decide) (List.mem_of_getElem? (i := 6) rfl) dX5_layFit_284 rfl ?_
                      refine g_iload_n F (pc' := 288) dX5_layFit_287 rfl rfl ?_
                      refine g_lald F K (k := 14) (v := f k) (pc' := 289) rfl (by decide) (by omega) dX5_layFit_288 rfl (by first | rfl | simp [upf, sc]) ?_
                      have e288 : f k = FR8 L sz 0 k := by have q := hfa 0 (by omega) hn0 k (by omega) (by omega); rw [show 61 * 0 + k = k by omega] at q; exact q
                      have e288R := FR8_R hL1 hRL hz1 (v := 0) (p := k) (by omega) hn0 (by omega)
                      refine g_aload_n F (pc' := 290) dX5_layFit_289 rfl rfl ?_
                      refine g_getJ F K (k := 0) (fld := 20) (ci := 5) (z := wh) (pc' := 293) iX5_layFit_X5 rfl rfl rfl (by decide) (List.mem_of_getElem? (i := 4) rfl) dX5_layFit_290 rfl (by first | rfl | exact upf_s _ _ _ | simp [upf, sc]) ?_
                      refine g_lcmp F (pc' := 294) dX5_layFit_293 rfl (by omega) (by omega) ?_
                      refine g_if_ge F (pc' := 297) (tgt := 306) dX5_layFit_294 rfl (by decide) (cmpz_R _ _) (fun c_294 => ?_) (fun c_294 => ?_)
                      · skip
                        have c_294 := cmpz_ge.mp c_294
                        refine g_aload_n F (pc' := 307) dX5_layFit_306 rfl rfl ?_
                        refine g_getJ F K (k := 0) (fld := 20) (ci := 5) (z := wh) (pc' := 310) iX5_layFit_X5 rfl rfl rfl (by decide) (List.mem_of_getElem? (i := 4) rfl) dX5_layFit_307 rfl (by first | rfl | exact upf_s _ _ _ | simp [upf, sc]) ?_
                        refine h_putJ F K (k := 0) (fld := 20) (ci := 5) (pc' := 313) (sc (sc (sc L 0 (upf (L 0) 20 wh)) 14 f) 16 wd) (mem_up (by first | exact (upf_w _ _ _ _).symm | funext i; simp only [upf, sc]; (repeat' split) <;> first | rfl | omega | simp_all) (by intro j hj; simp only [sc, if_neg hj])) tyX5 tyX5_ok nmX5 iX5_layFit_X5 rfl rfl rfl (by decide) rfl rfl (List.mem_of_getElem? (i := 4) rfl) dX5_layFit_310 rfl ?_
                        refine g_iinc F (pc' := 316) (lv' := [some (.ref (a 0)), some (.int (iI sz)), some (.int (iI (k + 1))), none, none, none, none, none, none, none]) dX5_layFit_313 rfl rfl (by decide) rfl ?_
                        refine g_goto F (tgt := 276) dX5_layFit_316 (by decide) ?_
                        exact ih_276 (k + 1) wh (by omega) (by omega) (wh_step hL1 hRL hz1 hn0 (by omega) hwh (by first | exact Or.inl ⟨by omega, e288⟩ | exact Or.inr ⟨by omega, rfl⟩))
                      · skip
                        have c_294 := cmpz_lt.mp c_294
                        refine g_aload_n F (pc' := 298) dX5_layFit_297 rfl rfl ?_
                        refine g_getR F K (k := 0) (fld := 17) (ci := 5) (q := 14) (pc' := 301) iX5_layFit_X5 rfl rfl rfl (by decide) (List.mem_of_getElem? (i := 6) rfl) dX5_layFit_298 rfl ?_
                        refine g_iload_n F (pc' := 302) dX5_layFit_301 rfl rfl ?_
                        refine g_lald F K (k := 14) (v := f k) (pc' := 303) rfl (by decide) (by omega) dX5_layFit_302 rfl (by first | rfl | simp [upf, sc]) ?_
                        refine g_goto F (tgt := 310) dX5_layFit_303 (by decide) ?_
                        refine h_putJ F K (k := 0) (fld := 20) (ci := 5) (pc' := 313) (sc (sc (sc L 0 (upf (L 0) 20 (f k))) 14 f) 16 wd) (mem_up (by first | exact (upf_w _ _ _ _).symm | funext i; simp only [upf, sc]; (repeat' split) <;> first | rfl | omega | simp_all) (by intro j hj; simp only [sc, if_neg hj])) tyX5 tyX5_ok nmX5 iX5_layFit_X5 rfl rfl rfl (by decide) rfl rfl (List.mem_of_getElem? (i := 4) rfl) dX5_layFit_310 rfl ?_
                        refine g_iinc F (pc' := 316) (lv' := [some (.ref (a 0)), some (.int (iI sz)), some (.int (iI (k + 1))), none, none, none, none, none, none, none]) dX5_layFit_313 rfl rfl (by decide) rfl ?_
                        refine g_goto F (tgt := 276) dX5_layFit_316 (by decide) ?_
                        exact ih_276 (k + 1) (f k) (by omega) (by omega) (wh_step hL1 hRL hz1 hn0 (by omega) hwh (by first | exact Or.inl ⟨by omega, e288⟩ | exact Or.inr ⟨by omega, rfl⟩))
                exact lp_276 ((61 - 0 : Int).toNat + 1) 0 1000000000000000 (by omega) (by omega) ((mS_0 (by omega)).symm)
              · skip
                refine g_iconst F (pc' := 63) dX5_layFit_62 rfl ?_
                refine g_istore_n F (pc' := 64) (lv' := [some (.ref (a 0)), some (.int (iI sz)), some (.int (iI v)), some (.int (iI 0)), none, none, none, none, none, none]) dX5_layFit_63 rfl (by decide) rfl ?_
                have lp_64 : ∀ (n_64 : Nat) (x0 : Int) (f2 : Int → Int) (hm_64 : 61 - x0 < (n_64 : Int)) (hx0 : 0 ≤ x0 ∧ x0 ≤ 61) (hf2 : ∀ i, v < i → i < L 0 11 → ∀ t, 0 ≤ t → t ≤ 60 → f2 (61 * i + t) = FR8 L sz i t) (hf3 : ∀ t, 0 ≤ t → t < x0 → f2 (61 * v + t) = FR8 L sz v t), GG p l e ({ frames := 3, cells := 0, slots := 0, locals := 73 } : Room) s m ([.ref (a 0), .int (iI sz)].toArray) below meth c (PI D T a LR M (fun z M' => lfQ M ord sz z M') below ([.ref (a 0), .int (iI sz)].toArray) s) D (AA T a LR M s.heap.size) 10 (wld T a LR (sc (sc (sc L 0 (upf (L 0) 20 0)) 14 f2) 16 wd)) 64 [some (.ref (a 0)), some (.int (iI sz)), some (.int (iI v)), some (.int (iI x0)), none, none, none, none, none, none] [] := by
                  intro n_64
                  induction n_64 with
                  | zero => intro x0 f2 hm_64 hx0 hf2 hf3; exfalso; omega
                  | succ n_64 ih_64 =>
                    intro x0 f2 hm_64 hx0 hf2 hf3
                    have hwv := hwA v (by omega) hv.2
                    have hwR := wL_R hL1 hL4 hz1 (s := v) (by omega) hv.2
                    have hlv : lpL L sz (v + 1) = lpL L sz v + wL L sz v + 1 := lpp_s (by omega)
                    have hup := lpL_up0 hL1 hRL hz1 (i := v) (by omega) hv.2
                    have hlR := lpL_R0 hL1 hRL hz1 (i := v) (by omega) (by omega)
                    refine g_iload_n F (pc' := 65) dX5_layFit_64 rfl rfl ?_
                    refine g_bipush F (pc' := 67) dX5_layFit_65 rfl (by decide +kernel) ?_
                    refine g_icmp_gt F (pc' := 70) (tgt := 261) dX5_layFit_67 rfl (by decide) (by omega) (by decide) (fun c_67 => ?_) (fun c_67 => ?_)
                    · skip
                      refine g_iinc F (pc' := 264) (lv' := [some (.ref (a 0)), some (.int (iI sz)), some (.int (iI (v + (-1)))), some (.int (iI x0)), none, none, none, none, none, none]) dX5_layFit_261 rfl rfl (by decide) rfl ?_
                      refine g_goto F (tgt := 58) dX5_layFit_264 (by decide) ?_
                      refine g_lvw [some (.ref (a 0)), some (.int (iI sz)), some (.int (iI (v + (-1)))), none, none, none, none, none, none, none] (lvw_of _ _ [true, true, true, false, false, false, false, false, false, false] rfl) ?_
                      exact ih_58 (v + (-1)) f2 (by omega) (by omega) (fun i q1 q2 t q3 q4 => by by_cases hi : i = v; (rw [hi]; exact hf3 t q3 (by omega)); exact hf2 i (by omega) q2 t q3 q4)
                    · skip
                      refine g_ldc2 F (pc' := 73) (z := 1000000000000000) dX5_layFit_70 rfl (List.mem_of_getElem? (i := 5) rfl) (by decide +kernel) ?_
                      refine g_lstore F (pc' := 75) (lv' := [some (.ref (a 0)), some (.int (iI sz)), some (.int (iI v)), some (.int (iI x0)), some (.long (lI 1000000000000000)), none, none, none, none, none]) dX5_layFit_73 rfl (by decide) rfl ?_
                      refine g_iload_n F (pc' := 76) dX5_layFit_75 rfl rfl ?_
                      refine g_aload_n F (pc' := 77) dX5_layFit_76 rfl rfl ?_
                      refine g_getR F K (k := 0) (fld := 19) (ci := 5) (q := 16) (pc' := 80) iX5_layFit_X5 rfl rfl rfl (by decide) (List.mem_of_getElem? (i := 2) rfl) dX5_layFit_77 rfl ?_
                      refine g_iload_n F (pc' := 81) dX5_layFit_80 rfl rfl ?_
                      refine g_iald F K (k := 16) (v := wd v) (pc' := 82) rfl (by decide) (by omega) dX5_layFit_81 rfl (by first | rfl | simp [upf, sc]) ?_
                      refine g_iadd F (pc' := 83) dX5_layFit_82 rfl ?_
                      refine g_iload_n F (pc' := 84) dX5_layFit_83 rfl rfl ?_
                      refine g_icmp_gt F (pc' := 87) (tgt := 242) dX5_layFit_84 rfl (by decide) (by omega) (by omega) (fun c_84 => ?_) (fun c_84 => ?_)
                      · skip
                        have hst : 1000000000000000 = FR8 L sz v x0 := (FR8_f (by omega)).symm
                        refine g_aload_n F (pc' := 243) dX5_layFit_242 rfl rfl ?_
                        refine g_getR F K (k := 0) (fld := 17) (ci := 5) (q := 14) (pc' := 246) iX5_layFit_X5 rfl rfl rfl (by decide) (List.mem_of_getElem? (i := 6) rfl) dX5_layFit_243 rfl ?_
                        refine g_bipush F (pc' := 248) dX5_layFit_246 rfl (by decide +kernel) ?_
                        refine g_iload_n F (pc' := 249) dX5_layFit_248 rfl rfl ?_
                        refine g_imul F (pc' := 250) dX5_layFit_249 rfl ?_
                        refine g_iload_n F (pc' := 251) dX5_layFit_250 rfl rfl ?_
                        refine g_iadd F (pc' := 252) dX5_layFit_251 rfl ?_
                        refine g_lload F (pc' := 254) dX5_layFit_252 rfl rfl ?_
                        refine h_last F K (k := 14) (pc' := 255) (sc (sc (sc L 0 (upf (L 0) 20 0)) 14 (upf f2 ((61 * v) + x0) 1000000000000000)) 16 wd) (mem_up (by rfl) (by intro j hj; simp only [sc, if_neg hj])) rfl (by decide) (by omega) dX5_layFit_254 rfl ?_
                        refine g_iinc F (pc' := 258) (lv' := [some (.ref (a 0)), some (.int (iI sz)), some (.int (iI v)), some (.int (iI (x0 + 1))), some (.long (lI 1000000000000000)), none, none, none, none, none]) dX5_layFit_255 rfl rfl (by decide) rfl ?_
                        refine g_goto F (tgt := 64) dX5_layFit_258 (by decide) ?_
                        refine g_lvw [some (.ref (a 0)), some (.int (iI sz)), some (.int (iI v)), some (.int (iI (x0 + 1))), none, none, none, none, none, none] (lvw_of _ _ [true, true, true, true, false, false, false, false, false, false] rfl) ?_
                        exact ih_64 (x0 + 1) (upf f2 ((61 * v) + x0) 1000000000000000) (by omega) (by omega) (fun i q1 q2 t q3 q4 => by rw [upf_n (by omega)]; exact hf2 i q1 q2 t q3 q4) (fun t q1 q2 => by by_cases hj : t = x0; (rw [hj]; exact (upf_s _ _ _).trans hst); (rw [upf_n (by omega)]; exact hf3 t q1 (by omega)))
                      · skip
                        have lp_118 : ∀ (n_118 : Nat) (le : Int) (y : Int) (hm_118 : 121 - y < (n_118 : Int)) (hy : x0 + wL L sz v + 1 ≤ y ∧ y ≤ 120) (hle : (v = L 0 11 - 1 ∧ le = 0) ∨ (v < L 0 11 - 1 ∧ (y ≤ 61 ∨ y = x0 + wL L sz v + 1) ∧ le = mS8 (FN8 L sz v (x0 - lpL L sz v)) (x0 - lpL L sz v) (rmL L sz) (y - 1 - lpL L sz (v + 1)))), GG p l e ({ frames := 3, cells := 0, slots := 0, locals := 73 } : Room) s m ([.ref (a 0), .int (iI sz)].toArray) below meth c (PI D T a LR M (fun z M' => lfQ M ord sz z M') below ([.ref (a 0), .int (iI sz)].toArray) s) D (AA T a LR M s.heap.size) 10 (wld T a LR (sc (sc (sc L 0 (upf (L 0) 20 0)) 14 f2) 16 wd)) 118 [some (.ref (a 0)), some (.int (iI sz)), some (.int (iI v)), some (.int (iI x0)), some (.long (lI le)), none, some (.int (iI y)), none, none, none] [] := by
                          intro n_118
                          induction n_118 with
                          | zero => intro le y hm_118 hy hle; exfalso; omega
                          | succ n_118 ih_118 =>
                            intro le y hm_118 hy hle
                            have hleR : 0 ≤ le ∧ le ≤ 1000000000000000 := by rcases hle with q | q; omega; (rw [q.2.2]; exact mS_R (fun x x1 x2 => FN8_R hL1 hRL hz1 (by omega) (by omega) (by omega) x1 x2))
                            refine g_iload_n F (pc' := 119) dX5_layFit_118 rfl rfl ?_
                            refine g_aload_n F (pc' := 120) dX5_layFit_119 rfl rfl ?_
                            refine g_getI F K (k := 0) (fld := 11) (ci := 5) (z := L 0 11) (pc' := 123) iX5_layFit_X5 rfl rfl rfl (by decide) (List.mem_of_getElem? (i := 1) rfl) dX5_layFit_120 rfl (by first | rfl | simp [upf, sc]) ?_
                            refine g_iconst F (pc' := 124) dX5_layFit_123 rfl ?_
                            refine g_isub F (pc' := 125) dX5_layFit_124 rfl ?_
                            refine g_icmp_ge F (pc' := 128) (tgt := 212) dX5_layFit_125 rfl (by decide) (by omega) (by omega) (fun c_125 => ?_) (fun c_125 => ?_)
                            · skip
                              refine g_lload F (pc' := 214) dX5_layFit_212 rfl rfl ?_
                              refine g_ldc2 F (pc' := 217) (z := 1000000000000000) dX5_layFit_214 rfl (List.mem_of_getElem? (i := 5) rfl) (by decide +kernel) ?_
                              refine g_lcmp F (pc' := 218) dX5_layFit_217 rfl (by omega) (by decide) ?_
                              refine g_if_ge F (pc' := 221) (tgt := 237) dX5_layFit_218 rfl (by decide) (cmpz_R _ _) (fun c_218 => ?_) (fun c_218 => ?_)
                              · skip
                                have c_218 := cmpz_ge.mp c_218
                                refine g_ldc2 F (pc' := 240) (z := 1000000000000000) dX5_layFit_237 rfl (List.mem_of_getElem? (i := 5) rfl) (by decide +kernel) ?_
                                refine g_lstore F (pc' := 242) (lv' := [some (.ref (a 0)), some (.int (iI sz)), some (.int (iI v)), some (.int (iI x0)), some (.long (lI 1000000000000000)), none, some (.int (iI y)), none, none, none]) dX5_layFit_240 rfl (by decide) rfl ?_
                                have hst : 1000000000000000 = FR8 L sz v x0 := by rcases hle with q | q; (exfalso; omega); exact FR8_no hL1 hRL hz1 (by omega) q.1 (by omega) (y := y) (by omega) (by rw [← q.2.2]; exact c_218)
                                refine g_aload_n F (pc' := 243) dX5_layFit_242 rfl rfl ?_
                                refine g_getR F K (k := 0) (fld := 17) (ci := 5) (q := 14) (pc' := 246) iX5_layFit_X5 rfl rfl rfl (by decide) (List.mem_of_getElem? (i := 6) rfl) dX5_layFit_243 rfl ?_
                                refine g_bipush F (pc' := 248) dX5_layFit_246 rfl (by decide +kernel) ?_
                                refine g_iload_n F (pc' := 249) dX5_layFit_248 rfl rfl ?_
                                refine g_imul F (pc' := 250) dX5_layFit_249 rfl ?_
                                refine g_iload_n F (pc' := 251) dX5_layFit_250 rfl rfl ?_
                                refine g_iadd F (pc' := 252) dX5_layFit_251 rfl ?_
                                refine g_lload F (pc' := 254) dX5_layFit_252 rfl rfl ?_
                                refine h_last F K (k := 14) (pc' := 255) (sc (sc (sc L 0 (upf (L 0) 20 0)) 14 (upf f2 ((61 * v) + x0) 1000000000000000)) 16 wd) (mem_up (by rfl) (by intro j hj; simp only [sc, if_neg hj])) rfl (by decide) (by omega) dX5_layFit_254 rfl ?_
                                refine g_iinc F (pc' := 258) (lv' := [some (.ref (a 0)), some (.int (iI sz)), some (.int (iI v)), some (.int (iI (x0 + 1))), some (.long (lI 1000000000000000)), none, some (.int (iI y)), none, none, none]) dX5_layFit_255 rfl rfl (by decide) rfl ?_
                                refine g_goto F (tgt := 64) dX5_layFit_258 (by decide) ?_
                                refine g_lvw [some (.ref (a 0)), some (.int (iI sz)), some (.int (iI v)), some (.int (iI (x0 + 1))), none, none, none, none, none, none] (lvw_of _ _ [true, true, true, true, false, false, false, false, false, false] rfl) ?_
                                exact ih_64 (x0 + 1) (upf f2 ((61 * v) + x0) 1000000000000000) (by omega) (by omega) (fun i q1 q2 t q3 q4 => by rw [upf_n (by omega)]; exact hf2 i q1 q2 t q3 q4) (fun t q1 q2 => by by_cases hj : t = x0; (rw [hj]; exact (upf_s _ _ _).trans hst); (rw [upf_n (by omega)]; exact hf3 t q1 (by omega)))
                              · skip
                                have c_218 := cmpz_lt.mp c_218
                                refine g_aload_n F (pc' := 222) dX5_layFit_221 rfl rfl ?_
                                refine g_lload F (pc' := 224) dX5_layFit_222 rfl rfl ?_
                                refine g_aload_n F (pc' := 225) dX5_layFit_224 rfl rfl ?_
                                refine g_iload_n F (pc' := 226) dX5_layFit_225 rfl rfl ?_
                                refine g_iload_n F (pc' := 227) dX5_layFit_226 rfl rfl ?_
                                refine g_iload_n F (pc' := 228) dX5_layFit_227 rfl rfl ?_
                                refine g_callJ F K hXc X0 (pc' := 231) (st := [.long (lI le), .ref (a 0)]) (c5_stemDrift l a (sc (sc (sc L 0 (upf (L 0) 20 0)) 14 f2) 16 wd) v x0 sz (by omega) (by omega) (by omega) (by exact (hs v (by omega) (by omega)).1) (by exact (hs v (by omega) (by omega)).2.1) (by show 0 ≤ wd v ∧ wd v ≤ 60; rw [hwA v (by omega) (by omega)]; have := wL_R hL1 hL4 hz1 (s := v) (by omega) (by omega); omega) (by show 0 ≤ L 2 1 ∧ L 2 1 ≤ 9; omega) (by show 0 ≤ L 2 3 ∧ L 2 3 ≤ 3; omega)) (cwV 3 F.2.2.2.2 gX5_layFit_X5_stemDrift rfl rfl rfl (by decide +kernel) ⟨Nat.le_of_ble_eq_true rfl, Nat.le_of_ble_eq_true rfl⟩) rfl rfl rfl rfl (Nat.le_of_ble_eq_true rfl) dX5_layFit_228 rfl (fun z_228 M_228 q_228 => ?_)
                                obtain ⟨rfl, mq_228⟩ := q_228
                                have mq_228 := mq_228.symm; subst mq_228
                                refine h_topJ (z' := scL L sz v x0) (by show cntz (L 2 3) (absz (1000 * (2 * x0 + wd v) - (L 5 v + L 6 v) * sz)) * L 2 1 = _; rw [hwA v (by omega) (by omega)]; rfl) ?_
                                have b_228 := scL_R hL1 hRL hz1 (v := v) (p := x0) (by omega) (by omega)
                                refine g_callJ F K hXc X0 (pc' := 234) (st := []) (c5_both l a (sc (sc (sc L 0 (upf (L 0) 20 0)) 14 f2) 16 wd) le (scL L sz v x0) (by omega) (by omega) (by show 0 ≤ L 2 3 ∧ L 2 3 ≤ 3; omega)) (cwV 2 F.2.2.2.2 gX5_layFit_X5_both rfl rfl rfl (by decide +kernel) ⟨Nat.le_of_ble_eq_true rfl, Nat.le_of_ble_eq_true rfl⟩) rfl rfl rfl rfl (Nat.le_of_ble_eq_true rfl) dX5_layFit_231 rfl (fun z_231 M_231 q_231 => ?_)
                                obtain ⟨rfl, mq_231⟩ := q_231
                                have mq_231 := mq_231.symm; subst mq_231
                                refine h_topJ (z' := jn (L 2 3) le (scL L sz v x0)) rfl ?_
                                refine g_goto F (tgt := 240) dX5_layFit_234 (by decide) ?_
                                refine g_lstore F (pc' := 242) (lv' := [some (.ref (a 0)), some (.int (iI sz)), some (.int (iI v)), some (.int (iI x0)), some (.long (lI (jn (L 2 3) le (scL L sz v x0)))), none, some (.int (iI y)), none, none, none]) dX5_layFit_240 rfl (by decide) rfl ?_
                                have hst : jn (L 2 3) le (scL L sz v x0) = FR8 L sz v x0 := by rcases hle with q | q; (rw [q.2]; exact FR8_last (by omega) hL1 hRL hz1 q.1 (by omega) (by omega)); (rw [q.2.2]; exact FR8_in hL1 hRL hz1 (by omega) q.1 (by omega) (y := y) (by omega) (by rw [← q.2.2]; exact c_218))
                                refine g_aload_n F (pc' := 243) dX5_layFit_242 rfl rfl ?_
                                refine g_getR F K (k := 0) (fld := 17) (ci := 5) (q := 14) (pc' := 246) iX5_layFit_X5 rfl rfl rfl (by decide) (List.mem_of_getElem? (i := 6) rfl) dX5_layFit_243 rfl ?_
                                refine g_bipush F (pc' := 248) dX5_layFit_246 rfl (by decide +kernel) ?_
                                refine g_iload_n F (pc' := 249) dX5_layFit_248 rfl rfl ?_
                                refine g_imul F (pc' := 250) dX5_layFit_249 rfl ?_
                                refine g_iload_n F (pc' := 251) dX5_layFit_250 rfl rfl ?_
                                refine g_iadd F (pc' := 252) dX5_layFit_251 rfl ?_
                                refine g_lload F (pc' := 254) dX5_layFit_252 rfl rfl ?_
                                refine h_last F K (k := 14) (pc' := 255) (sc (sc (sc L 0 (upf (L 0) 20 0)) 14 (upf f2 ((61 * v) + x0) (jn (L 2 3) le (scL L sz v x0)))) 16 wd) (mem_up (by rfl) (by intro j hj; simp only [sc, if_neg hj])) rfl (by decide) (by omega) dX5_layFit_254 rfl ?_
                                refine g_iinc F (pc' := 258) (lv' := [some (.ref (a 0)), some (.int (iI sz)), some (.int (iI v)), some (.int (iI (x0 + 1))), some (.long (lI (jn (L 2 3) le (scL L sz v x0)))), none, some (.int (iI y)), none, none, none]) dX5_layFit_255 rfl rfl (by decide) rfl ?_
                                refine g_goto F (tgt := 64) dX5_layFit_258 (by decide) ?_
                                refine g_lvw [some (.ref (a 0)), some (.int (iI sz)), some (.int (iI v)), some (.int (iI (x0 + 1))), none, none, none, none, none, none] (lvw_of _ _ [true, true, true, true, false, false, false, false, false, false] rfl) ?_
                                exact ih_64 (x0 + 1) (upf f2 ((61 * v) + x0) (jn (L 2 3) le (scL L sz v x0))) (by omega) (by omega) (fun i q1 q2 t q3 q4 => by rw [upf_n (by omega)]; exact hf2 i q1 q2 t q3 q4) (fun t q1 q2 => by by_cases hj : t = x0; (rw [hj]; exact (upf_s _ _ _).trans hst); (rw [upf_n (by omega)]; exact hf3 t q1 (by omega)))
                            · skip
                              refine g_iload F (pc' := 130) dX5_layFit_128 rfl rfl ?_
                              refine g_bipush F (pc' := 132) dX5_layFit_130 rfl (by decide +kernel) ?_
                              refine g_icmp_gt F (pc' := 135) (tgt := 212) dX5_layFit_132 rfl (by decide) (by omega) (by decide) (fun c_132 => ?_) (fun c_132 => ?_)
                              · skip
                                refine g_lload F (pc' := 214) dX5_layFit_212 rfl rfl ?_
                                refine g_ldc2 F (pc' := 217) (z := 1000000000000000) dX5_layFit_214 rfl (List.mem_of_getElem? (i := 5) rfl) (by decide +kernel) ?_
                                refine g_lcmp F (pc' := 218) dX5_layFit_217 rfl (by omega) (by decide) ?_
                                refine g_if_ge F (pc' := 221) (tgt := 237) dX5_layFit_218 rfl (by decide) (cmpz_R _ _) (fun c_218 => ?_) (fun c_218 => ?_)
                                · skip
                                  have c_218 := cmpz_ge.mp c_218
                                  refine g_ldc2 F (pc' := 240) (z := 1000000000000000) dX5_layFit_237 rfl (List.mem_of_getElem? (i := 5) rfl) (by decide +kernel) ?_
                                  refine g_lstore F (pc' := 242) (lv' := [some (.ref (a 0)), some (.int (iI sz)), some (.int (iI v)), some (.int (iI x0)), some (.long (lI 1000000000000000)), none, some (.int (iI y)), none, none, none]) dX5_layFit_240 rfl (by decide) rfl ?_
                                  have hst : 1000000000000000 = FR8 L sz v x0 := by rcases hle with q | q; (exfalso; omega); exact FR8_no hL1 hRL hz1 (by omega) q.1 (by omega) (y := y) (by omega) (by rw [← q.2.2]; exact c_218)
                                  refine g_aload_n F (pc' := 243) dX5_layFit_242 rfl rfl ?_
                                  refine g_getR F K (k := 0) (fld := 17) (ci := 5) (q := 14) (pc' := 246) iX5_layFit_X5 rfl rfl rfl (by decide) (List.mem_of_getElem? (i := 6) rfl) dX5_layFit_243 rfl ?_
                                  refine g_bipush F (pc' := 248) dX5_layFit_246 rfl (by decide +kernel) ?_
                                  refine g_iload_n F (pc' := 249) dX5_layFit_248 rfl rfl ?_
                                  refine g_imul F (pc' := 250) dX5_layFit_249 rfl ?_
                                  refine g_iload_n F (pc' := 251) dX5_layFit_250 rfl rfl ?_
                                  refine g_iadd F (pc' := 252) dX5_layFit_251 rfl ?_
                                  refine g_lload F (pc' := 254) dX5_layFit_252 rfl rfl ?_
                                  refine h_last F K (k := 14) (pc' := 255) (sc (sc (sc L 0 (upf (L 0) 20 0)) 14 (upf f2 ((61 * v) + x0) 1000000000000000)) 16 wd) (mem_up (by rfl) (by intro j hj; simp only [sc, if_neg hj])) rfl (by decide) (by omega) dX5_layFit_254 rfl ?_
                                  refine g_iinc F (pc' := 258) (lv' := [some (.ref (a 0)), some (.int (iI sz)), some (.int (iI v)), some (.int (iI (x0 + 1))), some (.long (lI 1000000000000000)), none, some (.int (iI y)), none, none, none]) dX5_layFit_255 rfl rfl (by decide) rfl ?_
                                  refine g_goto F (tgt := 64) dX5_layFit_258 (by decide) ?_
                                  refine g_lvw [some (.ref (a 0)), some (.int (iI sz)), some (.int (iI v)), some (.int (iI (x0 + 1))), none, none, none, none, none, none] (lvw_of _ _ [true, true, true, true, false, false, false, false, false, false] rfl) ?_
                                  exact ih_64 (x0 + 1) (upf f2 ((61 * v) + x0) 1000000000000000) (by omega) (by omega) (fun i q1 q2 t q3 q4 => by rw [upf_n (by omega)]; exact hf2 i q1 q2 t q3 q4) (fun t q1 q2 => by by_cases hj : t = x0; (rw [hj]; exact (upf_s _ _ _).trans hst); (rw [upf_n (by omega)]; exact hf3 t q1 (by omega)))
                                · skip
                                  have c_218 := cmpz_lt.mp c_218
                                  refine g_aload_n F (pc' := 222) dX5_layFit_221 rfl rfl ?_
                                  refine g_lload F (pc' := 224) dX5_layFit_222 rfl rfl ?_
                                  refine g_aload_n F (pc' := 225) dX5_layFit_224 rfl rfl ?_
                                  refine g_iload_n F (pc' := 226) dX5_layFit_225 rfl rfl ?_
                                  refine g_iload_n F (pc' := 227) dX5_layFit_226 rfl rfl ?_
                                  refine g_iload_n F (pc' := 228) dX5_layFit_227 rfl rfl ?_
                                  refine g_callJ F K hXc X0 (pc' := 231) (st := [.long (lI le), .ref (a 0)]) (c5_stemDrift l a (sc (sc (sc L 0 (upf (L 0) 20 0)) 14 f2) 16 wd) v x0 sz (by omega) (by omega) (by omega) (by exact (hs v (by omega) (by omega)).1) (by exact (hs v (by omega) (by omega)).2.1) (by show 0 ≤ wd v ∧ wd v ≤ 60; rw [hwA v (by omega) (by omega)]; have := wL_R hL1 hL4 hz1 (s := v) (by omega) (by omega); omega) (by show 0 ≤ L 2 1 ∧ L 2 1 ≤ 9; omega) (by show 0 ≤ L 2 3 ∧ L 2 3 ≤ 3; omega)) (cwV 3 F.2.2.2.2 gX5_layFit_X5_stemDrift rfl rfl rfl (by decide +kernel) ⟨Nat.le_of_ble_eq_true rfl, Nat.le_of_ble_eq_true rfl⟩) rfl rfl rfl rfl (Nat.le_of_ble_eq_true rfl) dX5_layFit_228 rfl (fun z_228 M_228 q_228 => ?_)
                                  obtain ⟨rfl, mq_228⟩ := q_228
                                  have mq_228 := mq_228.symm; subst mq_228
                                  refine h_topJ (z' := scL L sz v x0) (by show cntz (L 2 3) (absz (1000 * (2 * x0 + wd v) - (L 5 v + L 6 v) * sz)) * L 2 1 = _; rw [hwA v (by omega) (by omega)]; rfl) ?_
                                  have b_228 := scL_R hL1 hRL hz1 (v := v) (p := x0) (by omega) (by omega)
                                  refine g_callJ F K hXc X0 (pc' := 234) (st := []) (c5_both l a (sc (sc (sc L 0 (upf (L 0) 20 0)) 14 f2) 16 wd) le (scL L sz v x0) (by omega) (by omega) (by show 0 ≤ L 2 3 ∧ L 2 3 ≤ 3; omega)) (cwV 2 F.2.2.2.2 gX5_layFit_X5_both rfl rfl rfl (by decide +kernel) ⟨Nat.le_of_ble_eq_true rfl, Nat.le_of_ble_eq_true rfl⟩) rfl rfl rfl rfl (Nat.le_of_ble_eq_true rfl) dX5_layFit_231 rfl (fun z_231 M_231 q_231 => ?_)
                                  obtain ⟨rfl, mq_231⟩ := q_231
                                  have mq_231 := mq_231.symm; subst mq_231
                                  refine h_topJ (z' := jn (L 2 3) le (scL L sz v x0)) rfl ?_
                                  refine g_goto F (tgt := 240) dX5_layFit_234 (by decide) ?_
                                  refine g_lstore F (pc' := 242) (lv' := [some (.ref (a 0)), some (.int (iI sz)), some (.int (iI v)), some (.int (iI x0)), some (.long (lI (jn (L 2 3) le (scL L sz v x0)))), none, some (.int (iI y)), none, none, none]) dX5_layFit_240 rfl (by decide) rfl ?_
                                  have hst : jn (L 2 3) le (scL L sz v x0) = FR8 L sz v x0 := by rcases hle with q | q; (rw [q.2]; exact FR8_last (by omega) hL1 hRL hz1 q.1 (by omega) (by omega)); (rw [q.2.2]; exact FR8_in hL1 hRL hz1 (by omega) q.1 (by omega) (y := y) (by omega) (by rw [← q.2.2]; exact c_218))
                                  refine g_aload_n F (pc' := 243) dX5_layFit_242 rfl rfl ?_
                                  refine g_getR F K (k := 0) (fld := 17) (ci := 5) (q := 14) (pc' := 246) iX5_layFit_X5 rfl rfl rfl (by decide) (List.mem_of_getElem? (i := 6) rfl) dX5_layFit_243 rfl ?_
                                  refine g_bipush F (pc' := 248) dX5_layFit_246 rfl (by decide +kernel) ?_
                                  refine g_iload_n F (pc' := 249) dX5_layFit_248 rfl rfl ?_
                                  refine g_imul F (pc' := 250) dX5_layFit_249 rfl ?_
                                  refine g_iload_n F (pc' := 251) dX5_layFit_250 rfl rfl ?_
                                  refine g_iadd F (pc' := 252) dX5_layFit_251 rfl ?_
                                  refine g_lload F (pc' := 254) dX5_layFit_252 rfl rfl ?_
                                  refine h_last F K (k := 14) (pc' := 255) (sc (sc (sc L 0 (upf (L 0) 20 0)) 14 (upf f2 ((61 * v) + x0) (jn (L 2 3) le (scL L sz v x0)))) 16 wd) (mem_up (by rfl) (by intro j hj; simp only [sc, if_neg hj])) rfl (by decide) (by omega) dX5_layFit_254 rfl ?_
                                  refine g_iinc F (pc' := 258) (lv' := [some (.ref (a 0)), some (.int (iI sz)), some (.int (iI v)), some (.int (iI (x0 + 1))), some (.long (lI (jn (L 2 3) le (scL L sz v x0)))), none, some (.int (iI y)), none, none, none]) dX5_layFit_255 rfl rfl (by decide) rfl ?_
                                  refine g_goto F (tgt := 64) dX5_layFit_258 (by decide) ?_
                                  refine g_lvw [some (.ref (a 0)), some (.int (iI sz)), some (.int (iI v)), some (.int (iI (x0 + 1))), none, none, none, none, none, none] (lvw_of _ _ [true, true, true, true, false, false, false, false, false, false] rfl) ?_
                                  exact ih_64 (x0 + 1) (upf f2 ((61 * v) + x0) (jn (L 2 3) le (scL L sz v x0))) (by omega) (by omega) (fun i q1 q2 t q3 q4 => by rw [upf_n (by omega)]; exact hf2 i q1 q2 t q3 q4) (fun t q1 q2 => by by_cases hj : t = x0; (rw [hj]; exact (upf_s _ _ _).trans hst); (rw [upf_n (by omega)]; exact hf3 t q1 (by omega)))
                              · skip
                                refine g_aload_n F (pc' := 136) dX5_layFit_135 rfl rfl ?_
                                refine g_getR F K (k := 0) (fld := 17) (ci := 5) (q := 14) (pc' := 139) iX5_layFit_X5 rfl rfl rfl (by decide) (List.mem_of_getElem? (i := 6) rfl) dX5_layFit_136 rfl ?_
                                refine g_bipush F (pc' := 141) dX5_layFit_139 rfl (by decide +kernel) ?_
                                refine g_iload_n F (pc' := 142) dX5_layFit_141 rfl rfl ?_
                                refine g_imul F (pc' := 143) dX5_layFit_142 rfl ?_
                                refine g_bipush F (pc' := 145) dX5_layFit_143 rfl (by decide +kernel) ?_
                                refine g_iadd F (pc' := 146) dX5_layFit_145 rfl ?_
                                refine g_iload F (pc' := 148) dX5_layFit_146 rfl rfl ?_
                                refine g_iadd F (pc' := 149) dX5_layFit_148 rfl ?_
                                refine g_lald F K (k := 14) (v := f2 (((61 * v) + 61) + y)) (pc' := 150) rfl (by decide) (by omega) dX5_layFit_149 rfl (by first | rfl | simp [upf, sc]) ?_
                                have e149 : f2 (((61 * v) + 61) + y) = FR8 L sz (v + 1) y := by have q := hf2 (v + 1) (by omega) (by omega) y (by omega) (by omega); rw [show 61 * (v + 1) + y = ((61 * v) + 61) + y by omega] at q; exact q
                                have e149R := FR8_R hL1 hRL hz1 (v := v + 1) (p := y) (by omega) (by omega) (by omega)
                                refine g_ldc2 F (pc' := 153) (z := 1000000000000000) dX5_layFit_150 rfl (List.mem_of_getElem? (i := 5) rfl) (by decide +kernel) ?_
                                refine g_lcmp F (pc' := 154) dX5_layFit_153 rfl (by omega) (by decide) ?_
                                refine g_if_ge F (pc' := 157) (tgt := 206) dX5_layFit_154 rfl (by decide) (cmpz_R _ _) (fun c_154 => ?_) (fun c_154 => ?_)
                                · skip
                                  have c_154 := cmpz_ge.mp c_154
                                  refine g_iinc F (pc' := 209) (lv' := [some (.ref (a 0)), some (.int (iI sz)), some (.int (iI v)), some (.int (iI x0)), some (.long (lI le)), none, some (.int (iI (y + 1))), none, none, none]) dX5_layFit_206 rfl rfl (by decide) rfl ?_
                                  refine g_goto F (tgt := 118) dX5_layFit_209 (by decide) ?_
                                  exact ih_118 le (y + 1) (by omega) (by omega) (by rcases hle with q | q; (exfalso; omega); (refine Or.inr ⟨q.1, Or.inl (by omega), ?_⟩; first | exact in_skip hL1 hRL hz1 (by omega) q.1 (by omega) q.2.2 (by omega) | exact in_take hL1 hRL hz1 (by omega) q.1 (by omega) (by omega) q.2.2 (by omega) (by rw [e149]) (cand := jn (L 2 3) (gcL L sz v ((y - x0) - wL L sz v)) (f2 (((61 * v) + 61) + y))) (Or.inl ⟨c_194, rfl⟩) | exact in_take hL1 hRL hz1 (by omega) q.1 (by omega) (by omega) q.2.2 (by omega) (by rw [e149]) (cand := jn (L 2 3) (gcL L sz v ((y - x0) - wL L sz v)) (f2 (((61 * v) + 61) + y))) (Or.inr ⟨c_194, rfl⟩)))
                                · skip
                                  have c_154 := cmpz_lt.mp c_154
                                  refine g_aload_n F (pc' := 158) dX5_layFit_157 rfl rfl ?_
                                  refine g_aload_n F (pc' := 159) dX5_layFit_158 rfl rfl ?_
                                  refine g_iload_n F (pc' := 160) dX5_layFit_159 rfl rfl ?_
                                  refine g_iconst F (pc' := 161) dX5_layFit_160 rfl ?_
                                  refine g_iadd F (pc' := 162) dX5_layFit_161 rfl ?_
                                  refine g_iload_n F (pc' := 163) dX5_layFit_162 rfl rfl ?_
                                  refine g_iload F (pc' := 165) dX5_layFit_163 rfl rfl ?_
                                  refine g_iload_n F (pc' := 166) dX5_layFit_165 rfl rfl ?_
                                  refine g_callJ F K hXc X0 (pc' := 169) (st := [.ref (a 0)]) (c5_gapDrift l a (sc (sc (sc L 0 (upf (L 0) 20 0)) 14 f2) 16 wd) (v + 1) x0 y sz (by omega) (by omega) (by omega) (by omega) (by exact (hs (v + 1) (by omega) (by omega)).1) (by exact (hs ((v + 1) - 1) (by omega) (by omega)).2.1) (by show 0 ≤ wd ((v + 1) - 1) ∧ wd ((v + 1) - 1) ≤ 60; rw [hwA ((v + 1) - 1) (by omega) (by omega)]; have := wL_R hL1 hL4 hz1 (s := ((v + 1) - 1)) (by omega) (by omega); omega) (by show 0 ≤ L 2 2 ∧ L 2 2 ≤ 9; omega) (by show 0 ≤ L 2 3 ∧ L 2 3 ≤ 3; omega)) (cwV 4 F.2.2.2.2 gX5_layFit_X5_gapDrift rfl rfl rfl (by decide +kernel) ⟨Nat.le_of_ble_eq_true rfl, Nat.le_of_ble_eq_true rfl⟩) rfl rfl rfl rfl (Nat.le_of_ble_eq_true rfl) dX5_layFit_166 rfl (fun z_166 M_166 q_166 => ?_)
                                  obtain ⟨rfl, mq_166⟩ := q_166
                                  have mq_166 := mq_166.symm; subst mq_166
                                  refine h_topJ (z' := gcL L sz v ((y - x0) - wL L sz v)) (by show cntz (L 2 3) (2 * absz (1000 * ((y - x0) - wd ((v + 1) - 1)) - (L 5 (v + 1) - L 6 ((v + 1) - 1)) * sz)) * L 2 2 = gcost _ _ _ _ _ _ _; rw [hwA ((v + 1) - 1) (by omega) (by omega)]; unfold gcost; rw [show v + 1 - 1 = v by omega]) ?_
                                  have b_166 := gcL_R hL1 hRL hz1 (v := v) (g := (y - x0) - wL L sz v) (by omega) (by omega)
                                  refine g_aload_n F (pc' := 170) dX5_layFit_169 rfl rfl ?_
                                  refine g_getR F K (k := 0) (fld := 17) (ci := 5) (q := 14) (pc' := 173) iX5_layFit_X5 rfl rfl rfl (by decide) (List.mem_of_getElem? (i := 6) rfl) dX5_layFit_170 rfl ?_
                                  refine g_bipush F (pc' := 175) dX5_layFit_173 rfl (by decide +kernel) ?_
                                  refine g_iload_n F (pc' := 176) dX5_layFit_175 rfl rfl ?_
                                  refine g_imul F (pc' := 177) dX5_layFit_176 rfl ?_
                                  refine g_bipush F (pc' := 179) dX5_layFit_177 rfl (by decide +kernel) ?_
                                  refine g_iadd F (pc' := 180) dX5_layFit_179 rfl ?_
                                  refine g_iload F (pc' := 182) dX5_layFit_180 rfl rfl ?_
                                  refine g_iadd F (pc' := 183) dX5_layFit_182 rfl ?_
                                  refine g_lald F K (k := 14) (v := f2 (((61 * v) + 61) + y)) (pc' := 184) rfl (by decide) (by omega) dX5_layFit_183 rfl (by first | rfl | simp [upf, sc]) ?_
                                  refine g_callJ F K hXc X0 (pc' := 187) (st := []) (c5_both l a (sc (sc (sc L 0 (upf (L 0) 20 0)) 14 f2) 16 wd) (gcL L sz v ((y - x0) - wL L sz v)) (f2 (((61 * v) + 61) + y)) (by omega) (by omega) (by show 0 ≤ L 2 3 ∧ L 2 3 ≤ 3; omega)) (cwV 2 F.2.2.2.2 gX5_layFit_X5_both rfl rfl rfl (by decide +kernel) ⟨Nat.le_of_ble_eq_true rfl, Nat.le_of_ble_eq_true rfl⟩) rfl rfl rfl rfl (Nat.le_of_ble_eq_true rfl) dX5_layFit_184 rfl (fun z_184 M_184 q_184 => ?_)
                                  obtain ⟨rfl, mq_184⟩ := q_184
                                  have mq_184 := mq_184.symm; subst mq_184
                                  refine h_topJ (z' := jn (L 2 3) (gcL L sz v ((y - x0) - wL L sz v)) (f2 (((61 * v) + 61) + y))) rfl ?_
                                  refine g_lstore F (pc' := 189) (lv' := [some (.ref (a 0)), some (.int (iI sz)), some (.int (iI v)), some (.int (iI x0)), some (.long (lI le)), none, some (.int (iI y)), some (.long (lI (jn (L 2 3) (gcL L sz v ((y - x0) - wL L sz v)) (f2 (((61 * v) + 61) + y))))), none, none]) dX5_layFit_187 rfl (by decide) rfl ?_
                                  have hcR := jn_R (L 2 3) (x := gcL L sz v ((y - x0) - wL L sz v)) (y := f2 (((61 * v) + 61) + y)) (B := 1000000000000000) b_166 (by omega)
                                  refine g_lload F (pc' := 191) dX5_layFit_189 rfl rfl ?_
                                  refine g_lload F (pc' := 193) dX5_layFit_191 rfl rfl ?_
                                  refine g_lcmp F (pc' := 194) dX5_layFit_193 rfl (by omega) (by omega) ?_
                                  refine g_if_ge F (pc' := 197) (tgt := 202) dX5_layFit_194 rfl (by decide) (cmpz_R _ _) (fun c_194 => ?_) (fun c_194 => ?_)
                                  · skip
                                    have c_194 := cmpz_ge.mp c_194
                                    refine g_lload F (pc' := 204) dX5_layFit_202 rfl rfl ?_
                                    refine g_lstore F (pc' := 206) (lv' := [some (.ref (a 0)), some (.int (iI sz)), some (.int (iI v)), some (.int (iI x0)), some (.long (lI le)), none, some (.int (iI y)), some (.long (lI (jn (L 2 3) (gcL L sz v ((y - x0) - wL L sz v)) (f2 (((61 * v) + 61) + y))))), none, none]) dX5_layFit_204 rfl (by decide) rfl ?_
                                    refine g_iinc F (pc' := 209) (lv' := [some (.ref (a 0)), some (.int (iI sz)), some (.int (iI v)), some (.int (iI x0)), some (.long (lI le)), none, some (.int (iI (y + 1))), some (.long (lI (jn (L 2 3) (gcL L sz v ((y - x0) - wL L sz v)) (f2 (((61 * v) + 61) + y))))), none, none]) dX5_layFit_206 rfl rfl (by decide) rfl ?_
                                    refine g_goto F (tgt := 118) dX5_layFit_209 (by decide) ?_
                                    refine g_lvw [some (.ref (a 0)), some (.int (iI sz)), some (.int (iI v)), some (.int (iI x0)), some (.long (lI le)), none, some (.int (iI (y + 1))), none, none, none] (lvw_of _ _ [true, true, true, true, true, false, true, false, false, false] rfl) ?_
                                    exact ih_118 le (y + 1) (by omega) (by omega) (by rcases hle with q | q; (exfalso; omega); (refine Or.inr ⟨q.1, Or.inl (by omega), ?_⟩; first | exact in_skip hL1 hRL hz1 (by omega) q.1 (by omega) q.2.2 (by omega) | exact in_take hL1 hRL hz1 (by omega) q.1 (by omega) (by omega) q.2.2 (by omega) (by rw [e149]) (cand := jn (L 2 3) (gcL L sz v ((y - x0) - wL L sz v)) (f2 (((61 * v) + 61) + y))) (Or.inl ⟨c_194, rfl⟩) | exact in_take hL1 hRL hz1 (by omega) q.1 (by omega) (by omega) q.2.2 (by omega) (by rw [e149]) (cand := jn (L 2 3) (gcL L sz v ((y - x0) - wL L sz v)) (f2 (((61 * v) + 61) + y))) (Or.inr ⟨c_194, rfl⟩)))
                                  · skip
                                    have c_194 := cmpz_lt.mp c_194
                                    refine g_lload F (pc' := 199) dX5_layFit_197 rfl rfl ?_
                                    refine g_goto F (tgt := 204) dX5_layFit_199 (by decide) ?_
                                    refine g_lstore F (pc' := 206) (lv' := [some (.ref (a 0)), some (.int (iI sz)), some (.int (iI v)), some (.int (iI x0)), some (.long (lI (jn (L 2 3) (gcL L sz v ((y - x0) - wL L sz v)) (f2 (((61 * v) + 61) + y))))), none, some (.int (iI y)), some (.long (lI (jn (L 2 3) (gcL L sz v ((y - x0) - wL L sz v)) (f2 (((61 * v) + 61) + y))))), none, none]) dX5_layFit_204 rfl (by decide) rfl ?_
                                    refine g_iinc F (pc' := 209) (lv' := [some (.ref (a 0)), some (.int (iI sz)), some (.int (iI v)), some (.int (iI x0)), some (.long (lI (jn (L 2 3) (gcL L sz v ((y - x0) - wL L sz v)) (f2 (((61 * v) + 61) + y))))), none, some (.int (iI (y + 1))), some (.long (lI (jn (L 2 3) (gcL L sz v ((y - x0) - wL L sz v)) (f2 (((61 * v) + 61) + y))))), none, none]) dX5_layFit_206 rfl rfl (by decide) rfl ?_
                                    refine g_goto F (tgt := 118) dX5_layFit_209 (by decide) ?_
                                    refine g_lvw [some (.ref (a 0)), some (.int (iI sz)), some (.int (iI v)), some (.int (iI x0)), some (.long (lI (jn (L 2 3) (gcL L sz v ((y - x0) - wL L sz v)) (f2 (((61 * v) + 61) + y))))), none, some (.int (iI (y + 1))), none, none, none] (lvw_of _ _ [true, true, true, true, true, false, true, false, false, false] rfl) ?_
                                    exact ih_118 (jn (L 2 3) (gcL L sz v ((y - x0) - wL L sz v)) (f2 (((61 * v) + 61) + y))) (y + 1) (by omega) (by omega) (by rcases hle with q | q; (exfalso; omega); (refine Or.inr ⟨q.1, Or.inl (by omega), ?_⟩; first | exact in_skip hL1 hRL hz1 (by omega) q.1 (by omega) q.2.2 (by omega) | exact in_take hL1 hRL hz1 (by omega) q.1 (by omega) (by omega) q.2.2 (by omega) (by rw [e149]) (cand := jn (L 2 3) (gcL L sz v ((y - x0) - wL L sz v)) (f2 (((61 * v) + 61) + y))) (Or.inl ⟨c_194, rfl⟩) | exact in_take hL1 hRL hz1 (by omega) q.1 (by omega) (by omega) q.2.2 (by omega) (by rw [e149]) (cand := jn (L 2 3) (gcL L sz v ((y - x0) - wL L sz v)) (f2 (((61 * v) + 61) + y))) (Or.inr ⟨c_194, rfl⟩)))
                        refine g_iload_n F (pc' := 88) dX5_layFit_87 rfl rfl ?_
                        refine g_aload_n F (pc' := 89) dX5_layFit_88 rfl rfl ?_
                        refine g_getI F K (k := 0) (fld := 11) (ci := 5) (z := L 0 11) (pc' := 92) iX5_layFit_X5 rfl rfl rfl (by decide) (List.mem_of_getElem? (i := 1) rfl) dX5_layFit_89 rfl (by first | rfl | simp [upf, sc]) ?_
                        refine g_iconst F (pc' := 93) dX5_layFit_92 rfl ?_
                        refine g_isub F (pc' := 94) dX5_layFit_93 rfl ?_
                        refine g_icmp_ne F (pc' := 97) (tgt := 101) dX5_layFit_94 rfl (by decide) (by omega) (by omega) (fun c_94 => ?_) (fun c_94 => ?_)
                        · skip
                          refine g_ldc2 F (pc' := 104) (z := 1000000000000000) dX5_layFit_101 rfl (List.mem_of_getElem? (i := 5) rfl) (by decide +kernel) ?_
                          refine g_lstore F (pc' := 106) (lv' := [some (.ref (a 0)), some (.int (iI sz)), some (.int (iI v)), some (.int (iI x0)), some (.long (lI 1000000000000000)), none, none, none, none, none]) dX5_layFit_104 rfl (by decide) rfl ?_
                          refine g_iload_n F (pc' := 107) dX5_layFit_106 rfl rfl ?_
                          refine g_aload_n F (pc' := 108) dX5_layFit_107 rfl rfl ?_
                          refine g_getR F K (k := 0) (fld := 19) (ci := 5) (q := 16) (pc' := 111) iX5_layFit_X5 rfl rfl rfl (by decide) (List.mem_of_getElem? (i := 2) rfl) dX5_layFit_108 rfl ?_
                          refine g_iload_n F (pc' := 112) dX5_layFit_111 rfl rfl ?_
                          refine g_iald F K (k := 16) (v := wd v) (pc' := 113) rfl (by decide) (by omega) dX5_layFit_112 rfl (by first | rfl | simp [upf, sc]) ?_
                          refine g_iadd F (pc' := 114) dX5_layFit_113 rfl ?_
                          refine g_iconst F (pc' := 115) dX5_layFit_114 rfl ?_
                          refine g_iadd F (pc' := 116) dX5_layFit_115 rfl ?_
                          refine g_istore F (pc' := 118) (lv' := [some (.ref (a 0)), some (.int (iI sz)), some (.int (iI v)), some (.int (iI x0)), some (.long (lI 1000000000000000)), none, some (.int (iI ((x0 + (wd v)) + 1))), none, none, none]) dX5_layFit_116 rfl (by decide) rfl ?_
                          exact lp_118 ((121 - ((x0 + (wd v)) + 1) : Int).toNat + 1) 1000000000000000 ((x0 + (wd v)) + 1) (by omega) (by omega) (by first | exact Or.inl ⟨by omega, rfl⟩ | exact Or.inr ⟨by omega, Or.inr (by omega), (mS_0 (by omega)).symm⟩)
                        · skip
                          refine g_lconst F (pc' := 98) (z := 0) dX5_layFit_97 rfl rfl ?_
                          refine g_goto F (tgt := 104) dX5_layFit_98 (by decide) ?_
                          refine g_lstore F (pc' := 106) (lv' := [some (.ref (a 0)), some (.int (iI sz)), some (.int (iI v)), some (.int (iI x0)), some (.long (lI 0)), none, none, none, none, none]) dX5_layFit_104 rfl (by decide) rfl ?_
                          refine g_iload_n F (pc' := 107) dX5_layFit_106 rfl rfl ?_
                          refine g_aload_n F (pc' := 108) dX5_layFit_107 rfl rfl ?_
                          refine g_getR F K (k := 0) (fld := 19) (ci := 5) (q := 16) (pc' := 111) iX5_layFit_X5 rfl rfl rfl (by decide) (List.mem_of_getElem? (i := 2) rfl) dX5_layFit_108 rfl ?_
                          refine g_iload_n F (pc' := 112) dX5_layFit_111 rfl rfl ?_
                          refine g_iald F K (k := 16) (v := wd v) (pc' := 113) rfl (by decide) (by omega) dX5_layFit_112 rfl (by first | rfl | simp [upf, sc]) ?_
                          refine g_iadd F (pc' := 114) dX5_layFit_113 rfl ?_
                          refine g_iconst F (pc' := 115) dX5_layFit_114 rfl ?_
                          refine g_iadd F (pc' := 116) dX5_layFit_115 rfl ?_
                          refine g_istore F (pc' := 118) (lv' := [some (.ref (a 0)), some (.int (iI sz)), some (.int (iI v)), some (.int (iI x0)), some (.long (lI 0)), none, some (.int (iI ((x0 + (wd v)) + 1))), none, none, none]) dX5_layFit_116 rfl (by decide) rfl ?_
                          exact lp_118 ((121 - ((x0 + (wd v)) + 1) : Int).toNat + 1) 0 ((x0 + (wd v)) + 1) (by omega) (by omega) (by first | exact Or.inl ⟨by omega, rfl⟩ | exact Or.inr ⟨by omega, Or.inr (by omega), (mS_0 (by omega)).symm⟩)
                exact lp_64 ((61 - 0 : Int).toNat + 1) 0 f (by omega) (by omega) (hf) (fun t q1 q2 => by omega)
          exact lp_58 ((((L 0 11) - 1) + 1 : Int).toNat + 1) ((L 0 11) - 1) (L 14) (by omega) (by omega) (fun i q1 q2 => by omega)
        · skip
          refine g_iconst F (pc' := 50) dX5_layFit_49 rfl ?_
          exact g_zret F hr hlk dX5_layFit_50 (Or.inr rfl) (lfQ_a hL (show keepR L _ from ⟨rfl, rfl, rfl, rfl, rfl, rfl, rfl⟩) (by omega) rfl rfl rfl rfl)
      · skip
        have hsv := hs v (by omega) (by omega)
        refine g_aload_n F (pc' := 15) dX5_layFit_14 rfl rfl ?_
        refine g_getR F K (k := 0) (fld := 19) (ci := 5) (q := 16) (pc' := 18) iX5_layFit_X5 rfl rfl rfl (by decide) (List.mem_of_getElem? (i := 2) rfl) dX5_layFit_15 rfl ?_
        refine g_iload_n F (pc' := 19) dX5_layFit_18 rfl rfl ?_
        refine g_aload_n F (pc' := 20) dX5_layFit_19 rfl rfl ?_
        refine g_aload_n F (pc' := 21) dX5_layFit_20 rfl rfl ?_
        refine g_getR F K (k := 0) (fld := 10) (ci := 5) (q := 9) (pc' := 24) iX5_layFit_X5 rfl rfl rfl (by decide) (List.mem_of_getElem? (i := 3) rfl) dX5_layFit_21 rfl ?_
        refine g_iload_n F (pc' := 25) dX5_layFit_24 rfl rfl ?_
        refine g_iald F K (k := 9) (v := L 9 v) (pc' := 26) rfl (by decide) (by omega) dX5_layFit_25 rfl (by first | rfl | simp [upf, sc]) ?_
        refine g_iload_n F (pc' := 27) dX5_layFit_26 rfl rfl ?_
        refine g_callI F K hXc X0 (pc' := 30) (st := [.int (iI v), .ref (a 16)]) (c5_dotsOf l a (sc L 16 wd) (L 9 v) sz (by omega) (by exact (hc (L 9 v) (by omega) (by omega)).1) (by exact (hc (L 9 v) (by omega) (by omega)).2.2) (by omega) (by exact hL4)) (cwV 2 F.2.2.2.2 gX5_layFit_X5_dotsOf rfl rfl rfl (by decide +kernel) ⟨Nat.le_of_ble_eq_true rfl, Nat.le_of_ble_eq_true rfl⟩) rfl rfl rfl rfl (Nat.le_of_ble_eq_true rfl) dX5_layFit_27 rfl (fun z_27 M_27 q_27 => ?_)
        obtain ⟨rfl, mq_27⟩ := q_27
        have mq_27 := mq_27.symm; subst mq_27
        refine h_top (z' := wL L sz v) rfl ?_
        refine h_iast F K (k := 16) (pc' := 31) (sc L 16 (upf wd v (wL L sz v))) (mem_up (by rfl) (by intro j hj; simp only [sc, if_neg hj])) rfl (by decide) (by omega) dX5_layFit_30 rfl ?_
        refine g_iinc F (pc' := 34) (lv' := [some (.ref (a 0)), some (.int (iI sz)), some (.int (iI (v + 1))), none, none, none, none, none, none, none]) dX5_layFit_31 rfl rfl (by decide) rfl ?_
        refine g_goto F (tgt := 6) dX5_layFit_34 (by decide) ?_
        exact ih_6 (v + 1) (upf wd v (wL L sz v)) (by omega) (by omega) (fun j q1 q2 => by by_cases hj : j = v; (rw [hj]; exact upf_s _ _ _); (rw [upf_n hj]; exact hwd j q1 (by omega)))
  exact lp_6 ((9 - 0 : Int).toNat + 1) 0 (L 16) (by omega) (by omega) (fun j q1 q2 => by omega)
