/-! ===== the class: a size worked out ===== -/
def lpN (w : Int → Int) : Nat → Int
  | 0 => 0
  | k + 1 => lpN w k + w k + 1
def lpp (w : Int → Int) (i : Int) : Int := lpN w i.toNat
theorem lpp_s {w : Int → Int} {i : Int} (h : 0 ≤ i) : lpp w (i + 1) = lpp w i + w i + 1 := by
  unfold lpp
  rw [show (i + 1).toNat = i.toNat + 1 by omega]
  show lpN w i.toNat + w (i.toNat : Nat) + 1 = _
  rw [show ((i.toNat : Nat) : Int) = i by omega]
def wF (M : Mem) (sz s : Int) : Int := dz (M 32 (M 29 s) / M 30 (M 29 s)) sz (M 9 4)
def lpF (M : Mem) (sz s : Int) : Int := lpp (wF M sz) s
theorem lpF_s {M : Mem} {sz i : Int} (h : 0 ≤ i) : lpF M sz (i + 1) = lpF M sz i + wF M sz i + 1 := lpp_s h
def roomF (M : Mem) (sz : Int) : Int := if M 24 0 ≤ 0 then 0 else sz - lpF M sz (M 24 0 - 1) - wF M sz (M 24 0 - 1)
def okF (M : Mem) (sz : Int) : Prop := ∀ s, 0 ≤ s → s < M 24 0 → lpF M sz s + wF M sz s ≤ sz
def stemOK (M : Mem) : Prop := (0 ≤ M 24 0 ∧ M 24 0 ≤ 8) ∧ (0 ≤ M 9 1 ∧ M 9 1 ≤ 9) ∧ (0 ≤ M 9 2 ∧ M 9 2 ≤ 9) ∧ (0 ≤ M 9 3 ∧ M 9 3 ≤ 3) ∧ (0 ≤ M 9 4 ∧ M 9 4 ≤ 3) ∧ (∀ j, 0 ≤ j → j < M 24 0 → (0 ≤ M 25 j ∧ M 25 j ≤ 999) ∧ (0 ≤ M 26 j ∧ M 26 j ≤ 999)) ∧ (∀ j, 0 ≤ j → j < M 24 0 → (0 ≤ M 29 j ∧ M 29 j < 8) ∧ (1 ≤ M 30 (M 29 j) ∧ M 30 (M 29 j) ≤ 8) ∧ (0 ≤ M 32 (M 29 j) ∧ M 32 (M 29 j) ≤ 300 * M 30 (M 29 j)))
theorem wF_R {M : Mem} (hS : stemOK M) {sz s : Int} (hz : 1 ≤ sz ∧ sz ≤ 60) (h0 : 0 ≤ s) (h1 : s < M 24 0) : 1 ≤ wF M sz s ∧ wF M sz s ≤ 21 := by
  obtain ⟨-, -, -, -, h4, -, hg⟩ := hS
  obtain ⟨a, b, c⟩ := hg s h0 h1
  have q := div_R b.1 c
  have := mul_R q (show 0 ≤ sz ∧ sz ≤ 60 by omega)
  unfold wF dz
  omega
theorem lpF_R {M : Mem} (hS : stemOK M) {sz : Int} (hz : 1 ≤ sz ∧ sz ≤ 60) : ∀ i : Int, 0 ≤ i → i ≤ M 24 0 → 0 ≤ lpF M sz i ∧ lpF M sz i ≤ 22 * i := by
  have h : ∀ k : Nat, (k : Int) ≤ M 24 0 → 0 ≤ lpF M sz (k : Int) ∧ lpF M sz (k : Int) ≤ 22 * k := by
    intro k
    induction k with
    | zero => intro _; exact ⟨Int.le_refl _, Int.le_refl _⟩
    | succ k ih =>
      intro hk
      have a := ih (by omega)
      have b := wF_R hS hz (s := (k : Int)) (by omega) (by omega)
      have c := lpF_s (M := M) (sz := sz) (i := (k : Int)) (by omega)
      rw [show (((k + 1 : Nat)) : Int) = (k : Int) + 1 by omega, c]
      omega
  intro i h0 h1
  have := h i.toNat (by omega)
  rw [show ((i.toNat : Nat) : Int) = i by omega] at this
  exact this
def llF (M : Mem) (sz rm : Int) (dd lf : Int → Int) : Prop := rm = roomF M sz ∧ ∀ j, 0 ≤ j → j < M 24 0 → dd j = wF M sz j ∧ lf j = lpF M sz j ∧ lpF M sz j + wF M sz j ≤ sz
def blB (M : Mem) (sz z : Int) : Prop := (0 ≤ z ∧ z < M 24 0) ∧ sz < lpF M sz z + wF M sz z ∧ ∀ j, 0 ≤ j → j < z → lpF M sz j + wF M sz j ≤ sz
def llQ (M : Mem) (sz z rm : Int) (dd lf : Int → Int) : Prop := (z = -6 ∧ llF M sz rm dd lf) ∨ blB M sz z
theorem llQ_f {M : Mem} {sz z rm : Int} {dd lf : Int → Int} (h : llQ M sz z rm dd lf) (hz : z = -6) : llF M sz rm dd lf := by
  rcases h with h | h
  · exact h.2
  · have := h.1; omega
theorem llQ_R {M : Mem} {sz z rm : Int} {dd lf : Int → Int} (hn : M 24 0 ≤ 8) (h : llQ M sz z rm dd lf) : -6 ≤ z ∧ z < 9 := by
  rcases h with h | h
  · have := h.1; omega
  · have := h.1; omega
theorem ll_0 (M : Mem) : sc M 34 (upf (M 34) 11 0) = sc (sc (sc M 34 (upf (M 34) 11 0)) 39 (M 39)) 40 (M 40) := by
  funext j i
  simp only [sc]
  (repeat' split) <;> simp_all
def SELm (M : Mem) (i : Int) : Int × Int := selI (M 9 3) (SCm M) (GCm M) (M 24 0) (M 40) (M 34 11) i
theorem SELm_0 (M : Mem) : SELm M 0 = (0, mI (VC M 0) 0 (M 34 11)) := rfl
theorem SELm_s {M : Mem} {v sh al x : Int} (h : 0 ≤ v) (hs : SELm M v = (sh, al)) (hx : lsI (FSm M v sh) al sh (M 34 11) = x) : SELm M (v + 1) = (x, if v = 0 then wo (M 9 3) al (SCm M v (M 40 v + x)) else wo (M 9 3) (wo (M 9 3) al (SCm M v (M 40 v + x))) (GCm M (v - 1) (1 + (x - sh)))) := by
  have e := selI_s (md := M 9 3) (sc := SCm M) (gc := GCm M) (n := M 24 0) (lp := M 40) (room := M 34 11) h
  have hs2 : selI (M 9 3) (SCm M) (GCm M) (M 24 0) (M 40) (M 34 11) v = (sh, al) := hs
  rw [hs2] at e
  have hx2 : lsI (fS (M 9 3) (SCm M) (GCm M) (M 24 0) (M 40) (M 34 11) v sh) al sh (M 34 11) = x := hx
  simp only [hx2] at e
  exact e
theorem SEL_md {md : Int} (hmd : ¬ md < 2) {sc gc : Int → Int → Int} {n : Int} {lp : Int → Int} {room : Int} : ∀ i : Nat, (SEL md sc gc n lp room i).2 = whl md sc gc n lp room
  | 0 => rfl
  | i + 1 => by
    have h := SEL_md hmd (sc := sc) (gc := gc) (n := n) (lp := lp) (room := room) i
    show (if i = 0 then wo md (SEL md sc gc n lp room i).2 _ else wo md (wo md (SEL md sc gc n lp room i).2 _) _) = _
    unfold wo
    simp only [if_neg hmd]
    rw [h]
    split <;> rfl
theorem SELm_ok {M : Mem} (hF : fitOK M) {v sh al : Int} (h0 : 0 ≤ v) (h1 : v < M 24 0) (hs : SELm M v = (sh, al)) : (0 ≤ sh ∧ sh ≤ M 34 11) ∧ (0 ≤ al ∧ al ≤ 30000000000) := by
  have hr := hF.2.1
  have h := sel_ok (md := M 9 3) (sc := SCm M) (gc := GCm M) (n := M 24 0) (lp := M 40) hr.1 v.toNat (by omega)
  have hs2 : SEL (M 9 3) (SCm M) (GCm M) (M 24 0) (M 40) (M 34 11) v.toNat = (sh, al) := hs
  rw [hs2, show ((v.toNat : Nat) : Int) = v by omega] at h
  obtain ⟨⟨a1, a2⟩, ⟨x, b1, b2, b3⟩, c⟩ := h
  simp only at a1 a2 b1 b2 b3 c
  have hx := FSm_R hF (s := v) (b := sh) (x := x) ⟨h0, h1⟩ a1 ⟨b1, b2⟩
  have hb3 : FSm M v sh x ≤ al := b3
  refine ⟨⟨a1, a2⟩, by omega, ?_⟩
  by_cases hmd : M 9 3 < 2
  · have h2 := c hmd x b1 b2
    have h3 : al ≤ FSm M v sh x := h2
    omega
  · have h2 := SEL_md hmd (sc := SCm M) (gc := GCm M) (n := M 24 0) (lp := M 40) (room := M 34 11) v.toNat
    rw [hs2] at h2
    have h3 : al = mI (VC M 0) 0 (M 34 11) := h2
    have h4 := mI_R (f := VC M 0) hr.1 (fun x x1 x2 => VC_R hF 0 x (by omega) (by omega) x1 x2)
    omega
/-! what does not hang on places without a stem -/
theorem VS_c {md : Int} {sc gc sc' gc' : Int → Int → Int} {n : Int} {lp lp' : Int → Int} {room : Int} (hs : ∀ i, 0 ≤ i → i < n → ∀ t, sc i t = sc' i t) (hg : ∀ i, 0 ≤ i → i < n - 1 → ∀ t, gc i t = gc' i t) (hl : ∀ i, 0 ≤ i → i < n → lp i = lp' i) : ∀ (d : Nat) (sh : Int), 0 ≤ n - 1 - d → VS md sc gc n lp room d sh = VS md sc' gc' n lp' room d sh
  | 0, sh, h0 => by
    show sc (n - 1) (lp (n - 1) + sh) = sc' (n - 1) (lp' (n - 1) + sh)
    rw [hs (n - 1) (by omega) (by omega), hl (n - 1) (by omega) (by omega)]
  | d + 1, sh, h0 => by
    have ih := VS_c (md := md) (room := room) hs hg hl d
    show jn md (sc (n - 2 - d) (lp (n - 2 - d) + sh)) (mI (fun nx => jn md (gc (n - 2 - d) (1 + (nx - sh))) (VS md sc gc n lp room d nx)) sh room) = jn md (sc' (n - 2 - d) (lp' (n - 2 - d) + sh)) (mI (fun nx => jn md (gc' (n - 2 - d) (1 + (nx - sh))) (VS md sc' gc' n lp' room d nx)) sh room)
    rw [hs (n - 2 - d) (by omega) (by omega), hl (n - 2 - d) (by omega) (by omega)]
    congr 1
    congr 1
    funext nx
    rw [hg (n - 2 - d) (by omega) (by omega), ih nx (by omega)]
theorem Vi_c {md : Int} {sc gc sc' gc' : Int → Int → Int} {n : Int} {lp lp' : Int → Int} {room : Int} (hs : ∀ i, 0 ≤ i → i < n → ∀ t, sc i t = sc' i t) (hg : ∀ i, 0 ≤ i → i < n - 1 → ∀ t, gc i t = gc' i t) (hl : ∀ i, 0 ≤ i → i < n → lp i = lp' i) {i : Int} (h0 : 0 ≤ i) (h1 : i < n) : Vi md sc gc n lp room i = Vi md sc' gc' n lp' room i := by
  funext sh
  exact VS_c hs hg hl _ sh (by omega)
theorem fS_c {md : Int} {sc gc sc' gc' : Int → Int → Int} {n : Int} {lp lp' : Int → Int} {room : Int} (hs : ∀ i, 0 ≤ i → i < n → ∀ t, sc i t = sc' i t) (hg : ∀ i, 0 ≤ i → i < n - 1 → ∀ t, gc i t = gc' i t) (hl : ∀ i, 0 ≤ i → i < n → lp i = lp' i) {i b : Int} (h0 : 0 ≤ i) (h1 : i < n) : fS md sc gc n lp room i b = fS md sc' gc' n lp' room i b := by
  funext nx
  unfold fS
  by_cases c : i = 0
  · rw [if_pos c, if_pos c, Vi_c hs hg hl (by omega) (by omega)]
  · rw [if_neg c, if_neg c, Vi_c hs hg hl h0 h1, hg (i - 1) (by omega) (by omega)]
theorem whl_c {md : Int} {sc gc sc' gc' : Int → Int → Int} {n : Int} {lp lp' : Int → Int} {room : Int} (hs : ∀ i, 0 ≤ i → i < n → ∀ t, sc i t = sc' i t) (hg : ∀ i, 0 ≤ i → i < n - 1 → ∀ t, gc i t = gc' i t) (hl : ∀ i, 0 ≤ i → i < n → lp i = lp' i) (h : 0 < n) : whl md sc gc n lp room = whl md sc' gc' n lp' room := by
  unfold whl
  rw [Vi_c hs hg hl (by omega) h]
theorem selI_c {md : Int} {sc gc sc' gc' : Int → Int → Int} {n : Int} {lp lp' : Int → Int} {room : Int} (hs : ∀ i, 0 ≤ i → i < n → ∀ t, sc i t = sc' i t) (hg : ∀ i, 0 ≤ i → i < n - 1 → ∀ t, gc i t = gc' i t) (hl : ∀ i, 0 ≤ i → i < n → lp i = lp' i) (hn : 0 < n) {i : Int} (h0 : 0 ≤ i) (h1 : i ≤ n) : selI md sc gc n lp room i = selI md sc' gc' n lp' room i := by
  have h : ∀ k : Nat, (k : Int) ≤ n → selI md sc gc n lp room (k : Int) = selI md sc' gc' n lp' room (k : Int) := by
    intro k
    induction k with
    | zero =>
      intro _
      show selI md sc gc n lp room 0 = selI md sc' gc' n lp' room 0
      rw [selI_0, selI_0, whl_c hs hg hl hn]
    | succ k ih =>
      intro hk
      have e := ih (by omega)
      rw [show (((k + 1 : Nat)) : Int) = (k : Int) + 1 by omega, selI_s (by omega), selI_s (by omega), e, fS_c hs hg hl (by omega) (by omega), hl k (by omega) (by omega)]
      simp only [hs k (by omega) (by omega)]
      by_cases c : (k : Int) = 0
      · rw [if_pos c, if_pos c]
      · rw [if_neg c, if_neg c]
        simp only [hg ((k : Int) - 1) (by omega) (by omega)]
  have := h i.toNat (by omega)
  rw [show ((i.toNat : Nat) : Int) = i by omega] at this
  exact this
def scF (M : Mem) (sz : Int) : Int → Int → Int := scost (M 9 3) (M 9 1) (M 25) (M 26) (wF M sz) sz
def gcF (M : Mem) (sz : Int) : Int → Int → Int := gcost (M 9 3) (M 9 2) (M 25) (M 26) sz
def leastF (M : Mem) (sz : Int) : Int := if M 24 0 ≤ 0 then 0 else whl (M 9 3) (scF M sz) (gcF M sz) (M 24 0) (lpF M sz) (roomF M sz)
def dotF (M : Mem) (sz s : Int) : Int := lpF M sz s + (selI (M 9 3) (scF M sz) (gcF M sz) (M 24 0) (lpF M sz) (roomF M sz) (s + 1)).1
def lsW (M : Mem) (sz : Int) (dd lf : Int → Int) (rm : Int) : Int := whl (M 9 3) (scost (M 9 3) (M 9 1) (M 25) (M 26) dd sz) (gcF M sz) (M 24 0) lf rm
def goodX (M : Mem) (sz b d : Int) (ld : Int → Int) : Prop := ((b = -6 ∧ okF M sz) ∨ blB M sz b) ∧ (b = -6 → d = leastF M sz ∧ ∀ s, 0 ≤ s → s < M 24 0 → ld (sz * 8 + s) = dotF M sz s)
def keepF (M M' : Mem) : Prop := ∀ k, (k < 34 ∨ 42 < k) → M' k = M k
theorem keepF_ex {M M' : Mem} (h : keepF M M') : ∃ f34 f35 f36 f37 f38 f39 f40 f41 f42, M' = sc (sc (sc (sc (sc (sc (sc (sc (sc M 34 f34) 35 f35) 36 f36) 37 f37) 38 f38) 39 f39) 40 f40) 41 f41) 42 f42 := by
  refine ⟨M' 34, M' 35, M' 36, M' 37, M' 38, M' 39, M' 40, M' 41, M' 42, ?_⟩
  funext k
  by_cases hk : k < 34 ∨ 42 < k
  · rw [h k hk]
    simp only [sc]
    (repeat' split) <;> first | rfl | (exfalso; omega)
  · simp only [sc]
    (repeat' split) <;> first | (subst_vars; rfl) | (exfalso; omega)
def woQ (M : Mem) (sz : Int) (M' : Mem) : Prop := keepF M M' ∧ goodX M sz (M' 36 sz) (M' 35 sz) (M' 38) ∧ (∀ t, t ≠ sz → M' 36 t = M 36 t ∧ M' 35 t = M 35 t) ∧ (∀ j, j < sz * 8 ∨ sz * 8 + 8 ≤ j → M' 38 j = M 38 j) ∧ M' 37 = M 37
theorem woQ_a {M M' : Mem} {sz z rm : Int} {dd lf : Int → Int} (hk : keepF M M') (hl : llQ M sz z rm dd lf) (hz : z ≠ -6) (h36 : M' 36 = upf (M 36) sz z) (h35 : M' 35 = M 35) (h38 : M' 38 = M 38) (h37 : M' 37 = M 37) : woQ M sz M' := by
  refine ⟨hk, ?_, fun t ht => ?_, fun j _ => by rw [h38], h37⟩
  · rw [h36, upf_s]
    rcases hl with q | q
    · exact absurd q.1 hz
    · exact ⟨Or.inr q, fun e => absurd e hz⟩
  · rw [h36, h35, upf_n ht]; exact ⟨rfl, rfl⟩
theorem woQ_b {M M' : Mem} {sz rm z : Int} {dd lf : Int → Int} (hk : keepF M M') (hl : llF M sz rm dd lf) (hz : z = -6 ∧ M 24 0 ≤ 0) (h36 : M' 36 = upf (M 36) sz z) (h35 : M' 35 = upf (M 35) sz 0) (h38 : M' 38 = M 38) (h37 : M' 37 = M 37) : woQ M sz M' := by
  refine ⟨hk, ?_, fun t ht => ?_, fun j _ => by rw [h38], h37⟩
  · rw [h36, h35, upf_s, upf_s]
    refine ⟨Or.inl ⟨hz.1, fun s a b => (hl.2 s a b).2.2⟩, fun _ => ⟨?_, fun s a b => by omega⟩⟩
    unfold leastF; rw [if_pos hz.2]
  · rw [h36, h35, upf_n ht, upf_n ht]; exact ⟨rfl, rfl⟩
theorem fit_of {M : Mem} {sz rm : Int} {dd lf : Int → Int} (hS : stemOK M) (hz : 1 ≤ sz ∧ sz ≤ 60) (hl : llF M sz rm dd lf) (hn : 0 < M 24 0) : (0 ≤ M 24 0 ∧ M 24 0 ≤ 8) ∧ (0 ≤ rm ∧ rm ≤ 59) ∧ (1 ≤ sz ∧ sz ≤ 60) ∧ (0 ≤ M 9 1 ∧ M 9 1 ≤ 9) ∧ (0 ≤ M 9 2 ∧ M 9 2 ≤ 9) ∧ (0 ≤ M 9 3 ∧ M 9 3 ≤ 3) ∧ (∀ j, 0 ≤ j → j < M 24 0 → (0 ≤ M 25 j ∧ M 25 j ≤ 999) ∧ (0 ≤ M 26 j ∧ M 26 j ≤ 999) ∧ (0 ≤ dd j ∧ dd j ≤ 60) ∧ (0 ≤ lf j ∧ lf j + rm ≤ 60)) ∧ (∀ j, 0 ≤ j → j < M 24 0 - 1 → lf j ≤ lf (j + 1)) := by
  obtain ⟨hn8, h1, h2, h3, h4, hst, hgr⟩ := id hS
  have hmo : ∀ j, 0 ≤ j → j < M 24 0 - 1 → lf j ≤ lf (j + 1) := by
    intro j a b
    rw [(hl.2 j a (by omega)).2.1, (hl.2 (j + 1) (by omega) (by omega)).2.1, lpF_s a]
    have := wF_R hS hz a (by omega : j < M 24 0)
    omega
  have hml : ∀ k : Nat, ∀ j, 0 ≤ j → j + k = M 24 0 - 1 → lf j ≤ lf (M 24 0 - 1) := by
    intro k
    induction k with
    | zero => intro j a b; rw [show j = M 24 0 - 1 by omega]; exact Int.le_refl _
    | succ k ih =>
      intro j a b
      have := ih (j + 1) (by omega) (by omega)
      have := hmo j a (by omega)
      omega
  have hr := hl.1
  unfold roomF at hr
  rw [if_neg (by omega)] at hr
  have hla := hl.2 (M 24 0 - 1) (by omega) (by omega)
  have hlR := lpF_R hS hz (M 24 0 - 1) (by omega) (by omega)
  have hwR := wF_R hS hz (s := M 24 0 - 1) (by omega) (by omega)
  refine ⟨hn8, by omega, hz, h1, h2, h3, fun j a b => ?_, hmo⟩
  obtain ⟨e1, e2, e3⟩ := hl.2 j a b
  have hw := wF_R hS hz a b
  have hlp := lpF_R hS hz j a (by omega)
  have := hml (M 24 0 - 1 - j).toNat j a (by omega)
  refine ⟨(hst j a b).1, (hst j a b).2, by omega, by omega, by omega⟩
theorem scd_c {M : Mem} {sz rm : Int} {dd lf : Int → Int} (hl : llF M sz rm dd lf) : ∀ i, 0 ≤ i → i < M 24 0 → ∀ t, scost (M 9 3) (M 9 1) (M 25) (M 26) dd sz i t = scF M sz i t := by
  intro i a b t
  unfold scF scost
  rw [(hl.2 i a b).1]
theorem woQ_c {M M' : Mem} {sz rm z : Int} {dd lf : Int → Int} (hk : keepF M M') (hS : stemOK M) (hl : llF M sz rm dd lf) (hz : z = -6 ∧ 0 < M 24 0) (h36 : M' 36 = upf (M 36) sz z) (h35 : M' 35 = upf (M 35) sz (lsW M sz dd lf rm)) (h37 : M' 37 = M 37) (h1 : ∀ v, 0 ≤ v → v < M 24 0 → M' 38 (sz * 8 + v) = lf v + (selI (M 9 3) (scost (M 9 3) (M 9 1) (M 25) (M 26) dd sz) (gcF M sz) (M 24 0) lf rm (v + 1)).1) (h2 : ∀ j, j < sz * 8 ∨ sz * 8 + 8 ≤ j → M' 38 j = M 38 j) : woQ M sz M' := by
  have a1 := scd_c hl
  have a2 : ∀ i, 0 ≤ i → i < M 24 0 - 1 → ∀ t, gcF M sz i t = gcF M sz i t := fun _ _ _ _ => rfl
  have a3 : ∀ i, 0 ≤ i → i < M 24 0 → lf i = lpF M sz i := fun i a b => (hl.2 i a b).2.1
  refine ⟨hk, ?_, fun t ht => ?_, h2, h37⟩
  · rw [h36, h35, upf_s, upf_s]
    refine ⟨Or.inl ⟨hz.1, fun s a b => (hl.2 s a b).2.2⟩, fun _ => ⟨?_, fun s a b => ?_⟩⟩
    · unfold leastF lsW
      rw [if_neg (by omega), whl_c a1 a2 a3 hz.2, hl.1]
    · rw [h1 s a b, selI_c a1 a2 a3 hz.2 (by omega) (by omega), a3 s a b, hl.1]
      rfl
  · rw [h36, h35, upf_n ht, upf_n ht]; exact ⟨rfl, rfl⟩
theorem iX0_layLeftmost_X0 : ∀ w ∈ wsX00, w ∈ wsX0_layLeftmost := fun _ h => List.mem_cons_of_mem _ (List.mem_append_left _ (List.mem_append_left _ (List.mem_append_right _ h)))
theorem iX0_layLeftmost_X1 : ∀ w ∈ wsX10, w ∈ wsX0_layLeftmost := fun _ h => List.mem_cons_of_mem _ (List.mem_append_right _ h)
theorem iX0_layLeftmost_X3 : ∀ w ∈ wsX30, w ∈ wsX0_layLeftmost := fun _ h => List.mem_cons_of_mem _ (List.mem_append_left _ (List.mem_append_right _ h))
set_option maxHeartbeats 4000000 in
set_option maxRecDepth 100000 in
theorem c0_layLeftmost (l : Launch) (a : Nat → Nat) (M : Mem) (hS : stemOK M) (hz : 1 ≤ M 34 10 ∧ M 34 10 ≤ 60) : CtI XS l yX0_layLeftmost wsX0_layLeftmost ({ frames := 3, cells := 0, slots := 0, locals := 68 } : Room) LC a M [.ref (a 34)] (fun z M' => ∃ rm dd lf, M' = sc (sc (sc M 34 (upf (M 34) 11 rm)) 39 dd) 40 lf ∧ llQ M (M 34 10) z rm dd lf) := by
  refine CtI.of (y := yX0_layLeftmost) (cc := cX0_layLeftmost) (maxL := 3) (ret := (some .int)) (lv := [some (.ref (a 34)), none, none]) (by decide) rfl (Nat.le_of_ble_eq_true rfl) (lvOK_of _ _ ⟨rfl, rfl⟩) ?_
  intro p e s m below meth c D T F K X0 hr hlk
  have hXc := XS_c
  obtain ⟨hn, h1, h2, h3, h4, hst, hgr⟩ := id hS
  refine g_iconst F (pc' := 1) dX0_layLeftmost_0 rfl ?_
  refine g_istore_n F (pc' := 2) (lv' := [some (.ref (a 34)), some (.int (iI 0)), none]) dX0_layLeftmost_1 rfl (by decide) rfl ?_
  refine g_aload_n F (pc' := 3) dX0_layLeftmost_2 rfl rfl ?_
  refine g_iconst F (pc' := 4) dX0_layLeftmost_3 rfl ?_
  refine h_putI F K (k := 34) (fld := 11) (ci := 0) (pc' := 7) (sc M 34 (upf (M 34) 11 0)) (mem_up (by rfl) (by intro j hj; simp only [sc, if_neg hj])) tyX0 tyX0_ok nmX0 iX0_layLeftmost_X0 rfl rfl rfl (by decide) rfl rfl (List.mem_of_getElem? (i := 1) rfl) dX0_layLeftmost_4 rfl ?_
  refine g_iconst F (pc' := 8) dX0_layLeftmost_7 rfl ?_
  refine g_istore_n F (pc' := 9) (lv' := [some (.ref (a 34)), some (.int (iI 0)), some (.int (iI 0))]) dX0_layLeftmost_8 rfl (by decide) rfl ?_
  refine h_mem (sc (sc (sc M 34 (upf (M 34) 11 0)) 39 (M 39)) 40 (M 40)) (ll_0 M) ?_
  have lp_9 : ∀ (n_9 : Nat) (fr : Int) (v : Int) (rm : Int) (dd : Int → Int) (lf : Int → Int) (hm_9 : M 24 0 - v < (n_9 : Int)) (hv : 0 ≤ v ∧ v ≤ M 24 0) (hfr : fr = lpF M (M 34 10) v) (hrm : rm = if v ≤ 0 then 0 else M 34 10 - lpF M (M 34 10) (v - 1) - wF M (M 34 10) (v - 1)) (hll : ∀ j, 0 ≤ j → j < v → dd j = wF M (M 34 10) j ∧ lf j = lpF M (M 34 10) j ∧ lpF M (M 34 10) j + wF M (M 34 10) j ≤ M 34 10), GG p l e ({ frames := 3, cells := 0, slots := 0, locals := 68 } : Room) s m ([.ref (a 34)].toArray) below meth c (PI D T a LC M (fun z M' => ∃ rm dd lf, M' = sc (sc (sc M 34 (upf (M 34) 11 rm)) 39 dd) 40 lf ∧ llQ M (M 34 10) z rm dd lf) below ([.ref (a 34)].toArray) s) D (AA T a LC M s.heap.size) 3 (wld T a LC (sc (sc (sc M 34 (upf (M 34) 11 rm)) 39 dd) 40 lf)) 9 [some (.ref (a 34)), some (.int (iI fr)), some (.int (iI v))] [] := by
    intro n_9
    induction n_9 with
    | zero => intro fr v rm dd lf hm_9 hv hfr hrm hll; exfalso; omega
    | succ n_9 ih_9 =>
      intro fr v rm dd lf hm_9 hv hfr hrm hll
      have hfR := lpF_R hS hz v hv.1 hv.2
      rw [← hfr] at hfR
      refine g_iload_n F (pc' := 10) dX0_layLeftmost_9 rfl rfl ?_
      refine g_aload_n F (pc' := 11) dX0_layLeftmost_10 rfl rfl ?_
      refine g_getR F K (k := 34) (fld := 5) (ci := 0) (q := 24) (pc' := 14) iX0_layLeftmost_X0 rfl rfl rfl (by decide) (List.mem_of_getElem? (i := 2) rfl) dX0_layLeftmost_11 rfl ?_
      refine g_getI F K (k := 24) (fld := 0) (ci := 3) (z := M 24 0) (pc' := 17) iX0_layLeftmost_X3 rfl rfl rfl (by decide) (List.mem_of_getElem? (i := 3) rfl) dX0_layLeftmost_14 rfl (by first | rfl | simp [upf, sc]) ?_
      refine g_icmp_ge F (pc' := 20) (tgt := 97) dX0_layLeftmost_17 rfl (by decide) (by omega) (by omega) (fun c_17 => ?_) (fun c_17 => ?_)
      · skip
        refine g_bipush F (pc' := 99) dX0_layLeftmost_97 rfl (by decide +kernel) ?_
        exact g_iret F hr hlk dX0_layLeftmost_99 (⟨_, _, _, rfl, Or.inl ⟨rfl, by rw [hrm]; unfold roomF; rw [show v = M 24 0 by omega], fun j q1 q2 => hll j q1 (by omega)⟩⟩)
      · skip
        refine g_aload_n F (pc' := 21) dX0_layLeftmost_20 rfl rfl ?_
        refine g_getR F K (k := 34) (fld := 6) (ci := 0) (q := 39) (pc' := 24) iX0_layLeftmost_X0 rfl rfl rfl (by decide) (List.mem_of_getElem? (i := 4) rfl) dX0_layLeftmost_21 rfl ?_
        refine g_iload_n F (pc' := 25) dX0_layLeftmost_24 rfl rfl ?_
        refine g_aload_n F (pc' := 26) dX0_layLeftmost_25 rfl rfl ?_
        refine g_getR F K (k := 34) (fld := 5) (ci := 0) (q := 24) (pc' := 29) iX0_layLeftmost_X0 rfl rfl rfl (by decide) (List.mem_of_getElem? (i := 2) rfl) dX0_layLeftmost_26 rfl ?_
        refine g_iload_n F (pc' := 30) dX0_layLeftmost_29 rfl rfl ?_
        refine g_aload_n F (pc' := 31) dX0_layLeftmost_30 rfl rfl ?_
        refine g_getI F K (k := 34) (fld := 10) (ci := 0) (z := M 34 10) (pc' := 34) iX0_layLeftmost_X0 rfl rfl rfl (by decide) (List.mem_of_getElem? (i := 5) rfl) dX0_layLeftmost_31 rfl (by first | rfl | simp [upf, sc]) ?_
        refine g_aload_n F (pc' := 35) dX0_layLeftmost_34 rfl rfl ?_
        refine g_getR F K (k := 34) (fld := 4) (ci := 0) (q := 4) (pc' := 38) iX0_layLeftmost_X0 rfl rfl rfl (by decide) (List.mem_of_getElem? (i := 6) rfl) dX0_layLeftmost_35 rfl ?_
        refine g_getR F K (k := 4) (fld := 5) (ci := 1) (q := 9) (pc' := 41) iX0_layLeftmost_X1 rfl rfl rfl (by decide) (List.mem_of_getElem? (i := 7) rfl) dX0_layLeftmost_38 rfl ?_
        refine g_iconst F (pc' := 42) dX0_layLeftmost_41 rfl ?_
        refine g_iald F K (k := 9) (v := M 9 4) (pc' := 43) rfl (by decide) (by decide) dX0_layLeftmost_42 rfl (by first | rfl | simp [upf, sc]) ?_
        refine g_callI F K hXc X0 (pc' := 46) (st := [.int (iI v), .ref (a 39)]) (c3_dotsOfStem l a (sc (sc (sc M 34 (upf (M 34) 11 rm)) 39 dd) 40 lf) v (M 34 10) (M 9 4) (by omega) (by exact (hgr v (by omega) (by omega)).1) (by exact (hgr v (by omega) (by omega)).2.1) (by exact (hgr v (by omega) (by omega)).2.2) (by omega) (by omega)) (cwV 3 F.2.2.2.2 gX0_layLeftmost_X3_dotsOfStem rfl rfl rfl (by decide +kernel) ⟨Nat.le_of_ble_eq_true rfl, Nat.le_of_ble_eq_true rfl⟩) rfl rfl rfl rfl (Nat.le_of_ble_eq_true rfl) dX0_layLeftmost_43 rfl (fun z_43 M_43 q_43 => ?_)
        obtain ⟨rfl, mq_43⟩ := q_43
        have mq_43 := mq_43.symm; subst mq_43
        refine h_top (z' := wF M (M 34 10) v) rfl ?_
        have b_43 := wF_R hS (sz := M 34 10) (s := v) (by omega) (by omega) (by omega)
        refine h_iast F K (k := 39) (pc' := 47) (sc (sc (sc M 34 (upf (M 34) 11 rm)) 39 (upf dd v (wF M (M 34 10) v))) 40 lf) (mem_up (by rfl) (by intro j hj; simp only [sc, if_neg hj])) rfl (by decide) (by omega) dX0_layLeftmost_46 rfl ?_
        refine g_aload_n F (pc' := 48) dX0_layLeftmost_47 rfl rfl ?_
        refine g_getR F K (k := 34) (fld := 7) (ci := 0) (q := 40) (pc' := 51) iX0_layLeftmost_X0 rfl rfl rfl (by decide) (List.mem_of_getElem? (i := 8) rfl) dX0_layLeftmost_48 rfl ?_
        refine g_iload_n F (pc' := 52) dX0_layLeftmost_51 rfl rfl ?_
        refine g_iload_n F (pc' := 53) dX0_layLeftmost_52 rfl rfl ?_
        refine h_iast F K (k := 40) (pc' := 54) (sc (sc (sc M 34 (upf (M 34) 11 rm)) 39 (upf dd v (wF M (M 34 10) v))) 40 (upf lf v fr)) (mem_up (by rfl) (by intro j hj; simp only [sc, if_neg hj])) rfl (by decide) (by omega) dX0_layLeftmost_53 rfl ?_
        refine g_aload_n F (pc' := 55) dX0_layLeftmost_54 rfl rfl ?_
        refine g_aload_n F (pc' := 56) dX0_layLeftmost_55 rfl rfl ?_
        refine g_getI F K (k := 34) (fld := 10) (ci := 0) (z := M 34 10) (pc' := 59) iX0_layLeftmost_X0 rfl rfl rfl (by decide) (List.mem_of_getElem? (i := 5) rfl) dX0_layLeftmost_56 rfl (by first | rfl | simp [upf, sc]) ?_
        refine g_iload_n F (pc' := 60) dX0_layLeftmost_59 rfl rfl ?_
        refine g_isub F (pc' := 61) dX0_layLeftmost_60 rfl ?_
        refine g_aload_n F (pc' := 62) dX0_layLeftmost_61 rfl rfl ?_
        refine g_getR F K (k := 34) (fld := 6) (ci := 0) (q := 39) (pc' := 65) iX0_layLeftmost_X0 rfl rfl rfl (by decide) (List.mem_of_getElem? (i := 4) rfl) dX0_layLeftmost_62 rfl ?_
        refine g_iload_n F (pc' := 66) dX0_layLeftmost_65 rfl rfl ?_
        refine g_iald F K (k := 39) (v := wF M (M 34 10) v) (pc' := 67) rfl (by decide) (by omega) dX0_layLeftmost_66 rfl (by first | rfl | exact upf_s _ _ _ | simp [upf, sc]) ?_
        refine g_isub F (pc' := 68) dX0_layLeftmost_67 rfl ?_
        refine h_putI F K (k := 34) (fld := 11) (ci := 0) (pc' := 71) (sc (sc (sc M 34 (upf (M 34) 11 (((M 34 10) - fr) - (wF M (M 34 10) v)))) 39 (upf dd v (wF M (M 34 10) v))) 40 (upf lf v fr)) (mem_up (by first | exact (upf_w _ _ _ _).symm | funext i; simp only [upf, sc]; (repeat' split) <;> first | rfl | omega | simp_all) (by intro j hj; simp only [sc, if_neg hj])) tyX0 tyX0_ok nmX0 iX0_layLeftmost_X0 rfl rfl rfl (by decide) rfl rfl (List.mem_of_getElem? (i := 1) rfl) dX0_layLeftmost_68 rfl ?_
        refine g_aload_n F (pc' := 72) dX0_layLeftmost_71 rfl rfl ?_
        refine g_getI F K (k := 34) (fld := 11) (ci := 0) (z := ((M 34 10) - fr) - (wF M (M 34 10) v)) (pc' := 75) iX0_layLeftmost_X0 rfl rfl rfl (by decide) (List.mem_of_getElem? (i := 1) rfl) dX0_layLeftmost_72 rfl (by first | rfl | exact upf_s _ _ _ | simp [upf, sc]) ?_
        refine g_if_ge F (pc' := 78) (tgt := 80) dX0_layLeftmost_75 rfl (by decide) (by omega) (fun c_75 => ?_) (fun c_75 => ?_)
        · skip
          refine g_iload_n F (pc' := 81) dX0_layLeftmost_80 rfl rfl ?_
          refine g_aload_n F (pc' := 82) dX0_layLeftmost_81 rfl rfl ?_
          refine g_getR F K (k := 34) (fld := 6) (ci := 0) (q := 39) (pc' := 85) iX0_layLeftmost_X0 rfl rfl rfl (by decide) (List.mem_of_getElem? (i := 4) rfl) dX0_layLeftmost_82 rfl ?_
          refine g_iload_n F (pc' := 86) dX0_layLeftmost_85 rfl rfl ?_
          refine g_iald F K (k := 39) (v := wF M (M 34 10) v) (pc' := 87) rfl (by decide) (by omega) dX0_layLeftmost_86 rfl (by first | rfl | exact upf_s _ _ _ | simp [upf, sc]) ?_
          refine g_iconst F (pc' := 88) dX0_layLeftmost_87 rfl ?_
          refine g_iadd F (pc' := 89) dX0_layLeftmost_88 rfl ?_
          refine g_iadd F (pc' := 90) dX0_layLeftmost_89 rfl ?_
          refine g_istore_n F (pc' := 91) (lv' := [some (.ref (a 34)), some (.int (iI (fr + ((wF M (M 34 10) v) + 1)))), some (.int (iI v))]) dX0_layLeftmost_90 rfl (by decide) rfl ?_
          refine g_iinc F (pc' := 94) (lv' := [some (.ref (a 34)), some (.int (iI (fr + ((wF M (M 34 10) v) + 1)))), some (.int (iI (v + 1)))]) dX0_layLeftmost_91 rfl rfl (by decide) rfl ?_
          refine g_goto F (tgt := 9) dX0_layLeftmost_94 (by decide) ?_
          exact ih_9 (fr + ((wF M (M 34 10) v) + 1)) (v + 1) (((M 34 10) - fr) - (wF M (M 34 10) v)) (upf dd v (wF M (M 34 10) v)) (upf lf v fr) (by omega) (by omega) (by rw [lpF_s hv.1, ← hfr]; omega) (by rw [if_neg (by omega), show v + 1 - 1 = v by omega, ← hfr]) (fun j q1 q2 => by by_cases hj : j = v; (rw [hj, upf_s, upf_s, ← hfr]; exact ⟨rfl, rfl, by omega⟩); (rw [upf_n hj, upf_n hj]; exact hll j q1 (by omega)))
        · skip
          refine g_iload_n F (pc' := 79) dX0_layLeftmost_78 rfl rfl ?_
          exact g_iret F hr hlk dX0_layLeftmost_79 (⟨_, _, _, rfl, Or.inr ⟨⟨hv.1, c_17⟩, by rw [← hfr]; omega, fun j q1 q2 => (hll j q1 q2).2.2⟩⟩)
  exact lp_9 ((M 24 0 - 0 : Int).toNat + 1) 0 0 0 (M 39) (M 40) (by omega) (by omega) (rfl) (rfl) (fun j q1 q2 => by omega)

theorem iX0_layLeast_X0 : ∀ w ∈ wsX00, w ∈ wsX0_layLeast := fun _ h => List.mem_cons_of_mem _ (List.mem_append_left _ (List.mem_append_left _ (List.mem_append_right _ h)))
theorem iX0_layLeast_X1 : ∀ w ∈ wsX10, w ∈ wsX0_layLeast := fun _ h => List.mem_cons_of_mem _ (List.mem_append_right _ h)
theorem iX0_layLeast_X3 : ∀ w ∈ wsX30, w ∈ wsX0_layLeast := fun _ h => List.mem_cons_of_mem _ (List.mem_append_left _ (List.mem_append_right _ h))
set_option maxHeartbeats 4000000 in
set_option maxRecDepth 100000 in
theorem c0_layLeast (l : Launch) (a : Nat → Nat) (M : Mem) (hF : fitOK M) (hl : M 35 (M 34 10) = mI (VC M 0) 0 (M 34 11)) (hR : ∀ i, 0 ≤ i → i < M 24 0 → ∀ x, 0 ≤ x → x ≤ M 34 11 → M 41 (i * 60 + x) = VC M i x) : CtV XS l yX0_layLeast wsX0_layLeast ({ frames := 3, cells := 0, slots := 0, locals := 73 } : Room) LC a M [.ref (a 34)] (fun M' => ∃ ld, M' = sc M 38 ld ∧ (∀ v, 0 ≤ v → v < M 24 0 → ld (M 34 10 * 8 + v) = M 40 v + (SELm M (v + 1)).1) ∧ (∀ j, j < M 34 10 * 8 ∨ M 34 10 * 8 + 8 ≤ j → ld j = M 38 j)) := by
  refine CtV.of (y := yX0_layLeast) (cc := cX0_layLeast) (maxL := 6) (ret := none) (lv := [some (.ref (a 34)), none, none, none, none, none]) (by decide) rfl (Nat.le_of_ble_eq_true rfl) (lvOK_of _ _ ⟨rfl, rfl⟩) ?_
  intro p e s m below meth c D T F K X0 hr hlk
  have hXc := XS_c
  obtain ⟨hn, hro, hsz, h1, h2, h3, hst, hmo⟩ := id hF
  refine g_aload_n F (pc' := 1) dX0_layLeast_0 rfl rfl ?_
  refine g_getR F K (k := 34) (fld := 0) (ci := 0) (q := 35) (pc' := 4) iX0_layLeast_X0 rfl rfl rfl (by decide) (List.mem_of_getElem? (i := 1) rfl) dX0_layLeast_1 rfl ?_
  refine g_aload_n F (pc' := 5) dX0_layLeast_4 rfl rfl ?_
  refine g_getI F K (k := 34) (fld := 10) (ci := 0) (z := M 34 10) (pc' := 8) iX0_layLeast_X0 rfl rfl rfl (by decide) (List.mem_of_getElem? (i := 2) rfl) dX0_layLeast_5 rfl (by first | rfl | simp [upf, sc]) ?_
  refine g_lald F K (k := 35) (v := M 35 (M 34 10)) (pc' := 9) rfl (by decide) (by omega) dX0_layLeast_8 rfl (by first | rfl | simp [upf, sc]) ?_
  refine g_lstore_n F (pc' := 10) (lv' := [some (.ref (a 34)), some (.long (lI (M 35 (M 34 10)))), none, none, none, none]) dX0_layLeast_9 rfl (by decide) rfl ?_
  refine g_iconst F (pc' := 11) dX0_layLeast_10 rfl ?_
  refine g_istore_n F (pc' := 12) (lv' := [some (.ref (a 34)), some (.long (lI (M 35 (M 34 10)))), none, some (.int (iI 0)), none, none]) dX0_layLeast_11 rfl (by decide) rfl ?_
  refine g_iconst F (pc' := 13) dX0_layLeast_12 rfl ?_
  refine g_istore F (pc' := 15) (lv' := [some (.ref (a 34)), some (.long (lI (M 35 (M 34 10)))), none, some (.int (iI 0)), some (.int (iI 0)), none]) dX0_layLeast_13 rfl (by decide) rfl ?_
  refine h_mem (sc M 38 (M 38)) (sc_id M 38).symm ?_
  have lp_15 : ∀ (n_15 : Nat) (al : Int) (sh : Int) (v : Int) (ld : Int → Int) (hm_15 : M 24 0 - v < (n_15 : Int)) (hv : 0 ≤ v ∧ v ≤ M 24 0) (hsel : SELm M v = (sh, al)) (hl1 : ∀ j, 0 ≤ j → j < v → ld (M 34 10 * 8 + j) = M 40 j + (SELm M (j + 1)).1) (hl2 : ∀ j, j < M 34 10 * 8 ∨ M 34 10 * 8 + 8 ≤ j → ld j = M 38 j), GG p l e ({ frames := 3, cells := 0, slots := 0, locals := 73 } : Room) s m ([.ref (a 34)].toArray) below meth c (PV D T a LC M (fun M' => ∃ ld, M' = sc M 38 ld ∧ (∀ v, 0 ≤ v → v < M 24 0 → ld (M 34 10 * 8 + v) = M 40 v + (SELm M (v + 1)).1) ∧ (∀ j, j < M 34 10 * 8 ∨ M 34 10 * 8 + 8 ≤ j → ld j = M 38 j)) below ([.ref (a 34)].toArray) s) D (AA T a LC M s.heap.size) 6 (wld T a LC (sc M 38 ld)) 15 [some (.ref (a 34)), some (.long (lI al)), none, some (.int (iI sh)), some (.int (iI v)), none] [] := by
    intro n_15
    induction n_15 with
    | zero => intro al sh v ld hm_15 hv hsel hl1 hl2; exfalso; omega
    | succ n_15 ih_15 =>
      intro al sh v ld hm_15 hv hsel hl1 hl2
      refine g_iload F (pc' := 17) dX0_layLeast_15 rfl rfl ?_
      refine g_aload_n F (pc' := 18) dX0_layLeast_17 rfl rfl ?_
      refine g_getR F K (k := 34) (fld := 5) (ci := 0) (q := 24) (pc' := 21) iX0_layLeast_X0 rfl rfl rfl (by decide) (List.mem_of_getElem? (i := 3) rfl) dX0_layLeast_18 rfl ?_
      refine g_getI F K (k := 24) (fld := 0) (ci := 3) (z := M 24 0) (pc' := 24) iX0_layLeast_X3 rfl rfl rfl (by decide) (List.mem_of_getElem? (i := 4) rfl) dX0_layLeast_21 rfl (by first | rfl | simp [upf, sc]) ?_
      refine g_icmp_ge F (pc' := 27) (tgt := 132) dX0_layLeast_24 rfl (by decide) (by omega) (by omega) (fun c_24 => ?_) (fun c_24 => ?_)
      · skip
        exact g_vret F hr hlk dX0_layLeast_132 (⟨ld, rfl, fun j q1 q2 => hl1 j q1 (by omega), hl2⟩)
      · skip
        have hok := SELm_ok hF hv.1 c_24 hsel
        refine g_iload_n F (pc' := 28) dX0_layLeast_27 rfl rfl ?_
        refine g_istore F (pc' := 30) (lv' := [some (.ref (a 34)), some (.long (lI al)), none, some (.int (iI sh)), some (.int (iI v)), some (.int (iI sh))]) dX0_layLeast_28 rfl (by decide) rfl ?_
        have lp_30 : ∀ (n_30 : Nat) (x : Int) (hm_30 : 60 - x < (n_30 : Int)) (hx : sh ≤ x ∧ x ≤ M 34 11) (hlx : lsI (FSm M v sh) al sh (M 34 11) = lsI (FSm M v sh) al x (M 34 11)), GG p l e ({ frames := 3, cells := 0, slots := 0, locals := 73 } : Room) s m ([.ref (a 34)].toArray) below meth c (PV D T a LC M (fun M' => ∃ ld, M' = sc M 38 ld ∧ (∀ v, 0 ≤ v → v < M 24 0 → ld (M 34 10 * 8 + v) = M 40 v + (SELm M (v + 1)).1) ∧ (∀ j, j < M 34 10 * 8 ∨ M 34 10 * 8 + 8 ≤ j → ld j = M 38 j)) below ([.ref (a 34)].toArray) s) D (AA T a LC M s.heap.size) 6 (wld T a LC (sc M 38 ld)) 30 [some (.ref (a 34)), some (.long (lI al)), none, some (.int (iI x)), some (.int (iI v)), some (.int (iI sh))] [] := by
          intro n_30
          induction n_30 with
          | zero => intro x hm_30 hx hlx; exfalso; omega
          | succ n_30 ih_30 =>
            intro x hm_30 hx hlx
            refine g_iload_n F (pc' := 31) dX0_layLeast_30 rfl rfl ?_
            refine g_aload_n F (pc' := 32) dX0_layLeast_31 rfl rfl ?_
            refine g_getI F K (k := 34) (fld := 11) (ci := 0) (z := M 34 11) (pc' := 35) iX0_layLeast_X0 rfl rfl rfl (by decide) (List.mem_of_getElem? (i := 5) rfl) dX0_layLeast_32 rfl (by first | rfl | simp [upf, sc]) ?_
            refine g_icmp_ge F (pc' := 38) (tgt := 66) dX0_layLeast_35 rfl (by decide) (by omega) (by omega) (fun c_35 => ?_) (fun c_35 => ?_)
            · skip
              have hxx : lsI (FSm M v sh) al sh (M 34 11) = x := by rw [hlx]; exact lsI_t (by first | exact Or.inl c_57 | exact Or.inr (by omega)) (by omega)
              have hss := SELm_s hv.1 hsel hxx
              refine g_aload_n F (pc' := 67) dX0_layLeast_66 rfl rfl ?_
              refine g_getR F K (k := 34) (fld := 3) (ci := 0) (q := 38) (pc' := 70) iX0_layLeast_X0 rfl rfl rfl (by decide) (List.mem_of_getElem? (i := 6) rfl) dX0_layLeast_67 rfl ?_
              refine g_aload_n F (pc' := 71) dX0_layLeast_70 rfl rfl ?_
              refine g_getI F K (k := 34) (fld := 10) (ci := 0) (z := M 34 10) (pc' := 74) iX0_layLeast_X0 rfl rfl rfl (by decide) (List.mem_of_getElem? (i := 2) rfl) dX0_layLeast_71 rfl (by first | rfl | simp [upf, sc]) ?_
              refine g_bipush F (pc' := 76) dX0_layLeast_74 rfl (by decide +kernel) ?_
              refine g_imul F (pc' := 77) dX0_layLeast_76 rfl ?_
              refine g_iload F (pc' := 79) dX0_layLeast_77 rfl rfl ?_
              refine g_iadd F (pc' := 80) dX0_layLeast_79 rfl ?_
              refine g_aload_n F (pc' := 81) dX0_layLeast_80 rfl rfl ?_
              refine g_getR F K (k := 34) (fld := 7) (ci := 0) (q := 40) (pc' := 84) iX0_layLeast_X0 rfl rfl rfl (by decide) (List.mem_of_getElem? (i := 7) rfl) dX0_layLeast_81 rfl ?_
              refine g_iload F (pc' := 86) dX0_layLeast_84 rfl rfl ?_
              refine g_iald F K (k := 40) (v := M 40 v) (pc' := 87) rfl (by decide) (by omega) dX0_layLeast_86 rfl (by first | rfl | simp [upf, sc]) ?_
              refine g_iload_n F (pc' := 88) dX0_layLeast_87 rfl rfl ?_
              refine g_iadd F (pc' := 89) dX0_layLeast_88 rfl ?_
              refine h_iast F K (k := 38) (pc' := 90) (sc M 38 (upf ld (((M 34 10) * 8) + v) ((M 40 v) + x))) (mem_up (by rfl) (by intro j hj; simp only [sc, if_neg hj])) rfl (by decide) (by omega) dX0_layLeast_89 rfl ?_
              refine g_aload_n F (pc' := 91) dX0_layLeast_90 rfl rfl ?_
              refine g_lload_n F (pc' := 92) dX0_layLeast_91 rfl rfl ?_
              refine g_aload_n F (pc' := 93) dX0_layLeast_92 rfl rfl ?_
              refine g_iload F (pc' := 95) dX0_layLeast_93 rfl rfl ?_
              refine g_iload_n F (pc' := 96) dX0_layLeast_95 rfl rfl ?_
              refine g_callJ F K hXc X0 (pc' := 99) (st := [.long (lI al), .ref (a 34)]) (c0_stemCost l a (sc M 38 (upf ld (((M 34 10) * 8) + v) ((M 40 v) + x))) v x (by exact hF) (by show 0 ≤ v ∧ v < M 24 0; omega) (by show 0 ≤ x ∧ x ≤ M 34 11; omega)) (cwV 2 F.2.2.2.2 gX0_layLeast_X0_stemCost rfl rfl rfl (by decide +kernel) ⟨Nat.le_of_ble_eq_true rfl, Nat.le_of_ble_eq_true rfl⟩) rfl rfl rfl rfl (Nat.le_of_ble_eq_true rfl) dX0_layLeast_96 rfl (fun z_96 M_96 q_96 => ?_)
              obtain ⟨rfl, mq_96⟩ := q_96
              have mq_96 := mq_96.symm; subst mq_96
              refine h_topJ (z' := SCm M v (M 40 v + x)) rfl ?_
              have b_96 := SCm_R hF (s := v) (x := x) (by omega) (by omega)
              refine g_callJ F K hXc X0 (pc' := 102) (st := []) (c0_without l a (sc M 38 (upf ld (((M 34 10) * 8) + v) ((M 40 v) + x))) al (SCm M v (M 40 v + x)) (by exact h3)) (cwV 2 F.2.2.2.2 gX0_layLeast_X0_without rfl rfl rfl (by decide +kernel) ⟨Nat.le_of_ble_eq_true rfl, Nat.le_of_ble_eq_true rfl⟩) rfl rfl rfl rfl (Nat.le_of_ble_eq_true rfl) dX0_layLeast_99 rfl (fun z_99 M_99 q_99 => ?_)
              obtain ⟨rfl, mq_99⟩ := q_99
              have mq_99 := mq_99.symm; subst mq_99
              refine g_lstore_n F (pc' := 103) (lv' := [some (.ref (a 34)), some (.long (lI (wo (M 9 3) al (SCm M v (M 40 v + x))))), none, some (.int (iI x)), some (.int (iI v)), some (.int (iI sh))]) dX0_layLeast_102 rfl (by decide) rfl ?_
              refine g_iload F (pc' := 105) dX0_layLeast_103 rfl rfl ?_
              refine g_if_le F (pc' := 108) (tgt := 126) dX0_layLeast_105 rfl (by decide) (by omega) (fun c_105 => ?_) (fun c_105 => ?_)
              · skip
                refine g_iinc F (pc' := 129) (lv' := [some (.ref (a 34)), some (.long (lI (wo (M 9 3) al (SCm M v (M 40 v + x))))), none, some (.int (iI x)), some (.int (iI (v + 1))), some (.int (iI sh))]) dX0_layLeast_126 rfl rfl (by decide) rfl ?_
                refine g_goto F (tgt := 15) dX0_layLeast_129 (by decide) ?_
                refine g_lvw [some (.ref (a 34)), some (.long (lI (wo (M 9 3) al (SCm M v (M 40 v + x))))), none, some (.int (iI x)), some (.int (iI (v + 1))), none] (lvw_of _ _ [true, true, false, true, true, false] rfl) ?_
                exact ih_15 (wo (M 9 3) al (SCm M v (M 40 v + x))) x (v + 1) (upf ld (((M 34 10) * 8) + v) ((M 40 v) + x)) (by omega) (by omega) (by rw [hss]; first | rw [if_pos (by omega)] | rw [if_neg (by omega)]) (fun j q1 q2 => by by_cases hj : j = v; (rw [hj, upf_s, hss]); (rw [upf_n (by omega)]; exact hl1 j q1 (by omega))) (fun j q => by rw [upf_n (by omega)]; exact hl2 j q)
              · skip
                refine g_aload_n F (pc' := 109) dX0_layLeast_108 rfl rfl ?_
                refine g_lload_n F (pc' := 110) dX0_layLeast_109 rfl rfl ?_
                refine g_aload_n F (pc' := 111) dX0_layLeast_110 rfl rfl ?_
                refine g_iload F (pc' := 113) dX0_layLeast_111 rfl rfl ?_
                refine g_iconst F (pc' := 114) dX0_layLeast_113 rfl ?_
                refine g_isub F (pc' := 115) dX0_layLeast_114 rfl ?_
                refine g_iload_n F (pc' := 116) dX0_layLeast_115 rfl rfl ?_
                refine g_iload F (pc' := 118) dX0_layLeast_116 rfl rfl ?_
                refine g_isub F (pc' := 119) dX0_layLeast_118 rfl ?_
                refine g_callJ F K hXc X0 (pc' := 122) (st := [.long (lI (wo (M 9 3) al (SCm M v (M 40 v + x)))), .ref (a 34)]) (c0_gapCost l a (sc M 38 (upf ld (((M 34 10) * 8) + v) ((M 40 v) + x))) (v - 1) (x - sh) (by exact hF) (by show 0 ≤ v - 1 ∧ v - 1 + 1 < M 24 0; omega) (by show 0 ≤ x - sh ∧ x - sh ≤ M 34 11; omega)) (cwV 2 F.2.2.2.2 gX0_layLeast_X0_gapCost rfl rfl rfl (by decide +kernel) ⟨Nat.le_of_ble_eq_true rfl, Nat.le_of_ble_eq_true rfl⟩) rfl rfl rfl rfl (Nat.le_of_ble_eq_true rfl) dX0_layLeast_119 rfl (fun z_119 M_119 q_119 => ?_)
                obtain ⟨rfl, mq_119⟩ := q_119
                have mq_119 := mq_119.symm; subst mq_119
                refine h_topJ (z' := GCm M (v - 1) (1 + (x - sh))) rfl ?_
                have b_119 := GCm_R hF (s := v - 1) (x := x - sh) (by omega) (by omega)
                refine g_callJ F K hXc X0 (pc' := 125) (st := []) (c0_without l a (sc M 38 (upf ld (((M 34 10) * 8) + v) ((M 40 v) + x))) (wo (M 9 3) al (SCm M v (M 40 v + x))) (GCm M (v - 1) (1 + (x - sh))) (by exact h3)) (cwV 2 F.2.2.2.2 gX0_layLeast_X0_without rfl rfl rfl (by decide +kernel) ⟨Nat.le_of_ble_eq_true rfl, Nat.le_of_ble_eq_true rfl⟩) rfl rfl rfl rfl (Nat.le_of_ble_eq_true rfl) dX0_layLeast_122 rfl (fun z_122 M_122 q_122 => ?_)
                obtain ⟨rfl, mq_122⟩ := q_122
                have mq_122 := mq_122.symm; subst mq_122
                refine g_lstore_n F (pc' := 126) (lv' := [some (.ref (a 34)), some (.long (lI (wo (M 9 3) (wo (M 9 3) al (SCm M v (M 40 v + x))) (GCm M (v - 1) (1 + (x - sh)))))), none, some (.int (iI x)), some (.int (iI v)), some (.int (iI sh))]) dX0_layLeast_125 rfl (by decide) rfl ?_
                refine g_iinc F (pc' := 129) (lv' := [some (.ref (a 34)), some (.long (lI (wo (M 9 3) (wo (M 9 3) al (SCm M v (M 40 v + x))) (GCm M (v - 1) (1 + (x - sh)))))), none, some (.int (iI x)), some (.int (iI (v + 1))), some (.int (iI sh))]) dX0_layLeast_126 rfl rfl (by decide) rfl ?_
                refine g_goto F (tgt := 15) dX0_layLeast_129 (by decide) ?_
                refine g_lvw [some (.ref (a 34)), some (.long (lI (wo (M 9 3) (wo (M 9 3) al (SCm M v (M 40 v + x))) (GCm M (v - 1) (1 + (x - sh)))))), none, some (.int (iI x)), some (.int (iI (v + 1))), none] (lvw_of _ _ [true, true, false, true, true, false] rfl) ?_
                exact ih_15 (wo (M 9 3) (wo (M 9 3) al (SCm M v (M 40 v + x))) (GCm M (v - 1) (1 + (x - sh)))) x (v + 1) (upf ld (((M 34 10) * 8) + v) ((M 40 v) + x)) (by omega) (by omega) (by rw [hss]; first | rw [if_pos (by omega)] | rw [if_neg (by omega)]) (fun j q1 q2 => by by_cases hj : j = v; (rw [hj, upf_s, hss]); (rw [upf_n (by omega)]; exact hl1 j q1 (by omega))) (fun j q => by rw [upf_n (by omega)]; exact hl2 j q)
            · skip
              refine g_iload_n F (pc' := 39) dX0_layLeast_38 rfl rfl ?_
              refine g_iconst F (pc' := 40) dX0_layLeast_39 rfl ?_
              refine g_iadd F (pc' := 41) dX0_layLeast_40 rfl ?_
              refine g_bipush F (pc' := 43) dX0_layLeast_41 rfl (by decide +kernel) ?_
              refine g_icmp_ge F (pc' := 46) (tgt := 66) dX0_layLeast_43 rfl (by decide) (by omega) (by decide) (fun c_43 => ?_) (fun c_43 => ?_)
              · skip
                exfalso; omega
              · skip
                refine g_aload_n F (pc' := 47) dX0_layLeast_46 rfl rfl ?_
                refine g_iload F (pc' := 49) dX0_layLeast_47 rfl rfl ?_
                refine g_iload F (pc' := 51) dX0_layLeast_49 rfl rfl ?_
                refine g_iload_n F (pc' := 52) dX0_layLeast_51 rfl rfl ?_
                refine g_callJ F K hXc X0 (pc' := 55) (st := []) (c0_comesTo l a (sc M 38 ld) v sh x (by exact hF) (by show 0 ≤ v ∧ v < M 24 0; omega) (by omega) (by show sh ≤ x ∧ x ≤ M 34 11; omega) (by exact hR)) (cwV 3 F.2.2.2.2 gX0_layLeast_X0_comesTo rfl rfl rfl (by decide +kernel) ⟨Nat.le_of_ble_eq_true rfl, Nat.le_of_ble_eq_true rfl⟩) rfl rfl rfl rfl (Nat.le_of_ble_eq_true rfl) dX0_layLeast_52 rfl (fun z_52 M_52 q_52 => ?_)
                obtain ⟨rfl, mq_52⟩ := q_52
                have mq_52 := mq_52.symm; subst mq_52
                refine h_topJ (z' := FSm M v sh x) rfl ?_
                have b_52 := FSm_R hF (s := v) (b := sh) (x := x) (by omega) (by omega) (by omega)
                refine g_lload_n F (pc' := 56) dX0_layLeast_55 rfl rfl ?_
                refine g_lcmp F (pc' := 57) dX0_layLeast_56 rfl (by omega) (by omega) ?_
                refine g_if_le F (pc' := 60) (tgt := 66) dX0_layLeast_57 rfl (by decide) (cmpz_R _ _) (fun c_57 => ?_) (fun c_57 => ?_)
                · skip
                  have c_57 := cmpz_le.mp c_57
                  have hxx : lsI (FSm M v sh) al sh (M 34 11) = x := by rw [hlx]; exact lsI_t (by first | exact Or.inl c_57 | exact Or.inr (by omega)) (by omega)
                  have hss := SELm_s hv.1 hsel hxx
                  refine g_aload_n F (pc' := 67) dX0_layLeast_66 rfl rfl ?_
                  refine g_getR F K (k := 34) (fld := 3) (ci := 0) (q := 38) (pc' := 70) iX0_layLeast_X0 rfl rfl rfl (by decide) (List.mem_of_getElem? (i := 6) rfl) dX0_layLeast_67 rfl ?_
                  refine g_aload_n F (pc' := 71) dX0_layLeast_70 rfl rfl ?_
                  refine g_getI F K (k := 34) (fld := 10) (ci := 0) (z := M 34 10) (pc' := 74) iX0_layLeast_X0 rfl rfl rfl (by decide) (List.mem_of_getElem? (i := 2) rfl) dX0_layLeast_71 rfl (by first | rfl | simp [upf, sc]) ?_
                  refine g_bipush F (pc' := 76) dX0_layLeast_74 rfl (by decide +kernel) ?_
                  refine g_imul F (pc' := 77) dX0_layLeast_76 rfl ?_
                  refine g_iload F (pc' := 79) dX0_layLeast_77 rfl rfl ?_
                  refine g_iadd F (pc' := 80) dX0_layLeast_79 rfl ?_
                  refine g_aload_n F (pc' := 81) dX0_layLeast_80 rfl rfl ?_
                  refine g_getR F K (k := 34) (fld := 7) (ci := 0) (q := 40) (pc' := 84) iX0_layLeast_X0 rfl rfl rfl (by decide) (List.mem_of_getElem? (i := 7) rfl) dX0_layLeast_81 rfl ?_
                  refine g_iload F (pc' := 86) dX0_layLeast_84 rfl rfl ?_
                  refine g_iald F K (k := 40) (v := M 40 v) (pc' := 87) rfl (by decide) (by omega) dX0_layLeast_86 rfl (by first | rfl | simp [upf, sc]) ?_
                  refine g_iload_n F (pc' := 88) dX0_layLeast_87 rfl rfl ?_
                  refine g_iadd F (pc' := 89) dX0_layLeast_88 rfl ?_
                  refine h_iast F K (k := 38) (pc' := 90) (sc M 38 (upf ld (((M 34 10) * 8) + v) ((M 40 v) + x))) (mem_up (by rfl) (by intro j hj; simp only [sc, if_neg hj])) rfl (by decide) (by omega) dX0_layLeast_89 rfl ?_
                  refine g_aload_n F (pc' := 91) dX0_layLeast_90 rfl rfl ?_
                  refine g_lload_n F (pc' := 92) dX0_layLeast_91 rfl rfl ?_
                  refine g_aload_n F (pc' := 93) dX0_layLeast_92 rfl rfl ?_
                  refine g_iload F (pc' := 95) dX0_layLeast_93 rfl rfl ?_
                  refine g_iload_n F (pc' := 96) dX0_layLeast_95 rfl rfl ?_
                  refine g_callJ F K hXc X0 (pc' := 99) (st := [.long (lI al), .ref (a 34)]) (c0_stemCost l a (sc M 38 (upf ld (((M 34 10) * 8) + v) ((M 40 v) + x))) v x (by exact hF) (by show 0 ≤ v ∧ v < M 24 0; omega) (by show 0 ≤ x ∧ x ≤ M 34 11; omega)) (cwV 2 F.2.2.2.2 gX0_layLeast_X0_stemCost rfl rfl rfl (by decide +kernel) ⟨Nat.le_of_ble_eq_true rfl, Nat.le_of_ble_eq_true rfl⟩) rfl rfl rfl rfl (Nat.le_of_ble_eq_true rfl) dX0_layLeast_96 rfl (fun z_96 M_96 q_96 => ?_)
                  obtain ⟨rfl, mq_96⟩ := q_96
                  have mq_96 := mq_96.symm; subst mq_96
                  refine h_topJ (z' := SCm M v (M 40 v + x)) rfl ?_
                  have b_96 := SCm_R hF (s := v) (x := x) (by omega) (by omega)
                  refine g_callJ F K hXc X0 (pc' := 102) (st := []) (c0_without l a (sc M 38 (upf ld (((M 34 10) * 8) + v) ((M 40 v) + x))) al (SCm M v (M 40 v + x)) (by exact h3)) (cwV 2 F.2.2.2.2 gX0_layLeast_X0_without rfl rfl rfl (by decide +kernel) ⟨Nat.le_of_ble_eq_true rfl, Nat.le_of_ble_eq_true rfl⟩) rfl rfl rfl rfl (Nat.le_of_ble_eq_true rfl) dX0_layLeast_99 rfl (fun z_99 M_99 q_99 => ?_)
                  obtain ⟨rfl, mq_99⟩ := q_99
                  have mq_99 := mq_99.symm; subst mq_99
                  refine g_lstore_n F (pc' := 103) (lv' := [some (.ref (a 34)), some (.long (lI (wo (M 9 3) al (SCm M v (M 40 v + x))))), none, some (.int (iI x)), some (.int (iI v)), some (.int (iI sh))]) dX0_layLeast_102 rfl (by decide) rfl ?_
                  refine g_iload F (pc' := 105) dX0_layLeast_103 rfl rfl ?_
                  refine g_if_le F (pc' := 108) (tgt := 126) dX0_layLeast_105 rfl (by decide) (by omega) (fun c_105 => ?_) (fun c_105 => ?_)
                  · skip
                    refine g_iinc F (pc' := 129) (lv' := [some (.ref (a 34)), some (.long (lI (wo (M 9 3) al (SCm M v (M 40 v + x))))), none, some (.int (iI x)), some (.int (iI (v + 1))), some (.int (iI sh))]) dX0_layLeast_126 rfl rfl (by decide) rfl ?_
                    refine g_goto F (tgt := 15) dX0_layLeast_129 (by decide) ?_
                    refine g_lvw [some (.ref (a 34)), some (.long (lI (wo (M 9 3) al (SCm M v (M 40 v + x))))), none, some (.int (iI x)), some (.int (iI (v + 1))), none] (lvw_of _ _ [true, true, false, true, true, false] rfl) ?_
                    exact ih_15 (wo (M 9 3) al (SCm M v (M 40 v + x))) x (v + 1) (upf ld (((M 34 10) * 8) + v) ((M 40 v) + x)) (by omega) (by omega) (by rw [hss]; first | rw [if_pos (by omega)] | rw [if_neg (by omega)]) (fun j q1 q2 => by by_cases hj : j = v; (rw [hj, upf_s, hss]); (rw [upf_n (by omega)]; exact hl1 j q1 (by omega))) (fun j q => by rw [upf_n (by omega)]; exact hl2 j q)
                  · skip
                    refine g_aload_n F (pc' := 109) dX0_layLeast_108 rfl rfl ?_
                    refine g_lload_n F (pc' := 110) dX0_layLeast_109 rfl rfl ?_
                    refine g_aload_n F (pc' := 111) dX0_layLeast_110 rfl rfl ?_
                    refine g_iload F (pc' := 113) dX0_layLeast_111 rfl rfl ?_
                    refine g_iconst F (pc' := 114) dX0_layLeast_113 rfl ?_
                    refine g_isub F (pc' := 115) dX0_layLeast_114 rfl ?_
                    refine g_iload_n F (pc' := 116) dX0_layLeast_115 rfl rfl ?_
                    refine g_iload F (pc' := 118) dX0_layLeast_116 rfl rfl ?_
                    refine g_isub F (pc' := 119) dX0_layLeast_118 rfl ?_
                    refine g_callJ F K hXc X0 (pc' := 122) (st := [.long (lI (wo (M 9 3) al (SCm M v (M 40 v + x)))), .ref (a 34)]) (c0_gapCost l a (sc M 38 (upf ld (((M 34 10) * 8) + v) ((M 40 v) + x))) (v - 1) (x - sh) (by exact hF) (by show 0 ≤ v - 1 ∧ v - 1 + 1 < M 24 0; omega) (by show 0 ≤ x - sh ∧ x - sh ≤ M 34 11; omega)) (cwV 2 F.2.2.2.2 gX0_layLeast_X0_gapCost rfl rfl rfl (by decide +kernel) ⟨Nat.le_of_ble_eq_true rfl, Nat.le_of_ble_eq_true rfl⟩) rfl rfl rfl rfl (Nat.le_of_ble_eq_true rfl) dX0_layLeast_119 rfl (fun z_119 M_119 q_119 => ?_)
                    obtain ⟨rfl, mq_119⟩ := q_119
                    have mq_119 := mq_119.symm; subst mq_119
                    refine h_topJ (z' := GCm M (v - 1) (1 + (x - sh))) rfl ?_
                    have b_119 := GCm_R hF (s := v - 1) (x := x - sh) (by omega) (by omega)
                    refine g_callJ F K hXc X0 (pc' := 125) (st := []) (c0_without l a (sc M 38 (upf ld (((M 34 10) * 8) + v) ((M 40 v) + x))) (wo (M 9 3) al (SCm M v (M 40 v + x))) (GCm M (v - 1) (1 + (x - sh))) (by exact h3)) (cwV 2 F.2.2.2.2 gX0_layLeast_X0_without rfl rfl rfl (by decide +kernel) ⟨Nat.le_of_ble_eq_true rfl, Nat.le_of_ble_eq_true rfl⟩) rfl rfl rfl rfl (Nat.le_of_ble_eq_true rfl) dX0_layLeast_122 rfl (fun z_122 M_122 q_122 => ?_)
                    obtain ⟨rfl, mq_122⟩ := q_122
                    have mq_122 := mq_122.symm; subst mq_122
                    refine g_lstore_n F (pc' := 126) (lv' := [some (.ref (a 34)), some (.long (lI (wo (M 9 3) (wo (M 9 3) al (SCm M v (M 40 v + x))) (GCm M (v - 1) (1 + (x - sh)))))), none, some (.int (iI x)), some (.int (iI v)), some (.int (iI sh))]) dX0_layLeast_125 rfl (by decide) rfl ?_
                    refine g_iinc F (pc' := 129) (lv' := [some (.ref (a 34)), some (.long (lI (wo (M 9 3) (wo (M 9 3) al (SCm M v (M 40 v + x))) (GCm M (v - 1) (1 + (x - sh)))))), none, some (.int (iI x)), some (.int (iI (v + 1))), some (.int (iI sh))]) dX0_layLeast_126 rfl rfl (by decide) rfl ?_
                    refine g_goto F (tgt := 15) dX0_layLeast_129 (by decide) ?_
                    refine g_lvw [some (.ref (a 34)), some (.long (lI (wo (M 9 3) (wo (M 9 3) al (SCm M v (M 40 v + x))) (GCm M (v - 1) (1 + (x - sh)))))), none, some (.int (iI x)), some (.int (iI (v + 1))), none] (lvw_of _ _ [true, true, false, true, true, false] rfl) ?_
                    exact ih_15 (wo (M 9 3) (wo (M 9 3) al (SCm M v (M 40 v + x))) (GCm M (v - 1) (1 + (x - sh)))) x (v + 1) (upf ld (((M 34 10) * 8) + v) ((M 40 v) + x)) (by omega) (by omega) (by rw [hss]; first | rw [if_pos (by omega)] | rw [if_neg (by omega)]) (fun j q1 q2 => by by_cases hj : j = v; (rw [hj, upf_s, hss]); (rw [upf_n (by omega)]; exact hl1 j q1 (by omega))) (fun j q => by rw [upf_n (by omega)]; exact hl2 j q)
                · skip
                  have c_57 := cmpz_gt.mp c_57
                  refine g_iinc F (pc' := 63) (lv' := [some (.ref (a 34)), some (.long (lI al)), none, some (.int (iI (x + 1))), some (.int (iI v)), some (.int (iI sh))]) dX0_layLeast_60 rfl rfl (by decide) rfl ?_
                  refine g_goto F (tgt := 30) dX0_layLeast_63 (by decide) ?_
                  exact ih_30 (x + 1) (by omega) (by omega) (by rw [hlx]; exact lsI_f c_57 (by omega))
        exact lp_30 ((60 - sh : Int).toNat + 1) sh (by omega) (by omega) (rfl)
  exact lp_15 ((M 24 0 - 0 : Int).toNat + 1) (M 35 (M 34 10)) 0 0 (M 38) (by omega) (by omega) (by rw [SELm_0 M, hl]) (fun j q1 q2 => by omega) (fun j q => rfl)

theorem iX0_workOut_X0 : ∀ w ∈ wsX00, w ∈ wsX0_workOut := fun _ h => List.mem_cons_of_mem _ (List.mem_append_left _ (List.mem_append_left _ (List.mem_append_right _ h)))
theorem iX0_workOut_X1 : ∀ w ∈ wsX10, w ∈ wsX0_workOut := fun _ h => List.mem_cons_of_mem _ (List.mem_append_right _ h)
theorem iX0_workOut_X3 : ∀ w ∈ wsX30, w ∈ wsX0_workOut := fun _ h => List.mem_cons_of_mem _ (List.mem_append_left _ (List.mem_append_right _ h))
set_option maxHeartbeats 4000000 in
set_option maxRecDepth 100000 in
theorem c0_workOut (l : Launch) (a : Nat → Nat) (M : Mem) (sz : Int) (hS : stemOK M) (hz : 1 ≤ sz ∧ sz ≤ 60) : CtV XS l yX0_workOut wsX0_workOut ({ frames := 4, cells := 0, slots := 0, locals := 98 } : Room) LC a M [.ref (a 34), .int (iI sz)] (fun M' => woQ M sz M') := by
  refine CtV.of (y := yX0_workOut) (cc := cX0_workOut) (maxL := 2) (ret := none) (lv := [some (.ref (a 34)), some (.int (iI sz))]) (by decide) rfl (Nat.le_of_ble_eq_true rfl) (lvOK_of _ _ ⟨rfl, rfl⟩) ?_
  intro p e s m below meth c D T F K X0 hr hlk
  have hXc := XS_c
  obtain ⟨hn, h1, h2, h3, h4, hst, hgr⟩ := id hS
  refine g_aload_n F (pc' := 1) dX0_workOut_0 rfl rfl ?_
  refine g_iload_n F (pc' := 2) dX0_workOut_1 rfl rfl ?_
  refine h_putI F K (k := 34) (fld := 10) (ci := 0) (pc' := 5) (sc M 34 (upf (M 34) 10 sz)) (mem_up (by rfl) (by intro j hj; simp only [sc, if_neg hj])) tyX0 tyX0_ok nmX0 iX0_workOut_X0 rfl rfl rfl (by decide) rfl rfl (List.mem_of_getElem? (i := 1) rfl) dX0_workOut_2 rfl ?_
  refine g_aload_n F (pc' := 6) dX0_workOut_5 rfl rfl ?_
  refine g_getR F K (k := 34) (fld := 1) (ci := 0) (q := 36) (pc' := 9) iX0_workOut_X0 rfl rfl rfl (by decide) (List.mem_of_getElem? (i := 2) rfl) dX0_workOut_6 rfl ?_
  refine g_iload_n F (pc' := 10) dX0_workOut_9 rfl rfl ?_
  refine g_aload_n F (pc' := 11) dX0_workOut_10 rfl rfl ?_
  refine g_callI F K hXc X0 (pc' := 14) (st := [.int (iI sz), .ref (a 36)]) (c0_layLeftmost l a (sc M 34 (upf (M 34) 10 sz)) (by exact hS) (by exact hz)) (cwV 0 F.2.2.2.2 gX0_workOut_X0_layLeftmost rfl rfl rfl (by decide +kernel) ⟨Nat.le_of_ble_eq_true rfl, Nat.le_of_ble_eq_true rfl⟩) rfl rfl rfl rfl (Nat.le_of_ble_eq_true rfl) dX0_workOut_11 rfl (fun z_11 M_11 q_11 => ?_)
  obtain ⟨rm, dd, lf, rfl, hll0⟩ := q_11
  have hll : llQ M sz z_11 rm dd lf := hll0
  refine h_mem (sc (sc (sc M 34 (upf (upf (M 34) 10 sz) 11 rm)) 39 dd) 40 lf) (by funext k' i'; simp only [sc, upf]; (repeat' split) <;> first | rfl | (exfalso; omega) | simp_all) ?_
  have hzR : -6 ≤ z_11 ∧ z_11 < 9 := llQ_R hn.2 hll
  refine h_iast F K (k := 36) (pc' := 15) (sc (sc (sc (sc M 34 (upf (upf (M 34) 10 sz) 11 rm)) 36 (upf (M 36) sz z_11)) 39 dd) 40 lf) (mem_up (by rfl) (by intro j hj; simp only [sc, if_neg hj])) rfl (by decide) (by omega) dX0_workOut_14 rfl ?_
  refine g_aload_n F (pc' := 16) dX0_workOut_15 rfl rfl ?_
  refine g_getR F K (k := 34) (fld := 1) (ci := 0) (q := 36) (pc' := 19) iX0_workOut_X0 rfl rfl rfl (by decide) (List.mem_of_getElem? (i := 2) rfl) dX0_workOut_16 rfl ?_
  refine g_iload_n F (pc' := 20) dX0_workOut_19 rfl rfl ?_
  refine g_iald F K (k := 36) (v := z_11) (pc' := 21) rfl (by decide) (by omega) dX0_workOut_20 rfl (by first | rfl | exact upf_s _ _ _ | simp [upf, sc]) ?_
  refine g_bipush F (pc' := 23) dX0_workOut_21 rfl (by decide +kernel) ?_
  refine g_icmp_eq F (pc' := 26) (tgt := 27) dX0_workOut_23 rfl (by decide) (by omega) (by decide) (fun c_23 => ?_) (fun c_23 => ?_)
  · skip
    refine g_aload_n F (pc' := 28) dX0_workOut_27 rfl rfl ?_
    refine g_getR F K (k := 34) (fld := 0) (ci := 0) (q := 35) (pc' := 31) iX0_workOut_X0 rfl rfl rfl (by decide) (List.mem_of_getElem? (i := 3) rfl) dX0_workOut_28 rfl ?_
    refine g_iload_n F (pc' := 32) dX0_workOut_31 rfl rfl ?_
    refine g_lconst F (pc' := 33) (z := 0) dX0_workOut_32 rfl rfl ?_
    refine h_last F K (k := 35) (pc' := 34) (sc (sc (sc (sc (sc M 34 (upf (upf (M 34) 10 sz) 11 rm)) 35 (upf (M 35) sz 0)) 36 (upf (M 36) sz z_11)) 39 dd) 40 lf) (mem_up (by rfl) (by intro j hj; simp only [sc, if_neg hj])) rfl (by decide) (by omega) dX0_workOut_33 rfl ?_
    refine g_aload_n F (pc' := 35) dX0_workOut_34 rfl rfl ?_
    refine g_getR F K (k := 34) (fld := 5) (ci := 0) (q := 24) (pc' := 38) iX0_workOut_X0 rfl rfl rfl (by decide) (List.mem_of_getElem? (i := 4) rfl) dX0_workOut_35 rfl ?_
    refine g_getI F K (k := 24) (fld := 0) (ci := 3) (z := M 24 0) (pc' := 41) iX0_workOut_X3 rfl rfl rfl (by decide) (List.mem_of_getElem? (i := 5) rfl) dX0_workOut_38 rfl (by first | rfl | simp [upf, sc]) ?_
    refine g_if_le F (pc' := 44) (tgt := 62) dX0_workOut_41 rfl (by decide) (by omega) (fun c_41 => ?_) (fun c_41 => ?_)
    · skip
      exact g_vret F hr hlk dX0_workOut_62 (woQ_b (show keepF M _ from (fun k q => by simp only [sc]; (repeat' split) <;> first | rfl | (exfalso; omega))) (llQ_f hll (by omega)) (by omega) rfl rfl rfl rfl)
    · skip
      have hrm : llF M sz rm dd lf := (llQ_f hll (by omega))
      have hF := fit_of hS hz hrm (by omega)
      refine g_aload_n F (pc' := 45) dX0_workOut_44 rfl rfl ?_
      refine g_callV F K hXc X0 (pc' := 48) (st := []) (c0_weighRests l a (sc (sc (sc (sc (sc M 34 (upf (upf (M 34) 10 sz) 11 rm)) 35 (upf (M 35) sz 0)) 36 (upf (M 36) sz z_11)) 39 dd) 40 lf) (by exact hF)) (cwV 0 F.2.2.2.2 gX0_workOut_X0_weighRests rfl rfl rfl (by decide +kernel) ⟨Nat.le_of_ble_eq_true rfl, Nat.le_of_ble_eq_true rfl⟩) rfl rfl rfl rfl (Nat.le_of_ble_eq_true rfl) dX0_workOut_45 rfl (fun M_45 q_45 => ?_)
      obtain ⟨f41, f42, rfl, hR⟩ := q_45
      refine h_mem (sc (sc (sc (sc (sc (sc (sc M 34 (upf (upf (M 34) 10 sz) 11 rm)) 35 (upf (M 35) sz 0)) 36 (upf (M 36) sz z_11)) 39 dd) 40 lf) 41 f41) 42 f42) (by first | rfl | funext k' i'; simp only [sc, upf]; (repeat' split) <;> first | rfl | (exfalso; omega) | simp_all) ?_
      refine g_aload_n F (pc' := 49) dX0_workOut_48 rfl rfl ?_
      refine g_getR F K (k := 34) (fld := 0) (ci := 0) (q := 35) (pc' := 52) iX0_workOut_X0 rfl rfl rfl (by decide) (List.mem_of_getElem? (i := 3) rfl) dX0_workOut_49 rfl ?_
      refine g_iload_n F (pc' := 53) dX0_workOut_52 rfl rfl ?_
      refine g_aload_n F (pc' := 54) dX0_workOut_53 rfl rfl ?_
      refine g_callJ F K hXc X0 (pc' := 57) (st := [.int (iI sz), .ref (a 35)]) (c0_leastRest l a (sc (sc (sc (sc (sc (sc (sc M 34 (upf (upf (M 34) 10 sz) 11 rm)) 35 (upf (M 35) sz 0)) 36 (upf (M 36) sz z_11)) 39 dd) 40 lf) 41 f41) 42 f42) (by exact hF) (by show 0 < M 24 0; omega) (by exact hR)) (cwV 0 F.2.2.2.2 gX0_workOut_X0_leastRest rfl rfl rfl (by decide +kernel) ⟨Nat.le_of_ble_eq_true rfl, Nat.le_of_ble_eq_true rfl⟩) rfl rfl rfl rfl (Nat.le_of_ble_eq_true rfl) dX0_workOut_54 rfl (fun z_54 M_54 q_54 => ?_)
      obtain ⟨rfl, mq_54⟩ := q_54
      have mq_54 := mq_54.symm; subst mq_54
      refine h_topJ (z' := lsW M sz dd lf rm) rfl ?_
      refine h_last F K (k := 35) (pc' := 58) (sc (sc (sc (sc (sc (sc (sc M 34 (upf (upf (M 34) 10 sz) 11 rm)) 35 (upf (M 35) sz (lsW M sz dd lf rm))) 36 (upf (M 36) sz z_11)) 39 dd) 40 lf) 41 f41) 42 f42) (mem_up (by first | exact (upf_w _ _ _ _).symm | funext i; simp only [upf, sc]; (repeat' split) <;> first | rfl | omega | simp_all) (by intro j hj; simp only [sc, if_neg hj])) rfl (by decide) (by omega) dX0_workOut_57 rfl ?_
      refine g_aload_n F (pc' := 59) dX0_workOut_58 rfl rfl ?_
      refine g_callV F K hXc X0 (pc' := 62) (st := []) (c0_layLeast l a (sc (sc (sc (sc (sc (sc (sc M 34 (upf (upf (M 34) 10 sz) 11 rm)) 35 (upf (M 35) sz (lsW M sz dd lf rm))) 36 (upf (M 36) sz z_11)) 39 dd) 40 lf) 41 f41) 42 f42) (by exact hF) (by exact upf_s _ _ _) (by exact hR)) (cwV 0 F.2.2.2.2 gX0_workOut_X0_layLeast rfl rfl rfl (by decide +kernel) ⟨Nat.le_of_ble_eq_true rfl, Nat.le_of_ble_eq_true rfl⟩) rfl rfl rfl rfl (Nat.le_of_ble_eq_true rfl) dX0_workOut_59 rfl (fun M_59 q_59 => ?_)
      obtain ⟨ld, rfl, hl1, hl2⟩ := q_59
      refine h_mem (sc (sc (sc (sc (sc (sc (sc (sc M 34 (upf (upf (M 34) 10 sz) 11 rm)) 35 (upf (M 35) sz (lsW M sz dd lf rm))) 36 (upf (M 36) sz z_11)) 38 ld) 39 dd) 40 lf) 41 f41) 42 f42) (by first | rfl | funext k' i'; simp only [sc, upf]; (repeat' split) <;> first | rfl | (exfalso; omega) | simp_all) ?_
      exact g_vret F hr hlk dX0_workOut_62 (woQ_c (show keepF M _ from (fun k q => by simp only [sc]; (repeat' split) <;> first | rfl | (exfalso; omega))) hS hrm (by omega) rfl rfl rfl hl1 hl2)
  · skip
    exact g_vret F hr hlk dX0_workOut_26 (woQ_a (show keepF M _ from (fun k q => by simp only [sc]; (repeat' split) <;> first | rfl | (exfalso; omega))) (z := z_11) hll (by omega) rfl rfl rfl rfl)

