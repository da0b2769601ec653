/-! ===== what the law asks, of numbers alone: dots, fits, places ===== -/
theorem dz_step {st sz bo : Int} (h : 0 ≤ st ∧ st ≤ 300) : dz st sz bo ≤ dz st (sz + 1) bo ∧ dz st (sz + 1) bo ≤ dz st sz bo + 1 := by
  have e : st * (sz + 1) = st * sz + st := by rw [Int.mul_add, Int.mul_one]
  unfold dz
  rw [e]
  generalize st * sz = p
  omega
theorem dz_st {st st' sz bo : Int} (h : st ≤ st') (hz : 0 ≤ sz) : dz st sz bo ≤ dz st' sz bo := by
  have e := Int.mul_le_mul_of_nonneg_right h hz
  unfold dz
  generalize st * sz = p at *
  generalize st' * sz = q at *
  omega
theorem dz_sz {st sz sz' bo : Int} (h : 0 ≤ st) (hz : sz ≤ sz') : dz st sz bo ≤ dz st sz' bo := by
  have e := Int.mul_le_mul_of_nonneg_left hz h
  unfold dz
  generalize st * sz = p at *
  generalize st * sz' = q at *
  omega
theorem grows_go {f : Int → Int} {d s : Int} (hs : s ≤ 60) (h : d ≤ f s) (hb : ∀ t, 1 ≤ t → t < s → f t < d) : ∀ (k : Nat) (t : Int), 1 ≤ t → t + k = s → growsI f d t = s
  | 0, t, h1, h2 => by
    rw [show t = s by omega]
    exact growsI_t hs h
  | k + 1, t, h1, h2 => by
    rw [growsI_f (by omega) (hb t h1 (by omega))]
    exact grows_go hs h hb k (t + 1) (by omega) (by omega)
theorem grows_at {f : Int → Int} {d s : Int} (hs : 1 ≤ s ∧ s ≤ 60) (h : d ≤ f s) (hb : ∀ t, 1 ≤ t → t < s → f t < d) : growsI f d 1 = s :=
  grows_go hs.2 h hb (s - 1).toNat 1 (by omega) (by omega)
/-! fits -/
section FIT2
variable {L : Mem} {sz : Int}
theorem ok_rm (h : lOK L) (hR : rulL L) (hz : 1 ≤ sz ∧ sz ≤ 60) (hok : okL L sz) (hn : 0 < L 0 11) : 0 ≤ rmL L sz := (okL_iff h hR hz hn).mp hok
theorem dot_next (h : lOK L) (hR : rulL L) (hz : 1 ≤ sz ∧ sz ≤ 60) (hok : okL L sz) {s : Int} (h0 : 0 ≤ s) (h1 : s + 1 < L 0 11) : dotL L sz s + wL L sz s + 1 ≤ dotL L sz (s + 1) := by
  have hr := ok_rm h hR hz hok (by omega)
  have a := SELL_R hr (v := s + 1) (by omega) h1
  have e : lpL L sz (s + 1) = lpL L sz s + wL L sz s + 1 := lpp_s h0
  unfold dotL
  rw [e]
  omega
theorem dot_in (h : lOK L) (hR : rulL L) (hz : 1 ≤ sz ∧ sz ≤ 60) (hok : okL L sz) {s : Int} (h0 : 0 ≤ s) (h1 : s < L 0 11) : dotL L sz s + wL L sz s ≤ sz := by
  have hr := ok_rm h hR hz hok (by omega)
  have a := SELL_R hr h0 h1
  have b := lpL_up0 h hR hz h0 h1
  unfold dotL
  omega
end FIT2
/-! places rise -/
section PLACE
variable {n : Int} {lf rt ld w : Int → Int} {sz : Int}
theorem td_in {x a b D : Int} (ha : 0 ≤ x ∧ x ≤ D) (hD : 0 < D) (hab : a ≤ b) : 0 ≤ Int.tdiv (x * (b - a)) D ∧ Int.tdiv (x * (b - a)) D ≤ b - a := by
  have h0 : 0 ≤ x * (b - a) := Int.mul_nonneg ha.1 (by omega)
  have h1 : x * (b - a) ≤ D * (b - a) := Int.mul_le_mul_of_nonneg_right ha.2 (by omega)
  rw [Int.tdiv_eq_ediv_of_nonneg h0]
  exact ⟨Int.ediv_nonneg h0 (by omega), Int.ediv_le_of_le_mul hD (by rw [Int.mul_comm (b - a) D]; exact h1)⟩
theorem td_mono {x y a b D : Int} (hx : 0 ≤ x) (hxy : x ≤ y) (hD : 0 < D) (hab : a ≤ b) : Int.tdiv (x * (b - a)) D ≤ Int.tdiv (y * (b - a)) D := by
  have h0 : 0 ≤ x * (b - a) := Int.mul_nonneg hx (by omega)
  have h1 : x * (b - a) ≤ y * (b - a) := Int.mul_le_mul_of_nonneg_right hxy (by omega)
  rw [Int.tdiv_eq_ediv_of_nonneg h0, Int.tdiv_eq_ediv_of_nonneg (by omega)]
  exact Int.ediv_le_ediv hD h1
/-- stems apart, in order, each of a dot at the least, a dot between -/
def plOK (n : Int) (lf rt ld w : Int → Int) : Prop := (∀ s, 0 ≤ s → s < n → lf s < rt s ∧ 1 ≤ w s) ∧ ∀ s, 0 ≤ s → s + 1 < n → rt s < lf (s + 1) ∧ ld s + w s + 1 ≤ ld (s + 1)
theorem plR_lo (h : plOK n lf rt ld w) (hz : 0 ≤ sz) {x : Int} : ∀ (d : Nat) (s : Int), 0 ≤ s → s + d = n → 0 < d → lf s ≤ x → 1000 * ld s ≤ plR n x lf rt ld w sz (n - s).toNat s ∧ (rt s < x → 1000 * (ld s + w s) ≤ plR n x lf rt ld w sz (n - s).toNat s)
  | 0, s, h0, h1, h2, h3 => by omega
  | d + 1, s, h0, h1, h2, h3 => by
    have hs := h.1 s h0 (by omega)
    rcases Int.lt_or_le (rt s) x with c | c
    · have key : 1000 * (ld s + w s) ≤ plR n x lf rt ld w sz (n - s).toNat s := by
        by_cases g : s + 1 < n ∧ x < lf (s + 1)
        · have hs1 := h.2 s h0 g.1
          rw [plR_g ⟨h0, by omega⟩ c g]
          have := td_in (x := x - rt s) (a := 1000 * (ld s + w s)) (b := 1000 * ld (s + 1)) (D := lf (s + 1) - rt s) (by omega) (by omega) (by omega)
          omega
        · rw [plR_c ⟨h0, by omega⟩ c g]
          by_cases e : s + 1 < n
          · have hs1 := h.2 s h0 e
            have := (plR_lo h hz (x := x) d (s + 1) (by omega) (by omega) (by omega) (by omega)).1
            omega
          · have e2 : s + 1 = n := by omega
            rw [e2, plR_t, show n - 1 = s by omega]
            have := Int.mul_nonneg (show 0 ≤ x - rt s by omega) hz
            omega
      exact ⟨by omega, fun _ => key⟩
    · rw [plR_a ⟨h0, by omega⟩ c]
      have := td_in (x := x - lf s) (a := 1000 * ld s) (b := 1000 * (ld s + w s)) (D := rt s - lf s) (by omega) (by omega) (by omega)
      exact ⟨by omega, fun q => by omega⟩
theorem plR_mono (h : plOK n lf rt ld w) (hz : 0 ≤ sz) {x y : Int} (hxy : x ≤ y) : ∀ (d : Nat) (s : Int), 0 ≤ s → s + d = n → 0 < d → lf s ≤ x → plR n x lf rt ld w sz (n - s).toNat s ≤ plR n y lf rt ld w sz (n - s).toNat s
  | 0, s, h0, h1, h2, h3 => by omega
  | d + 1, s, h0, h1, h2, h3 => by
    have hs := h.1 s h0 (by omega)
    have hy := plR_lo h hz (x := y) (d + 1) s h0 h1 h2 (by omega)
    rcases Int.lt_or_le (rt s) x with c | c
    · by_cases g : s + 1 < n ∧ x < lf (s + 1)
      · have hs1 := h.2 s h0 g.1
        rw [plR_g ⟨h0, by omega⟩ c g]
        by_cases g2 : y < lf (s + 1)
        · rw [plR_g ⟨h0, by omega⟩ (by omega) ⟨g.1, g2⟩]
          have := td_mono (x := x - rt s) (y := y - rt s) (a := 1000 * (ld s + w s)) (b := 1000 * ld (s + 1)) (D := lf (s + 1) - rt s) (by omega) (by omega) (by omega) (by omega)
          omega
        · rw [plR_c (x := y) ⟨h0, by omega⟩ (by omega) (by omega)]
          have a1 := (plR_lo h hz (x := y) d (s + 1) (by omega) (by omega) (by omega) (by omega)).1
          have := td_in (x := x - rt s) (a := 1000 * (ld s + w s)) (b := 1000 * ld (s + 1)) (D := lf (s + 1) - rt s) (by omega) (by omega) (by omega)
          omega
      · rw [plR_c ⟨h0, by omega⟩ c g, plR_c (x := y) ⟨h0, by omega⟩ (by omega) (by omega)]
        by_cases e : s + 1 < n
        · exact plR_mono h hz hxy d (s + 1) (by omega) (by omega) (by omega) (by omega)
        · have e2 : s + 1 = n := by omega
          rw [e2, plR_t, plR_t]
          have := Int.mul_le_mul_of_nonneg_right (show x - rt (n - 1) ≤ y - rt (n - 1) by omega) hz
          omega
    · rw [plR_a ⟨h0, by omega⟩ c]
      rcases Int.lt_or_le (rt s) y with c2 | c2
      · have a1 := hy.2 c2
        have := td_in (x := x - lf s) (a := 1000 * ld s) (b := 1000 * (ld s + w s)) (D := rt s - lf s) (by omega) (by omega) (by omega)
        omega
      · rw [plR_a ⟨h0, by omega⟩ c2]
        have := td_mono (x := x - lf s) (y := y - lf s) (a := 1000 * ld s) (b := 1000 * (ld s + w s)) (D := rt s - lf s) (by omega) (by omega) (by omega) (by omega)
        omega
theorem plF_mono (h : plOK n lf rt ld w) (hn : 0 ≤ n) (hz : 0 ≤ sz) {x y : Int} (hxy : x ≤ y) : plF n x lf rt ld w sz ≤ plF n y lf rt ld w sz := by
  by_cases c : n = 0
  · rw [plF_a c, plF_a c]
    exact Int.mul_le_mul_of_nonneg_right hxy hz
  · rcases Int.lt_or_le (lf 0) x with a | a
    · rw [plF_c (by omega) a, plF_c (by omega) (by omega)]
      exact plR_mono h hz hxy n.toNat 0 (by omega) (by omega) (by omega) (by omega)
    · rw [plF_b c a]
      rcases Int.lt_or_le (lf 0) y with b | b
      · rw [plF_c (by omega) b]
        have := (plR_lo h hz (x := y) n.toNat 0 (by omega) (by omega) (by omega) (by omega)).1
        have := Int.mul_nonneg (show 0 ≤ lf 0 - x by omega) hz
        omega
      · rw [plF_b c b]
        have := Int.mul_le_mul_of_nonneg_right (show lf 0 - y ≤ lf 0 - x by omega) hz
        omega
/-- at a stem's ends -/
theorem plR_go {x t : Int} (hs : ∀ s, 0 ≤ s → s < t → rt s < x ∧ lf (s + 1) ≤ x) : ∀ (d : Nat) (s : Int), 0 ≤ s → s + d = t → t < n → plR n x lf rt ld w sz (n - s).toNat s = plR n x lf rt ld w sz (n - t).toNat t
  | 0, s, h0, h1, h2 => by rw [show s = t by omega]
  | d + 1, s, h0, h1, h2 => by
    have a := hs s h0 (by omega)
    rw [plR_c ⟨h0, by omega⟩ a.1 (by omega)]
    exact plR_go hs d (s + 1) (by omega) (by omega) h2
theorem pl_ord (h : plOK n lf rt ld w) : ∀ (d : Nat) (i : Int), 0 ≤ i → i + d < n → rt i < rt (i + d) + 1 ∧ lf i < lf (i + d) + 1
  | 0, i, h0, h1 => by
    rw [show i + ((0 : Nat) : Int) = i by omega]
    omega
  | d + 1, i, h0, h1 => by
    have a := pl_ord h d i h0 (by omega)
    have b := h.2 (i + d) (by omega) (by omega)
    have c := h.1 (i + d) (by omega) (by omega)
    have e := h.1 (i + d + 1) (by omega) (by omega)
    rw [show i + ((d + 1 : Nat) : Int) = i + d + 1 by omega]
    omega
theorem pl_ord2 (h : plOK n lf rt ld w) {i j : Int} (h0 : 0 ≤ i) (h1 : i ≤ j) (h2 : j < n) : rt i ≤ rt j ∧ lf i ≤ lf j := by
  have a := pl_ord h (j - i).toNat i h0 (by omega)
  rw [show i + (((j - i).toNat : Nat) : Int) = j by omega] at a
  omega
theorem pl_left (h : plOK n lf rt ld w) {i : Int} (h0 : 0 ≤ i) (h1 : i < n) : plF n (lf i) lf rt ld w sz = 1000 * ld i := by
  by_cases c : i = 0
  · subst c
    rw [plF_b (by omega) (Int.le_refl _), Int.sub_self, Int.zero_mul, Int.sub_zero]
  · have b := h.2 (i - 1) (by omega) (by omega)
    have e := h.1 i h0 h1
    have e0 := h.1 (i - 1) (by omega) (by omega)
    rw [show i - 1 + 1 = i by omega] at b
    have o := pl_ord2 h (i := 0) (j := i - 1) (by omega) (by omega) (by omega)
    rw [plF_c (by omega) (by omega), plR_go (t := i - 1) (fun s a1 a2 => ?_) (i - 1).toNat 0 (by omega) (by omega) (by omega), plR_b (by omega) (by omega) b.1 (by rw [show i - 1 + 1 = i by omega]; exact Int.le_refl _) (by rw [show i - 1 + 1 = i by omega]; exact b.1) (by rw [show i - 1 + 1 = i by omega]; exact e.1), show i - 1 + 1 = i by omega, Int.mul_tdiv_cancel_left _ (by omega)]
    · omega
    · have q := pl_ord2 h (i := s) (j := i - 1) a1 (by omega) (by omega)
      have q2 := pl_ord2 h (i := s + 1) (j := i) (by omega) (by omega) (by omega)
      omega
theorem pl_right (h : plOK n lf rt ld w) {i : Int} (h0 : 0 ≤ i) (h1 : i < n) : plF n (rt i) lf rt ld w sz = 1000 * (ld i + w i) := by
  have e := h.1 i h0 h1
  have o := pl_ord2 h (i := 0) (j := i) (by omega) h0 h1
  rw [plF_c (by omega) (by omega), plR_go (t := i) (fun s a1 a2 => ?_) i.toNat 0 (by omega) (by omega) (by omega), plR_a ⟨h0, h1⟩ (Int.le_refl _), Int.mul_tdiv_cancel_left _ (by omega)]
  · omega
  · have q := pl_ord2 h (i := s + 1) (j := i) (by omega) (by omega) (by omega)
    have b := h.2 s a1 (by omega)
    omega
end PLACE
theorem L_plOK {L : Mem} {sz : Int} (h : lOK L) (hR : rulL L) (hz : 1 ≤ sz ∧ sz ≤ 60) (hok : okL L sz) : plOK (L 0 11) (L 5) (L 6) (dotL L sz) (wL L sz) :=
  ⟨fun s a b => ⟨(h.2.2.1 s a b).2.2.1, (wL_R h hR.2.2.2 hz a b).1⟩, fun s a b => ⟨h.2.2.2.1 s (s + 1) a (by omega) b, dot_next h hR hz hok a b⟩⟩
/-! ===== the least distortion never falls with the weight ===== -/
theorem minN_mono {f g : Int → Int} {lo : Int} (h : ∀ x, f x ≤ g x) : ∀ k : Nat, minN f lo k ≤ minN g lo k
  | 0 => h lo
  | k + 1 => by
    show min (minN f lo k) (f (lo + (k + 1))) ≤ min (minN g lo k) (g (lo + (k + 1)))
    have a := minN_mono h (lo := lo) k
    have b := h (lo + (k + 1))
    omega
theorem mI_mono {f g : Int → Int} {lo hi : Int} (h : ∀ x, f x ≤ g x) : mI f lo hi ≤ mI g lo hi := minN_mono h _
theorem jn_mono {md a b c d : Int} (h : a ≤ c) (h2 : b ≤ d) : jn md a b ≤ jn md c d := by
  unfold jn
  split <;> omega
theorem VS_mono {md : Int} {s1 s2 gc : Int → Int → Int} {n : Int} {lp : Int → Int} {room : Int} (h : ∀ i t, s1 i t ≤ s2 i t) : ∀ (d : Nat) (sh : Int), VS md s1 gc n lp room d sh ≤ VS md s2 gc n lp room d sh
  | 0, sh => h _ _
  | d + 1, sh => by
    unfold VS
    exact jn_mono (h _ _) (mI_mono (fun x => jn_mono (Int.le_refl _) (VS_mono h d x)))
theorem whl_mono {md : Int} {s1 s2 gc : Int → Int → Int} {n : Int} {lp : Int → Int} {room : Int} (h : ∀ i t, s1 i t ≤ s2 i t) : whl md s1 gc n lp room ≤ whl md s2 gc n lp room := mI_mono (fun x => VS_mono h _ x)
theorem cntz_nn {md t : Int} (h : 0 ≤ t) : 0 ≤ cntz md t := by
  unfold cntz
  split
  · exact Int.ediv_nonneg (Int.mul_nonneg h h) (by omega)
  · exact h
theorem absz_nn (x : Int) : 0 ≤ absz x := by
  unfold absz
  split <;> omega
theorem scost_mono {md r r' : Int} {lf rt w : Int → Int} {sz i t : Int} (h : r ≤ r') : scost md r lf rt w sz i t ≤ scost md r' lf rt w sz i t := by
  unfold scost
  exact Int.mul_le_mul_of_nonneg_left h (cntz_nn (absz_nn _))
/-- the same letter under another weight of stems -/
def wtL (L : Mem) (r : Int) : Mem := fun k => if k = 2 then upf (L 2) 1 r else L k
theorem wtL_lOK {L : Mem} {r : Int} (h : lOK L) : lOK (wtL L r) := h
theorem wtL_ok {L : Mem} {r sz : Int} : okL (wtL L r) sz ↔ okL L sz := Iff.rfl
theorem wtL_least {L : Mem} {r sz : Int} (h : L 2 1 ≤ r) : leastL L sz ≤ leastL (wtL L r) sz := by
  have e : leastL (wtL L r) sz = if L 0 11 ≤ 0 then 0 else whl (L 2 3) (scost (L 2 3) r (L 5) (L 6) (wL L sz) sz) (gcL L sz) (L 0 11) (lpL L sz) (rmL L sz) := rfl
  rw [e]
  unfold leastL whlL
  by_cases c : L 0 11 ≤ 0
  · rw [if_pos c, if_pos c]
    exact Int.le_refl _
  · rw [if_neg c, if_neg c]
    exact whl_mono (fun i t => scost_mono h)
/-! ===== sizes from small to great ===== -/
theorem bestN_or {ok : Int → Prop} {ls : Int → Int} : ∀ k : Nat, (bestN ok ls k).1 = -6 ∨ (1 ≤ (bestN ok ls k).1 ∧ (bestN ok ls k).1 ≤ k)
  | 0 => Or.inl rfl
  | k + 1 => by
    have ih := bestN_or (ok := ok) (ls := ls) k
    unfold bestN
    by_cases q : ok (k + 1)
    · rw [pif_t q]
      split
      · exact Or.inr ⟨by show (1 : Int) ≤ (k : Int) + 1; omega, by show (k : Int) + 1 ≤ ((k + 1 : Nat) : Int); omega⟩
      · omega
    · rw [pif_f q]; omega
theorem bestN_p {ok : Int → Prop} {ls : Int → Int} : ∀ k : Nat, (∃ j : Int, 1 ≤ j ∧ j ≤ k ∧ ok j) → 1 ≤ (bestN ok ls k).1
  | 0, ⟨j, a, b, _⟩ => by omega
  | k + 1, ⟨j, a, b, c⟩ => by
    have ih := bestN_or (ok := ok) (ls := ls) k
    unfold bestN
    by_cases q : ok (k + 1)
    · rw [pif_t q]
      split
      · show (1 : Int) ≤ (k : Int) + 1; omega
      · rename_i z
        omega
    · rw [pif_f q]
      refine bestN_p k ⟨j, a, ?_, c⟩
      rcases Int.lt_or_le (k : Int) j with z | z
      · exact absurd (show ok ((k : Int) + 1) by rw [show (k : Int) + 1 = j by omega]; exact c) q
      · exact z
/-! ===== the same edges and tolerance: the same stems and classes ===== -/
theorem ord_uniq {n : Int} {wd od od2 : Int → Int} (h : isOrd n wd od) (h2 : isOrd n wd od2) : ∀ (k : Nat) (i : Int), 0 ≤ i → i < k → i < n → od i = od2 i
  | 0, i, a, b, c => by omega
  | k + 1, i, a, b, c => by
    by_cases e : i < k
    · exact ord_uniq h h2 k i a e c
    · have e : i = k := by omega
      subst e
      have p := h.1 k a c
      have q := h2.1 k a c
      obtain ⟨t, t0, t1, t2⟩ := h2.2.2 (od k) p.1 p.2
      obtain ⟨u, u0, u1, u2⟩ := h.2.2 (od2 k) q.1 q.2
      by_cases tk : t = k
      · rw [← t2, tk]
      · by_cases uk : u = k
        · rw [← u2, uk]
        · have ht : k < t := by
            rcases Int.lt_or_le t k with z | z
            · have := ord_uniq h h2 k t t0 z t1
              exact absurd (this.trans t2) (ord_ne h t0 z c)
            · omega
          have hu : k < u := by
            rcases Int.lt_or_le u k with z | z
            · have := ord_uniq h h2 k u u0 z u1
              exact absurd (this.symm.trans u2) (ord_ne h2 u0 z c)
            · omega
          have x1 := h2.2.1 k t a ht t1
          have x2 := h.2.1 k u a hu u1
          rw [t2] at x1
          rw [u2] at x2
          omega
theorem giter_o {tol : Int} {wd od od2 : Int → Int} {g0 : GS} : ∀ k : Nat, (∀ i : Int, 0 ≤ i → i < k → od i = od2 i) → giter tol wd od g0 k = giter tol wd od2 g0 k
  | 0, _ => rfl
  | k + 1, h => by
    show gstep tol wd (giter tol wd od g0 k) (od k) = gstep tol wd (giter tol wd od2 g0 k) (od2 k)
    rw [giter_o k (fun i a b => h i a (by omega)), h k (by omega) (by omega)]
theorem CI_eq {C N : Mem} (hC : CI C) (hN : CI N) (h4 : N 4 4 = C 4 4) (h5 : N 5 = C 5) (h6 : N 6 = C 6) (h7 : N 7 = C 7) (h8 : N 8 = C 8) (h9 : N 9 0 = C 9 0) :
    (N 24 0 = C 24 0 ∧ N 24 6 = C 24 6) ∧ (∀ j, 0 ≤ j → j < C 24 0 → N 25 j = C 25 j ∧ N 26 j = C 26 j ∧ N 27 j = C 27 j ∧ N 28 j = C 28 j ∧ N 29 j = C 29 j) ∧ ∀ c, 0 ≤ c → c < C 24 6 → N 30 c = C 30 c ∧ N 31 c = C 31 c ∧ N 32 c = C 32 c := by
  have hm := (CI_m hC).1
  obtain ⟨-, -, od, ho, ha, hg⟩ := hC
  obtain ⟨-, -, od2, ho2, ha2, hg2⟩ := hN
  have hI : sInv (canC C) (C 6) (C 4 4) (sC C) := siterC_inv (s0 := sC0 C) (canC_x C) hm rfl 8
  have hs : agree (sC C) (sC N) := sC_agree h4 h5 h6 h7 h8 hm
  have hl := lay_same (tol := C 9 0) (g0 := gC0 C) (q0 := gC0 N) hI.1 hs (stC_w hI) ho rfl rfl
  have hu := ord_uniq hl.1 ho2 (sC N).1.toNat
  have hu2 : ∀ i, 0 ≤ i → i < (sC N).1 → od i = od2 i := fun i a b => hu i a (by omega) b
  have en : (sC C).1 = (sC N).1 := hs.1
  have e1 : (sC C).1 = C 24 0 := ha.1
  have e2 : (sC N).1 = N 24 0 := ha2.1
  have eg : giterI (N 9 0) (wS (sC N)) od2 (gC0 N) (sC N).1 = giterI (C 9 0) (wS (sC N)) od (gC0 N) (sC N).1 := by
    rw [h9]
    exact (giter_o _ (fun i a b => hu2 i a (by omega))).symm
  rw [eg] at hg2
  have k1 := hl.2
  obtain ⟨b1, b2, b3⟩ := hg
  obtain ⟨c1, c2, c3⟩ := hg2
  obtain ⟨d1, d2, d3⟩ := k1
  generalize giterI (C 9 0) (wS (sC C)) od (gC0 C) (sC C).1 = g at *
  generalize giterI (C 9 0) (wS (sC N)) od (gC0 N) (sC N).1 = q at *
  have b1 : g.1 = C 24 6 := b1
  have c1 : q.1 = N 24 6 := c1
  refine ⟨⟨by omega, by omega⟩, fun j x y => ?_, fun c x y => ?_⟩
  · have y1 : j < (sC C).1 := by omega
    have y2 : j < (sC N).1 := by omega
    have p := hs.2 j x y1
    have p1 := ha.2 j x y1
    have p2 := ha2.2 j x y2
    have p11 : (sC C).2.1 j = C 25 j := p1.1
    have p12 : (sC C).2.2.1 j = C 26 j := p1.2.1
    have p13 : (sC C).2.2.2.1 j = C 27 j := p1.2.2.1
    have p14 : (sC C).2.2.2.2 j = C 28 j := p1.2.2.2
    have p21 : (sC N).2.1 j = N 25 j := p2.1
    have p22 : (sC N).2.2.1 j = N 26 j := p2.2.1
    have p23 : (sC N).2.2.2.1 j = N 27 j := p2.2.2.1
    have p24 : (sC N).2.2.2.2 j = N 28 j := p2.2.2.2
    refine ⟨by rw [← p21, ← p11, p.1], by rw [← p22, ← p12, p.2.1], by rw [← p23, ← p13, p.2.2.1], by rw [← p24, ← p14, p.2.2.2], ?_⟩
    obtain ⟨i, i0, i1, rfl⟩ := ho.2.2 j x y1
    have r1 : g.2.1 (od i) = C 29 (od i) := b3 i i0 i1
    have r2 : g.2.1 (od i) = q.2.1 (od i) := d3 i i0 i1
    have r3 : q.2.1 (od2 i) = N 29 (od2 i) := c3 i i0 (by omega)
    rw [← hu2 i i0 (by omega)] at r3
    rw [← r1, r2, r3]
  · have y1 : c < g.1 := by omega
    have r1 := b2 c x y1
    have r2 := d2 c x y1
    have r3 := c2 c x (by omega)
    have r11 : g.2.2.1 c = C 30 c := r1.1
    have r12 : g.2.2.2.1 c = C 31 c := r1.2.1
    have r13 : g.2.2.2.2 c = C 32 c := r1.2.2
    have r31 : q.2.2.1 c = N 30 c := r3.1
    have r32 : q.2.2.2.1 c = N 31 c := r3.2.1
    have r33 : q.2.2.2.2 c = N 32 c := r3.2.2
    exact ⟨by rw [← r11, ← r31, r2.1], by rw [← r12, ← r32, r2.2.1], by rw [← r13, ← r33, r2.2.2]⟩
theorem CI_same {C N : Mem} (hC : CI C) (hN : CI N) (h1 : N 1 1 = C 1 1) (h4 : N 4 4 = C 4 4) (h5 : N 5 = C 5) (h6 : N 6 = C 6) (h7 : N 7 = C 7) (h8 : N 8 = C 8) (h9 : ∀ w, 0 ≤ w → w ≤ 4 → N 9 w = C 9 w) : same (viewC C) (viewC N) := by
  obtain ⟨⟨a1, a2⟩, b, c⟩ := CI_eq hC hN h4 h5 h6 h7 h8 (h9 0 (by omega) (by omega))
  exact ⟨⟨a1, a2, h4, h1⟩, b, c, h9⟩
theorem CI_wt {C N : Mem} {r : Int} (hC : CI C) (hN : CI N) (h1 : N 1 1 = C 1 1) (h4 : N 4 4 = C 4 4) (h5 : N 5 = C 5) (h6 : N 6 = C 6) (h7 : N 7 = C 7) (h8 : N 8 = C 8) (h9 : N 9 = upf (C 9) 1 r) : same (wtL (viewC C) r) (viewC N) := by
  obtain ⟨⟨a1, a2⟩, b, c⟩ := CI_eq hC hN h4 h5 h6 h7 h8 (by rw [h9]; exact upf_n (by decide))
  exact ⟨⟨a1, a2, h4, h1⟩, b, c, fun w _ _ => by show N 9 w = upf (C 9) 1 r w; rw [h9]⟩
section SAME2
variable {L V : Mem}
theorem same_okf (h : lOK L) (hs : same L V) : okL V = okL L := funext fun _ => propext (same_ok h hs)
theorem same_lef (h : lOK L) (hs : same L V) : leastL V = leastL L := funext fun _ => same_least h hs
theorem same_dist (h : lOK L) (hs : same L V) (sz : Int) : distZ V sz = distZ L sz := by
  unfold distZ
  rw [same_okf h hs, same_least h hs]
end SAME2
