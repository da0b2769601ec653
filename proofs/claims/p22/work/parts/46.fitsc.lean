/-! ===== the class: fits ===== -/
theorem abs_R {x z : Int} (h : z = if 0 ≤ x then x else -x) : z = absz x ∧ ((0 ≤ x ∧ z = x) ∨ (x < 0 ∧ z = -x)) := by
  refine ⟨h, ?_⟩
  by_cases c : 0 ≤ x
  · rw [if_pos c] at h; exact Or.inl ⟨c, h⟩
  · rw [if_neg c] at h; exact Or.inr ⟨by omega, h⟩
theorem absz_R (x : Int) : (0 ≤ x ∧ absz x = x) ∨ (x < 0 ∧ absz x = -x) := (abs_R (x := x) rfl).2
theorem jn_R (md : Int) {x y A B : Int} (hx : 0 ≤ x ∧ x ≤ A) (hy : 0 ≤ y ∧ y ≤ B) : 0 ≤ jn md x y ∧ jn md x y ≤ A + B := by
  unfold jn
  split <;> omega
theorem cntz_R (md : Int) {t : Int} (ht : 0 ≤ t ∧ t ≤ 300000) : 0 ≤ cntz md t ∧ cntz md t ≤ 90000000 := by
  have h := mul_R ht ht
  unfold cntz
  split <;> omega
theorem scost_R {md r : Int} {lf rt w : Int → Int} {sz i t : Int} (hr : 0 ≤ r ∧ r ≤ 9) (hl : 0 ≤ lf i ∧ lf i ≤ 999) (h2 : 0 ≤ rt i ∧ rt i ≤ 999) (hw : 0 ≤ w i ∧ w i ≤ 60) (hz : 0 ≤ sz ∧ sz ≤ 60) (ht : 0 ≤ t ∧ t ≤ 60) : 0 ≤ scost md r lf rt w sz i t ∧ scost md r lf rt w sz i t ≤ 1000000000 := by
  have hm := mul_R (A := 1998) (B := 60) (x := lf i + rt i) (y := sz) (by omega) hz
  have ha := absz_R (1000 * (2 * t + w i) - (lf i + rt i) * sz)
  have hc := cntz_R md (t := absz (1000 * (2 * t + w i) - (lf i + rt i) * sz)) (by omega)
  have := mul_R hc hr
  unfold scost
  omega
theorem gcost_R {md r : Int} {lf rt : Int → Int} {sz i g : Int} (hr : 0 ≤ r ∧ r ≤ 9) (hl : 0 ≤ lf (i + 1) ∧ lf (i + 1) ≤ 999) (h2 : 0 ≤ rt i ∧ rt i ≤ 999) (hz : 0 ≤ sz ∧ sz ≤ 60) (hg : 0 ≤ g ∧ g ≤ 61) : 0 ≤ gcost md r lf rt sz i g ∧ gcost md r lf rt sz i g ≤ 1000000000 := by
  have hm := mulS_R (x := lf (i + 1) - rt i) (y := sz) (by omega) hz
  have ha := absz_R (1000 * g - (lf (i + 1) - rt i) * sz)
  have hc := cntz_R md (t := 2 * absz (1000 * g - (lf (i + 1) - rt i) * sz)) (by omega)
  have := mul_R hc hr
  unfold gcost
  omega
theorem mI_R {f : Int → Int} {lo hi A : Int} (h : lo ≤ hi) (hf : ∀ x, lo ≤ x → x ≤ hi → 0 ≤ f x ∧ f x ≤ A) : 0 ≤ mI f lo hi ∧ mI f lo hi ≤ A := by
  obtain ⟨x, h0, h1, h2⟩ := mI_ex (f := f) h
  rw [h2]; exact hf x h0 h1
theorem VS_R {md : Int} {sc gc : Int → Int → Int} {n : Int} {lp : Int → Int} {room : Int} (hs : ∀ i sh, 0 ≤ i → i < n → -lp i ≤ sh → sh ≤ room → 0 ≤ sc i (lp i + sh) ∧ sc i (lp i + sh) ≤ 1000000000) (hg : ∀ i sh nx, 0 ≤ i → i < n - 1 → -lp i ≤ sh → sh ≤ nx → nx ≤ room → 0 ≤ gc i (1 + (nx - sh)) ∧ gc i (1 + (nx - sh)) ≤ 1000000000) (hl : ∀ i, 0 ≤ i → i < n - 1 → lp i ≤ lp (i + 1)) :
    ∀ (d : Nat) (sh : Int), 0 ≤ n - 1 - d → -lp (n - 1 - d) ≤ sh → sh ≤ room → 0 ≤ VS md sc gc n lp room d sh ∧ VS md sc gc n lp room d sh ≤ 2000000000 * d + 1000000000
  | 0, sh, h0, h1, h2 => by
    have := hs (n - 1) sh (by omega) (by omega) (by rw [show n - 1 = n - 1 - ((0 : Nat) : Int) by omega]; exact h1) h2
    show 0 ≤ sc (n - 1) (lp (n - 1) + sh) ∧ _ ≤ _
    exact ⟨this.1, by show sc (n - 1) (lp (n - 1) + sh) ≤ _; omega⟩
  | d + 1, sh, h0, h1, h2 => by
    have e : n - 1 - ((d + 1 : Nat) : Int) = n - 2 - d := by omega
    rw [e] at h0 h1
    have a := hs (n - 2 - d) sh h0 (by omega) h1 h2
    have hl1 := hl (n - 2 - d) h0 (by omega)
    rw [show n - 2 - (d : Int) + 1 = n - 1 - d by omega] at hl1
    have b := mI_R (f := fun nx => jn md (gc (n - 2 - d) (1 + (nx - sh))) (VS md sc gc n lp room d nx)) (A := 1000000000 + (2000000000 * d + 1000000000)) h2 (fun x x1 x2 => jn_R md (hg (n - 2 - d) sh x h0 (by omega) h1 x1 x2) (VS_R hs hg hl d x (by omega) (by omega) x2))
    have c := jn_R md a b
    show 0 ≤ jn md _ _ ∧ jn md _ _ ≤ _
    refine ⟨c.1, ?_⟩
    have c2 := c.2
    refine Int.le_trans c2 ?_
    omega
theorem Vi_R {md : Int} {sc gc : Int → Int → Int} {n : Int} {lp : Int → Int} {room : Int} (hn : n ≤ 8) (hs : ∀ i sh, 0 ≤ i → i < n → -lp i ≤ sh → sh ≤ room → 0 ≤ sc i (lp i + sh) ∧ sc i (lp i + sh) ≤ 1000000000) (hg : ∀ i sh nx, 0 ≤ i → i < n - 1 → -lp i ≤ sh → sh ≤ nx → nx ≤ room → 0 ≤ gc i (1 + (nx - sh)) ∧ gc i (1 + (nx - sh)) ≤ 1000000000) (hl : ∀ i, 0 ≤ i → i < n - 1 → lp i ≤ lp (i + 1)) {i sh : Int} (h0 : 0 ≤ i) (h1 : i < n) (h2 : -lp i ≤ sh) (h3 : sh ≤ room) : 0 ≤ Vi md sc gc n lp room i sh ∧ Vi md sc gc n lp room i sh ≤ 20000000000 := by
  have e : n - 1 - ((n - 1 - i).toNat : Int) = i := by omega
  have := VS_R (md := md) hs hg hl (n - 1 - i).toNat sh (by omega) (by rw [e]; exact h2) h3
  unfold Vi
  omega
def SCm (M : Mem) : Int → Int → Int := scost (M 9 3) (M 9 1) (M 25) (M 26) (M 39) (M 34 10)
def GCm (M : Mem) : Int → Int → Int := gcost (M 9 3) (M 9 2) (M 25) (M 26) (M 34 10)
def VC (M : Mem) (i sh : Int) : Int := Vi (M 9 3) (SCm M) (GCm M) (M 24 0) (M 40) (M 34 11) i sh
def FSm (M : Mem) (i b nx : Int) : Int := fS (M 9 3) (SCm M) (GCm M) (M 24 0) (M 40) (M 34 11) i b nx
def fitOK (M : Mem) : Prop := (0 ≤ M 24 0 ∧ M 24 0 ≤ 8) ∧ (0 ≤ M 34 11 ∧ M 34 11 ≤ 59) ∧ (1 ≤ M 34 10 ∧ M 34 10 ≤ 60) ∧ (0 ≤ M 9 1 ∧ M 9 1 ≤ 9) ∧ (0 ≤ M 9 2 ∧ M 9 2 ≤ 9) ∧ (0 ≤ M 9 3 ∧ M 9 3 ≤ 3) ∧ (∀ j, 0 ≤ j → j < M 24 0 → (0 ≤ M 25 j ∧ M 25 j ≤ 999) ∧ (0 ≤ M 26 j ∧ M 26 j ≤ 999) ∧ (0 ≤ M 39 j ∧ M 39 j ≤ 60) ∧ (0 ≤ M 40 j ∧ M 40 j + M 34 11 ≤ 60)) ∧ (∀ j, 0 ≤ j → j < M 24 0 - 1 → M 40 j ≤ M 40 (j + 1))
theorem SCm_R0 {M : Mem} (hF : fitOK M) {s x : Int} (h0 : 0 ≤ s) (h1 : s < M 24 0) (h2 : -M 40 s ≤ x) (h3 : x ≤ M 34 11) : 0 ≤ SCm M s (M 40 s + x) ∧ SCm M s (M 40 s + x) ≤ 1000000000 := by
  obtain ⟨hn, hro, hsz, hr1, hr2, hr3, hst, hmo⟩ := hF
  have := hst s h0 h1
  exact scost_R hr1 this.1 this.2.1 this.2.2.1 (by omega) (by omega)
theorem SCm_R {M : Mem} (hF : fitOK M) {s x : Int} (h0 : 0 ≤ s ∧ s < M 24 0) (h1 : 0 ≤ x ∧ x ≤ M 34 11) : 0 ≤ SCm M s (M 40 s + x) ∧ SCm M s (M 40 s + x) ≤ 1000000000 := by
  have := (hF.2.2.2.2.2.2.1 s h0.1 h0.2).2.2.2
  exact SCm_R0 hF h0.1 h0.2 (by omega) h1.2
theorem GCm_R0 {M : Mem} (hF : fitOK M) {s g : Int} (h0 : 0 ≤ s) (h1 : s < M 24 0 - 1) (h2 : 0 ≤ g) (h3 : g ≤ 61) : 0 ≤ GCm M s g ∧ GCm M s g ≤ 1000000000 := by
  obtain ⟨hn, hro, hsz, hr1, hr2, hr3, hst, hmo⟩ := hF
  exact gcost_R hr2 (hst (s + 1) (by omega) (by omega)).1 (hst s h0 (by omega)).2.1 (by omega) (by omega)
theorem GCm_R {M : Mem} (hF : fitOK M) {s x : Int} (h0 : 0 ≤ s ∧ s + 1 < M 24 0) (h1 : 0 ≤ x ∧ x ≤ M 34 11) : 0 ≤ GCm M s (1 + x) ∧ GCm M s (1 + x) ≤ 1000000000 := by
  have := hF.2.1
  exact GCm_R0 hF h0.1 (by omega) (by omega) (by omega)
theorem VC_R {M : Mem} (hF : fitOK M) : ∀ i x, 0 ≤ i → i < M 24 0 → 0 ≤ x → x ≤ M 34 11 → 0 ≤ VC M i x ∧ VC M i x ≤ 20000000000 := by
  intro i x h0 h1 h2 h3
  have h4 := (hF.2.2.2.2.2.2.1 i h0 h1).2.2.2
  refine Vi_R hF.1.2 (fun i sh a b c d => SCm_R0 hF a b c d) (fun i sh nx a b c d e => ?_) hF.2.2.2.2.2.2.2 h0 h1 (by omega) h3
  have h5 := (hF.2.2.2.2.2.2.1 i a (by omega)).2.2.2
  exact GCm_R0 hF a b (by omega) (by omega)
theorem FSm_R {M : Mem} (hF : fitOK M) {s b x : Int} (h0 : 0 ≤ s ∧ s < M 24 0) (h1 : 0 ≤ b) (h2 : b ≤ x ∧ x ≤ M 34 11) : 0 ≤ FSm M s b x ∧ FSm M s b x ≤ 30000000000 := by
  have a := VC_R hF s x h0.1 h0.2 (by omega) h2.2
  unfold FSm fS
  by_cases c : s = 0
  · rw [if_pos c]
    subst c
    have a2 : 0 ≤ VC M 0 x ∧ VC M 0 x ≤ 20000000000 := a
    unfold VC at a2
    omega
  · rw [if_neg c]
    have b2 := GCm_R hF (s := s - 1) (x := x - b) (by omega) (by omega)
    have := jn_R (M 9 3) b2 a
    unfold VC at this
    exact ⟨this.1, by have := this.2; omega⟩
theorem FN_R {M : Mem} (hF : fitOK M) {s x y : Int} (h0 : 0 ≤ s ∧ s + 1 < M 24 0) (h1 : 0 ≤ x) (h2 : x ≤ y ∧ y ≤ M 34 11) : 0 ≤ jn (M 9 3) (GCm M s (1 + (y - x))) (VC M (s + 1) y) ∧ jn (M 9 3) (GCm M s (1 + (y - x))) (VC M (s + 1) y) ≤ 40000000000 := by
  have a := VC_R hF (s + 1) y (by omega) (by omega) (by omega) h2.2
  have b2 := GCm_R hF (s := s) (x := y - x) h0 (by omega)
  have := jn_R (M 9 3) b2 a
  exact ⟨this.1, by have := this.2; omega⟩
theorem sc2_id (M : Mem) (a b : Nat) : sc (sc M a (M a)) b (M b) = M := by
  funext j i
  simp only [sc]
  (repeat' split) <;> simp_all
theorem iX0_forget_X0 : ∀ w ∈ wsX00, w ∈ wsX0_forget := fun _ h => List.mem_cons_of_mem _ (List.mem_append_right _ h)
set_option maxHeartbeats 4000000 in
set_option maxRecDepth 100000 in
theorem c0_forget (l : Launch) (a : Nat → Nat) (M : Mem) : CtV XS l yX0_forget wsX0_forget ({ frames := 0, cells := 0, slots := 0, locals := 0 } : Room) LC a M [.ref (a 34)] (fun M' => ∃ f, M' = sc M 37 f ∧ (∀ j, 0 ≤ j → j ≤ 60 → f j = 0) ∧ (∀ j, f j = 0 ∨ f j = M 37 j)) := by
  refine CtV.of (y := yX0_forget) (cc := cX0_forget) (maxL := 2) (ret := none) (lv := [some (.ref (a 34)), none]) (by decide) rfl (Nat.le_of_ble_eq_true rfl) (lvOK_of _ _ ⟨rfl, rfl⟩) ?_
  intro p e s m below meth c D T F K X0 hr hlk
  have hXc := XS_c
  refine g_iconst F (pc' := 1) dX0_forget_0 rfl ?_
  refine g_istore_n F (pc' := 2) (lv' := [some (.ref (a 34)), some (.int (iI 0))]) dX0_forget_1 rfl (by decide) rfl ?_
  refine h_mem (sc M 37 (M 37)) (sc_id M 37).symm ?_
  have lp_2 : ∀ (n_2 : Nat) (k : Int) (f : Int → Int) (hm_2 : 61 - k < (n_2 : Int)) (h0 : 0 ≤ k ∧ k ≤ 61) (hf : ∀ j, 0 ≤ j → j < k → f j = 0) (hg : ∀ j, f j = 0 ∨ f j = M 37 j), GG p l e ({ frames := 0, cells := 0, slots := 0, locals := 0 } : Room) s m ([.ref (a 34)].toArray) below meth c (PV D T a LC M (fun M' => ∃ f, M' = sc M 37 f ∧ (∀ j, 0 ≤ j → j ≤ 60 → f j = 0) ∧ (∀ j, f j = 0 ∨ f j = M 37 j)) below ([.ref (a 34)].toArray) s) D (AA T a LC M s.heap.size) 2 (wld T a LC (sc M 37 f)) 2 [some (.ref (a 34)), some (.int (iI k))] [] := by
    intro n_2
    induction n_2 with
    | zero => intro k f hm_2 h0 hf hg; exfalso; omega
    | succ n_2 ih_2 =>
      intro k f hm_2 h0 hf hg
      refine g_iload_n F (pc' := 3) dX0_forget_2 rfl rfl ?_
      refine g_bipush F (pc' := 5) dX0_forget_3 rfl (by decide +kernel) ?_
      refine g_icmp_gt F (pc' := 8) (tgt := 21) dX0_forget_5 rfl (by decide) (by omega) (by decide) (fun c_5 => ?_) (fun c_5 => ?_)
      · skip
        exact g_vret F hr hlk dX0_forget_21 (⟨f, rfl, fun j q1 q2 => hf j q1 (by omega), hg⟩)
      · skip
        refine g_aload_n F (pc' := 9) dX0_forget_8 rfl rfl ?_
        refine g_getR F K (k := 34) (fld := 2) (ci := 0) (q := 37) (pc' := 12) iX0_forget_X0 rfl rfl rfl (by decide) (List.mem_of_getElem? (i := 1) rfl) dX0_forget_9 rfl ?_
        refine g_iload_n F (pc' := 13) dX0_forget_12 rfl rfl ?_
        refine g_iconst F (pc' := 14) dX0_forget_13 rfl ?_
        refine h_zast F K (k := 37) (pc' := 15) (sc M 37 (upf f k 0)) (mem_up (by rfl) (by intro j hj; simp only [sc, if_neg hj])) rfl (by decide) (by omega) (by omega) dX0_forget_14 rfl ?_
        refine g_iinc F (pc' := 18) (lv' := [some (.ref (a 34)), some (.int (iI (k + 1)))]) dX0_forget_15 rfl rfl (by decide) rfl ?_
        refine g_goto F (tgt := 2) dX0_forget_18 (by decide) ?_
        exact ih_2 (k + 1) (upf f k 0) (by omega) (by omega) (by intro j q1 q2; by_cases hj : j = k; (rw [hj]; exact upf_s _ _ _); (rw [upf_n hj]; exact hf j q1 (by omega))) (by intro j; by_cases hj : j = k; (rw [hj]; exact Or.inl (upf_s _ _ _)); (rw [upf_n hj]; exact hg j))
  exact lp_2 ((61 - 0 : Int).toNat + 1) 0 (M 37) (by omega) (by omega) (fun j q1 q2 => by omega) (fun j => Or.inr rfl)

theorem iX0_leftDot_X0 : ∀ w ∈ wsX00, w ∈ wsX0_leftDot := fun _ h => List.mem_cons_of_mem _ (List.mem_append_right _ h)
set_option maxHeartbeats 4000000 in
set_option maxRecDepth 100000 in
theorem c0_leftDot (l : Launch) (a : Nat → Nat) (M : Mem) (sz v : Int) (hz : 0 ≤ sz ∧ sz ≤ 60) (hs : 0 ≤ v ∧ v < 8) : CtI XS l yX0_leftDot wsX0_leftDot ({ frames := 0, cells := 0, slots := 0, locals := 0 } : Room) LC a M [.ref (a 34), .int (iI sz), .int (iI v)] (fun z M' => z = M 38 (sz * 8 + v) ∧ M' = M) := by
  refine CtI.of (y := yX0_leftDot) (cc := cX0_leftDot) (maxL := 3) (ret := (some .int)) (lv := [some (.ref (a 34)), some (.int (iI sz)), some (.int (iI v))]) (by decide) rfl (Nat.le_of_ble_eq_true rfl) (lvOK_of _ _ ⟨rfl, rfl⟩) ?_
  intro p e s m below meth c D T F K X0 hr hlk
  have hXc := XS_c
  refine g_aload_n F (pc' := 1) dX0_leftDot_0 rfl rfl ?_
  refine g_getR F K (k := 34) (fld := 3) (ci := 0) (q := 38) (pc' := 4) iX0_leftDot_X0 rfl rfl rfl (by decide) (List.mem_of_getElem? (i := 1) rfl) dX0_leftDot_1 rfl ?_
  refine g_iload_n F (pc' := 5) dX0_leftDot_4 rfl rfl ?_
  refine g_bipush F (pc' := 7) dX0_leftDot_5 rfl (by decide +kernel) ?_
  refine g_imul F (pc' := 8) dX0_leftDot_7 rfl ?_
  refine g_iload_n F (pc' := 9) dX0_leftDot_8 rfl rfl ?_
  refine g_iadd F (pc' := 10) dX0_leftDot_9 rfl ?_
  refine g_iald F K (k := 38) (v := M 38 ((sz * 8) + v)) (pc' := 11) rfl (by decide) (by omega) dX0_leftDot_10 rfl (by first | rfl | simp [upf, sc]) ?_
  exact g_iret F hr hlk dX0_leftDot_11 (⟨rfl, rfl⟩)

theorem iX0_worstCounts_X0 : ∀ w ∈ wsX00, w ∈ wsX0_worstCounts := fun _ h => List.mem_cons_of_mem _ (List.mem_append_left _ (List.mem_append_right _ h))
theorem iX0_worstCounts_X1 : ∀ w ∈ wsX10, w ∈ wsX0_worstCounts := fun _ h => List.mem_cons_of_mem _ (List.mem_append_right _ h)
set_option maxHeartbeats 4000000 in
set_option maxRecDepth 100000 in
theorem c0_worstCounts (l : Launch) (a : Nat → Nat) (M : Mem) (h3 : 0 ≤ M 9 3 ∧ M 9 3 ≤ 3) : CtI XS l yX0_worstCounts wsX0_worstCounts ({ frames := 0, cells := 0, slots := 0, locals := 0 } : Room) LC a M [.ref (a 34)] (fun z M' => z = zC (2 ≤ M 9 3) ∧ M' = M) := by
  refine CtI.of (y := yX0_worstCounts) (cc := cX0_worstCounts) (maxL := 1) (ret := (some .boolean)) (lv := [some (.ref (a 34))]) (by decide) rfl (Nat.le_of_ble_eq_true rfl) (lvOK_of _ _ ⟨rfl, rfl⟩) ?_
  intro p e s m below meth c D T F K X0 hr hlk
  have hXc := XS_c
  refine g_aload_n F (pc' := 1) dX0_worstCounts_0 rfl rfl ?_
  refine g_getR F K (k := 34) (fld := 4) (ci := 0) (q := 4) (pc' := 4) iX0_worstCounts_X0 rfl rfl rfl (by decide) (List.mem_of_getElem? (i := 1) rfl) dX0_worstCounts_1 rfl ?_
  refine g_getR F K (k := 4) (fld := 5) (ci := 1) (q := 9) (pc' := 7) iX0_worstCounts_X1 rfl rfl rfl (by decide) (List.mem_of_getElem? (i := 2) rfl) dX0_worstCounts_4 rfl ?_
  refine g_iconst F (pc' := 8) dX0_worstCounts_7 rfl ?_
  refine g_iald F K (k := 9) (v := M 9 3) (pc' := 9) rfl (by decide) (by decide) dX0_worstCounts_8 rfl (by first | rfl | simp [upf, sc]) ?_
  refine g_iconst F (pc' := 10) dX0_worstCounts_9 rfl ?_
  refine g_icmp_lt F (pc' := 13) (tgt := 17) dX0_worstCounts_10 rfl (by decide) (by omega) (by decide) (fun c_10 => ?_) (fun c_10 => ?_)
  · skip
    refine g_iconst F (pc' := 18) dX0_worstCounts_17 rfl ?_
    exact g_zret F hr hlk dX0_worstCounts_18 (Or.inl rfl) (⟨by first | exact (zC_t (by omega)).symm | exact (zC_f (by omega)).symm, rfl⟩)
  · skip
    refine g_iconst F (pc' := 14) dX0_worstCounts_13 rfl ?_
    refine g_goto F (tgt := 18) dX0_worstCounts_14 (by decide) ?_
    exact g_zret F hr hlk dX0_worstCounts_18 (Or.inr rfl) (⟨by first | exact (zC_t (by omega)).symm | exact (zC_f (by omega)).symm, rfl⟩)

theorem iX0_joined_X0 : ∀ w ∈ wsX00, w ∈ wsX0_joined := fun _ h => List.mem_cons_of_mem _ (List.mem_append_left _ (List.mem_append_right _ h))
theorem iX0_joined_X1 : ∀ w ∈ wsX10, w ∈ wsX0_joined := fun _ h => List.mem_cons_of_mem _ (List.mem_append_right _ h)
set_option maxHeartbeats 4000000 in
set_option maxRecDepth 100000 in
theorem c0_joined (l : Launch) (a : Nat → Nat) (M : Mem) (x y : Int) (hx : -9223372036854775808 ≤ x ∧ x < 9223372036854775808) (hy : -9223372036854775808 ≤ y ∧ y < 9223372036854775808) (h3 : 0 ≤ M 9 3 ∧ M 9 3 ≤ 3) : CtJ XS l yX0_joined wsX0_joined ({ frames := 1, cells := 0, slots := 0, locals := 20 } : Room) LC a M [.ref (a 34), .long (lI x), .long (lI y)] (fun z M' => z = jn (M 9 3) x y ∧ M' = M) := by
  refine CtJ.of (y := yX0_joined) (cc := cX0_joined) (maxL := 5) (ret := (some .long)) (lv := [some (.ref (a 34)), some (.long (lI x)), none, some (.long (lI y)), none]) (by decide) rfl (Nat.le_of_ble_eq_true rfl) (lvOK_of _ _ ⟨rfl, rfl⟩) ?_
  intro p e s m below meth c D T F K X0 hr hlk
  have hXc := XS_c
  refine g_aload_n F (pc' := 1) dX0_joined_0 rfl rfl ?_
  refine g_callI F K hXc X0 (pc' := 4) (st := []) (c0_worstCounts l a M (by exact h3)) (cwV 0 F.2.2.2.2 gX0_joined_X0_worstCounts rfl rfl rfl (by decide +kernel) ⟨Nat.le_of_ble_eq_true rfl, Nat.le_of_ble_eq_true rfl⟩) rfl rfl rfl rfl (Nat.le_of_ble_eq_true rfl) dX0_joined_1 rfl (fun z_1 M_1 q_1 => ?_)
  obtain ⟨rfl, mq_1⟩ := q_1
  have mq_1 := mq_1.symm; subst mq_1
  refine g_if_eq F (pc' := 7) (tgt := 15) dX0_joined_4 rfl (by decide) (zC_R _) (fun c_4 => ?_) (fun c_4 => ?_)
  · skip
    have c_4 := zC_0 c_4
    refine g_lload_n F (pc' := 16) dX0_joined_15 rfl rfl ?_
    refine g_lload_n F (pc' := 17) dX0_joined_16 rfl rfl ?_
    refine g_ladd F (pc' := 18) dX0_joined_17 rfl ?_
    exact g_lret F hr hlk dX0_joined_18 (⟨by unfold jn; first | rw [if_pos (by omega)] | rw [if_neg (by omega)], rfl⟩)
  · skip
    have c_4 := zC_1 c_4
    refine g_lload_n F (pc' := 8) dX0_joined_7 rfl rfl ?_
    refine g_lload_n F (pc' := 9) dX0_joined_8 rfl rfl ?_
    refine g_maxL F (pc' := 12) (List.mem_of_getElem? (i := 1) rfl) (List.mem_of_getElem? (i := 2) rfl) (List.mem_of_getElem? (i := 3) rfl) (List.mem_of_getElem? (i := 4) rfl) (Nat.le_of_ble_eq_true rfl) (Nat.le_of_ble_eq_true rfl) (by omega) (by omega) dX0_joined_9 rfl ?_
    refine g_goto F (tgt := 18) dX0_joined_12 (by decide) ?_
    exact g_lret F hr hlk dX0_joined_18 (⟨by unfold jn; first | rw [if_pos (by omega)] | rw [if_neg (by omega)], rfl⟩)

theorem iX0_without_X0 : ∀ w ∈ wsX00, w ∈ wsX0_without := fun _ h => List.mem_cons_of_mem _ (List.mem_append_left _ (List.mem_append_right _ h))
theorem iX0_without_X1 : ∀ w ∈ wsX10, w ∈ wsX0_without := fun _ h => List.mem_cons_of_mem _ (List.mem_append_right _ h)
set_option maxHeartbeats 4000000 in
set_option maxRecDepth 100000 in
theorem c0_without (l : Launch) (a : Nat → Nat) (M : Mem) (x y : Int) (h3 : 0 ≤ M 9 3 ∧ M 9 3 ≤ 3) : CtJ XS l yX0_without wsX0_without ({ frames := 1, cells := 0, slots := 0, locals := 20 } : Room) LC a M [.ref (a 34), .long (lI x), .long (lI y)] (fun z M' => z = wo (M 9 3) x y ∧ M' = M) := by
  refine CtJ.of (y := yX0_without) (cc := cX0_without) (maxL := 5) (ret := (some .long)) (lv := [some (.ref (a 34)), some (.long (lI x)), none, some (.long (lI y)), none]) (by decide) rfl (Nat.le_of_ble_eq_true rfl) (lvOK_of _ _ ⟨rfl, rfl⟩) ?_
  intro p e s m below meth c D T F K X0 hr hlk
  have hXc := XS_c
  refine g_aload_n F (pc' := 1) dX0_without_0 rfl rfl ?_
  refine g_callI F K hXc X0 (pc' := 4) (st := []) (c0_worstCounts l a M (by exact h3)) (cwV 0 F.2.2.2.2 gX0_without_X0_worstCounts rfl rfl rfl (by decide +kernel) ⟨Nat.le_of_ble_eq_true rfl, Nat.le_of_ble_eq_true rfl⟩) rfl rfl rfl rfl (Nat.le_of_ble_eq_true rfl) dX0_without_1 rfl (fun z_1 M_1 q_1 => ?_)
  obtain ⟨rfl, mq_1⟩ := q_1
  have mq_1 := mq_1.symm; subst mq_1
  refine g_if_eq F (pc' := 7) (tgt := 11) dX0_without_4 rfl (by decide) (zC_R _) (fun c_4 => ?_) (fun c_4 => ?_)
  · skip
    have c_4 := zC_0 c_4
    refine g_lload_n F (pc' := 12) dX0_without_11 rfl rfl ?_
    refine g_lload_n F (pc' := 13) dX0_without_12 rfl rfl ?_
    refine g_lsub F (pc' := 14) dX0_without_13 rfl ?_
    exact g_lret F hr hlk dX0_without_14 (⟨by unfold wo; first | rw [if_pos (by omega)] | rw [if_neg (by omega)], rfl⟩)
  · skip
    have c_4 := zC_1 c_4
    refine g_lload_n F (pc' := 8) dX0_without_7 rfl rfl ?_
    refine g_goto F (tgt := 14) dX0_without_8 (by decide) ?_
    exact g_lret F hr hlk dX0_without_14 (⟨by unfold wo; first | rw [if_pos (by omega)] | rw [if_neg (by omega)], rfl⟩)

theorem iX0_weighed_X0 : ∀ w ∈ wsX00, w ∈ wsX0_weighed := fun _ h => List.mem_cons_of_mem _ (List.mem_append_left _ (List.mem_append_right _ h))
theorem iX0_weighed_X1 : ∀ w ∈ wsX10, w ∈ wsX0_weighed := fun _ h => List.mem_cons_of_mem _ (List.mem_append_right _ h)
set_option maxHeartbeats 4000000 in
set_option maxRecDepth 100000 in
theorem c0_weighed (l : Launch) (a : Nat → Nat) (M : Mem) (t w : Int) (ht : 0 ≤ t ∧ t ≤ 100000000) (hw : 0 ≤ w ∧ w ≤ 9) (h3 : 0 ≤ M 9 3 ∧ M 9 3 ≤ 3) : CtJ XS l yX0_weighed wsX0_weighed ({ frames := 0, cells := 0, slots := 0, locals := 0 } : Room) LC a M [.ref (a 34), .long (lI t), .int (iI w)] (fun z M' => z = cntz (M 9 3) t * w ∧ M' = M) := by
  refine CtJ.of (y := yX0_weighed) (cc := cX0_weighed) (maxL := 5) (ret := (some .long)) (lv := [some (.ref (a 34)), some (.long (lI t)), none, some (.int (iI w)), none]) (by decide) rfl (Nat.le_of_ble_eq_true rfl) (lvOK_of _ _ ⟨rfl, rfl⟩) ?_
  intro p e s m below meth c D T F K X0 hr hlk
  have hXc := XS_c
  have hdd := sq_R ht
  have htm : Int.tmod (M 9 3) 2 = M 9 3 % 2 := Int.tmod_eq_emod_of_nonneg h3.1
  have htd : Int.tdiv (t * t) 1000 = t * t / 1000 := Int.tdiv_eq_ediv_of_nonneg hdd.1
  refine g_aload_n F (pc' := 1) dX0_weighed_0 rfl rfl ?_
  refine g_getR F K (k := 34) (fld := 4) (ci := 0) (q := 4) (pc' := 4) iX0_weighed_X0 rfl rfl rfl (by decide) (List.mem_of_getElem? (i := 1) rfl) dX0_weighed_1 rfl ?_
  refine g_getR F K (k := 4) (fld := 5) (ci := 1) (q := 9) (pc' := 7) iX0_weighed_X1 rfl rfl rfl (by decide) (List.mem_of_getElem? (i := 2) rfl) dX0_weighed_4 rfl ?_
  refine g_iconst F (pc' := 8) dX0_weighed_7 rfl ?_
  refine g_iald F K (k := 9) (v := M 9 3) (pc' := 9) rfl (by decide) (by decide) dX0_weighed_8 rfl (by first | rfl | simp [upf, sc]) ?_
  refine g_iconst F (pc' := 10) dX0_weighed_9 rfl ?_
  refine g_irem F (pc' := 11) dX0_weighed_10 rfl (by omega) (by decide) (by omega) ?_
  refine g_iconst F (pc' := 12) dX0_weighed_11 rfl ?_
  refine g_icmp_ne F (pc' := 15) (tgt := 19) dX0_weighed_12 rfl (by decide) (by omega) (by decide) (fun c_12 => ?_) (fun c_12 => ?_)
  · skip
    refine g_iconst F (pc' := 20) dX0_weighed_19 rfl ?_
    refine g_istore F (pc' := 22) (lv' := [some (.ref (a 34)), some (.long (lI t)), none, some (.int (iI w)), some (.int (iI 0))]) dX0_weighed_20 rfl (by decide) rfl ?_
    refine g_iload F (pc' := 24) dX0_weighed_22 rfl rfl ?_
    refine g_if_eq F (pc' := 27) (tgt := 37) dX0_weighed_24 rfl (by decide) (by decide) (fun c_24 => ?_) (fun c_24 => ?_)
    · skip
      refine g_lload_n F (pc' := 38) dX0_weighed_37 rfl rfl ?_
      refine g_iload_n F (pc' := 39) dX0_weighed_38 rfl rfl ?_
      refine g_i2l F (pc' := 40) dX0_weighed_39 rfl (by omega) ?_
      refine g_lmul F (pc' := 41) dX0_weighed_40 rfl ?_
      exact g_lret F hr hlk dX0_weighed_41 (⟨by unfold cntz; first | rw [if_pos (by omega), htd] | rw [if_neg (by omega)], rfl⟩)
    · skip
      exact absurd c_24 (by decide)
  · skip
    refine g_iconst F (pc' := 16) dX0_weighed_15 rfl ?_
    refine g_goto F (tgt := 20) dX0_weighed_16 (by decide) ?_
    refine g_istore F (pc' := 22) (lv' := [some (.ref (a 34)), some (.long (lI t)), none, some (.int (iI w)), some (.int (iI 1))]) dX0_weighed_20 rfl (by decide) rfl ?_
    refine g_iload F (pc' := 24) dX0_weighed_22 rfl rfl ?_
    refine g_if_eq F (pc' := 27) (tgt := 37) dX0_weighed_24 rfl (by decide) (by decide) (fun c_24 => ?_) (fun c_24 => ?_)
    · skip
      exact absurd c_24 (by decide)
    · skip
      refine g_lload_n F (pc' := 28) dX0_weighed_27 rfl rfl ?_
      refine g_lload_n F (pc' := 29) dX0_weighed_28 rfl rfl ?_
      refine g_lmul F (pc' := 30) dX0_weighed_29 rfl ?_
      refine g_ldc2 F (pc' := 33) (z := 1000) dX0_weighed_30 rfl (List.mem_of_getElem? (i := 3) rfl) (by decide +kernel) ?_
      refine g_ldiv F (pc' := 34) dX0_weighed_33 rfl (by omega) (by decide) (by omega) ?_
      refine g_goto F (tgt := 38) dX0_weighed_34 (by decide) ?_
      refine g_iload_n F (pc' := 39) dX0_weighed_38 rfl rfl ?_
      refine g_i2l F (pc' := 40) dX0_weighed_39 rfl (by omega) ?_
      refine g_lmul F (pc' := 41) dX0_weighed_40 rfl ?_
      exact g_lret F hr hlk dX0_weighed_41 (⟨by unfold cntz; first | rw [if_pos (by omega), htd] | rw [if_neg (by omega)], rfl⟩)

theorem iX0_stemCost_X0 : ∀ w ∈ wsX00, w ∈ wsX0_stemCost := fun _ h => List.mem_cons_of_mem _ (List.mem_append_left _ (List.mem_append_left _ (List.mem_append_right _ h)))
theorem iX0_stemCost_X1 : ∀ w ∈ wsX10, w ∈ wsX0_stemCost := fun _ h => List.mem_cons_of_mem _ (List.mem_append_right _ h)
theorem iX0_stemCost_X3 : ∀ w ∈ wsX30, w ∈ wsX0_stemCost := fun _ h => List.mem_cons_of_mem _ (List.mem_append_left _ (List.mem_append_right _ h))
set_option maxHeartbeats 4000000 in
set_option maxRecDepth 100000 in
theorem c0_stemCost (l : Launch) (a : Nat → Nat) (M : Mem) (v x : Int) (hF : fitOK M) (hs : 0 ≤ v ∧ v < M 24 0) (hx : 0 ≤ x ∧ x ≤ M 34 11) : CtJ XS l yX0_stemCost wsX0_stemCost ({ frames := 1, cells := 0, slots := 0, locals := 24 } : Room) LC a M [.ref (a 34), .int (iI v), .int (iI x)] (fun z M' => z = SCm M v (M 40 v + x) ∧ M' = M) := by
  refine CtJ.of (y := yX0_stemCost) (cc := cX0_stemCost) (maxL := 5) (ret := (some .long)) (lv := [some (.ref (a 34)), some (.int (iI v)), some (.int (iI x)), none, none]) (by decide) rfl (Nat.le_of_ble_eq_true rfl) (lvOK_of _ _ ⟨rfl, rfl⟩) ?_
  intro p e s m below meth c D T F K X0 hr hlk
  have hXc := XS_c
  obtain ⟨hn, hro, hsz, h1, h2, h3, hst, hmo⟩ := id hF
  have hss := hst v hs.1 hs.2
  have hm := mul_R (A := 1998) (B := 60) (x := M 25 v + M 26 v) (y := M 34 10) (by omega) (by omega)
  refine g_iconst F (pc' := 1) dX0_stemCost_0 rfl ?_
  refine g_aload_n F (pc' := 2) dX0_stemCost_1 rfl rfl ?_
  refine g_getR F K (k := 34) (fld := 7) (ci := 0) (q := 40) (pc' := 5) iX0_stemCost_X0 rfl rfl rfl (by decide) (List.mem_of_getElem? (i := 1) rfl) dX0_stemCost_2 rfl ?_
  refine g_iload_n F (pc' := 6) dX0_stemCost_5 rfl rfl ?_
  refine g_iald F K (k := 40) (v := M 40 v) (pc' := 7) rfl (by decide) (by omega) dX0_stemCost_6 rfl (by first | rfl | simp [upf, sc]) ?_
  refine g_iload_n F (pc' := 8) dX0_stemCost_7 rfl rfl ?_
  refine g_iadd F (pc' := 9) dX0_stemCost_8 rfl ?_
  refine g_imul F (pc' := 10) dX0_stemCost_9 rfl ?_
  refine g_aload_n F (pc' := 11) dX0_stemCost_10 rfl rfl ?_
  refine g_getR F K (k := 34) (fld := 6) (ci := 0) (q := 39) (pc' := 14) iX0_stemCost_X0 rfl rfl rfl (by decide) (List.mem_of_getElem? (i := 2) rfl) dX0_stemCost_11 rfl ?_
  refine g_iload_n F (pc' := 15) dX0_stemCost_14 rfl rfl ?_
  refine g_iald F K (k := 39) (v := M 39 v) (pc' := 16) rfl (by decide) (by omega) dX0_stemCost_15 rfl (by first | rfl | simp [upf, sc]) ?_
  refine g_iadd F (pc' := 17) dX0_stemCost_16 rfl ?_
  refine g_istore_n F (pc' := 18) (lv' := [some (.ref (a 34)), some (.int (iI v)), some (.int (iI x)), some (.int (iI ((2 * ((M 40 v) + x)) + (M 39 v)))), none]) dX0_stemCost_17 rfl (by decide) rfl ?_
  refine g_iload_n F (pc' := 19) dX0_stemCost_18 rfl rfl ?_
  refine g_sipush F (pc' := 22) dX0_stemCost_19 rfl (by decide +kernel) ?_
  refine g_imul F (pc' := 23) dX0_stemCost_22 rfl ?_
  refine g_aload_n F (pc' := 24) dX0_stemCost_23 rfl rfl ?_
  refine g_getR F K (k := 34) (fld := 5) (ci := 0) (q := 24) (pc' := 27) iX0_stemCost_X0 rfl rfl rfl (by decide) (List.mem_of_getElem? (i := 3) rfl) dX0_stemCost_24 rfl ?_
  refine g_getR F K (k := 24) (fld := 1) (ci := 3) (q := 25) (pc' := 30) iX0_stemCost_X3 rfl rfl rfl (by decide) (List.mem_of_getElem? (i := 4) rfl) dX0_stemCost_27 rfl ?_
  refine g_iload_n F (pc' := 31) dX0_stemCost_30 rfl rfl ?_
  refine g_iald F K (k := 25) (v := M 25 v) (pc' := 32) rfl (by decide) (by omega) dX0_stemCost_31 rfl (by first | rfl | simp [upf, sc]) ?_
  refine g_aload_n F (pc' := 33) dX0_stemCost_32 rfl rfl ?_
  refine g_getR F K (k := 34) (fld := 5) (ci := 0) (q := 24) (pc' := 36) iX0_stemCost_X0 rfl rfl rfl (by decide) (List.mem_of_getElem? (i := 3) rfl) dX0_stemCost_33 rfl ?_
  refine g_getR F K (k := 24) (fld := 2) (ci := 3) (q := 26) (pc' := 39) iX0_stemCost_X3 rfl rfl rfl (by decide) (List.mem_of_getElem? (i := 5) rfl) dX0_stemCost_36 rfl ?_
  refine g_iload_n F (pc' := 40) dX0_stemCost_39 rfl rfl ?_
  refine g_iald F K (k := 26) (v := M 26 v) (pc' := 41) rfl (by decide) (by omega) dX0_stemCost_40 rfl (by first | rfl | simp [upf, sc]) ?_
  refine g_iadd F (pc' := 42) dX0_stemCost_41 rfl ?_
  refine g_aload_n F (pc' := 43) dX0_stemCost_42 rfl rfl ?_
  refine g_getI F K (k := 34) (fld := 10) (ci := 0) (z := M 34 10) (pc' := 46) iX0_stemCost_X0 rfl rfl rfl (by decide) (List.mem_of_getElem? (i := 6) rfl) dX0_stemCost_43 rfl (by first | rfl | simp [upf, sc]) ?_
  refine g_imul F (pc' := 47) dX0_stemCost_46 rfl ?_
  refine g_isub F (pc' := 48) dX0_stemCost_47 rfl ?_
  obtain ⟨ab_48, eab_48⟩ : ∃ z : Int, z = if 0 ≤ ((((2 * ((M 40 v) + x)) + (M 39 v)) * 1000) - (((M 25 v) + (M 26 v)) * (M 34 10))) then ((((2 * ((M 40 v) + x)) + (M 39 v)) * 1000) - (((M 25 v) + (M 26 v)) * (M 34 10))) else -((((2 * ((M 40 v) + x)) + (M 39 v)) * 1000) - (((M 25 v) + (M 26 v)) * (M 34 10))) := ⟨_, rfl⟩
  refine g_abs F (z := ab_48) (pc' := 51) (List.mem_of_getElem? (i := 7) rfl) (List.mem_of_getElem? (i := 8) rfl) (List.mem_of_getElem? (i := 9) rfl) (List.mem_of_getElem? (i := 10) rfl) (Nat.le_of_ble_eq_true rfl) (Nat.le_of_ble_eq_true rfl) (by omega) eab_48 dX0_stemCost_48 rfl ?_
  have hab := abs_R eab_48
  refine g_istore F (pc' := 53) (lv' := [some (.ref (a 34)), some (.int (iI v)), some (.int (iI x)), some (.int (iI ((2 * ((M 40 v) + x)) + (M 39 v)))), some (.int (iI ab_48))]) dX0_stemCost_51 rfl (by decide) rfl ?_
  refine g_aload_n F (pc' := 54) dX0_stemCost_53 rfl rfl ?_
  refine g_iload F (pc' := 56) dX0_stemCost_54 rfl rfl ?_
  refine g_i2l F (pc' := 57) dX0_stemCost_56 rfl (by omega) ?_
  refine g_aload_n F (pc' := 58) dX0_stemCost_57 rfl rfl ?_
  refine g_getR F K (k := 34) (fld := 4) (ci := 0) (q := 4) (pc' := 61) iX0_stemCost_X0 rfl rfl rfl (by decide) (List.mem_of_getElem? (i := 11) rfl) dX0_stemCost_58 rfl ?_
  refine g_getR F K (k := 4) (fld := 5) (ci := 1) (q := 9) (pc' := 64) iX0_stemCost_X1 rfl rfl rfl (by decide) (List.mem_of_getElem? (i := 12) rfl) dX0_stemCost_61 rfl ?_
  refine g_iconst F (pc' := 65) dX0_stemCost_64 rfl ?_
  refine g_iald F K (k := 9) (v := M 9 1) (pc' := 66) rfl (by decide) (by decide) dX0_stemCost_65 rfl (by first | rfl | simp [upf, sc]) ?_
  refine g_callJ F K hXc X0 (pc' := 69) (st := []) (c0_weighed l a M ab_48 (M 9 1) (by omega) (by omega) (by exact h3)) (cwV 2 F.2.2.2.2 gX0_stemCost_X0_weighed rfl rfl rfl (by decide +kernel) ⟨Nat.le_of_ble_eq_true rfl, Nat.le_of_ble_eq_true rfl⟩) rfl rfl rfl rfl (Nat.le_of_ble_eq_true rfl) dX0_stemCost_66 rfl (fun z_66 M_66 q_66 => ?_)
  obtain ⟨rfl, mq_66⟩ := q_66
  have mq_66 := mq_66.symm; subst mq_66
  exact g_lret F hr hlk dX0_stemCost_69 (⟨by rw [hab.1]; unfold SCm scost; congr 3; omega, rfl⟩)

theorem iX0_gapCost_X0 : ∀ w ∈ wsX00, w ∈ wsX0_gapCost := fun _ h => List.mem_cons_of_mem _ (List.mem_append_left _ (List.mem_append_left _ (List.mem_append_right _ h)))
theorem iX0_gapCost_X1 : ∀ w ∈ wsX10, w ∈ wsX0_gapCost := fun _ h => List.mem_cons_of_mem _ (List.mem_append_right _ h)
theorem iX0_gapCost_X3 : ∀ w ∈ wsX30, w ∈ wsX0_gapCost := fun _ h => List.mem_cons_of_mem _ (List.mem_append_left _ (List.mem_append_right _ h))
set_option maxHeartbeats 4000000 in
set_option maxRecDepth 100000 in
theorem c0_gapCost (l : Launch) (a : Nat → Nat) (M : Mem) (v x : Int) (hF : fitOK M) (hs : 0 ≤ v ∧ v + 1 < M 24 0) (hx : 0 ≤ x ∧ x ≤ M 34 11) : CtJ XS l yX0_gapCost wsX0_gapCost ({ frames := 1, cells := 0, slots := 0, locals := 24 } : Room) LC a M [.ref (a 34), .int (iI v), .int (iI x)] (fun z M' => z = GCm M v (1 + x) ∧ M' = M) := by
  refine CtJ.of (y := yX0_gapCost) (cc := cX0_gapCost) (maxL := 5) (ret := (some .long)) (lv := [some (.ref (a 34)), some (.int (iI v)), some (.int (iI x)), none, none]) (by decide) rfl (Nat.le_of_ble_eq_true rfl) (lvOK_of _ _ ⟨rfl, rfl⟩) ?_
  intro p e s m below meth c D T F K X0 hr hlk
  have hXc := XS_c
  obtain ⟨hn, hro, hsz, h1, h2, h3, hst, hmo⟩ := id hF
  have hss := hst v hs.1 (by omega)
  have hst1 := hst (v + 1) (by omega) (by omega)
  have hm := mulS_R (x := M 25 (v + 1) - M 26 v) (y := M 34 10) (by omega) (by omega)
  refine g_aload_n F (pc' := 1) dX0_gapCost_0 rfl rfl ?_
  refine g_getR F K (k := 34) (fld := 5) (ci := 0) (q := 24) (pc' := 4) iX0_gapCost_X0 rfl rfl rfl (by decide) (List.mem_of_getElem? (i := 1) rfl) dX0_gapCost_1 rfl ?_
  refine g_getR F K (k := 24) (fld := 1) (ci := 3) (q := 25) (pc' := 7) iX0_gapCost_X3 rfl rfl rfl (by decide) (List.mem_of_getElem? (i := 2) rfl) dX0_gapCost_4 rfl ?_
  refine g_iload_n F (pc' := 8) dX0_gapCost_7 rfl rfl ?_
  refine g_iconst F (pc' := 9) dX0_gapCost_8 rfl ?_
  refine g_iadd F (pc' := 10) dX0_gapCost_9 rfl ?_
  refine g_iald F K (k := 25) (v := M 25 (v + 1)) (pc' := 11) rfl (by decide) (by omega) dX0_gapCost_10 rfl (by first | rfl | simp [upf, sc]) ?_
  refine g_aload_n F (pc' := 12) dX0_gapCost_11 rfl rfl ?_
  refine g_getR F K (k := 34) (fld := 5) (ci := 0) (q := 24) (pc' := 15) iX0_gapCost_X0 rfl rfl rfl (by decide) (List.mem_of_getElem? (i := 1) rfl) dX0_gapCost_12 rfl ?_
  refine g_getR F K (k := 24) (fld := 2) (ci := 3) (q := 26) (pc' := 18) iX0_gapCost_X3 rfl rfl rfl (by decide) (List.mem_of_getElem? (i := 3) rfl) dX0_gapCost_15 rfl ?_
  refine g_iload_n F (pc' := 19) dX0_gapCost_18 rfl rfl ?_
  refine g_iald F K (k := 26) (v := M 26 v) (pc' := 20) rfl (by decide) (by omega) dX0_gapCost_19 rfl (by first | rfl | simp [upf, sc]) ?_
  refine g_isub F (pc' := 21) dX0_gapCost_20 rfl ?_
  refine g_istore_n F (pc' := 22) (lv' := [some (.ref (a 34)), some (.int (iI v)), some (.int (iI x)), some (.int (iI ((M 25 (v + 1)) - (M 26 v)))), none]) dX0_gapCost_21 rfl (by decide) rfl ?_
  refine g_iconst F (pc' := 23) dX0_gapCost_22 rfl ?_
  refine g_iconst F (pc' := 24) dX0_gapCost_23 rfl ?_
  refine g_iload_n F (pc' := 25) dX0_gapCost_24 rfl rfl ?_
  refine g_iadd F (pc' := 26) dX0_gapCost_25 rfl ?_
  refine g_sipush F (pc' := 29) dX0_gapCost_26 rfl (by decide +kernel) ?_
  refine g_imul F (pc' := 30) dX0_gapCost_29 rfl ?_
  refine g_iload_n F (pc' := 31) dX0_gapCost_30 rfl rfl ?_
  refine g_aload_n F (pc' := 32) dX0_gapCost_31 rfl rfl ?_
  refine g_getI F K (k := 34) (fld := 10) (ci := 0) (z := M 34 10) (pc' := 35) iX0_gapCost_X0 rfl rfl rfl (by decide) (List.mem_of_getElem? (i := 4) rfl) dX0_gapCost_32 rfl (by first | rfl | simp [upf, sc]) ?_
  refine g_imul F (pc' := 36) dX0_gapCost_35 rfl ?_
  refine g_isub F (pc' := 37) dX0_gapCost_36 rfl ?_
  obtain ⟨ab_37, eab_37⟩ : ∃ z : Int, z = if 0 ≤ (((1 + x) * 1000) - (((M 25 (v + 1)) - (M 26 v)) * (M 34 10))) then (((1 + x) * 1000) - (((M 25 (v + 1)) - (M 26 v)) * (M 34 10))) else -(((1 + x) * 1000) - (((M 25 (v + 1)) - (M 26 v)) * (M 34 10))) := ⟨_, rfl⟩
  refine g_abs F (z := ab_37) (pc' := 40) (List.mem_of_getElem? (i := 5) rfl) (List.mem_of_getElem? (i := 6) rfl) (List.mem_of_getElem? (i := 7) rfl) (List.mem_of_getElem? (i := 8) rfl) (Nat.le_of_ble_eq_true rfl) (Nat.le_of_ble_eq_true rfl) (by omega) eab_37 dX0_gapCost_37 rfl ?_
  have hab := abs_R eab_37
  refine g_imul F (pc' := 41) dX0_gapCost_40 rfl ?_
  refine g_istore F (pc' := 43) (lv' := [some (.ref (a 34)), some (.int (iI v)), some (.int (iI x)), some (.int (iI ((M 25 (v + 1)) - (M 26 v)))), some (.int (iI (2 * ab_37)))]) dX0_gapCost_41 rfl (by decide) rfl ?_
  refine g_aload_n F (pc' := 44) dX0_gapCost_43 rfl rfl ?_
  refine g_iload F (pc' := 46) dX0_gapCost_44 rfl rfl ?_
  refine g_i2l F (pc' := 47) dX0_gapCost_46 rfl (by omega) ?_
  refine g_aload_n F (pc' := 48) dX0_gapCost_47 rfl rfl ?_
  refine g_getR F K (k := 34) (fld := 4) (ci := 0) (q := 4) (pc' := 51) iX0_gapCost_X0 rfl rfl rfl (by decide) (List.mem_of_getElem? (i := 9) rfl) dX0_gapCost_48 rfl ?_
  refine g_getR F K (k := 4) (fld := 5) (ci := 1) (q := 9) (pc' := 54) iX0_gapCost_X1 rfl rfl rfl (by decide) (List.mem_of_getElem? (i := 10) rfl) dX0_gapCost_51 rfl ?_
  refine g_iconst F (pc' := 55) dX0_gapCost_54 rfl ?_
  refine g_iald F K (k := 9) (v := M 9 2) (pc' := 56) rfl (by decide) (by decide) dX0_gapCost_55 rfl (by first | rfl | simp [upf, sc]) ?_
  refine g_callJ F K hXc X0 (pc' := 59) (st := []) (c0_weighed l a M (2 * ab_37) (M 9 2) (by omega) (by omega) (by exact h3)) (cwV 2 F.2.2.2.2 gX0_gapCost_X0_weighed rfl rfl rfl (by decide +kernel) ⟨Nat.le_of_ble_eq_true rfl, Nat.le_of_ble_eq_true rfl⟩) rfl rfl rfl rfl (Nat.le_of_ble_eq_true rfl) dX0_gapCost_56 rfl (fun z_56 M_56 q_56 => ?_)
  obtain ⟨rfl, mq_56⟩ := q_56
  have mq_56 := mq_56.symm; subst mq_56
  exact g_lret F hr hlk dX0_gapCost_59 (⟨by rw [hab.1]; unfold GCm gcost; congr 4; omega, rfl⟩)

theorem iX0_comesTo_X0 : ∀ w ∈ wsX00, w ∈ wsX0_comesTo := fun _ h => List.mem_cons_of_mem _ (List.mem_append_left _ (List.mem_append_left _ (List.mem_append_right _ h)))
theorem iX0_comesTo_X1 : ∀ w ∈ wsX10, w ∈ wsX0_comesTo := fun _ h => List.mem_cons_of_mem _ (List.mem_append_right _ h)
theorem iX0_comesTo_X3 : ∀ w ∈ wsX30, w ∈ wsX0_comesTo := fun _ h => List.mem_cons_of_mem _ (List.mem_append_left _ (List.mem_append_right _ h))
set_option maxHeartbeats 4000000 in
set_option maxRecDepth 100000 in
theorem c0_comesTo (l : Launch) (a : Nat → Nat) (M : Mem) (v b x : Int) (hF : fitOK M) (hs : 0 ≤ v ∧ v < M 24 0) (hb : 0 ≤ b) (hx : b ≤ x ∧ x ≤ M 34 11) (hR : ∀ i, 0 ≤ i → i < M 24 0 → ∀ x, 0 ≤ x → x ≤ M 34 11 → M 41 (i * 60 + x) = VC M i x) : CtJ XS l yX0_comesTo wsX0_comesTo ({ frames := 2, cells := 0, slots := 0, locals := 48 } : Room) LC a M [.ref (a 34), .int (iI v), .int (iI b), .int (iI x)] (fun z M' => z = FSm M v b x ∧ M' = M) := by
  refine CtJ.of (y := yX0_comesTo) (cc := cX0_comesTo) (maxL := 6) (ret := (some .long)) (lv := [some (.ref (a 34)), some (.int (iI v)), some (.int (iI b)), some (.int (iI x)), none, none]) (by decide) rfl (Nat.le_of_ble_eq_true rfl) (lvOK_of _ _ ⟨rfl, rfl⟩) ?_
  intro p e s m below meth c D T F K X0 hr hlk
  have hXc := XS_c
  obtain ⟨hn, hro, hsz, h1, h2, h3, hst, hmo⟩ := id hF
  have hVR := VC_R hF
  have hv := hVR v x hs.1 hs.2 (by omega) hx.2
  have hrr := hR v hs.1 hs.2 x (by omega) hx.2
  refine g_aload_n F (pc' := 1) dX0_comesTo_0 rfl rfl ?_
  refine g_getR F K (k := 34) (fld := 8) (ci := 0) (q := 41) (pc' := 4) iX0_comesTo_X0 rfl rfl rfl (by decide) (List.mem_of_getElem? (i := 1) rfl) dX0_comesTo_1 rfl ?_
  refine g_iload_n F (pc' := 5) dX0_comesTo_4 rfl rfl ?_
  refine g_bipush F (pc' := 7) dX0_comesTo_5 rfl (by decide +kernel) ?_
  refine g_imul F (pc' := 8) dX0_comesTo_7 rfl ?_
  refine g_iload_n F (pc' := 9) dX0_comesTo_8 rfl rfl ?_
  refine g_iadd F (pc' := 10) dX0_comesTo_9 rfl ?_
  refine g_lald F K (k := 41) (v := M 41 ((v * 60) + x)) (pc' := 11) rfl (by decide) (by omega) dX0_comesTo_10 rfl (by first | rfl | simp [upf, sc]) ?_
  refine g_lstore F (pc' := 13) (lv' := [some (.ref (a 34)), some (.int (iI v)), some (.int (iI b)), some (.int (iI x)), some (.long (lI (M 41 ((v * 60) + x)))), none]) dX0_comesTo_11 rfl (by decide) rfl ?_
  refine g_iload_n F (pc' := 14) dX0_comesTo_13 rfl rfl ?_
  refine g_if_ne F (pc' := 17) (tgt := 22) dX0_comesTo_14 rfl (by decide) (by omega) (fun c_14 => ?_) (fun c_14 => ?_)
  · skip
    refine g_aload_n F (pc' := 23) dX0_comesTo_22 rfl rfl ?_
    refine g_aload_n F (pc' := 24) dX0_comesTo_23 rfl rfl ?_
    refine g_iload_n F (pc' := 25) dX0_comesTo_24 rfl rfl ?_
    refine g_iconst F (pc' := 26) dX0_comesTo_25 rfl ?_
    refine g_isub F (pc' := 27) dX0_comesTo_26 rfl ?_
    refine g_iload_n F (pc' := 28) dX0_comesTo_27 rfl rfl ?_
    refine g_iload_n F (pc' := 29) dX0_comesTo_28 rfl rfl ?_
    refine g_isub F (pc' := 30) dX0_comesTo_29 rfl ?_
    refine g_callJ F K hXc X0 (pc' := 33) (st := [.ref (a 34)]) (c0_gapCost l a M (v - 1) (x - b) (by exact hF) (by show 0 ≤ v - 1 ∧ v - 1 + 1 < M 24 0; omega) (by show 0 ≤ x - b ∧ x - b ≤ M 34 11; omega)) (cwV 2 F.2.2.2.2 gX0_comesTo_X0_gapCost rfl rfl rfl (by decide +kernel) ⟨Nat.le_of_ble_eq_true rfl, Nat.le_of_ble_eq_true rfl⟩) rfl rfl rfl rfl (Nat.le_of_ble_eq_true rfl) dX0_comesTo_30 rfl (fun z_30 M_30 q_30 => ?_)
    obtain ⟨rfl, mq_30⟩ := q_30
    have mq_30 := mq_30.symm; subst mq_30
    have b_30 := GCm_R hF (s := v - 1) (x := x - b) (by omega) (by omega)
    refine g_lload F (pc' := 35) dX0_comesTo_33 rfl rfl ?_
    refine g_callJ F K hXc X0 (pc' := 38) (st := []) (c0_joined l a M (GCm M (v - 1) (1 + (x - b))) (M 41 ((v * 60) + x)) (by omega) (by omega) (by exact h3)) (cwV 2 F.2.2.2.2 gX0_comesTo_X0_joined rfl rfl rfl (by decide +kernel) ⟨Nat.le_of_ble_eq_true rfl, Nat.le_of_ble_eq_true rfl⟩) rfl rfl rfl rfl (Nat.le_of_ble_eq_true rfl) dX0_comesTo_35 rfl (fun z_35 M_35 q_35 => ?_)
    obtain ⟨rfl, mq_35⟩ := q_35
    have mq_35 := mq_35.symm; subst mq_35
    exact g_lret F hr hlk dX0_comesTo_38 (⟨by unfold FSm fS; first | (rw [if_pos c_14]; rw [hrr, c_14]; rfl) | (rw [if_neg c_14, hrr]; rfl), rfl⟩)
  · skip
    refine g_lload F (pc' := 19) dX0_comesTo_17 rfl rfl ?_
    refine g_goto F (tgt := 38) dX0_comesTo_19 (by decide) ?_
    exact g_lret F hr hlk dX0_comesTo_38 (⟨by unfold FSm fS; first | (rw [if_pos c_14]; rw [hrr, c_14]; rfl) | (rw [if_neg c_14, hrr]; rfl), rfl⟩)

theorem iX0_restAt_X0 : ∀ w ∈ wsX00, w ∈ wsX0_restAt := fun _ h => List.mem_cons_of_mem _ (List.mem_append_left _ (List.mem_append_left _ (List.mem_append_right _ h)))
theorem iX0_restAt_X1 : ∀ w ∈ wsX10, w ∈ wsX0_restAt := fun _ h => List.mem_cons_of_mem _ (List.mem_append_right _ h)
theorem iX0_restAt_X3 : ∀ w ∈ wsX30, w ∈ wsX0_restAt := fun _ h => List.mem_cons_of_mem _ (List.mem_append_left _ (List.mem_append_right _ h))
set_option maxHeartbeats 4000000 in
set_option maxRecDepth 100000 in
theorem c0_restAt (l : Launch) (a : Nat → Nat) (M : Mem) (v x : Int) (hF : fitOK M) (hs : 0 ≤ v ∧ v < M 24 0) (hx : 0 ≤ x ∧ x ≤ M 34 11) (hR : v + 1 < M 24 0 → ∀ x, 0 ≤ x → x ≤ M 34 11 → M 41 ((v + 1) * 60 + x) = VC M (v + 1) x) (hG : v + 1 < M 24 0 → ∀ x, 0 ≤ x → x ≤ M 34 11 → M 42 x = GCm M v (1 + x)) : CtJ XS l yX0_restAt wsX0_restAt ({ frames := 2, cells := 0, slots := 0, locals := 48 } : Room) LC a M [.ref (a 34), .int (iI v), .int (iI x)] (fun z M' => z = VC M v x ∧ M' = M) := by
  refine CtJ.of (y := yX0_restAt) (cc := cX0_restAt) (maxL := 8) (ret := (some .long)) (lv := [some (.ref (a 34)), some (.int (iI v)), some (.int (iI x)), none, none, none, none, none]) (by decide) rfl (Nat.le_of_ble_eq_true rfl) (lvOK_of _ _ ⟨rfl, rfl⟩) ?_
  intro p e s m below meth c D T F K X0 hr hlk
  have hXc := XS_c
  obtain ⟨hn, hro, hsz, h1, h2, h3, hst, hmo⟩ := id hF
  have hVR := VC_R hF
  refine g_aload_n F (pc' := 1) dX0_restAt_0 rfl rfl ?_
  refine g_iload_n F (pc' := 2) dX0_restAt_1 rfl rfl ?_
  refine g_iload_n F (pc' := 3) dX0_restAt_2 rfl rfl ?_
  refine g_callJ F K hXc X0 (pc' := 6) (st := []) (c0_stemCost l a M v x (by exact hF) (by show 0 ≤ v ∧ v < M 24 0; omega) (by show 0 ≤ x ∧ x ≤ M 34 11; omega)) (cwV 2 F.2.2.2.2 gX0_restAt_X0_stemCost rfl rfl rfl (by decide +kernel) ⟨Nat.le_of_ble_eq_true rfl, Nat.le_of_ble_eq_true rfl⟩) rfl rfl rfl rfl (Nat.le_of_ble_eq_true rfl) dX0_restAt_3 rfl (fun z_3 M_3 q_3 => ?_)
  obtain ⟨rfl, mq_3⟩ := q_3
  have mq_3 := mq_3.symm; subst mq_3
  have b_3 := SCm_R hF (s := v) (x := x) (by omega) (by omega)
  refine g_lstore_n F (pc' := 7) (lv' := [some (.ref (a 34)), some (.int (iI v)), some (.int (iI x)), some (.long (lI (SCm M v (M 40 v + x)))), none, none, none, none]) dX0_restAt_6 rfl (by decide) rfl ?_
  refine g_iload_n F (pc' := 8) dX0_restAt_7 rfl rfl ?_
  refine g_iconst F (pc' := 9) dX0_restAt_8 rfl ?_
  refine g_iadd F (pc' := 10) dX0_restAt_9 rfl ?_
  refine g_aload_n F (pc' := 11) dX0_restAt_10 rfl rfl ?_
  refine g_getR F K (k := 34) (fld := 5) (ci := 0) (q := 24) (pc' := 14) iX0_restAt_X0 rfl rfl rfl (by decide) (List.mem_of_getElem? (i := 1) rfl) dX0_restAt_11 rfl ?_
  refine g_getI F K (k := 24) (fld := 0) (ci := 3) (z := M 24 0) (pc' := 17) iX0_restAt_X3 rfl rfl rfl (by decide) (List.mem_of_getElem? (i := 2) rfl) dX0_restAt_14 rfl (by first | rfl | simp [upf, sc]) ?_
  refine g_icmp_lt F (pc' := 20) (tgt := 22) dX0_restAt_17 rfl (by decide) (by omega) (by omega) (fun c_17 => ?_) (fun c_17 => ?_)
  · skip
    refine g_aload_n F (pc' := 23) dX0_restAt_22 rfl rfl ?_
    refine g_aload_n F (pc' := 24) dX0_restAt_23 rfl rfl ?_
    refine g_getR F K (k := 34) (fld := 9) (ci := 0) (q := 42) (pc' := 27) iX0_restAt_X0 rfl rfl rfl (by decide) (List.mem_of_getElem? (i := 3) rfl) dX0_restAt_24 rfl ?_
    refine g_iconst F (pc' := 28) dX0_restAt_27 rfl ?_
    refine g_lald F K (k := 42) (v := M 42 0) (pc' := 29) rfl (by decide) (by decide) dX0_restAt_28 rfl (by first | rfl | simp [upf, sc]) ?_
    have e1 := hG (by omega) 0 (by omega) (by omega)
    have e1r := GCm_R hF (s := v) (x := 0) (by omega) (by omega)
    refine g_aload_n F (pc' := 30) dX0_restAt_29 rfl rfl ?_
    refine g_getR F K (k := 34) (fld := 8) (ci := 0) (q := 41) (pc' := 33) iX0_restAt_X0 rfl rfl rfl (by decide) (List.mem_of_getElem? (i := 4) rfl) dX0_restAt_30 rfl ?_
    refine g_iload_n F (pc' := 34) dX0_restAt_33 rfl rfl ?_
    refine g_iconst F (pc' := 35) dX0_restAt_34 rfl ?_
    refine g_iadd F (pc' := 36) dX0_restAt_35 rfl ?_
    refine g_bipush F (pc' := 38) dX0_restAt_36 rfl (by decide +kernel) ?_
    refine g_imul F (pc' := 39) dX0_restAt_38 rfl ?_
    refine g_iload_n F (pc' := 40) dX0_restAt_39 rfl rfl ?_
    refine g_iadd F (pc' := 41) dX0_restAt_40 rfl ?_
    refine g_lald F K (k := 41) (v := M 41 (((v + 1) * 60) + x)) (pc' := 42) rfl (by decide) (by omega) dX0_restAt_41 rfl (by first | rfl | simp [upf, sc]) ?_
    have e2 := hR (by omega) x (by omega) (by omega)
    have e2r := hVR (v + 1) x (by omega) (by omega) (by omega) (by omega)
    refine g_callJ F K hXc X0 (pc' := 45) (st := []) (c0_joined l a M (M 42 0) (M 41 (((v + 1) * 60) + x)) (by omega) (by omega) (by exact h3)) (cwV 2 F.2.2.2.2 gX0_restAt_X0_joined rfl rfl rfl (by decide +kernel) ⟨Nat.le_of_ble_eq_true rfl, Nat.le_of_ble_eq_true rfl⟩) rfl rfl rfl rfl (Nat.le_of_ble_eq_true rfl) dX0_restAt_42 rfl (fun z_42 M_42 q_42 => ?_)
    obtain ⟨rfl, mq_42⟩ := q_42
    have mq_42 := mq_42.symm; subst mq_42
    refine g_lstore F (pc' := 47) (lv' := [some (.ref (a 34)), some (.int (iI v)), some (.int (iI x)), some (.long (lI (SCm M v (M 40 v + x)))), none, some (.long (lI (jn (M 9 3) (M 42 0) (M 41 (((v + 1) * 60) + x))))), none, none]) dX0_restAt_45 rfl (by decide) rfl ?_
    refine g_iload_n F (pc' := 48) dX0_restAt_47 rfl rfl ?_
    refine g_iconst F (pc' := 49) dX0_restAt_48 rfl ?_
    refine g_iadd F (pc' := 50) dX0_restAt_49 rfl ?_
    refine g_istore F (pc' := 52) (lv' := [some (.ref (a 34)), some (.int (iI v)), some (.int (iI x)), some (.long (lI (SCm M v (M 40 v + x)))), none, some (.long (lI (jn (M 9 3) (M 42 0) (M 41 (((v + 1) * 60) + x))))), none, some (.int (iI (x + 1)))]) dX0_restAt_50 rfl (by decide) rfl ?_
    have lp_52 : ∀ (n_52 : Nat) (bh : Int) (q : Int) (hm_52 : M 34 11 + 1 - q < (n_52 : Int)) (hq : x + 1 ≤ q ∧ q ≤ M 34 11 + 1) (hbh : bh = mI (fun nx => jn (M 9 3) (GCm M v (1 + (nx - x))) (VC M (v + 1) nx)) x (q - 1)), GG p l e ({ frames := 2, cells := 0, slots := 0, locals := 48 } : Room) s m ([.ref (a 34), .int (iI v), .int (iI x)].toArray) below meth c (PJ D T a LC M (fun z M' => z = VC M v x ∧ M' = M) below ([.ref (a 34), .int (iI v), .int (iI x)].toArray) s) D (AA T a LC M s.heap.size) 8 (wld T a LC M) 52 [some (.ref (a 34)), some (.int (iI v)), some (.int (iI x)), some (.long (lI (SCm M v (M 40 v + x)))), none, some (.long (lI bh)), none, some (.int (iI q))] [] := by
      intro n_52
      induction n_52 with
      | zero => intro bh q hm_52 hq hbh; exfalso; omega
      | succ n_52 ih_52 =>
        intro bh q hm_52 hq hbh
        have hbR : 0 ≤ bh ∧ bh ≤ 40000000000 := hbh ▸ mI_R (by omega) (fun y y1 y2 => FN_R hF (by omega) (by omega) (by omega))
        refine g_iload F (pc' := 54) dX0_restAt_52 rfl rfl ?_
        refine g_aload_n F (pc' := 55) dX0_restAt_54 rfl rfl ?_
        refine g_getI F K (k := 34) (fld := 11) (ci := 0) (z := M 34 11) (pc' := 58) iX0_restAt_X0 rfl rfl rfl (by decide) (List.mem_of_getElem? (i := 5) rfl) dX0_restAt_55 rfl (by first | rfl | simp [upf, sc]) ?_
        refine g_icmp_gt F (pc' := 61) (tgt := 108) dX0_restAt_58 rfl (by decide) (by omega) (by omega) (fun c_58 => ?_) (fun c_58 => ?_)
        · skip
          refine g_aload_n F (pc' := 109) dX0_restAt_108 rfl rfl ?_
          refine g_lload_n F (pc' := 110) dX0_restAt_109 rfl rfl ?_
          refine g_lload F (pc' := 112) dX0_restAt_110 rfl rfl ?_
          have hbR2 := hbR
          refine g_callJ F K hXc X0 (pc' := 115) (st := []) (c0_joined l a M (SCm M v (M 40 v + x)) bh (by omega) (by omega) (by exact h3)) (cwV 2 F.2.2.2.2 gX0_restAt_X0_joined rfl rfl rfl (by decide +kernel) ⟨Nat.le_of_ble_eq_true rfl, Nat.le_of_ble_eq_true rfl⟩) rfl rfl rfl rfl (Nat.le_of_ble_eq_true rfl) dX0_restAt_112 rfl (fun z_112 M_112 q_112 => ?_)
          obtain ⟨rfl, mq_112⟩ := q_112
          have mq_112 := mq_112.symm; subst mq_112
          exact g_lret F hr hlk dX0_restAt_115 (⟨by unfold VC; rw [Vi_step hs.1 (by omega), hbh, show q - 1 = M 34 11 by omega]; rfl, rfl⟩)
        · skip
          refine g_iload F (pc' := 63) dX0_restAt_61 rfl rfl ?_
          refine g_bipush F (pc' := 65) dX0_restAt_63 rfl (by decide +kernel) ?_
          refine g_icmp_ge F (pc' := 68) (tgt := 108) dX0_restAt_65 rfl (by decide) (by omega) (by decide) (fun c_65 => ?_) (fun c_65 => ?_)
          · skip
            exfalso; omega
          · skip
            refine g_lload F (pc' := 70) dX0_restAt_68 rfl rfl ?_
            refine g_aload_n F (pc' := 71) dX0_restAt_70 rfl rfl ?_
            refine g_aload_n F (pc' := 72) dX0_restAt_71 rfl rfl ?_
            refine g_getR F K (k := 34) (fld := 9) (ci := 0) (q := 42) (pc' := 75) iX0_restAt_X0 rfl rfl rfl (by decide) (List.mem_of_getElem? (i := 3) rfl) dX0_restAt_72 rfl ?_
            refine g_iload F (pc' := 77) dX0_restAt_75 rfl rfl ?_
            refine g_iload_n F (pc' := 78) dX0_restAt_77 rfl rfl ?_
            refine g_isub F (pc' := 79) dX0_restAt_78 rfl ?_
            refine g_lald F K (k := 42) (v := M 42 (q - x)) (pc' := 80) rfl (by decide) (by omega) dX0_restAt_79 rfl (by first | rfl | simp [upf, sc]) ?_
            have e3 := hG (by omega) (q - x) (by omega) (by omega)
            have e3r := GCm_R hF (s := v) (x := q - x) (by omega) (by omega)
            refine g_aload_n F (pc' := 81) dX0_restAt_80 rfl rfl ?_
            refine g_getR F K (k := 34) (fld := 8) (ci := 0) (q := 41) (pc' := 84) iX0_restAt_X0 rfl rfl rfl (by decide) (List.mem_of_getElem? (i := 4) rfl) dX0_restAt_81 rfl ?_
            refine g_iload_n F (pc' := 85) dX0_restAt_84 rfl rfl ?_
            refine g_iconst F (pc' := 86) dX0_restAt_85 rfl ?_
            refine g_iadd F (pc' := 87) dX0_restAt_86 rfl ?_
            refine g_bipush F (pc' := 89) dX0_restAt_87 rfl (by decide +kernel) ?_
            refine g_imul F (pc' := 90) dX0_restAt_89 rfl ?_
            refine g_iload F (pc' := 92) dX0_restAt_90 rfl rfl ?_
            refine g_iadd F (pc' := 93) dX0_restAt_92 rfl ?_
            refine g_lald F K (k := 41) (v := M 41 (((v + 1) * 60) + q)) (pc' := 94) rfl (by decide) (by omega) dX0_restAt_93 rfl (by first | rfl | simp [upf, sc]) ?_
            have e4 := hR (by omega) q (by omega) (by omega)
            have e4r := hVR (v + 1) q (by omega) (by omega) (by omega) (by omega)
            refine g_callJ F K hXc X0 (pc' := 97) (st := [.long (lI bh)]) (c0_joined l a M (M 42 (q - x)) (M 41 (((v + 1) * 60) + q)) (by omega) (by omega) (by exact h3)) (cwV 2 F.2.2.2.2 gX0_restAt_X0_joined rfl rfl rfl (by decide +kernel) ⟨Nat.le_of_ble_eq_true rfl, Nat.le_of_ble_eq_true rfl⟩) rfl rfl rfl rfl (Nat.le_of_ble_eq_true rfl) dX0_restAt_94 rfl (fun z_94 M_94 q_94 => ?_)
            obtain ⟨rfl, mq_94⟩ := q_94
            have mq_94 := mq_94.symm; subst mq_94
            have e5 := jn_R (M 9 3) (x := M 42 (q - x)) (y := M 41 ((v + 1) * 60 + q)) (A := 1000000000) (B := 30000000000) (by omega) (by omega)
            refine g_minL F (pc' := 100) (List.mem_of_getElem? (i := 6) rfl) (List.mem_of_getElem? (i := 7) rfl) (List.mem_of_getElem? (i := 8) rfl) (List.mem_of_getElem? (i := 9) rfl) (Nat.le_of_ble_eq_true rfl) (Nat.le_of_ble_eq_true rfl) (by omega) (by omega) dX0_restAt_97 rfl ?_
            refine g_lstore F (pc' := 102) (lv' := [some (.ref (a 34)), some (.int (iI v)), some (.int (iI x)), some (.long (lI (SCm M v (M 40 v + x)))), none, some (.long (lI (min bh (jn (M 9 3) (M 42 (q - x)) (M 41 (((v + 1) * 60) + q)))))), none, some (.int (iI q))]) dX0_restAt_100 rfl (by decide) rfl ?_
            refine g_iinc F (pc' := 105) (lv' := [some (.ref (a 34)), some (.int (iI v)), some (.int (iI x)), some (.long (lI (SCm M v (M 40 v + x)))), none, some (.long (lI (min bh (jn (M 9 3) (M 42 (q - x)) (M 41 (((v + 1) * 60) + q)))))), none, some (.int (iI (q + 1)))]) dX0_restAt_102 rfl rfl (by decide) rfl ?_
            refine g_goto F (tgt := 52) dX0_restAt_105 (by decide) ?_
            exact ih_52 (min bh (jn (M 9 3) (M 42 (q - x)) (M 41 (((v + 1) * 60) + q)))) (q + 1) (by omega) (by omega) (by rw [show q + 1 - 1 = (q - 1) + 1 by omega, mI_s (by omega), ← hbh, show q - 1 + 1 = q by omega, e3, e4])
    exact lp_52 ((M 34 11 + 1 - (x + 1) : Int).toNat + 1) (jn (M 9 3) (M 42 0) (M 41 (((v + 1) * 60) + x))) (x + 1) (by omega) (by omega) (by rw [show x + 1 - 1 = x by omega, mI_0, e1, e2, Int.sub_self])
  · skip
    refine g_lload_n F (pc' := 21) dX0_restAt_20 rfl rfl ?_
    exact g_lret F hr hlk dX0_restAt_21 (⟨by unfold VC; rw [show v = M 24 0 - 1 by omega]; exact (Vi_last _).symm, rfl⟩)

theorem iX0_weighGapsBehind_X0 : ∀ w ∈ wsX00, w ∈ wsX0_weighGapsBehind := fun _ h => List.mem_cons_of_mem _ (List.mem_append_left _ (List.mem_append_left _ (List.mem_append_right _ h)))
theorem iX0_weighGapsBehind_X1 : ∀ w ∈ wsX10, w ∈ wsX0_weighGapsBehind := fun _ h => List.mem_cons_of_mem _ (List.mem_append_right _ h)
theorem iX0_weighGapsBehind_X3 : ∀ w ∈ wsX30, w ∈ wsX0_weighGapsBehind := fun _ h => List.mem_cons_of_mem _ (List.mem_append_left _ (List.mem_append_right _ h))
set_option maxHeartbeats 4000000 in
set_option maxRecDepth 100000 in
theorem c0_weighGapsBehind (l : Launch) (a : Nat → Nat) (M : Mem) (v : Int) (hF : fitOK M) (hs : 0 ≤ v ∧ v < M 24 0) : CtV XS l yX0_weighGapsBehind wsX0_weighGapsBehind ({ frames := 2, cells := 0, slots := 0, locals := 48 } : Room) LC a M [.ref (a 34), .int (iI v)] (fun M' => ∃ g, M' = sc M 42 g ∧ (v + 1 < M 24 0 → ∀ x, 0 ≤ x → x ≤ M 34 11 → g x = GCm M v (1 + x))) := by
  refine CtV.of (y := yX0_weighGapsBehind) (cc := cX0_weighGapsBehind) (maxL := 3) (ret := none) (lv := [some (.ref (a 34)), some (.int (iI v)), none]) (by decide) rfl (Nat.le_of_ble_eq_true rfl) (lvOK_of _ _ ⟨rfl, rfl⟩) ?_
  intro p e s m below meth c D T F K X0 hr hlk
  have hXc := XS_c
  obtain ⟨hn, hro, hsz, h1, h2, h3, hst, hmo⟩ := id hF
  have hVR := VC_R hF
  refine g_iconst F (pc' := 1) dX0_weighGapsBehind_0 rfl ?_
  refine g_istore_n F (pc' := 2) (lv' := [some (.ref (a 34)), some (.int (iI v)), some (.int (iI 0))]) dX0_weighGapsBehind_1 rfl (by decide) rfl ?_
  refine h_mem (sc M 42 (M 42)) (sc_id M 42).symm ?_
  have lp_2 : ∀ (n_2 : Nat) (k : Int) (g : Int → Int) (hm_2 : 61 - k < (n_2 : Int)) (hk : 0 ≤ k ∧ k ≤ M 34 11 + 1) (hg : ∀ x, 0 ≤ x → x < k → g x = GCm M v (1 + x)), GG p l e ({ frames := 2, cells := 0, slots := 0, locals := 48 } : Room) s m ([.ref (a 34), .int (iI v)].toArray) below meth c (PV D T a LC M (fun M' => ∃ g, M' = sc M 42 g ∧ (v + 1 < M 24 0 → ∀ x, 0 ≤ x → x ≤ M 34 11 → g x = GCm M v (1 + x))) below ([.ref (a 34), .int (iI v)].toArray) s) D (AA T a LC M s.heap.size) 3 (wld T a LC (sc M 42 g)) 2 [some (.ref (a 34)), some (.int (iI v)), some (.int (iI k))] [] := by
    intro n_2
    induction n_2 with
    | zero => intro k g hm_2 hk hg; exfalso; omega
    | succ n_2 ih_2 =>
      intro k g hm_2 hk hg
      refine g_iload_n F (pc' := 3) dX0_weighGapsBehind_2 rfl rfl ?_
      refine g_iconst F (pc' := 4) dX0_weighGapsBehind_3 rfl ?_
      refine g_iadd F (pc' := 5) dX0_weighGapsBehind_4 rfl ?_
      refine g_aload_n F (pc' := 6) dX0_weighGapsBehind_5 rfl rfl ?_
      refine g_getR F K (k := 34) (fld := 5) (ci := 0) (q := 24) (pc' := 9) iX0_weighGapsBehind_X0 rfl rfl rfl (by decide) (List.mem_of_getElem? (i := 1) rfl) dX0_weighGapsBehind_6 rfl ?_
      refine g_getI F K (k := 24) (fld := 0) (ci := 3) (z := M 24 0) (pc' := 12) iX0_weighGapsBehind_X3 rfl rfl rfl (by decide) (List.mem_of_getElem? (i := 2) rfl) dX0_weighGapsBehind_9 rfl (by first | rfl | simp [upf, sc]) ?_
      refine g_icmp_ge F (pc' := 15) (tgt := 47) dX0_weighGapsBehind_12 rfl (by decide) (by omega) (by omega) (fun c_12 => ?_) (fun c_12 => ?_)
      · skip
        exact g_vret F hr hlk dX0_weighGapsBehind_47 (⟨g, rfl, fun q x q1 q2 => hg x q1 (by omega)⟩)
      · skip
        refine g_iload_n F (pc' := 16) dX0_weighGapsBehind_15 rfl rfl ?_
        refine g_aload_n F (pc' := 17) dX0_weighGapsBehind_16 rfl rfl ?_
        refine g_getI F K (k := 34) (fld := 11) (ci := 0) (z := M 34 11) (pc' := 20) iX0_weighGapsBehind_X0 rfl rfl rfl (by decide) (List.mem_of_getElem? (i := 3) rfl) dX0_weighGapsBehind_17 rfl (by first | rfl | simp [upf, sc]) ?_
        refine g_icmp_gt F (pc' := 23) (tgt := 47) dX0_weighGapsBehind_20 rfl (by decide) (by omega) (by omega) (fun c_20 => ?_) (fun c_20 => ?_)
        · skip
          exact g_vret F hr hlk dX0_weighGapsBehind_47 (⟨g, rfl, fun q x q1 q2 => hg x q1 (by omega)⟩)
        · skip
          refine g_iload_n F (pc' := 24) dX0_weighGapsBehind_23 rfl rfl ?_
          refine g_bipush F (pc' := 26) dX0_weighGapsBehind_24 rfl (by decide +kernel) ?_
          refine g_icmp_ge F (pc' := 29) (tgt := 47) dX0_weighGapsBehind_26 rfl (by decide) (by omega) (by decide) (fun c_26 => ?_) (fun c_26 => ?_)
          · skip
            exfalso; omega
          · skip
            refine g_aload_n F (pc' := 30) dX0_weighGapsBehind_29 rfl rfl ?_
            refine g_getR F K (k := 34) (fld := 9) (ci := 0) (q := 42) (pc' := 33) iX0_weighGapsBehind_X0 rfl rfl rfl (by decide) (List.mem_of_getElem? (i := 4) rfl) dX0_weighGapsBehind_30 rfl ?_
            refine g_iload_n F (pc' := 34) dX0_weighGapsBehind_33 rfl rfl ?_
            refine g_aload_n F (pc' := 35) dX0_weighGapsBehind_34 rfl rfl ?_
            refine g_iload_n F (pc' := 36) dX0_weighGapsBehind_35 rfl rfl ?_
            refine g_iload_n F (pc' := 37) dX0_weighGapsBehind_36 rfl rfl ?_
            refine g_callJ F K hXc X0 (pc' := 40) (st := [.int (iI k), .ref (a 42)]) (c0_gapCost l a (sc M 42 g) v k (by exact hF) (by show 0 ≤ v ∧ v + 1 < M 24 0; omega) (by show 0 ≤ k ∧ k ≤ M 34 11; omega)) (cwV 2 F.2.2.2.2 gX0_weighGapsBehind_X0_gapCost rfl rfl rfl (by decide +kernel) ⟨Nat.le_of_ble_eq_true rfl, Nat.le_of_ble_eq_true rfl⟩) rfl rfl rfl rfl (Nat.le_of_ble_eq_true rfl) dX0_weighGapsBehind_37 rfl (fun z_37 M_37 q_37 => ?_)
            obtain ⟨rfl, mq_37⟩ := q_37
            have mq_37 := mq_37.symm; subst mq_37
            refine h_topJ (z' := GCm M v (1 + k)) rfl ?_
            have b_37 := GCm_R hF (s := v) (x := k) (by omega) (by omega)
            refine h_last F K (k := 42) (pc' := 41) (sc M 42 (upf g k (GCm M v (1 + k)))) (mem_up (by rfl) (by intro j hj; simp only [sc, if_neg hj])) rfl (by decide) (by omega) dX0_weighGapsBehind_40 rfl ?_
            refine g_iinc F (pc' := 44) (lv' := [some (.ref (a 34)), some (.int (iI v)), some (.int (iI (k + 1)))]) dX0_weighGapsBehind_41 rfl rfl (by decide) rfl ?_
            refine g_goto F (tgt := 2) dX0_weighGapsBehind_44 (by decide) ?_
            exact ih_2 (k + 1) (upf g k (GCm M v (1 + k))) (by omega) (by omega) (by intro j q1 q2; by_cases hj : j = k; (rw [hj]; exact upf_s _ _ _); (rw [upf_n hj]; exact hg j q1 (by omega)))
  exact lp_2 ((61 - 0 : Int).toNat + 1) 0 (M 42) (by omega) (by omega) (fun j q1 q2 => by omega)

theorem iX0_weighRests_X0 : ∀ w ∈ wsX00, w ∈ wsX0_weighRests := fun _ h => List.mem_cons_of_mem _ (List.mem_append_left _ (List.mem_append_left _ (List.mem_append_right _ h)))
theorem iX0_weighRests_X1 : ∀ w ∈ wsX10, w ∈ wsX0_weighRests := fun _ h => List.mem_cons_of_mem _ (List.mem_append_right _ h)
theorem iX0_weighRests_X3 : ∀ w ∈ wsX30, w ∈ wsX0_weighRests := fun _ h => List.mem_cons_of_mem _ (List.mem_append_left _ (List.mem_append_right _ h))
set_option maxHeartbeats 4000000 in
set_option maxRecDepth 100000 in
theorem c0_weighRests (l : Launch) (a : Nat → Nat) (M : Mem) (hF : fitOK M) : CtV XS l yX0_weighRests wsX0_weighRests ({ frames := 3, cells := 0, slots := 0, locals := 75 } : Room) LC a M [.ref (a 34)] (fun M' => ∃ f g, M' = sc (sc M 41 f) 42 g ∧ ∀ i, 0 ≤ i → i < M 24 0 → ∀ x, 0 ≤ x → x ≤ M 34 11 → f (i * 60 + x) = VC M i x) := by
  refine CtV.of (y := yX0_weighRests) (cc := cX0_weighRests) (maxL := 3) (ret := none) (lv := [some (.ref (a 34)), none, none]) (by decide) rfl (Nat.le_of_ble_eq_true rfl) (lvOK_of _ _ ⟨rfl, rfl⟩) ?_
  intro p e s m below meth c D T F K X0 hr hlk
  have hXc := XS_c
  obtain ⟨hn, hro, hsz, h1, h2, h3, hst, hmo⟩ := id hF
  have hVR := VC_R hF
  refine g_aload_n F (pc' := 1) dX0_weighRests_0 rfl rfl ?_
  refine g_getR F K (k := 34) (fld := 5) (ci := 0) (q := 24) (pc' := 4) iX0_weighRests_X0 rfl rfl rfl (by decide) (List.mem_of_getElem? (i := 1) rfl) dX0_weighRests_1 rfl ?_
  refine g_getI F K (k := 24) (fld := 0) (ci := 3) (z := M 24 0) (pc' := 7) iX0_weighRests_X3 rfl rfl rfl (by decide) (List.mem_of_getElem? (i := 2) rfl) dX0_weighRests_4 rfl (by first | rfl | simp [upf, sc]) ?_
  refine g_iconst F (pc' := 8) dX0_weighRests_7 rfl ?_
  refine g_isub F (pc' := 9) dX0_weighRests_8 rfl ?_
  refine g_istore_n F (pc' := 10) (lv' := [some (.ref (a 34)), some (.int (iI ((M 24 0) - 1))), none]) dX0_weighRests_9 rfl (by decide) rfl ?_
  refine h_mem (sc (sc M 41 (M 41)) 42 (M 42)) (sc2_id M 41 42).symm ?_
  have lp_10 : ∀ (n_10 : Nat) (v : Int) (f : Int → Int) (g : Int → Int) (hm_10 : v + 1 < (n_10 : Int)) (hs : -1 ≤ v ∧ v < M 24 0) (hf : ∀ i, v < i → i < M 24 0 → ∀ x, 0 ≤ x → x ≤ M 34 11 → f (i * 60 + x) = VC M i x), GG p l e ({ frames := 3, cells := 0, slots := 0, locals := 75 } : Room) s m ([.ref (a 34)].toArray) below meth c (PV D T a LC M (fun M' => ∃ f g, M' = sc (sc M 41 f) 42 g ∧ ∀ i, 0 ≤ i → i < M 24 0 → ∀ x, 0 ≤ x → x ≤ M 34 11 → f (i * 60 + x) = VC M i x) below ([.ref (a 34)].toArray) s) D (AA T a LC M s.heap.size) 3 (wld T a LC (sc (sc M 41 f) 42 g)) 10 [some (.ref (a 34)), some (.int (iI v)), none] [] := by
    intro n_10
    induction n_10 with
    | zero => intro v f g hm_10 hs hf; exfalso; omega
    | succ n_10 ih_10 =>
      intro v f g hm_10 hs hf
      refine g_iload_n F (pc' := 11) dX0_weighRests_10 rfl rfl ?_
      refine g_if_lt F (pc' := 14) (tgt := 64) dX0_weighRests_11 rfl (by decide) (by omega) (fun c_11 => ?_) (fun c_11 => ?_)
      · skip
        exact g_vret F hr hlk dX0_weighRests_64 (⟨f, g, rfl, fun i q1 q2 => hf i (by omega) q2⟩)
      · skip
        refine g_aload_n F (pc' := 15) dX0_weighRests_14 rfl rfl ?_
        refine g_iload_n F (pc' := 16) dX0_weighRests_15 rfl rfl ?_
        refine g_callV F K hXc X0 (pc' := 19) (st := []) (c0_weighGapsBehind l a (sc (sc M 41 f) 42 g) v (by exact hF) (by show 0 ≤ v ∧ v < M 24 0; omega)) (cwV 1 F.2.2.2.2 gX0_weighRests_X0_weighGapsBehind rfl rfl rfl (by decide +kernel) ⟨Nat.le_of_ble_eq_true rfl, Nat.le_of_ble_eq_true rfl⟩) rfl rfl rfl rfl (Nat.le_of_ble_eq_true rfl) dX0_weighRests_16 rfl (fun M_16 q_16 => ?_)
        obtain ⟨g2, rfl, hG1⟩ := q_16
        refine h_mem (sc (sc M 41 f) 42 g2) (by first | rfl | exact sc_sc _ _ _ _) ?_
        refine g_iconst F (pc' := 20) dX0_weighRests_19 rfl ?_
        refine g_istore_n F (pc' := 21) (lv' := [some (.ref (a 34)), some (.int (iI v)), some (.int (iI 0))]) dX0_weighRests_20 rfl (by decide) rfl ?_
        have lp_21 : ∀ (n_21 : Nat) (k : Int) (f2 : Int → Int) (hm_21 : 61 - k < (n_21 : Int)) (hk : 0 ≤ k ∧ k ≤ M 34 11 + 1) (hf2 : ∀ i, v < i → i < M 24 0 → ∀ x, 0 ≤ x → x ≤ M 34 11 → f2 (i * 60 + x) = VC M i x) (hf3 : ∀ x, 0 ≤ x → x < k → f2 (v * 60 + x) = VC M v x), GG p l e ({ frames := 3, cells := 0, slots := 0, locals := 75 } : Room) s m ([.ref (a 34)].toArray) below meth c (PV D T a LC M (fun M' => ∃ f g, M' = sc (sc M 41 f) 42 g ∧ ∀ i, 0 ≤ i → i < M 24 0 → ∀ x, 0 ≤ x → x ≤ M 34 11 → f (i * 60 + x) = VC M i x) below ([.ref (a 34)].toArray) s) D (AA T a LC M s.heap.size) 3 (wld T a LC (sc (sc M 41 f2) 42 g2)) 21 [some (.ref (a 34)), some (.int (iI v)), some (.int (iI k))] [] := by
          intro n_21
          induction n_21 with
          | zero => intro k f2 hm_21 hk hf2 hf3; exfalso; omega
          | succ n_21 ih_21 =>
            intro k f2 hm_21 hk hf2 hf3
            have hR1 : v + 1 < M 24 0 → ∀ x, 0 ≤ x → x ≤ M 34 11 → f2 ((v + 1) * 60 + x) = VC M (v + 1) x := fun q => hf2 (v + 1) (by omega) q
            refine g_iload_n F (pc' := 22) dX0_weighRests_21 rfl rfl ?_
            refine g_aload_n F (pc' := 23) dX0_weighRests_22 rfl rfl ?_
            refine g_getI F K (k := 34) (fld := 11) (ci := 0) (z := M 34 11) (pc' := 26) iX0_weighRests_X0 rfl rfl rfl (by decide) (List.mem_of_getElem? (i := 3) rfl) dX0_weighRests_23 rfl (by first | rfl | simp [upf, sc]) ?_
            refine g_icmp_gt F (pc' := 29) (tgt := 58) dX0_weighRests_26 rfl (by decide) (by omega) (by omega) (fun c_26 => ?_) (fun c_26 => ?_)
            · skip
              refine g_iinc F (pc' := 61) (lv' := [some (.ref (a 34)), some (.int (iI (v + (-1)))), some (.int (iI k))]) dX0_weighRests_58 rfl rfl (by decide) rfl ?_
              refine g_goto F (tgt := 10) dX0_weighRests_61 (by decide) ?_
              refine g_lvw [some (.ref (a 34)), some (.int (iI (v + (-1)))), none] (lvw_of _ _ [true, true, false] rfl) ?_
              exact ih_10 (v + (-1)) f2 g2 (by omega) (by omega) (fun i q1 q2 x q3 q4 => by by_cases hi : i = v; (rw [hi]; exact hf3 x q3 (by omega)); exact hf2 i (by omega) q2 x q3 q4)
            · skip
              refine g_iload_n F (pc' := 30) dX0_weighRests_29 rfl rfl ?_
              refine g_bipush F (pc' := 32) dX0_weighRests_30 rfl (by decide +kernel) ?_
              refine g_icmp_ge F (pc' := 35) (tgt := 58) dX0_weighRests_32 rfl (by decide) (by omega) (by decide) (fun c_32 => ?_) (fun c_32 => ?_)
              · skip
                exfalso; omega
              · skip
                refine g_aload_n F (pc' := 36) dX0_weighRests_35 rfl rfl ?_
                refine g_getR F K (k := 34) (fld := 8) (ci := 0) (q := 41) (pc' := 39) iX0_weighRests_X0 rfl rfl rfl (by decide) (List.mem_of_getElem? (i := 4) rfl) dX0_weighRests_36 rfl ?_
                refine g_iload_n F (pc' := 40) dX0_weighRests_39 rfl rfl ?_
                refine g_bipush F (pc' := 42) dX0_weighRests_40 rfl (by decide +kernel) ?_
                refine g_imul F (pc' := 43) dX0_weighRests_42 rfl ?_
                refine g_iload_n F (pc' := 44) dX0_weighRests_43 rfl rfl ?_
                refine g_iadd F (pc' := 45) dX0_weighRests_44 rfl ?_
                refine g_aload_n F (pc' := 46) dX0_weighRests_45 rfl rfl ?_
                refine g_iload_n F (pc' := 47) dX0_weighRests_46 rfl rfl ?_
                refine g_iload_n F (pc' := 48) dX0_weighRests_47 rfl rfl ?_
                refine g_callJ F K hXc X0 (pc' := 51) (st := [.int (iI ((v * 60) + k)), .ref (a 41)]) (c0_restAt l a (sc (sc M 41 f2) 42 g2) v k (by exact hF) (by show 0 ≤ v ∧ v < M 24 0; omega) (by show 0 ≤ k ∧ k ≤ M 34 11; omega) (by exact hR1) (by exact hG1)) (cwV 2 F.2.2.2.2 gX0_weighRests_X0_restAt rfl rfl rfl (by decide +kernel) ⟨Nat.le_of_ble_eq_true rfl, Nat.le_of_ble_eq_true rfl⟩) rfl rfl rfl rfl (Nat.le_of_ble_eq_true rfl) dX0_weighRests_48 rfl (fun z_48 M_48 q_48 => ?_)
                obtain ⟨rfl, mq_48⟩ := q_48
                have mq_48 := mq_48.symm; subst mq_48
                refine h_topJ (z' := VC M v k) rfl ?_
                refine h_last F K (k := 41) (pc' := 52) (sc (sc M 41 (upf f2 ((v * 60) + k) (VC M v k))) 42 g2) (mem_up (by rfl) (by intro j hj; simp only [sc, if_neg hj])) rfl (by decide) (by omega) dX0_weighRests_51 rfl ?_
                refine g_iinc F (pc' := 55) (lv' := [some (.ref (a 34)), some (.int (iI v)), some (.int (iI (k + 1)))]) dX0_weighRests_52 rfl rfl (by decide) rfl ?_
                refine g_goto F (tgt := 21) dX0_weighRests_55 (by decide) ?_
                exact ih_21 (k + 1) (upf f2 ((v * 60) + k) (VC M v k)) (by omega) (by omega) (fun i q1 q2 x q3 q4 => by rw [upf_n (by omega)]; exact hf2 i q1 q2 x q3 q4) (fun x q1 q2 => by by_cases hj : x = k; (rw [hj]; exact upf_s _ _ _); (rw [upf_n (by omega)]; exact hf3 x q1 (by omega)))
        exact lp_21 ((61 - 0 : Int).toNat + 1) 0 f (by omega) (by omega) (hf) (fun x q1 q2 => by omega)
  exact lp_10 ((((M 24 0) - 1) + 1 : Int).toNat + 1) ((M 24 0) - 1) (M 41) (M 42) (by omega) (by omega) (fun i q1 q2 => by omega)

theorem iX0_leastRest_X0 : ∀ w ∈ wsX00, w ∈ wsX0_leastRest := fun _ h => List.mem_cons_of_mem _ (List.mem_append_right _ h)
set_option maxHeartbeats 4000000 in
set_option maxRecDepth 100000 in
theorem c0_leastRest (l : Launch) (a : Nat → Nat) (M : Mem) (hF : fitOK M) (hp : 0 < M 24 0) (hR : ∀ i, 0 ≤ i → i < M 24 0 → ∀ x, 0 ≤ x → x ≤ M 34 11 → M 41 (i * 60 + x) = VC M i x) : CtJ XS l yX0_leastRest wsX0_leastRest ({ frames := 1, cells := 0, slots := 0, locals := 15 } : Room) LC a M [.ref (a 34)] (fun z M' => z = mI (VC M 0) 0 (M 34 11) ∧ M' = M) := by
  refine CtJ.of (y := yX0_leastRest) (cc := cX0_leastRest) (maxL := 4) (ret := (some .long)) (lv := [some (.ref (a 34)), none, none, none]) (by decide) rfl (Nat.le_of_ble_eq_true rfl) (lvOK_of _ _ ⟨rfl, rfl⟩) ?_
  intro p e s m below meth c D T F K X0 hr hlk
  have hXc := XS_c
  obtain ⟨hn, hro, hsz, h1, h2, h3, hst, hmo⟩ := id hF
  have hVR := VC_R hF
  refine g_aload_n F (pc' := 1) dX0_leastRest_0 rfl rfl ?_
  refine g_getR F K (k := 34) (fld := 8) (ci := 0) (q := 41) (pc' := 4) iX0_leastRest_X0 rfl rfl rfl (by decide) (List.mem_of_getElem? (i := 1) rfl) dX0_leastRest_1 rfl ?_
  refine g_iconst F (pc' := 5) dX0_leastRest_4 rfl ?_
  refine g_lald F K (k := 41) (v := M 41 0) (pc' := 6) rfl (by decide) (by decide) dX0_leastRest_5 rfl (by first | rfl | simp [upf, sc]) ?_
  have e1 := hR 0 (by omega) hp 0 (by omega) (by omega)
  refine g_lstore_n F (pc' := 7) (lv' := [some (.ref (a 34)), some (.long (lI (M 41 0))), none, none]) dX0_leastRest_6 rfl (by decide) rfl ?_
  refine g_iconst F (pc' := 8) dX0_leastRest_7 rfl ?_
  refine g_istore_n F (pc' := 9) (lv' := [some (.ref (a 34)), some (.long (lI (M 41 0))), none, some (.int (iI 1))]) dX0_leastRest_8 rfl (by decide) rfl ?_
  have lp_9 : ∀ (n_9 : Nat) (z : Int) (k : Int) (hm_9 : 61 - k < (n_9 : Int)) (hk : 1 ≤ k ∧ k ≤ M 34 11 + 1) (hz : z = mI (VC M 0) 0 (k - 1)), GG p l e ({ frames := 1, cells := 0, slots := 0, locals := 15 } : Room) s m ([.ref (a 34)].toArray) below meth c (PJ D T a LC M (fun z M' => z = mI (VC M 0) 0 (M 34 11) ∧ M' = M) below ([.ref (a 34)].toArray) s) D (AA T a LC M s.heap.size) 4 (wld T a LC M) 9 [some (.ref (a 34)), some (.long (lI z)), none, some (.int (iI k))] [] := by
    intro n_9
    induction n_9 with
    | zero => intro z k hm_9 hk hz; exfalso; omega
    | succ n_9 ih_9 =>
      intro z k hm_9 hk hz
      have hzR : 0 ≤ z ∧ z ≤ 20000000000 := hz ▸ mI_R (by omega) (fun y y1 y2 => hVR 0 y (by omega) hp y1 (by omega))
      refine g_iload_n F (pc' := 10) dX0_leastRest_9 rfl rfl ?_
      refine g_aload_n F (pc' := 11) dX0_leastRest_10 rfl rfl ?_
      refine g_getI F K (k := 34) (fld := 11) (ci := 0) (z := M 34 11) (pc' := 14) iX0_leastRest_X0 rfl rfl rfl (by decide) (List.mem_of_getElem? (i := 2) rfl) dX0_leastRest_11 rfl (by first | rfl | simp [upf, sc]) ?_
      refine g_icmp_gt F (pc' := 17) (tgt := 40) dX0_leastRest_14 rfl (by decide) (by omega) (by omega) (fun c_14 => ?_) (fun c_14 => ?_)
      · skip
        refine g_lload_n F (pc' := 41) dX0_leastRest_40 rfl rfl ?_
        exact g_lret F hr hlk dX0_leastRest_41 (⟨by rw [hz, show k - 1 = M 34 11 by omega], rfl⟩)
      · skip
        refine g_iload_n F (pc' := 18) dX0_leastRest_17 rfl rfl ?_
        refine g_bipush F (pc' := 20) dX0_leastRest_18 rfl (by decide +kernel) ?_
        refine g_icmp_ge F (pc' := 23) (tgt := 40) dX0_leastRest_20 rfl (by decide) (by omega) (by decide) (fun c_20 => ?_) (fun c_20 => ?_)
        · skip
          exfalso; omega
        · skip
          refine g_lload_n F (pc' := 24) dX0_leastRest_23 rfl rfl ?_
          refine g_aload_n F (pc' := 25) dX0_leastRest_24 rfl rfl ?_
          refine g_getR F K (k := 34) (fld := 8) (ci := 0) (q := 41) (pc' := 28) iX0_leastRest_X0 rfl rfl rfl (by decide) (List.mem_of_getElem? (i := 1) rfl) dX0_leastRest_25 rfl ?_
          refine g_iload_n F (pc' := 29) dX0_leastRest_28 rfl rfl ?_
          refine g_lald F K (k := 41) (v := M 41 k) (pc' := 30) rfl (by decide) (by omega) dX0_leastRest_29 rfl (by first | rfl | simp [upf, sc]) ?_
          have e2 := hR 0 (by omega) hp k (by omega) (by omega)
          rw [show (0 : Int) * 60 + k = k by omega] at e2
          have e2r := hVR 0 k (by omega) hp (by omega) (by omega)
          refine g_minL F (pc' := 33) (List.mem_of_getElem? (i := 3) rfl) (List.mem_of_getElem? (i := 4) rfl) (List.mem_of_getElem? (i := 5) rfl) (List.mem_of_getElem? (i := 6) rfl) (Nat.le_of_ble_eq_true rfl) (Nat.le_of_ble_eq_true rfl) (by omega) (by omega) dX0_leastRest_30 rfl ?_
          refine g_lstore_n F (pc' := 34) (lv' := [some (.ref (a 34)), some (.long (lI (min z (M 41 k)))), none, some (.int (iI k))]) dX0_leastRest_33 rfl (by decide) rfl ?_
          refine g_iinc F (pc' := 37) (lv' := [some (.ref (a 34)), some (.long (lI (min z (M 41 k)))), none, some (.int (iI (k + 1)))]) dX0_leastRest_34 rfl rfl (by decide) rfl ?_
          refine g_goto F (tgt := 9) dX0_leastRest_37 (by decide) ?_
          exact ih_9 (min z (M 41 k)) (k + 1) (by omega) (by omega) (by rw [show k + 1 - 1 = (k - 1) + 1 by omega, mI_s (by omega), ← hz, show k - 1 + 1 = k by omega, e2])
  exact lp_9 ((61 - 1 : Int).toNat + 1) (M 41 0) 1 (by omega) (by omega) (by rw [show (1 : Int) - 1 = 0 by omega, mI_0]; exact e1)

