/-! ===== the class: order by width, classes, what is told of them ===== -/
theorem isOrd_0 (wd od : Int → Int) : isOrd 0 wd od := ⟨fun i h1 h2 => by omega, fun i j h1 h2 h3 => by omega, fun j h1 h2 => by omega⟩
theorem isOrd_ins {i : Int} {wd od : Int → Int} (h0 : 0 ≤ i) (h : isOrd i wd od) : isOrd (i + 1) wd (insN od (iposI (fun k => wd (od k)) (wd i) i) i i) := by
  have hR := iposI_R (fun k => wd (od k)) (wd i) h0
  have hlo : ∀ k : Int, 0 ≤ k → k < iposI (fun k => wd (od k)) (wd i) i → wd (od k) ≤ wd i := fun k a c =>
    ipos_lo (f := fun k => wd (od k)) (key := wd i) i.toNat k (fun x y a b c => by have := h.2.1 x y a b (by omega); show wd (od x) ≤ wd (od y); omega) a c
  have hhi : ∀ k : Int, iposI (fun k => wd (od k)) (wd i) i ≤ k → k < i → wd i < wd (od k) := by
    intro k a c
    have h1 := ipos_hi (f := fun k => wd (od k)) (key := wd i) i.toNat k a (by omega)
    have h4 : iposI (fun k => wd (od k)) (wd i) i = ipos (fun k => wd (od k)) (wd i) i.toNat := rfl
    rcases h1 with h1 | h1
    · exact h1
    · omega
  generalize iposI (fun k => wd (od k)) (wd i) i = q at *
  refine ⟨fun k a b => ?_, fun k l a b c => ?_, fun j a b => ?_⟩
  · rcases Int.lt_trichotomy k q with z | z | z
    · rw [insN_lo z]; have := h.1 k a (by omega); omega
    · rw [z, insN_q]; omega
    · rw [insN_hi z (by omega)]; have := h.1 (k - 1) (by omega) (by omega); omega
  · rcases Int.lt_trichotomy k q with z | z | z
    · rw [insN_lo z]
      rcases Int.lt_trichotomy l q with y | y | y
      · rw [insN_lo y]; exact h.2.1 k l a b (by omega)
      · rw [y, insN_q]; have := hlo k a z; have := h.1 k a (by omega); omega
      · rw [insN_hi y (by omega)]; exact h.2.1 k (l - 1) a (by omega) (by omega)
    · rw [z, insN_q, insN_hi (by omega) (by omega)]
      exact Or.inl (hhi (l - 1) (by omega) (by omega))
    · rw [insN_hi z (by omega), insN_hi (by omega) (by omega)]
      exact h.2.1 (k - 1) (l - 1) (by omega) (by omega) (by omega)
  · by_cases hj : j = i
    · exact ⟨q, by omega, by omega, by rw [insN_q, hj]⟩
    · obtain ⟨t, t1, t2, t3⟩ := h.2.2 j a (by omega)
      by_cases ht : t < q
      · exact ⟨t, t1, by omega, by rw [insN_lo ht]; exact t3⟩
      · exact ⟨t + 1, by omega, by omega, by rw [insN_hi (by omega) (by omega), show t + 1 - 1 = t by omega]; exact t3⟩
def gC0 (M : Mem) : GS := (0, M 29, M 30, M 31, M 32)
def lgC (M : Mem) (g : GS) : Mem := sc (sc (sc (sc (sc M 24 (upf (M 24) 6 g.1)) 29 g.2.1) 30 g.2.2.1) 31 g.2.2.2.1) 32 g.2.2.2.2
theorem lgC_0 (M : Mem) : sc M 24 (upf (M 24) 6 0) = lgC M (gC0 M) := by
  funext j i
  simp only [lgC, gC0, sc]
  (repeat' split) <;> simp_all
theorem lgC_leaf {M : Mem} {tol : Int} {g : GS} {k : Int} (hk : k = M 24 0) (hg : g = giterI tol (wdC M) (M 33) (gC0 M) k) : lgC M g = lgC M (giterI tol (wdC M) (M 33) (gC0 M) (M 24 0)) := by
  subst hk; subst hg; rfl
def sC0 (M : Mem) : ST := (0, M 25, M 26, M 27, M 28)
noncomputable def sC (M : Mem) : ST := siter (canC M) frC (M 6) (M 4 4) (sC0 M) 8
noncomputable def foundM (M : Mem) (od : Int → Int) : Mem := lgC (sc (stM M (sC M)) 33 od) (giterI (M 9 0) (wS (sC M)) od (gC0 M) (sC M).1)
theorem stM_0 (M : Mem) : sc M 24 (upf (M 24) 0 0) = stM M (sC0 M) := by
  funext j i
  simp only [stM, sC0, sc]
  (repeat' split) <;> simp_all
theorem stM_stM (M : Mem) (t u : ST) : stM (stM M t) u = stM M u := by
  funext j i
  simp only [stM, sc]
  (repeat' split) <;> first | rfl | (rw [upf_w]; done) | simp_all
theorem sstep_f {cn : Int → Int → Prop} {fr : (Int → Int) → ST → Int → Int → Prop} {x : Int → Int} {m : Int} {s : ST} (h : (pk cn fr x m s).1 < 0) : sstep cn fr x m s = s := pif_t h
theorem q3_norm {M : Mem} {t : ST} {z : Int} {M' : Mem} (h : q3_add (stM M t) z M') : M' = stM M (sstep (canC M) frC (M 6) (M 4 4) t) ∧ ((z = 0 ∧ (pk (canC M) frC (M 6) (M 4 4) t).1 < 0) ∨ (z = 1 ∧ 0 ≤ (pk (canC M) frC (M 6) (M 4 4) t).1)) := by
  rcases h with ⟨h1, h2, h3⟩ | ⟨h1, h2, h3⟩
  · have h1 : (pk (canC M) frC (M 6) (M 4 4) t).1 < 0 := h1
    rw [sstep_f h1]
    exact ⟨h3, Or.inl ⟨h2, h1⟩⟩
  · have h1 : 0 ≤ (pk (canC M) frC (M 6) (M 4 4) t).1 := h1
    have e : sstep (canC M) frC (M 6) (M 4 4) t = ins5 (M 6) t (pk (canC M) frC (M 6) (M 4 4) t).1 (pk (canC M) frC (M 6) (M 4 4) t).2 := pif_f (by omega)
    rw [e]
    exact ⟨h3.trans (stM_stM M t _), Or.inr ⟨h2, h1⟩⟩
theorem siterC_inv {cn : Int → Int → Prop} {x : Int → Int} {m : Int} (hx : ∀ u d, cn u d → x u < x d) (hm : 0 ≤ m) {s0 : ST} (h0 : s0.1 = 0) : ∀ k : Nat, sInv cn x m (siter cn frC x m s0 k)
  | 0 => ⟨by show 0 ≤ s0.1; omega, fun i a b => by have : i < s0.1 := b; omega, fun i j a b c => by have : j < s0.1 := c; omega⟩
  | k + 1 => by
    have h1 := siterC_inv hx hm h0 k
    show sInv cn x m (sstep cn frC x m _)
    unfold sstep
    rcases pk_OK (cn := cn) (x := x) (m := m) frC (siter cn frC x m s0 k) hm with q | q
    · rw [q, pif_t (by decide)]; exact h1
    · rw [pif_f (by omega)]
      exact ins5_inv hx h1 q.1 q.2.1 q.2.2.1 q.2.2.2
theorem siterC_end {M : Mem} {t : ST} {k : Int} (ht : t = siter (canC M) frC (M 6) (M 4 4) (sC0 M) k.toNat) (hk : k ≤ 8) (h0 : 0 ≤ k) (h : (pk (canC M) frC (M 6) (M 4 4) t).1 < 0 ∨ k = 8) : t = sC M := by
  unfold sC
  rcases h with h | h
  · have h1 := siter_fix (k := k.toNat) (ht ▸ h) (8 - k.toNat)
    rw [show k.toNat + (8 - k.toNat) = 8 by omega] at h1
    rw [h1, ht]
  · rw [ht, h]; rfl
theorem stC_w {M : Mem} {t : ST} (hI : sInv (canC M) (M 6) (M 4 4) t) : ∀ j : Int, 0 ≤ j → j < t.1 → 1 ≤ wS t j ∧ wS t j ≤ 300 := by
  intro j h1 h2
  have h3 := sInv_w (canC_x M) hI h1 h2
  obtain ⟨-, -, a, b, c⟩ := hI.2.1 j h1 h2
  have h4 := a.1.2.2.2
  show 1 ≤ t.2.2.1 j - t.2.1 j ∧ t.2.2.1 j - t.2.1 j ≤ 300
  omega
def wedge (M : Mem) (u z : Int) : Prop := ((0 ≤ z ∧ z < M 24 0) ∧ (M 27 z = u ∨ M 28 z = u) ∧ ∀ j, 0 ≤ j → j < z → M 27 j ≠ u ∧ M 28 j ≠ u) ∨ (z = -6 ∧ ∀ j, 0 ≤ j → j < M 24 0 → M 27 j ≠ u ∧ M 28 j ≠ u)
theorem iX3_sortByWidth_X3 : ∀ w ∈ wsX30, w ∈ wsX3_sortByWidth := fun _ h => List.mem_cons_of_mem _ (List.mem_append_right _ h)
set_option maxHeartbeats 4000000 in
set_option maxRecDepth 100000 in
theorem c3_sortByWidth (l : Launch) (a : Nat → Nat) (M : Mem) (hn : 0 ≤ M 24 0 ∧ M 24 0 ≤ 8) (hw : ∀ j : Int, 0 ≤ j → j < M 24 0 → 1 ≤ wdC M j ∧ wdC M j ≤ 300) : CtV XS l yX3_sortByWidth wsX3_sortByWidth ({ frames := 1, cells := 0, slots := 0, locals := 21 } : Room) LC a M [.ref (a 24)] (fun M' => ∃ od : Int → Int, M' = sc M 33 od ∧ isOrd (M 24 0) (wdC M) od) := by
  refine CtV.of (y := yX3_sortByWidth) (cc := cX3_sortByWidth) (maxL := 3) (ret := none) (lv := [some (.ref (a 24)), none, none]) (by decide) rfl (Nat.le_of_ble_eq_true rfl) (lvOK_of _ _ ⟨rfl, rfl⟩) ?_
  intro p e s m below meth c D T F K X0 hr hlk
  have hXc := XS_c
  refine g_iconst F (pc' := 1) dX3_sortByWidth_0 rfl ?_
  refine g_istore_n F (pc' := 2) (lv' := [some (.ref (a 24)), some (.int (iI 0)), none]) dX3_sortByWidth_1 rfl (by decide) rfl ?_
  refine h_mem (sc M 33 (M 33)) (sc_id M 33).symm ?_
  have lp_2 : ∀ (n_2 : Nat) (i : Int) (od : Int → Int) (hm_2 : M 24 0 - i < (n_2 : Int)) (hi : 0 ≤ i ∧ i ≤ M 24 0) (ho : isOrd i (wdC M) od), GG p l e ({ frames := 1, cells := 0, slots := 0, locals := 21 } : Room) s m ([.ref (a 24)].toArray) below meth c (PV D T a LC M (fun M' => ∃ od : Int → Int, M' = sc M 33 od ∧ isOrd (M 24 0) (wdC M) od) below ([.ref (a 24)].toArray) s) D (AA T a LC M s.heap.size) 3 (wld T a LC (sc M 33 od)) 2 [some (.ref (a 24)), some (.int (iI i)), none] [] := by
    intro n_2
    induction n_2 with
    | zero => intro i od hm_2 hi ho; exfalso; omega
    | succ n_2 ih_2 =>
      intro i od hm_2 hi ho
      have lp_12 : ∀ (n_12 : Nat) (q : Int) (hm_12 : q < (n_12 : Int)) (h4 : i < M 24 0) (hq : 0 ≤ q ∧ q ≤ i) (hip : iposI (fun k => wdC M (od k)) (wdC M i) i = iposI (fun k => wdC M (od k)) (wdC M i) q), GG p l e ({ frames := 1, cells := 0, slots := 0, locals := 21 } : Room) s m ([.ref (a 24)].toArray) below meth c (PV D T a LC M (fun M' => ∃ od : Int → Int, M' = sc M 33 od ∧ isOrd (M 24 0) (wdC M) od) below ([.ref (a 24)].toArray) s) D (AA T a LC M s.heap.size) 3 (wld T a LC (sc M 33 (shN od q i))) 12 [some (.ref (a 24)), some (.int (iI i)), some (.int (iI q))] [] := by
        intro n_12
        induction n_12 with
        | zero => intro q hm_12 h4 hq hip; exfalso; omega
        | succ n_12 ih_12 =>
          intro q hm_12 h4 hq hip
          refine g_iload_n F (pc' := 13) dX3_sortByWidth_12 rfl rfl ?_
          refine g_if_le F (pc' := 16) (tgt := 56) dX3_sortByWidth_13 rfl (by decide) (by omega) (fun c_13 => ?_) (fun c_13 => ?_)
          · skip
            have hq5 : iposI (fun k => wdC M (od k)) (wdC M i) i = q := by rw [hip]; first | exact iposI_f (by omega) c_33 | (rw [show q = 0 by omega]; rfl)
            refine g_aload_n F (pc' := 57) dX3_sortByWidth_56 rfl rfl ?_
            refine g_getR F K (k := 24) (fld := 10) (ci := 3) (q := 33) (pc' := 60) iX3_sortByWidth_X3 rfl rfl rfl (by decide) (List.mem_of_getElem? (i := 2) rfl) dX3_sortByWidth_57 rfl ?_
            refine g_iload_n F (pc' := 61) dX3_sortByWidth_60 rfl rfl ?_
            refine g_iload_n F (pc' := 62) dX3_sortByWidth_61 rfl rfl ?_
            refine h_iast F K (k := 33) (pc' := 63) (sc M 33 (upf (shN od q i) q i)) (mem_up (by rfl) (by intro j hj; simp only [sc, if_neg hj])) rfl (by decide) (by omega) dX3_sortByWidth_62 rfl ?_
            refine g_iinc F (pc' := 66) (lv' := [some (.ref (a 24)), some (.int (iI (i + 1))), some (.int (iI q))]) dX3_sortByWidth_63 rfl rfl (by decide) rfl ?_
            refine g_goto F (tgt := 2) dX3_sortByWidth_66 (by decide) ?_
            refine g_lvw [some (.ref (a 24)), some (.int (iI (i + 1))), none] (lvw_of _ _ [true, true, false] rfl) ?_
            exact ih_2 (i + 1) (upf (shN od q i) q i) (by omega) (by omega) (by rw [shN_i, ← hq5]; exact isOrd_ins hi.1 ho)
          · skip
            refine g_aload_n F (pc' := 17) dX3_sortByWidth_16 rfl rfl ?_
            refine g_aload_n F (pc' := 18) dX3_sortByWidth_17 rfl rfl ?_
            refine g_getR F K (k := 24) (fld := 10) (ci := 3) (q := 33) (pc' := 21) iX3_sortByWidth_X3 rfl rfl rfl (by decide) (List.mem_of_getElem? (i := 2) rfl) dX3_sortByWidth_18 rfl ?_
            refine g_iload_n F (pc' := 22) dX3_sortByWidth_21 rfl rfl ?_
            refine g_iconst F (pc' := 23) dX3_sortByWidth_22 rfl ?_
            refine g_isub F (pc' := 24) dX3_sortByWidth_23 rfl ?_
            refine g_iald F K (k := 33) (v := od (q - 1)) (pc' := 25) rfl (by decide) (by omega) dX3_sortByWidth_24 rfl (by simp [sc, shN_at]) ?_
            have b_24 := ho.1 (q - 1) (by omega) (by omega)
            refine g_callI F K hXc X0 (pc' := 28) (st := []) (c3_width l a (sc M 33 (shN od q i)) (od (q - 1)) (by omega)) (cwV 1 F.2.2.2.2 gX3_sortByWidth_X3_width rfl rfl rfl (by decide +kernel) ⟨Nat.le_of_ble_eq_true rfl, Nat.le_of_ble_eq_true rfl⟩) rfl rfl rfl rfl (Nat.le_of_ble_eq_true rfl) dX3_sortByWidth_25 rfl (fun z_25 M_25 q_25 => ?_)
            obtain ⟨rfl, mq_25⟩ := q_25
            have mq_25 := mq_25.symm; subst mq_25
            refine h_top (z' := wdC M (od (q - 1))) rfl ?_
            have b_25 := hw (od (q - 1)) (by omega) (by omega)
            refine g_aload_n F (pc' := 29) dX3_sortByWidth_28 rfl rfl ?_
            refine g_iload_n F (pc' := 30) dX3_sortByWidth_29 rfl rfl ?_
            refine g_callI F K hXc X0 (pc' := 33) (st := [.int (iI (wdC M (od (q - 1))))]) (c3_width l a (sc M 33 (shN od q i)) i (by omega)) (cwV 1 F.2.2.2.2 gX3_sortByWidth_X3_width rfl rfl rfl (by decide +kernel) ⟨Nat.le_of_ble_eq_true rfl, Nat.le_of_ble_eq_true rfl⟩) rfl rfl rfl rfl (Nat.le_of_ble_eq_true rfl) dX3_sortByWidth_30 rfl (fun z_30 M_30 q_30 => ?_)
            obtain ⟨rfl, mq_30⟩ := q_30
            have mq_30 := mq_30.symm; subst mq_30
            refine h_top (z' := wdC M i) rfl ?_
            have b_30 := hw i (by omega) (by omega)
            refine g_icmp_le F (pc' := 36) (tgt := 56) dX3_sortByWidth_33 rfl (by decide) (by omega) (by omega) (fun c_33 => ?_) (fun c_33 => ?_)
            · skip
              have hq5 : iposI (fun k => wdC M (od k)) (wdC M i) i = q := by rw [hip]; first | exact iposI_f (by omega) c_33 | (rw [show q = 0 by omega]; rfl)
              refine g_aload_n F (pc' := 57) dX3_sortByWidth_56 rfl rfl ?_
              refine g_getR F K (k := 24) (fld := 10) (ci := 3) (q := 33) (pc' := 60) iX3_sortByWidth_X3 rfl rfl rfl (by decide) (List.mem_of_getElem? (i := 2) rfl) dX3_sortByWidth_57 rfl ?_
              refine g_iload_n F (pc' := 61) dX3_sortByWidth_60 rfl rfl ?_
              refine g_iload_n F (pc' := 62) dX3_sortByWidth_61 rfl rfl ?_
              refine h_iast F K (k := 33) (pc' := 63) (sc M 33 (upf (shN od q i) q i)) (mem_up (by rfl) (by intro j hj; simp only [sc, if_neg hj])) rfl (by decide) (by omega) dX3_sortByWidth_62 rfl ?_
              refine g_iinc F (pc' := 66) (lv' := [some (.ref (a 24)), some (.int (iI (i + 1))), some (.int (iI q))]) dX3_sortByWidth_63 rfl rfl (by decide) rfl ?_
              refine g_goto F (tgt := 2) dX3_sortByWidth_66 (by decide) ?_
              refine g_lvw [some (.ref (a 24)), some (.int (iI (i + 1))), none] (lvw_of _ _ [true, true, false] rfl) ?_
              exact ih_2 (i + 1) (upf (shN od q i) q i) (by omega) (by omega) (by rw [shN_i, ← hq5]; exact isOrd_ins hi.1 ho)
            · skip
              refine g_aload_n F (pc' := 37) dX3_sortByWidth_36 rfl rfl ?_
              refine g_getR F K (k := 24) (fld := 10) (ci := 3) (q := 33) (pc' := 40) iX3_sortByWidth_X3 rfl rfl rfl (by decide) (List.mem_of_getElem? (i := 2) rfl) dX3_sortByWidth_37 rfl ?_
              refine g_iload_n F (pc' := 41) dX3_sortByWidth_40 rfl rfl ?_
              refine g_aload_n F (pc' := 42) dX3_sortByWidth_41 rfl rfl ?_
              refine g_getR F K (k := 24) (fld := 10) (ci := 3) (q := 33) (pc' := 45) iX3_sortByWidth_X3 rfl rfl rfl (by decide) (List.mem_of_getElem? (i := 2) rfl) dX3_sortByWidth_42 rfl ?_
              refine g_iload_n F (pc' := 46) dX3_sortByWidth_45 rfl rfl ?_
              refine g_iconst F (pc' := 47) dX3_sortByWidth_46 rfl ?_
              refine g_isub F (pc' := 48) dX3_sortByWidth_47 rfl ?_
              refine g_iald F K (k := 33) (v := (shN od q i) (q - 1)) (pc' := 49) rfl (by decide) (by omega) dX3_sortByWidth_48 rfl (by first | rfl | simp [upf, sc]) ?_
              refine h_iast F K (k := 33) (pc' := 50) (sc M 33 (upf (shN od q i) q ((shN od q i) (q - 1)))) (mem_up (by rfl) (by intro j hj; simp only [sc, if_neg hj])) rfl (by decide) (by omega) dX3_sortByWidth_49 rfl ?_
              refine g_iinc F (pc' := 53) (lv' := [some (.ref (a 24)), some (.int (iI i)), some (.int (iI (q + (-1))))]) dX3_sortByWidth_50 rfl rfl (by decide) rfl ?_
              refine g_goto F (tgt := 12) dX3_sortByWidth_53 (by decide) ?_
              refine h_mem (sc M 33 (shN od (q + (-1)) i)) (by rw [shN_s (by omega)]) ?_
              exact ih_12 (q + (-1)) (by omega) (by omega) (by omega) (by first | rfl | (rw [hip]; exact iposI_t (by omega) c_33))
      refine g_iload_n F (pc' := 3) dX3_sortByWidth_2 rfl rfl ?_
      refine g_aload_n F (pc' := 4) dX3_sortByWidth_3 rfl rfl ?_
      refine g_getI F K (k := 24) (fld := 0) (ci := 3) (z := M 24 0) (pc' := 7) iX3_sortByWidth_X3 rfl rfl rfl (by decide) (List.mem_of_getElem? (i := 1) rfl) dX3_sortByWidth_4 rfl (by first | rfl | simp [upf, sc]) ?_
      refine g_icmp_ge F (pc' := 10) (tgt := 69) dX3_sortByWidth_7 rfl (by decide) (by omega) (by omega) (fun c_7 => ?_) (fun c_7 => ?_)
      · skip
        exact g_vret F hr hlk dX3_sortByWidth_69 (⟨od, rfl, by rw [show M 24 0 = i by omega]; exact ho⟩)
      · skip
        refine g_iload_n F (pc' := 11) dX3_sortByWidth_10 rfl rfl ?_
        refine g_istore_n F (pc' := 12) (lv' := [some (.ref (a 24)), some (.int (iI i)), some (.int (iI i))]) dX3_sortByWidth_11 rfl (by decide) rfl ?_
        refine h_mem (sc M 33 (shN od i i)) (by rw [shN_0]) ?_
        exact lp_12 ((i : Int).toNat + 1) i (by omega) (by omega) (by omega) (by first | rfl | (rw [hip]; exact iposI_t (by omega) c_33))
  exact lp_2 ((M 24 0 - 0 : Int).toNat + 1) 0 (M 33) (by omega) (by omega) (isOrd_0 _ _)

theorem iX3_makeGroups_X3 : ∀ w ∈ wsX30, w ∈ wsX3_makeGroups := fun _ h => List.mem_cons_of_mem _ (List.mem_append_right _ h)
set_option maxHeartbeats 4000000 in
set_option maxRecDepth 100000 in
theorem c3_makeGroups (l : Launch) (a : Nat → Nat) (M : Mem) (tol : Int) (hn : 0 ≤ M 24 0 ∧ M 24 0 ≤ 8) (hw : ∀ j : Int, 0 ≤ j → j < M 24 0 → 1 ≤ wdC M j ∧ wdC M j ≤ 300) (ho : isOrd (M 24 0) (wdC M) (M 33)) (ht : 0 ≤ tol ∧ tol ≤ 99) : CtV XS l yX3_makeGroups wsX3_makeGroups ({ frames := 1, cells := 0, slots := 0, locals := 21 } : Room) LC a M [.ref (a 24), .int (iI tol)] (fun M' => M' = lgC M (giterI tol (wdC M) (M 33) (gC0 M) (M 24 0))) := by
  refine CtV.of (y := yX3_makeGroups) (cc := cX3_makeGroups) (maxL := 4) (ret := none) (lv := [some (.ref (a 24)), some (.int (iI tol)), none, none]) (by decide) rfl (Nat.le_of_ble_eq_true rfl) (lvOK_of _ _ ⟨rfl, rfl⟩) ?_
  intro p e s m below meth c D T F K X0 hr hlk
  have hXc := XS_c
  refine g_aload_n F (pc' := 1) dX3_makeGroups_0 rfl rfl ?_
  refine g_iconst F (pc' := 2) dX3_makeGroups_1 rfl ?_
  refine h_putI F K (k := 24) (fld := 6) (ci := 3) (pc' := 5) (sc M 24 (upf (M 24) 6 0)) (mem_up (by rfl) (by intro j hj; simp only [sc, if_neg hj])) tyX3 tyX3_ok nmX3 iX3_makeGroups_X3 rfl rfl rfl (by decide) rfl rfl (List.mem_of_getElem? (i := 1) rfl) dX3_makeGroups_2 rfl ?_
  refine g_iconst F (pc' := 6) dX3_makeGroups_5 rfl ?_
  refine g_istore_n F (pc' := 7) (lv' := [some (.ref (a 24)), some (.int (iI tol)), some (.int (iI 0)), none]) dX3_makeGroups_6 rfl (by decide) rfl ?_
  refine h_mem (sc (sc (sc (sc (sc M 24 (upf (M 24) 6 (gC0 M).1)) 29 (gC0 M).2.1) 30 (gC0 M).2.2.1) 31 (gC0 M).2.2.2.1) 32 (gC0 M).2.2.2.2) (lgC_0 M) ?_
  have lp_7 : ∀ (n_7 : Nat) (k : Int) (g : GS) (hm_7 : M 24 0 - k < (n_7 : Int)) (h0 : 0 ≤ k ∧ k ≤ M 24 0) (hg : g = giterI tol (wdC M) (M 33) (gC0 M) k), GG p l e ({ frames := 1, cells := 0, slots := 0, locals := 21 } : Room) s m ([.ref (a 24), .int (iI tol)].toArray) below meth c (PV D T a LC M (fun M' => M' = lgC M (giterI tol (wdC M) (M 33) (gC0 M) (M 24 0))) below ([.ref (a 24), .int (iI tol)].toArray) s) D (AA T a LC M s.heap.size) 4 (wld T a LC (sc (sc (sc (sc (sc M 24 (upf (M 24) 6 g.1)) 29 g.2.1) 30 g.2.2.1) 31 g.2.2.2.1) 32 g.2.2.2.2)) 7 [some (.ref (a 24)), some (.int (iI tol)), some (.int (iI k)), none] [] := by
    intro n_7
    induction n_7 with
    | zero => intro k g hm_7 h0 hg; exfalso; omega
    | succ n_7 ih_7 =>
      intro k g hm_7 h0 hg
      have hI : gInv (M 24 0) (wdC M) (M 33) k g := hg ▸ giterI_inv ho hw rfl h0
      have hs1 : k < M 24 0 → gstep tol (wdC M) g (M 33 k) = giterI tol (wdC M) (M 33) (gC0 M) (k + 1) := fun _ => by rw [giterI_s h0.1, ← hg]
      have hI1 := hI.1
      have lp_94 : ∀ (h : GS) (hk2 : k < M 24 0) (hh : h = gmid tol g (wdC M (M 33 k))), GG p l e ({ frames := 1, cells := 0, slots := 0, locals := 21 } : Room) s m ([.ref (a 24), .int (iI tol)].toArray) below meth c (PV D T a LC M (fun M' => M' = lgC M (giterI tol (wdC M) (M 33) (gC0 M) (M 24 0))) below ([.ref (a 24), .int (iI tol)].toArray) s) D (AA T a LC M s.heap.size) 4 (wld T a LC (sc (sc (sc (sc (sc M 24 (upf (M 24) 6 h.1)) 29 h.2.1) 30 h.2.2.1) 31 h.2.2.2.1) 32 h.2.2.2.2)) 94 [some (.ref (a 24)), some (.int (iI tol)), some (.int (iI k)), some (.int (iI (M 33 k)))] [] := by
        intro h hk2 hh
        have hox := ho.1 k h0.1 hk2
        have hwx := hw (M 33 k) hox.1 hox.2
        have hM := gmid_inv (tol := tol) hI hwx h0.1
        rw [← hh] at hM
        have hc1 := hM.2.1 (h.1 - 1) (by omega) (by omega)
        refine g_aload_n F (pc' := 95) dX3_makeGroups_94 rfl rfl ?_
        refine g_getR F K (k := 24) (fld := 5) (ci := 3) (q := 29) (pc' := 98) iX3_makeGroups_X3 rfl rfl rfl (by decide) (List.mem_of_getElem? (i := 7) rfl) dX3_makeGroups_95 rfl ?_
        refine g_iload_n F (pc' := 99) dX3_makeGroups_98 rfl rfl ?_
        refine g_aload_n F (pc' := 100) dX3_makeGroups_99 rfl rfl ?_
        refine g_getI F K (k := 24) (fld := 6) (ci := 3) (z := h.1) (pc' := 103) iX3_makeGroups_X3 rfl rfl rfl (by decide) (List.mem_of_getElem? (i := 1) rfl) dX3_makeGroups_100 rfl (by first | rfl | exact upf_s _ _ _ | simp [upf, sc]) ?_
        refine g_iconst F (pc' := 104) dX3_makeGroups_103 rfl ?_
        refine g_isub F (pc' := 105) dX3_makeGroups_104 rfl ?_
        refine h_iast F K (k := 29) (pc' := 106) (sc (sc (sc (sc (sc M 24 (upf (M 24) 6 h.1)) 29 (upf h.2.1 (M 33 k) (h.1 - 1))) 30 h.2.2.1) 31 h.2.2.2.1) 32 h.2.2.2.2) (mem_up (by rfl) (by intro j hj; simp only [sc, if_neg hj])) rfl (by decide) (by omega) dX3_makeGroups_105 rfl ?_
        refine g_aload_n F (pc' := 107) dX3_makeGroups_106 rfl rfl ?_
        refine g_getR F K (k := 24) (fld := 7) (ci := 3) (q := 30) (pc' := 110) iX3_makeGroups_X3 rfl rfl rfl (by decide) (List.mem_of_getElem? (i := 5) rfl) dX3_makeGroups_107 rfl ?_
        refine g_aload_n F (pc' := 111) dX3_makeGroups_110 rfl rfl ?_
        refine g_getI F K (k := 24) (fld := 6) (ci := 3) (z := h.1) (pc' := 114) iX3_makeGroups_X3 rfl rfl rfl (by decide) (List.mem_of_getElem? (i := 1) rfl) dX3_makeGroups_111 rfl (by first | rfl | exact upf_s _ _ _ | simp [upf, sc]) ?_
        refine g_iconst F (pc' := 115) dX3_makeGroups_114 rfl ?_
        refine g_isub F (pc' := 116) dX3_makeGroups_115 rfl ?_
        refine g_dup2 F (pc' := 117) dX3_makeGroups_116 rfl rfl rfl ?_
        refine g_iald F K (k := 30) (v := h.2.2.1 (h.1 - 1)) (pc' := 118) rfl (by decide) (by omega) dX3_makeGroups_117 rfl (by first | rfl | simp [upf, sc]) ?_
        refine g_iconst F (pc' := 119) dX3_makeGroups_118 rfl ?_
        refine g_iadd F (pc' := 120) dX3_makeGroups_119 rfl ?_
        refine h_iast F K (k := 30) (pc' := 121) (sc (sc (sc (sc (sc M 24 (upf (M 24) 6 h.1)) 29 (upf h.2.1 (M 33 k) (h.1 - 1))) 30 (upf h.2.2.1 (h.1 - 1) ((h.2.2.1 (h.1 - 1)) + 1))) 31 h.2.2.2.1) 32 h.2.2.2.2) (mem_up (by rfl) (by intro j hj; simp only [sc, if_neg hj])) rfl (by decide) (by omega) dX3_makeGroups_120 rfl ?_
        refine g_aload_n F (pc' := 122) dX3_makeGroups_121 rfl rfl ?_
        refine g_getR F K (k := 24) (fld := 9) (ci := 3) (q := 32) (pc' := 125) iX3_makeGroups_X3 rfl rfl rfl (by decide) (List.mem_of_getElem? (i := 6) rfl) dX3_makeGroups_122 rfl ?_
        refine g_aload_n F (pc' := 126) dX3_makeGroups_125 rfl rfl ?_
        refine g_getI F K (k := 24) (fld := 6) (ci := 3) (z := h.1) (pc' := 129) iX3_makeGroups_X3 rfl rfl rfl (by decide) (List.mem_of_getElem? (i := 1) rfl) dX3_makeGroups_126 rfl (by first | rfl | exact upf_s _ _ _ | simp [upf, sc]) ?_
        refine g_iconst F (pc' := 130) dX3_makeGroups_129 rfl ?_
        refine g_isub F (pc' := 131) dX3_makeGroups_130 rfl ?_
        refine g_dup2 F (pc' := 132) dX3_makeGroups_131 rfl rfl rfl ?_
        refine g_iald F K (k := 32) (v := h.2.2.2.2 (h.1 - 1)) (pc' := 133) rfl (by decide) (by omega) dX3_makeGroups_132 rfl (by first | rfl | simp [upf, sc]) ?_
        refine g_aload_n F (pc' := 134) dX3_makeGroups_133 rfl rfl ?_
        refine g_iload_n F (pc' := 135) dX3_makeGroups_134 rfl rfl ?_
        refine g_callI F K hXc X0 (pc' := 138) (st := [.int (iI (h.2.2.2.2 (h.1 - 1))), .int (iI (h.1 - 1)), .ref (a 32)]) (c3_width l a (sc (sc (sc (sc (sc M 24 (upf (M 24) 6 h.1)) 29 (upf h.2.1 (M 33 k) (h.1 - 1))) 30 (upf h.2.2.1 (h.1 - 1) ((h.2.2.1 (h.1 - 1)) + 1))) 31 h.2.2.2.1) 32 h.2.2.2.2) (M 33 k) (by omega)) (cwV 1 F.2.2.2.2 gX3_makeGroups_X3_width rfl rfl rfl (by decide +kernel) ⟨Nat.le_of_ble_eq_true rfl, Nat.le_of_ble_eq_true rfl⟩) rfl rfl rfl rfl (Nat.le_of_ble_eq_true rfl) dX3_makeGroups_135 rfl (fun z_135 M_135 q_135 => ?_)
        obtain ⟨rfl, mq_135⟩ := q_135
        have mq_135 := mq_135.symm; subst mq_135
        refine h_top (z' := wdC M (M 33 k)) rfl ?_
        have b_135 := hw (M 33 k) (by omega) (by omega)
        refine g_iadd F (pc' := 139) dX3_makeGroups_138 rfl ?_
        refine h_iast F K (k := 32) (pc' := 140) (sc (sc (sc (sc (sc M 24 (upf (M 24) 6 h.1)) 29 (upf h.2.1 (M 33 k) (h.1 - 1))) 30 (upf h.2.2.1 (h.1 - 1) ((h.2.2.1 (h.1 - 1)) + 1))) 31 h.2.2.2.1) 32 (upf h.2.2.2.2 (h.1 - 1) ((h.2.2.2.2 (h.1 - 1)) + (wdC M (M 33 k))))) (mem_up (by rfl) (by intro j hj; simp only [sc, if_neg hj])) rfl (by decide) (by omega) dX3_makeGroups_139 rfl ?_
        refine g_iinc F (pc' := 143) (lv' := [some (.ref (a 24)), some (.int (iI tol)), some (.int (iI (k + 1))), some (.int (iI (M 33 k)))]) dX3_makeGroups_140 rfl rfl (by decide) rfl ?_
        refine g_goto F (tgt := 7) dX3_makeGroups_143 (by decide) ?_
        refine h_mem (sc (sc (sc (sc (sc M 24 (upf (M 24) 6 (gadd h (M 33 k) (wdC M (M 33 k))).1)) 29 (gadd h (M 33 k) (wdC M (M 33 k))).2.1) 30 (gadd h (M 33 k) (wdC M (M 33 k))).2.2.1) 31 (gadd h (M 33 k) (wdC M (M 33 k))).2.2.2.1) 32 (gadd h (M 33 k) (wdC M (M 33 k))).2.2.2.2) rfl ?_
        refine g_lvw [some (.ref (a 24)), some (.int (iI tol)), some (.int (iI (k + 1))), none] (lvw_of _ _ [true, true, true, false] rfl) ?_
        exact ih_7 (k + 1) (gadd h (M 33 k) (wdC M (M 33 k))) (by omega) (by omega) (by rw [← hs1 (by omega), hh]; rfl)
      refine g_iload_n F (pc' := 8) dX3_makeGroups_7 rfl rfl ?_
      refine g_aload_n F (pc' := 9) dX3_makeGroups_8 rfl rfl ?_
      refine g_getI F K (k := 24) (fld := 0) (ci := 3) (z := M 24 0) (pc' := 12) iX3_makeGroups_X3 rfl rfl rfl (by decide) (List.mem_of_getElem? (i := 2) rfl) dX3_makeGroups_9 rfl (by first | rfl | simp [upf, sc]) ?_
      refine g_icmp_ge F (pc' := 15) (tgt := 146) dX3_makeGroups_12 rfl (by decide) (by omega) (by omega) (fun c_12 => ?_) (fun c_12 => ?_)
      · skip
        exact g_vret F hr hlk dX3_makeGroups_146 (lgC_leaf (by omega) hg)
      · skip
        have hox := ho.1 k h0.1 c_12
        refine g_aload_n F (pc' := 16) dX3_makeGroups_15 rfl rfl ?_
        refine g_getR F K (k := 24) (fld := 10) (ci := 3) (q := 33) (pc' := 19) iX3_makeGroups_X3 rfl rfl rfl (by decide) (List.mem_of_getElem? (i := 3) rfl) dX3_makeGroups_16 rfl ?_
        refine g_iload_n F (pc' := 20) dX3_makeGroups_19 rfl rfl ?_
        refine g_iald F K (k := 33) (v := M 33 k) (pc' := 21) rfl (by decide) (by omega) dX3_makeGroups_20 rfl (by first | rfl | simp [upf, sc]) ?_
        refine g_istore_n F (pc' := 22) (lv' := [some (.ref (a 24)), some (.int (iI tol)), some (.int (iI k)), some (.int (iI (M 33 k)))]) dX3_makeGroups_21 rfl (by decide) rfl ?_
        refine g_aload_n F (pc' := 23) dX3_makeGroups_22 rfl rfl ?_
        refine g_getI F K (k := 24) (fld := 6) (ci := 3) (z := g.1) (pc' := 26) iX3_makeGroups_X3 rfl rfl rfl (by decide) (List.mem_of_getElem? (i := 1) rfl) dX3_makeGroups_23 rfl (by first | rfl | exact upf_s _ _ _ | simp [upf, sc]) ?_
        refine g_if_eq F (pc' := 29) (tgt := 50) dX3_makeGroups_26 rfl (by decide) (by omega) (fun c_26 => ?_) (fun c_26 => ?_)
        · skip
          refine g_aload_n F (pc' := 51) dX3_makeGroups_50 rfl rfl ?_
          refine g_getR F K (k := 24) (fld := 7) (ci := 3) (q := 30) (pc' := 54) iX3_makeGroups_X3 rfl rfl rfl (by decide) (List.mem_of_getElem? (i := 5) rfl) dX3_makeGroups_51 rfl ?_
          refine g_aload_n F (pc' := 55) dX3_makeGroups_54 rfl rfl ?_
          refine g_getI F K (k := 24) (fld := 6) (ci := 3) (z := g.1) (pc' := 58) iX3_makeGroups_X3 rfl rfl rfl (by decide) (List.mem_of_getElem? (i := 1) rfl) dX3_makeGroups_55 rfl (by first | rfl | exact upf_s _ _ _ | simp [upf, sc]) ?_
          refine g_iconst F (pc' := 59) dX3_makeGroups_58 rfl ?_
          refine h_iast F K (k := 30) (pc' := 60) (sc (sc (sc (sc (sc M 24 (upf (M 24) 6 g.1)) 29 g.2.1) 30 (upf g.2.2.1 g.1 0)) 31 g.2.2.2.1) 32 g.2.2.2.2) (mem_up (by rfl) (by intro j hj; simp only [sc, if_neg hj])) rfl (by decide) (by omega) dX3_makeGroups_59 rfl ?_
          refine g_aload_n F (pc' := 61) dX3_makeGroups_60 rfl rfl ?_
          refine g_getR F K (k := 24) (fld := 8) (ci := 3) (q := 31) (pc' := 64) iX3_makeGroups_X3 rfl rfl rfl (by decide) (List.mem_of_getElem? (i := 4) rfl) dX3_makeGroups_61 rfl ?_
          refine g_aload_n F (pc' := 65) dX3_makeGroups_64 rfl rfl ?_
          refine g_getI F K (k := 24) (fld := 6) (ci := 3) (z := g.1) (pc' := 68) iX3_makeGroups_X3 rfl rfl rfl (by decide) (List.mem_of_getElem? (i := 1) rfl) dX3_makeGroups_65 rfl (by first | rfl | exact upf_s _ _ _ | simp [upf, sc]) ?_
          refine g_aload_n F (pc' := 69) dX3_makeGroups_68 rfl rfl ?_
          refine g_iload_n F (pc' := 70) dX3_makeGroups_69 rfl rfl ?_
          refine g_callI F K hXc X0 (pc' := 73) (st := [.int (iI g.1), .ref (a 31)]) (c3_width l a (sc (sc (sc (sc (sc M 24 (upf (M 24) 6 g.1)) 29 g.2.1) 30 (upf g.2.2.1 g.1 0)) 31 g.2.2.2.1) 32 g.2.2.2.2) (M 33 k) (by omega)) (cwV 1 F.2.2.2.2 gX3_makeGroups_X3_width rfl rfl rfl (by decide +kernel) ⟨Nat.le_of_ble_eq_true rfl, Nat.le_of_ble_eq_true rfl⟩) rfl rfl rfl rfl (Nat.le_of_ble_eq_true rfl) dX3_makeGroups_70 rfl (fun z_70 M_70 q_70 => ?_)
          obtain ⟨rfl, mq_70⟩ := q_70
          have mq_70 := mq_70.symm; subst mq_70
          refine h_top (z' := wdC M (M 33 k)) rfl ?_
          have b_70 := hw (M 33 k) (by omega) (by omega)
          refine h_iast F K (k := 31) (pc' := 74) (sc (sc (sc (sc (sc M 24 (upf (M 24) 6 g.1)) 29 g.2.1) 30 (upf g.2.2.1 g.1 0)) 31 (upf g.2.2.2.1 g.1 (wdC M (M 33 k)))) 32 g.2.2.2.2) (mem_up (by rfl) (by intro j hj; simp only [sc, if_neg hj])) rfl (by decide) (by omega) dX3_makeGroups_73 rfl ?_
          refine g_aload_n F (pc' := 75) dX3_makeGroups_74 rfl rfl ?_
          refine g_getR F K (k := 24) (fld := 9) (ci := 3) (q := 32) (pc' := 78) iX3_makeGroups_X3 rfl rfl rfl (by decide) (List.mem_of_getElem? (i := 6) rfl) dX3_makeGroups_75 rfl ?_
          refine g_aload_n F (pc' := 79) dX3_makeGroups_78 rfl rfl ?_
          refine g_getI F K (k := 24) (fld := 6) (ci := 3) (z := g.1) (pc' := 82) iX3_makeGroups_X3 rfl rfl rfl (by decide) (List.mem_of_getElem? (i := 1) rfl) dX3_makeGroups_79 rfl (by first | rfl | exact upf_s _ _ _ | simp [upf, sc]) ?_
          refine g_iconst F (pc' := 83) dX3_makeGroups_82 rfl ?_
          refine h_iast F K (k := 32) (pc' := 84) (sc (sc (sc (sc (sc M 24 (upf (M 24) 6 g.1)) 29 g.2.1) 30 (upf g.2.2.1 g.1 0)) 31 (upf g.2.2.2.1 g.1 (wdC M (M 33 k)))) 32 (upf g.2.2.2.2 g.1 0)) (mem_up (by rfl) (by intro j hj; simp only [sc, if_neg hj])) rfl (by decide) (by omega) dX3_makeGroups_83 rfl ?_
          refine g_aload_n F (pc' := 85) dX3_makeGroups_84 rfl rfl ?_
          refine g_dup F (pc' := 86) dX3_makeGroups_85 rfl rfl ?_
          refine g_getI F K (k := 24) (fld := 6) (ci := 3) (z := g.1) (pc' := 89) iX3_makeGroups_X3 rfl rfl rfl (by decide) (List.mem_of_getElem? (i := 1) rfl) dX3_makeGroups_86 rfl (by first | rfl | exact upf_s _ _ _ | simp [upf, sc]) ?_
          refine g_iconst F (pc' := 90) dX3_makeGroups_89 rfl ?_
          refine g_iadd F (pc' := 91) dX3_makeGroups_90 rfl ?_
          refine h_putI F K (k := 24) (fld := 6) (ci := 3) (pc' := 94) (sc (sc (sc (sc (sc M 24 (upf (M 24) 6 (g.1 + 1))) 29 g.2.1) 30 (upf g.2.2.1 g.1 0)) 31 (upf g.2.2.2.1 g.1 (wdC M (M 33 k)))) 32 (upf g.2.2.2.2 g.1 0)) (mem_up (by first | exact (upf_w _ _ _ _).symm | funext i; simp only [upf, sc]; (repeat' split) <;> first | rfl | omega | simp_all) (by intro j hj; simp only [sc, if_neg hj])) tyX3 tyX3_ok nmX3 iX3_makeGroups_X3 rfl rfl rfl (by decide) rfl rfl (List.mem_of_getElem? (i := 1) rfl) dX3_makeGroups_91 rfl ?_
          refine h_mem (sc (sc (sc (sc (sc M 24 (upf (M 24) 6 (gopen g (wdC M (M 33 k))).1)) 29 (gopen g (wdC M (M 33 k))).2.1) 30 (gopen g (wdC M (M 33 k))).2.2.1) 31 (gopen g (wdC M (M 33 k))).2.2.2.1) 32 (gopen g (wdC M (M 33 k))).2.2.2.2) rfl ?_
          exact lp_94 (gopen g (wdC M (M 33 k))) (c_12) (by first | exact (pif_t (by unfold gnew; omega)).symm | exact (pif_f (by unfold gnew; omega)).symm)
        · skip
          refine g_aload_n F (pc' := 30) dX3_makeGroups_29 rfl rfl ?_
          refine g_iload_n F (pc' := 31) dX3_makeGroups_30 rfl rfl ?_
          refine g_callI F K hXc X0 (pc' := 34) (st := []) (c3_width l a (sc (sc (sc (sc (sc M 24 (upf (M 24) 6 g.1)) 29 g.2.1) 30 g.2.2.1) 31 g.2.2.2.1) 32 g.2.2.2.2) (M 33 k) (by omega)) (cwV 1 F.2.2.2.2 gX3_makeGroups_X3_width rfl rfl rfl (by decide +kernel) ⟨Nat.le_of_ble_eq_true rfl, Nat.le_of_ble_eq_true rfl⟩) rfl rfl rfl rfl (Nat.le_of_ble_eq_true rfl) dX3_makeGroups_31 rfl (fun z_31 M_31 q_31 => ?_)
          obtain ⟨rfl, mq_31⟩ := q_31
          have mq_31 := mq_31.symm; subst mq_31
          refine h_top (z' := wdC M (M 33 k)) rfl ?_
          have b_31 := hw (M 33 k) (by omega) (by omega)
          refine g_aload_n F (pc' := 35) dX3_makeGroups_34 rfl rfl ?_
          refine g_getR F K (k := 24) (fld := 8) (ci := 3) (q := 31) (pc' := 38) iX3_makeGroups_X3 rfl rfl rfl (by decide) (List.mem_of_getElem? (i := 4) rfl) dX3_makeGroups_35 rfl ?_
          refine g_aload_n F (pc' := 39) dX3_makeGroups_38 rfl rfl ?_
          refine g_getI F K (k := 24) (fld := 6) (ci := 3) (z := g.1) (pc' := 42) iX3_makeGroups_X3 rfl rfl rfl (by decide) (List.mem_of_getElem? (i := 1) rfl) dX3_makeGroups_39 rfl (by first | rfl | exact upf_s _ _ _ | simp [upf, sc]) ?_
          refine g_iconst F (pc' := 43) dX3_makeGroups_42 rfl ?_
          refine g_isub F (pc' := 44) dX3_makeGroups_43 rfl ?_
          refine g_iald F K (k := 31) (v := g.2.2.2.1 (g.1 - 1)) (pc' := 45) rfl (by decide) (by omega) dX3_makeGroups_44 rfl (by first | rfl | simp [upf, sc]) ?_
          have b_44 := hI.2.1 (g.1 - 1) (by omega) (by omega)
          refine g_isub F (pc' := 46) dX3_makeGroups_45 rfl ?_
          refine g_iload_n F (pc' := 47) dX3_makeGroups_46 rfl rfl ?_
          refine g_icmp_le F (pc' := 50) (tgt := 94) dX3_makeGroups_47 rfl (by decide) (by omega) (by omega) (fun c_47 => ?_) (fun c_47 => ?_)
          · skip
            exact lp_94 g (c_12) (by first | exact (pif_t (by unfold gnew; omega)).symm | exact (pif_f (by unfold gnew; omega)).symm)
          · skip
            refine g_aload_n F (pc' := 51) dX3_makeGroups_50 rfl rfl ?_
            refine g_getR F K (k := 24) (fld := 7) (ci := 3) (q := 30) (pc' := 54) iX3_makeGroups_X3 rfl rfl rfl (by decide) (List.mem_of_getElem? (i := 5) rfl) dX3_makeGroups_51 rfl ?_
            refine g_aload_n F (pc' := 55) dX3_makeGroups_54 rfl rfl ?_
            refine g_getI F K (k := 24) (fld := 6) (ci := 3) (z := g.1) (pc' := 58) iX3_makeGroups_X3 rfl rfl rfl (by decide) (List.mem_of_getElem? (i := 1) rfl) dX3_makeGroups_55 rfl (by first | rfl | exact upf_s _ _ _ | simp [upf, sc]) ?_
            refine g_iconst F (pc' := 59) dX3_makeGroups_58 rfl ?_
            refine h_iast F K (k := 30) (pc' := 60) (sc (sc (sc (sc (sc M 24 (upf (M 24) 6 g.1)) 29 g.2.1) 30 (upf g.2.2.1 g.1 0)) 31 g.2.2.2.1) 32 g.2.2.2.2) (mem_up (by rfl) (by intro j hj; simp only [sc, if_neg hj])) rfl (by decide) (by omega) dX3_makeGroups_59 rfl ?_
            refine g_aload_n F (pc' := 61) dX3_makeGroups_60 rfl rfl ?_
            refine g_getR F K (k := 24) (fld := 8) (ci := 3) (q := 31) (pc' := 64) iX3_makeGroups_X3 rfl rfl rfl (by decide) (List.mem_of_getElem? (i := 4) rfl) dX3_makeGroups_61 rfl ?_
            refine g_aload_n F (pc' := 65) dX3_makeGroups_64 rfl rfl ?_
            refine g_getI F K (k := 24) (fld := 6) (ci := 3) (z := g.1) (pc' := 68) iX3_makeGroups_X3 rfl rfl rfl (by decide) (List.mem_of_getElem? (i := 1) rfl) dX3_makeGroups_65 rfl (by first | rfl | exact upf_s _ _ _ | simp [upf, sc]) ?_
            refine g_aload_n F (pc' := 69) dX3_makeGroups_68 rfl rfl ?_
            refine g_iload_n F (pc' := 70) dX3_makeGroups_69 rfl rfl ?_
            refine g_callI F K hXc X0 (pc' := 73) (st := [.int (iI g.1), .ref (a 31)]) (c3_width l a (sc (sc (sc (sc (sc M 24 (upf (M 24) 6 g.1)) 29 g.2.1) 30 (upf g.2.2.1 g.1 0)) 31 g.2.2.2.1) 32 g.2.2.2.2) (M 33 k) (by omega)) (cwV 1 F.2.2.2.2 gX3_makeGroups_X3_width rfl rfl rfl (by decide +kernel) ⟨Nat.le_of_ble_eq_true rfl, Nat.le_of_ble_eq_true rfl⟩) rfl rfl rfl rfl (Nat.le_of_ble_eq_true rfl) dX3_makeGroups_70 rfl (fun z_70 M_70 q_70 => ?_)
            obtain ⟨rfl, mq_70⟩ := q_70
            have mq_70 := mq_70.symm; subst mq_70
            refine h_top (z' := wdC M (M 33 k)) rfl ?_
            have b_70 := hw (M 33 k) (by omega) (by omega)
            refine h_iast F K (k := 31) (pc' := 74) (sc (sc (sc (sc (sc M 24 (upf (M 24) 6 g.1)) 29 g.2.1) 30 (upf g.2.2.1 g.1 0)) 31 (upf g.2.2.2.1 g.1 (wdC M (M 33 k)))) 32 g.2.2.2.2) (mem_up (by rfl) (by intro j hj; simp only [sc, if_neg hj])) rfl (by decide) (by omega) dX3_makeGroups_73 rfl ?_
            refine g_aload_n F (pc' := 75) dX3_makeGroups_74 rfl rfl ?_
            refine g_getR F K (k := 24) (fld := 9) (ci := 3) (q := 32) (pc' := 78) iX3_makeGroups_X3 rfl rfl rfl (by decide) (List.mem_of_getElem? (i := 6) rfl) dX3_makeGroups_75 rfl ?_
            refine g_aload_n F (pc' := 79) dX3_makeGroups_78 rfl rfl ?_
            refine g_getI F K (k := 24) (fld := 6) (ci := 3) (z := g.1) (pc' := 82) iX3_makeGroups_X3 rfl rfl rfl (by decide) (List.mem_of_getElem? (i := 1) rfl) dX3_makeGroups_79 rfl (by first | rfl | exact upf_s _ _ _ | simp [upf, sc]) ?_
            refine g_iconst F (pc' := 83) dX3_makeGroups_82 rfl ?_
            refine h_iast F K (k := 32) (pc' := 84) (sc (sc (sc (sc (sc M 24 (upf (M 24) 6 g.1)) 29 g.2.1) 30 (upf g.2.2.1 g.1 0)) 31 (upf g.2.2.2.1 g.1 (wdC M (M 33 k)))) 32 (upf g.2.2.2.2 g.1 0)) (mem_up (by rfl) (by intro j hj; simp only [sc, if_neg hj])) rfl (by decide) (by omega) dX3_makeGroups_83 rfl ?_
            refine g_aload_n F (pc' := 85) dX3_makeGroups_84 rfl rfl ?_
            refine g_dup F (pc' := 86) dX3_makeGroups_85 rfl rfl ?_
            refine g_getI F K (k := 24) (fld := 6) (ci := 3) (z := g.1) (pc' := 89) iX3_makeGroups_X3 rfl rfl rfl (by decide) (List.mem_of_getElem? (i := 1) rfl) dX3_makeGroups_86 rfl (by first | rfl | exact upf_s _ _ _ | simp [upf, sc]) ?_
            refine g_iconst F (pc' := 90) dX3_makeGroups_89 rfl ?_
            refine g_iadd F (pc' := 91) dX3_makeGroups_90 rfl ?_
            refine h_putI F K (k := 24) (fld := 6) (ci := 3) (pc' := 94) (sc (sc (sc (sc (sc M 24 (upf (M 24) 6 (g.1 + 1))) 29 g.2.1) 30 (upf g.2.2.1 g.1 0)) 31 (upf g.2.2.2.1 g.1 (wdC M (M 33 k)))) 32 (upf g.2.2.2.2 g.1 0)) (mem_up (by first | exact (upf_w _ _ _ _).symm | funext i; simp only [upf, sc]; (repeat' split) <;> first | rfl | omega | simp_all) (by intro j hj; simp only [sc, if_neg hj])) tyX3 tyX3_ok nmX3 iX3_makeGroups_X3 rfl rfl rfl (by decide) rfl rfl (List.mem_of_getElem? (i := 1) rfl) dX3_makeGroups_91 rfl ?_
            refine h_mem (sc (sc (sc (sc (sc M 24 (upf (M 24) 6 (gopen g (wdC M (M 33 k))).1)) 29 (gopen g (wdC M (M 33 k))).2.1) 30 (gopen g (wdC M (M 33 k))).2.2.1) 31 (gopen g (wdC M (M 33 k))).2.2.2.1) 32 (gopen g (wdC M (M 33 k))).2.2.2.2) rfl ?_
            exact lp_94 (gopen g (wdC M (M 33 k))) (c_12) (by first | exact (pif_t (by unfold gnew; omega)).symm | exact (pif_f (by unfold gnew; omega)).symm)
  exact lp_7 ((M 24 0 - 0 : Int).toNat + 1) 0 (gC0 M) (by omega) (by omega) (by rfl)

theorem iX3_find_X1 : ∀ w ∈ wsX10, w ∈ wsX3_find := fun _ h => List.mem_cons_of_mem _ (List.mem_append_right _ h)
theorem iX3_find_X3 : ∀ w ∈ wsX30, w ∈ wsX3_find := fun _ h => List.mem_cons_of_mem _ (List.mem_append_left _ (List.mem_append_right _ h))
set_option maxHeartbeats 4000000 in
set_option maxRecDepth 100000 in
theorem c3_find (l : Launch) (a : Nat → Nat) (M : Mem) (hm : 0 ≤ M 4 4 ∧ M 4 4 ≤ 16) (h5 : ∀ j, 0 ≤ M 5 j ∧ M 5 j ≤ 999) (h6 : ∀ j, 0 ≤ M 6 j ∧ M 6 j ≤ 999) (h7 : ∀ j, 0 ≤ M 7 j ∧ M 7 j ≤ 999) (h8 : ∀ j, 0 ≤ M 8 j ∧ M 8 j ≤ 999) (ht : 0 ≤ M 9 0 ∧ M 9 0 ≤ 99) : CtV XS l yX3_find wsX3_find ({ frames := 3, cells := 0, slots := 0, locals := 69 } : Room) LC a M [.ref (a 24), .ref (a 4)] (fun M' => ∃ od : Int → Int, isOrd (sC M).1 (wS (sC M)) od ∧ M' = foundM M od) := by
  refine CtV.of (y := yX3_find) (cc := cX3_find) (maxL := 4) (ret := none) (lv := [some (.ref (a 24)), some (.ref (a 4)), none, none]) (by decide) rfl (Nat.le_of_ble_eq_true rfl) (lvOK_of _ _ ⟨rfl, rfl⟩) ?_
  intro p e s m below meth c D T F K X0 hr hlk
  have hXc := XS_c
  refine g_aload_n F (pc' := 1) dX3_find_0 rfl rfl ?_
  refine g_iconst F (pc' := 2) dX3_find_1 rfl ?_
  refine h_putI F K (k := 24) (fld := 0) (ci := 3) (pc' := 5) (sc M 24 (upf (M 24) 0 0)) (mem_up (by rfl) (by intro j hj; simp only [sc, if_neg hj])) tyX3 tyX3_ok nmX3 iX3_find_X3 rfl rfl rfl (by decide) rfl rfl (List.mem_of_getElem? (i := 1) rfl) dX3_find_2 rfl ?_
  refine g_iconst F (pc' := 6) dX3_find_5 rfl ?_
  refine g_istore_n F (pc' := 7) (lv' := [some (.ref (a 24)), some (.ref (a 4)), some (.int (iI 1)), none]) dX3_find_6 rfl (by decide) rfl ?_
  refine g_iconst F (pc' := 8) dX3_find_7 rfl ?_
  refine g_istore_n F (pc' := 9) (lv' := [some (.ref (a 24)), some (.ref (a 4)), some (.int (iI 1)), some (.int (iI 0))]) dX3_find_8 rfl (by decide) rfl ?_
  refine h_mem (sc (sc (sc (sc (sc M 24 (upf (M 24) 0 (sC0 M).1)) 25 (sC0 M).2.1) 26 (sC0 M).2.2.1) 27 (sC0 M).2.2.2.1) 28 (sC0 M).2.2.2.2) (stM_0 M) ?_
  have lp_9 : ∀ (n_9 : Nat) (mo : Int) (k : Int) (t : ST) (hm_9 : 8 - k < (n_9 : Int)) (hk : 0 ≤ k ∧ k ≤ 8) (hmo : mo = 0 ∨ mo = 1) (hts : t = siter (canC M) frC (M 6) (M 4 4) (sC0 M) k.toNat) (hst : mo = 0 → (pk (canC M) frC (M 6) (M 4 4) t).1 < 0), GG p l e ({ frames := 3, cells := 0, slots := 0, locals := 69 } : Room) s m ([.ref (a 24), .ref (a 4)].toArray) below meth c (PV D T a LC M (fun M' => ∃ od : Int → Int, isOrd (sC M).1 (wS (sC M)) od ∧ M' = foundM M od) below ([.ref (a 24), .ref (a 4)].toArray) s) D (AA T a LC M s.heap.size) 4 (wld T a LC (sc (sc (sc (sc (sc M 24 (upf (M 24) 0 t.1)) 25 t.2.1) 26 t.2.2.1) 27 t.2.2.2.1) 28 t.2.2.2.2)) 9 [some (.ref (a 24)), some (.ref (a 4)), some (.int (iI mo)), some (.int (iI k))] [] := by
    intro n_9
    induction n_9 with
    | zero => intro mo k t hm_9 hk hmo hts hst; exfalso; omega
    | succ n_9 ih_9 =>
      intro mo k t hm_9 hk hmo hts hst
      have hI : sInv (canC M) (M 6) (M 4 4) t := hts ▸ siterC_inv (canC_x M) hm.1 rfl k.toNat
      have hI0 : 0 ≤ t.1 := hI.1
      have hn8 : 2 * t.1 ≤ M 4 4 := sInv_n (canC_x M) (canC_g M) hm.1 hI
      refine g_iload_n F (pc' := 10) dX3_find_9 rfl rfl ?_
      refine g_if_eq F (pc' := 13) (tgt := 31) dX3_find_10 rfl (by decide) (by omega) (fun c_10 => ?_) (fun c_10 => ?_)
      · skip
        have hte : t = sC M := siterC_end hts (by omega) hk.1 (by rcases hmo with z9 | z9; exact Or.inl (hst z9); exact Or.inr (by omega))
        have hwt := stC_w hI
        refine g_aload_n F (pc' := 32) dX3_find_31 rfl rfl ?_
        refine g_callV F K hXc X0 (pc' := 35) (st := []) (c3_sortByWidth l a (sc (sc (sc (sc (sc M 24 (upf (M 24) 0 t.1)) 25 t.2.1) 26 t.2.2.1) 27 t.2.2.2.1) 28 t.2.2.2.2) (by show 0 ≤ t.1 ∧ t.1 ≤ 8; omega) (by exact hwt)) (cwV 0 F.2.2.2.2 gX3_find_X3_sortByWidth rfl rfl rfl (by decide +kernel) ⟨Nat.le_of_ble_eq_true rfl, Nat.le_of_ble_eq_true rfl⟩) rfl rfl rfl rfl (Nat.le_of_ble_eq_true rfl) dX3_find_32 rfl (fun M_32 q_32 => ?_)
        obtain ⟨od, rfl, hod⟩ := q_32
        refine h_mem (sc (sc (sc (sc (sc (sc M 24 (upf (M 24) 0 t.1)) 25 t.2.1) 26 t.2.2.1) 27 t.2.2.2.1) 28 t.2.2.2.2) 33 od) rfl ?_
        refine g_aload_n F (pc' := 36) dX3_find_35 rfl rfl ?_
        refine g_aload_n F (pc' := 37) dX3_find_36 rfl rfl ?_
        refine g_getR F K (k := 4) (fld := 5) (ci := 1) (q := 9) (pc' := 40) iX3_find_X1 rfl rfl rfl (by decide) (List.mem_of_getElem? (i := 2) rfl) dX3_find_37 rfl ?_
        refine g_iconst F (pc' := 41) dX3_find_40 rfl ?_
        refine g_iald F K (k := 9) (v := M 9 0) (pc' := 42) rfl (by decide) (by decide) dX3_find_41 rfl (by first | rfl | simp [upf, sc]) ?_
        have b_41 := ht
        refine g_callV F K hXc X0 (pc' := 45) (st := []) (c3_makeGroups l a (sc (sc (sc (sc (sc (sc M 24 (upf (M 24) 0 t.1)) 25 t.2.1) 26 t.2.2.1) 27 t.2.2.2.1) 28 t.2.2.2.2) 33 od) (M 9 0) (by show 0 ≤ t.1 ∧ t.1 ≤ 8; omega) (by exact hwt) (by exact hod) (by omega)) (cwV 1 F.2.2.2.2 gX3_find_X3_makeGroups rfl rfl rfl (by decide +kernel) ⟨Nat.le_of_ble_eq_true rfl, Nat.le_of_ble_eq_true rfl⟩) rfl rfl rfl rfl (Nat.le_of_ble_eq_true rfl) dX3_find_42 rfl (fun M_42 q_42 => ?_)
        exact g_vret F hr hlk dX3_find_45 (⟨od, by rw [← hte]; exact hod, by rw [q_42]; unfold foundM; rw [← hte]; rfl⟩)
      · skip
        refine g_iload_n F (pc' := 14) dX3_find_13 rfl rfl ?_
        refine g_bipush F (pc' := 16) dX3_find_14 rfl (by decide +kernel) ?_
        refine g_icmp_ge F (pc' := 19) (tgt := 31) dX3_find_16 rfl (by decide) (by omega) (by decide) (fun c_16 => ?_) (fun c_16 => ?_)
        · skip
          have hte : t = sC M := siterC_end hts (by omega) hk.1 (by rcases hmo with z9 | z9; exact Or.inl (hst z9); exact Or.inr (by omega))
          have hwt := stC_w hI
          refine g_aload_n F (pc' := 32) dX3_find_31 rfl rfl ?_
          refine g_callV F K hXc X0 (pc' := 35) (st := []) (c3_sortByWidth l a (sc (sc (sc (sc (sc M 24 (upf (M 24) 0 t.1)) 25 t.2.1) 26 t.2.2.1) 27 t.2.2.2.1) 28 t.2.2.2.2) (by show 0 ≤ t.1 ∧ t.1 ≤ 8; omega) (by exact hwt)) (cwV 0 F.2.2.2.2 gX3_find_X3_sortByWidth rfl rfl rfl (by decide +kernel) ⟨Nat.le_of_ble_eq_true rfl, Nat.le_of_ble_eq_true rfl⟩) rfl rfl rfl rfl (Nat.le_of_ble_eq_true rfl) dX3_find_32 rfl (fun M_32 q_32 => ?_)
          obtain ⟨od, rfl, hod⟩ := q_32
          refine h_mem (sc (sc (sc (sc (sc (sc M 24 (upf (M 24) 0 t.1)) 25 t.2.1) 26 t.2.2.1) 27 t.2.2.2.1) 28 t.2.2.2.2) 33 od) rfl ?_
          refine g_aload_n F (pc' := 36) dX3_find_35 rfl rfl ?_
          refine g_aload_n F (pc' := 37) dX3_find_36 rfl rfl ?_
          refine g_getR F K (k := 4) (fld := 5) (ci := 1) (q := 9) (pc' := 40) iX3_find_X1 rfl rfl rfl (by decide) (List.mem_of_getElem? (i := 2) rfl) dX3_find_37 rfl ?_
          refine g_iconst F (pc' := 41) dX3_find_40 rfl ?_
          refine g_iald F K (k := 9) (v := M 9 0) (pc' := 42) rfl (by decide) (by decide) dX3_find_41 rfl (by first | rfl | simp [upf, sc]) ?_
          have b_41 := ht
          refine g_callV F K hXc X0 (pc' := 45) (st := []) (c3_makeGroups l a (sc (sc (sc (sc (sc (sc M 24 (upf (M 24) 0 t.1)) 25 t.2.1) 26 t.2.2.1) 27 t.2.2.2.1) 28 t.2.2.2.2) 33 od) (M 9 0) (by show 0 ≤ t.1 ∧ t.1 ≤ 8; omega) (by exact hwt) (by exact hod) (by omega)) (cwV 1 F.2.2.2.2 gX3_find_X3_makeGroups rfl rfl rfl (by decide +kernel) ⟨Nat.le_of_ble_eq_true rfl, Nat.le_of_ble_eq_true rfl⟩) rfl rfl rfl rfl (Nat.le_of_ble_eq_true rfl) dX3_find_42 rfl (fun M_42 q_42 => ?_)
          exact g_vret F hr hlk dX3_find_45 (⟨od, by rw [← hte]; exact hod, by rw [q_42]; unfold foundM; rw [← hte]; rfl⟩)
        · skip
          refine g_aload_n F (pc' := 20) dX3_find_19 rfl rfl ?_
          refine g_aload_n F (pc' := 21) dX3_find_20 rfl rfl ?_
          refine g_callI F K hXc X0 (pc' := 24) (st := []) (c3_addNarrowest l a (sc (sc (sc (sc (sc M 24 (upf (M 24) 0 t.1)) 25 t.2.1) 26 t.2.2.1) 27 t.2.2.2.1) 28 t.2.2.2.2) hm h5 h6 h7 h8 (by exact hI)) (cwV 1 F.2.2.2.2 gX3_find_X3_addNarrowest rfl rfl rfl (by decide +kernel) ⟨Nat.le_of_ble_eq_true rfl, Nat.le_of_ble_eq_true rfl⟩) rfl rfl rfl rfl (Nat.le_of_ble_eq_true rfl) dX3_find_21 rfl (fun z_21 M_21 q_21 => ?_)
          obtain ⟨mq_21, zq_21⟩ := q3_norm (t := t) q_21
          subst mq_21
          refine h_mem (sc (sc (sc (sc (sc M 24 (upf (M 24) 0 ((sstep (canC M) frC (M 6) (M 4 4) t).1))) 25 ((sstep (canC M) frC (M 6) (M 4 4) t).2.1)) 26 ((sstep (canC M) frC (M 6) (M 4 4) t).2.2.1)) 27 ((sstep (canC M) frC (M 6) (M 4 4) t).2.2.2.1)) 28 ((sstep (canC M) frC (M 6) (M 4 4) t).2.2.2.2)) rfl ?_
          refine g_istore_n F (pc' := 25) (lv' := [some (.ref (a 24)), some (.ref (a 4)), some (.int (iI z_21)), some (.int (iI k))]) dX3_find_24 rfl (by decide) rfl ?_
          refine g_iinc F (pc' := 28) (lv' := [some (.ref (a 24)), some (.ref (a 4)), some (.int (iI z_21)), some (.int (iI (k + 1)))]) dX3_find_25 rfl rfl (by decide) rfl ?_
          refine g_goto F (tgt := 9) dX3_find_28 (by decide) ?_
          refine h_mem (sc (sc (sc (sc (sc M 24 (upf (M 24) 0 (sstep (canC M) frC (M 6) (M 4 4) t).1)) 25 (sstep (canC M) frC (M 6) (M 4 4) t).2.1) 26 (sstep (canC M) frC (M 6) (M 4 4) t).2.2.1) 27 (sstep (canC M) frC (M 6) (M 4 4) t).2.2.2.1) 28 (sstep (canC M) frC (M 6) (M 4 4) t).2.2.2.2) rfl ?_
          exact ih_9 z_21 (k + 1) (sstep (canC M) frC (M 6) (M 4 4) t) (by omega) (by omega) (by omega) (by rw [show (k + 1).toNat = k.toNat + 1 by omega, hts]; rfl) (fun q => by rcases zq_21 with z9 | z9; (rw [sstep_f z9.2]; exact z9.2); (exfalso; omega))
  exact lp_9 ((8 - 0 : Int).toNat + 1) 1 0 (sC0 M) (by omega) (by omega) (Or.inr rfl) (rfl) (fun q => absurd q (by decide))

theorem iX3_withEdge_X3 : ∀ w ∈ wsX30, w ∈ wsX3_withEdge := fun _ h => List.mem_cons_of_mem _ (List.mem_append_right _ h)
set_option maxHeartbeats 4000000 in
set_option maxRecDepth 100000 in
theorem c3_withEdge (l : Launch) (a : Nat → Nat) (M : Mem) (u : Int) (hu : -2147483648 ≤ u ∧ u < 2147483648) (hn : 0 ≤ M 24 0 ∧ M 24 0 ≤ 8) (hb : ∀ j, 0 ≤ j → j < M 24 0 → (0 ≤ M 27 j ∧ M 27 j ≤ 16) ∧ (0 ≤ M 28 j ∧ M 28 j ≤ 16)) : CtI XS l yX3_withEdge wsX3_withEdge ({ frames := 0, cells := 0, slots := 0, locals := 0 } : Room) LC a M [.ref (a 24), .int (iI u)] (fun z M' => wedge M u z ∧ M' = M) := by
  refine CtI.of (y := yX3_withEdge) (cc := cX3_withEdge) (maxL := 3) (ret := (some .int)) (lv := [some (.ref (a 24)), some (.int (iI u)), none]) (by decide) rfl (Nat.le_of_ble_eq_true rfl) (lvOK_of _ _ ⟨rfl, rfl⟩) ?_
  intro p e s m below meth c D T F K X0 hr hlk
  have hXc := XS_c
  refine g_iconst F (pc' := 1) dX3_withEdge_0 rfl ?_
  refine g_istore_n F (pc' := 2) (lv' := [some (.ref (a 24)), some (.int (iI u)), some (.int (iI 0))]) dX3_withEdge_1 rfl (by decide) rfl ?_
  have lp_2 : ∀ (n_2 : Nat) (i : Int) (hm_2 : M 24 0 - i < (n_2 : Int)) (h0 : 0 ≤ i) (h1 : i ≤ M 24 0) (hal : ∀ j, 0 ≤ j → j < i → M 27 j ≠ u ∧ M 28 j ≠ u), GG p l e ({ frames := 0, cells := 0, slots := 0, locals := 0 } : Room) s m ([.ref (a 24), .int (iI u)].toArray) below meth c (PI D T a LC M (fun z M' => wedge M u z ∧ M' = M) below ([.ref (a 24), .int (iI u)].toArray) s) D (AA T a LC M s.heap.size) 3 (wld T a LC M) 2 [some (.ref (a 24)), some (.int (iI u)), some (.int (iI i))] [] := by
    intro n_2
    induction n_2 with
    | zero => intro i hm_2 h0 h1 hal; exfalso; omega
    | succ n_2 ih_2 =>
      intro i hm_2 h0 h1 hal
      refine g_iload_n F (pc' := 3) dX3_withEdge_2 rfl rfl ?_
      refine g_aload_n F (pc' := 4) dX3_withEdge_3 rfl rfl ?_
      refine g_getI F K (k := 24) (fld := 0) (ci := 3) (z := M 24 0) (pc' := 7) iX3_withEdge_X3 rfl rfl rfl (by decide) (List.mem_of_getElem? (i := 1) rfl) dX3_withEdge_4 rfl (by first | rfl | simp [upf, sc]) ?_
      refine g_icmp_ge F (pc' := 10) (tgt := 38) dX3_withEdge_7 rfl (by decide) (by omega) (by omega) (fun c_7 => ?_) (fun c_7 => ?_)
      · skip
        refine g_bipush F (pc' := 40) dX3_withEdge_38 rfl (by decide +kernel) ?_
        exact g_iret F hr hlk dX3_withEdge_40 (⟨Or.inr ⟨rfl, fun j q1 q2 => hal j q1 (by omega)⟩, rfl⟩)
      · skip
        refine g_aload_n F (pc' := 11) dX3_withEdge_10 rfl rfl ?_
        refine g_getR F K (k := 24) (fld := 3) (ci := 3) (q := 27) (pc' := 14) iX3_withEdge_X3 rfl rfl rfl (by decide) (List.mem_of_getElem? (i := 2) rfl) dX3_withEdge_11 rfl ?_
        refine g_iload_n F (pc' := 15) dX3_withEdge_14 rfl rfl ?_
        refine g_iald F K (k := 27) (v := M 27 i) (pc' := 16) rfl (by decide) (by omega) dX3_withEdge_15 rfl (by first | rfl | simp [upf, sc]) ?_
        have b_15 := (hb i h0 c_7).1
        refine g_iload_n F (pc' := 17) dX3_withEdge_16 rfl rfl ?_
        refine g_icmp_eq F (pc' := 20) (tgt := 30) dX3_withEdge_17 rfl (by decide) (by omega) (by omega) (fun c_17 => ?_) (fun c_17 => ?_)
        · skip
          refine g_iload_n F (pc' := 31) dX3_withEdge_30 rfl rfl ?_
          exact g_iret F hr hlk dX3_withEdge_31 (⟨Or.inl ⟨⟨h0, c_7⟩, by omega, hal⟩, rfl⟩)
        · skip
          refine g_aload_n F (pc' := 21) dX3_withEdge_20 rfl rfl ?_
          refine g_getR F K (k := 24) (fld := 4) (ci := 3) (q := 28) (pc' := 24) iX3_withEdge_X3 rfl rfl rfl (by decide) (List.mem_of_getElem? (i := 3) rfl) dX3_withEdge_21 rfl ?_
          refine g_iload_n F (pc' := 25) dX3_withEdge_24 rfl rfl ?_
          refine g_iald F K (k := 28) (v := M 28 i) (pc' := 26) rfl (by decide) (by omega) dX3_withEdge_25 rfl (by first | rfl | simp [upf, sc]) ?_
          have b_25 := (hb i h0 c_7).2
          refine g_iload_n F (pc' := 27) dX3_withEdge_26 rfl rfl ?_
          refine g_icmp_ne F (pc' := 30) (tgt := 32) dX3_withEdge_27 rfl (by decide) (by omega) (by omega) (fun c_27 => ?_) (fun c_27 => ?_)
          · skip
            refine g_iinc F (pc' := 35) (lv' := [some (.ref (a 24)), some (.int (iI u)), some (.int (iI (i + 1)))]) dX3_withEdge_32 rfl rfl (by decide) rfl ?_
            refine g_goto F (tgt := 2) dX3_withEdge_35 (by decide) ?_
            exact ih_2 (i + 1) (by omega) (by omega) (by omega) (by intro j q1 q2; by_cases hj : j = i; (subst hj; omega); exact hal j q1 (by omega))
          · skip
            refine g_iload_n F (pc' := 31) dX3_withEdge_30 rfl rfl ?_
            exact g_iret F hr hlk dX3_withEdge_31 (⟨Or.inl ⟨⟨h0, c_7⟩, by omega, hal⟩, rfl⟩)
  exact lp_2 ((M 24 0 - 0 : Int).toNat + 1) 0 (by omega) (by omega) (by omega) (fun j q1 q2 => by omega)

theorem iX3_standard_X3 : ∀ w ∈ wsX30, w ∈ wsX3_standard := fun _ h => List.mem_cons_of_mem _ (List.mem_append_right _ h)
set_option maxHeartbeats 4000000 in
set_option maxRecDepth 100000 in
theorem c3_standard (l : Launch) (a : Nat → Nat) (M : Mem) (k : Int) (hk : 0 ≤ k ∧ k < 8) (hc : 1 ≤ M 30 k ∧ M 30 k ≤ 8) (hs : 0 ≤ M 32 k ∧ M 32 k ≤ 300 * M 30 k) : CtI XS l yX3_standard wsX3_standard ({ frames := 0, cells := 0, slots := 0, locals := 0 } : Room) LC a M [.ref (a 24), .int (iI k)] (fun z M' => z = M 32 k / M 30 k ∧ M' = M) := by
  refine CtI.of (y := yX3_standard) (cc := cX3_standard) (maxL := 2) (ret := (some .int)) (lv := [some (.ref (a 24)), some (.int (iI k))]) (by decide) rfl (Nat.le_of_ble_eq_true rfl) (lvOK_of _ _ ⟨rfl, rfl⟩) ?_
  intro p e s m below meth c D T F K X0 hr hlk
  have hXc := XS_c
  refine g_aload_n F (pc' := 1) dX3_standard_0 rfl rfl ?_
  refine g_getR F K (k := 24) (fld := 7) (ci := 3) (q := 30) (pc' := 4) iX3_standard_X3 rfl rfl rfl (by decide) (List.mem_of_getElem? (i := 1) rfl) dX3_standard_1 rfl ?_
  refine g_iload_n F (pc' := 5) dX3_standard_4 rfl rfl ?_
  refine g_iald F K (k := 30) (v := M 30 k) (pc' := 6) rfl (by decide) (by omega) dX3_standard_5 rfl (by first | rfl | simp [upf, sc]) ?_
  refine g_if_le F (pc' := 9) (tgt := 25) dX3_standard_6 rfl (by decide) (by omega) (fun c_6 => ?_) (fun c_6 => ?_)
  · skip
    exfalso; omega
  · skip
    refine g_aload_n F (pc' := 10) dX3_standard_9 rfl rfl ?_
    refine g_getR F K (k := 24) (fld := 9) (ci := 3) (q := 32) (pc' := 13) iX3_standard_X3 rfl rfl rfl (by decide) (List.mem_of_getElem? (i := 2) rfl) dX3_standard_10 rfl ?_
    refine g_iload_n F (pc' := 14) dX3_standard_13 rfl rfl ?_
    refine g_iald F K (k := 32) (v := M 32 k) (pc' := 15) rfl (by decide) (by omega) dX3_standard_14 rfl (by first | rfl | simp [upf, sc]) ?_
    refine g_aload_n F (pc' := 16) dX3_standard_15 rfl rfl ?_
    refine g_getR F K (k := 24) (fld := 7) (ci := 3) (q := 30) (pc' := 19) iX3_standard_X3 rfl rfl rfl (by decide) (List.mem_of_getElem? (i := 1) rfl) dX3_standard_16 rfl ?_
    refine g_iload_n F (pc' := 20) dX3_standard_19 rfl rfl ?_
    refine g_iald F K (k := 30) (v := M 30 k) (pc' := 21) rfl (by decide) (by omega) dX3_standard_20 rfl (by first | rfl | simp [upf, sc]) ?_
    refine g_idiv F (pc' := 22) dX3_standard_21 rfl (by omega) (by omega) (by omega) ?_
    refine g_goto F (tgt := 26) dX3_standard_22 (by decide) ?_
    exact g_iret F hr hlk dX3_standard_26 (⟨Int.tdiv_eq_ediv_of_nonneg hs.1, rfl⟩)

theorem iX3_dotsOfGroup_X3 : ∀ w ∈ wsX30, w ∈ wsX3_dotsOfGroup := fun _ h => List.mem_cons_of_mem _ (List.mem_append_right _ h)
set_option maxHeartbeats 4000000 in
set_option maxRecDepth 100000 in
theorem c3_dotsOfGroup (l : Launch) (a : Nat → Nat) (M : Mem) (k sz bo : Int) (hk : 0 ≤ k ∧ k < 8) (hc : 1 ≤ M 30 k ∧ M 30 k ≤ 8) (hs : 0 ≤ M 32 k ∧ M 32 k ≤ 300 * M 30 k) (hz : 0 ≤ sz ∧ sz ≤ 60) (hb : 0 ≤ bo ∧ bo ≤ 3) : CtI XS l yX3_dotsOfGroup wsX3_dotsOfGroup ({ frames := 1, cells := 0, slots := 0, locals := 21 } : Room) LC a M [.ref (a 24), .int (iI k), .int (iI sz), .int (iI bo)] (fun z M' => z = dz (M 32 k / M 30 k) sz bo ∧ M' = M) := by
  refine CtI.of (y := yX3_dotsOfGroup) (cc := cX3_dotsOfGroup) (maxL := 5) (ret := (some .int)) (lv := [some (.ref (a 24)), some (.int (iI k)), some (.int (iI sz)), some (.int (iI bo)), none]) (by decide) rfl (Nat.le_of_ble_eq_true rfl) (lvOK_of _ _ ⟨rfl, rfl⟩) ?_
  intro p e s m below meth c D T F K X0 hr hlk
  have hXc := XS_c
  have hq := div_R hc.1 hs
  have hm := mul_R hq hz
  have hn0 : Int.tdiv (((M 32 k / M 30 k) * sz) + 500) 1000 = ((M 32 k / M 30 k) * sz + 500) / 1000 := Int.tdiv_eq_ediv_of_nonneg (by omega)
  refine g_aload_n F (pc' := 1) dX3_dotsOfGroup_0 rfl rfl ?_
  refine g_iload_n F (pc' := 2) dX3_dotsOfGroup_1 rfl rfl ?_
  refine g_callI F K hXc X0 (pc' := 5) (st := []) (c3_standard l a M k (by omega) (by omega) (by omega)) (cwV 1 F.2.2.2.2 gX3_dotsOfGroup_X3_standard rfl rfl rfl (by decide +kernel) ⟨Nat.le_of_ble_eq_true rfl, Nat.le_of_ble_eq_true rfl⟩) rfl rfl rfl rfl (Nat.le_of_ble_eq_true rfl) dX3_dotsOfGroup_2 rfl (fun z_2 M_2 q_2 => ?_)
  obtain ⟨rfl, mq_2⟩ := q_2
  have mq_2 := mq_2.symm; subst mq_2
  refine g_iload_n F (pc' := 6) dX3_dotsOfGroup_5 rfl rfl ?_
  refine g_imul F (pc' := 7) dX3_dotsOfGroup_6 rfl ?_
  refine g_sipush F (pc' := 10) dX3_dotsOfGroup_7 rfl (by decide +kernel) ?_
  refine g_iadd F (pc' := 11) dX3_dotsOfGroup_10 rfl ?_
  refine g_sipush F (pc' := 14) dX3_dotsOfGroup_11 rfl (by decide +kernel) ?_
  refine g_idiv F (pc' := 15) dX3_dotsOfGroup_14 rfl (by omega) (by decide) (by omega) ?_
  refine g_istore F (pc' := 17) (lv' := [some (.ref (a 24)), some (.int (iI k)), some (.int (iI sz)), some (.int (iI bo)), some (.int (iI (Int.tdiv (((M 32 k / M 30 k) * sz) + 500) 1000)))]) dX3_dotsOfGroup_15 rfl (by decide) rfl ?_
  refine g_iconst F (pc' := 18) dX3_dotsOfGroup_17 rfl ?_
  refine g_iload F (pc' := 20) dX3_dotsOfGroup_18 rfl rfl ?_
  refine g_max F (pc' := 23) (List.mem_of_getElem? (i := 1) rfl) (List.mem_of_getElem? (i := 2) rfl) (List.mem_of_getElem? (i := 3) rfl) (List.mem_of_getElem? (i := 4) rfl) (Nat.le_of_ble_eq_true rfl) (Nat.le_of_ble_eq_true rfl) (by decide) (by omega) dX3_dotsOfGroup_20 rfl ?_
  refine g_iload_n F (pc' := 24) dX3_dotsOfGroup_23 rfl rfl ?_
  refine g_iadd F (pc' := 25) dX3_dotsOfGroup_24 rfl ?_
  exact g_iret F hr hlk dX3_dotsOfGroup_25 (⟨by unfold dz; rw [hn0], rfl⟩)

theorem iX3_dotsOfStem_X3 : ∀ w ∈ wsX30, w ∈ wsX3_dotsOfStem := fun _ h => List.mem_cons_of_mem _ (List.mem_append_right _ h)
set_option maxHeartbeats 4000000 in
set_option maxRecDepth 100000 in
theorem c3_dotsOfStem (l : Launch) (a : Nat → Nat) (M : Mem) (j sz bo : Int) (hj : 0 ≤ j ∧ j < 8) (hk : 0 ≤ M 29 j ∧ M 29 j < 8) (hc : 1 ≤ M 30 (M 29 j) ∧ M 30 (M 29 j) ≤ 8) (hs : 0 ≤ M 32 (M 29 j) ∧ M 32 (M 29 j) ≤ 300 * M 30 (M 29 j)) (hz : 0 ≤ sz ∧ sz ≤ 60) (hb : 0 ≤ bo ∧ bo ≤ 3) : CtI XS l yX3_dotsOfStem wsX3_dotsOfStem ({ frames := 2, cells := 0, slots := 0, locals := 45 } : Room) LC a M [.ref (a 24), .int (iI j), .int (iI sz), .int (iI bo)] (fun z M' => z = dz (M 32 (M 29 j) / M 30 (M 29 j)) sz bo ∧ M' = M) := by
  refine CtI.of (y := yX3_dotsOfStem) (cc := cX3_dotsOfStem) (maxL := 4) (ret := (some .int)) (lv := [some (.ref (a 24)), some (.int (iI j)), some (.int (iI sz)), some (.int (iI bo))]) (by decide) rfl (Nat.le_of_ble_eq_true rfl) (lvOK_of _ _ ⟨rfl, rfl⟩) ?_
  intro p e s m below meth c D T F K X0 hr hlk
  have hXc := XS_c
  refine g_aload_n F (pc' := 1) dX3_dotsOfStem_0 rfl rfl ?_
  refine g_aload_n F (pc' := 2) dX3_dotsOfStem_1 rfl rfl ?_
  refine g_getR F K (k := 24) (fld := 5) (ci := 3) (q := 29) (pc' := 5) iX3_dotsOfStem_X3 rfl rfl rfl (by decide) (List.mem_of_getElem? (i := 1) rfl) dX3_dotsOfStem_2 rfl ?_
  refine g_iload_n F (pc' := 6) dX3_dotsOfStem_5 rfl rfl ?_
  refine g_iald F K (k := 29) (v := M 29 j) (pc' := 7) rfl (by decide) (by omega) dX3_dotsOfStem_6 rfl (by first | rfl | simp [upf, sc]) ?_
  refine g_iload_n F (pc' := 8) dX3_dotsOfStem_7 rfl rfl ?_
  refine g_iload_n F (pc' := 9) dX3_dotsOfStem_8 rfl rfl ?_
  refine g_callI F K hXc X0 (pc' := 12) (st := []) (c3_dotsOfGroup l a M (M 29 j) sz bo (by omega) (by omega) (by omega) (by omega) (by omega)) (cwV 3 F.2.2.2.2 gX3_dotsOfStem_X3_dotsOfGroup rfl rfl rfl (by decide +kernel) ⟨Nat.le_of_ble_eq_true rfl, Nat.le_of_ble_eq_true rfl⟩) rfl rfl rfl rfl (Nat.le_of_ble_eq_true rfl) dX3_dotsOfStem_9 rfl (fun z_9 M_9 q_9 => ?_)
  obtain ⟨rfl, mq_9⟩ := q_9
  have mq_9 := mq_9.symm; subst mq_9
  exact g_iret F hr hlk dX3_dotsOfStem_12 (⟨rfl, rfl⟩)

