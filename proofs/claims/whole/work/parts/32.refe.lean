/-! ===== the reference: classes ===== -/
def wdR (M : Mem) (i : Int) : Int := M 6 i - M 5 i
def fil (f : Int → Int) (k : Int) : Int → Int := fun j => if 0 ≤ j ∧ j < k then -6 else f j
theorem fil_0 {f : Int → Int} : fil f 0 = f := by funext j; exact if_neg (by omega)
theorem fil_s {f : Int → Int} {k : Int} (h : 0 ≤ k) : upf (fil f k) k (-6) = fil f (k + 1) := by
  funext j
  unfold upf fil
  by_cases hj : j = k
  · subst hj; rw [if_pos rfl, if_pos (by omega)]
  · rw [if_neg hj]
    by_cases h1 : 0 ≤ j ∧ j < k
    · rw [if_pos h1, if_pos (by omega)]
    · rw [if_neg h1, if_neg (by omega)]
def gR0 (M : Mem) : GS := (0, fil (M 9) (M 0 11), M 11, M 12, M 13)
noncomputable def gR (M : Mem) (ord : Int → Int) : GS := giterI (M 2 0) (wdR M) ord (gR0 M) (M 0 11)
def lg (M : Mem) (g : GS) : Mem := sc (sc (sc (sc (sc M 0 (upf (M 0) 16 g.1)) 9 g.2.1) 11 g.2.2.1) 12 g.2.2.2.1) 13 g.2.2.2.2
noncomputable def laidG (M : Mem) (ord : Int → Int) : Mem := lg M (gR M ord)
theorem laid_leaf {M : Mem} {ord : Int → Int} {g : GS} {k : Int} (hk : k = M 0 11) (hg : g = giterI (M 2 0) (wdR M) ord (gR0 M) k) : lg M g = laidG M ord := by
  subst hk; subst hg; rfl
theorem lg_0 (M : Mem) : sc (sc M 0 (upf (M 0) 16 0)) 9 (fil (M 9) (M 0 11)) = lg M (gR0 M) := by
  funext j i
  simp only [lg, gR0, sc]
  (repeat' split) <;> simp_all
theorem gR_un {M : Mem} {ord : Int → Int} {k : Int} (ho : isOrd (M 0 11) (wdR M) ord) (hk : 0 ≤ k ∧ k ≤ M 0 11) : ∀ i : Int, k ≤ i → i < M 0 11 → (giterI (M 2 0) (wdR M) ord (gR0 M) k).2.1 (ord i) = -6 := by
  have key : ∀ t : Nat, (t : Int) ≤ M 0 11 → ∀ i : Int, (t : Int) ≤ i → i < M 0 11 → (giter (M 2 0) (wdR M) ord (gR0 M) t).2.1 (ord i) = -6 := by
    intro t
    induction t with
    | zero =>
      intro _ i h1 h2
      have := ho.1 i (by omega) h2
      show fil (M 9) (M 0 11) (ord i) = -6
      unfold fil
      rw [if_pos this]
    | succ t ih =>
      intro ht i h1 h2
      have hm : (gmid (M 2 0) (giter (M 2 0) (wdR M) ord (gR0 M) t) (wdR M (ord t))).2.1 = (giter (M 2 0) (wdR M) ord (gR0 M) t).2.1 := by
        unfold gmid
        by_cases q : gnew (M 2 0) (giter (M 2 0) (wdR M) ord (gR0 M) t) (wdR M (ord t))
        · rw [pif_t q]; rfl
        · rw [pif_f q]
      show upf (gmid (M 2 0) (giter (M 2 0) (wdR M) ord (gR0 M) t) (wdR M (ord t))).2.1 (ord t) _ (ord i) = -6
      rw [upf_n (fun z => ord_ne ho (i := t) (j := i) (by omega) (by omega) h2 z.symm), hm]
      exact ih (by omega) i (by omega) h2
  have := key k.toNat (by omega)
  rw [show ((k.toNat : Nat) : Int) = k by omega] at this
  exact this
theorem gR_R {n k : Int} {wd ord : Int → Int} {g : GS} (hn : n ≤ 8) (hI : gInv n wd ord k g) (ho : isOrd n wd ord) (hun : ∀ i : Int, k ≤ i → i < n → g.2.1 (ord i) = -6) : ∀ j : Int, 0 ≤ j → j < n → -6 ≤ g.2.1 j ∧ g.2.1 j ≤ 8 ∨ n < k := by
  intro j h1 h2
  obtain ⟨t, t1, t2, rfl⟩ := ho.2.2 j h1 h2
  by_cases z : t < k
  · have := hI.2.2 t t1 z
    have := hI.1
    omega
  · have := hun t (by omega) t2
    omega
theorem iX5_layKinds_X5 : ∀ w ∈ wsX50, w ∈ wsX5_layKinds := fun _ h => List.mem_cons_of_mem _ (List.mem_append_right _ h)
set_option maxHeartbeats 4000000 in
set_option maxRecDepth 100000 in
theorem c5_layKinds (l : Launch) (a : Nat → Nat) (M : Mem) (ord : Int → Int) (hn : 0 ≤ M 0 11 ∧ M 0 11 ≤ 8) (ho : isOrd (M 0 11) (wdR M) ord) (hw : ∀ j : Int, 0 ≤ j → j < M 0 11 → 1 ≤ wdR M j ∧ wdR M j ≤ 300) (ht : 0 ≤ M 2 0 ∧ M 2 0 ≤ 99) : CtV XT l yX5_layKinds wsX5_layKinds ({ frames := 1, cells := 0, slots := 0, locals := 21 } : Room) LR a M [.ref (a 0)] (fun M' => M' = laidG M ord) := by
  refine CtV.of (y := yX5_layKinds) (cc := cX5_layKinds) (maxL := 4) (ret := none) (lv := [some (.ref (a 0)), none, none, none]) (by decide) rfl (Nat.le_of_ble_eq_true rfl) (lvOK_of _ _ ⟨rfl, rfl⟩) ?_
  intro p e s m below meth c D T F K X0 hr hlk
  have hXc := XT_c
  refine g_aload_n F (pc' := 1) dX5_layKinds_0 rfl rfl ?_
  refine g_iconst F (pc' := 2) dX5_layKinds_1 rfl ?_
  refine h_putI F K (k := 0) (fld := 16) (ci := 5) (pc' := 5) (sc M 0 (upf (M 0) 16 0)) (mem_up (by rfl) (by intro j hj; simp only [sc, if_neg hj])) tyX5 tyX5_ok nmX5 iX5_layKinds_X5 rfl rfl rfl (by decide) rfl rfl (List.mem_of_getElem? (i := 1) rfl) dX5_layKinds_2 rfl ?_
  refine g_iconst F (pc' := 6) dX5_layKinds_5 rfl ?_
  refine g_istore_n F (pc' := 7) (lv' := [some (.ref (a 0)), some (.int (iI 0)), none, none]) dX5_layKinds_6 rfl (by decide) rfl ?_
  refine h_mem (sc (sc M 0 (upf (M 0) 16 0)) 9 (fil (M 9) 0)) (by rw [fil_0]; exact (sc_id _ 9).symm) ?_
  have lp_7 : ∀ (n_7 : Nat) (k : Int) (hm_7 : M 0 11 - k < (n_7 : Int)) (h0 : 0 ≤ k ∧ k ≤ M 0 11), GG p l e ({ frames := 1, cells := 0, slots := 0, locals := 21 } : Room) s m ([.ref (a 0)].toArray) below meth c (PV D T a LR M (fun M' => M' = laidG M ord) below ([.ref (a 0)].toArray) s) D (AA T a LR M s.heap.size) 4 (wld T a LR (sc (sc M 0 (upf (M 0) 16 0)) 9 (fil (M 9) k))) 7 [some (.ref (a 0)), some (.int (iI k)), none, none] [] := by
    intro n_7
    induction n_7 with
    | zero => intro k hm_7 h0; exfalso; omega
    | succ n_7 ih_7 =>
      intro k hm_7 h0
      refine g_iload_n F (pc' := 8) dX5_layKinds_7 rfl rfl ?_
      refine g_aload_n F (pc' := 9) dX5_layKinds_8 rfl rfl ?_
      refine g_getI F K (k := 0) (fld := 11) (ci := 5) (z := M 0 11) (pc' := 12) iX5_layKinds_X5 rfl rfl rfl (by decide) (List.mem_of_getElem? (i := 2) rfl) dX5_layKinds_9 rfl (by first | rfl | simp [upf, sc]) ?_
      refine g_icmp_ge F (pc' := 15) (tgt := 29) dX5_layKinds_12 rfl (by decide) (by omega) (by omega) (fun c_12 => ?_) (fun c_12 => ?_)
      · skip
        refine g_iconst F (pc' := 30) dX5_layKinds_29 rfl ?_
        refine g_istore_n F (pc' := 31) (lv' := [some (.ref (a 0)), some (.int (iI 0)), none, none]) dX5_layKinds_30 rfl (by decide) rfl ?_
        refine h_mem (sc (sc (sc (sc (sc M 0 (upf (M 0) 16 (gR0 M).1)) 9 (gR0 M).2.1) 11 (gR0 M).2.2.1) 12 (gR0 M).2.2.2.1) 13 (gR0 M).2.2.2.2) (by rw [show k = M 0 11 by omega]; exact lg_0 M) ?_
        have lp_31 : ∀ (n_31 : Nat) (k : Int) (g : GS) (hm_31 : M 0 11 - k < (n_31 : Int)) (h0 : 0 ≤ k ∧ k ≤ M 0 11) (hg : g = giterI (M 2 0) (wdR M) ord (gR0 M) k), GG p l e ({ frames := 1, cells := 0, slots := 0, locals := 21 } : Room) s m ([.ref (a 0)].toArray) below meth c (PV D T a LR M (fun M' => M' = laidG M ord) below ([.ref (a 0)].toArray) s) D (AA T a LR M s.heap.size) 4 (wld T a LR (sc (sc (sc (sc (sc M 0 (upf (M 0) 16 g.1)) 9 g.2.1) 11 g.2.2.1) 12 g.2.2.2.1) 13 g.2.2.2.2)) 31 [some (.ref (a 0)), some (.int (iI k)), none, none] [] := by
          intro n_31
          induction n_31 with
          | zero => intro k g hm_31 h0 hg; exfalso; omega
          | succ n_31 ih_31 =>
            intro k g hm_31 h0 hg
            have hI : gInv (M 0 11) (wdR M) ord k g := hg ▸ giterI_inv ho hw rfl h0
            have hs1 : k < M 0 11 → gstep (M 2 0) (wdR M) g (ord k) = giterI (M 2 0) (wdR M) ord (gR0 M) (k + 1) := fun _ => by rw [giterI_s h0.1, ← hg]
            have hun : ∀ i : Int, k ≤ i → i < M 0 11 → g.2.1 (ord i) = -6 := hg ▸ gR_un ho h0
            have hI1 := hI.1
            have hkR := gR_R hn.2 hI ho hun
            have lp_44 : ∀ (n_44 : Nat) (nx : Int) (i : Int) (hm_44 : M 0 11 - i < (n_44 : Int)) (h1 : 0 ≤ i ∧ i ≤ M 0 11) (hk2 : k < M 0 11) (hnx : (nx = -6 ∧ ∀ j : Int, 0 ≤ j → j < i → 0 ≤ g.2.1 j) ∨ ((0 ≤ nx ∧ nx < i) ∧ g.2.1 nx < 0 ∧ ∀ j : Int, 0 ≤ j → j < i → g.2.1 j < 0 → wdR M nx < wdR M j ∨ (wdR M nx = wdR M j ∧ nx ≤ j))), GG p l e ({ frames := 1, cells := 0, slots := 0, locals := 21 } : Room) s m ([.ref (a 0)].toArray) below meth c (PV D T a LR M (fun M' => M' = laidG M ord) below ([.ref (a 0)].toArray) s) D (AA T a LR M s.heap.size) 4 (wld T a LR (sc (sc (sc (sc (sc M 0 (upf (M 0) 16 g.1)) 9 g.2.1) 11 g.2.2.1) 12 g.2.2.2.1) 13 g.2.2.2.2)) 44 [some (.ref (a 0)), some (.int (iI k)), some (.int (iI nx)), some (.int (iI i))] [] := by
              intro n_44
              induction n_44 with
              | zero => intro nx i hm_44 h1 hk2 hnx; exfalso; omega
              | succ n_44 ih_44 =>
                intro nx i hm_44 h1 hk2 hnx
                have hnx0 : nx = -6 ∨ (0 ≤ nx ∧ nx < i) := by
                  rcases hnx with q | q
                  · exact Or.inl q.1
                  · exact Or.inr q.1
                have lp_167 : ∀ (h : GS) (hne : nx = ord k) (hh : h = gmid (M 2 0) g (wdR M nx)), GG p l e ({ frames := 1, cells := 0, slots := 0, locals := 21 } : Room) s m ([.ref (a 0)].toArray) below meth c (PV D T a LR M (fun M' => M' = laidG M ord) below ([.ref (a 0)].toArray) s) D (AA T a LR M s.heap.size) 4 (wld T a LR (sc (sc (sc (sc (sc M 0 (upf (M 0) 16 h.1)) 9 h.2.1) 11 h.2.2.1) 12 h.2.2.2.1) 13 h.2.2.2.2)) 167 [some (.ref (a 0)), some (.int (iI k)), some (.int (iI nx)), none] [] := by
                  intro h hne hh
                  have hwx := hw (ord k) (ho.1 k h0.1 hk2).1 (ho.1 k h0.1 hk2).2
                  have hox := ho.1 k h0.1 hk2
                  have hM := gmid_inv (tol := M 2 0) hI hwx h0.1
                  rw [← hne] at hM hwx hox
                  rw [← hh] at hM
                  have hc1 := hM.2.1 (h.1 - 1) (by omega) (by omega)
                  refine g_aload_n F (pc' := 168) dX5_layKinds_167 rfl rfl ?_
                  refine g_getR F K (k := 0) (fld := 10) (ci := 5) (q := 9) (pc' := 171) iX5_layKinds_X5 rfl rfl rfl (by decide) (List.mem_of_getElem? (i := 3) rfl) dX5_layKinds_168 rfl ?_
                  refine g_iload_n F (pc' := 172) dX5_layKinds_171 rfl rfl ?_
                  refine g_aload_n F (pc' := 173) dX5_layKinds_172 rfl rfl ?_
                  refine g_getI F K (k := 0) (fld := 16) (ci := 5) (z := h.1) (pc' := 176) iX5_layKinds_X5 rfl rfl rfl (by decide) (List.mem_of_getElem? (i := 1) rfl) dX5_layKinds_173 rfl (by first | rfl | exact upf_s _ _ _ | simp [upf, sc]) ?_
                  refine g_iconst F (pc' := 177) dX5_layKinds_176 rfl ?_
                  refine g_isub F (pc' := 178) dX5_layKinds_177 rfl ?_
                  refine h_iast F K (k := 9) (pc' := 179) (sc (sc (sc (sc (sc M 0 (upf (M 0) 16 h.1)) 9 (upf h.2.1 nx (h.1 - 1))) 11 h.2.2.1) 12 h.2.2.2.1) 13 h.2.2.2.2) (mem_up (by rfl) (by intro j hj; simp only [sc, if_neg hj])) rfl (by decide) (by omega) dX5_layKinds_178 rfl ?_
                  refine g_aload_n F (pc' := 180) dX5_layKinds_179 rfl rfl ?_
                  refine g_getR F K (k := 0) (fld := 13) (ci := 5) (q := 11) (pc' := 183) iX5_layKinds_X5 rfl rfl rfl (by decide) (List.mem_of_getElem? (i := 6) rfl) dX5_layKinds_180 rfl ?_
                  refine g_aload_n F (pc' := 184) dX5_layKinds_183 rfl rfl ?_
                  refine g_getI F K (k := 0) (fld := 16) (ci := 5) (z := h.1) (pc' := 187) iX5_layKinds_X5 rfl rfl rfl (by decide) (List.mem_of_getElem? (i := 1) rfl) dX5_layKinds_184 rfl (by first | rfl | exact upf_s _ _ _ | simp [upf, sc]) ?_
                  refine g_iconst F (pc' := 188) dX5_layKinds_187 rfl ?_
                  refine g_isub F (pc' := 189) dX5_layKinds_188 rfl ?_
                  refine g_dup2 F (pc' := 190) dX5_layKinds_189 rfl rfl rfl ?_
                  refine g_iald F K (k := 11) (v := h.2.2.1 (h.1 - 1)) (pc' := 191) rfl (by decide) (by omega) dX5_layKinds_190 rfl (by first | rfl | simp [upf, sc]) ?_
                  refine g_iconst F (pc' := 192) dX5_layKinds_191 rfl ?_
                  refine g_iadd F (pc' := 193) dX5_layKinds_192 rfl ?_
                  refine h_iast F K (k := 11) (pc' := 194) (sc (sc (sc (sc (sc M 0 (upf (M 0) 16 h.1)) 9 (upf h.2.1 nx (h.1 - 1))) 11 (upf h.2.2.1 (h.1 - 1) ((h.2.2.1 (h.1 - 1)) + 1))) 12 h.2.2.2.1) 13 h.2.2.2.2) (mem_up (by rfl) (by intro j hj; simp only [sc, if_neg hj])) rfl (by decide) (by omega) dX5_layKinds_193 rfl ?_
                  refine g_aload_n F (pc' := 195) dX5_layKinds_194 rfl rfl ?_
                  refine g_getR F K (k := 0) (fld := 15) (ci := 5) (q := 13) (pc' := 198) iX5_layKinds_X5 rfl rfl rfl (by decide) (List.mem_of_getElem? (i := 7) rfl) dX5_layKinds_195 rfl ?_
                  refine g_aload_n F (pc' := 199) dX5_layKinds_198 rfl rfl ?_
                  refine g_getI F K (k := 0) (fld := 16) (ci := 5) (z := h.1) (pc' := 202) iX5_layKinds_X5 rfl rfl rfl (by decide) (List.mem_of_getElem? (i := 1) rfl) dX5_layKinds_199 rfl (by first | rfl | exact upf_s _ _ _ | simp [upf, sc]) ?_
                  refine g_iconst F (pc' := 203) dX5_layKinds_202 rfl ?_
                  refine g_isub F (pc' := 204) dX5_layKinds_203 rfl ?_
                  refine g_dup2 F (pc' := 205) dX5_layKinds_204 rfl rfl rfl ?_
                  refine g_iald F K (k := 13) (v := h.2.2.2.2 (h.1 - 1)) (pc' := 206) rfl (by decide) (by omega) dX5_layKinds_205 rfl (by first | rfl | simp [upf, sc]) ?_
                  refine g_aload_n F (pc' := 207) dX5_layKinds_206 rfl rfl ?_
                  refine g_iload_n F (pc' := 208) dX5_layKinds_207 rfl rfl ?_
                  refine g_callI F K hXc X0 (pc' := 211) (st := [.int (iI (h.2.2.2.2 (h.1 - 1))), .int (iI (h.1 - 1)), .ref (a 13)]) (c5_width l a (sc (sc (sc (sc (sc M 0 (upf (M 0) 16 h.1)) 9 (upf h.2.1 nx (h.1 - 1))) 11 (upf h.2.2.1 (h.1 - 1) ((h.2.2.1 (h.1 - 1)) + 1))) 12 h.2.2.2.1) 13 h.2.2.2.2) nx (by omega)) (cwV 1 F.2.2.2.2 gX5_layKinds_X5_width rfl rfl rfl (by decide +kernel) ⟨Nat.le_of_ble_eq_true rfl, Nat.le_of_ble_eq_true rfl⟩) rfl rfl rfl rfl (Nat.le_of_ble_eq_true rfl) dX5_layKinds_208 rfl (fun z_208 M_208 q_208 => ?_)
                  obtain ⟨rfl, mq_208⟩ := q_208
                  have mq_208 := mq_208.symm; subst mq_208
                  refine h_top (z' := wdR M nx) rfl ?_
                  have b_208 := hw nx (by omega) (by omega)
                  refine g_iadd F (pc' := 212) dX5_layKinds_211 rfl ?_
                  refine h_iast F K (k := 13) (pc' := 213) (sc (sc (sc (sc (sc M 0 (upf (M 0) 16 h.1)) 9 (upf h.2.1 nx (h.1 - 1))) 11 (upf h.2.2.1 (h.1 - 1) ((h.2.2.1 (h.1 - 1)) + 1))) 12 h.2.2.2.1) 13 (upf h.2.2.2.2 (h.1 - 1) ((h.2.2.2.2 (h.1 - 1)) + (wdR M nx)))) (mem_up (by rfl) (by intro j hj; simp only [sc, if_neg hj])) rfl (by decide) (by omega) dX5_layKinds_212 rfl ?_
                  refine g_iinc F (pc' := 216) (lv' := [some (.ref (a 0)), some (.int (iI (k + 1))), some (.int (iI nx)), none]) dX5_layKinds_213 rfl rfl (by decide) rfl ?_
                  refine g_goto F (tgt := 31) dX5_layKinds_216 (by decide) ?_
                  refine h_mem (sc (sc (sc (sc (sc M 0 (upf (M 0) 16 (gadd h nx (wdR M nx)).1)) 9 (gadd h nx (wdR M nx)).2.1) 11 (gadd h nx (wdR M nx)).2.2.1) 12 (gadd h nx (wdR M nx)).2.2.2.1) 13 (gadd h nx (wdR M nx)).2.2.2.2) rfl ?_
                  refine g_lvw [some (.ref (a 0)), some (.int (iI (k + 1))), none, none] (lvw_of _ _ [true, true, false, false] rfl) ?_
                  exact ih_31 (k + 1) (gadd h nx (wdR M nx)) (by omega) (by omega) (by rw [← hs1 (by omega), hne, hh, hne]; rfl)
                refine g_iload_n F (pc' := 45) dX5_layKinds_44 rfl rfl ?_
                refine g_aload_n F (pc' := 46) dX5_layKinds_45 rfl rfl ?_
                refine g_getI F K (k := 0) (fld := 11) (ci := 5) (z := M 0 11) (pc' := 49) iX5_layKinds_X5 rfl rfl rfl (by decide) (List.mem_of_getElem? (i := 2) rfl) dX5_layKinds_46 rfl (by first | rfl | simp [upf, sc]) ?_
                refine g_icmp_ge F (pc' := 52) (tgt := 90) dX5_layKinds_49 rfl (by decide) (by omega) (by omega) (fun c_49 => ?_) (fun c_49 => ?_)
                · skip
                  have hne : nx = ord k := ord_next ho ⟨h0.1, hk2⟩ (fun q1 q2 q3 => (hI.2.2 q1 q2 q3).1) (fun q1 q2 q3 => by have := hun q1 q2 q3; omega) (by rw [show M 0 11 = i by omega]; exact hnx)
                  have hox := ho.1 k h0.1 hk2
                  refine g_aload_n F (pc' := 91) dX5_layKinds_90 rfl rfl ?_
                  refine g_getI F K (k := 0) (fld := 16) (ci := 5) (z := g.1) (pc' := 94) iX5_layKinds_X5 rfl rfl rfl (by decide) (List.mem_of_getElem? (i := 1) rfl) dX5_layKinds_91 rfl (by first | rfl | exact upf_s _ _ _ | simp [upf, sc]) ?_
                  refine g_if_eq F (pc' := 97) (tgt := 123) dX5_layKinds_94 rfl (by decide) (by omega) (fun c_94 => ?_) (fun c_94 => ?_)
                  · skip
                    refine g_aload_n F (pc' := 124) dX5_layKinds_123 rfl rfl ?_
                    refine g_getR F K (k := 0) (fld := 14) (ci := 5) (q := 12) (pc' := 127) iX5_layKinds_X5 rfl rfl rfl (by decide) (List.mem_of_getElem? (i := 4) rfl) dX5_layKinds_124 rfl ?_
                    refine g_aload_n F (pc' := 128) dX5_layKinds_127 rfl rfl ?_
                    refine g_getI F K (k := 0) (fld := 16) (ci := 5) (z := g.1) (pc' := 131) iX5_layKinds_X5 rfl rfl rfl (by decide) (List.mem_of_getElem? (i := 1) rfl) dX5_layKinds_128 rfl (by first | rfl | exact upf_s _ _ _ | simp [upf, sc]) ?_
                    refine g_aload_n F (pc' := 132) dX5_layKinds_131 rfl rfl ?_
                    refine g_iload_n F (pc' := 133) dX5_layKinds_132 rfl rfl ?_
                    refine g_callI F K hXc X0 (pc' := 136) (st := [.int (iI g.1), .ref (a 12)]) (c5_width l a (sc (sc (sc (sc (sc M 0 (upf (M 0) 16 g.1)) 9 g.2.1) 11 g.2.2.1) 12 g.2.2.2.1) 13 g.2.2.2.2) nx (by omega)) (cwV 1 F.2.2.2.2 gX5_layKinds_X5_width rfl rfl rfl (by decide +kernel) ⟨Nat.le_of_ble_eq_true rfl, Nat.le_of_ble_eq_true rfl⟩) rfl rfl rfl rfl (Nat.le_of_ble_eq_true rfl) dX5_layKinds_133 rfl (fun z_133 M_133 q_133 => ?_)
                    obtain ⟨rfl, mq_133⟩ := q_133
                    have mq_133 := mq_133.symm; subst mq_133
                    refine h_top (z' := wdR M nx) rfl ?_
                    have b_133 := hw nx (by omega) (by omega)
                    refine h_iast F K (k := 12) (pc' := 137) (sc (sc (sc (sc (sc M 0 (upf (M 0) 16 g.1)) 9 g.2.1) 11 g.2.2.1) 12 (upf g.2.2.2.1 g.1 (wdR M nx))) 13 g.2.2.2.2) (mem_up (by rfl) (by intro j hj; simp only [sc, if_neg hj])) rfl (by decide) (by omega) dX5_layKinds_136 rfl ?_
                    refine g_aload_n F (pc' := 138) dX5_layKinds_137 rfl rfl ?_
                    refine g_getR F K (k := 0) (fld := 13) (ci := 5) (q := 11) (pc' := 141) iX5_layKinds_X5 rfl rfl rfl (by decide) (List.mem_of_getElem? (i := 6) rfl) dX5_layKinds_138 rfl ?_
                    refine g_aload_n F (pc' := 142) dX5_layKinds_141 rfl rfl ?_
                    refine g_getI F K (k := 0) (fld := 16) (ci := 5) (z := g.1) (pc' := 145) iX5_layKinds_X5 rfl rfl rfl (by decide) (List.mem_of_getElem? (i := 1) rfl) dX5_layKinds_142 rfl (by first | rfl | exact upf_s _ _ _ | simp [upf, sc]) ?_
                    refine g_iconst F (pc' := 146) dX5_layKinds_145 rfl ?_
                    refine h_iast F K (k := 11) (pc' := 147) (sc (sc (sc (sc (sc M 0 (upf (M 0) 16 g.1)) 9 g.2.1) 11 (upf g.2.2.1 g.1 0)) 12 (upf g.2.2.2.1 g.1 (wdR M nx))) 13 g.2.2.2.2) (mem_up (by rfl) (by intro j hj; simp only [sc, if_neg hj])) rfl (by decide) (by omega) dX5_layKinds_146 rfl ?_
                    refine g_aload_n F (pc' := 148) dX5_layKinds_147 rfl rfl ?_
                    refine g_getR F K (k := 0) (fld := 15) (ci := 5) (q := 13) (pc' := 151) iX5_layKinds_X5 rfl rfl rfl (by decide) (List.mem_of_getElem? (i := 7) rfl) dX5_layKinds_148 rfl ?_
                    refine g_aload_n F (pc' := 152) dX5_layKinds_151 rfl rfl ?_
                    refine g_getI F K (k := 0) (fld := 16) (ci := 5) (z := g.1) (pc' := 155) iX5_layKinds_X5 rfl rfl rfl (by decide) (List.mem_of_getElem? (i := 1) rfl) dX5_layKinds_152 rfl (by first | rfl | exact upf_s _ _ _ | simp [upf, sc]) ?_
                    refine g_iconst F (pc' := 156) dX5_layKinds_155 rfl ?_
                    refine h_iast F K (k := 13) (pc' := 157) (sc (sc (sc (sc (sc M 0 (upf (M 0) 16 g.1)) 9 g.2.1) 11 (upf g.2.2.1 g.1 0)) 12 (upf g.2.2.2.1 g.1 (wdR M nx))) 13 (upf g.2.2.2.2 g.1 0)) (mem_up (by rfl) (by intro j hj; simp only [sc, if_neg hj])) rfl (by decide) (by omega) dX5_layKinds_156 rfl ?_
                    refine g_aload_n F (pc' := 158) dX5_layKinds_157 rfl rfl ?_
                    refine g_dup F (pc' := 159) dX5_layKinds_158 rfl rfl ?_
                    refine g_getI F K (k := 0) (fld := 16) (ci := 5) (z := g.1) (pc' := 162) iX5_layKinds_X5 rfl rfl rfl (by decide) (List.mem_of_getElem? (i := 1) rfl) dX5_layKinds_159 rfl (by first | rfl | exact upf_s _ _ _ | simp [upf, sc]) ?_
                    refine g_iconst F (pc' := 163) dX5_layKinds_162 rfl ?_
                    refine g_iadd F (pc' := 164) dX5_layKinds_163 rfl ?_
                    refine h_putI F K (k := 0) (fld := 16) (ci := 5) (pc' := 167) (sc (sc (sc (sc (sc M 0 (upf (M 0) 16 (g.1 + 1))) 9 g.2.1) 11 (upf g.2.2.1 g.1 0)) 12 (upf g.2.2.2.1 g.1 (wdR M nx))) 13 (upf g.2.2.2.2 g.1 0)) (mem_up (by first | exact (upf_w _ _ _ _).symm | funext i; simp only [upf, sc]; (repeat' split) <;> first | rfl | omega | simp_all) (by intro j hj; simp only [sc, if_neg hj])) tyX5 tyX5_ok nmX5 iX5_layKinds_X5 rfl rfl rfl (by decide) rfl rfl (List.mem_of_getElem? (i := 1) rfl) dX5_layKinds_164 rfl ?_
                    refine h_mem (sc (sc (sc (sc (sc M 0 (upf (M 0) 16 (gopen g (wdR M nx)).1)) 9 (gopen g (wdR M nx)).2.1) 11 (gopen g (wdR M nx)).2.2.1) 12 (gopen g (wdR M nx)).2.2.2.1) 13 (gopen g (wdR M nx)).2.2.2.2) rfl ?_
                    refine g_lvw [some (.ref (a 0)), some (.int (iI k)), some (.int (iI nx)), none] (lvw_of _ _ [true, true, true, false] rfl) ?_
                    exact lp_167 (gopen g (wdR M nx)) (hne) (by first | exact (pif_t (by unfold gnew; omega)).symm | exact (pif_f (by unfold gnew; omega)).symm)
                  · skip
                    refine g_aload_n F (pc' := 98) dX5_layKinds_97 rfl rfl ?_
                    refine g_iload_n F (pc' := 99) dX5_layKinds_98 rfl rfl ?_
                    refine g_callI F K hXc X0 (pc' := 102) (st := []) (c5_width l a (sc (sc (sc (sc (sc M 0 (upf (M 0) 16 g.1)) 9 g.2.1) 11 g.2.2.1) 12 g.2.2.2.1) 13 g.2.2.2.2) nx (by omega)) (cwV 1 F.2.2.2.2 gX5_layKinds_X5_width rfl rfl rfl (by decide +kernel) ⟨Nat.le_of_ble_eq_true rfl, Nat.le_of_ble_eq_true rfl⟩) rfl rfl rfl rfl (Nat.le_of_ble_eq_true rfl) dX5_layKinds_99 rfl (fun z_99 M_99 q_99 => ?_)
                    obtain ⟨rfl, mq_99⟩ := q_99
                    have mq_99 := mq_99.symm; subst mq_99
                    refine h_top (z' := wdR M nx) rfl ?_
                    have b_99 := hw nx (by omega) (by omega)
                    refine g_aload_n F (pc' := 103) dX5_layKinds_102 rfl rfl ?_
                    refine g_getR F K (k := 0) (fld := 14) (ci := 5) (q := 12) (pc' := 106) iX5_layKinds_X5 rfl rfl rfl (by decide) (List.mem_of_getElem? (i := 4) rfl) dX5_layKinds_103 rfl ?_
                    refine g_aload_n F (pc' := 107) dX5_layKinds_106 rfl rfl ?_
                    refine g_getI F K (k := 0) (fld := 16) (ci := 5) (z := g.1) (pc' := 110) iX5_layKinds_X5 rfl rfl rfl (by decide) (List.mem_of_getElem? (i := 1) rfl) dX5_layKinds_107 rfl (by first | rfl | exact upf_s _ _ _ | simp [upf, sc]) ?_
                    refine g_iconst F (pc' := 111) dX5_layKinds_110 rfl ?_
                    refine g_isub F (pc' := 112) dX5_layKinds_111 rfl ?_
                    refine g_iald F K (k := 12) (v := g.2.2.2.1 (g.1 - 1)) (pc' := 113) rfl (by decide) (by omega) dX5_layKinds_112 rfl (by first | rfl | simp [upf, sc]) ?_
                    have b_112 := hI.2.1 (g.1 - 1) (by omega) (by omega)
                    refine g_isub F (pc' := 114) dX5_layKinds_113 rfl ?_
                    refine g_aload_n F (pc' := 115) dX5_layKinds_114 rfl rfl ?_
                    refine g_getR F K (k := 0) (fld := 2) (ci := 5) (q := 2) (pc' := 118) iX5_layKinds_X5 rfl rfl rfl (by decide) (List.mem_of_getElem? (i := 5) rfl) dX5_layKinds_115 rfl ?_
                    refine g_iconst F (pc' := 119) dX5_layKinds_118 rfl ?_
                    refine g_iald F K (k := 2) (v := M 2 0) (pc' := 120) rfl (by decide) (by decide) dX5_layKinds_119 rfl (by first | rfl | simp [upf, sc]) ?_
                    refine g_icmp_le F (pc' := 123) (tgt := 167) dX5_layKinds_120 rfl (by decide) (by omega) (by omega) (fun c_120 => ?_) (fun c_120 => ?_)
                    · skip
                      refine g_lvw [some (.ref (a 0)), some (.int (iI k)), some (.int (iI nx)), none] (lvw_of _ _ [true, true, true, false] rfl) ?_
                      exact lp_167 g (hne) (by first | exact (pif_t (by unfold gnew; omega)).symm | exact (pif_f (by unfold gnew; omega)).symm)
                    · skip
                      refine g_aload_n F (pc' := 124) dX5_layKinds_123 rfl rfl ?_
                      refine g_getR F K (k := 0) (fld := 14) (ci := 5) (q := 12) (pc' := 127) iX5_layKinds_X5 rfl rfl rfl (by decide) (List.mem_of_getElem? (i := 4) rfl) dX5_layKinds_124 rfl ?_
                      refine g_aload_n F (pc' := 128) dX5_layKinds_127 rfl rfl ?_
                      refine g_getI F K (k := 0) (fld := 16) (ci := 5) (z := g.1) (pc' := 131) iX5_layKinds_X5 rfl rfl rfl (by decide) (List.mem_of_getElem? (i := 1) rfl) dX5_layKinds_128 rfl (by first | rfl | exact upf_s _ _ _ | simp [upf, sc]) ?_
                      refine g_aload_n F (pc' := 132) dX5_layKinds_131 rfl rfl ?_
                      refine g_iload_n F (pc' := 133) dX5_layKinds_132 rfl rfl ?_
                      refine g_callI F K hXc X0 (pc' := 136) (st := [.int (iI g.1), .ref (a 12)]) (c5_width l a (sc (sc (sc (sc (sc M 0 (upf (M 0) 16 g.1)) 9 g.2.1) 11 g.2.2.1) 12 g.2.2.2.1) 13 g.2.2.2.2) nx (by omega)) (cwV 1 F.2.2.2.2 gX5_layKinds_X5_width rfl rfl rfl (by decide +kernel) ⟨Nat.le_of_ble_eq_true rfl, Nat.le_of_ble_eq_true rfl⟩) rfl rfl rfl rfl (Nat.le_of_ble_eq_true rfl) dX5_layKinds_133 rfl (fun z_133 M_133 q_133 => ?_)
                      obtain ⟨rfl, mq_133⟩ := q_133
                      have mq_133 := mq_133.symm; subst mq_133
                      refine h_top (z' := wdR M nx) rfl ?_
                      have b_133 := hw nx (by omega) (by omega)
                      refine h_iast F K (k := 12) (pc' := 137) (sc (sc (sc (sc (sc M 0 (upf (M 0) 16 g.1)) 9 g.2.1) 11 g.2.2.1) 12 (upf g.2.2.2.1 g.1 (wdR M nx))) 13 g.2.2.2.2) (mem_up (by rfl) (by intro j hj; simp only [sc, if_neg hj])) rfl (by decide) (by omega) dX5_layKinds_136 rfl ?_
                      refine g_aload_n F (pc' := 138) dX5_layKinds_137 rfl rfl ?_
                      refine g_getR F K (k := 0) (fld := 13) (ci := 5) (q := 11) (pc' := 141) iX5_layKinds_X5 rfl rfl rfl (by decide) (List.mem_of_getElem? (i := 6) rfl) dX5_layKinds_138 rfl ?_
                      refine g_aload_n F (pc' := 142) dX5_layKinds_141 rfl rfl ?_
                      refine g_getI F K (k := 0) (fld := 16) (ci := 5) (z := g.1) (pc' := 145) iX5_layKinds_X5 rfl rfl rfl (by decide) (List.mem_of_getElem? (i := 1) rfl) dX5_layKinds_142 rfl (by first | rfl | exact upf_s _ _ _ | simp [upf, sc]) ?_
                      refine g_iconst F (pc' := 146) dX5_layKinds_145 rfl ?_
                      refine h_iast F K (k := 11) (pc' := 147) (sc (sc (sc (sc (sc M 0 (upf (M 0) 16 g.1)) 9 g.2.1) 11 (upf g.2.2.1 g.1 0)) 12 (upf g.2.2.2.1 g.1 (wdR M nx))) 13 g.2.2.2.2) (mem_up (by rfl) (by intro j hj; simp only [sc, if_neg hj])) rfl (by decide) (by omega) dX5_layKinds_146 rfl ?_
                      refine g_aload_n F (pc' := 148) dX5_layKinds_147 rfl rfl ?_
                      refine g_getR F K (k := 0) (fld := 15) (ci := 5) (q := 13) (pc' := 151) iX5_layKinds_X5 rfl rfl rfl (by decide) (List.mem_of_getElem? (i := 7) rfl) dX5_layKinds_148 rfl ?_
                      refine g_aload_n F (pc' := 152) dX5_layKinds_151 rfl rfl ?_
                      refine g_getI F K (k := 0) (fld := 16) (ci := 5) (z := g.1) (pc' := 155) iX5_layKinds_X5 rfl rfl rfl (by decide) (List.mem_of_getElem? (i := 1) rfl) dX5_layKinds_152 rfl (by first | rfl | exact upf_s _ _ _ | simp [upf, sc]) ?_
                      refine g_iconst F (pc' := 156) dX5_layKinds_155 rfl ?_
                      refine h_iast F K (k := 13) (pc' := 157) (sc (sc (sc (sc (sc M 0 (upf (M 0) 16 g.1)) 9 g.2.1) 11 (upf g.2.2.1 g.1 0)) 12 (upf g.2.2.2.1 g.1 (wdR M nx))) 13 (upf g.2.2.2.2 g.1 0)) (mem_up (by rfl) (by intro j hj; simp only [sc, if_neg hj])) rfl (by decide) (by omega) dX5_layKinds_156 rfl ?_
                      refine g_aload_n F (pc' := 158) dX5_layKinds_157 rfl rfl ?_
                      refine g_dup F (pc' := 159) dX5_layKinds_158 rfl rfl ?_
                      refine g_getI F K (k := 0) (fld := 16) (ci := 5) (z := g.1) (pc' := 162) iX5_layKinds_X5 rfl rfl rfl (by decide) (List.mem_of_getElem? (i := 1) rfl) dX5_layKinds_159 rfl (by first | rfl | exact upf_s _ _ _ | simp [upf, sc]) ?_
                      refine g_iconst F (pc' := 163) dX5_layKinds_162 rfl ?_
                      refine g_iadd F (pc' := 164) dX5_layKinds_163 rfl ?_
                      refine h_putI F K (k := 0) (fld := 16) (ci := 5) (pc' := 167) (sc (sc (sc (sc (sc M 0 (upf (M 0) 16 (g.1 + 1))) 9 g.2.1) 11 (upf g.2.2.1 g.1 0)) 12 (upf g.2.2.2.1 g.1 (wdR M nx))) 13 (upf g.2.2.2.2 g.1 0)) (mem_up (by first | exact (upf_w _ _ _ _).symm | funext i; simp only [upf, sc]; (repeat' split) <;> first | rfl | omega | simp_all) (by intro j hj; simp only [sc, if_neg hj])) tyX5 tyX5_ok nmX5 iX5_layKinds_X5 rfl rfl rfl (by decide) rfl rfl (List.mem_of_getElem? (i := 1) rfl) dX5_layKinds_164 rfl ?_
                      refine h_mem (sc (sc (sc (sc (sc M 0 (upf (M 0) 16 (gopen g (wdR M nx)).1)) 9 (gopen g (wdR M nx)).2.1) 11 (gopen g (wdR M nx)).2.2.1) 12 (gopen g (wdR M nx)).2.2.2.1) 13 (gopen g (wdR M nx)).2.2.2.2) rfl ?_
                      refine g_lvw [some (.ref (a 0)), some (.int (iI k)), some (.int (iI nx)), none] (lvw_of _ _ [true, true, true, false] rfl) ?_
                      exact lp_167 (gopen g (wdR M nx)) (hne) (by first | exact (pif_t (by unfold gnew; omega)).symm | exact (pif_f (by unfold gnew; omega)).symm)
                · skip
                  refine g_aload_n F (pc' := 53) dX5_layKinds_52 rfl rfl ?_
                  refine g_getR F K (k := 0) (fld := 10) (ci := 5) (q := 9) (pc' := 56) iX5_layKinds_X5 rfl rfl rfl (by decide) (List.mem_of_getElem? (i := 3) rfl) dX5_layKinds_53 rfl ?_
                  refine g_iload_n F (pc' := 57) dX5_layKinds_56 rfl rfl ?_
                  refine g_iald F K (k := 9) (v := g.2.1 i) (pc' := 58) rfl (by decide) (by omega) dX5_layKinds_57 rfl (by first | rfl | simp [upf, sc]) ?_
                  have b_57 := hkR i (by omega) (by omega)
                  refine g_if_ge F (pc' := 61) (tgt := 82) dX5_layKinds_58 rfl (by decide) (by omega) (fun c_58 => ?_) (fun c_58 => ?_)
                  · skip
                    refine g_iload_n F (pc' := 83) dX5_layKinds_82 rfl rfl ?_
                    refine g_istore_n F (pc' := 84) (lv' := [some (.ref (a 0)), some (.int (iI k)), some (.int (iI nx)), some (.int (iI i))]) dX5_layKinds_83 rfl (by decide) rfl ?_
                    refine g_iinc F (pc' := 87) (lv' := [some (.ref (a 0)), some (.int (iI k)), some (.int (iI nx)), some (.int (iI (i + 1)))]) dX5_layKinds_84 rfl rfl (by decide) rfl ?_
                    refine g_goto F (tgt := 44) dX5_layKinds_87 (by decide) ?_
                    exact ih_44 nx (i + 1) (by omega) (by omega) (by omega) (by
        first
        | exact Or.inl ⟨rfl, fun j h1 h2 => by omega⟩
        | (rcases hnx with ⟨q1, q2⟩ | ⟨q1, q2, q3⟩
           · first
             | (refine Or.inl ⟨q1, fun j h1 h2 => ?_⟩
                by_cases hj : j = i
                · subst hj; omega
                · exact q2 j h1 (by omega))
             | (refine Or.inr ⟨by omega, by omega, fun j h1 h2 h3 => ?_⟩
                by_cases hj : j = i
                · subst hj; omega
                · have := q2 j h1 (by omega); omega)
           · first
             | (exfalso; omega)
             | (refine Or.inr ⟨by omega, q2, fun j h1 h2 h3 => ?_⟩
                by_cases hj : j = i
                · subst hj; omega
                · exact q3 j h1 (by omega) h3)
             | (refine Or.inr ⟨by omega, by omega, fun j h1 h2 h3 => ?_⟩
                by_cases hj : j = i
                · subst hj; omega
                · have := q3 j h1 (by omega) h3; omega)))
                  · skip
                    refine g_iload_n F (pc' := 62) dX5_layKinds_61 rfl rfl ?_
                    refine g_if_lt F (pc' := 65) (tgt := 78) dX5_layKinds_62 rfl (by decide) (by omega) (fun c_62 => ?_) (fun c_62 => ?_)
                    · skip
                      refine g_iload_n F (pc' := 79) dX5_layKinds_78 rfl rfl ?_
                      refine g_goto F (tgt := 83) dX5_layKinds_79 (by decide) ?_
                      refine g_istore_n F (pc' := 84) (lv' := [some (.ref (a 0)), some (.int (iI k)), some (.int (iI i)), some (.int (iI i))]) dX5_layKinds_83 rfl (by decide) rfl ?_
                      refine g_iinc F (pc' := 87) (lv' := [some (.ref (a 0)), some (.int (iI k)), some (.int (iI i)), some (.int (iI (i + 1)))]) dX5_layKinds_84 rfl rfl (by decide) rfl ?_
                      refine g_goto F (tgt := 44) dX5_layKinds_87 (by decide) ?_
                      exact ih_44 i (i + 1) (by omega) (by omega) (by omega) (by
        first
        | exact Or.inl ⟨rfl, fun j h1 h2 => by omega⟩
        | (rcases hnx with ⟨q1, q2⟩ | ⟨q1, q2, q3⟩
           · first
             | (refine Or.inl ⟨q1, fun j h1 h2 => ?_⟩
                by_cases hj : j = i
                · subst hj; omega
                · exact q2 j h1 (by omega))
             | (refine Or.inr ⟨by omega, by omega, fun j h1 h2 h3 => ?_⟩
                by_cases hj : j = i
                · subst hj; omega
                · have := q2 j h1 (by omega); omega)
           · first
             | (exfalso; omega)
             | (refine Or.inr ⟨by omega, q2, fun j h1 h2 h3 => ?_⟩
                by_cases hj : j = i
                · subst hj; omega
                · exact q3 j h1 (by omega) h3)
             | (refine Or.inr ⟨by omega, by omega, fun j h1 h2 h3 => ?_⟩
                by_cases hj : j = i
                · subst hj; omega
                · have := q3 j h1 (by omega) h3; omega)))
                    · skip
                      refine g_aload_n F (pc' := 66) dX5_layKinds_65 rfl rfl ?_
                      refine g_iload_n F (pc' := 67) dX5_layKinds_66 rfl rfl ?_
                      refine g_callI F K hXc X0 (pc' := 70) (st := []) (c5_width l a (sc (sc (sc (sc (sc M 0 (upf (M 0) 16 g.1)) 9 g.2.1) 11 g.2.2.1) 12 g.2.2.2.1) 13 g.2.2.2.2) i (by omega)) (cwV 1 F.2.2.2.2 gX5_layKinds_X5_width rfl rfl rfl (by decide +kernel) ⟨Nat.le_of_ble_eq_true rfl, Nat.le_of_ble_eq_true rfl⟩) rfl rfl rfl rfl (Nat.le_of_ble_eq_true rfl) dX5_layKinds_67 rfl (fun z_67 M_67 q_67 => ?_)
                      obtain ⟨rfl, mq_67⟩ := q_67
                      have mq_67 := mq_67.symm; subst mq_67
                      refine h_top (z' := wdR M i) rfl ?_
                      have b_67 := hw i (by omega) (by omega)
                      refine g_aload_n F (pc' := 71) dX5_layKinds_70 rfl rfl ?_
                      refine g_iload_n F (pc' := 72) dX5_layKinds_71 rfl rfl ?_
                      refine g_callI F K hXc X0 (pc' := 75) (st := [.int (iI (wdR M i))]) (c5_width l a (sc (sc (sc (sc (sc M 0 (upf (M 0) 16 g.1)) 9 g.2.1) 11 g.2.2.1) 12 g.2.2.2.1) 13 g.2.2.2.2) nx (by omega)) (cwV 1 F.2.2.2.2 gX5_layKinds_X5_width rfl rfl rfl (by decide +kernel) ⟨Nat.le_of_ble_eq_true rfl, Nat.le_of_ble_eq_true rfl⟩) rfl rfl rfl rfl (Nat.le_of_ble_eq_true rfl) dX5_layKinds_72 rfl (fun z_72 M_72 q_72 => ?_)
                      obtain ⟨rfl, mq_72⟩ := q_72
                      have mq_72 := mq_72.symm; subst mq_72
                      refine h_top (z' := wdR M nx) rfl ?_
                      have b_72 := hw nx (by omega) (by omega)
                      refine g_icmp_ge F (pc' := 78) (tgt := 82) dX5_layKinds_75 rfl (by decide) (by omega) (by omega) (fun c_75 => ?_) (fun c_75 => ?_)
                      · skip
                        refine g_iload_n F (pc' := 83) dX5_layKinds_82 rfl rfl ?_
                        refine g_istore_n F (pc' := 84) (lv' := [some (.ref (a 0)), some (.int (iI k)), some (.int (iI nx)), some (.int (iI i))]) dX5_layKinds_83 rfl (by decide) rfl ?_
                        refine g_iinc F (pc' := 87) (lv' := [some (.ref (a 0)), some (.int (iI k)), some (.int (iI nx)), some (.int (iI (i + 1)))]) dX5_layKinds_84 rfl rfl (by decide) rfl ?_
                        refine g_goto F (tgt := 44) dX5_layKinds_87 (by decide) ?_
                        exact ih_44 nx (i + 1) (by omega) (by omega) (by omega) (by
        first
        | exact Or.inl ⟨rfl, fun j h1 h2 => by omega⟩
        | (rcases hnx with ⟨q1, q2⟩ | ⟨q1, q2, q3⟩
           · first
             | (refine Or.inl ⟨q1, fun j h1 h2 => ?_⟩
                by_cases hj : j = i
                · subst hj; omega
                · exact q2 j h1 (by omega))
             | (refine Or.inr ⟨by omega, by omega, fun j h1 h2 h3 => ?_⟩
                by_cases hj : j = i
                · subst hj; omega
                · have := q2 j h1 (by omega); omega)
           · first
             | (exfalso; omega)
             | (refine Or.inr ⟨by omega, q2, fun j h1 h2 h3 => ?_⟩
                by_cases hj : j = i
                · subst hj; omega
                · exact q3 j h1 (by omega) h3)
             | (refine Or.inr ⟨by omega, by omega, fun j h1 h2 h3 => ?_⟩
                by_cases hj : j = i
                · subst hj; omega
                · have := q3 j h1 (by omega) h3; omega)))
                      · skip
                        refine g_iload_n F (pc' := 79) dX5_layKinds_78 rfl rfl ?_
                        refine g_goto F (tgt := 83) dX5_layKinds_79 (by decide) ?_
                        refine g_istore_n F (pc' := 84) (lv' := [some (.ref (a 0)), some (.int (iI k)), some (.int (iI i)), some (.int (iI i))]) dX5_layKinds_83 rfl (by decide) rfl ?_
                        refine g_iinc F (pc' := 87) (lv' := [some (.ref (a 0)), some (.int (iI k)), some (.int (iI i)), some (.int (iI (i + 1)))]) dX5_layKinds_84 rfl rfl (by decide) rfl ?_
                        refine g_goto F (tgt := 44) dX5_layKinds_87 (by decide) ?_
                        exact ih_44 i (i + 1) (by omega) (by omega) (by omega) (by
        first
        | exact Or.inl ⟨rfl, fun j h1 h2 => by omega⟩
        | (rcases hnx with ⟨q1, q2⟩ | ⟨q1, q2, q3⟩
           · first
             | (refine Or.inl ⟨q1, fun j h1 h2 => ?_⟩
                by_cases hj : j = i
                · subst hj; omega
                · exact q2 j h1 (by omega))
             | (refine Or.inr ⟨by omega, by omega, fun j h1 h2 h3 => ?_⟩
                by_cases hj : j = i
                · subst hj; omega
                · have := q2 j h1 (by omega); omega)
           · first
             | (exfalso; omega)
             | (refine Or.inr ⟨by omega, q2, fun j h1 h2 h3 => ?_⟩
                by_cases hj : j = i
                · subst hj; omega
                · exact q3 j h1 (by omega) h3)
             | (refine Or.inr ⟨by omega, by omega, fun j h1 h2 h3 => ?_⟩
                by_cases hj : j = i
                · subst hj; omega
                · have := q3 j h1 (by omega) h3; omega)))
            refine g_iload_n F (pc' := 32) dX5_layKinds_31 rfl rfl ?_
            refine g_aload_n F (pc' := 33) dX5_layKinds_32 rfl rfl ?_
            refine g_getI F K (k := 0) (fld := 11) (ci := 5) (z := M 0 11) (pc' := 36) iX5_layKinds_X5 rfl rfl rfl (by decide) (List.mem_of_getElem? (i := 2) rfl) dX5_layKinds_33 rfl (by first | rfl | simp [upf, sc]) ?_
            refine g_icmp_ge F (pc' := 39) (tgt := 219) dX5_layKinds_36 rfl (by decide) (by omega) (by omega) (fun c_36 => ?_) (fun c_36 => ?_)
            · skip
              exact g_vret F hr hlk dX5_layKinds_219 (laid_leaf (by omega) hg)
            · skip
              refine g_bipush F (pc' := 41) dX5_layKinds_39 rfl (by decide +kernel) ?_
              refine g_istore_n F (pc' := 42) (lv' := [some (.ref (a 0)), some (.int (iI k)), some (.int (iI (-6))), none]) dX5_layKinds_41 rfl (by decide) rfl ?_
              refine g_iconst F (pc' := 43) dX5_layKinds_42 rfl ?_
              refine g_istore_n F (pc' := 44) (lv' := [some (.ref (a 0)), some (.int (iI k)), some (.int (iI (-6))), some (.int (iI 0))]) dX5_layKinds_43 rfl (by decide) rfl ?_
              exact lp_44 ((M 0 11 - 0 : Int).toNat + 1) (-6) 0 (by omega) (by omega) (by omega) (by
        first
        | exact Or.inl ⟨rfl, fun j h1 h2 => by omega⟩
        | (rcases hnx with ⟨q1, q2⟩ | ⟨q1, q2, q3⟩
           · first
             | (refine Or.inl ⟨q1, fun j h1 h2 => ?_⟩
                by_cases hj : j = i
                · subst hj; omega
                · exact q2 j h1 (by omega))
             | (refine Or.inr ⟨by omega, by omega, fun j h1 h2 h3 => ?_⟩
                by_cases hj : j = i
                · subst hj; omega
                · have := q2 j h1 (by omega); omega)
           · first
             | (exfalso; omega)
             | (refine Or.inr ⟨by omega, q2, fun j h1 h2 h3 => ?_⟩
                by_cases hj : j = i
                · subst hj; omega
                · exact q3 j h1 (by omega) h3)
             | (refine Or.inr ⟨by omega, by omega, fun j h1 h2 h3 => ?_⟩
                by_cases hj : j = i
                · subst hj; omega
                · have := q3 j h1 (by omega) h3; omega)))
        exact lp_31 ((M 0 11 - 0 : Int).toNat + 1) 0 (gR0 M) (by omega) (by omega) (by rfl)
      · skip
        refine g_aload_n F (pc' := 16) dX5_layKinds_15 rfl rfl ?_
        refine g_getR F K (k := 0) (fld := 10) (ci := 5) (q := 9) (pc' := 19) iX5_layKinds_X5 rfl rfl rfl (by decide) (List.mem_of_getElem? (i := 3) rfl) dX5_layKinds_16 rfl ?_
        refine g_iload_n F (pc' := 20) dX5_layKinds_19 rfl rfl ?_
        refine g_bipush F (pc' := 22) dX5_layKinds_20 rfl (by decide +kernel) ?_
        refine h_iast F K (k := 9) (pc' := 23) (sc (sc M 0 (upf (M 0) 16 0)) 9 (upf (fil (M 9) k) k (-6))) (mem_up (by rfl) (by intro j hj; simp only [sc, if_neg hj])) rfl (by decide) (by omega) dX5_layKinds_22 rfl ?_
        refine g_iinc F (pc' := 26) (lv' := [some (.ref (a 0)), some (.int (iI (k + 1))), none, none]) dX5_layKinds_23 rfl rfl (by decide) rfl ?_
        refine g_goto F (tgt := 7) dX5_layKinds_26 (by decide) ?_
        refine h_mem (sc (sc M 0 (upf (M 0) 16 0)) 9 (fil (M 9) (k + 1))) (by rw [fil_s h0.1]) ?_
        exact ih_7 (k + 1) (by omega) (by omega)
  exact lp_7 ((M 0 11 - 0 : Int).toNat + 1) 0 (by omega) (by omega)
