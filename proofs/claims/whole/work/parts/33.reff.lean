/-! ===== the reference: stems ===== -/
def xR (M : Mem) : Int → Int := fun e => M 1 ((4 * e) + 1)
def sR0 (M : Mem) : ST := (0, M 5, M 6, M 7, M 8)
def cnS (M : Mem) (t : ST) : Int → Int → Prop := fun u d => canR M u d ∧ frR (xR M) t u d
noncomputable def sR (M : Mem) : ST := siter (canR M) frR (xR M) (M 0 1) (sR0 M) 8
def wS (t : ST) (i : Int) : Int := t.2.2.1 i - t.2.1 i
def filn (f : Int → Int) (k : Int) : Int → Int := fun j => if 0 ≤ j ∧ j < k then -6 else f j
theorem filn_0 {f : Int → Int} : filn f 0 = f := by funext j; exact if_neg (by omega)
theorem filn_s {f : Int → Int} {k : Int} (h : 0 ≤ k) : upf (filn f k) k (-6) = filn f (k + 1) := fil_s h
def sof (f : Int → Int) (t : ST) : Nat → Int → Int
  | 0 => f
  | k + 1 => upf (upf (sof f t k) (t.2.2.2.1 k) k) (t.2.2.2.2 k) k
def sofI (f : Int → Int) (t : ST) (k : Int) : Int → Int := sof f t k.toNat
theorem sofI_s {f : Int → Int} {t : ST} {k : Int} (h : 0 ≤ k) : upf (upf (sofI f t k) (t.2.2.2.1 k) k) (t.2.2.2.2 k) k = sofI f t (k + 1) := by
  unfold sofI
  rw [show (k + 1).toNat = k.toNat + 1 by omega]
  show _ = upf (upf (sof f t k.toNat) (t.2.2.2.1 ((k.toNat : Nat) : Int)) ((k.toNat : Nat) : Int)) (t.2.2.2.2 ((k.toNat : Nat) : Int)) ((k.toNat : Nat) : Int)
  rw [show ((k.toNat : Nat) : Int) = k by omega]
def sM (M : Mem) (t : ST) : Mem := sc (sc (sc (sc (sc (sc M 0 (upf (M 0) 11 t.1)) 5 t.2.1) 6 t.2.2.1) 7 t.2.2.2.1) 8 t.2.2.2.2) 10 (sofI (filn (M 10) 16) t t.1)
noncomputable def laid (M : Mem) (ord : Int → Int) : Mem := laidG (sM M (sR M)) ord
theorem sM_0 (M : Mem) : sc M 0 (upf (M 0) 11 0) = sc (sc (sc (sc (sc M 0 (upf (M 0) 11 (sR0 M).1)) 5 (sR0 M).2.1) 6 (sR0 M).2.2.1) 7 (sR0 M).2.2.2.1) 8 (sR0 M).2.2.2.2 := by
  funext j i
  simp only [sR0, sc]
  (repeat' split) <;> simp_all
theorem canR_x (M : Mem) : ∀ u d, canR M u d → xR M u < xR M d := fun u d h => h.1.2.2.1
theorem canR_g (M : Mem) : ∀ u d, canR M u d → (M 1 (4 * u) = 1) ∧ ¬ (M 1 (4 * d) = 1) := fun u d h => ⟨h.1.1, by have := h.1.2.1; omega⟩
theorem sR_b {M : Mem} (hE : ∀ j, 0 ≤ M 1 j ∧ M 1 j ≤ 999) (hm : M 0 1 ≤ 16) {t : ST} (h : sInv (canR M) (xR M) (M 0 1) t) : ∀ j, 0 ≤ j → j < t.1 → (0 ≤ t.2.1 j ∧ t.2.1 j ≤ 999) ∧ (0 ≤ t.2.2.1 j ∧ t.2.2.1 j ≤ 999) ∧ (0 ≤ t.2.2.2.1 j ∧ t.2.2.2.1 j < 16) ∧ (0 ≤ t.2.2.2.2 j ∧ t.2.2.2.2 j < 16) := by
  intro j h1 h2
  obtain ⟨a, b, -, c, d⟩ := h.2.1 j h1 h2
  rw [c, d]
  refine ⟨hE _, hE _, by omega, by omega⟩
theorem pOK_R {cn : Int → Int → Prop} {m b o : Int} (h : pOK cn m (b, o)) : b < 0 ∨ ((0 ≤ b ∧ b < m) ∧ (0 ≤ o ∧ o < m)) := by
  rcases h with h | h
  · have : b = -6 := congrArg Prod.fst h
    left; omega
  · exact Or.inr ⟨h.1, h.2.1⟩
theorem pOK_B {cn : Int → Int → Prop} {m b o : Int} (h : pOK cn m (b, o)) : b = -6 ∨ (0 ≤ b ∧ b < m) := by
  rcases h with h | h
  · exact Or.inl (congrArg Prod.fst h)
  · exact Or.inr h.1
theorem stp_t {cn : Int → Int → Prop} {x : Int → Int} {b : Int × Int} {u d : Int} (h : cn u d ∧ (b.1 < 0 ∨ x d - x u < x b.2 - x b.1 ∨ (x d - x u = x b.2 - x b.1 ∧ x u < x b.1))) : stp cn x b u d = (u, d) := pif_t h
theorem stp_f {cn : Int → Int → Prop} {x : Int → Int} {b : Int × Int} {u d : Int} (h : ¬ (cn u d ∧ (b.1 < 0 ∨ x d - x u < x b.2 - x b.1 ∨ (x d - x u = x b.2 - x b.1 ∧ x u < x b.1)))) : stp cn x b u d = b := pif_f h
theorem ins5_q {x : Int → Int} {t : ST} {b o q : Int} (h : iposI t.2.1 (x b) t.1 = q) : ins5 x t b o = (t.1 + 1, upf (shN t.2.1 q t.1) q (x b), upf (shN t.2.2.1 q t.1) q (x o), upf (shN t.2.2.2.1 q t.1) q b, upf (shN t.2.2.2.2 q t.1) q o) := by
  unfold ins5
  rw [h, shN_i, shN_i, shN_i, shN_i]
theorem ins5_ok {M : Mem} {t : ST} {b o : Int} (hx : ∀ u d, canR M u d → xR M u < xR M d) (hg : ∀ u d, canR M u d → (M 1 (4 * u) = 1) ∧ ¬ (M 1 (4 * d) = 1)) (hm : 0 ≤ M 0 1 ∧ M 0 1 ≤ 16) (hI : sInv (canR M) (xR M) (M 0 1) t) (hp : (b, o) = poutI (cnS M t) (xR M) (M 0 1) (M 0 1)) (hb : 0 ≤ b) : t.1 + 1 ≤ 8 := by
  have h : pOK (cnS M t) (M 0 1) (b, o) := hp ▸ poutI_OK ⟨hm.1, Int.le_refl _⟩
  rcases h with h | h
  · have : b = -6 := congrArg Prod.fst h
    omega
  · have h1 := ins5_inv hx hI h.1 h.2.1 h.2.2.1 ((fr_iff hx hI h.2.2.1).mp h.2.2.2)
    have h2 := sInv_n hx hg hm.1 h1
    have h3 : (ins5 (xR M) t b o).1 = t.1 + 1 := rfl
    have h4 : (ins5 (xR M) t (b, o).1 (b, o).2).1 = t.1 + 1 := rfl
    omega
theorem siter_ins {M : Mem} {t : ST} {k : Nat} {b o : Int} (ht : t = siter (canR M) frR (xR M) (M 0 1) (sR0 M) k) (hp : (b, o) = poutI (cnS M t) (xR M) (M 0 1) (M 0 1)) (hb : 0 ≤ b) : ins5 (xR M) t b o = siter (canR M) frR (xR M) (M 0 1) (sR0 M) (k + 1) := by
  show _ = sstep (canR M) frR (xR M) (M 0 1) (siter (canR M) frR (xR M) (M 0 1) (sR0 M) k)
  rw [← ht]
  have e : pk (canR M) frR (xR M) (M 0 1) t = (b, o) := hp.symm
  unfold sstep
  rw [e, pif_f (by show ¬ b < 0; omega)]
theorem sR_end {M : Mem} {t : ST} {k : Nat} (ht : t = siter (canR M) frR (xR M) (M 0 1) (sR0 M) k) (hk : (k : Int) ≤ 8) (h : (pk (canR M) frR (xR M) (M 0 1) t).1 < 0) : t = sR M := by
  have h1 := siter_fix (k := k) (ht ▸ h) (8 - k)
  unfold sR
  rw [show k + (8 - k) = 8 by omega] at h1
  rw [h1, ht]
theorem sM_w {M : Mem} {t : ST} (hI : sInv (canR M) (xR M) (M 0 1) t) : ∀ j : Int, 0 ≤ j → j < t.1 → 1 ≤ wdR (sM M t) j ∧ wdR (sM M t) j ≤ 300 := by
  intro j h1 h2
  have h3 := sInv_w (canR_x M) hI h1 h2
  obtain ⟨-, -, a, b, c⟩ := hI.2.1 j h1 h2
  have h4 := a.1.2.2.2
  show 1 ≤ t.2.2.1 j - t.2.1 j ∧ t.2.2.1 j - t.2.1 j ≤ 300
  have e1 : xR M (t.2.2.2.1 j) = M 1 ((4 * t.2.2.2.1 j) + 1) := rfl
  have e2 : xR M (t.2.2.2.2 j) = M 1 ((4 * t.2.2.2.2 j) + 1) := rfl
  omega
theorem iX5_layStems_X5 : ∀ w ∈ wsX50, w ∈ wsX5_layStems := fun _ h => List.mem_cons_of_mem _ (List.mem_append_right _ h)
set_option maxHeartbeats 4000000 in
set_option maxRecDepth 100000 in
theorem c5_layStems (l : Launch) (a : Nat → Nat) (M : Mem) (ord : Int → Int) (hm : 0 ≤ M 0 1 ∧ M 0 1 ≤ 16) (hE : ∀ j, 0 ≤ M 1 j ∧ M 1 j ≤ 999) (ho : isOrd (sR M).1 (wS (sR M)) ord) (htl : 0 ≤ M 2 0 ∧ M 2 0 ≤ 99) : CtV XT l yX5_layStems wsX5_layStems ({ frames := 2, cells := 0, slots := 0, locals := 46 } : Room) LR a M [.ref (a 0)] (fun M' => M' = laid M ord) := by
  refine CtV.of (y := yX5_layStems) (cc := cX5_layStems) (maxL := 8) (ret := none) (lv := [some (.ref (a 0)), none, none, none, none, none, none, none]) (by decide) rfl (Nat.le_of_ble_eq_true rfl) (lvOK_of _ _ ⟨rfl, rfl⟩) ?_
  intro p e s m below meth c D T F K X0 hr hlk
  have hXc := XT_c
  refine g_aload_n F (pc' := 1) dX5_layStems_0 rfl rfl ?_
  refine g_iconst F (pc' := 2) dX5_layStems_1 rfl ?_
  refine h_putI F K (k := 0) (fld := 11) (ci := 5) (pc' := 5) (sc M 0 (upf (M 0) 11 0)) (mem_up (by rfl) (by intro j hj; simp only [sc, if_neg hj])) tyX5 tyX5_ok nmX5 iX5_layStems_X5 rfl rfl rfl (by decide) rfl rfl (List.mem_of_getElem? (i := 1) rfl) dX5_layStems_2 rfl ?_
  refine g_iconst F (pc' := 6) dX5_layStems_5 rfl ?_
  refine g_istore_n F (pc' := 7) (lv' := [some (.ref (a 0)), some (.int (iI 1)), none, none, none, none, none, none]) dX5_layStems_6 rfl (by decide) rfl ?_
  refine h_mem (sc (sc (sc (sc (sc M 0 (upf (M 0) 11 (sR0 M).1)) 5 (sR0 M).2.1) 6 (sR0 M).2.2.1) 7 (sR0 M).2.2.2.1) 8 (sR0 M).2.2.2.2) (sM_0 M) ?_
  have lp_7 : ∀ (n_7 : Nat) (mo : Int) (k : Nat) (t : ST) (hm_7 : 2 * (8 - t.1) + mo < (n_7 : Int)) (hmo : 0 ≤ mo ∧ mo ≤ 1) (ht8 : t.1 ≤ 8) (hk8 : (k : Int) ≤ 8) (ht : t = siter (canR M) frR (xR M) (M 0 1) (sR0 M) k) (hmn : mo = 1 → t.1 = k) (hst : mo = 0 → (pk (canR M) frR (xR M) (M 0 1) t).1 < 0), GG p l e ({ frames := 2, cells := 0, slots := 0, locals := 46 } : Room) s m ([.ref (a 0)].toArray) below meth c (PV D T a LR M (fun M' => M' = laid M ord) below ([.ref (a 0)].toArray) s) D (AA T a LR M s.heap.size) 8 (wld T a LR (sc (sc (sc (sc (sc M 0 (upf (M 0) 11 t.1)) 5 t.2.1) 6 t.2.2.1) 7 t.2.2.2.1) 8 t.2.2.2.2)) 7 [some (.ref (a 0)), some (.int (iI mo)), none, none, none, none, none, none] [] := by
    intro n_7
    induction n_7 with
    | zero => intro mo k t hm_7 hmo ht8 hk8 ht hmn hst; exfalso; omega
    | succ n_7 ih_7 =>
      intro mo k t hm_7 hmo ht8 hk8 ht hmn hst
      have hI : sInv (canR M) (xR M) (M 0 1) t := ht ▸ (siter_both (canR_x M) hm.1 (s0 := sR0 M) (t0 := sR0 M) rfl rfl k).1
      have hI0 := hI.1
      have hn8 := sInv_n (canR_x M) (canR_g M) hm.1 hI
      have hsb := sR_b hE hm.2 hI
      refine g_iload_n F (pc' := 8) dX5_layStems_7 rfl rfl ?_
      refine g_if_eq F (pc' := 11) (tgt := 336) dX5_layStems_8 rfl (by decide) (by omega) (fun c_8 => ?_) (fun c_8 => ?_)
      · skip
        have hte : t = sR M := sR_end ht hk8 (hst (by omega))
        refine g_iconst F (pc' := 337) dX5_layStems_336 rfl ?_
        refine g_istore_n F (pc' := 338) (lv' := [some (.ref (a 0)), some (.int (iI mo)), some (.int (iI 0)), none, none, none, none, none]) dX5_layStems_337 rfl (by decide) rfl ?_
        refine h_mem (sc (sc (sc (sc (sc (sc M 0 (upf (M 0) 11 t.1)) 5 t.2.1) 6 t.2.2.1) 7 t.2.2.2.1) 8 t.2.2.2.2) 10 (filn (M 10) 0)) (by rw [filn_0]; exact (sc_id _ 10).symm) ?_
        refine g_lvw [some (.ref (a 0)), none, some (.int (iI 0)), none, none, none, none, none] (lvw_of _ _ [true, false, true, false, false, false, false, false] rfl) ?_
        have lp_338 : ∀ (n_338 : Nat) (f : Int) (hm_338 : 16 - f < (n_338 : Int)) (hf : 0 ≤ f ∧ f ≤ 16), GG p l e ({ frames := 2, cells := 0, slots := 0, locals := 46 } : Room) s m ([.ref (a 0)].toArray) below meth c (PV D T a LR M (fun M' => M' = laid M ord) below ([.ref (a 0)].toArray) s) D (AA T a LR M s.heap.size) 8 (wld T a LR (sc (sc (sc (sc (sc (sc M 0 (upf (M 0) 11 t.1)) 5 t.2.1) 6 t.2.2.1) 7 t.2.2.2.1) 8 t.2.2.2.2) 10 (filn (M 10) f))) 338 [some (.ref (a 0)), none, some (.int (iI f)), none, none, none, none, none] [] := by
          intro n_338
          induction n_338 with
          | zero => intro f hm_338 hf; exfalso; omega
          | succ n_338 ih_338 =>
            intro f hm_338 hf
            refine g_iload_n F (pc' := 339) dX5_layStems_338 rfl rfl ?_
            refine g_bipush F (pc' := 341) dX5_layStems_339 rfl (by decide +kernel) ?_
            refine g_icmp_ge F (pc' := 344) (tgt := 358) dX5_layStems_341 rfl (by decide) (by omega) (by decide) (fun c_341 => ?_) (fun c_341 => ?_)
            · skip
              refine g_iconst F (pc' := 359) dX5_layStems_358 rfl ?_
              refine g_istore_n F (pc' := 360) (lv' := [some (.ref (a 0)), none, some (.int (iI 0)), none, none, none, none, none]) dX5_layStems_359 rfl (by decide) rfl ?_
              refine h_mem (sc (sc (sc (sc (sc (sc M 0 (upf (M 0) 11 t.1)) 5 t.2.1) 6 t.2.2.1) 7 t.2.2.2.1) 8 t.2.2.2.2) 10 (sofI (filn (M 10) 16) t 0)) (by rw [show f = 16 by omega]; rfl) ?_
              have lp_360 : ∀ (n_360 : Nat) (f : Int) (hm_360 : t.1 - f < (n_360 : Int)) (hf2 : 0 ≤ f ∧ f ≤ t.1), GG p l e ({ frames := 2, cells := 0, slots := 0, locals := 46 } : Room) s m ([.ref (a 0)].toArray) below meth c (PV D T a LR M (fun M' => M' = laid M ord) below ([.ref (a 0)].toArray) s) D (AA T a LR M s.heap.size) 8 (wld T a LR (sc (sc (sc (sc (sc (sc M 0 (upf (M 0) 11 t.1)) 5 t.2.1) 6 t.2.2.1) 7 t.2.2.2.1) 8 t.2.2.2.2) 10 (sofI (filn (M 10) 16) t f))) 360 [some (.ref (a 0)), none, some (.int (iI f)), none, none, none, none, none] [] := by
                intro n_360
                induction n_360 with
                | zero => intro f hm_360 hf2; exfalso; omega
                | succ n_360 ih_360 =>
                  intro f hm_360 hf2
                  refine g_iload_n F (pc' := 361) dX5_layStems_360 rfl rfl ?_
                  refine g_aload_n F (pc' := 362) dX5_layStems_361 rfl rfl ?_
                  refine g_getI F K (k := 0) (fld := 11) (ci := 5) (z := t.1) (pc' := 365) iX5_layStems_X5 rfl rfl rfl (by decide) (List.mem_of_getElem? (i := 1) rfl) dX5_layStems_362 rfl (by first | rfl | exact upf_s _ _ _ | simp [upf, sc]) ?_
                  refine g_icmp_ge F (pc' := 368) (tgt := 398) dX5_layStems_365 rfl (by decide) (by omega) (by omega) (fun c_365 => ?_) (fun c_365 => ?_)
                  · skip
                    refine h_mem (sM M t) (by (have hf9 : f = t.1 := by omega); subst hf9; rfl) ?_
                    refine g_aload_n F (pc' := 399) dX5_layStems_398 rfl rfl ?_
                    refine g_callV F K hXc X0 (pc' := 402) (st := []) (c5_layKinds l a (sM M t) ord (by show 0 ≤ t.1 ∧ t.1 ≤ 8; omega) (by show isOrd t.1 (wS t) ord; rw [hte]; exact ho) (sM_w hI) htl) (cwV 0 F.2.2.2.2 gX5_layStems_X5_layKinds rfl rfl rfl (by decide +kernel) ⟨Nat.le_of_ble_eq_true rfl, Nat.le_of_ble_eq_true rfl⟩) rfl rfl rfl rfl (Nat.le_of_ble_eq_true rfl) dX5_layStems_399 rfl (fun M_399 q_399 => ?_)
                    exact g_vret F hr hlk dX5_layStems_402 (by unfold laid; rw [← hte]; exact q_399)
                  · skip
                    refine g_aload_n F (pc' := 369) dX5_layStems_368 rfl rfl ?_
                    refine g_getR F K (k := 0) (fld := 12) (ci := 5) (q := 10) (pc' := 372) iX5_layStems_X5 rfl rfl rfl (by decide) (List.mem_of_getElem? (i := 7) rfl) dX5_layStems_369 rfl ?_
                    refine g_aload_n F (pc' := 373) dX5_layStems_372 rfl rfl ?_
                    refine g_getR F K (k := 0) (fld := 8) (ci := 5) (q := 7) (pc' := 376) iX5_layStems_X5 rfl rfl rfl (by decide) (List.mem_of_getElem? (i := 5) rfl) dX5_layStems_373 rfl ?_
                    have hsf := hsb f (by omega) (by omega)
                    refine g_iload_n F (pc' := 377) dX5_layStems_376 rfl rfl ?_
                    refine g_iald F K (k := 7) (v := t.2.2.2.1 f) (pc' := 378) rfl (by decide) (by omega) dX5_layStems_377 rfl (by first | rfl | simp [upf, sc]) ?_
                    refine g_iload_n F (pc' := 379) dX5_layStems_378 rfl rfl ?_
                    refine h_iast F K (k := 10) (pc' := 380) (sc (sc (sc (sc (sc (sc M 0 (upf (M 0) 11 t.1)) 5 t.2.1) 6 t.2.2.1) 7 t.2.2.2.1) 8 t.2.2.2.2) 10 (upf (sofI (filn (M 10) 16) t f) (t.2.2.2.1 f) f)) (mem_up (by rfl) (by intro j hj; simp only [sc, if_neg hj])) rfl (by decide) (by omega) dX5_layStems_379 rfl ?_
                    refine g_aload_n F (pc' := 381) dX5_layStems_380 rfl rfl ?_
                    refine g_getR F K (k := 0) (fld := 12) (ci := 5) (q := 10) (pc' := 384) iX5_layStems_X5 rfl rfl rfl (by decide) (List.mem_of_getElem? (i := 7) rfl) dX5_layStems_381 rfl ?_
                    refine g_aload_n F (pc' := 385) dX5_layStems_384 rfl rfl ?_
                    refine g_getR F K (k := 0) (fld := 9) (ci := 5) (q := 8) (pc' := 388) iX5_layStems_X5 rfl rfl rfl (by decide) (List.mem_of_getElem? (i := 6) rfl) dX5_layStems_385 rfl ?_
                    refine g_iload_n F (pc' := 389) dX5_layStems_388 rfl rfl ?_
                    refine g_iald F K (k := 8) (v := t.2.2.2.2 f) (pc' := 390) rfl (by decide) (by omega) dX5_layStems_389 rfl (by first | rfl | simp [upf, sc]) ?_
                    refine g_iload_n F (pc' := 391) dX5_layStems_390 rfl rfl ?_
                    refine h_iast F K (k := 10) (pc' := 392) (sc (sc (sc (sc (sc (sc M 0 (upf (M 0) 11 t.1)) 5 t.2.1) 6 t.2.2.1) 7 t.2.2.2.1) 8 t.2.2.2.2) 10 (upf (upf (sofI (filn (M 10) 16) t f) (t.2.2.2.1 f) f) (t.2.2.2.2 f) f)) (mem_up (by rfl) (by intro j hj; simp only [sc, if_neg hj])) rfl (by decide) (by omega) dX5_layStems_391 rfl ?_
                    refine g_iinc F (pc' := 395) (lv' := [some (.ref (a 0)), none, some (.int (iI (f + 1))), none, none, none, none, none]) dX5_layStems_392 rfl rfl (by decide) rfl ?_
                    refine g_goto F (tgt := 360) dX5_layStems_395 (by decide) ?_
                    refine h_mem (sc (sc (sc (sc (sc (sc M 0 (upf (M 0) 11 t.1)) 5 t.2.1) 6 t.2.2.1) 7 t.2.2.2.1) 8 t.2.2.2.2) 10 (sofI (filn (M 10) 16) t (f + 1))) (by rw [sofI_s hf2.1]) ?_
                    exact ih_360 (f + 1) (by omega) (by omega)
              exact lp_360 ((t.1 - 0 : Int).toNat + 1) 0 (by omega) (by omega)
            · skip
              refine g_aload_n F (pc' := 345) dX5_layStems_344 rfl rfl ?_
              refine g_getR F K (k := 0) (fld := 12) (ci := 5) (q := 10) (pc' := 348) iX5_layStems_X5 rfl rfl rfl (by decide) (List.mem_of_getElem? (i := 7) rfl) dX5_layStems_345 rfl ?_
              refine g_iload_n F (pc' := 349) dX5_layStems_348 rfl rfl ?_
              refine g_bipush F (pc' := 351) dX5_layStems_349 rfl (by decide +kernel) ?_
              refine h_iast F K (k := 10) (pc' := 352) (sc (sc (sc (sc (sc (sc M 0 (upf (M 0) 11 t.1)) 5 t.2.1) 6 t.2.2.1) 7 t.2.2.2.1) 8 t.2.2.2.2) 10 (upf (filn (M 10) f) f (-6))) (mem_up (by rfl) (by intro j hj; simp only [sc, if_neg hj])) rfl (by decide) (by omega) dX5_layStems_351 rfl ?_
              refine g_iinc F (pc' := 355) (lv' := [some (.ref (a 0)), none, some (.int (iI (f + 1))), none, none, none, none, none]) dX5_layStems_352 rfl rfl (by decide) rfl ?_
              refine g_goto F (tgt := 338) dX5_layStems_355 (by decide) ?_
              refine h_mem (sc (sc (sc (sc (sc (sc M 0 (upf (M 0) 11 t.1)) 5 t.2.1) 6 t.2.2.1) 7 t.2.2.2.1) 8 t.2.2.2.2) 10 (filn (M 10) (f + 1))) (by rw [filn_s hf.1]) ?_
              exact ih_338 (f + 1) (by omega) (by omega)
        exact lp_338 ((16 - 0 : Int).toNat + 1) 0 (by omega) (by omega)
      · skip
        refine g_bipush F (pc' := 13) dX5_layStems_11 rfl (by decide +kernel) ?_
        refine g_istore_n F (pc' := 14) (lv' := [some (.ref (a 0)), some (.int (iI mo)), some (.int (iI (-6))), none, none, none, none, none]) dX5_layStems_13 rfl (by decide) rfl ?_
        refine g_bipush F (pc' := 16) dX5_layStems_14 rfl (by decide +kernel) ?_
        refine g_istore_n F (pc' := 17) (lv' := [some (.ref (a 0)), some (.int (iI mo)), some (.int (iI (-6))), some (.int (iI (-6))), none, none, none, none]) dX5_layStems_16 rfl (by decide) rfl ?_
        refine g_iconst F (pc' := 18) dX5_layStems_17 rfl ?_
        refine g_istore F (pc' := 20) (lv' := [some (.ref (a 0)), some (.int (iI mo)), some (.int (iI (-6))), some (.int (iI (-6))), some (.int (iI 0)), none, none, none]) dX5_layStems_18 rfl (by decide) rfl ?_
        refine g_lvw [some (.ref (a 0)), none, some (.int (iI (-6))), some (.int (iI (-6))), some (.int (iI 0)), none, none, none] (lvw_of _ _ [true, false, true, true, true, false, false, false] rfl) ?_
        have lp_20 : ∀ (n_20 : Nat) (b : Int) (o : Int) (u : Int) (hm_20 : M 0 1 - u < (n_20 : Int)) (hu : 0 ≤ u ∧ u ≤ M 0 1) (hbo : (b, o) = poutI (cnS M t) (xR M) (M 0 1) u) (hm1 : mo = 1), GG p l e ({ frames := 2, cells := 0, slots := 0, locals := 46 } : Room) s m ([.ref (a 0)].toArray) below meth c (PV D T a LR M (fun M' => M' = laid M ord) below ([.ref (a 0)].toArray) s) D (AA T a LR M s.heap.size) 8 (wld T a LR (sc (sc (sc (sc (sc M 0 (upf (M 0) 11 t.1)) 5 t.2.1) 6 t.2.2.1) 7 t.2.2.2.1) 8 t.2.2.2.2)) 20 [some (.ref (a 0)), none, some (.int (iI b)), some (.int (iI o)), some (.int (iI u)), none, none, none] [] := by
          intro n_20
          induction n_20 with
          | zero => intro b o u hm_20 hu hbo hm1; exfalso; omega
          | succ n_20 ih_20 =>
            intro b o u hm_20 hu hbo hm1
            refine g_iload F (pc' := 22) dX5_layStems_20 rfl rfl ?_
            refine g_aload_n F (pc' := 23) dX5_layStems_22 rfl rfl ?_
            refine g_getI F K (k := 0) (fld := 1) (ci := 5) (z := M 0 1) (pc' := 26) iX5_layStems_X5 rfl rfl rfl (by decide) (List.mem_of_getElem? (i := 2) rfl) dX5_layStems_23 rfl (by first | rfl | simp [upf, sc]) ?_
            refine g_icmp_ge F (pc' := 29) (tgt := 171) dX5_layStems_26 rfl (by decide) (by omega) (by omega) (fun c_26 => ?_) (fun c_26 => ?_)
            · skip
              have hOK : pOK (cnS M t) (M 0 1) (b, o) := hbo ▸ poutI_OK hu
              have hOb : b < 0 ∨ ((0 ≤ b ∧ b < M 0 1) ∧ (0 ≤ o ∧ o < M 0 1)) := pOK_R hOK
              have hOr := pOK_B hOK
              refine g_iload_n F (pc' := 172) dX5_layStems_171 rfl rfl ?_
              refine g_if_lt F (pc' := 175) (tgt := 179) dX5_layStems_172 rfl (by decide) (by omega) (fun c_172 => ?_) (fun c_172 => ?_)
              · skip
                refine g_iconst F (pc' := 180) dX5_layStems_179 rfl ?_
                refine g_istore_n F (pc' := 181) (lv' := [some (.ref (a 0)), some (.int (iI 0)), some (.int (iI b)), some (.int (iI o)), some (.int (iI u)), none, none, none]) dX5_layStems_180 rfl (by decide) rfl ?_
                refine g_iload_n F (pc' := 182) dX5_layStems_181 rfl rfl ?_
                refine g_if_eq F (pc' := 185) (tgt := 333) dX5_layStems_182 rfl (by decide) (by decide) (fun c_182 => ?_) (fun c_182 => ?_)
                · skip
                  refine g_goto F (tgt := 7) dX5_layStems_333 (by decide) ?_
                  refine g_lvw [some (.ref (a 0)), some (.int (iI 0)), none, none, none, none, none, none] (lvw_of _ _ [true, true, false, false, false, false, false, false] rfl) ?_
                  exact ih_7 0 k t (by first | omega | (show 2 * (8 - (t.1 + 1)) + 1 < _; omega)) (by omega) (by first | decide | omega | (show t.1 + 1 ≤ 8; exact hin)) (by first | exact hk8 | (have := hmn hm1; omega)) (by first | exact ht | exact siter_ins ht hpk (by omega)) (by first | exact fun q => absurd q (by decide) | (intro _; have := hmn hm1; show t.1 + 1 = ((k + 1 : Nat) : Int); omega)) (by first | exact fun q => absurd q (by decide) | (intro _; rw [show pk (canR M) frR (xR M) (M 0 1) t = (b, o) from by rw [hbo, show u = M 0 1 by omega]; rfl]; exact c_172))
                · skip
                  exact absurd c_182 (by decide)
              · skip
                refine g_iconst F (pc' := 176) dX5_layStems_175 rfl ?_
                refine g_goto F (tgt := 180) dX5_layStems_176 (by decide) ?_
                refine g_istore_n F (pc' := 181) (lv' := [some (.ref (a 0)), some (.int (iI 1)), some (.int (iI b)), some (.int (iI o)), some (.int (iI u)), none, none, none]) dX5_layStems_180 rfl (by decide) rfl ?_
                refine g_iload_n F (pc' := 182) dX5_layStems_181 rfl rfl ?_
                refine g_if_eq F (pc' := 185) (tgt := 333) dX5_layStems_182 rfl (by decide) (by decide) (fun c_182 => ?_) (fun c_182 => ?_)
                · skip
                  exact absurd c_182 (by decide)
                · skip
                  have hue : u = M 0 1 := by omega
                  have hpk := hbo
                  rw [hue] at hpk
                  have hin := ins5_ok (canR_x M) (canR_g M) hm hI (b := b) (o := o) hpk (by omega)
                  refine g_aload_n F (pc' := 186) dX5_layStems_185 rfl rfl ?_
                  refine g_getI F K (k := 0) (fld := 11) (ci := 5) (z := t.1) (pc' := 189) iX5_layStems_X5 rfl rfl rfl (by decide) (List.mem_of_getElem? (i := 1) rfl) dX5_layStems_186 rfl (by first | rfl | exact upf_s _ _ _ | simp [upf, sc]) ?_
                  refine g_istore F (pc' := 191) (lv' := [some (.ref (a 0)), some (.int (iI 1)), some (.int (iI b)), some (.int (iI o)), some (.int (iI t.1)), none, none, none]) dX5_layStems_189 rfl (by decide) rfl ?_
                  refine h_mem (sc (sc (sc (sc (sc M 0 (upf (M 0) 11 t.1)) 5 (shN t.2.1 t.1 t.1)) 6 (shN t.2.2.1 t.1 t.1)) 7 (shN t.2.2.2.1 t.1 t.1)) 8 (shN t.2.2.2.2 t.1 t.1)) (by rw [shN_0, shN_0, shN_0, shN_0]) ?_
                  have lp_191 : ∀ (n_191 : Nat) (q : Int) (hm_191 : q < (n_191 : Int)) (hq : 0 ≤ q ∧ q ≤ t.1) (hip : iposI t.2.1 (xR M b) t.1 = iposI t.2.1 (xR M b) q), GG p l e ({ frames := 2, cells := 0, slots := 0, locals := 46 } : Room) s m ([.ref (a 0)].toArray) below meth c (PV D T a LR M (fun M' => M' = laid M ord) below ([.ref (a 0)].toArray) s) D (AA T a LR M s.heap.size) 8 (wld T a LR (sc (sc (sc (sc (sc M 0 (upf (M 0) 11 t.1)) 5 (shN t.2.1 q t.1)) 6 (shN t.2.2.1 q t.1)) 7 (shN t.2.2.2.1 q t.1)) 8 (shN t.2.2.2.2 q t.1))) 191 [some (.ref (a 0)), some (.int (iI 1)), some (.int (iI b)), some (.int (iI o)), some (.int (iI q)), none, none, none] [] := by
                    intro n_191
                    induction n_191 with
                    | zero => intro q hm_191 hq hip; exfalso; omega
                    | succ n_191 ih_191 =>
                      intro q hm_191 hq hip
                      refine g_iload F (pc' := 193) dX5_layStems_191 rfl rfl ?_
                      refine g_if_le F (pc' := 196) (tgt := 283) dX5_layStems_193 rfl (by decide) (by omega) (fun c_193 => ?_) (fun c_193 => ?_)
                      · skip
                        have hq5 : iposI t.2.1 (xR M b) t.1 = q := by rw [hip]; first | exact iposI_f (by omega) c_210 | (rw [show q = 0 by omega]; rfl)
                        refine g_aload_n F (pc' := 284) dX5_layStems_283 rfl rfl ?_
                        refine g_getR F K (k := 0) (fld := 6) (ci := 5) (q := 5) (pc' := 287) iX5_layStems_X5 rfl rfl rfl (by decide) (List.mem_of_getElem? (i := 3) rfl) dX5_layStems_284 rfl ?_
                        refine g_iload F (pc' := 289) dX5_layStems_287 rfl rfl ?_
                        refine g_aload_n F (pc' := 290) dX5_layStems_289 rfl rfl ?_
                        refine g_iload_n F (pc' := 291) dX5_layStems_290 rfl rfl ?_
                        refine g_callI F K hXc X0 (pc' := 294) (st := [.int (iI q), .ref (a 5)]) (c5_x l a (sc (sc (sc (sc (sc M 0 (upf (M 0) 11 t.1)) 5 (shN t.2.1 q t.1)) 6 (shN t.2.2.1 q t.1)) 7 (shN t.2.2.2.1 q t.1)) 8 (shN t.2.2.2.2 q t.1)) b (by omega)) (cwV 1 F.2.2.2.2 gX5_layStems_X5_x rfl rfl rfl (by decide +kernel) ⟨Nat.le_of_ble_eq_true rfl, Nat.le_of_ble_eq_true rfl⟩) rfl rfl rfl rfl (Nat.le_of_ble_eq_true rfl) dX5_layStems_291 rfl (fun z_291 M_291 q_291 => ?_)
                        obtain ⟨rfl, mq_291⟩ := q_291
                        have mq_291 := mq_291.symm; subst mq_291
                        refine h_top (z' := M 1 ((4 * b) + 1)) rfl ?_
                        have b_291 := hE ((4 * b) + 1)
                        refine h_iast F K (k := 5) (pc' := 295) (sc (sc (sc (sc (sc M 0 (upf (M 0) 11 t.1)) 5 (upf (shN t.2.1 q t.1) q (M 1 ((4 * b) + 1)))) 6 (shN t.2.2.1 q t.1)) 7 (shN t.2.2.2.1 q t.1)) 8 (shN t.2.2.2.2 q t.1)) (mem_up (by rfl) (by intro j hj; simp only [sc, if_neg hj])) rfl (by decide) (by omega) dX5_layStems_294 rfl ?_
                        refine g_aload_n F (pc' := 296) dX5_layStems_295 rfl rfl ?_
                        refine g_getR F K (k := 0) (fld := 7) (ci := 5) (q := 6) (pc' := 299) iX5_layStems_X5 rfl rfl rfl (by decide) (List.mem_of_getElem? (i := 4) rfl) dX5_layStems_296 rfl ?_
                        refine g_iload F (pc' := 301) dX5_layStems_299 rfl rfl ?_
                        refine g_aload_n F (pc' := 302) dX5_layStems_301 rfl rfl ?_
                        refine g_iload_n F (pc' := 303) dX5_layStems_302 rfl rfl ?_
                        refine g_callI F K hXc X0 (pc' := 306) (st := [.int (iI q), .ref (a 6)]) (c5_x l a (sc (sc (sc (sc (sc M 0 (upf (M 0) 11 t.1)) 5 (upf (shN t.2.1 q t.1) q (M 1 ((4 * b) + 1)))) 6 (shN t.2.2.1 q t.1)) 7 (shN t.2.2.2.1 q t.1)) 8 (shN t.2.2.2.2 q t.1)) o (by omega)) (cwV 1 F.2.2.2.2 gX5_layStems_X5_x rfl rfl rfl (by decide +kernel) ⟨Nat.le_of_ble_eq_true rfl, Nat.le_of_ble_eq_true rfl⟩) rfl rfl rfl rfl (Nat.le_of_ble_eq_true rfl) dX5_layStems_303 rfl (fun z_303 M_303 q_303 => ?_)
                        obtain ⟨rfl, mq_303⟩ := q_303
                        have mq_303 := mq_303.symm; subst mq_303
                        refine h_top (z' := M 1 ((4 * o) + 1)) rfl ?_
                        have b_303 := hE ((4 * o) + 1)
                        refine h_iast F K (k := 6) (pc' := 307) (sc (sc (sc (sc (sc M 0 (upf (M 0) 11 t.1)) 5 (upf (shN t.2.1 q t.1) q (M 1 ((4 * b) + 1)))) 6 (upf (shN t.2.2.1 q t.1) q (M 1 ((4 * o) + 1)))) 7 (shN t.2.2.2.1 q t.1)) 8 (shN t.2.2.2.2 q t.1)) (mem_up (by rfl) (by intro j hj; simp only [sc, if_neg hj])) rfl (by decide) (by omega) dX5_layStems_306 rfl ?_
                        refine g_aload_n F (pc' := 308) dX5_layStems_307 rfl rfl ?_
                        refine g_getR F K (k := 0) (fld := 8) (ci := 5) (q := 7) (pc' := 311) iX5_layStems_X5 rfl rfl rfl (by decide) (List.mem_of_getElem? (i := 5) rfl) dX5_layStems_308 rfl ?_
                        refine g_iload F (pc' := 313) dX5_layStems_311 rfl rfl ?_
                        refine g_iload_n F (pc' := 314) dX5_layStems_313 rfl rfl ?_
                        refine h_iast F K (k := 7) (pc' := 315) (sc (sc (sc (sc (sc M 0 (upf (M 0) 11 t.1)) 5 (upf (shN t.2.1 q t.1) q (M 1 ((4 * b) + 1)))) 6 (upf (shN t.2.2.1 q t.1) q (M 1 ((4 * o) + 1)))) 7 (upf (shN t.2.2.2.1 q t.1) q b)) 8 (shN t.2.2.2.2 q t.1)) (mem_up (by rfl) (by intro j hj; simp only [sc, if_neg hj])) rfl (by decide) (by omega) dX5_layStems_314 rfl ?_
                        refine g_aload_n F (pc' := 316) dX5_layStems_315 rfl rfl ?_
                        refine g_getR F K (k := 0) (fld := 9) (ci := 5) (q := 8) (pc' := 319) iX5_layStems_X5 rfl rfl rfl (by decide) (List.mem_of_getElem? (i := 6) rfl) dX5_layStems_316 rfl ?_
                        refine g_iload F (pc' := 321) dX5_layStems_319 rfl rfl ?_
                        refine g_iload_n F (pc' := 322) dX5_layStems_321 rfl rfl ?_
                        refine h_iast F K (k := 8) (pc' := 323) (sc (sc (sc (sc (sc M 0 (upf (M 0) 11 t.1)) 5 (upf (shN t.2.1 q t.1) q (M 1 ((4 * b) + 1)))) 6 (upf (shN t.2.2.1 q t.1) q (M 1 ((4 * o) + 1)))) 7 (upf (shN t.2.2.2.1 q t.1) q b)) 8 (upf (shN t.2.2.2.2 q t.1) q o)) (mem_up (by rfl) (by intro j hj; simp only [sc, if_neg hj])) rfl (by decide) (by omega) dX5_layStems_322 rfl ?_
                        refine g_aload_n F (pc' := 324) dX5_layStems_323 rfl rfl ?_
                        refine g_dup F (pc' := 325) dX5_layStems_324 rfl rfl ?_
                        refine g_getI F K (k := 0) (fld := 11) (ci := 5) (z := t.1) (pc' := 328) iX5_layStems_X5 rfl rfl rfl (by decide) (List.mem_of_getElem? (i := 1) rfl) dX5_layStems_325 rfl (by first | rfl | exact upf_s _ _ _ | simp [upf, sc]) ?_
                        refine g_iconst F (pc' := 329) dX5_layStems_328 rfl ?_
                        refine g_iadd F (pc' := 330) dX5_layStems_329 rfl ?_
                        refine h_putI F K (k := 0) (fld := 11) (ci := 5) (pc' := 333) (sc (sc (sc (sc (sc M 0 (upf (M 0) 11 (t.1 + 1))) 5 (upf (shN t.2.1 q t.1) q (M 1 ((4 * b) + 1)))) 6 (upf (shN t.2.2.1 q t.1) q (M 1 ((4 * o) + 1)))) 7 (upf (shN t.2.2.2.1 q t.1) q b)) 8 (upf (shN t.2.2.2.2 q t.1) q o)) (mem_up (by first | exact (upf_w _ _ _ _).symm | funext i; simp only [upf, sc]; (repeat' split) <;> first | rfl | omega | simp_all) (by intro j hj; simp only [sc, if_neg hj])) tyX5 tyX5_ok nmX5 iX5_layStems_X5 rfl rfl rfl (by decide) rfl rfl (List.mem_of_getElem? (i := 1) rfl) dX5_layStems_330 rfl ?_
                        refine g_goto F (tgt := 7) dX5_layStems_333 (by decide) ?_
                        refine h_mem (sc (sc (sc (sc (sc M 0 (upf (M 0) 11 (ins5 (xR M) t b o).1)) 5 (ins5 (xR M) t b o).2.1) 6 (ins5 (xR M) t b o).2.2.1) 7 (ins5 (xR M) t b o).2.2.2.1) 8 (ins5 (xR M) t b o).2.2.2.2) (by rw [ins5_q hq5]; rfl) ?_
                        refine g_lvw [some (.ref (a 0)), some (.int (iI 1)), none, none, none, none, none, none] (lvw_of _ _ [true, true, false, false, false, false, false, false] rfl) ?_
                        exact ih_7 1 (k + 1) (ins5 (xR M) t b o) (by first | omega | (show 2 * (8 - (t.1 + 1)) + 1 < _; omega)) (by omega) (by first | decide | omega | (show t.1 + 1 ≤ 8; exact hin)) (by first | exact hk8 | (have := hmn hm1; omega)) (by first | exact ht | exact siter_ins ht hpk (by omega)) (by first | exact fun q => absurd q (by decide) | (intro _; have := hmn hm1; show t.1 + 1 = ((k + 1 : Nat) : Int); omega)) (by first | exact fun q => absurd q (by decide) | (intro _; rw [show pk (canR M) frR (xR M) (M 0 1) t = (b, o) from by rw [hbo, show u = M 0 1 by omega]; rfl]; exact c_172))
                      · skip
                        refine g_aload_n F (pc' := 197) dX5_layStems_196 rfl rfl ?_
                        refine g_getR F K (k := 0) (fld := 6) (ci := 5) (q := 5) (pc' := 200) iX5_layStems_X5 rfl rfl rfl (by decide) (List.mem_of_getElem? (i := 3) rfl) dX5_layStems_197 rfl ?_
                        refine g_iload F (pc' := 202) dX5_layStems_200 rfl rfl ?_
                        refine g_iconst F (pc' := 203) dX5_layStems_202 rfl ?_
                        refine g_isub F (pc' := 204) dX5_layStems_203 rfl ?_
                        refine g_iald F K (k := 5) (v := t.2.1 (q - 1)) (pc' := 205) rfl (by decide) (by omega) dX5_layStems_204 rfl (by simp [sc, shN_at]) ?_
                        have b_204 := (hsb (q - 1) (by omega) (by omega)).1
                        refine g_aload_n F (pc' := 206) dX5_layStems_205 rfl rfl ?_
                        refine g_iload_n F (pc' := 207) dX5_layStems_206 rfl rfl ?_
                        refine g_callI F K hXc X0 (pc' := 210) (st := [.int (iI (t.2.1 (q - 1)))]) (c5_x l a (sc (sc (sc (sc (sc M 0 (upf (M 0) 11 t.1)) 5 (shN t.2.1 q t.1)) 6 (shN t.2.2.1 q t.1)) 7 (shN t.2.2.2.1 q t.1)) 8 (shN t.2.2.2.2 q t.1)) b (by omega)) (cwV 1 F.2.2.2.2 gX5_layStems_X5_x rfl rfl rfl (by decide +kernel) ⟨Nat.le_of_ble_eq_true rfl, Nat.le_of_ble_eq_true rfl⟩) rfl rfl rfl rfl (Nat.le_of_ble_eq_true rfl) dX5_layStems_207 rfl (fun z_207 M_207 q_207 => ?_)
                        obtain ⟨rfl, mq_207⟩ := q_207
                        have mq_207 := mq_207.symm; subst mq_207
                        refine h_top (z' := M 1 ((4 * b) + 1)) rfl ?_
                        have b_207 := hE ((4 * b) + 1)
                        refine g_icmp_le F (pc' := 213) (tgt := 283) dX5_layStems_210 rfl (by decide) (by omega) (by omega) (fun c_210 => ?_) (fun c_210 => ?_)
                        · skip
                          have hq5 : iposI t.2.1 (xR M b) t.1 = q := by rw [hip]; first | exact iposI_f (by omega) c_210 | (rw [show q = 0 by omega]; rfl)
                          refine g_aload_n F (pc' := 284) dX5_layStems_283 rfl rfl ?_
                          refine g_getR F K (k := 0) (fld := 6) (ci := 5) (q := 5) (pc' := 287) iX5_layStems_X5 rfl rfl rfl (by decide) (List.mem_of_getElem? (i := 3) rfl) dX5_layStems_284 rfl ?_
                          refine g_iload F (pc' := 289) dX5_layStems_287 rfl rfl ?_
                          refine g_aload_n F (pc' := 290) dX5_layStems_289 rfl rfl ?_
                          refine g_iload_n F (pc' := 291) dX5_layStems_290 rfl rfl ?_
                          refine g_callI F K hXc X0 (pc' := 294) (st := [.int (iI q), .ref (a 5)]) (c5_x l a (sc (sc (sc (sc (sc M 0 (upf (M 0) 11 t.1)) 5 (shN t.2.1 q t.1)) 6 (shN t.2.2.1 q t.1)) 7 (shN t.2.2.2.1 q t.1)) 8 (shN t.2.2.2.2 q t.1)) b (by omega)) (cwV 1 F.2.2.2.2 gX5_layStems_X5_x rfl rfl rfl (by decide +kernel) ⟨Nat.le_of_ble_eq_true rfl, Nat.le_of_ble_eq_true rfl⟩) rfl rfl rfl rfl (Nat.le_of_ble_eq_true rfl) dX5_layStems_291 rfl (fun z_291 M_291 q_291 => ?_)
                          obtain ⟨rfl, mq_291⟩ := q_291
                          have mq_291 := mq_291.symm; subst mq_291
                          refine h_top (z' := M 1 ((4 * b) + 1)) rfl ?_
                          have b_291 := hE ((4 * b) + 1)
                          refine h_iast F K (k := 5) (pc' := 295) (sc (sc (sc (sc (sc M 0 (upf (M 0) 11 t.1)) 5 (upf (shN t.2.1 q t.1) q (M 1 ((4 * b) + 1)))) 6 (shN t.2.2.1 q t.1)) 7 (shN t.2.2.2.1 q t.1)) 8 (shN t.2.2.2.2 q t.1)) (mem_up (by rfl) (by intro j hj; simp only [sc, if_neg hj])) rfl (by decide) (by omega) dX5_layStems_294 rfl ?_
                          refine g_aload_n F (pc' := 296) dX5_layStems_295 rfl rfl ?_
                          refine g_getR F K (k := 0) (fld := 7) (ci := 5) (q := 6) (pc' := 299) iX5_layStems_X5 rfl rfl rfl (by decide) (List.mem_of_getElem? (i := 4) rfl) dX5_layStems_296 rfl ?_
                          refine g_iload F (pc' := 301) dX5_layStems_299 rfl rfl ?_
                          refine g_aload_n F (pc' := 302) dX5_layStems_301 rfl rfl ?_
                          refine g_iload_n F (pc' := 303) dX5_layStems_302 rfl rfl ?_
                          refine g_callI F K hXc X0 (pc' := 306) (st := [.int (iI q), .ref (a 6)]) (c5_x l a (sc (sc (sc (sc (sc M 0 (upf (M 0) 11 t.1)) 5 (upf (shN t.2.1 q t.1) q (M 1 ((4 * b) + 1)))) 6 (shN t.2.2.1 q t.1)) 7 (shN t.2.2.2.1 q t.1)) 8 (shN t.2.2.2.2 q t.1)) o (by omega)) (cwV 1 F.2.2.2.2 gX5_layStems_X5_x rfl rfl rfl (by decide +kernel) ⟨Nat.le_of_ble_eq_true rfl, Nat.le_of_ble_eq_true rfl⟩) rfl rfl rfl rfl (Nat.le_of_ble_eq_true rfl) dX5_layStems_303 rfl (fun z_303 M_303 q_303 => ?_)
                          obtain ⟨rfl, mq_303⟩ := q_303
                          have mq_303 := mq_303.symm; subst mq_303
                          refine h_top (z' := M 1 ((4 * o) + 1)) rfl ?_
                          have b_303 := hE ((4 * o) + 1)
                          refine h_iast F K (k := 6) (pc' := 307) (sc (sc (sc (sc (sc M 0 (upf (M 0) 11 t.1)) 5 (upf (shN t.2.1 q t.1) q (M 1 ((4 * b) + 1)))) 6 (upf (shN t.2.2.1 q t.1) q (M 1 ((4 * o) + 1)))) 7 (shN t.2.2.2.1 q t.1)) 8 (shN t.2.2.2.2 q t.1)) (mem_up (by rfl) (by intro j hj; simp only [sc, if_neg hj])) rfl (by decide) (by omega) dX5_layStems_306 rfl ?_
                          refine g_aload_n F (pc' := 308) dX5_layStems_307 rfl rfl ?_
                          refine g_getR F K (k := 0) (fld := 8) (ci := 5) (q := 7) (pc' := 311) iX5_layStems_X5 rfl rfl rfl (by decide) (List.mem_of_getElem? (i := 5) rfl) dX5_layStems_308 rfl ?_
                          refine g_iload F (pc' := 313) dX5_layStems_311 rfl rfl ?_
                          refine g_iload_n F (pc' := 314) dX5_layStems_313 rfl rfl ?_
                          refine h_iast F K (k := 7) (pc' := 315) (sc (sc (sc (sc (sc M 0 (upf (M 0) 11 t.1)) 5 (upf (shN t.2.1 q t.1) q (M 1 ((4 * b) + 1)))) 6 (upf (shN t.2.2.1 q t.1) q (M 1 ((4 * o) + 1)))) 7 (upf (shN t.2.2.2.1 q t.1) q b)) 8 (shN t.2.2.2.2 q t.1)) (mem_up (by rfl) (by intro j hj; simp only [sc, if_neg hj])) rfl (by decide) (by omega) dX5_layStems_314 rfl ?_
                          refine g_aload_n F (pc' := 316) dX5_layStems_315 rfl rfl ?_
                          refine g_getR F K (k := 0) (fld := 9) (ci := 5) (q := 8) (pc' := 319) iX5_layStems_X5 rfl rfl rfl (by decide) (List.mem_of_getElem? (i := 6) rfl) dX5_layStems_316 rfl ?_
                          refine g_iload F (pc' := 321) dX5_layStems_319 rfl rfl ?_
                          refine g_iload_n F (pc' := 322) dX5_layStems_321 rfl rfl ?_
                          refine h_iast F K (k := 8) (pc' := 323) (sc (sc (sc (sc (sc M 0 (upf (M 0) 11 t.1)) 5 (upf (shN t.2.1 q t.1) q (M 1 ((4 * b) + 1)))) 6 (upf (shN t.2.2.1 q t.1) q (M 1 ((4 * o) + 1)))) 7 (upf (shN t.2.2.2.1 q t.1) q b)) 8 (upf (shN t.2.2.2.2 q t.1) q o)) (mem_up (by rfl) (by intro j hj; simp only [sc, if_neg hj])) rfl (by decide) (by omega) dX5_layStems_322 rfl ?_
                          refine g_aload_n F (pc' := 324) dX5_layStems_323 rfl rfl ?_
                          refine g_dup F (pc' := 325) dX5_layStems_324 rfl rfl ?_
                          refine g_getI F K (k := 0) (fld := 11) (ci := 5) (z := t.1) (pc' := 328) iX5_layStems_X5 rfl rfl rfl (by decide) (List.mem_of_getElem? (i := 1) rfl) dX5_layStems_325 rfl (by first | rfl | exact upf_s _ _ _ | simp [upf, sc]) ?_
                          refine g_iconst F (pc' := 329) dX5_layStems_328 rfl ?_
                          refine g_iadd F (pc' := 330) dX5_layStems_329 rfl ?_
                          refine h_putI F K (k := 0) (fld := 11) (ci := 5) (pc' := 333) (sc (sc (sc (sc (sc M 0 (upf (M 0) 11 (t.1 + 1))) 5 (upf (shN t.2.1 q t.1) q (M 1 ((4 * b) + 1)))) 6 (upf (shN t.2.2.1 q t.1) q (M 1 ((4 * o) + 1)))) 7 (upf (shN t.2.2.2.1 q t.1) q b)) 8 (upf (shN t.2.2.2.2 q t.1) q o)) (mem_up (by first | exact (upf_w _ _ _ _).symm | funext i; simp only [upf, sc]; (repeat' split) <;> first | rfl | omega | simp_all) (by intro j hj; simp only [sc, if_neg hj])) tyX5 tyX5_ok nmX5 iX5_layStems_X5 rfl rfl rfl (by decide) rfl rfl (List.mem_of_getElem? (i := 1) rfl) dX5_layStems_330 rfl ?_
                          refine g_goto F (tgt := 7) dX5_layStems_333 (by decide) ?_
                          refine h_mem (sc (sc (sc (sc (sc M 0 (upf (M 0) 11 (ins5 (xR M) t b o).1)) 5 (ins5 (xR M) t b o).2.1) 6 (ins5 (xR M) t b o).2.2.1) 7 (ins5 (xR M) t b o).2.2.2.1) 8 (ins5 (xR M) t b o).2.2.2.2) (by rw [ins5_q hq5]; rfl) ?_
                          refine g_lvw [some (.ref (a 0)), some (.int (iI 1)), none, none, none, none, none, none] (lvw_of _ _ [true, true, false, false, false, false, false, false] rfl) ?_
                          exact ih_7 1 (k + 1) (ins5 (xR M) t b o) (by first | omega | (show 2 * (8 - (t.1 + 1)) + 1 < _; omega)) (by omega) (by first | decide | omega | (show t.1 + 1 ≤ 8; exact hin)) (by first | exact hk8 | (have := hmn hm1; omega)) (by first | exact ht | exact siter_ins ht hpk (by omega)) (by first | exact fun q => absurd q (by decide) | (intro _; have := hmn hm1; show t.1 + 1 = ((k + 1 : Nat) : Int); omega)) (by first | exact fun q => absurd q (by decide) | (intro _; rw [show pk (canR M) frR (xR M) (M 0 1) t = (b, o) from by rw [hbo, show u = M 0 1 by omega]; rfl]; exact c_172))
                        · skip
                          refine g_aload_n F (pc' := 214) dX5_layStems_213 rfl rfl ?_
                          refine g_getR F K (k := 0) (fld := 6) (ci := 5) (q := 5) (pc' := 217) iX5_layStems_X5 rfl rfl rfl (by decide) (List.mem_of_getElem? (i := 3) rfl) dX5_layStems_214 rfl ?_
                          refine g_iload F (pc' := 219) dX5_layStems_217 rfl rfl ?_
                          refine g_aload_n F (pc' := 220) dX5_layStems_219 rfl rfl ?_
                          refine g_getR F K (k := 0) (fld := 6) (ci := 5) (q := 5) (pc' := 223) iX5_layStems_X5 rfl rfl rfl (by decide) (List.mem_of_getElem? (i := 3) rfl) dX5_layStems_220 rfl ?_
                          refine g_iload F (pc' := 225) dX5_layStems_223 rfl rfl ?_
                          refine g_iconst F (pc' := 226) dX5_layStems_225 rfl ?_
                          refine g_isub F (pc' := 227) dX5_layStems_226 rfl ?_
                          refine g_iald F K (k := 5) (v := (shN t.2.1 q t.1) (q - 1)) (pc' := 228) rfl (by decide) (by omega) dX5_layStems_227 rfl (by first | rfl | simp [upf, sc]) ?_
                          refine h_iast F K (k := 5) (pc' := 229) (sc (sc (sc (sc (sc M 0 (upf (M 0) 11 t.1)) 5 (upf (shN t.2.1 q t.1) q ((shN t.2.1 q t.1) (q - 1)))) 6 (shN t.2.2.1 q t.1)) 7 (shN t.2.2.2.1 q t.1)) 8 (shN t.2.2.2.2 q t.1)) (mem_up (by rfl) (by intro j hj; simp only [sc, if_neg hj])) rfl (by decide) (by omega) dX5_layStems_228 rfl ?_
                          refine g_aload_n F (pc' := 230) dX5_layStems_229 rfl rfl ?_
                          refine g_getR F K (k := 0) (fld := 7) (ci := 5) (q := 6) (pc' := 233) iX5_layStems_X5 rfl rfl rfl (by decide) (List.mem_of_getElem? (i := 4) rfl) dX5_layStems_230 rfl ?_
                          refine g_iload F (pc' := 235) dX5_layStems_233 rfl rfl ?_
                          refine g_aload_n F (pc' := 236) dX5_layStems_235 rfl rfl ?_
                          refine g_getR F K (k := 0) (fld := 7) (ci := 5) (q := 6) (pc' := 239) iX5_layStems_X5 rfl rfl rfl (by decide) (List.mem_of_getElem? (i := 4) rfl) dX5_layStems_236 rfl ?_
                          refine g_iload F (pc' := 241) dX5_layStems_239 rfl rfl ?_
                          refine g_iconst F (pc' := 242) dX5_layStems_241 rfl ?_
                          refine g_isub F (pc' := 243) dX5_layStems_242 rfl ?_
                          refine g_iald F K (k := 6) (v := (shN t.2.2.1 q t.1) (q - 1)) (pc' := 244) rfl (by decide) (by omega) dX5_layStems_243 rfl (by first | rfl | simp [upf, sc]) ?_
                          refine h_iast F K (k := 6) (pc' := 245) (sc (sc (sc (sc (sc M 0 (upf (M 0) 11 t.1)) 5 (upf (shN t.2.1 q t.1) q ((shN t.2.1 q t.1) (q - 1)))) 6 (upf (shN t.2.2.1 q t.1) q ((shN t.2.2.1 q t.1) (q - 1)))) 7 (shN t.2.2.2.1 q t.1)) 8 (shN t.2.2.2.2 q t.1)) (mem_up (by rfl) (by intro j hj; simp only [sc, if_neg hj])) rfl (by decide) (by omega) dX5_layStems_244 rfl ?_
                          refine g_aload_n F (pc' := 246) dX5_layStems_245 rfl rfl ?_
                          refine g_getR F K (k := 0) (fld := 8) (ci := 5) (q := 7) (pc' := 249) iX5_layStems_X5 rfl rfl rfl (by decide) (List.mem_of_getElem? (i := 5) rfl) dX5_layStems_246 rfl ?_
                          refine g_iload F (pc' := 251) dX5_layStems_249 rfl rfl ?_
                          refine g_aload_n F (pc' := 252) dX5_layStems_251 rfl rfl ?_
                          refine g_getR F K (k := 0) (fld := 8) (ci := 5) (q := 7) (pc' := 255) iX5_layStems_X5 rfl rfl rfl (by decide) (List.mem_of_getElem? (i := 5) rfl) dX5_layStems_252 rfl ?_
                          refine g_iload F (pc' := 257) dX5_layStems_255 rfl rfl ?_
                          refine g_iconst F (pc' := 258) dX5_layStems_257 rfl ?_
                          refine g_isub F (pc' := 259) dX5_layStems_258 rfl ?_
                          refine g_iald F K (k := 7) (v := (shN t.2.2.2.1 q t.1) (q - 1)) (pc' := 260) rfl (by decide) (by omega) dX5_layStems_259 rfl (by first | rfl | simp [upf, sc]) ?_
                          refine h_iast F K (k := 7) (pc' := 261) (sc (sc (sc (sc (sc M 0 (upf (M 0) 11 t.1)) 5 (upf (shN t.2.1 q t.1) q ((shN t.2.1 q t.1) (q - 1)))) 6 (upf (shN t.2.2.1 q t.1) q ((shN t.2.2.1 q t.1) (q - 1)))) 7 (upf (shN t.2.2.2.1 q t.1) q ((shN t.2.2.2.1 q t.1) (q - 1)))) 8 (shN t.2.2.2.2 q t.1)) (mem_up (by rfl) (by intro j hj; simp only [sc, if_neg hj])) rfl (by decide) (by omega) dX5_layStems_260 rfl ?_
                          refine g_aload_n F (pc' := 262) dX5_layStems_261 rfl rfl ?_
                          refine g_getR F K (k := 0) (fld := 9) (ci := 5) (q := 8) (pc' := 265) iX5_layStems_X5 rfl rfl rfl (by decide) (List.mem_of_getElem? (i := 6) rfl) dX5_layStems_262 rfl ?_
                          refine g_iload F (pc' := 267) dX5_layStems_265 rfl rfl ?_
                          refine g_aload_n F (pc' := 268) dX5_layStems_267 rfl rfl ?_
                          refine g_getR F K (k := 0) (fld := 9) (ci := 5) (q := 8) (pc' := 271) iX5_layStems_X5 rfl rfl rfl (by decide) (List.mem_of_getElem? (i := 6) rfl) dX5_layStems_268 rfl ?_
                          refine g_iload F (pc' := 273) dX5_layStems_271 rfl rfl ?_
                          refine g_iconst F (pc' := 274) dX5_layStems_273 rfl ?_
                          refine g_isub F (pc' := 275) dX5_layStems_274 rfl ?_
                          refine g_iald F K (k := 8) (v := (shN t.2.2.2.2 q t.1) (q - 1)) (pc' := 276) rfl (by decide) (by omega) dX5_layStems_275 rfl (by first | rfl | simp [upf, sc]) ?_
                          refine h_iast F K (k := 8) (pc' := 277) (sc (sc (sc (sc (sc M 0 (upf (M 0) 11 t.1)) 5 (upf (shN t.2.1 q t.1) q ((shN t.2.1 q t.1) (q - 1)))) 6 (upf (shN t.2.2.1 q t.1) q ((shN t.2.2.1 q t.1) (q - 1)))) 7 (upf (shN t.2.2.2.1 q t.1) q ((shN t.2.2.2.1 q t.1) (q - 1)))) 8 (upf (shN t.2.2.2.2 q t.1) q ((shN t.2.2.2.2 q t.1) (q - 1)))) (mem_up (by rfl) (by intro j hj; simp only [sc, if_neg hj])) rfl (by decide) (by omega) dX5_layStems_276 rfl ?_
                          refine g_iinc F (pc' := 280) (lv' := [some (.ref (a 0)), some (.int (iI 1)), some (.int (iI b)), some (.int (iI o)), some (.int (iI (q + (-1)))), none, none, none]) dX5_layStems_277 rfl rfl (by decide) rfl ?_
                          refine g_goto F (tgt := 191) dX5_layStems_280 (by decide) ?_
                          refine h_mem (sc (sc (sc (sc (sc M 0 (upf (M 0) 11 t.1)) 5 (shN t.2.1 (q + (-1)) t.1)) 6 (shN t.2.2.1 (q + (-1)) t.1)) 7 (shN t.2.2.2.1 (q + (-1)) t.1)) 8 (shN t.2.2.2.2 (q + (-1)) t.1)) (by rw [shN_s (by omega), shN_s (by omega), shN_s (by omega), shN_s (by omega)]) ?_
                          exact ih_191 (q + (-1)) (by omega) (by omega) (by first | rfl | (rw [hip]; exact iposI_t (by omega) c_210))
                  exact lp_191 ((t.1 : Int).toNat + 1) t.1 (by omega) (by omega) (by first | rfl | (rw [hip]; exact iposI_t (by omega) c_210))
            · skip
              refine g_iconst F (pc' := 30) dX5_layStems_29 rfl ?_
              refine g_istore F (pc' := 32) (lv' := [some (.ref (a 0)), none, some (.int (iI b)), some (.int (iI o)), some (.int (iI u)), some (.int (iI 0)), none, none]) dX5_layStems_30 rfl (by decide) rfl ?_
              have lp_32 : ∀ (n_32 : Nat) (b : Int) (o : Int) (d : Int) (hm_32 : M 0 1 - d < (n_32 : Int)) (hd : 0 ≤ d ∧ d ≤ M 0 1) (hbd : (b, o) = pinI (cnS M t) (xR M) (poutI (cnS M t) (xR M) (M 0 1) u) u d), GG p l e ({ frames := 2, cells := 0, slots := 0, locals := 46 } : Room) s m ([.ref (a 0)].toArray) below meth c (PV D T a LR M (fun M' => M' = laid M ord) below ([.ref (a 0)].toArray) s) D (AA T a LR M s.heap.size) 8 (wld T a LR (sc (sc (sc (sc (sc M 0 (upf (M 0) 11 t.1)) 5 t.2.1) 6 t.2.2.1) 7 t.2.2.2.1) 8 t.2.2.2.2)) 32 [some (.ref (a 0)), none, some (.int (iI b)), some (.int (iI o)), some (.int (iI u)), some (.int (iI d)), none, none] [] := by
                intro n_32
                induction n_32 with
                | zero => intro b o d hm_32 hd hbd; exfalso; omega
                | succ n_32 ih_32 =>
                  intro b o d hm_32 hd hbd
                  have hOK : pOK (cnS M t) (M 0 1) (b, o) := hbd ▸ pinI_OK (poutI_OK (by omega)) (by omega) hd
                  have hOb : b < 0 ∨ ((0 ≤ b ∧ b < M 0 1) ∧ (0 ≤ o ∧ o < M 0 1)) := pOK_R hOK
                  have hOr := pOK_B hOK
                  have lp_133 : ∀ (w : Int) (c_38 : d < M 0 1) (c_49 : canR M u d) (c_60 : frR (xR M) t u d) (hw : w = zC (b < 0 ∨ M 1 ((4 * d) + 1) - M 1 ((4 * u) + 1) < M 1 ((4 * o) + 1) - M 1 ((4 * b) + 1) ∨ (M 1 ((4 * d) + 1) - M 1 ((4 * u) + 1) = M 1 ((4 * o) + 1) - M 1 ((4 * b) + 1) ∧ M 1 ((4 * u) + 1) < M 1 ((4 * b) + 1)))), GG p l e ({ frames := 2, cells := 0, slots := 0, locals := 46 } : Room) s m ([.ref (a 0)].toArray) below meth c (PV D T a LR M (fun M' => M' = laid M ord) below ([.ref (a 0)].toArray) s) D (AA T a LR M s.heap.size) 8 (wld T a LR (sc (sc (sc (sc (sc M 0 (upf (M 0) 11 t.1)) 5 t.2.1) 6 t.2.2.1) 7 t.2.2.2.1) 8 t.2.2.2.2)) 133 [some (.ref (a 0)), none, some (.int (iI b)), some (.int (iI o)), some (.int (iI u)), some (.int (iI d)), none, none] [.int (iI w)] := by
                    intro w c_38 c_49 c_60 hw
                    subst hw
                    refine g_istore F (pc' := 135) (lv' := [some (.ref (a 0)), none, some (.int (iI b)), some (.int (iI o)), some (.int (iI u)), some (.int (iI d)), none, some (.int (iI (zC (b < 0 ∨ M 1 ((4 * d) + 1) - M 1 ((4 * u) + 1) < M 1 ((4 * o) + 1) - M 1 ((4 * b) + 1) ∨ (M 1 ((4 * d) + 1) - M 1 ((4 * u) + 1) = M 1 ((4 * o) + 1) - M 1 ((4 * b) + 1) ∧ M 1 ((4 * u) + 1) < M 1 ((4 * b) + 1))))))]) dX5_layStems_133 rfl (by decide) rfl ?_
                    refine g_iload F (pc' := 137) dX5_layStems_135 rfl rfl ?_
                    refine g_if_eq F (pc' := 140) (tgt := 145) dX5_layStems_137 rfl (by decide) (zC_R _) (fun c_137 => ?_) (fun c_137 => ?_)
                    · skip
                      have c_137 := zC_0 c_137
                      refine g_iload_n F (pc' := 146) dX5_layStems_145 rfl rfl ?_
                      refine g_istore_n F (pc' := 147) (lv' := [some (.ref (a 0)), none, some (.int (iI b)), some (.int (iI o)), some (.int (iI u)), some (.int (iI d)), none, some (.int (iI (zC (b < 0 ∨ M 1 ((4 * d) + 1) - M 1 ((4 * u) + 1) < M 1 ((4 * o) + 1) - M 1 ((4 * b) + 1) ∨ (M 1 ((4 * d) + 1) - M 1 ((4 * u) + 1) = M 1 ((4 * o) + 1) - M 1 ((4 * b) + 1) ∧ M 1 ((4 * u) + 1) < M 1 ((4 * b) + 1))))))]) dX5_layStems_146 rfl (by decide) rfl ?_
                      refine g_iload F (pc' := 149) dX5_layStems_147 rfl rfl ?_
                      refine g_if_eq F (pc' := 152) (tgt := 157) dX5_layStems_149 rfl (by decide) (zC_R _) (fun c_149 => ?_) (fun c_149 => ?_)
                      · skip
                        have c_149 := zC_0 c_149
                        refine g_iload_n F (pc' := 158) dX5_layStems_157 rfl rfl ?_
                        refine g_istore_n F (pc' := 159) (lv' := [some (.ref (a 0)), none, some (.int (iI b)), some (.int (iI o)), some (.int (iI u)), some (.int (iI d)), none, some (.int (iI (zC (b < 0 ∨ M 1 ((4 * d) + 1) - M 1 ((4 * u) + 1) < M 1 ((4 * o) + 1) - M 1 ((4 * b) + 1) ∨ (M 1 ((4 * d) + 1) - M 1 ((4 * u) + 1) = M 1 ((4 * o) + 1) - M 1 ((4 * b) + 1) ∧ M 1 ((4 * u) + 1) < M 1 ((4 * b) + 1))))))]) dX5_layStems_158 rfl (by decide) rfl ?_
                        refine g_iinc F (pc' := 162) (lv' := [some (.ref (a 0)), none, some (.int (iI b)), some (.int (iI o)), some (.int (iI u)), some (.int (iI (d + 1))), none, some (.int (iI (zC (b < 0 ∨ M 1 ((4 * d) + 1) - M 1 ((4 * u) + 1) < M 1 ((4 * o) + 1) - M 1 ((4 * b) + 1) ∨ (M 1 ((4 * d) + 1) - M 1 ((4 * u) + 1) = M 1 ((4 * o) + 1) - M 1 ((4 * b) + 1) ∧ M 1 ((4 * u) + 1) < M 1 ((4 * b) + 1))))))]) dX5_layStems_159 rfl rfl (by decide) rfl ?_
                        refine g_goto F (tgt := 32) dX5_layStems_162 (by decide) ?_
                        refine g_lvw [some (.ref (a 0)), none, some (.int (iI b)), some (.int (iI o)), some (.int (iI u)), some (.int (iI (d + 1))), none, none] (lvw_of _ _ [true, false, true, true, true, true, false, false] rfl) ?_
                        exact ih_32 b o (d + 1) (by omega) (by omega) (by first | exact hbo | (rw [pinI_s hd.1, ← hbd]; first | exact (stp_f (fun q => c_49 q.1.1)).symm | exact (stp_f (fun q => c_60 q.1.2)).symm | exact (stp_t ⟨⟨c_49, c_60⟩, c_137⟩).symm | exact (stp_f (fun q => c_137 q.2)).symm))
                      · skip
                        have c_149 := zC_1 c_149
                        exact absurd c_149 c_137
                    · skip
                      have c_137 := zC_1 c_137
                      refine g_iload F (pc' := 142) dX5_layStems_140 rfl rfl ?_
                      refine g_goto F (tgt := 146) dX5_layStems_142 (by decide) ?_
                      refine g_istore_n F (pc' := 147) (lv' := [some (.ref (a 0)), none, some (.int (iI u)), some (.int (iI o)), some (.int (iI u)), some (.int (iI d)), none, some (.int (iI (zC (b < 0 ∨ M 1 ((4 * d) + 1) - M 1 ((4 * u) + 1) < M 1 ((4 * o) + 1) - M 1 ((4 * b) + 1) ∨ (M 1 ((4 * d) + 1) - M 1 ((4 * u) + 1) = M 1 ((4 * o) + 1) - M 1 ((4 * b) + 1) ∧ M 1 ((4 * u) + 1) < M 1 ((4 * b) + 1))))))]) dX5_layStems_146 rfl (by decide) rfl ?_
                      refine g_iload F (pc' := 149) dX5_layStems_147 rfl rfl ?_
                      refine g_if_eq F (pc' := 152) (tgt := 157) dX5_layStems_149 rfl (by decide) (zC_R _) (fun c_149 => ?_) (fun c_149 => ?_)
                      · skip
                        have c_149 := zC_0 c_149
                        exact absurd c_137 c_149
                      · skip
                        have c_149 := zC_1 c_149
                        refine g_iload F (pc' := 154) dX5_layStems_152 rfl rfl ?_
                        refine g_goto F (tgt := 158) dX5_layStems_154 (by decide) ?_
                        refine g_istore_n F (pc' := 159) (lv' := [some (.ref (a 0)), none, some (.int (iI u)), some (.int (iI d)), some (.int (iI u)), some (.int (iI d)), none, some (.int (iI (zC (b < 0 ∨ M 1 ((4 * d) + 1) - M 1 ((4 * u) + 1) < M 1 ((4 * o) + 1) - M 1 ((4 * b) + 1) ∨ (M 1 ((4 * d) + 1) - M 1 ((4 * u) + 1) = M 1 ((4 * o) + 1) - M 1 ((4 * b) + 1) ∧ M 1 ((4 * u) + 1) < M 1 ((4 * b) + 1))))))]) dX5_layStems_158 rfl (by decide) rfl ?_
                        refine g_iinc F (pc' := 162) (lv' := [some (.ref (a 0)), none, some (.int (iI u)), some (.int (iI d)), some (.int (iI u)), some (.int (iI (d + 1))), none, some (.int (iI (zC (b < 0 ∨ M 1 ((4 * d) + 1) - M 1 ((4 * u) + 1) < M 1 ((4 * o) + 1) - M 1 ((4 * b) + 1) ∨ (M 1 ((4 * d) + 1) - M 1 ((4 * u) + 1) = M 1 ((4 * o) + 1) - M 1 ((4 * b) + 1) ∧ M 1 ((4 * u) + 1) < M 1 ((4 * b) + 1))))))]) dX5_layStems_159 rfl rfl (by decide) rfl ?_
                        refine g_goto F (tgt := 32) dX5_layStems_162 (by decide) ?_
                        refine g_lvw [some (.ref (a 0)), none, some (.int (iI u)), some (.int (iI d)), some (.int (iI u)), some (.int (iI (d + 1))), none, none] (lvw_of _ _ [true, false, true, true, true, true, false, false] rfl) ?_
                        exact ih_32 u d (d + 1) (by omega) (by omega) (by first | exact hbo | (rw [pinI_s hd.1, ← hbd]; first | exact (stp_f (fun q => c_49 q.1.1)).symm | exact (stp_f (fun q => c_60 q.1.2)).symm | exact (stp_t ⟨⟨c_49, c_60⟩, c_137⟩).symm | exact (stp_f (fun q => c_137 q.2)).symm))
                  refine g_iload F (pc' := 34) dX5_layStems_32 rfl rfl ?_
                  refine g_aload_n F (pc' := 35) dX5_layStems_34 rfl rfl ?_
                  refine g_getI F K (k := 0) (fld := 1) (ci := 5) (z := M 0 1) (pc' := 38) iX5_layStems_X5 rfl rfl rfl (by decide) (List.mem_of_getElem? (i := 2) rfl) dX5_layStems_35 rfl (by first | rfl | simp [upf, sc]) ?_
                  refine g_icmp_ge F (pc' := 41) (tgt := 165) dX5_layStems_38 rfl (by decide) (by omega) (by omega) (fun c_38 => ?_) (fun c_38 => ?_)
                  · skip
                    refine g_iinc F (pc' := 168) (lv' := [some (.ref (a 0)), none, some (.int (iI b)), some (.int (iI o)), some (.int (iI (u + 1))), some (.int (iI d)), none, none]) dX5_layStems_165 rfl rfl (by decide) rfl ?_
                    refine g_goto F (tgt := 20) dX5_layStems_168 (by decide) ?_
                    refine g_lvw [some (.ref (a 0)), none, some (.int (iI b)), some (.int (iI o)), some (.int (iI (u + 1))), none, none, none] (lvw_of _ _ [true, false, true, true, true, false, false, false] rfl) ?_
                    exact ih_20 b o (u + 1) (by omega) (by omega) (by (have hd9 : d = M 0 1 := by omega); rw [hd9] at hbd; rw [poutI_s hu.1]; exact hbd) (hm1)
                  · skip
                    refine g_aload_n F (pc' := 42) dX5_layStems_41 rfl rfl ?_
                    refine g_iload F (pc' := 44) dX5_layStems_42 rfl rfl ?_
                    refine g_iload F (pc' := 46) dX5_layStems_44 rfl rfl ?_
                    refine g_callI F K hXc X0 (pc' := 49) (st := []) (c5_canBe l a (sc (sc (sc (sc (sc M 0 (upf (M 0) 11 t.1)) 5 t.2.1) 6 t.2.2.1) 7 t.2.2.2.1) 8 t.2.2.2.2) u d (by omega) (by omega) hE) (cwV 2 F.2.2.2.2 gX5_layStems_X5_canBe rfl rfl rfl (by decide +kernel) ⟨Nat.le_of_ble_eq_true rfl, Nat.le_of_ble_eq_true rfl⟩) rfl rfl rfl rfl (Nat.le_of_ble_eq_true rfl) dX5_layStems_46 rfl (fun z_46 M_46 q_46 => ?_)
                    obtain ⟨rfl, mq_46⟩ := q_46
                    have mq_46 := mq_46.symm; subst mq_46
                    refine h_top (z' := zC (canR M u d)) rfl ?_
                    refine g_if_eq F (pc' := 52) (tgt := 159) dX5_layStems_49 rfl (by decide) (zC_R _) (fun c_49 => ?_) (fun c_49 => ?_)
                    · skip
                      have c_49 := zC_0 c_49
                      refine g_iinc F (pc' := 162) (lv' := [some (.ref (a 0)), none, some (.int (iI b)), some (.int (iI o)), some (.int (iI u)), some (.int (iI (d + 1))), none, none]) dX5_layStems_159 rfl rfl (by decide) rfl ?_
                      refine g_goto F (tgt := 32) dX5_layStems_162 (by decide) ?_
                      exact ih_32 b o (d + 1) (by omega) (by omega) (by first | exact hbo | (rw [pinI_s hd.1, ← hbd]; first | exact (stp_f (fun q => c_49 q.1.1)).symm | exact (stp_f (fun q => c_60 q.1.2)).symm | exact (stp_t ⟨⟨c_49, c_60⟩, c_137⟩).symm | exact (stp_f (fun q => c_137 q.2)).symm))
                    · skip
                      have c_49 := zC_1 c_49
                      refine g_aload_n F (pc' := 53) dX5_layStems_52 rfl rfl ?_
                      refine g_iload F (pc' := 55) dX5_layStems_53 rfl rfl ?_
                      refine g_iload F (pc' := 57) dX5_layStems_55 rfl rfl ?_
                      refine g_callI F K hXc X0 (pc' := 60) (st := []) (c5_isFree l a (sc (sc (sc (sc (sc M 0 (upf (M 0) 11 t.1)) 5 t.2.1) 6 t.2.2.1) 7 t.2.2.2.1) 8 t.2.2.2.2) u d (by omega) (by omega) hE (by show 0 ≤ t.1 ∧ t.1 ≤ 8; omega) hsb) (cwV 2 F.2.2.2.2 gX5_layStems_X5_isFree rfl rfl rfl (by decide +kernel) ⟨Nat.le_of_ble_eq_true rfl, Nat.le_of_ble_eq_true rfl⟩) rfl rfl rfl rfl (Nat.le_of_ble_eq_true rfl) dX5_layStems_57 rfl (fun z_57 M_57 q_57 => ?_)
                      obtain ⟨rfl, mq_57⟩ := q_57
                      have mq_57 := mq_57.symm; subst mq_57
                      refine h_top (z' := zC (frR (xR M) t u d)) rfl ?_
                      refine g_if_eq F (pc' := 63) (tgt := 159) dX5_layStems_60 rfl (by decide) (zC_R _) (fun c_60 => ?_) (fun c_60 => ?_)
                      · skip
                        have c_60 := zC_0 c_60
                        refine g_iinc F (pc' := 162) (lv' := [some (.ref (a 0)), none, some (.int (iI b)), some (.int (iI o)), some (.int (iI u)), some (.int (iI (d + 1))), none, none]) dX5_layStems_159 rfl rfl (by decide) rfl ?_
                        refine g_goto F (tgt := 32) dX5_layStems_162 (by decide) ?_
                        exact ih_32 b o (d + 1) (by omega) (by omega) (by first | exact hbo | (rw [pinI_s hd.1, ← hbd]; first | exact (stp_f (fun q => c_49 q.1.1)).symm | exact (stp_f (fun q => c_60 q.1.2)).symm | exact (stp_t ⟨⟨c_49, c_60⟩, c_137⟩).symm | exact (stp_f (fun q => c_137 q.2)).symm))
                      · skip
                        have c_60 := zC_1 c_60
                        refine g_aload_n F (pc' := 64) dX5_layStems_63 rfl rfl ?_
                        refine g_iload F (pc' := 66) dX5_layStems_64 rfl rfl ?_
                        refine g_callI F K hXc X0 (pc' := 69) (st := []) (c5_x l a (sc (sc (sc (sc (sc M 0 (upf (M 0) 11 t.1)) 5 t.2.1) 6 t.2.2.1) 7 t.2.2.2.1) 8 t.2.2.2.2) d (by omega)) (cwV 1 F.2.2.2.2 gX5_layStems_X5_x rfl rfl rfl (by decide +kernel) ⟨Nat.le_of_ble_eq_true rfl, Nat.le_of_ble_eq_true rfl⟩) rfl rfl rfl rfl (Nat.le_of_ble_eq_true rfl) dX5_layStems_66 rfl (fun z_66 M_66 q_66 => ?_)
                        obtain ⟨rfl, mq_66⟩ := q_66
                        have mq_66 := mq_66.symm; subst mq_66
                        refine h_top (z' := M 1 ((4 * d) + 1)) rfl ?_
                        have b_66 := hE ((4 * d) + 1)
                        refine g_aload_n F (pc' := 70) dX5_layStems_69 rfl rfl ?_
                        refine g_iload F (pc' := 72) dX5_layStems_70 rfl rfl ?_
                        refine g_callI F K hXc X0 (pc' := 75) (st := [.int (iI (M 1 ((4 * d) + 1)))]) (c5_x l a (sc (sc (sc (sc (sc M 0 (upf (M 0) 11 t.1)) 5 t.2.1) 6 t.2.2.1) 7 t.2.2.2.1) 8 t.2.2.2.2) u (by omega)) (cwV 1 F.2.2.2.2 gX5_layStems_X5_x rfl rfl rfl (by decide +kernel) ⟨Nat.le_of_ble_eq_true rfl, Nat.le_of_ble_eq_true rfl⟩) rfl rfl rfl rfl (Nat.le_of_ble_eq_true rfl) dX5_layStems_72 rfl (fun z_72 M_72 q_72 => ?_)
                        obtain ⟨rfl, mq_72⟩ := q_72
                        have mq_72 := mq_72.symm; subst mq_72
                        refine h_top (z' := M 1 ((4 * u) + 1)) rfl ?_
                        have b_72 := hE ((4 * u) + 1)
                        refine g_isub F (pc' := 76) dX5_layStems_75 rfl ?_
                        refine g_istore F (pc' := 78) (lv' := [some (.ref (a 0)), none, some (.int (iI b)), some (.int (iI o)), some (.int (iI u)), some (.int (iI d)), some (.int (iI ((M 1 ((4 * d) + 1)) - (M 1 ((4 * u) + 1))))), none]) dX5_layStems_76 rfl (by decide) rfl ?_
                        refine g_iload_n F (pc' := 79) dX5_layStems_78 rfl rfl ?_
                        refine g_if_lt F (pc' := 82) (tgt := 128) dX5_layStems_79 rfl (by decide) (by omega) (fun c_79 => ?_) (fun c_79 => ?_)
                        · skip
                          refine g_iconst F (pc' := 129) dX5_layStems_128 rfl ?_
                          refine g_goto F (tgt := 133) dX5_layStems_129 (by decide) ?_
                          refine g_lvw [some (.ref (a 0)), none, some (.int (iI b)), some (.int (iI o)), some (.int (iI u)), some (.int (iI d)), none, none] (lvw_of _ _ [true, false, true, true, true, true, false, false] rfl) ?_
                          exact lp_133 1 (c_38) (c_49) (c_60) (by first | exact (zC_t (by omega)).symm | exact (zC_f (by omega)).symm)
                        · skip
                          refine g_iload F (pc' := 84) dX5_layStems_82 rfl rfl ?_
                          refine g_aload_n F (pc' := 85) dX5_layStems_84 rfl rfl ?_
                          refine g_iload_n F (pc' := 86) dX5_layStems_85 rfl rfl ?_
                          refine g_callI F K hXc X0 (pc' := 89) (st := [.int (iI ((M 1 ((4 * d) + 1)) - (M 1 ((4 * u) + 1))))]) (c5_x l a (sc (sc (sc (sc (sc M 0 (upf (M 0) 11 t.1)) 5 t.2.1) 6 t.2.2.1) 7 t.2.2.2.1) 8 t.2.2.2.2) o (by omega)) (cwV 1 F.2.2.2.2 gX5_layStems_X5_x rfl rfl rfl (by decide +kernel) ⟨Nat.le_of_ble_eq_true rfl, Nat.le_of_ble_eq_true rfl⟩) rfl rfl rfl rfl (Nat.le_of_ble_eq_true rfl) dX5_layStems_86 rfl (fun z_86 M_86 q_86 => ?_)
                          obtain ⟨rfl, mq_86⟩ := q_86
                          have mq_86 := mq_86.symm; subst mq_86
                          refine h_top (z' := M 1 ((4 * o) + 1)) rfl ?_
                          have b_86 := hE ((4 * o) + 1)
                          refine g_aload_n F (pc' := 90) dX5_layStems_89 rfl rfl ?_
                          refine g_iload_n F (pc' := 91) dX5_layStems_90 rfl rfl ?_
                          refine g_callI F K hXc X0 (pc' := 94) (st := [.int (iI (M 1 ((4 * o) + 1))), .int (iI ((M 1 ((4 * d) + 1)) - (M 1 ((4 * u) + 1))))]) (c5_x l a (sc (sc (sc (sc (sc M 0 (upf (M 0) 11 t.1)) 5 t.2.1) 6 t.2.2.1) 7 t.2.2.2.1) 8 t.2.2.2.2) b (by omega)) (cwV 1 F.2.2.2.2 gX5_layStems_X5_x rfl rfl rfl (by decide +kernel) ⟨Nat.le_of_ble_eq_true rfl, Nat.le_of_ble_eq_true rfl⟩) rfl rfl rfl rfl (Nat.le_of_ble_eq_true rfl) dX5_layStems_91 rfl (fun z_91 M_91 q_91 => ?_)
                          obtain ⟨rfl, mq_91⟩ := q_91
                          have mq_91 := mq_91.symm; subst mq_91
                          refine h_top (z' := M 1 ((4 * b) + 1)) rfl ?_
                          have b_91 := hE ((4 * b) + 1)
                          refine g_isub F (pc' := 95) dX5_layStems_94 rfl ?_
                          refine g_icmp_lt F (pc' := 98) (tgt := 128) dX5_layStems_95 rfl (by decide) (by omega) (by omega) (fun c_95 => ?_) (fun c_95 => ?_)
                          · skip
                            refine g_iconst F (pc' := 129) dX5_layStems_128 rfl ?_
                            refine g_goto F (tgt := 133) dX5_layStems_129 (by decide) ?_
                            refine g_lvw [some (.ref (a 0)), none, some (.int (iI b)), some (.int (iI o)), some (.int (iI u)), some (.int (iI d)), none, none] (lvw_of _ _ [true, false, true, true, true, true, false, false] rfl) ?_
                            exact lp_133 1 (c_38) (c_49) (c_60) (by first | exact (zC_t (by omega)).symm | exact (zC_f (by omega)).symm)
                          · skip
                            refine g_iload F (pc' := 100) dX5_layStems_98 rfl rfl ?_
                            refine g_aload_n F (pc' := 101) dX5_layStems_100 rfl rfl ?_
                            refine g_iload_n F (pc' := 102) dX5_layStems_101 rfl rfl ?_
                            refine g_callI F K hXc X0 (pc' := 105) (st := [.int (iI ((M 1 ((4 * d) + 1)) - (M 1 ((4 * u) + 1))))]) (c5_x l a (sc (sc (sc (sc (sc M 0 (upf (M 0) 11 t.1)) 5 t.2.1) 6 t.2.2.1) 7 t.2.2.2.1) 8 t.2.2.2.2) o (by omega)) (cwV 1 F.2.2.2.2 gX5_layStems_X5_x rfl rfl rfl (by decide +kernel) ⟨Nat.le_of_ble_eq_true rfl, Nat.le_of_ble_eq_true rfl⟩) rfl rfl rfl rfl (Nat.le_of_ble_eq_true rfl) dX5_layStems_102 rfl (fun z_102 M_102 q_102 => ?_)
                            obtain ⟨rfl, mq_102⟩ := q_102
                            have mq_102 := mq_102.symm; subst mq_102
                            refine h_top (z' := M 1 ((4 * o) + 1)) rfl ?_
                            have b_102 := hE ((4 * o) + 1)
                            refine g_aload_n F (pc' := 106) dX5_layStems_105 rfl rfl ?_
                            refine g_iload_n F (pc' := 107) dX5_layStems_106 rfl rfl ?_
                            refine g_callI F K hXc X0 (pc' := 110) (st := [.int (iI (M 1 ((4 * o) + 1))), .int (iI ((M 1 ((4 * d) + 1)) - (M 1 ((4 * u) + 1))))]) (c5_x l a (sc (sc (sc (sc (sc M 0 (upf (M 0) 11 t.1)) 5 t.2.1) 6 t.2.2.1) 7 t.2.2.2.1) 8 t.2.2.2.2) b (by omega)) (cwV 1 F.2.2.2.2 gX5_layStems_X5_x rfl rfl rfl (by decide +kernel) ⟨Nat.le_of_ble_eq_true rfl, Nat.le_of_ble_eq_true rfl⟩) rfl rfl rfl rfl (Nat.le_of_ble_eq_true rfl) dX5_layStems_107 rfl (fun z_107 M_107 q_107 => ?_)
                            obtain ⟨rfl, mq_107⟩ := q_107
                            have mq_107 := mq_107.symm; subst mq_107
                            refine h_top (z' := M 1 ((4 * b) + 1)) rfl ?_
                            have b_107 := hE ((4 * b) + 1)
                            refine g_isub F (pc' := 111) dX5_layStems_110 rfl ?_
                            refine g_icmp_ne F (pc' := 114) (tgt := 132) dX5_layStems_111 rfl (by decide) (by omega) (by omega) (fun c_111 => ?_) (fun c_111 => ?_)
                            · skip
                              refine g_iconst F (pc' := 133) dX5_layStems_132 rfl ?_
                              refine g_lvw [some (.ref (a 0)), none, some (.int (iI b)), some (.int (iI o)), some (.int (iI u)), some (.int (iI d)), none, none] (lvw_of _ _ [true, false, true, true, true, true, false, false] rfl) ?_
                              exact lp_133 0 (c_38) (c_49) (c_60) (by first | exact (zC_t (by omega)).symm | exact (zC_f (by omega)).symm)
                            · skip
                              refine g_aload_n F (pc' := 115) dX5_layStems_114 rfl rfl ?_
                              refine g_iload F (pc' := 117) dX5_layStems_115 rfl rfl ?_
                              refine g_callI F K hXc X0 (pc' := 120) (st := []) (c5_x l a (sc (sc (sc (sc (sc M 0 (upf (M 0) 11 t.1)) 5 t.2.1) 6 t.2.2.1) 7 t.2.2.2.1) 8 t.2.2.2.2) u (by omega)) (cwV 1 F.2.2.2.2 gX5_layStems_X5_x rfl rfl rfl (by decide +kernel) ⟨Nat.le_of_ble_eq_true rfl, Nat.le_of_ble_eq_true rfl⟩) rfl rfl rfl rfl (Nat.le_of_ble_eq_true rfl) dX5_layStems_117 rfl (fun z_117 M_117 q_117 => ?_)
                              obtain ⟨rfl, mq_117⟩ := q_117
                              have mq_117 := mq_117.symm; subst mq_117
                              refine h_top (z' := M 1 ((4 * u) + 1)) rfl ?_
                              have b_117 := hE ((4 * u) + 1)
                              refine g_aload_n F (pc' := 121) dX5_layStems_120 rfl rfl ?_
                              refine g_iload_n F (pc' := 122) dX5_layStems_121 rfl rfl ?_
                              refine g_callI F K hXc X0 (pc' := 125) (st := [.int (iI (M 1 ((4 * u) + 1)))]) (c5_x l a (sc (sc (sc (sc (sc M 0 (upf (M 0) 11 t.1)) 5 t.2.1) 6 t.2.2.1) 7 t.2.2.2.1) 8 t.2.2.2.2) b (by omega)) (cwV 1 F.2.2.2.2 gX5_layStems_X5_x rfl rfl rfl (by decide +kernel) ⟨Nat.le_of_ble_eq_true rfl, Nat.le_of_ble_eq_true rfl⟩) rfl rfl rfl rfl (Nat.le_of_ble_eq_true rfl) dX5_layStems_122 rfl (fun z_122 M_122 q_122 => ?_)
                              obtain ⟨rfl, mq_122⟩ := q_122
                              have mq_122 := mq_122.symm; subst mq_122
                              refine h_top (z' := M 1 ((4 * b) + 1)) rfl ?_
                              have b_122 := hE ((4 * b) + 1)
                              refine g_icmp_ge F (pc' := 128) (tgt := 132) dX5_layStems_125 rfl (by decide) (by omega) (by omega) (fun c_125 => ?_) (fun c_125 => ?_)
                              · skip
                                refine g_iconst F (pc' := 133) dX5_layStems_132 rfl ?_
                                refine g_lvw [some (.ref (a 0)), none, some (.int (iI b)), some (.int (iI o)), some (.int (iI u)), some (.int (iI d)), none, none] (lvw_of _ _ [true, false, true, true, true, true, false, false] rfl) ?_
                                exact lp_133 0 (c_38) (c_49) (c_60) (by first | exact (zC_t (by omega)).symm | exact (zC_f (by omega)).symm)
                              · skip
                                refine g_iconst F (pc' := 129) dX5_layStems_128 rfl ?_
                                refine g_goto F (tgt := 133) dX5_layStems_129 (by decide) ?_
                                refine g_lvw [some (.ref (a 0)), none, some (.int (iI b)), some (.int (iI o)), some (.int (iI u)), some (.int (iI d)), none, none] (lvw_of _ _ [true, false, true, true, true, true, false, false] rfl) ?_
                                exact lp_133 1 (c_38) (c_49) (c_60) (by first | exact (zC_t (by omega)).symm | exact (zC_f (by omega)).symm)
              exact lp_32 ((M 0 1 - 0 : Int).toNat + 1) b o 0 (by omega) (by omega) (by first | exact hbo | (rw [pinI_s hd.1, ← hbd]; first | exact (stp_f (fun q => c_49 q.1.1)).symm | exact (stp_f (fun q => c_60 q.1.2)).symm | exact (stp_t ⟨⟨c_49, c_60⟩, c_137⟩).symm | exact (stp_f (fun q => c_137 q.2)).symm))
        exact lp_20 ((M 0 1 - 0 : Int).toNat + 1) (-6) (-6) 0 (by omega) (by omega) (by rfl) (by omega)
  exact lp_7 ((2 * (8 - (sR0 M).1) + 1 : Int).toNat + 1) 1 0 (sR0 M) (by omega) (by omega) ((by show (0 : Int) ≤ 8; decide)) (by decide) (rfl) (fun _ => rfl) (fun q => absurd q (by decide))
