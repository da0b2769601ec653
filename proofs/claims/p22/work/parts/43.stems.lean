/-! ===== the class: stems ===== -/
def wdC (M : Mem) (i : Int) : Int := M 26 i - M 25 i
def stC (M : Mem) : ST := (M 24 0, M 25, M 26, M 27, M 28)
def stM (M : Mem) (t : ST) : Mem := sc (sc (sc (sc (sc M 24 (upf (M 24) 0 t.1)) 25 t.2.1) 26 t.2.2.1) 27 t.2.2.2.1) 28 t.2.2.2.2
def freeC (M : Mem) (f0 t0 : Int) : Prop := ∀ j : Int, 0 ≤ j → j < M 24 0 → (t0 < M 25 j ∨ M 26 j < f0)
def insM (M : Mem) (b o f0 t0 : Int) : Mem := sc (sc (sc (sc (sc M 24 (upf (M 24) 0 (M 24 0 + 1))) 25 (insN (M 25) (iposI (M 25) f0 (M 24 0)) (M 24 0) f0)) 26 (insN (M 26) (iposI (M 25) f0 (M 24 0)) (M 24 0) t0)) 27 (insN (M 27) (iposI (M 25) f0 (M 24 0)) (M 24 0) b)) 28 (insN (M 28) (iposI (M 25) f0 (M 24 0)) (M 24 0) o)
def cnC (M : Mem) : Int → Int → Prop := fun u d => canC M u d ∧ frC (M 6) (stC M) u d
noncomputable def q3_add (M : Mem) : Int → Mem → Prop := fun z M' => ((pk (canC M) frC (M 6) (M 4 4) (stC M)).1 < 0 ∧ z = 0 ∧ M' = M) ∨ (0 ≤ (pk (canC M) frC (M 6) (M 4 4) (stC M)).1 ∧ z = 1 ∧ M' = stM M (ins5 (M 6) (stC M) (pk (canC M) frC (M 6) (M 4 4) (stC M)).1 (pk (canC M) frC (M 6) (M 4 4) (stC M)).2))
theorem canC_x (M : Mem) : ∀ u d, canC M u d → M 6 u < M 6 d := fun u d h => h.1.2.2.1
theorem canC_g (M : Mem) : ∀ u d, canC M u d → (M 5 u = 1) ∧ ¬ (M 5 d = 1) := fun u d h => ⟨h.1.1, by have := h.1.2.1; omega⟩
theorem sC_b {M : Mem} (h6 : ∀ j, 0 ≤ M 6 j ∧ M 6 j ≤ 999) {t : ST} (h : sInv (canC M) (M 6) (M 4 4) t) : ∀ j, 0 ≤ j → j < t.1 → (0 ≤ t.2.1 j ∧ t.2.1 j ≤ 999) ∧ (0 ≤ t.2.2.1 j ∧ t.2.2.1 j ≤ 999) := by
  intro j h1 h2
  obtain ⟨-, -, -, c, d⟩ := h.2.1 j h1 h2
  rw [c, d]
  exact ⟨h6 _, h6 _⟩
theorem insC_ok {M : Mem} {b o : Int} (hm : 0 ≤ M 4 4 ∧ M 4 4 ≤ 16) (hI : sInv (canC M) (M 6) (M 4 4) (stC M)) (hp : (b, o) = poutI (cnC M) (M 6) (M 4 4) (M 4 4)) (hb : 0 ≤ b) : M 24 0 + 1 ≤ 8 := by
  have h : pOK (cnC M) (M 4 4) (b, o) := hp ▸ poutI_OK ⟨hm.1, Int.le_refl _⟩
  rcases h with h | h
  · have : b = -6 := congrArg Prod.fst h
    omega
  · have h1 := ins5_inv (canC_x M) hI h.1 h.2.1 h.2.2.1 h.2.2.2
    have h2 := sInv_n (canC_x M) (canC_g M) hm.1 h1
    have h3 : (ins5 (M 6) (stC M) (b, o).1 (b, o).2).1 = M 24 0 + 1 := rfl
    omega
theorem iX3_width_X3 : ∀ w ∈ wsX30, w ∈ wsX3_width := fun _ h => List.mem_cons_of_mem _ (List.mem_append_right _ h)
set_option maxHeartbeats 4000000 in
set_option maxRecDepth 100000 in
theorem c3_width (l : Launch) (a : Nat → Nat) (M : Mem) (u : Int) (hu : 0 ≤ u ∧ u < 8) : CtI XS l yX3_width wsX3_width ({ frames := 0, cells := 0, slots := 0, locals := 0 } : Room) LC a M [.ref (a 24), .int (iI u)] (fun z M' => z = M 26 u - M 25 u ∧ M' = M) := by
  refine CtI.of (y := yX3_width) (cc := cX3_width) (maxL := 2) (ret := (some .int)) (lv := [some (.ref (a 24)), some (.int (iI u))]) (by decide) rfl (Nat.le_of_ble_eq_true rfl) (lvOK_of _ _ ⟨rfl, rfl⟩) ?_
  intro p e s m below meth c D T F K X0 hr hlk
  have hXc := XS_c
  refine g_aload_n F (pc' := 1) dX3_width_0 rfl rfl ?_
  refine g_getR F K (k := 24) (fld := 2) (ci := 3) (q := 26) (pc' := 4) iX3_width_X3 rfl rfl rfl (by decide) (List.mem_of_getElem? (i := 1) rfl) dX3_width_1 rfl ?_
  refine g_iload_n F (pc' := 5) dX3_width_4 rfl rfl ?_
  refine g_iald F K (k := 26) (v := M 26 u) (pc' := 6) rfl (by decide) (by omega) dX3_width_5 rfl (by first | rfl | simp [upf, sc]) ?_
  refine g_aload_n F (pc' := 7) dX3_width_6 rfl rfl ?_
  refine g_getR F K (k := 24) (fld := 1) (ci := 3) (q := 25) (pc' := 10) iX3_width_X3 rfl rfl rfl (by decide) (List.mem_of_getElem? (i := 2) rfl) dX3_width_7 rfl ?_
  refine g_iload_n F (pc' := 11) dX3_width_10 rfl rfl ?_
  refine g_iald F K (k := 25) (v := M 25 u) (pc' := 12) rfl (by decide) (by omega) dX3_width_11 rfl (by first | rfl | simp [upf, sc]) ?_
  refine g_isub F (pc' := 13) dX3_width_12 rfl ?_
  exact g_iret F hr hlk dX3_width_13 (⟨rfl, rfl⟩)

theorem iX3_isFree_X3 : ∀ w ∈ wsX30, w ∈ wsX3_isFree := fun _ h => List.mem_cons_of_mem _ (List.mem_append_right _ h)
set_option maxHeartbeats 4000000 in
set_option maxRecDepth 100000 in
theorem c3_isFree (l : Launch) (a : Nat → Nat) (M : Mem) (f0 t0 : Int) (hf : 0 ≤ f0 ∧ f0 ≤ 999) (ht : 0 ≤ t0 ∧ t0 ≤ 999) (hn : 0 ≤ M 24 0 ∧ M 24 0 ≤ 8) (hsb : ∀ j, 0 ≤ j → j < M 24 0 → (0 ≤ M 25 j ∧ M 25 j ≤ 999) ∧ (0 ≤ M 26 j ∧ M 26 j ≤ 999)) : CtI XS l yX3_isFree wsX3_isFree ({ frames := 0, cells := 0, slots := 0, locals := 0 } : Room) LC a M [.ref (a 24), .int (iI f0), .int (iI t0)] (fun z M' => z = zC (freeC M f0 t0) ∧ M' = M) := by
  refine CtI.of (y := yX3_isFree) (cc := cX3_isFree) (maxL := 4) (ret := (some .boolean)) (lv := [some (.ref (a 24)), some (.int (iI f0)), some (.int (iI t0)), none]) (by decide) rfl (Nat.le_of_ble_eq_true rfl) (lvOK_of _ _ ⟨rfl, rfl⟩) ?_
  intro p e s m below meth c D T F K X0 hr hlk
  have hXc := XS_c
  refine g_iconst F (pc' := 1) dX3_isFree_0 rfl ?_
  refine g_istore_n F (pc' := 2) (lv' := [some (.ref (a 24)), some (.int (iI f0)), some (.int (iI t0)), some (.int (iI 0))]) dX3_isFree_1 rfl (by decide) rfl ?_
  have lp_2 : ∀ (n_2 : Nat) (i : Int) (hm_2 : M 24 0 - i < (n_2 : Int)) (h0 : 0 ≤ i) (h1 : i ≤ M 24 0) (hal : ∀ j, 0 ≤ j → j < i → (t0 < M 25 j ∨ M 26 j < f0)), GG p l e ({ frames := 0, cells := 0, slots := 0, locals := 0 } : Room) s m ([.ref (a 24), .int (iI f0), .int (iI t0)].toArray) below meth c (PI D T a LC M (fun z M' => z = zC (freeC M f0 t0) ∧ M' = M) below ([.ref (a 24), .int (iI f0), .int (iI t0)].toArray) s) D (AA T a LC M s.heap.size) 4 (wld T a LC M) 2 [some (.ref (a 24)), some (.int (iI f0)), some (.int (iI t0)), some (.int (iI i))] [] := by
    intro n_2
    induction n_2 with
    | zero => intro i hm_2 h0 h1 hal; exfalso; omega
    | succ n_2 ih_2 =>
      intro i hm_2 h0 h1 hal
      refine g_iload_n F (pc' := 3) dX3_isFree_2 rfl rfl ?_
      refine g_aload_n F (pc' := 4) dX3_isFree_3 rfl rfl ?_
      refine g_getI F K (k := 24) (fld := 0) (ci := 3) (z := M 24 0) (pc' := 7) iX3_isFree_X3 rfl rfl rfl (by decide) (List.mem_of_getElem? (i := 1) rfl) dX3_isFree_4 rfl (by first | rfl | simp [upf, sc]) ?_
      refine g_icmp_ge F (pc' := 10) (tgt := 38) dX3_isFree_7 rfl (by decide) (by omega) (by omega) (fun c_7 => ?_) (fun c_7 => ?_)
      · skip
        refine g_iconst F (pc' := 39) dX3_isFree_38 rfl ?_
        exact g_zret F hr hlk dX3_isFree_39 (Or.inr rfl) (⟨(zC_t (fun j q1 q2 => hal j q1 (by omega))).symm, rfl⟩)
      · skip
        refine g_iload_n F (pc' := 11) dX3_isFree_10 rfl rfl ?_
        refine g_aload_n F (pc' := 12) dX3_isFree_11 rfl rfl ?_
        refine g_getR F K (k := 24) (fld := 1) (ci := 3) (q := 25) (pc' := 15) iX3_isFree_X3 rfl rfl rfl (by decide) (List.mem_of_getElem? (i := 2) rfl) dX3_isFree_12 rfl ?_
        refine g_iload_n F (pc' := 16) dX3_isFree_15 rfl rfl ?_
        refine g_iald F K (k := 25) (v := M 25 i) (pc' := 17) rfl (by decide) (by omega) dX3_isFree_16 rfl (by first | rfl | simp [upf, sc]) ?_
        have b_16 := (hsb i h0 c_7).1
        refine g_icmp_lt F (pc' := 20) (tgt := 32) dX3_isFree_17 rfl (by decide) (by omega) (by omega) (fun c_17 => ?_) (fun c_17 => ?_)
        · skip
          refine g_iinc F (pc' := 35) (lv' := [some (.ref (a 24)), some (.int (iI f0)), some (.int (iI t0)), some (.int (iI (i + 1)))]) dX3_isFree_32 rfl rfl (by decide) rfl ?_
          refine g_goto F (tgt := 2) dX3_isFree_35 (by decide) ?_
          exact ih_2 (i + 1) (by omega) (by omega) (by omega) (by intro j q1 q2; by_cases hj : j = i; (subst hj; omega); exact hal j q1 (by omega))
        · skip
          refine g_aload_n F (pc' := 21) dX3_isFree_20 rfl rfl ?_
          refine g_getR F K (k := 24) (fld := 2) (ci := 3) (q := 26) (pc' := 24) iX3_isFree_X3 rfl rfl rfl (by decide) (List.mem_of_getElem? (i := 3) rfl) dX3_isFree_21 rfl ?_
          refine g_iload_n F (pc' := 25) dX3_isFree_24 rfl rfl ?_
          refine g_iald F K (k := 26) (v := M 26 i) (pc' := 26) rfl (by decide) (by omega) dX3_isFree_25 rfl (by first | rfl | simp [upf, sc]) ?_
          have b_25 := (hsb i h0 c_7).2
          refine g_iload_n F (pc' := 27) dX3_isFree_26 rfl rfl ?_
          refine g_icmp_lt F (pc' := 30) (tgt := 32) dX3_isFree_27 rfl (by decide) (by omega) (by omega) (fun c_27 => ?_) (fun c_27 => ?_)
          · skip
            refine g_iinc F (pc' := 35) (lv' := [some (.ref (a 24)), some (.int (iI f0)), some (.int (iI t0)), some (.int (iI (i + 1)))]) dX3_isFree_32 rfl rfl (by decide) rfl ?_
            refine g_goto F (tgt := 2) dX3_isFree_35 (by decide) ?_
            exact ih_2 (i + 1) (by omega) (by omega) (by omega) (by intro j q1 q2; by_cases hj : j = i; (subst hj; omega); exact hal j q1 (by omega))
          · skip
            refine g_iconst F (pc' := 31) dX3_isFree_30 rfl ?_
            exact g_zret F hr hlk dX3_isFree_31 (Or.inl rfl) (⟨(zC_f (fun q => by have := q i h0 c_7; omega)).symm, rfl⟩)
  exact lp_2 ((M 24 0 - 0 : Int).toNat + 1) 0 (by omega) (by omega) (by omega) (fun j q1 q2 => by omega)

set_option maxHeartbeats 4000000 in
set_option maxRecDepth 100000 in
theorem c3_isSooner (l : Launch) (p0 p1 p2 p3 : Int) (hp0 : 0 ≤ p0 ∧ p0 ≤ 999) (hp1 : 0 ≤ p1 ∧ p1 ≤ 999) (hp2 : 0 ≤ p2 ∧ p2 ≤ 999) (hp3 : 0 ≤ p3 ∧ p3 ≤ 999) : CtP l yX3_isSooner wsX3_isSooner ({ frames := 0, cells := 0, slots := 0, locals := 0 } : Room) [.int (iI p0), .int (iI p1), .int (iI p2), .int (iI p3)] (zC (p1 - p0 < p3 - p2 ∨ (p1 - p0 = p3 - p2 ∧ p0 < p2))) := by
  refine CtP.of (y := yX3_isSooner) (cc := cX3_isSooner) (maxL := 6) (ret := (some .boolean)) (lv := [some (.int (iI p0)), some (.int (iI p1)), some (.int (iI p2)), some (.int (iI p3)), none, none]) (by decide) rfl (Nat.le_of_ble_eq_true rfl) (lvOK_of _ _ ⟨rfl, rfl⟩) ?_
  intro p e s m below meth c D F hr hlk
  refine g_iload_n F (pc' := 1) dX3_isSooner_0 rfl rfl ?_
  refine g_iload_n F (pc' := 2) dX3_isSooner_1 rfl rfl ?_
  refine g_isub F (pc' := 3) dX3_isSooner_2 rfl ?_
  refine g_istore F (pc' := 5) (lv' := [some (.int (iI p0)), some (.int (iI p1)), some (.int (iI p2)), some (.int (iI p3)), some (.int (iI (p1 - p0))), none]) dX3_isSooner_3 rfl (by decide) rfl ?_
  refine g_iload_n F (pc' := 6) dX3_isSooner_5 rfl rfl ?_
  refine g_iload_n F (pc' := 7) dX3_isSooner_6 rfl rfl ?_
  refine g_isub F (pc' := 8) dX3_isSooner_7 rfl ?_
  refine g_istore F (pc' := 10) (lv' := [some (.int (iI p0)), some (.int (iI p1)), some (.int (iI p2)), some (.int (iI p3)), some (.int (iI (p1 - p0))), some (.int (iI (p3 - p2)))]) dX3_isSooner_8 rfl (by decide) rfl ?_
  refine g_iload F (pc' := 12) dX3_isSooner_10 rfl rfl ?_
  refine g_iload F (pc' := 14) dX3_isSooner_12 rfl rfl ?_
  refine g_icmp_lt F (pc' := 17) (tgt := 29) dX3_isSooner_14 rfl (by decide) (by omega) (by omega) (fun c_14 => ?_) (fun c_14 => ?_)
  · skip
    refine g_iconst F (pc' := 30) dX3_isSooner_29 rfl ?_
    refine g_goto F (tgt := 34) dX3_isSooner_30 (by decide) ?_
    exact g_pzret F hr hlk dX3_isSooner_34 (Or.inr rfl) (by first | exact (zC_t (by omega)).symm | exact (zC_f (by omega)).symm)
  · skip
    refine g_iload F (pc' := 19) dX3_isSooner_17 rfl rfl ?_
    refine g_iload F (pc' := 21) dX3_isSooner_19 rfl rfl ?_
    refine g_icmp_ne F (pc' := 24) (tgt := 33) dX3_isSooner_21 rfl (by decide) (by omega) (by omega) (fun c_21 => ?_) (fun c_21 => ?_)
    · skip
      refine g_iconst F (pc' := 34) dX3_isSooner_33 rfl ?_
      exact g_pzret F hr hlk dX3_isSooner_34 (Or.inl rfl) (by first | exact (zC_t (by omega)).symm | exact (zC_f (by omega)).symm)
    · skip
      refine g_iload_n F (pc' := 25) dX3_isSooner_24 rfl rfl ?_
      refine g_iload_n F (pc' := 26) dX3_isSooner_25 rfl rfl ?_
      refine g_icmp_ge F (pc' := 29) (tgt := 33) dX3_isSooner_26 rfl (by decide) (by omega) (by omega) (fun c_26 => ?_) (fun c_26 => ?_)
      · skip
        refine g_iconst F (pc' := 34) dX3_isSooner_33 rfl ?_
        exact g_pzret F hr hlk dX3_isSooner_34 (Or.inl rfl) (by first | exact (zC_t (by omega)).symm | exact (zC_f (by omega)).symm)
      · skip
        refine g_iconst F (pc' := 30) dX3_isSooner_29 rfl ?_
        refine g_goto F (tgt := 34) dX3_isSooner_30 (by decide) ?_
        exact g_pzret F hr hlk dX3_isSooner_34 (Or.inr rfl) (by first | exact (zC_t (by omega)).symm | exact (zC_f (by omega)).symm)

theorem iX3_insert_X3 : ∀ w ∈ wsX30, w ∈ wsX3_insert := fun _ h => List.mem_cons_of_mem _ (List.mem_append_right _ h)
set_option maxHeartbeats 4000000 in
set_option maxRecDepth 100000 in
theorem c3_insert (l : Launch) (a : Nat → Nat) (M : Mem) (b o f0 t0 : Int) (hf : 0 ≤ f0 ∧ f0 ≤ 999) (ht : 0 ≤ t0 ∧ t0 ≤ 999) (hn : 0 ≤ M 24 0 ∧ M 24 0 < 8) (hsb : ∀ j, 0 ≤ j → j < M 24 0 → (0 ≤ M 25 j ∧ M 25 j ≤ 999) ∧ (0 ≤ M 26 j ∧ M 26 j ≤ 999)) : CtV XS l yX3_insert wsX3_insert ({ frames := 0, cells := 0, slots := 0, locals := 0 } : Room) LC a M [.ref (a 24), .int (iI b), .int (iI o), .int (iI f0), .int (iI t0)] (fun M' => M' = insM M b o f0 t0) := by
  refine CtV.of (y := yX3_insert) (cc := cX3_insert) (maxL := 6) (ret := none) (lv := [some (.ref (a 24)), some (.int (iI b)), some (.int (iI o)), some (.int (iI f0)), some (.int (iI t0)), none]) (by decide) rfl (Nat.le_of_ble_eq_true rfl) (lvOK_of _ _ ⟨rfl, rfl⟩) ?_
  intro p e s m below meth c D T F K X0 hr hlk
  have hXc := XS_c
  refine g_aload_n F (pc' := 1) dX3_insert_0 rfl rfl ?_
  refine g_getI F K (k := 24) (fld := 0) (ci := 3) (z := M 24 0) (pc' := 4) iX3_insert_X3 rfl rfl rfl (by decide) (List.mem_of_getElem? (i := 1) rfl) dX3_insert_1 rfl (by first | rfl | simp [upf, sc]) ?_
  refine g_bipush F (pc' := 6) dX3_insert_4 rfl (by decide +kernel) ?_
  refine g_icmp_lt F (pc' := 9) (tgt := 10) dX3_insert_6 rfl (by decide) (by omega) (by decide) (fun c_6 => ?_) (fun c_6 => ?_)
  · skip
    refine g_aload_n F (pc' := 11) dX3_insert_10 rfl rfl ?_
    refine g_getI F K (k := 24) (fld := 0) (ci := 3) (z := M 24 0) (pc' := 14) iX3_insert_X3 rfl rfl rfl (by decide) (List.mem_of_getElem? (i := 1) rfl) dX3_insert_11 rfl (by first | rfl | simp [upf, sc]) ?_
    refine g_istore F (pc' := 16) (lv' := [some (.ref (a 24)), some (.int (iI b)), some (.int (iI o)), some (.int (iI f0)), some (.int (iI t0)), some (.int (iI (M 24 0)))]) dX3_insert_14 rfl (by decide) rfl ?_
    refine h_mem (sc (sc (sc (sc M 25 (shN (M 25) (M 24 0) (M 24 0))) 26 (shN (M 26) (M 24 0) (M 24 0))) 27 (shN (M 27) (M 24 0) (M 24 0))) 28 (shN (M 28) (M 24 0) (M 24 0))) (by rw [shN_0, shN_0, shN_0, shN_0]; exact (sc4_id M 25 26 27 28).symm) ?_
    have lp_16 : ∀ (n_16 : Nat) (q : Int) (hm_16 : q < (n_16 : Int)) (hq : 0 ≤ q ∧ q ≤ M 24 0) (hip : iposI (M 25) f0 (M 24 0) = iposI (M 25) f0 q), GG p l e ({ frames := 0, cells := 0, slots := 0, locals := 0 } : Room) s m ([.ref (a 24), .int (iI b), .int (iI o), .int (iI f0), .int (iI t0)].toArray) below meth c (PV D T a LC M (fun M' => M' = insM M b o f0 t0) below ([.ref (a 24), .int (iI b), .int (iI o), .int (iI f0), .int (iI t0)].toArray) s) D (AA T a LC M s.heap.size) 6 (wld T a LC (sc (sc (sc (sc M 25 (shN (M 25) q (M 24 0))) 26 (shN (M 26) q (M 24 0))) 27 (shN (M 27) q (M 24 0))) 28 (shN (M 28) q (M 24 0)))) 16 [some (.ref (a 24)), some (.int (iI b)), some (.int (iI o)), some (.int (iI f0)), some (.int (iI t0)), some (.int (iI q))] [] := by
      intro n_16
      induction n_16 with
      | zero => intro q hm_16 hq hip; exfalso; omega
      | succ n_16 ih_16 =>
        intro q hm_16 hq hip
        refine g_iload F (pc' := 18) dX3_insert_16 rfl rfl ?_
        refine g_if_le F (pc' := 21) (tgt := 104) dX3_insert_18 rfl (by decide) (by omega) (fun c_18 => ?_) (fun c_18 => ?_)
        · skip
          have hq5 : iposI (M 25) f0 (M 24 0) = q := by rw [hip]; first | exact iposI_f (by omega) c_31 | (rw [show q = 0 by omega]; rfl)
          refine g_aload_n F (pc' := 105) dX3_insert_104 rfl rfl ?_
          refine g_getR F K (k := 24) (fld := 1) (ci := 3) (q := 25) (pc' := 108) iX3_insert_X3 rfl rfl rfl (by decide) (List.mem_of_getElem? (i := 2) rfl) dX3_insert_105 rfl ?_
          refine g_iload F (pc' := 110) dX3_insert_108 rfl rfl ?_
          refine g_iload_n F (pc' := 111) dX3_insert_110 rfl rfl ?_
          refine h_iast F K (k := 25) (pc' := 112) (sc (sc (sc (sc M 25 (upf (shN (M 25) q (M 24 0)) q f0)) 26 (shN (M 26) q (M 24 0))) 27 (shN (M 27) q (M 24 0))) 28 (shN (M 28) q (M 24 0))) (mem_up (by rfl) (by intro j hj; simp only [sc, if_neg hj])) rfl (by decide) (by omega) dX3_insert_111 rfl ?_
          refine g_aload_n F (pc' := 113) dX3_insert_112 rfl rfl ?_
          refine g_getR F K (k := 24) (fld := 2) (ci := 3) (q := 26) (pc' := 116) iX3_insert_X3 rfl rfl rfl (by decide) (List.mem_of_getElem? (i := 3) rfl) dX3_insert_113 rfl ?_
          refine g_iload F (pc' := 118) dX3_insert_116 rfl rfl ?_
          refine g_iload F (pc' := 120) dX3_insert_118 rfl rfl ?_
          refine h_iast F K (k := 26) (pc' := 121) (sc (sc (sc (sc M 25 (upf (shN (M 25) q (M 24 0)) q f0)) 26 (upf (shN (M 26) q (M 24 0)) q t0)) 27 (shN (M 27) q (M 24 0))) 28 (shN (M 28) q (M 24 0))) (mem_up (by rfl) (by intro j hj; simp only [sc, if_neg hj])) rfl (by decide) (by omega) dX3_insert_120 rfl ?_
          refine g_aload_n F (pc' := 122) dX3_insert_121 rfl rfl ?_
          refine g_getR F K (k := 24) (fld := 3) (ci := 3) (q := 27) (pc' := 125) iX3_insert_X3 rfl rfl rfl (by decide) (List.mem_of_getElem? (i := 4) rfl) dX3_insert_122 rfl ?_
          refine g_iload F (pc' := 127) dX3_insert_125 rfl rfl ?_
          refine g_iload_n F (pc' := 128) dX3_insert_127 rfl rfl ?_
          refine h_iast F K (k := 27) (pc' := 129) (sc (sc (sc (sc M 25 (upf (shN (M 25) q (M 24 0)) q f0)) 26 (upf (shN (M 26) q (M 24 0)) q t0)) 27 (upf (shN (M 27) q (M 24 0)) q b)) 28 (shN (M 28) q (M 24 0))) (mem_up (by rfl) (by intro j hj; simp only [sc, if_neg hj])) rfl (by decide) (by omega) dX3_insert_128 rfl ?_
          refine g_aload_n F (pc' := 130) dX3_insert_129 rfl rfl ?_
          refine g_getR F K (k := 24) (fld := 4) (ci := 3) (q := 28) (pc' := 133) iX3_insert_X3 rfl rfl rfl (by decide) (List.mem_of_getElem? (i := 5) rfl) dX3_insert_130 rfl ?_
          refine g_iload F (pc' := 135) dX3_insert_133 rfl rfl ?_
          refine g_iload_n F (pc' := 136) dX3_insert_135 rfl rfl ?_
          refine h_iast F K (k := 28) (pc' := 137) (sc (sc (sc (sc M 25 (upf (shN (M 25) q (M 24 0)) q f0)) 26 (upf (shN (M 26) q (M 24 0)) q t0)) 27 (upf (shN (M 27) q (M 24 0)) q b)) 28 (upf (shN (M 28) q (M 24 0)) q o)) (mem_up (by rfl) (by intro j hj; simp only [sc, if_neg hj])) rfl (by decide) (by omega) dX3_insert_136 rfl ?_
          refine g_aload_n F (pc' := 138) dX3_insert_137 rfl rfl ?_
          refine g_dup F (pc' := 139) dX3_insert_138 rfl rfl ?_
          refine g_getI F K (k := 24) (fld := 0) (ci := 3) (z := M 24 0) (pc' := 142) iX3_insert_X3 rfl rfl rfl (by decide) (List.mem_of_getElem? (i := 1) rfl) dX3_insert_139 rfl (by first | rfl | simp [upf, sc]) ?_
          refine g_iconst F (pc' := 143) dX3_insert_142 rfl ?_
          refine g_iadd F (pc' := 144) dX3_insert_143 rfl ?_
          refine h_putI F K (k := 24) (fld := 0) (ci := 3) (pc' := 147) (sc (sc (sc (sc (sc M 24 (upf (M 24) 0 ((M 24 0) + 1))) 25 (upf (shN (M 25) q (M 24 0)) q f0)) 26 (upf (shN (M 26) q (M 24 0)) q t0)) 27 (upf (shN (M 27) q (M 24 0)) q b)) 28 (upf (shN (M 28) q (M 24 0)) q o)) (mem_up (by rfl) (by intro j hj; simp only [sc, if_neg hj])) tyX3 tyX3_ok nmX3 iX3_insert_X3 rfl rfl rfl (by decide) rfl rfl (List.mem_of_getElem? (i := 1) rfl) dX3_insert_144 rfl ?_
          exact g_vret F hr hlk dX3_insert_147 (by unfold insM; rw [hq5, shN_i, shN_i, shN_i, shN_i])
        · skip
          refine g_aload_n F (pc' := 22) dX3_insert_21 rfl rfl ?_
          refine g_getR F K (k := 24) (fld := 1) (ci := 3) (q := 25) (pc' := 25) iX3_insert_X3 rfl rfl rfl (by decide) (List.mem_of_getElem? (i := 2) rfl) dX3_insert_22 rfl ?_
          refine g_iload F (pc' := 27) dX3_insert_25 rfl rfl ?_
          refine g_iconst F (pc' := 28) dX3_insert_27 rfl ?_
          refine g_isub F (pc' := 29) dX3_insert_28 rfl ?_
          refine g_iald F K (k := 25) (v := M 25 (q - 1)) (pc' := 30) rfl (by decide) (by omega) dX3_insert_29 rfl (by simp [sc, shN_at]) ?_
          have b_29 := (hsb (q - 1) (by omega) (by omega)).1
          refine g_iload_n F (pc' := 31) dX3_insert_30 rfl rfl ?_
          refine g_icmp_le F (pc' := 34) (tgt := 104) dX3_insert_31 rfl (by decide) (by omega) (by omega) (fun c_31 => ?_) (fun c_31 => ?_)
          · skip
            have hq5 : iposI (M 25) f0 (M 24 0) = q := by rw [hip]; first | exact iposI_f (by omega) c_31 | (rw [show q = 0 by omega]; rfl)
            refine g_aload_n F (pc' := 105) dX3_insert_104 rfl rfl ?_
            refine g_getR F K (k := 24) (fld := 1) (ci := 3) (q := 25) (pc' := 108) iX3_insert_X3 rfl rfl rfl (by decide) (List.mem_of_getElem? (i := 2) rfl) dX3_insert_105 rfl ?_
            refine g_iload F (pc' := 110) dX3_insert_108 rfl rfl ?_
            refine g_iload_n F (pc' := 111) dX3_insert_110 rfl rfl ?_
            refine h_iast F K (k := 25) (pc' := 112) (sc (sc (sc (sc M 25 (upf (shN (M 25) q (M 24 0)) q f0)) 26 (shN (M 26) q (M 24 0))) 27 (shN (M 27) q (M 24 0))) 28 (shN (M 28) q (M 24 0))) (mem_up (by rfl) (by intro j hj; simp only [sc, if_neg hj])) rfl (by decide) (by omega) dX3_insert_111 rfl ?_
            refine g_aload_n F (pc' := 113) dX3_insert_112 rfl rfl ?_
            refine g_getR F K (k := 24) (fld := 2) (ci := 3) (q := 26) (pc' := 116) iX3_insert_X3 rfl rfl rfl (by decide) (List.mem_of_getElem? (i := 3) rfl) dX3_insert_113 rfl ?_
            refine g_iload F (pc' := 118) dX3_insert_116 rfl rfl ?_
            refine g_iload F (pc' := 120) dX3_insert_118 rfl rfl ?_
            refine h_iast F K (k := 26) (pc' := 121) (sc (sc (sc (sc M 25 (upf (shN (M 25) q (M 24 0)) q f0)) 26 (upf (shN (M 26) q (M 24 0)) q t0)) 27 (shN (M 27) q (M 24 0))) 28 (shN (M 28) q (M 24 0))) (mem_up (by rfl) (by intro j hj; simp only [sc, if_neg hj])) rfl (by decide) (by omega) dX3_insert_120 rfl ?_
            refine g_aload_n F (pc' := 122) dX3_insert_121 rfl rfl ?_
            refine g_getR F K (k := 24) (fld := 3) (ci := 3) (q := 27) (pc' := 125) iX3_insert_X3 rfl rfl rfl (by decide) (List.mem_of_getElem? (i := 4) rfl) dX3_insert_122 rfl ?_
            refine g_iload F (pc' := 127) dX3_insert_125 rfl rfl ?_
            refine g_iload_n F (pc' := 128) dX3_insert_127 rfl rfl ?_
            refine h_iast F K (k := 27) (pc' := 129) (sc (sc (sc (sc M 25 (upf (shN (M 25) q (M 24 0)) q f0)) 26 (upf (shN (M 26) q (M 24 0)) q t0)) 27 (upf (shN (M 27) q (M 24 0)) q b)) 28 (shN (M 28) q (M 24 0))) (mem_up (by rfl) (by intro j hj; simp only [sc, if_neg hj])) rfl (by decide) (by omega) dX3_insert_128 rfl ?_
            refine g_aload_n F (pc' := 130) dX3_insert_129 rfl rfl ?_
            refine g_getR F K (k := 24) (fld := 4) (ci := 3) (q := 28) (pc' := 133) iX3_insert_X3 rfl rfl rfl (by decide) (List.mem_of_getElem? (i := 5) rfl) dX3_insert_130 rfl ?_
            refine g_iload F (pc' := 135) dX3_insert_133 rfl rfl ?_
            refine g_iload_n F (pc' := 136) dX3_insert_135 rfl rfl ?_
            refine h_iast F K (k := 28) (pc' := 137) (sc (sc (sc (sc M 25 (upf (shN (M 25) q (M 24 0)) q f0)) 26 (upf (shN (M 26) q (M 24 0)) q t0)) 27 (upf (shN (M 27) q (M 24 0)) q b)) 28 (upf (shN (M 28) q (M 24 0)) q o)) (mem_up (by rfl) (by intro j hj; simp only [sc, if_neg hj])) rfl (by decide) (by omega) dX3_insert_136 rfl ?_
            refine g_aload_n F (pc' := 138) dX3_insert_137 rfl rfl ?_
            refine g_dup F (pc' := 139) dX3_insert_138 rfl rfl ?_
            refine g_getI F K (k := 24) (fld := 0) (ci := 3) (z := M 24 0) (pc' := 142) iX3_insert_X3 rfl rfl rfl (by decide) (List.mem_of_getElem? (i := 1) rfl) dX3_insert_139 rfl (by first | rfl | simp [upf, sc]) ?_
            refine g_iconst F (pc' := 143) dX3_insert_142 rfl ?_
            refine g_iadd F (pc' := 144) dX3_insert_143 rfl ?_
            refine h_putI F K (k := 24) (fld := 0) (ci := 3) (pc' := 147) (sc (sc (sc (sc (sc M 24 (upf (M 24) 0 ((M 24 0) + 1))) 25 (upf (shN (M 25) q (M 24 0)) q f0)) 26 (upf (shN (M 26) q (M 24 0)) q t0)) 27 (upf (shN (M 27) q (M 24 0)) q b)) 28 (upf (shN (M 28) q (M 24 0)) q o)) (mem_up (by rfl) (by intro j hj; simp only [sc, if_neg hj])) tyX3 tyX3_ok nmX3 iX3_insert_X3 rfl rfl rfl (by decide) rfl rfl (List.mem_of_getElem? (i := 1) rfl) dX3_insert_144 rfl ?_
            exact g_vret F hr hlk dX3_insert_147 (by unfold insM; rw [hq5, shN_i, shN_i, shN_i, shN_i])
          · skip
            refine g_aload_n F (pc' := 35) dX3_insert_34 rfl rfl ?_
            refine g_getR F K (k := 24) (fld := 1) (ci := 3) (q := 25) (pc' := 38) iX3_insert_X3 rfl rfl rfl (by decide) (List.mem_of_getElem? (i := 2) rfl) dX3_insert_35 rfl ?_
            refine g_iload F (pc' := 40) dX3_insert_38 rfl rfl ?_
            refine g_aload_n F (pc' := 41) dX3_insert_40 rfl rfl ?_
            refine g_getR F K (k := 24) (fld := 1) (ci := 3) (q := 25) (pc' := 44) iX3_insert_X3 rfl rfl rfl (by decide) (List.mem_of_getElem? (i := 2) rfl) dX3_insert_41 rfl ?_
            refine g_iload F (pc' := 46) dX3_insert_44 rfl rfl ?_
            refine g_iconst F (pc' := 47) dX3_insert_46 rfl ?_
            refine g_isub F (pc' := 48) dX3_insert_47 rfl ?_
            refine g_iald F K (k := 25) (v := (shN (M 25) q (M 24 0)) (q - 1)) (pc' := 49) rfl (by decide) (by omega) dX3_insert_48 rfl (by first | rfl | simp [upf, sc]) ?_
            refine h_iast F K (k := 25) (pc' := 50) (sc (sc (sc (sc M 25 (upf (shN (M 25) q (M 24 0)) q ((shN (M 25) q (M 24 0)) (q - 1)))) 26 (shN (M 26) q (M 24 0))) 27 (shN (M 27) q (M 24 0))) 28 (shN (M 28) q (M 24 0))) (mem_up (by rfl) (by intro j hj; simp only [sc, if_neg hj])) rfl (by decide) (by omega) dX3_insert_49 rfl ?_
            refine g_aload_n F (pc' := 51) dX3_insert_50 rfl rfl ?_
            refine g_getR F K (k := 24) (fld := 2) (ci := 3) (q := 26) (pc' := 54) iX3_insert_X3 rfl rfl rfl (by decide) (List.mem_of_getElem? (i := 3) rfl) dX3_insert_51 rfl ?_
            refine g_iload F (pc' := 56) dX3_insert_54 rfl rfl ?_
            refine g_aload_n F (pc' := 57) dX3_insert_56 rfl rfl ?_
            refine g_getR F K (k := 24) (fld := 2) (ci := 3) (q := 26) (pc' := 60) iX3_insert_X3 rfl rfl rfl (by decide) (List.mem_of_getElem? (i := 3) rfl) dX3_insert_57 rfl ?_
            refine g_iload F (pc' := 62) dX3_insert_60 rfl rfl ?_
            refine g_iconst F (pc' := 63) dX3_insert_62 rfl ?_
            refine g_isub F (pc' := 64) dX3_insert_63 rfl ?_
            refine g_iald F K (k := 26) (v := (shN (M 26) q (M 24 0)) (q - 1)) (pc' := 65) rfl (by decide) (by omega) dX3_insert_64 rfl (by first | rfl | simp [upf, sc]) ?_
            refine h_iast F K (k := 26) (pc' := 66) (sc (sc (sc (sc M 25 (upf (shN (M 25) q (M 24 0)) q ((shN (M 25) q (M 24 0)) (q - 1)))) 26 (upf (shN (M 26) q (M 24 0)) q ((shN (M 26) q (M 24 0)) (q - 1)))) 27 (shN (M 27) q (M 24 0))) 28 (shN (M 28) q (M 24 0))) (mem_up (by rfl) (by intro j hj; simp only [sc, if_neg hj])) rfl (by decide) (by omega) dX3_insert_65 rfl ?_
            refine g_aload_n F (pc' := 67) dX3_insert_66 rfl rfl ?_
            refine g_getR F K (k := 24) (fld := 3) (ci := 3) (q := 27) (pc' := 70) iX3_insert_X3 rfl rfl rfl (by decide) (List.mem_of_getElem? (i := 4) rfl) dX3_insert_67 rfl ?_
            refine g_iload F (pc' := 72) dX3_insert_70 rfl rfl ?_
            refine g_aload_n F (pc' := 73) dX3_insert_72 rfl rfl ?_
            refine g_getR F K (k := 24) (fld := 3) (ci := 3) (q := 27) (pc' := 76) iX3_insert_X3 rfl rfl rfl (by decide) (List.mem_of_getElem? (i := 4) rfl) dX3_insert_73 rfl ?_
            refine g_iload F (pc' := 78) dX3_insert_76 rfl rfl ?_
            refine g_iconst F (pc' := 79) dX3_insert_78 rfl ?_
            refine g_isub F (pc' := 80) dX3_insert_79 rfl ?_
            refine g_iald F K (k := 27) (v := (shN (M 27) q (M 24 0)) (q - 1)) (pc' := 81) rfl (by decide) (by omega) dX3_insert_80 rfl (by first | rfl | simp [upf, sc]) ?_
            refine h_iast F K (k := 27) (pc' := 82) (sc (sc (sc (sc M 25 (upf (shN (M 25) q (M 24 0)) q ((shN (M 25) q (M 24 0)) (q - 1)))) 26 (upf (shN (M 26) q (M 24 0)) q ((shN (M 26) q (M 24 0)) (q - 1)))) 27 (upf (shN (M 27) q (M 24 0)) q ((shN (M 27) q (M 24 0)) (q - 1)))) 28 (shN (M 28) q (M 24 0))) (mem_up (by rfl) (by intro j hj; simp only [sc, if_neg hj])) rfl (by decide) (by omega) dX3_insert_81 rfl ?_
            refine g_aload_n F (pc' := 83) dX3_insert_82 rfl rfl ?_
            refine g_getR F K (k := 24) (fld := 4) (ci := 3) (q := 28) (pc' := 86) iX3_insert_X3 rfl rfl rfl (by decide) (List.mem_of_getElem? (i := 5) rfl) dX3_insert_83 rfl ?_
            refine g_iload F (pc' := 88) dX3_insert_86 rfl rfl ?_
            refine g_aload_n F (pc' := 89) dX3_insert_88 rfl rfl ?_
            refine g_getR F K (k := 24) (fld := 4) (ci := 3) (q := 28) (pc' := 92) iX3_insert_X3 rfl rfl rfl (by decide) (List.mem_of_getElem? (i := 5) rfl) dX3_insert_89 rfl ?_
            refine g_iload F (pc' := 94) dX3_insert_92 rfl rfl ?_
            refine g_iconst F (pc' := 95) dX3_insert_94 rfl ?_
            refine g_isub F (pc' := 96) dX3_insert_95 rfl ?_
            refine g_iald F K (k := 28) (v := (shN (M 28) q (M 24 0)) (q - 1)) (pc' := 97) rfl (by decide) (by omega) dX3_insert_96 rfl (by first | rfl | simp [upf, sc]) ?_
            refine h_iast F K (k := 28) (pc' := 98) (sc (sc (sc (sc M 25 (upf (shN (M 25) q (M 24 0)) q ((shN (M 25) q (M 24 0)) (q - 1)))) 26 (upf (shN (M 26) q (M 24 0)) q ((shN (M 26) q (M 24 0)) (q - 1)))) 27 (upf (shN (M 27) q (M 24 0)) q ((shN (M 27) q (M 24 0)) (q - 1)))) 28 (upf (shN (M 28) q (M 24 0)) q ((shN (M 28) q (M 24 0)) (q - 1)))) (mem_up (by rfl) (by intro j hj; simp only [sc, if_neg hj])) rfl (by decide) (by omega) dX3_insert_97 rfl ?_
            refine g_iinc F (pc' := 101) (lv' := [some (.ref (a 24)), some (.int (iI b)), some (.int (iI o)), some (.int (iI f0)), some (.int (iI t0)), some (.int (iI (q + (-1))))]) dX3_insert_98 rfl rfl (by decide) rfl ?_
            refine g_goto F (tgt := 16) dX3_insert_101 (by decide) ?_
            refine h_mem (sc (sc (sc (sc M 25 (shN (M 25) (q + (-1)) (M 24 0))) 26 (shN (M 26) (q + (-1)) (M 24 0))) 27 (shN (M 27) (q + (-1)) (M 24 0))) 28 (shN (M 28) (q + (-1)) (M 24 0))) (by rw [shN_s (by omega), shN_s (by omega), shN_s (by omega), shN_s (by omega)]) ?_
            exact ih_16 (q + (-1)) (by omega) (by omega) (by first | rfl | (rw [hip]; exact iposI_t (by omega) c_31))
    exact lp_16 (((M 24 0) : Int).toNat + 1) (M 24 0) (by omega) (by omega) (by first | rfl | (rw [hip]; exact iposI_t (by omega) c_31))
  · skip
    exfalso; omega

theorem iX3_addNarrowest_X1 : ∀ w ∈ wsX10, w ∈ wsX3_addNarrowest := fun _ h => List.mem_cons_of_mem _ (List.mem_append_left _ (List.mem_append_right _ h))
theorem iX3_addNarrowest_X3 : ∀ w ∈ wsX30, w ∈ wsX3_addNarrowest := fun _ h => List.mem_cons_of_mem _ (List.mem_append_right _ h)
set_option maxHeartbeats 4000000 in
set_option maxRecDepth 100000 in
theorem c3_addNarrowest (l : Launch) (a : Nat → Nat) (M : Mem) (hm : 0 ≤ M 4 4 ∧ M 4 4 ≤ 16) (h5 : ∀ j, 0 ≤ M 5 j ∧ M 5 j ≤ 999) (h6 : ∀ j, 0 ≤ M 6 j ∧ M 6 j ≤ 999) (h7 : ∀ j, 0 ≤ M 7 j ∧ M 7 j ≤ 999) (h8 : ∀ j, 0 ≤ M 8 j ∧ M 8 j ≤ 999) (hI : sInv (canC M) (M 6) (M 4 4) (stC M)) : CtI XS l yX3_addNarrowest wsX3_addNarrowest ({ frames := 2, cells := 0, slots := 0, locals := 44 } : Room) LC a M [.ref (a 24), .ref (a 4)] (q3_add M) := by
  refine CtI.of (y := yX3_addNarrowest) (cc := cX3_addNarrowest) (maxL := 6) (ret := (some .boolean)) (lv := [some (.ref (a 24)), some (.ref (a 4)), none, none, none, none]) (by decide) rfl (Nat.le_of_ble_eq_true rfl) (lvOK_of _ _ ⟨rfl, rfl⟩) ?_
  intro p e s m below meth c D T F K X0 hr hlk
  have hXc := XS_c
  have hI0 : 0 ≤ M 24 0 := hI.1
  have hn8 : 2 * M 24 0 ≤ M 4 4 := sInv_n (canC_x M) (canC_g M) hm.1 hI
  have hsb := sC_b h6 hI
  refine g_bipush F (pc' := 2) dX3_addNarrowest_0 rfl (by decide +kernel) ?_
  refine g_istore_n F (pc' := 3) (lv' := [some (.ref (a 24)), some (.ref (a 4)), some (.int (iI (-6))), none, none, none]) dX3_addNarrowest_2 rfl (by decide) rfl ?_
  refine g_bipush F (pc' := 5) dX3_addNarrowest_3 rfl (by decide +kernel) ?_
  refine g_istore_n F (pc' := 6) (lv' := [some (.ref (a 24)), some (.ref (a 4)), some (.int (iI (-6))), some (.int (iI (-6))), none, none]) dX3_addNarrowest_5 rfl (by decide) rfl ?_
  refine g_iconst F (pc' := 7) dX3_addNarrowest_6 rfl ?_
  refine g_istore F (pc' := 9) (lv' := [some (.ref (a 24)), some (.ref (a 4)), some (.int (iI (-6))), some (.int (iI (-6))), some (.int (iI 0)), none]) dX3_addNarrowest_7 rfl (by decide) rfl ?_
  have lp_9 : ∀ (n_9 : Nat) (b : Int) (o : Int) (u : Int) (hm_9 : M 4 4 - u < (n_9 : Int)) (hu : 0 ≤ u ∧ u ≤ M 4 4) (hbo : (b, o) = poutI (cnC M) (M 6) (M 4 4) u), GG p l e ({ frames := 2, cells := 0, slots := 0, locals := 44 } : Room) s m ([.ref (a 24), .ref (a 4)].toArray) below meth c (PI D T a LC M (q3_add M) below ([.ref (a 24), .ref (a 4)].toArray) s) D (AA T a LC M s.heap.size) 6 (wld T a LC M) 9 [some (.ref (a 24)), some (.ref (a 4)), some (.int (iI b)), some (.int (iI o)), some (.int (iI u)), none] [] := by
    intro n_9
    induction n_9 with
    | zero => intro b o u hm_9 hu hbo; exfalso; omega
    | succ n_9 ih_9 =>
      intro b o u hm_9 hu hbo
      have hOK0 : pOK (cnC M) (M 4 4) (b, o) := hbo ▸ poutI_OK hu
      have hOb0 : b < 0 ∨ ((0 ≤ b ∧ b < M 4 4) ∧ (0 ≤ o ∧ o < M 4 4)) := pOK_R hOK0
      have hOr0 := pOK_B hOK0
      refine g_iload F (pc' := 11) dX3_addNarrowest_9 rfl rfl ?_
      refine g_aload_n F (pc' := 12) dX3_addNarrowest_11 rfl rfl ?_
      refine g_getI F K (k := 4) (fld := 4) (ci := 1) (z := M 4 4) (pc' := 15) iX3_addNarrowest_X1 rfl rfl rfl (by decide) (List.mem_of_getElem? (i := 1) rfl) dX3_addNarrowest_12 rfl (by first | rfl | simp [upf, sc]) ?_
      refine g_icmp_ge F (pc' := 18) (tgt := 121) dX3_addNarrowest_15 rfl (by decide) (by omega) (by omega) (fun c_15 => ?_) (fun c_15 => ?_)
      · skip
        have hue : u = M 4 4 := by omega
        have hpk := hbo
        rw [hue] at hpk
        have e9 : (pk (canC M) frC (M 6) (M 4 4) (stC M)).1 = b := (congrArg Prod.fst hpk).symm
        have e10 : (pk (canC M) frC (M 6) (M 4 4) (stC M)).2 = o := (congrArg Prod.snd hpk).symm
        refine g_iload_n F (pc' := 122) dX3_addNarrowest_121 rfl rfl ?_
        refine g_bipush F (pc' := 124) dX3_addNarrowest_122 rfl (by decide +kernel) ?_
        refine g_icmp_ne F (pc' := 127) (tgt := 129) dX3_addNarrowest_124 rfl (by decide) (by omega) (by decide) (fun c_124 => ?_) (fun c_124 => ?_)
        · skip
          have hin := insC_ok hm hI (b := b) (o := o) hpk (by omega)
          refine g_aload_n F (pc' := 130) dX3_addNarrowest_129 rfl rfl ?_
          refine g_iload_n F (pc' := 131) dX3_addNarrowest_130 rfl rfl ?_
          refine g_iload_n F (pc' := 132) dX3_addNarrowest_131 rfl rfl ?_
          refine g_aload_n F (pc' := 133) dX3_addNarrowest_132 rfl rfl ?_
          refine g_getR F K (k := 4) (fld := 1) (ci := 1) (q := 6) (pc' := 136) iX3_addNarrowest_X1 rfl rfl rfl (by decide) (List.mem_of_getElem? (i := 2) rfl) dX3_addNarrowest_133 rfl ?_
          refine g_iload_n F (pc' := 137) dX3_addNarrowest_136 rfl rfl ?_
          refine g_iald F K (k := 6) (v := M 6 b) (pc' := 138) rfl (by decide) (by omega) dX3_addNarrowest_137 rfl (by first | rfl | simp [upf, sc]) ?_
          have b_137 := h6 b
          refine g_aload_n F (pc' := 139) dX3_addNarrowest_138 rfl rfl ?_
          refine g_getR F K (k := 4) (fld := 1) (ci := 1) (q := 6) (pc' := 142) iX3_addNarrowest_X1 rfl rfl rfl (by decide) (List.mem_of_getElem? (i := 2) rfl) dX3_addNarrowest_139 rfl ?_
          refine g_iload_n F (pc' := 143) dX3_addNarrowest_142 rfl rfl ?_
          refine g_iald F K (k := 6) (v := M 6 o) (pc' := 144) rfl (by decide) (by omega) dX3_addNarrowest_143 rfl (by first | rfl | simp [upf, sc]) ?_
          have b_143 := h6 o
          refine g_callV F K hXc X0 (pc' := 147) (st := []) (c3_insert l a M b o (M 6 b) (M 6 o) (by omega) (by omega) (by omega) hsb) (cwV 4 F.2.2.2.2 gX3_addNarrowest_X3_insert rfl rfl rfl (by decide +kernel) ⟨Nat.le_of_ble_eq_true rfl, Nat.le_of_ble_eq_true rfl⟩) rfl rfl rfl rfl (Nat.le_of_ble_eq_true rfl) dX3_addNarrowest_144 rfl (fun M_144 q_144 => ?_)
          refine g_iconst F (pc' := 148) dX3_addNarrowest_147 rfl ?_
          exact g_zret F hr hlk dX3_addNarrowest_148 (Or.inr rfl) (Or.inr ⟨by rw [e9]; omega, rfl, by rw [e9, e10]; exact q_144⟩)
        · skip
          refine g_iconst F (pc' := 128) dX3_addNarrowest_127 rfl ?_
          exact g_zret F hr hlk dX3_addNarrowest_128 (Or.inl rfl) (Or.inl ⟨by rw [e9]; omega, rfl, rfl⟩)
      · skip
        refine g_iconst F (pc' := 19) dX3_addNarrowest_18 rfl ?_
        refine g_istore F (pc' := 21) (lv' := [some (.ref (a 24)), some (.ref (a 4)), some (.int (iI b)), some (.int (iI o)), some (.int (iI u)), some (.int (iI 0))]) dX3_addNarrowest_19 rfl (by decide) rfl ?_
        have lp_21 : ∀ (n_21 : Nat) (b : Int) (o : Int) (d : Int) (hm_21 : M 4 4 - d < (n_21 : Int)) (hd : 0 ≤ d ∧ d ≤ M 4 4) (hbd : (b, o) = pinI (cnC M) (M 6) (poutI (cnC M) (M 6) (M 4 4) u) u d), GG p l e ({ frames := 2, cells := 0, slots := 0, locals := 44 } : Room) s m ([.ref (a 24), .ref (a 4)].toArray) below meth c (PI D T a LC M (q3_add M) below ([.ref (a 24), .ref (a 4)].toArray) s) D (AA T a LC M s.heap.size) 6 (wld T a LC M) 21 [some (.ref (a 24)), some (.ref (a 4)), some (.int (iI b)), some (.int (iI o)), some (.int (iI u)), some (.int (iI d))] [] := by
          intro n_21
          induction n_21 with
          | zero => intro b o d hm_21 hd hbd; exfalso; omega
          | succ n_21 ih_21 =>
            intro b o d hm_21 hd hbd
            have hOK : pOK (cnC M) (M 4 4) (b, o) := hbd ▸ pinI_OK (poutI_OK (by omega)) (by omega) hd
            have hOb : b < 0 ∨ ((0 ≤ b ∧ b < M 4 4) ∧ (0 ≤ o ∧ o < M 4 4)) := pOK_R hOK
            have hOr := pOK_B hOK
            refine g_iload F (pc' := 23) dX3_addNarrowest_21 rfl rfl ?_
            refine g_aload_n F (pc' := 24) dX3_addNarrowest_23 rfl rfl ?_
            refine g_getI F K (k := 4) (fld := 4) (ci := 1) (z := M 4 4) (pc' := 27) iX3_addNarrowest_X1 rfl rfl rfl (by decide) (List.mem_of_getElem? (i := 1) rfl) dX3_addNarrowest_24 rfl (by first | rfl | simp [upf, sc]) ?_
            refine g_icmp_ge F (pc' := 30) (tgt := 115) dX3_addNarrowest_27 rfl (by decide) (by omega) (by omega) (fun c_27 => ?_) (fun c_27 => ?_)
            · skip
              refine g_iinc F (pc' := 118) (lv' := [some (.ref (a 24)), some (.ref (a 4)), some (.int (iI b)), some (.int (iI o)), some (.int (iI (u + 1))), some (.int (iI d))]) dX3_addNarrowest_115 rfl rfl (by decide) rfl ?_
              refine g_goto F (tgt := 9) dX3_addNarrowest_118 (by decide) ?_
              refine g_lvw [some (.ref (a 24)), some (.ref (a 4)), some (.int (iI b)), some (.int (iI o)), some (.int (iI (u + 1))), none] (lvw_of _ _ [true, true, true, true, true, false] rfl) ?_
              exact ih_9 b o (u + 1) (by omega) (by omega) (by (have hd9 : d = M 4 4 := by omega); rw [hd9] at hbd; rw [poutI_s hu.1]; exact hbd)
            · skip
              refine g_aload_n F (pc' := 31) dX3_addNarrowest_30 rfl rfl ?_
              refine g_iload F (pc' := 33) dX3_addNarrowest_31 rfl rfl ?_
              refine g_iload F (pc' := 35) dX3_addNarrowest_33 rfl rfl ?_
              refine g_callI F K hXc X0 (pc' := 38) (st := []) (c1_canBeStem l a M u d (by omega) (by omega) h5 h6 h7 h8) (cwV 2 F.2.2.2.2 gX3_addNarrowest_X1_canBeStem rfl rfl rfl (by decide +kernel) ⟨Nat.le_of_ble_eq_true rfl, Nat.le_of_ble_eq_true rfl⟩) rfl rfl rfl rfl (Nat.le_of_ble_eq_true rfl) dX3_addNarrowest_35 rfl (fun z_35 M_35 q_35 => ?_)
              obtain ⟨rfl, mq_35⟩ := q_35
              have mq_35 := mq_35.symm; subst mq_35
              refine g_if_eq F (pc' := 41) (tgt := 109) dX3_addNarrowest_38 rfl (by decide) (zC_R _) (fun c_38 => ?_) (fun c_38 => ?_)
              · skip
                have c_38 := zC_0 c_38
                refine g_iinc F (pc' := 112) (lv' := [some (.ref (a 24)), some (.ref (a 4)), some (.int (iI b)), some (.int (iI o)), some (.int (iI u)), some (.int (iI (d + 1)))]) dX3_addNarrowest_109 rfl rfl (by decide) rfl ?_
                refine g_goto F (tgt := 21) dX3_addNarrowest_112 (by decide) ?_
                exact ih_21 b o (d + 1) (by omega) (by omega) (by first | exact hbo | (rw [pinI_s hd.1, ← hbd]; first | exact (stp_f (fun q => c_38 q.1.1)).symm | exact (stp_f (fun q => c_59 q.1.2)).symm | exact (stp_t ⟨⟨c_38, c_59⟩, Or.inl (by show b < 0; omega)⟩).symm | exact (stp_t ⟨⟨c_38, c_59⟩, Or.inr c_100⟩).symm | exact (stp_f (fun q => by rcases q.2 with q1 | q1; (exact absurd (show b < 0 from q1) (by omega)); exact c_100 q1)).symm))
              · skip
                have c_38 := zC_1 c_38
                refine g_aload_n F (pc' := 42) dX3_addNarrowest_41 rfl rfl ?_
                refine g_aload_n F (pc' := 43) dX3_addNarrowest_42 rfl rfl ?_
                refine g_getR F K (k := 4) (fld := 1) (ci := 1) (q := 6) (pc' := 46) iX3_addNarrowest_X1 rfl rfl rfl (by decide) (List.mem_of_getElem? (i := 2) rfl) dX3_addNarrowest_43 rfl ?_
                refine g_iload F (pc' := 48) dX3_addNarrowest_46 rfl rfl ?_
                refine g_iald F K (k := 6) (v := M 6 u) (pc' := 49) rfl (by decide) (by omega) dX3_addNarrowest_48 rfl (by first | rfl | simp [upf, sc]) ?_
                have b_48 := h6 u
                refine g_aload_n F (pc' := 50) dX3_addNarrowest_49 rfl rfl ?_
                refine g_getR F K (k := 4) (fld := 1) (ci := 1) (q := 6) (pc' := 53) iX3_addNarrowest_X1 rfl rfl rfl (by decide) (List.mem_of_getElem? (i := 2) rfl) dX3_addNarrowest_50 rfl ?_
                refine g_iload F (pc' := 55) dX3_addNarrowest_53 rfl rfl ?_
                refine g_iald F K (k := 6) (v := M 6 d) (pc' := 56) rfl (by decide) (by omega) dX3_addNarrowest_55 rfl (by first | rfl | simp [upf, sc]) ?_
                have b_55 := h6 d
                refine g_callI F K hXc X0 (pc' := 59) (st := []) (c3_isFree l a M (M 6 u) (M 6 d) (by omega) (by omega) (by omega) hsb) (cwV 2 F.2.2.2.2 gX3_addNarrowest_X3_isFree rfl rfl rfl (by decide +kernel) ⟨Nat.le_of_ble_eq_true rfl, Nat.le_of_ble_eq_true rfl⟩) rfl rfl rfl rfl (Nat.le_of_ble_eq_true rfl) dX3_addNarrowest_56 rfl (fun z_56 M_56 q_56 => ?_)
                obtain ⟨rfl, mq_56⟩ := q_56
                have mq_56 := mq_56.symm; subst mq_56
                refine h_top (z' := zC (frC (M 6) (stC M) u d)) rfl ?_
                refine g_if_ne F (pc' := 62) (tgt := 65) dX3_addNarrowest_59 rfl (by decide) (zC_R _) (fun c_59 => ?_) (fun c_59 => ?_)
                · skip
                  have c_59 := zC_1 c_59
                  refine g_iload_n F (pc' := 66) dX3_addNarrowest_65 rfl rfl ?_
                  refine g_bipush F (pc' := 68) dX3_addNarrowest_66 rfl (by decide +kernel) ?_
                  refine g_icmp_eq F (pc' := 71) (tgt := 103) dX3_addNarrowest_68 rfl (by decide) (by omega) (by decide) (fun c_68 => ?_) (fun c_68 => ?_)
                  · skip
                    refine g_iload F (pc' := 105) dX3_addNarrowest_103 rfl rfl ?_
                    refine g_istore_n F (pc' := 106) (lv' := [some (.ref (a 24)), some (.ref (a 4)), some (.int (iI u)), some (.int (iI o)), some (.int (iI u)), some (.int (iI d))]) dX3_addNarrowest_105 rfl (by decide) rfl ?_
                    refine g_iload F (pc' := 108) dX3_addNarrowest_106 rfl rfl ?_
                    refine g_istore_n F (pc' := 109) (lv' := [some (.ref (a 24)), some (.ref (a 4)), some (.int (iI u)), some (.int (iI d)), some (.int (iI u)), some (.int (iI d))]) dX3_addNarrowest_108 rfl (by decide) rfl ?_
                    refine g_iinc F (pc' := 112) (lv' := [some (.ref (a 24)), some (.ref (a 4)), some (.int (iI u)), some (.int (iI d)), some (.int (iI u)), some (.int (iI (d + 1)))]) dX3_addNarrowest_109 rfl rfl (by decide) rfl ?_
                    refine g_goto F (tgt := 21) dX3_addNarrowest_112 (by decide) ?_
                    exact ih_21 u d (d + 1) (by omega) (by omega) (by first | exact hbo | (rw [pinI_s hd.1, ← hbd]; first | exact (stp_f (fun q => c_38 q.1.1)).symm | exact (stp_f (fun q => c_59 q.1.2)).symm | exact (stp_t ⟨⟨c_38, c_59⟩, Or.inl (by show b < 0; omega)⟩).symm | exact (stp_t ⟨⟨c_38, c_59⟩, Or.inr c_100⟩).symm | exact (stp_f (fun q => by rcases q.2 with q1 | q1; (exact absurd (show b < 0 from q1) (by omega)); exact c_100 q1)).symm))
                  · skip
                    refine g_aload_n F (pc' := 72) dX3_addNarrowest_71 rfl rfl ?_
                    refine g_getR F K (k := 4) (fld := 1) (ci := 1) (q := 6) (pc' := 75) iX3_addNarrowest_X1 rfl rfl rfl (by decide) (List.mem_of_getElem? (i := 2) rfl) dX3_addNarrowest_72 rfl ?_
                    refine g_iload F (pc' := 77) dX3_addNarrowest_75 rfl rfl ?_
                    refine g_iald F K (k := 6) (v := M 6 u) (pc' := 78) rfl (by decide) (by omega) dX3_addNarrowest_77 rfl (by first | rfl | simp [upf, sc]) ?_
                    have b_77 := h6 u
                    refine g_aload_n F (pc' := 79) dX3_addNarrowest_78 rfl rfl ?_
                    refine g_getR F K (k := 4) (fld := 1) (ci := 1) (q := 6) (pc' := 82) iX3_addNarrowest_X1 rfl rfl rfl (by decide) (List.mem_of_getElem? (i := 2) rfl) dX3_addNarrowest_79 rfl ?_
                    refine g_iload F (pc' := 84) dX3_addNarrowest_82 rfl rfl ?_
                    refine g_iald F K (k := 6) (v := M 6 d) (pc' := 85) rfl (by decide) (by omega) dX3_addNarrowest_84 rfl (by first | rfl | simp [upf, sc]) ?_
                    have b_84 := h6 d
                    refine g_aload_n F (pc' := 86) dX3_addNarrowest_85 rfl rfl ?_
                    refine g_getR F K (k := 4) (fld := 1) (ci := 1) (q := 6) (pc' := 89) iX3_addNarrowest_X1 rfl rfl rfl (by decide) (List.mem_of_getElem? (i := 2) rfl) dX3_addNarrowest_86 rfl ?_
                    refine g_iload_n F (pc' := 90) dX3_addNarrowest_89 rfl rfl ?_
                    refine g_iald F K (k := 6) (v := M 6 b) (pc' := 91) rfl (by decide) (by omega) dX3_addNarrowest_90 rfl (by first | rfl | simp [upf, sc]) ?_
                    have b_90 := h6 b
                    refine g_aload_n F (pc' := 92) dX3_addNarrowest_91 rfl rfl ?_
                    refine g_getR F K (k := 4) (fld := 1) (ci := 1) (q := 6) (pc' := 95) iX3_addNarrowest_X1 rfl rfl rfl (by decide) (List.mem_of_getElem? (i := 2) rfl) dX3_addNarrowest_92 rfl ?_
                    refine g_iload_n F (pc' := 96) dX3_addNarrowest_95 rfl rfl ?_
                    refine g_iald F K (k := 6) (v := M 6 o) (pc' := 97) rfl (by decide) (by omega) dX3_addNarrowest_96 rfl (by first | rfl | simp [upf, sc]) ?_
                    have b_96 := h6 o
                    refine g_callP F (pc' := 100) (st := []) (c3_isSooner l (M 6 u) (M 6 d) (M 6 b) (M 6 o) (by omega) (by omega) (by omega) (by omega)) (va_cwS 4 F.2.2.2.2 gX3_addNarrowest_X3_isSooner rfl rfl rfl (by decide +kernel) ⟨Nat.le_of_ble_eq_true rfl, Nat.le_of_ble_eq_true rfl⟩) rfl rfl (Nat.le_of_ble_eq_true rfl) dX3_addNarrowest_97 rfl ?_
                    refine g_if_eq F (pc' := 103) (tgt := 109) dX3_addNarrowest_100 rfl (by decide) (zC_R _) (fun c_100 => ?_) (fun c_100 => ?_)
                    · skip
                      have c_100 := zC_0 c_100
                      refine g_iinc F (pc' := 112) (lv' := [some (.ref (a 24)), some (.ref (a 4)), some (.int (iI b)), some (.int (iI o)), some (.int (iI u)), some (.int (iI (d + 1)))]) dX3_addNarrowest_109 rfl rfl (by decide) rfl ?_
                      refine g_goto F (tgt := 21) dX3_addNarrowest_112 (by decide) ?_
                      exact ih_21 b o (d + 1) (by omega) (by omega) (by first | exact hbo | (rw [pinI_s hd.1, ← hbd]; first | exact (stp_f (fun q => c_38 q.1.1)).symm | exact (stp_f (fun q => c_59 q.1.2)).symm | exact (stp_t ⟨⟨c_38, c_59⟩, Or.inl (by show b < 0; omega)⟩).symm | exact (stp_t ⟨⟨c_38, c_59⟩, Or.inr c_100⟩).symm | exact (stp_f (fun q => by rcases q.2 with q1 | q1; (exact absurd (show b < 0 from q1) (by omega)); exact c_100 q1)).symm))
                    · skip
                      have c_100 := zC_1 c_100
                      refine g_iload F (pc' := 105) dX3_addNarrowest_103 rfl rfl ?_
                      refine g_istore_n F (pc' := 106) (lv' := [some (.ref (a 24)), some (.ref (a 4)), some (.int (iI u)), some (.int (iI o)), some (.int (iI u)), some (.int (iI d))]) dX3_addNarrowest_105 rfl (by decide) rfl ?_
                      refine g_iload F (pc' := 108) dX3_addNarrowest_106 rfl rfl ?_
                      refine g_istore_n F (pc' := 109) (lv' := [some (.ref (a 24)), some (.ref (a 4)), some (.int (iI u)), some (.int (iI d)), some (.int (iI u)), some (.int (iI d))]) dX3_addNarrowest_108 rfl (by decide) rfl ?_
                      refine g_iinc F (pc' := 112) (lv' := [some (.ref (a 24)), some (.ref (a 4)), some (.int (iI u)), some (.int (iI d)), some (.int (iI u)), some (.int (iI (d + 1)))]) dX3_addNarrowest_109 rfl rfl (by decide) rfl ?_
                      refine g_goto F (tgt := 21) dX3_addNarrowest_112 (by decide) ?_
                      exact ih_21 u d (d + 1) (by omega) (by omega) (by first | exact hbo | (rw [pinI_s hd.1, ← hbd]; first | exact (stp_f (fun q => c_38 q.1.1)).symm | exact (stp_f (fun q => c_59 q.1.2)).symm | exact (stp_t ⟨⟨c_38, c_59⟩, Or.inl (by show b < 0; omega)⟩).symm | exact (stp_t ⟨⟨c_38, c_59⟩, Or.inr c_100⟩).symm | exact (stp_f (fun q => by rcases q.2 with q1 | q1; (exact absurd (show b < 0 from q1) (by omega)); exact c_100 q1)).symm))
                · skip
                  have c_59 := zC_0 c_59
                  refine g_goto F (tgt := 109) dX3_addNarrowest_62 (by decide) ?_
                  refine g_iinc F (pc' := 112) (lv' := [some (.ref (a 24)), some (.ref (a 4)), some (.int (iI b)), some (.int (iI o)), some (.int (iI u)), some (.int (iI (d + 1)))]) dX3_addNarrowest_109 rfl rfl (by decide) rfl ?_
                  refine g_goto F (tgt := 21) dX3_addNarrowest_112 (by decide) ?_
                  exact ih_21 b o (d + 1) (by omega) (by omega) (by first | exact hbo | (rw [pinI_s hd.1, ← hbd]; first | exact (stp_f (fun q => c_38 q.1.1)).symm | exact (stp_f (fun q => c_59 q.1.2)).symm | exact (stp_t ⟨⟨c_38, c_59⟩, Or.inl (by show b < 0; omega)⟩).symm | exact (stp_t ⟨⟨c_38, c_59⟩, Or.inr c_100⟩).symm | exact (stp_f (fun q => by rcases q.2 with q1 | q1; (exact absurd (show b < 0 from q1) (by omega)); exact c_100 q1)).symm))
        exact lp_21 ((M 4 4 - 0 : Int).toNat + 1) b o 0 (by omega) (by omega) (by first | exact hbo | (rw [pinI_s hd.1, ← hbd]; first | exact (stp_f (fun q => c_38 q.1.1)).symm | exact (stp_f (fun q => c_59 q.1.2)).symm | exact (stp_t ⟨⟨c_38, c_59⟩, Or.inl (by show b < 0; omega)⟩).symm | exact (stp_t ⟨⟨c_38, c_59⟩, Or.inr c_100⟩).symm | exact (stp_f (fun q => by rcases q.2 with q1 | q1; (exact absurd (show b < 0 from q1) (by omega)); exact c_100 q1)).symm))
  exact lp_9 ((M 4 4 - 0 : Int).toNat + 1) (-6) (-6) 0 (by omega) (by omega) (by rfl)

