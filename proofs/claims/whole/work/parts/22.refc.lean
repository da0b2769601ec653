/-! ===== the pad's text: faults and numbers ===== -/
def upz (p : Int → Int) : Int := if p 0 = 117 then 1 else 0
def isF (p : Int → Int) (n i : Int) : Prop := i < n ∧ (48 ≤ p i ∧ p i ≤ 57)
noncomputable def fg (p : Int → Int) (n t : Int) : Int := pif (isF p n t) (pif (isF p n (t + 1)) (pif (isF p n (t + 2)) 3 2) 1) 0
def vz (p : Int → Int) (t : Int) : Nat → Int
  | 0 => 0
  | k + 1 => (10 * vz p t k + p (t + k)) - 48
def vI (p : Int → Int) (t k : Int) : Int := vz p t k.toNat
theorem vI_s {p : Int → Int} {t k : Int} (h : 0 ≤ k) : vI p t (k + 1) = (10 * vI p t k + p (t + k)) - 48 := by
  unfold vI
  rw [show (k + 1).toNat = k.toNat + 1 by omega]
  show (10 * vz p t k.toNat + p (t + (k.toNat : Int))) - 48 = _
  rw [show ((k.toNat : Nat) : Int) = k by omega]
theorem isF_s {p : Int → Int} {n t k : Int} (h : ∀ j, 0 ≤ j → j < k → isF p n (t + j)) (hk : isF p n (t + k)) : ∀ j, 0 ≤ j → j < k + 1 → isF p n (t + j) := by
  intro j h1 h2
  by_cases hj : j = k
  · subst hj; exact hk
  · exact h j h1 (by omega)
theorem vz_R {p : Int → Int} {n t : Int} : ∀ (k : Nat), (∀ j : Int, 0 ≤ j → j < k → isF p n (t + j)) → 0 ≤ vz p t k ∧ vz p t k < 10 ^ k
  | 0, _ => by simp [vz]
  | k + 1, h => by
    have h1 := vz_R k (fun j h1 h2 => h j h1 (by omega))
    have h2 := (h k (by omega) (by omega)).2
    have e : (10 : Int) ^ (k + 1) = 10 ^ k * 10 := Int.pow_succ 10 k
    rw [e]
    show 0 ≤ (10 * vz p t k + p (t + k)) - 48 ∧ (10 * vz p t k + p (t + k)) - 48 < 10 ^ k * 10
    omega
theorem vI_R {p : Int → Int} {n t k x : Int} (hk : 0 ≤ k ∧ k ≤ 3) (h3 : k < 3) (h0 : 0 ≤ t) (hal : ∀ j, 0 ≤ j → j < k → isF p n (t + j)) (hx : 48 ≤ p x ∧ p x ≤ 57) (ht : x = t + k) : 0 ≤ vI p t (k + 1) ∧ vI p t (k + 1) ≤ 1000 := by
  have h1 := vz_R k.toNat (fun j h1 h2 => hal j h1 (by omega))
  rw [vI_s hk.1, ← ht]
  have hc : k = 0 ∨ k = 1 ∨ k = 2 := by omega
  unfold vI
  rcases hc with rfl | rfl | rfl
  · have h4 : (10 : Int) ^ (0 : Int).toNat = 1 := rfl
    rw [h4] at h1; omega
  · have h4 : (10 : Int) ^ (1 : Int).toNat = 10 := rfl
    rw [h4] at h1; omega
  · have h4 : (10 : Int) ^ (2 : Int).toNat = 100 := rfl
    rw [h4] at h1; omega
theorem fg_is {p : Int → Int} {n t k : Int} (hk : 0 ≤ k ∧ k ≤ 3) (hal : ∀ j, 0 ≤ j → j < k → isF p n (t + j)) (hs : k = 3 ∨ ¬ isF p n (t + k)) : fg p n t = k := by
  unfold fg
  have hc : k = 0 ∨ k = 1 ∨ k = 2 ∨ k = 3 := by omega
  rcases hc with rfl | rfl | rfl | rfl
  · rw [pif_f]
    rcases hs with h | h
    · exact absurd h (by decide)
    · simpa using h
  · have h0 := hal 0 (by decide) (by decide)
    rw [pif_t (by simpa using h0), pif_f]
    rcases hs with h | h
    · exact absurd h (by decide)
    · exact h
  · have h0 := hal 0 (by decide) (by decide)
    have h1 := hal 1 (by decide) (by decide)
    rw [pif_t (by simpa using h0), pif_t h1, pif_f]
    rcases hs with h | h
    · exact absurd h (by decide)
    · exact h
  · have h0 := hal 0 (by decide) (by decide)
    have h1 := hal 1 (by decide) (by decide)
    have h2 := hal 2 (by decide) (by decide)
    rw [pif_t (by simpa using h0), pif_t h1, pif_t h2]
theorem fg_0 {p : Int → Int} {n t : Int} (h : ¬ isF p n t) : fg p n t = 0 := pif_f h
theorem fg_R (p : Int → Int) (n t : Int) : 0 ≤ fg p n t ∧ fg p n t ≤ 3 := by
  unfold fg pif
  repeat' split
  all_goals omega
theorem fg_p {p : Int → Int} {n t : Int} (h : isF p n t) : fg p n t ≠ 0 := by
  unfold fg
  rw [pif_t h]
  unfold pif
  repeat' split
  all_goals omega
theorem fg_le {p : Int → Int} {n t : Int} (h : t ≤ n) : t + fg p n t ≤ n := by
  unfold fg
  by_cases h1 : isF p n t
  · rw [pif_t h1]
    by_cases h2 : isF p n (t + 1)
    · rw [pif_t h2]
      by_cases h3 : isF p n (t + 2)
      · rw [pif_t h3]; have := h3.1; omega
      · rw [pif_f h3]; have := h2.1; omega
    · rw [pif_f h2]; have := h1.1; omega
  · rw [pif_f h1]; omega
noncomputable def pe1 (p : Int → Int) (n : Int) : Int := 1 + fg p n 1
noncomputable def pa2 (p : Int → Int) (n : Int) : Int := pe1 p n + 1
noncomputable def pe2 (p : Int → Int) (n : Int) : Int := pa2 p n + fg p n (pa2 p n)
noncomputable def pa3 (p : Int → Int) (n : Int) : Int := pe2 p n + 1
noncomputable def pe3 (p : Int → Int) (n : Int) : Int := pa3 p n + fg p n (pa3 p n)
noncomputable def pv1 (p : Int → Int) (n : Int) : Int := vI p 1 (fg p n 1)
noncomputable def pv2 (p : Int → Int) (n : Int) : Int := vI p (pa2 p n) (fg p n (pa2 p n))
noncomputable def pv3 (p : Int → Int) (n : Int) : Int := vI p (pa3 p n) (fg p n (pa3 p n))
def pst (p : Int → Int) (n : Int) : Prop := 0 < n ∧ (p 0 = 117 ∨ p 0 = 100)
noncomputable def fl (p : Int → Int) (n : Int) : Int :=
  pif (pst p n) (pif (fg p n 1 = 0) 1 (pif (pe1 p n < n ∧ p (pe1 p n) = 44) (pif (fg p n (pa2 p n) = 0) (pa2 p n) (pif (pe2 p n < n ∧ p (pe2 p n) = 45) (pif (fg p n (pa3 p n) = 0) (pa3 p n) (pif (pe3 p n < n) (pe3 p n) (pif (pv2 p n < pv3 p n) (-6) n))) (pe2 p n))) (pe1 p n))) 0
section FL
variable {p : Int → Int} {n : Int}
theorem fl_0 (h : ¬ pst p n) : fl p n = 0 := pif_f h
theorem fl_1 (hs : pst p n) (h : fg p n 1 = 0) : fl p n = 1 := by unfold fl; rw [pif_t hs, pif_t h]
theorem fl_2 (hs : pst p n) (h1 : fg p n 1 ≠ 0) (h : ¬ (pe1 p n < n ∧ p (pe1 p n) = 44)) : fl p n = pe1 p n := by unfold fl; rw [pif_t hs, pif_f h1, pif_f h]
theorem fl_3 (hs : pst p n) (h1 : fg p n 1 ≠ 0) (h2 : pe1 p n < n ∧ p (pe1 p n) = 44) (h : fg p n (pa2 p n) = 0) : fl p n = pa2 p n := by unfold fl; rw [pif_t hs, pif_f h1, pif_t h2, pif_t h]
theorem fl_4 (hs : pst p n) (h1 : fg p n 1 ≠ 0) (h2 : pe1 p n < n ∧ p (pe1 p n) = 44) (h3 : fg p n (pa2 p n) ≠ 0) (h : ¬ (pe2 p n < n ∧ p (pe2 p n) = 45)) : fl p n = pe2 p n := by unfold fl; rw [pif_t hs, pif_f h1, pif_t h2, pif_f h3, pif_f h]
theorem fl_5 (hs : pst p n) (h1 : fg p n 1 ≠ 0) (h2 : pe1 p n < n ∧ p (pe1 p n) = 44) (h3 : fg p n (pa2 p n) ≠ 0) (h4 : pe2 p n < n ∧ p (pe2 p n) = 45) (h : fg p n (pa3 p n) = 0) : fl p n = pa3 p n := by unfold fl; rw [pif_t hs, pif_f h1, pif_t h2, pif_f h3, pif_t h4, pif_t h]
theorem fl_6 (hs : pst p n) (h1 : fg p n 1 ≠ 0) (h2 : pe1 p n < n ∧ p (pe1 p n) = 44) (h3 : fg p n (pa2 p n) ≠ 0) (h4 : pe2 p n < n ∧ p (pe2 p n) = 45) (h5 : fg p n (pa3 p n) ≠ 0) (h : pe3 p n < n) : fl p n = pe3 p n := by unfold fl; rw [pif_t hs, pif_f h1, pif_t h2, pif_f h3, pif_t h4, pif_f h5, pif_t h]
theorem fl_7 (hs : pst p n) (h1 : fg p n 1 ≠ 0) (h2 : pe1 p n < n ∧ p (pe1 p n) = 44) (h3 : fg p n (pa2 p n) ≠ 0) (h4 : pe2 p n < n ∧ p (pe2 p n) = 45) (h5 : fg p n (pa3 p n) ≠ 0) (h6 : ¬ pe3 p n < n) (h : pv2 p n < pv3 p n) : fl p n = -6 := by unfold fl; rw [pif_t hs, pif_f h1, pif_t h2, pif_f h3, pif_t h4, pif_f h5, pif_f h6, pif_t h]
theorem fl_8 (hs : pst p n) (h1 : fg p n 1 ≠ 0) (h2 : pe1 p n < n ∧ p (pe1 p n) = 44) (h3 : fg p n (pa2 p n) ≠ 0) (h4 : pe2 p n < n ∧ p (pe2 p n) = 45) (h5 : fg p n (pa3 p n) ≠ 0) (h6 : ¬ pe3 p n < n) (h : pv3 p n ≤ pv2 p n) : fl p n = n := by unfold fl; rw [pif_t hs, pif_f h1, pif_t h2, pif_f h3, pif_t h4, pif_f h5, pif_f h6, pif_f (by omega)]
theorem fl_R (hn : 0 ≤ n) : fl p n = -6 ∨ 0 ≤ fl p n := by
  have r1 := fg_R p n 1
  have r2 := fg_R p n (pa2 p n)
  have r3 := fg_R p n (pa3 p n)
  have q1 : pe1 p n = 1 + fg p n 1 := rfl
  have q2 : pa2 p n = pe1 p n + 1 := rfl
  have q3 : pe2 p n = pa2 p n + fg p n (pa2 p n) := rfl
  have q4 : pa3 p n = pe2 p n + 1 := rfl
  have q5 : pe3 p n = pa3 p n + fg p n (pa3 p n) := rfl
  unfold fl pif
  repeat' split
  all_goals omega
end FL
theorem iX5_faultOf_X5 : ∀ w ∈ wsX50, w ∈ wsX5_faultOf := fun _ h => List.mem_cons_of_mem _ (List.mem_append_right _ h)
set_option maxHeartbeats 4000000 in
set_option maxRecDepth 100000 in
theorem c5_faultOf (l : Launch) (a : Nat → Nat) (M : Mem) (hn : 0 ≤ M 0 3 ∧ M 0 3 ≤ 30) (hP : ∀ j, 0 ≤ M 3 j ∧ M 3 j ≤ 126) : CtI XT l yX5_faultOf wsX5_faultOf ({ frames := 2, cells := 0, slots := 0, locals := 42 } : Room) LR a M [.ref (a 0)] (fun z M' => ∃ rd : Int → Int, M' = sc M 4 rd ∧ z = fl (M 3) (M 0 3) ∧ (z = -6 → rd 0 = upz (M 3) ∧ rd 1 = pv1 (M 3) (M 0 3) ∧ rd 2 = pv2 (M 3) (M 0 3) ∧ rd 3 = pv3 (M 3) (M 0 3))) := by
  refine CtI.of (y := yX5_faultOf) (cc := cX5_faultOf) (maxL := 4) (ret := (some .int)) (lv := [some (.ref (a 0)), none, none, none]) (by decide) rfl (Nat.le_of_ble_eq_true rfl) (lvOK_of _ _ ⟨rfl, rfl⟩) ?_
  intro p e s m below meth c D T F K X0 hr hlk
  have hXc := XT_c
  have lp_52 : ∀ (b : Int) (hst : pst (M 3) (M 0 3)) (hb : b = upz (M 3)), GG p l e ({ frames := 2, cells := 0, slots := 0, locals := 42 } : Room) s m ([.ref (a 0)].toArray) below meth c (PI D T a LR M (fun z M' => ∃ rd : Int → Int, M' = sc M 4 rd ∧ z = fl (M 3) (M 0 3) ∧ (z = -6 → rd 0 = upz (M 3) ∧ rd 1 = pv1 (M 3) (M 0 3) ∧ rd 2 = pv2 (M 3) (M 0 3) ∧ rd 3 = pv3 (M 3) (M 0 3))) below ([.ref (a 0)].toArray) s) D (AA T a LR M s.heap.size) 4 (wld T a LR M) 52 [some (.ref (a 0)), none, none, none] [.int (iI b), .int (iI 0), .ref (a 4)] := by
    intro b hst hb
    subst hb
    have hs0 : 0 < M 0 3 := hst.1
    have lp_93 : ∀ (n_93 : Nat) (k : Int) (i : Int) (t : Int) (at0 : Int) (rd0 : Int → Int) (hm_93 : 3 - k < (n_93 : Int)) (hk : 0 ≤ k ∧ k ≤ 3) (hi : 0 ≤ i ∧ i < 4) (ht : t = at0 + k) (h0 : 0 ≤ at0 ∧ at0 ≤ 30) (hv : 0 ≤ vI (M 3) at0 k ∧ vI (M 3) at0 k ≤ 1000) (hal : ∀ j, 0 ≤ j → j < k → isF (M 3) (M 0 3) (at0 + j)) (kk_152 : ∀  (hx : 0 ≤ vI (M 3) at0 (fg (M 3) (M 0 3) at0) ∧ vI (M 3) at0 (fg (M 3) (M 0 3) at0) ≤ 1000), GG p l e ({ frames := 2, cells := 0, slots := 0, locals := 42 } : Room) s m ([.ref (a 0)].toArray) below meth c (PI D T a LR M (fun z M' => ∃ rd : Int → Int, M' = sc M 4 rd ∧ z = fl (M 3) (M 0 3) ∧ (z = -6 → rd 0 = upz (M 3) ∧ rd 1 = pv1 (M 3) (M 0 3) ∧ rd 2 = pv2 (M 3) (M 0 3) ∧ rd 3 = pv3 (M 3) (M 0 3))) below ([.ref (a 0)].toArray) s) D (AA T a LR M s.heap.size) 4 (wld T a LR (sc M 4 (upf rd0 i (vI (M 3) at0 (fg (M 3) (M 0 3) at0))))) 152 [some (.ref (a 0)), some (.int (iI (at0 + fg (M 3) (M 0 3) at0))), some (.int (iI i)), none] []), GG p l e ({ frames := 2, cells := 0, slots := 0, locals := 42 } : Room) s m ([.ref (a 0)].toArray) below meth c (PI D T a LR M (fun z M' => ∃ rd : Int → Int, M' = sc M 4 rd ∧ z = fl (M 3) (M 0 3) ∧ (z = -6 → rd 0 = upz (M 3) ∧ rd 1 = pv1 (M 3) (M 0 3) ∧ rd 2 = pv2 (M 3) (M 0 3) ∧ rd 3 = pv3 (M 3) (M 0 3))) below ([.ref (a 0)].toArray) s) D (AA T a LR M s.heap.size) 4 (wld T a LR (sc M 4 (upf rd0 i (vI (M 3) at0 k)))) 93 [some (.ref (a 0)), some (.int (iI t)), some (.int (iI i)), some (.int (iI k))] [] := by
      intro n_93
      induction n_93 with
      | zero => intro k i t at0 rd0 hm_93 hk hi ht h0 hv hal kk_152; exfalso; omega
      | succ n_93 ih_93 =>
        intro k i t at0 rd0 hm_93 hk hi ht h0 hv hal kk_152
        refine g_iload_n F (pc' := 94) dX5_faultOf_93 rfl rfl ?_
        refine g_iconst F (pc' := 95) dX5_faultOf_94 rfl ?_
        refine g_icmp_ge F (pc' := 98) (tgt := 152) dX5_faultOf_95 rfl (by decide) (by omega) (by decide) (fun c_95 => ?_) (fun c_95 => ?_)
        · skip
          have hkk : k = fg (M 3) (M 0 3) at0 := (fg_is hk hal (by first | (left; omega) | (right; rintro ⟨q1, q2⟩; first | (exfalso; omega) | exact c_115 (by rw [ht]; exact q2)))).symm
          subst hkk; subst ht
          refine g_lvw [some (.ref (a 0)), some (.int (iI (at0 + fg (M 3) (M 0 3) at0))), some (.int (iI i)), none] (lvw_of _ _ [true, true, true, false] rfl) ?_
          exact kk_152  (hv)
        · skip
          refine g_iload_n F (pc' := 99) dX5_faultOf_98 rfl rfl ?_
          refine g_aload_n F (pc' := 100) dX5_faultOf_99 rfl rfl ?_
          refine g_getI F K (k := 0) (fld := 3) (ci := 5) (z := M 0 3) (pc' := 103) iX5_faultOf_X5 rfl rfl rfl (by decide) (List.mem_of_getElem? (i := 1) rfl) dX5_faultOf_100 rfl (by first | rfl | simp [upf, sc]) ?_
          refine g_icmp_ge F (pc' := 106) (tgt := 152) dX5_faultOf_103 rfl (by decide) (by omega) (by omega) (fun c_103 => ?_) (fun c_103 => ?_)
          · skip
            have hkk : k = fg (M 3) (M 0 3) at0 := (fg_is hk hal (by first | (left; omega) | (right; rintro ⟨q1, q2⟩; first | (exfalso; omega) | exact c_115 (by rw [ht]; exact q2)))).symm
            subst hkk; subst ht
            refine g_lvw [some (.ref (a 0)), some (.int (iI (at0 + fg (M 3) (M 0 3) at0))), some (.int (iI i)), none] (lvw_of _ _ [true, true, true, false] rfl) ?_
            exact kk_152  (hv)
          · skip
            refine g_aload_n F (pc' := 107) dX5_faultOf_106 rfl rfl ?_
            refine g_getR F K (k := 0) (fld := 4) (ci := 5) (q := 3) (pc' := 110) iX5_faultOf_X5 rfl rfl rfl (by decide) (List.mem_of_getElem? (i := 2) rfl) dX5_faultOf_107 rfl ?_
            refine g_iload_n F (pc' := 111) dX5_faultOf_110 rfl rfl ?_
            refine g_iald F K (k := 3) (v := M 3 t) (pc' := 112) rfl (by decide) (by omega) dX5_faultOf_111 rfl (by first | rfl | simp [upf, sc]) ?_
            have b_111 := hP t
            refine g_callP F (pc' := 115) (st := []) (c5_isFigure l (M 3 t) (by omega)) (va_cwS 1 F.2.2.2.2 gX5_faultOf_X5_isFigure rfl rfl rfl (by decide +kernel) ⟨Nat.le_of_ble_eq_true rfl, Nat.le_of_ble_eq_true rfl⟩) rfl rfl (Nat.le_of_ble_eq_true rfl) dX5_faultOf_112 rfl ?_
            refine g_if_eq F (pc' := 118) (tgt := 152) dX5_faultOf_115 rfl (by decide) (zC_R _) (fun c_115 => ?_) (fun c_115 => ?_)
            · skip
              have c_115 := zC_0 c_115
              have hkk : k = fg (M 3) (M 0 3) at0 := (fg_is hk hal (by first | (left; omega) | (right; rintro ⟨q1, q2⟩; first | (exfalso; omega) | exact c_115 (by rw [ht]; exact q2)))).symm
              subst hkk; subst ht
              refine g_lvw [some (.ref (a 0)), some (.int (iI (at0 + fg (M 3) (M 0 3) at0))), some (.int (iI i)), none] (lvw_of _ _ [true, true, true, false] rfl) ?_
              exact kk_152  (hv)
            · skip
              have c_115 := zC_1 c_115
              refine g_aload_n F (pc' := 119) dX5_faultOf_118 rfl rfl ?_
              refine g_getR F K (k := 0) (fld := 5) (ci := 5) (q := 4) (pc' := 122) iX5_faultOf_X5 rfl rfl rfl (by decide) (List.mem_of_getElem? (i := 3) rfl) dX5_faultOf_119 rfl ?_
              refine g_iload_n F (pc' := 123) dX5_faultOf_122 rfl rfl ?_
              refine g_bipush F (pc' := 125) dX5_faultOf_123 rfl (by decide +kernel) ?_
              refine g_aload_n F (pc' := 126) dX5_faultOf_125 rfl rfl ?_
              refine g_getR F K (k := 0) (fld := 5) (ci := 5) (q := 4) (pc' := 129) iX5_faultOf_X5 rfl rfl rfl (by decide) (List.mem_of_getElem? (i := 3) rfl) dX5_faultOf_126 rfl ?_
              refine g_iload_n F (pc' := 130) dX5_faultOf_129 rfl rfl ?_
              refine g_iald F K (k := 4) (v := vI (M 3) at0 k) (pc' := 131) rfl (by decide) (by omega) dX5_faultOf_130 rfl (by first | rfl | exact upf_s _ _ _ | simp [upf, sc]) ?_
              refine g_imul F (pc' := 132) dX5_faultOf_131 rfl ?_
              refine g_aload_n F (pc' := 133) dX5_faultOf_132 rfl rfl ?_
              refine g_getR F K (k := 0) (fld := 4) (ci := 5) (q := 3) (pc' := 136) iX5_faultOf_X5 rfl rfl rfl (by decide) (List.mem_of_getElem? (i := 2) rfl) dX5_faultOf_133 rfl ?_
              refine g_iload_n F (pc' := 137) dX5_faultOf_136 rfl rfl ?_
              refine g_iald F K (k := 3) (v := M 3 t) (pc' := 138) rfl (by decide) (by omega) dX5_faultOf_137 rfl (by first | rfl | simp [upf, sc]) ?_
              have b_137 := hP t
              refine g_iadd F (pc' := 139) dX5_faultOf_138 rfl ?_
              refine g_bipush F (pc' := 141) dX5_faultOf_139 rfl (by decide +kernel) ?_
              refine g_isub F (pc' := 142) dX5_faultOf_141 rfl ?_
              refine h_iast F K (k := 4) (pc' := 143) (sc M 4 (upf rd0 i (((10 * (vI (M 3) at0 k)) + (M 3 t)) - 48))) (mem_up (by first | exact (upf_w _ _ _ _).symm | funext i; simp only [upf, sc]; (repeat' split) <;> first | rfl | omega | simp_all) (by intro j hj; simp only [sc, if_neg hj])) rfl (by decide) (by omega) dX5_faultOf_142 rfl ?_
              refine g_iinc F (pc' := 146) (lv' := [some (.ref (a 0)), some (.int (iI (t + 1))), some (.int (iI i)), some (.int (iI k))]) dX5_faultOf_143 rfl rfl (by decide) rfl ?_
              refine g_iinc F (pc' := 149) (lv' := [some (.ref (a 0)), some (.int (iI (t + 1))), some (.int (iI i)), some (.int (iI (k + 1)))]) dX5_faultOf_146 rfl rfl (by decide) rfl ?_
              refine g_goto F (tgt := 93) dX5_faultOf_149 (by decide) ?_
              refine h_mem (sc M 4 (upf rd0 i (vI (M 3) at0 (k + 1)))) (by rw [vI_s hk.1, ← ht]) ?_
              exact ih_93 (k + 1) i (t + 1) at0 rd0 (by omega) (by omega) (by omega) (by omega) (by omega) (by first | (show 0 ≤ (0 : Int) ∧ (0 : Int) ≤ 1000; omega) | exact vI_R hk c_95 h0.1 hal c_115 ht) (by first | (intro j h1 h2; exfalso; omega) | exact isF_s hal ⟨by omega, by rw [← ht]; exact c_115⟩) kk_152
    refine h_iast F K (k := 4) (pc' := 53) (sc M 4 (upf (M 4) 0 (upz (M 3)))) (mem_up (by rfl) (by intro j hj; simp only [sc, if_neg hj])) rfl (by decide) (by decide) dX5_faultOf_52 rfl ?_
    refine g_iconst F (pc' := 54) dX5_faultOf_53 rfl ?_
    refine g_istore_n F (pc' := 55) (lv' := [some (.ref (a 0)), some (.int (iI 1)), none, none]) dX5_faultOf_54 rfl (by decide) rfl ?_
    refine g_iconst F (pc' := 56) dX5_faultOf_55 rfl ?_
    refine g_istore_n F (pc' := 57) (lv' := [some (.ref (a 0)), some (.int (iI 1)), some (.int (iI 1)), none]) dX5_faultOf_56 rfl (by decide) rfl ?_
    refine g_iload_n F (pc' := 58) dX5_faultOf_57 rfl rfl ?_
    refine g_iconst F (pc' := 59) dX5_faultOf_58 rfl ?_
    refine g_icmp_ge F (pc' := 62) (tgt := 197) dX5_faultOf_59 rfl (by decide) (by decide) (by decide) (fun c_59 => ?_) (fun c_59 => ?_)
    · skip
      exact absurd c_59 (by decide)
    · skip
      refine g_iload_n F (pc' := 63) dX5_faultOf_62 rfl rfl ?_
      refine g_aload_n F (pc' := 64) dX5_faultOf_63 rfl rfl ?_
      refine g_getI F K (k := 0) (fld := 3) (ci := 5) (z := M 0 3) (pc' := 67) iX5_faultOf_X5 rfl rfl rfl (by decide) (List.mem_of_getElem? (i := 1) rfl) dX5_faultOf_64 rfl (by first | rfl | simp [upf, sc]) ?_
      refine g_icmp_eq F (pc' := 70) (tgt := 82) dX5_faultOf_67 rfl (by decide) (by decide) (by omega) (fun c_67 => ?_) (fun c_67 => ?_)
      · skip
        have hnf : fg (M 3) (M 0 3) 1 = 0 := fg_0 (by rintro ⟨q1, q2⟩; first | (exfalso; omega) | exact c_79 q2)
        refine g_iload_n F (pc' := 83) dX5_faultOf_82 rfl rfl ?_
        exact g_iret F hr hlk dX5_faultOf_83 (by first | exact ⟨_, rfl, (fl_1 hst hnf).symm, fun q => absurd q (by omega)⟩ | exact ⟨_, rfl, (fl_3 hst hf1 hs1 hnf).symm, fun q => absurd q (by omega)⟩ | exact ⟨_, rfl, (fl_5 hst hf1 hs1 hf2 hs2 hnf).symm, fun q => absurd q (by omega)⟩)
      · skip
        refine g_aload_n F (pc' := 71) dX5_faultOf_70 rfl rfl ?_
        refine g_getR F K (k := 0) (fld := 4) (ci := 5) (q := 3) (pc' := 74) iX5_faultOf_X5 rfl rfl rfl (by decide) (List.mem_of_getElem? (i := 2) rfl) dX5_faultOf_71 rfl ?_
        refine g_iload_n F (pc' := 75) dX5_faultOf_74 rfl rfl ?_
        refine g_iald F K (k := 3) (v := M 3 1) (pc' := 76) rfl (by decide) (by decide) dX5_faultOf_75 rfl (by first | rfl | simp [upf, sc]) ?_
        have b_75 := hP 1
        refine g_callP F (pc' := 79) (st := []) (c5_isFigure l (M 3 1) (by omega)) (va_cwS 1 F.2.2.2.2 gX5_faultOf_X5_isFigure rfl rfl rfl (by decide +kernel) ⟨Nat.le_of_ble_eq_true rfl, Nat.le_of_ble_eq_true rfl⟩) rfl rfl (Nat.le_of_ble_eq_true rfl) dX5_faultOf_76 rfl ?_
        refine g_if_ne F (pc' := 82) (tgt := 84) dX5_faultOf_79 rfl (by decide) (zC_R _) (fun c_79 => ?_) (fun c_79 => ?_)
        · skip
          have c_79 := zC_1 c_79
          have hf1 : fg (M 3) (M 0 3) 1 ≠ 0 := fg_p ⟨by omega, c_79⟩
          have hr1 := fg_R (M 3) (M 0 3) 1
          have hg1 := fg_le (p := M 3) (n := M 0 3) (t := 1) (by omega)
          refine g_aload_n F (pc' := 85) dX5_faultOf_84 rfl rfl ?_
          refine g_getR F K (k := 0) (fld := 5) (ci := 5) (q := 4) (pc' := 88) iX5_faultOf_X5 rfl rfl rfl (by decide) (List.mem_of_getElem? (i := 3) rfl) dX5_faultOf_85 rfl ?_
          refine g_iload_n F (pc' := 89) dX5_faultOf_88 rfl rfl ?_
          refine g_iconst F (pc' := 90) dX5_faultOf_89 rfl ?_
          refine h_iast F K (k := 4) (pc' := 91) (sc M 4 (upf (upf (M 4) 0 (upz (M 3))) 1 0)) (mem_up (by rfl) (by intro j hj; simp only [sc, if_neg hj])) rfl (by decide) (by decide) dX5_faultOf_90 rfl ?_
          refine g_iconst F (pc' := 92) dX5_faultOf_91 rfl ?_
          refine g_istore_n F (pc' := 93) (lv' := [some (.ref (a 0)), some (.int (iI 1)), some (.int (iI 1)), some (.int (iI 0))]) dX5_faultOf_92 rfl (by decide) rfl ?_
          refine h_mem (sc M 4 (upf (upf (M 4) 0 (upz (M 3))) 1 (vI (M 3) 1 0))) rfl ?_
          refine lp_93 ((3 - 0 : Int).toNat + 1) 0 1 1 1 (upf (M 4) 0 (upz (M 3))) (by omega) (by omega) (by omega) (by omega) (by omega) (by first | (show 0 ≤ (0 : Int) ∧ (0 : Int) ≤ 1000; omega) | exact vI_R hk c_95 h0.1 hal c_115 ht) (by first | (intro j h1 h2; exfalso; omega) | exact isF_s hal ⟨by omega, by rw [← ht]; exact c_115⟩) (fun hx_152 => ?_)
          refine g_iload_n F (pc' := 153) dX5_faultOf_152 rfl rfl ?_
          refine g_iconst F (pc' := 154) dX5_faultOf_153 rfl ?_
          refine g_icmp_ge F (pc' := 157) (tgt := 191) dX5_faultOf_154 rfl (by decide) (by decide) (by decide) (fun c_154 => ?_) (fun c_154 => ?_)
          · skip
            exact absurd c_154 (by decide)
          · skip
            refine g_iload_n F (pc' := 158) dX5_faultOf_157 rfl rfl ?_
            refine g_aload_n F (pc' := 159) dX5_faultOf_158 rfl rfl ?_
            refine g_getI F K (k := 0) (fld := 3) (ci := 5) (z := M 0 3) (pc' := 162) iX5_faultOf_X5 rfl rfl rfl (by decide) (List.mem_of_getElem? (i := 1) rfl) dX5_faultOf_159 rfl (by first | rfl | simp [upf, sc]) ?_
            refine g_icmp_eq F (pc' := 165) (tgt := 186) dX5_faultOf_162 rfl (by decide) (by omega) (by omega) (fun c_162 => ?_) (fun c_162 => ?_)
            · skip
              have hns : ¬ (1 + fg (M 3) (M 0 3) 1 < M 0 3 ∧ M 3 (1 + fg (M 3) (M 0 3) 1) = 44) := by rintro ⟨q1, q2⟩; omega
              refine g_iload_n F (pc' := 187) dX5_faultOf_186 rfl rfl ?_
              exact g_iret F hr hlk dX5_faultOf_187 (by first | exact ⟨_, rfl, (fl_2 hst hf1 hns).symm, fun q => absurd q (by omega)⟩ | exact ⟨_, rfl, (fl_4 hst hf1 hs1 hf2 hns).symm, fun q => absurd q (by omega)⟩)
            · skip
              refine g_aload_n F (pc' := 166) dX5_faultOf_165 rfl rfl ?_
              refine g_getR F K (k := 0) (fld := 4) (ci := 5) (q := 3) (pc' := 169) iX5_faultOf_X5 rfl rfl rfl (by decide) (List.mem_of_getElem? (i := 2) rfl) dX5_faultOf_166 rfl ?_
              refine g_iload_n F (pc' := 170) dX5_faultOf_169 rfl rfl ?_
              refine g_iald F K (k := 3) (v := M 3 (1 + fg (M 3) (M 0 3) 1)) (pc' := 171) rfl (by decide) (by omega) dX5_faultOf_170 rfl (by first | rfl | simp [upf, sc]) ?_
              have b_170 := hP (1 + fg (M 3) (M 0 3) 1)
              refine g_iload_n F (pc' := 172) dX5_faultOf_171 rfl rfl ?_
              refine g_iconst F (pc' := 173) dX5_faultOf_172 rfl ?_
              refine g_icmp_ne F (pc' := 176) (tgt := 181) dX5_faultOf_173 rfl (by decide) (by decide) (by decide) (fun c_173 => ?_) (fun c_173 => ?_)
              · skip
                exact absurd c_173 (by decide)
              · skip
                refine g_bipush F (pc' := 178) dX5_faultOf_176 rfl (by decide +kernel) ?_
                refine g_goto F (tgt := 183) dX5_faultOf_178 (by decide) ?_
                refine g_icmp_eq F (pc' := 186) (tgt := 188) dX5_faultOf_183 rfl (by decide) (by omega) (by decide) (fun c_183 => ?_) (fun c_183 => ?_)
                · skip
                  have hs1 : 1 + fg (M 3) (M 0 3) 1 < M 0 3 ∧ M 3 (1 + fg (M 3) (M 0 3) 1) = 44 := by omega
                  refine g_iinc F (pc' := 191) (lv' := [some (.ref (a 0)), some (.int (iI (1 + fg (M 3) (M 0 3) 1 + 1))), some (.int (iI 1)), none]) dX5_faultOf_188 rfl rfl (by decide) rfl ?_
                  refine g_iinc F (pc' := 194) (lv' := [some (.ref (a 0)), some (.int (iI (1 + fg (M 3) (M 0 3) 1 + 1))), some (.int (iI 2)), none]) dX5_faultOf_191 rfl rfl (by decide) rfl ?_
                  refine g_goto F (tgt := 57) dX5_faultOf_194 (by decide) ?_
                  refine g_iload_n F (pc' := 58) dX5_faultOf_57 rfl rfl ?_
                  refine g_iconst F (pc' := 59) dX5_faultOf_58 rfl ?_
                  refine g_icmp_ge F (pc' := 62) (tgt := 197) dX5_faultOf_59 rfl (by decide) (by decide) (by decide) (fun c_59 => ?_) (fun c_59 => ?_)
                  · skip
                    exact absurd c_59 (by decide)
                  · skip
                    refine g_iload_n F (pc' := 63) dX5_faultOf_62 rfl rfl ?_
                    refine g_aload_n F (pc' := 64) dX5_faultOf_63 rfl rfl ?_
                    refine g_getI F K (k := 0) (fld := 3) (ci := 5) (z := M 0 3) (pc' := 67) iX5_faultOf_X5 rfl rfl rfl (by decide) (List.mem_of_getElem? (i := 1) rfl) dX5_faultOf_64 rfl (by first | rfl | simp [upf, sc]) ?_
                    refine g_icmp_eq F (pc' := 70) (tgt := 82) dX5_faultOf_67 rfl (by decide) (by omega) (by omega) (fun c_67 => ?_) (fun c_67 => ?_)
                    · skip
                      have hnf : fg (M 3) (M 0 3) (1 + fg (M 3) (M 0 3) 1 + 1) = 0 := fg_0 (by rintro ⟨q1, q2⟩; first | (exfalso; omega) | exact c_79 q2)
                      refine g_iload_n F (pc' := 83) dX5_faultOf_82 rfl rfl ?_
                      exact g_iret F hr hlk dX5_faultOf_83 (by first | exact ⟨_, rfl, (fl_1 hst hnf).symm, fun q => absurd q (by omega)⟩ | exact ⟨_, rfl, (fl_3 hst hf1 hs1 hnf).symm, fun q => absurd q (by omega)⟩ | exact ⟨_, rfl, (fl_5 hst hf1 hs1 hf2 hs2 hnf).symm, fun q => absurd q (by omega)⟩)
                    · skip
                      refine g_aload_n F (pc' := 71) dX5_faultOf_70 rfl rfl ?_
                      refine g_getR F K (k := 0) (fld := 4) (ci := 5) (q := 3) (pc' := 74) iX5_faultOf_X5 rfl rfl rfl (by decide) (List.mem_of_getElem? (i := 2) rfl) dX5_faultOf_71 rfl ?_
                      refine g_iload_n F (pc' := 75) dX5_faultOf_74 rfl rfl ?_
                      refine g_iald F K (k := 3) (v := M 3 (1 + fg (M 3) (M 0 3) 1 + 1)) (pc' := 76) rfl (by decide) (by omega) dX5_faultOf_75 rfl (by first | rfl | simp [upf, sc]) ?_
                      have b_75 := hP (1 + fg (M 3) (M 0 3) 1 + 1)
                      refine g_callP F (pc' := 79) (st := []) (c5_isFigure l (M 3 (1 + fg (M 3) (M 0 3) 1 + 1)) (by omega)) (va_cwS 1 F.2.2.2.2 gX5_faultOf_X5_isFigure rfl rfl rfl (by decide +kernel) ⟨Nat.le_of_ble_eq_true rfl, Nat.le_of_ble_eq_true rfl⟩) rfl rfl (Nat.le_of_ble_eq_true rfl) dX5_faultOf_76 rfl ?_
                      refine g_if_ne F (pc' := 82) (tgt := 84) dX5_faultOf_79 rfl (by decide) (zC_R _) (fun c_79 => ?_) (fun c_79 => ?_)
                      · skip
                        have c_79 := zC_1 c_79
                        have hf2 : fg (M 3) (M 0 3) (1 + fg (M 3) (M 0 3) 1 + 1) ≠ 0 := fg_p ⟨by omega, c_79⟩
                        have hr2 := fg_R (M 3) (M 0 3) (1 + fg (M 3) (M 0 3) 1 + 1)
                        have hg2 := fg_le (p := M 3) (n := M 0 3) (t := (1 + fg (M 3) (M 0 3) 1 + 1)) (by omega)
                        refine g_aload_n F (pc' := 85) dX5_faultOf_84 rfl rfl ?_
                        refine g_getR F K (k := 0) (fld := 5) (ci := 5) (q := 4) (pc' := 88) iX5_faultOf_X5 rfl rfl rfl (by decide) (List.mem_of_getElem? (i := 3) rfl) dX5_faultOf_85 rfl ?_
                        refine g_iload_n F (pc' := 89) dX5_faultOf_88 rfl rfl ?_
                        refine g_iconst F (pc' := 90) dX5_faultOf_89 rfl ?_
                        refine h_iast F K (k := 4) (pc' := 91) (sc M 4 (upf (upf (upf (M 4) 0 (upz (M 3))) 1 (vI (M 3) 1 (fg (M 3) (M 0 3) 1))) 2 0)) (mem_up (by rfl) (by intro j hj; simp only [sc, if_neg hj])) rfl (by decide) (by decide) dX5_faultOf_90 rfl ?_
                        refine g_iconst F (pc' := 92) dX5_faultOf_91 rfl ?_
                        refine g_istore_n F (pc' := 93) (lv' := [some (.ref (a 0)), some (.int (iI (1 + fg (M 3) (M 0 3) 1 + 1))), some (.int (iI 2)), some (.int (iI 0))]) dX5_faultOf_92 rfl (by decide) rfl ?_
                        refine h_mem (sc M 4 (upf (upf (upf (M 4) 0 (upz (M 3))) 1 (vI (M 3) 1 (fg (M 3) (M 0 3) 1))) 2 (vI (M 3) (1 + fg (M 3) (M 0 3) 1 + 1) 0))) rfl ?_
                        refine lp_93 ((3 - 0 : Int).toNat + 1) 0 2 (1 + fg (M 3) (M 0 3) 1 + 1) (1 + fg (M 3) (M 0 3) 1 + 1) (upf (upf (M 4) 0 (upz (M 3))) 1 (vI (M 3) 1 (fg (M 3) (M 0 3) 1))) (by omega) (by omega) (by omega) (by omega) (by omega) (by first | (show 0 ≤ (0 : Int) ∧ (0 : Int) ≤ 1000; omega) | exact vI_R hk c_95 h0.1 hal c_115 ht) (by first | (intro j h1 h2; exfalso; omega) | exact isF_s hal ⟨by omega, by rw [← ht]; exact c_115⟩) (fun hx_152_1 => ?_)
                        refine g_iload_n F (pc' := 153) dX5_faultOf_152 rfl rfl ?_
                        refine g_iconst F (pc' := 154) dX5_faultOf_153 rfl ?_
                        refine g_icmp_ge F (pc' := 157) (tgt := 191) dX5_faultOf_154 rfl (by decide) (by decide) (by decide) (fun c_154 => ?_) (fun c_154 => ?_)
                        · skip
                          exact absurd c_154 (by decide)
                        · skip
                          refine g_iload_n F (pc' := 158) dX5_faultOf_157 rfl rfl ?_
                          refine g_aload_n F (pc' := 159) dX5_faultOf_158 rfl rfl ?_
                          refine g_getI F K (k := 0) (fld := 3) (ci := 5) (z := M 0 3) (pc' := 162) iX5_faultOf_X5 rfl rfl rfl (by decide) (List.mem_of_getElem? (i := 1) rfl) dX5_faultOf_159 rfl (by first | rfl | simp [upf, sc]) ?_
                          refine g_icmp_eq F (pc' := 165) (tgt := 186) dX5_faultOf_162 rfl (by decide) (by omega) (by omega) (fun c_162 => ?_) (fun c_162 => ?_)
                          · skip
                            have hns : ¬ ((1 + fg (M 3) (M 0 3) 1 + 1) + fg (M 3) (M 0 3) (1 + fg (M 3) (M 0 3) 1 + 1) < M 0 3 ∧ M 3 ((1 + fg (M 3) (M 0 3) 1 + 1) + fg (M 3) (M 0 3) (1 + fg (M 3) (M 0 3) 1 + 1)) = 45) := by rintro ⟨q1, q2⟩; omega
                            refine g_iload_n F (pc' := 187) dX5_faultOf_186 rfl rfl ?_
                            exact g_iret F hr hlk dX5_faultOf_187 (by first | exact ⟨_, rfl, (fl_2 hst hf1 hns).symm, fun q => absurd q (by omega)⟩ | exact ⟨_, rfl, (fl_4 hst hf1 hs1 hf2 hns).symm, fun q => absurd q (by omega)⟩)
                          · skip
                            refine g_aload_n F (pc' := 166) dX5_faultOf_165 rfl rfl ?_
                            refine g_getR F K (k := 0) (fld := 4) (ci := 5) (q := 3) (pc' := 169) iX5_faultOf_X5 rfl rfl rfl (by decide) (List.mem_of_getElem? (i := 2) rfl) dX5_faultOf_166 rfl ?_
                            refine g_iload_n F (pc' := 170) dX5_faultOf_169 rfl rfl ?_
                            refine g_iald F K (k := 3) (v := M 3 ((1 + fg (M 3) (M 0 3) 1 + 1) + fg (M 3) (M 0 3) (1 + fg (M 3) (M 0 3) 1 + 1))) (pc' := 171) rfl (by decide) (by omega) dX5_faultOf_170 rfl (by first | rfl | simp [upf, sc]) ?_
                            have b_170 := hP ((1 + fg (M 3) (M 0 3) 1 + 1) + fg (M 3) (M 0 3) (1 + fg (M 3) (M 0 3) 1 + 1))
                            refine g_iload_n F (pc' := 172) dX5_faultOf_171 rfl rfl ?_
                            refine g_iconst F (pc' := 173) dX5_faultOf_172 rfl ?_
                            refine g_icmp_ne F (pc' := 176) (tgt := 181) dX5_faultOf_173 rfl (by decide) (by decide) (by decide) (fun c_173 => ?_) (fun c_173 => ?_)
                            · skip
                              refine g_bipush F (pc' := 183) dX5_faultOf_181 rfl (by decide +kernel) ?_
                              refine g_icmp_eq F (pc' := 186) (tgt := 188) dX5_faultOf_183 rfl (by decide) (by omega) (by decide) (fun c_183 => ?_) (fun c_183 => ?_)
                              · skip
                                have hs2 : (1 + fg (M 3) (M 0 3) 1 + 1) + fg (M 3) (M 0 3) (1 + fg (M 3) (M 0 3) 1 + 1) < M 0 3 ∧ M 3 ((1 + fg (M 3) (M 0 3) 1 + 1) + fg (M 3) (M 0 3) (1 + fg (M 3) (M 0 3) 1 + 1)) = 45 := by omega
                                refine g_iinc F (pc' := 191) (lv' := [some (.ref (a 0)), some (.int (iI ((1 + fg (M 3) (M 0 3) 1 + 1) + fg (M 3) (M 0 3) (1 + fg (M 3) (M 0 3) 1 + 1) + 1))), some (.int (iI 2)), none]) dX5_faultOf_188 rfl rfl (by decide) rfl ?_
                                refine g_iinc F (pc' := 194) (lv' := [some (.ref (a 0)), some (.int (iI ((1 + fg (M 3) (M 0 3) 1 + 1) + fg (M 3) (M 0 3) (1 + fg (M 3) (M 0 3) 1 + 1) + 1))), some (.int (iI 3)), none]) dX5_faultOf_191 rfl rfl (by decide) rfl ?_
                                refine g_goto F (tgt := 57) dX5_faultOf_194 (by decide) ?_
                                refine g_iload_n F (pc' := 58) dX5_faultOf_57 rfl rfl ?_
                                refine g_iconst F (pc' := 59) dX5_faultOf_58 rfl ?_
                                refine g_icmp_ge F (pc' := 62) (tgt := 197) dX5_faultOf_59 rfl (by decide) (by decide) (by decide) (fun c_59 => ?_) (fun c_59 => ?_)
                                · skip
                                  exact absurd c_59 (by decide)
                                · skip
                                  refine g_iload_n F (pc' := 63) dX5_faultOf_62 rfl rfl ?_
                                  refine g_aload_n F (pc' := 64) dX5_faultOf_63 rfl rfl ?_
                                  refine g_getI F K (k := 0) (fld := 3) (ci := 5) (z := M 0 3) (pc' := 67) iX5_faultOf_X5 rfl rfl rfl (by decide) (List.mem_of_getElem? (i := 1) rfl) dX5_faultOf_64 rfl (by first | rfl | simp [upf, sc]) ?_
                                  refine g_icmp_eq F (pc' := 70) (tgt := 82) dX5_faultOf_67 rfl (by decide) (by omega) (by omega) (fun c_67 => ?_) (fun c_67 => ?_)
                                  · skip
                                    have hnf : fg (M 3) (M 0 3) ((1 + fg (M 3) (M 0 3) 1 + 1) + fg (M 3) (M 0 3) (1 + fg (M 3) (M 0 3) 1 + 1) + 1) = 0 := fg_0 (by rintro ⟨q1, q2⟩; first | (exfalso; omega) | exact c_79 q2)
                                    refine g_iload_n F (pc' := 83) dX5_faultOf_82 rfl rfl ?_
                                    exact g_iret F hr hlk dX5_faultOf_83 (by first | exact ⟨_, rfl, (fl_1 hst hnf).symm, fun q => absurd q (by omega)⟩ | exact ⟨_, rfl, (fl_3 hst hf1 hs1 hnf).symm, fun q => absurd q (by omega)⟩ | exact ⟨_, rfl, (fl_5 hst hf1 hs1 hf2 hs2 hnf).symm, fun q => absurd q (by omega)⟩)
                                  · skip
                                    refine g_aload_n F (pc' := 71) dX5_faultOf_70 rfl rfl ?_
                                    refine g_getR F K (k := 0) (fld := 4) (ci := 5) (q := 3) (pc' := 74) iX5_faultOf_X5 rfl rfl rfl (by decide) (List.mem_of_getElem? (i := 2) rfl) dX5_faultOf_71 rfl ?_
                                    refine g_iload_n F (pc' := 75) dX5_faultOf_74 rfl rfl ?_
                                    refine g_iald F K (k := 3) (v := M 3 ((1 + fg (M 3) (M 0 3) 1 + 1) + fg (M 3) (M 0 3) (1 + fg (M 3) (M 0 3) 1 + 1) + 1)) (pc' := 76) rfl (by decide) (by omega) dX5_faultOf_75 rfl (by first | rfl | simp [upf, sc]) ?_
                                    have b_75 := hP ((1 + fg (M 3) (M 0 3) 1 + 1) + fg (M 3) (M 0 3) (1 + fg (M 3) (M 0 3) 1 + 1) + 1)
                                    refine g_callP F (pc' := 79) (st := []) (c5_isFigure l (M 3 ((1 + fg (M 3) (M 0 3) 1 + 1) + fg (M 3) (M 0 3) (1 + fg (M 3) (M 0 3) 1 + 1) + 1)) (by omega)) (va_cwS 1 F.2.2.2.2 gX5_faultOf_X5_isFigure rfl rfl rfl (by decide +kernel) ⟨Nat.le_of_ble_eq_true rfl, Nat.le_of_ble_eq_true rfl⟩) rfl rfl (Nat.le_of_ble_eq_true rfl) dX5_faultOf_76 rfl ?_
                                    refine g_if_ne F (pc' := 82) (tgt := 84) dX5_faultOf_79 rfl (by decide) (zC_R _) (fun c_79 => ?_) (fun c_79 => ?_)
                                    · skip
                                      have c_79 := zC_1 c_79
                                      have hf3 : fg (M 3) (M 0 3) ((1 + fg (M 3) (M 0 3) 1 + 1) + fg (M 3) (M 0 3) (1 + fg (M 3) (M 0 3) 1 + 1) + 1) ≠ 0 := fg_p ⟨by omega, c_79⟩
                                      have hr3 := fg_R (M 3) (M 0 3) ((1 + fg (M 3) (M 0 3) 1 + 1) + fg (M 3) (M 0 3) (1 + fg (M 3) (M 0 3) 1 + 1) + 1)
                                      have hg3 := fg_le (p := M 3) (n := M 0 3) (t := ((1 + fg (M 3) (M 0 3) 1 + 1) + fg (M 3) (M 0 3) (1 + fg (M 3) (M 0 3) 1 + 1) + 1)) (by omega)
                                      refine g_aload_n F (pc' := 85) dX5_faultOf_84 rfl rfl ?_
                                      refine g_getR F K (k := 0) (fld := 5) (ci := 5) (q := 4) (pc' := 88) iX5_faultOf_X5 rfl rfl rfl (by decide) (List.mem_of_getElem? (i := 3) rfl) dX5_faultOf_85 rfl ?_
                                      refine g_iload_n F (pc' := 89) dX5_faultOf_88 rfl rfl ?_
                                      refine g_iconst F (pc' := 90) dX5_faultOf_89 rfl ?_
                                      refine h_iast F K (k := 4) (pc' := 91) (sc M 4 (upf (upf (upf (upf (M 4) 0 (upz (M 3))) 1 (vI (M 3) 1 (fg (M 3) (M 0 3) 1))) 2 (vI (M 3) (1 + fg (M 3) (M 0 3) 1 + 1) (fg (M 3) (M 0 3) (1 + fg (M 3) (M 0 3) 1 + 1)))) 3 0)) (mem_up (by rfl) (by intro j hj; simp only [sc, if_neg hj])) rfl (by decide) (by decide) dX5_faultOf_90 rfl ?_
                                      refine g_iconst F (pc' := 92) dX5_faultOf_91 rfl ?_
                                      refine g_istore_n F (pc' := 93) (lv' := [some (.ref (a 0)), some (.int (iI ((1 + fg (M 3) (M 0 3) 1 + 1) + fg (M 3) (M 0 3) (1 + fg (M 3) (M 0 3) 1 + 1) + 1))), some (.int (iI 3)), some (.int (iI 0))]) dX5_faultOf_92 rfl (by decide) rfl ?_
                                      refine h_mem (sc M 4 (upf (upf (upf (upf (M 4) 0 (upz (M 3))) 1 (vI (M 3) 1 (fg (M 3) (M 0 3) 1))) 2 (vI (M 3) (1 + fg (M 3) (M 0 3) 1 + 1) (fg (M 3) (M 0 3) (1 + fg (M 3) (M 0 3) 1 + 1)))) 3 (vI (M 3) ((1 + fg (M 3) (M 0 3) 1 + 1) + fg (M 3) (M 0 3) (1 + fg (M 3) (M 0 3) 1 + 1) + 1) 0))) rfl ?_
                                      refine lp_93 ((3 - 0 : Int).toNat + 1) 0 3 ((1 + fg (M 3) (M 0 3) 1 + 1) + fg (M 3) (M 0 3) (1 + fg (M 3) (M 0 3) 1 + 1) + 1) ((1 + fg (M 3) (M 0 3) 1 + 1) + fg (M 3) (M 0 3) (1 + fg (M 3) (M 0 3) 1 + 1) + 1) (upf (upf (upf (M 4) 0 (upz (M 3))) 1 (vI (M 3) 1 (fg (M 3) (M 0 3) 1))) 2 (vI (M 3) (1 + fg (M 3) (M 0 3) 1 + 1) (fg (M 3) (M 0 3) (1 + fg (M 3) (M 0 3) 1 + 1)))) (by omega) (by omega) (by omega) (by omega) (by omega) (by first | (show 0 ≤ (0 : Int) ∧ (0 : Int) ≤ 1000; omega) | exact vI_R hk c_95 h0.1 hal c_115 ht) (by first | (intro j h1 h2; exfalso; omega) | exact isF_s hal ⟨by omega, by rw [← ht]; exact c_115⟩) (fun hx_152_2 => ?_)
                                      refine g_iload_n F (pc' := 153) dX5_faultOf_152 rfl rfl ?_
                                      refine g_iconst F (pc' := 154) dX5_faultOf_153 rfl ?_
                                      refine g_icmp_ge F (pc' := 157) (tgt := 191) dX5_faultOf_154 rfl (by decide) (by decide) (by decide) (fun c_154 => ?_) (fun c_154 => ?_)
                                      · skip
                                        refine g_iinc F (pc' := 194) (lv' := [some (.ref (a 0)), some (.int (iI (((1 + fg (M 3) (M 0 3) 1 + 1) + fg (M 3) (M 0 3) (1 + fg (M 3) (M 0 3) 1 + 1) + 1) + fg (M 3) (M 0 3) ((1 + fg (M 3) (M 0 3) 1 + 1) + fg (M 3) (M 0 3) (1 + fg (M 3) (M 0 3) 1 + 1) + 1)))), some (.int (iI 4)), none]) dX5_faultOf_191 rfl rfl (by decide) rfl ?_
                                        refine g_goto F (tgt := 57) dX5_faultOf_194 (by decide) ?_
                                        refine g_iload_n F (pc' := 58) dX5_faultOf_57 rfl rfl ?_
                                        refine g_iconst F (pc' := 59) dX5_faultOf_58 rfl ?_
                                        refine g_icmp_ge F (pc' := 62) (tgt := 197) dX5_faultOf_59 rfl (by decide) (by decide) (by decide) (fun c_59 => ?_) (fun c_59 => ?_)
                                        · skip
                                          refine g_iload_n F (pc' := 198) dX5_faultOf_197 rfl rfl ?_
                                          refine g_aload_n F (pc' := 199) dX5_faultOf_198 rfl rfl ?_
                                          refine g_getI F K (k := 0) (fld := 3) (ci := 5) (z := M 0 3) (pc' := 202) iX5_faultOf_X5 rfl rfl rfl (by decide) (List.mem_of_getElem? (i := 1) rfl) dX5_faultOf_199 rfl (by first | rfl | simp [upf, sc]) ?_
                                          refine g_icmp_ge F (pc' := 205) (tgt := 209) dX5_faultOf_202 rfl (by decide) (by omega) (by omega) (fun c_202 => ?_) (fun c_202 => ?_)
                                          · skip
                                            refine g_aload_n F (pc' := 210) dX5_faultOf_209 rfl rfl ?_
                                            refine g_getR F K (k := 0) (fld := 5) (ci := 5) (q := 4) (pc' := 213) iX5_faultOf_X5 rfl rfl rfl (by decide) (List.mem_of_getElem? (i := 3) rfl) dX5_faultOf_210 rfl ?_
                                            refine g_iconst F (pc' := 214) dX5_faultOf_213 rfl ?_
                                            refine g_iald F K (k := 4) (v := vI (M 3) (1 + fg (M 3) (M 0 3) 1 + 1) (fg (M 3) (M 0 3) (1 + fg (M 3) (M 0 3) 1 + 1))) (pc' := 215) rfl (by decide) (by decide) dX5_faultOf_214 rfl (by first | rfl | exact upf_s _ _ _ | simp [upf, sc]) ?_
                                            refine g_aload_n F (pc' := 216) dX5_faultOf_215 rfl rfl ?_
                                            refine g_getR F K (k := 0) (fld := 5) (ci := 5) (q := 4) (pc' := 219) iX5_faultOf_X5 rfl rfl rfl (by decide) (List.mem_of_getElem? (i := 3) rfl) dX5_faultOf_216 rfl ?_
                                            refine g_iconst F (pc' := 220) dX5_faultOf_219 rfl ?_
                                            refine g_iald F K (k := 4) (v := vI (M 3) ((1 + fg (M 3) (M 0 3) 1 + 1) + fg (M 3) (M 0 3) (1 + fg (M 3) (M 0 3) 1 + 1) + 1) (fg (M 3) (M 0 3) ((1 + fg (M 3) (M 0 3) 1 + 1) + fg (M 3) (M 0 3) (1 + fg (M 3) (M 0 3) 1 + 1) + 1))) (pc' := 221) rfl (by decide) (by decide) dX5_faultOf_220 rfl (by first | rfl | exact upf_s _ _ _ | simp [upf, sc]) ?_
                                            refine g_icmp_lt F (pc' := 224) (tgt := 231) dX5_faultOf_221 rfl (by decide) (by omega) (by omega) (fun c_221 => ?_) (fun c_221 => ?_)
                                            · skip
                                              refine g_bipush F (pc' := 233) dX5_faultOf_231 rfl (by decide +kernel) ?_
                                              exact g_iret F hr hlk dX5_faultOf_233 (by first | exact ⟨_, rfl, (fl_6 hst hf1 hs1 hf2 hs2 hf3 c_202).symm, fun q => absurd q (by omega)⟩ | exact ⟨_, rfl, (fl_8 hst hf1 hs1 hf2 hs2 hf3 (Int.not_lt.mpr c_202) c_221).symm, fun q => absurd q (by omega)⟩ | exact ⟨_, rfl, (fl_7 hst hf1 hs1 hf2 hs2 hf3 (Int.not_lt.mpr c_202) c_221).symm, fun _ => ⟨by first | rfl | simp [upf], by first | rfl | simp [upf, pv1], by first | rfl | simp [upf, pv2, pa2, pe1], by first | rfl | simp [upf, pv3, pa3, pe2, pa2, pe1]⟩⟩)
                                            · skip
                                              refine g_aload_n F (pc' := 225) dX5_faultOf_224 rfl rfl ?_
                                              refine g_getI F K (k := 0) (fld := 3) (ci := 5) (z := M 0 3) (pc' := 228) iX5_faultOf_X5 rfl rfl rfl (by decide) (List.mem_of_getElem? (i := 1) rfl) dX5_faultOf_225 rfl (by first | rfl | simp [upf, sc]) ?_
                                              refine g_goto F (tgt := 233) dX5_faultOf_228 (by decide) ?_
                                              exact g_iret F hr hlk dX5_faultOf_233 (by first | exact ⟨_, rfl, (fl_6 hst hf1 hs1 hf2 hs2 hf3 c_202).symm, fun q => absurd q (by omega)⟩ | exact ⟨_, rfl, (fl_8 hst hf1 hs1 hf2 hs2 hf3 (Int.not_lt.mpr c_202) c_221).symm, fun q => absurd q (by omega)⟩ | exact ⟨_, rfl, (fl_7 hst hf1 hs1 hf2 hs2 hf3 (Int.not_lt.mpr c_202) c_221).symm, fun _ => ⟨by first | rfl | simp [upf], by first | rfl | simp [upf, pv1], by first | rfl | simp [upf, pv2, pa2, pe1], by first | rfl | simp [upf, pv3, pa3, pe2, pa2, pe1]⟩⟩)
                                          · skip
                                            refine g_iload_n F (pc' := 206) dX5_faultOf_205 rfl rfl ?_
                                            refine g_goto F (tgt := 233) dX5_faultOf_206 (by decide) ?_
                                            exact g_iret F hr hlk dX5_faultOf_233 (by first | exact ⟨_, rfl, (fl_6 hst hf1 hs1 hf2 hs2 hf3 c_202).symm, fun q => absurd q (by omega)⟩ | exact ⟨_, rfl, (fl_8 hst hf1 hs1 hf2 hs2 hf3 (Int.not_lt.mpr c_202) c_221).symm, fun q => absurd q (by omega)⟩ | exact ⟨_, rfl, (fl_7 hst hf1 hs1 hf2 hs2 hf3 (Int.not_lt.mpr c_202) c_221).symm, fun _ => ⟨by first | rfl | simp [upf], by first | rfl | simp [upf, pv1], by first | rfl | simp [upf, pv2, pa2, pe1], by first | rfl | simp [upf, pv3, pa3, pe2, pa2, pe1]⟩⟩)
                                        · skip
                                          exact absurd c_59 (by decide)
                                      · skip
                                        exact absurd c_154 (by decide)
                                    · skip
                                      have c_79 := zC_0 c_79
                                      have hnf : fg (M 3) (M 0 3) ((1 + fg (M 3) (M 0 3) 1 + 1) + fg (M 3) (M 0 3) (1 + fg (M 3) (M 0 3) 1 + 1) + 1) = 0 := fg_0 (by rintro ⟨q1, q2⟩; first | (exfalso; omega) | exact c_79 q2)
                                      refine g_iload_n F (pc' := 83) dX5_faultOf_82 rfl rfl ?_
                                      exact g_iret F hr hlk dX5_faultOf_83 (by first | exact ⟨_, rfl, (fl_1 hst hnf).symm, fun q => absurd q (by omega)⟩ | exact ⟨_, rfl, (fl_3 hst hf1 hs1 hnf).symm, fun q => absurd q (by omega)⟩ | exact ⟨_, rfl, (fl_5 hst hf1 hs1 hf2 hs2 hnf).symm, fun q => absurd q (by omega)⟩)
                              · skip
                                have hns : ¬ ((1 + fg (M 3) (M 0 3) 1 + 1) + fg (M 3) (M 0 3) (1 + fg (M 3) (M 0 3) 1 + 1) < M 0 3 ∧ M 3 ((1 + fg (M 3) (M 0 3) 1 + 1) + fg (M 3) (M 0 3) (1 + fg (M 3) (M 0 3) 1 + 1)) = 45) := by rintro ⟨q1, q2⟩; omega
                                refine g_iload_n F (pc' := 187) dX5_faultOf_186 rfl rfl ?_
                                exact g_iret F hr hlk dX5_faultOf_187 (by first | exact ⟨_, rfl, (fl_2 hst hf1 hns).symm, fun q => absurd q (by omega)⟩ | exact ⟨_, rfl, (fl_4 hst hf1 hs1 hf2 hns).symm, fun q => absurd q (by omega)⟩)
                            · skip
                              exact absurd c_173 (by decide)
                      · skip
                        have c_79 := zC_0 c_79
                        have hnf : fg (M 3) (M 0 3) (1 + fg (M 3) (M 0 3) 1 + 1) = 0 := fg_0 (by rintro ⟨q1, q2⟩; first | (exfalso; omega) | exact c_79 q2)
                        refine g_iload_n F (pc' := 83) dX5_faultOf_82 rfl rfl ?_
                        exact g_iret F hr hlk dX5_faultOf_83 (by first | exact ⟨_, rfl, (fl_1 hst hnf).symm, fun q => absurd q (by omega)⟩ | exact ⟨_, rfl, (fl_3 hst hf1 hs1 hnf).symm, fun q => absurd q (by omega)⟩ | exact ⟨_, rfl, (fl_5 hst hf1 hs1 hf2 hs2 hnf).symm, fun q => absurd q (by omega)⟩)
                · skip
                  have hns : ¬ (1 + fg (M 3) (M 0 3) 1 < M 0 3 ∧ M 3 (1 + fg (M 3) (M 0 3) 1) = 44) := by rintro ⟨q1, q2⟩; omega
                  refine g_iload_n F (pc' := 187) dX5_faultOf_186 rfl rfl ?_
                  exact g_iret F hr hlk dX5_faultOf_187 (by first | exact ⟨_, rfl, (fl_2 hst hf1 hns).symm, fun q => absurd q (by omega)⟩ | exact ⟨_, rfl, (fl_4 hst hf1 hs1 hf2 hns).symm, fun q => absurd q (by omega)⟩)
        · skip
          have c_79 := zC_0 c_79
          have hnf : fg (M 3) (M 0 3) 1 = 0 := fg_0 (by rintro ⟨q1, q2⟩; first | (exfalso; omega) | exact c_79 q2)
          refine g_iload_n F (pc' := 83) dX5_faultOf_82 rfl rfl ?_
          exact g_iret F hr hlk dX5_faultOf_83 (by first | exact ⟨_, rfl, (fl_1 hst hnf).symm, fun q => absurd q (by omega)⟩ | exact ⟨_, rfl, (fl_3 hst hf1 hs1 hnf).symm, fun q => absurd q (by omega)⟩ | exact ⟨_, rfl, (fl_5 hst hf1 hs1 hf2 hs2 hnf).symm, fun q => absurd q (by omega)⟩)
  refine g_aload_n F (pc' := 1) dX5_faultOf_0 rfl rfl ?_
  refine g_getI F K (k := 0) (fld := 3) (ci := 5) (z := M 0 3) (pc' := 4) iX5_faultOf_X5 rfl rfl rfl (by decide) (List.mem_of_getElem? (i := 1) rfl) dX5_faultOf_1 rfl (by first | rfl | simp [upf, sc]) ?_
  refine g_if_eq F (pc' := 7) (tgt := 29) dX5_faultOf_4 rfl (by decide) (by omega) (fun c_4 => ?_) (fun c_4 => ?_)
  · skip
    refine g_iconst F (pc' := 30) dX5_faultOf_29 rfl ?_
    exact g_iret F hr hlk dX5_faultOf_30 (⟨M 4, (sc_id M 4).symm, (fl_0 (by unfold pst; omega)).symm, fun q => absurd q (by decide)⟩)
  · skip
    refine g_aload_n F (pc' := 8) dX5_faultOf_7 rfl rfl ?_
    refine g_getR F K (k := 0) (fld := 4) (ci := 5) (q := 3) (pc' := 11) iX5_faultOf_X5 rfl rfl rfl (by decide) (List.mem_of_getElem? (i := 2) rfl) dX5_faultOf_8 rfl ?_
    refine g_iconst F (pc' := 12) dX5_faultOf_11 rfl ?_
    refine g_iald F K (k := 3) (v := M 3 0) (pc' := 13) rfl (by decide) (by decide) dX5_faultOf_12 rfl (by first | rfl | simp [upf, sc]) ?_
    have b_12 := hP 0
    refine g_bipush F (pc' := 15) dX5_faultOf_13 rfl (by decide +kernel) ?_
    refine g_icmp_eq F (pc' := 18) (tgt := 31) dX5_faultOf_15 rfl (by decide) (by omega) (by decide) (fun c_15 => ?_) (fun c_15 => ?_)
    · skip
      refine g_aload_n F (pc' := 32) dX5_faultOf_31 rfl rfl ?_
      refine g_getR F K (k := 0) (fld := 5) (ci := 5) (q := 4) (pc' := 35) iX5_faultOf_X5 rfl rfl rfl (by decide) (List.mem_of_getElem? (i := 3) rfl) dX5_faultOf_32 rfl ?_
      refine g_iconst F (pc' := 36) dX5_faultOf_35 rfl ?_
      refine g_aload_n F (pc' := 37) dX5_faultOf_36 rfl rfl ?_
      refine g_getR F K (k := 0) (fld := 4) (ci := 5) (q := 3) (pc' := 40) iX5_faultOf_X5 rfl rfl rfl (by decide) (List.mem_of_getElem? (i := 2) rfl) dX5_faultOf_37 rfl ?_
      refine g_iconst F (pc' := 41) dX5_faultOf_40 rfl ?_
      refine g_iald F K (k := 3) (v := M 3 0) (pc' := 42) rfl (by decide) (by decide) dX5_faultOf_41 rfl (by first | rfl | simp [upf, sc]) ?_
      have b_41 := hP 0
      refine g_bipush F (pc' := 44) dX5_faultOf_42 rfl (by decide +kernel) ?_
      refine g_icmp_ne F (pc' := 47) (tgt := 51) dX5_faultOf_44 rfl (by decide) (by omega) (by decide) (fun c_44 => ?_) (fun c_44 => ?_)
      · skip
        refine g_iconst F (pc' := 52) dX5_faultOf_51 rfl ?_
        exact lp_52 0 (by unfold pst; omega) (by unfold upz; split <;> omega)
      · skip
        refine g_iconst F (pc' := 48) dX5_faultOf_47 rfl ?_
        refine g_goto F (tgt := 52) dX5_faultOf_48 (by decide) ?_
        exact lp_52 1 (by unfold pst; omega) (by unfold upz; split <;> omega)
    · skip
      refine g_aload_n F (pc' := 19) dX5_faultOf_18 rfl rfl ?_
      refine g_getR F K (k := 0) (fld := 4) (ci := 5) (q := 3) (pc' := 22) iX5_faultOf_X5 rfl rfl rfl (by decide) (List.mem_of_getElem? (i := 2) rfl) dX5_faultOf_19 rfl ?_
      refine g_iconst F (pc' := 23) dX5_faultOf_22 rfl ?_
      refine g_iald F K (k := 3) (v := M 3 0) (pc' := 24) rfl (by decide) (by decide) dX5_faultOf_23 rfl (by first | rfl | simp [upf, sc]) ?_
      have b_23 := hP 0
      refine g_bipush F (pc' := 26) dX5_faultOf_24 rfl (by decide +kernel) ?_
      refine g_icmp_eq F (pc' := 29) (tgt := 31) dX5_faultOf_26 rfl (by decide) (by omega) (by decide) (fun c_26 => ?_) (fun c_26 => ?_)
      · skip
        refine g_aload_n F (pc' := 32) dX5_faultOf_31 rfl rfl ?_
        refine g_getR F K (k := 0) (fld := 5) (ci := 5) (q := 4) (pc' := 35) iX5_faultOf_X5 rfl rfl rfl (by decide) (List.mem_of_getElem? (i := 3) rfl) dX5_faultOf_32 rfl ?_
        refine g_iconst F (pc' := 36) dX5_faultOf_35 rfl ?_
        refine g_aload_n F (pc' := 37) dX5_faultOf_36 rfl rfl ?_
        refine g_getR F K (k := 0) (fld := 4) (ci := 5) (q := 3) (pc' := 40) iX5_faultOf_X5 rfl rfl rfl (by decide) (List.mem_of_getElem? (i := 2) rfl) dX5_faultOf_37 rfl ?_
        refine g_iconst F (pc' := 41) dX5_faultOf_40 rfl ?_
        refine g_iald F K (k := 3) (v := M 3 0) (pc' := 42) rfl (by decide) (by decide) dX5_faultOf_41 rfl (by first | rfl | simp [upf, sc]) ?_
        have b_41 := hP 0
        refine g_bipush F (pc' := 44) dX5_faultOf_42 rfl (by decide +kernel) ?_
        refine g_icmp_ne F (pc' := 47) (tgt := 51) dX5_faultOf_44 rfl (by decide) (by omega) (by decide) (fun c_44 => ?_) (fun c_44 => ?_)
        · skip
          refine g_iconst F (pc' := 52) dX5_faultOf_51 rfl ?_
          exact lp_52 0 (by unfold pst; omega) (by unfold upz; split <;> omega)
        · skip
          refine g_iconst F (pc' := 48) dX5_faultOf_47 rfl ?_
          refine g_goto F (tgt := 52) dX5_faultOf_48 (by decide) ?_
          exact lp_52 1 (by unfold pst; omega) (by unfold upz; split <;> omega)
      · skip
        refine g_iconst F (pc' := 30) dX5_faultOf_29 rfl ?_
        exact g_iret F hr hlk dX5_faultOf_30 (⟨M 4, (sc_id M 4).symm, (fl_0 (by unfold pst; omega)).symm, fun q => absurd q (by decide)⟩)

theorem iX5_fault_X5 : ∀ w ∈ wsX50, w ∈ wsX5_fault := fun _ h => List.mem_cons_of_mem _ (List.mem_append_right _ h)
set_option maxHeartbeats 4000000 in
set_option maxRecDepth 100000 in
theorem c5_fault (l : Launch) (a : Nat → Nat) (M : Mem) (hn : 0 ≤ M 0 3 ∧ M 0 3 ≤ 30) (hP : ∀ j, 0 ≤ M 3 j ∧ M 3 j ≤ 126) : CtI XT l yX5_fault wsX5_fault ({ frames := 3, cells := 0, slots := 0, locals := 65 } : Room) LR a M [.ref (a 0)] (fun z M' => ∃ rd : Int → Int, M' = sc M 4 rd ∧ z = fl (M 3) (M 0 3)) := by
  refine CtI.of (y := yX5_fault) (cc := cX5_fault) (maxL := 1) (ret := (some .int)) (lv := [some (.ref (a 0))]) (by decide) rfl (Nat.le_of_ble_eq_true rfl) (lvOK_of _ _ ⟨rfl, rfl⟩) ?_
  intro p e s m below meth c D T F K X0 hr hlk
  have hXc := XT_c
  refine g_aload_n F (pc' := 1) dX5_fault_0 rfl rfl ?_
  refine g_callI F K hXc X0 (pc' := 4) (st := []) (c5_faultOf l a M hn hP) (cwV 0 F.2.2.2.2 gX5_fault_X5_faultOf rfl rfl rfl (by decide +kernel) ⟨Nat.le_of_ble_eq_true rfl, Nat.le_of_ble_eq_true rfl⟩) rfl rfl rfl rfl (Nat.le_of_ble_eq_true rfl) dX5_fault_1 rfl (fun z_1 M_1 q_1 => ?_)
  obtain ⟨rd_1, rfl, rfl, rq_1⟩ := q_1
  exact g_iret F hr hlk dX5_fault_4 (⟨_, rfl, rfl⟩)
