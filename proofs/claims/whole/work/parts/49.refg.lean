section TSW
variable {p : Program} {l : Launch} {e : Env} {R : Room} {s : State} {m : MethodId} {args : Array Value} {below : List Frame} {meth : Method} {c : Code} {Q : State → Prop}
variable {D : va_G} {A : Nat → Prop} {nL : Nat} {ws : va_W} {pc tgt : Nat} {lv : List (Option Value)} {st : List Value} {cc : ByteArray} {Ts : List Cond} {own : String}
theorem g_tswO (F : CallFix p m c cc nL s args Ts own) {dflt lo hi : Int} {offs : Array Int} {len : Nat} {x : Int} (hdg : decode cc pc = .ok (.tableswitch dflt lo hi offs, len)) (hx : -2147483648 ≤ x ∧ x < 2147483648) (h : x < lo ∨ hi < x) (ht : (pc : Int) + dflt = (tgt : Int)) (k : GG p l e R s m args below meth c Q D A nL ws tgt lv st) : GG p l e R s m args below meth c Q D A nL ws pc lv (.int (iI x) :: st) :=
  fun H locs ls hP hD hS hl => lv_tableOut F.1 F.2.1 hdg (by rw [iI_toInt hx]; exact h) ht (k H locs ls hP hD hS hl)
theorem g_tswI (F : CallFix p m c cc nL s args Ts own) {dflt lo hi : Int} {offs : Array Int} {len : Nat} {x off : Int} {i : Nat} (hdg : decode cc pc = .ok (.tableswitch dflt lo hi offs, len)) (hx : -2147483648 ≤ x ∧ x < 2147483648) (h : x = lo + i) (hi2 : lo + i ≤ hi) (ho : offs[i]? = some off) (ht : (pc : Int) + off = (tgt : Int)) (k : GG p l e R s m args below meth c Q D A nL ws tgt lv st) : GG p l e R s m args below meth c Q D A nL ws pc lv (.int (iI x) :: st) :=
  fun H locs ls hP hD hS hl => lv_tableIn F.1 F.2.1 hdg (by rw [iI_toInt hx]; omega) (by rw [iI_toInt hx]; omega) (by rw [iI_toInt hx, show (x - lo).toNat = i by omega]; exact ho) ht (k H locs ls hP hD hS hl)
end TSW
/-! ===== the reference: what is told ===== -/
def refOK (M : Mem) : Prop := (0 ≤ M 0 1 ∧ M 0 1 ≤ 16) ∧ (∀ j, 0 ≤ M 1 j ∧ M 1 j ≤ 999) ∧ (0 ≤ M 2 0 ∧ M 2 0 ≤ 99) ∧ (0 ≤ M 2 1 ∧ M 2 1 ≤ 9) ∧ (0 ≤ M 2 2 ∧ M 2 2 ≤ 9) ∧ (0 ≤ M 2 3 ∧ M 2 3 ≤ 3) ∧ (0 ≤ M 2 4 ∧ M 2 4 ≤ 3)
def keepR (M M' : Mem) : Prop := M' 0 1 = M 0 1 ∧ M' 0 3 = M 0 3 ∧ M' 1 = M 1 ∧ M' 2 = M 2 ∧ M' 3 = M 3 ∧ M' 17 = M 17 ∧ M' 18 = M 18
theorem keepR_0 (M : Mem) : keepR M M := ⟨rfl, rfl, rfl, rfl, rfl, rfl, rfl⟩
theorem keepR_l {M L : Mem} {ord : Int → Int} (h : L = laid M ord) : keepR M L := by
  subst h
  exact ⟨rfl, rfl, rfl, rfl, rfl, rfl, rfl⟩
theorem laid_b (M : Mem) (ord : Int → Int) : laid M ord 0 1 = M 0 1 := rfl
theorem laid_e (M : Mem) (ord : Int → Int) : laid M ord 1 = M 1 := rfl
def lOK (L : Mem) : Prop := (0 ≤ L 0 11 ∧ L 0 11 ≤ 8) ∧ (0 ≤ L 0 16 ∧ L 0 16 ≤ 8) ∧ (∀ j, 0 ≤ j → j < L 0 11 → (0 ≤ L 5 j ∧ L 5 j ≤ 999) ∧ (0 ≤ L 6 j ∧ L 6 j ≤ 999) ∧ L 5 j < L 6 j ∧ (0 ≤ L 9 j ∧ L 9 j < L 0 16)) ∧ (∀ i j, 0 ≤ i → i < j → j < L 0 11 → L 6 i < L 5 j) ∧ ∀ c, 0 ≤ c → c < L 0 16 → (1 ≤ L 11 c ∧ L 11 c ≤ 8) ∧ (1 ≤ L 12 c ∧ L 12 c ≤ 300) ∧ (0 ≤ L 13 c ∧ L 13 c ≤ 300 * L 11 c)
theorem sR_inv {M : Mem} (hm : 0 ≤ M 0 1) : sInv (canR M) (xR M) (M 0 1) (sR M) :=
  (siter_both (s0 := sR0 M) (t0 := ((0 : Int), M 5, M 6, M 7, M 8)) (canR_x M) hm rfl rfl 8).1
theorem laid_ok {M : Mem} {ord : Int → Int} (hR : refOK M) (ho : isOrd (sR M).1 (wS (sR M)) ord) : lOK (laid M ord) := by
  have hI := sR_inv hR.1.1
  have hn := sInv_n (canR_x M) (canR_g M) hR.1.1 hI
  have hw := sM_w hI
  have hb := sR_b hR.2.1 hR.1.2 hI
  have h0 := hI.1
  have hm := hR.1.2
  have hG : gInv (sR M).1 (wS (sR M)) ord (sR M).1 (gR (sM M (sR M)) ord) := giterI_inv (tol := M 2 0) ho hw rfl ⟨h0, Int.le_refl _⟩
  have e1 : laid M ord 0 11 = (sR M).1 := rfl
  have e2 : laid M ord 0 16 = (gR (sM M (sR M)) ord).1 := rfl
  obtain ⟨g1, g2, g3⟩ := hG
  refine ⟨by rw [e1]; omega, by rw [e2]; omega, fun j a b => ?_, fun i j a b c => hI.2.2 i j a b c, fun c a b => ?_⟩
  · rw [e1] at b
    have h3 := hb j a b
    have h4 := sInv_w (canR_x M) hI a b
    obtain ⟨t, t1, t2, rfl⟩ := ho.2.2 j a b
    exact ⟨h3.1, h3.2.1, h4, g3 t t1 t2⟩
  · rw [e2] at b
    have h3 := g2 c a b
    refine ⟨⟨h3.1.1, ?_⟩, h3.2.1, ?_, h3.2.2.2⟩
    · show (gR (sM M (sR M)) ord).2.2.1 c ≤ 8; omega
    · show 0 ≤ (gR (sM M (sR M)) ord).2.2.2.2 c; omega
def stemZ (L : Mem) (j w : Int) : Int := if 0 ≤ j ∧ j ≤ L 0 11 - 1 then (if w = 0 then L 5 j else if w = 1 then L 6 j else if w = 2 then L 7 j else if w = 3 then L 8 j else if w = 4 then L 9 j else -2) else -1
def kindZ (L : Mem) (k w : Int) : Int := if 0 ≤ k ∧ k ≤ L 0 16 - 1 then (if w = 0 then L 11 k else if w = 1 then L 12 k else if w = 2 then L 13 k / L 11 k else -2) else -1
def dotsZ (L : Mem) (k sz : Int) : Int := if 0 ≤ k ∧ k ≤ L 0 16 - 1 then (if 1 ≤ sz ∧ sz ≤ 60 then dz (L 13 k / L 11 k) sz (L 2 4) else -2) else -1
def growsN (f : Int → Int) (d : Int) : Nat → Int
  | 0 => -6
  | k + 1 => if d ≤ f (60 - k) then 60 - k else growsN f d k
def growsI (f : Int → Int) (d s : Int) : Int := growsN f d (61 - s).toNat
theorem growsI_t {f : Int → Int} {d s : Int} (h : s ≤ 60) (h2 : d ≤ f s) : growsI f d s = s := by
  unfold growsI
  rw [show (61 - s).toNat = (60 - s).toNat + 1 by omega]
  unfold growsN
  rw [show 60 - (((60 - s).toNat : Nat) : Int) = s by omega, if_pos h2]
theorem growsI_f {f : Int → Int} {d s : Int} (h : s ≤ 60) (h2 : f s < d) : growsI f d s = growsI f d (s + 1) := by
  unfold growsI
  rw [show (61 - s).toNat = (61 - (s + 1)).toNat + 1 by omega]
  show (if d ≤ f (60 - (((61 - (s + 1)).toNat : Nat) : Int)) then _ else _) = _
  rw [show 60 - (((61 - (s + 1)).toNat : Nat) : Int) = s by omega, if_neg (by omega)]
theorem growsI_e {f : Int → Int} {d s : Int} (h : 60 < s) : growsI f d s = -6 := by
  unfold growsI
  rw [show (61 - s).toNat = 0 by omega]; rfl
def growsZ (L : Mem) (k d : Int) : Int := if 0 ≤ k ∧ k ≤ L 0 16 - 1 then (if 1 ≤ d ∧ d ≤ 60 then growsI (fun t => dz (L 13 k / L 11 k) t (L 2 4)) d 1 else -2) else -1
theorem dz_R {a b sz bo : Int} (hb : 1 ≤ b ∧ b ≤ 8) (ha : 0 ≤ a ∧ a ≤ 300 * b) (hz : 1 ≤ sz ∧ sz ≤ 60) (h4 : 0 ≤ bo ∧ bo ≤ 3) : 1 ≤ dz (a / b) sz bo ∧ dz (a / b) sz bo ≤ 21 := by
  have q := div_R hb.1 ha
  have := mul_R q (show 0 ≤ sz ∧ sz ≤ 60 by omega)
  unfold dz
  omega
def toldZ (L : Mem) (u w : Int) : Int := if 0 ≤ u ∧ u ≤ L 0 1 - 1 then (if 0 ≤ w ∧ w ≤ 4 then (if w < 4 then L 1 ((4 * u) + w) else L 10 u) else -2) else -1
def countZ (L : Mem) (w : Int) : Int := if w = 0 then L 0 3 else if w = 1 then L 0 1 else if w = 2 then L 0 11 else if w = 3 then L 0 16 else if 4 ≤ w ∧ w ≤ 8 then L 2 (w - 4) else -2
def wL (L : Mem) (sz s : Int) : Int := dz (L 13 (L 9 s) / L 11 (L 9 s)) sz (L 2 4)
def whyQ (n : Int) (wd : Int → Int) (sz w z : Int) : Prop := ((∀ j, 0 ≤ j → j < n → lpp wd j + wd j ≤ sz) ∧ z = if w = 0 then 0 else -6) ∨ ∃ b, (0 ≤ b ∧ b < n) ∧ sz < lpp wd b + wd b ∧ (∀ j, 0 ≤ j → j < b → lpp wd j + wd j ≤ sz) ∧ z = if w = 1 then b else if sz < wd b then 1 else 2
theorem wL_R {L : Mem} (h : lOK L) (h4 : 0 ≤ L 2 4 ∧ L 2 4 ≤ 3) {sz s : Int} (hz : 1 ≤ sz ∧ sz ≤ 60) (h0 : 0 ≤ s) (h1 : s < L 0 11) : 1 ≤ wL L sz s ∧ wL L sz s ≤ 21 := by
  obtain ⟨-, -, hs, -, hc⟩ := h
  have a := (hs s h0 h1).2.2.2
  have b := hc (L 9 s) a.1 a.2
  exact dz_R b.1 b.2.2 hz h4
theorem lppR {w : Int → Int} {n : Int} (hw : ∀ s, 0 ≤ s → s < n → 1 ≤ w s ∧ w s ≤ 21) : ∀ i : Int, 0 ≤ i → i ≤ n → 0 ≤ lpp w i ∧ lpp w i ≤ 22 * i := by
  have h : ∀ k : Nat, (k : Int) ≤ n → 0 ≤ lpp w (k : Int) ∧ lpp w (k : Int) ≤ 22 * k := by
    intro k
    induction k with
    | zero => intro _; exact ⟨Int.le_refl _, Int.le_refl _⟩
    | succ k ih =>
      intro hk
      have a := ih (by omega)
      have b := hw (k : Int) (by omega) (by omega)
      have c := lpp_s (w := w) (i := (k : Int)) (by omega)
      rw [show (((k + 1 : Nat)) : Int) = (k : Int) + 1 by omega, c]
      omega
  intro i h0 h1
  have := h i.toNat (by omega)
  rw [show ((i.toNat : Nat) : Int) = i by omega] at this
  exact this
theorem lpL_R {L : Mem} (h : lOK L) (h4 : 0 ≤ L 2 4 ∧ L 2 4 ≤ 3) {sz : Int} (hz : 1 ≤ sz ∧ sz ≤ 60) : ∀ i : Int, 0 ≤ i → i ≤ L 0 11 → 0 ≤ lpp (wL L sz) i ∧ lpp (wL L sz) i ≤ 22 * i :=
  lppR (fun _ a b => wL_R h h4 hz a b)
theorem laid_r (M : Mem) (ord : Int → Int) : laid M ord 2 = M 2 := rfl
theorem iX5_stem_X5 : ∀ w ∈ wsX50, w ∈ wsX5_stem := fun _ h => List.mem_cons_of_mem _ (List.mem_append_right _ h)
set_option maxHeartbeats 4000000 in
set_option maxRecDepth 100000 in
theorem c5_stem (l : Launch) (a : Nat → Nat) (j w : Int) (hj : -2147483648 ≤ j ∧ j < 2147483648) (hw : -2147483648 ≤ w ∧ w < 2147483648) (M : Mem) (ord : Int → Int) (hR : refOK M) (ho : isOrd (sR M).1 (wS (sR M)) ord) : CtI XT l yX5_stem wsX5_stem ({ frames := 3, cells := 0, slots := 0, locals := 73 } : Room) LR a M [.ref (a 0), .int (iI j), .int (iI w)] (fun z M' => z = stemZ (laid M ord) j w ∧ keepR M M') := by
  refine CtI.of (y := yX5_stem) (cc := cX5_stem) (maxL := 3) (ret := (some .int)) (lv := [some (.ref (a 0)), some (.int (iI j)), some (.int (iI w))]) (by decide) rfl (Nat.le_of_ble_eq_true rfl) (lvOK_of _ _ ⟨rfl, rfl⟩) ?_
  intro p e s m below meth c D T F K X0 hr hlk
  have hXc := XT_c
  obtain ⟨hm, hE, htl, h1, h2, h3, h4⟩ := id hR
  refine g_aload_n F (pc' := 1) dX5_stem_0 rfl rfl ?_
  refine g_callV F K hXc X0 (pc' := 4) (st := []) (c5_layStems l a M ord hm hE ho htl) (cwV 0 F.2.2.2.2 gX5_stem_X5_layStems rfl rfl rfl (by decide +kernel) ⟨Nat.le_of_ble_eq_true rfl, Nat.le_of_ble_eq_true rfl⟩) rfl rfl rfl rfl (Nat.le_of_ble_eq_true rfl) dX5_stem_1 rfl (fun L q_1 => ?_)
  have hL : L = laid M ord := q_1
  have hL1 := laid_ok hR ho
  rw [← hL] at hL1
  obtain ⟨hn, hg, hs, hsep, hc⟩ := id hL1
  have hL4 : 0 ≤ L 2 4 ∧ L 2 4 ≤ 3 := by rw [hL]; exact h4
  refine g_iload_n F (pc' := 5) dX5_stem_4 rfl rfl ?_
  refine g_iconst F (pc' := 6) dX5_stem_5 rfl ?_
  refine g_aload_n F (pc' := 7) dX5_stem_6 rfl rfl ?_
  refine g_getI F K (k := 0) (fld := 11) (ci := 5) (z := L 0 11) (pc' := 10) iX5_stem_X5 rfl rfl rfl (by decide) (List.mem_of_getElem? (i := 1) rfl) dX5_stem_7 rfl (by first | rfl | simp [upf, sc]) ?_
  refine g_iconst F (pc' := 11) dX5_stem_10 rfl ?_
  refine g_isub F (pc' := 12) dX5_stem_11 rfl ?_
  refine g_callP F (pc' := 15) (st := []) (c5_in l j 0 ((L 0 11) - 1) (by omega) (by omega) (by omega)) (va_cwS 3 F.2.2.2.2 gX5_stem_X5_in rfl rfl rfl (by decide +kernel) ⟨Nat.le_of_ble_eq_true rfl, Nat.le_of_ble_eq_true rfl⟩) rfl rfl (Nat.le_of_ble_eq_true rfl) dX5_stem_12 rfl ?_
  refine g_if_ne F (pc' := 18) (tgt := 20) dX5_stem_15 rfl (by decide) (zC_R _) (fun c_15 => ?_) (fun c_15 => ?_)
  · skip
    have c_15 := zC_1 c_15
    refine g_iload_n F (pc' := 21) dX5_stem_20 rfl rfl ?_
    rcases (show (w < 0 ∨ 3 < w) ∨ w = 0 ∨ w = 1 ∨ w = 2 ∨ w = 3 by omega) with c_21 | c_21 | c_21 | c_21 | c_21
    · skip
      refine g_tswO F (tgt := 80) dX5_stem_21 (by omega) c_21 (by decide) ?_
      refine g_iload_n F (pc' := 81) dX5_stem_80 rfl rfl ?_
      refine g_iconst F (pc' := 82) dX5_stem_81 rfl ?_
      refine g_icmp_ne F (pc' := 85) (tgt := 94) dX5_stem_82 rfl (by decide) (by omega) (by decide) (fun c_82 => ?_) (fun c_82 => ?_)
      · skip
        refine g_bipush F (pc' := 96) dX5_stem_94 rfl (by decide +kernel) ?_
        exact g_iret F hr hlk dX5_stem_96 (⟨by rw [← hL]; unfold stemZ; (repeat (first | rw [if_pos (by omega)] | rw [if_neg (by omega)])), keepR_l hL⟩)
      · skip
        refine g_aload_n F (pc' := 86) dX5_stem_85 rfl rfl ?_
        refine g_getR F K (k := 0) (fld := 10) (ci := 5) (q := 9) (pc' := 89) iX5_stem_X5 rfl rfl rfl (by decide) (List.mem_of_getElem? (i := 6) rfl) dX5_stem_86 rfl ?_
        refine g_iload_n F (pc' := 90) dX5_stem_89 rfl rfl ?_
        refine g_iald F K (k := 9) (v := L 9 j) (pc' := 91) rfl (by decide) (by omega) dX5_stem_90 rfl (by first | rfl | simp [upf, sc]) ?_
        refine g_goto F (tgt := 96) dX5_stem_91 (by decide) ?_
        exact g_iret F hr hlk dX5_stem_96 (⟨by rw [← hL]; unfold stemZ; (repeat (first | rw [if_pos (by omega)] | rw [if_neg (by omega)])), keepR_l hL⟩)
    · skip
      refine g_tswI F (tgt := 52) (i := 0) dX5_stem_21 (by omega) (by omega) (by decide) rfl (by decide) ?_
      refine g_aload_n F (pc' := 53) dX5_stem_52 rfl rfl ?_
      refine g_getR F K (k := 0) (fld := 6) (ci := 5) (q := 5) (pc' := 56) iX5_stem_X5 rfl rfl rfl (by decide) (List.mem_of_getElem? (i := 2) rfl) dX5_stem_53 rfl ?_
      refine g_iload_n F (pc' := 57) dX5_stem_56 rfl rfl ?_
      refine g_iald F K (k := 5) (v := L 5 j) (pc' := 58) rfl (by decide) (by omega) dX5_stem_57 rfl (by first | rfl | simp [upf, sc]) ?_
      exact g_iret F hr hlk dX5_stem_58 (⟨by rw [← hL]; unfold stemZ; (repeat (first | rw [if_pos (by omega)] | rw [if_neg (by omega)])), keepR_l hL⟩)
    · skip
      refine g_tswI F (tgt := 59) (i := 1) dX5_stem_21 (by omega) (by omega) (by decide) rfl (by decide) ?_
      refine g_aload_n F (pc' := 60) dX5_stem_59 rfl rfl ?_
      refine g_getR F K (k := 0) (fld := 7) (ci := 5) (q := 6) (pc' := 63) iX5_stem_X5 rfl rfl rfl (by decide) (List.mem_of_getElem? (i := 3) rfl) dX5_stem_60 rfl ?_
      refine g_iload_n F (pc' := 64) dX5_stem_63 rfl rfl ?_
      refine g_iald F K (k := 6) (v := L 6 j) (pc' := 65) rfl (by decide) (by omega) dX5_stem_64 rfl (by first | rfl | simp [upf, sc]) ?_
      exact g_iret F hr hlk dX5_stem_65 (⟨by rw [← hL]; unfold stemZ; (repeat (first | rw [if_pos (by omega)] | rw [if_neg (by omega)])), keepR_l hL⟩)
    · skip
      refine g_tswI F (tgt := 66) (i := 2) dX5_stem_21 (by omega) (by omega) (by decide) rfl (by decide) ?_
      refine g_aload_n F (pc' := 67) dX5_stem_66 rfl rfl ?_
      refine g_getR F K (k := 0) (fld := 8) (ci := 5) (q := 7) (pc' := 70) iX5_stem_X5 rfl rfl rfl (by decide) (List.mem_of_getElem? (i := 4) rfl) dX5_stem_67 rfl ?_
      refine g_iload_n F (pc' := 71) dX5_stem_70 rfl rfl ?_
      refine g_iald F K (k := 7) (v := L 7 j) (pc' := 72) rfl (by decide) (by omega) dX5_stem_71 rfl (by first | rfl | simp [upf, sc]) ?_
      exact g_iret F hr hlk dX5_stem_72 (⟨by rw [← hL]; unfold stemZ; (repeat (first | rw [if_pos (by omega)] | rw [if_neg (by omega)])), keepR_l hL⟩)
    · skip
      refine g_tswI F (tgt := 73) (i := 3) dX5_stem_21 (by omega) (by omega) (by decide) rfl (by decide) ?_
      refine g_aload_n F (pc' := 74) dX5_stem_73 rfl rfl ?_
      refine g_getR F K (k := 0) (fld := 9) (ci := 5) (q := 8) (pc' := 77) iX5_stem_X5 rfl rfl rfl (by decide) (List.mem_of_getElem? (i := 5) rfl) dX5_stem_74 rfl ?_
      refine g_iload_n F (pc' := 78) dX5_stem_77 rfl rfl ?_
      refine g_iald F K (k := 8) (v := L 8 j) (pc' := 79) rfl (by decide) (by omega) dX5_stem_78 rfl (by first | rfl | simp [upf, sc]) ?_
      exact g_iret F hr hlk dX5_stem_79 (⟨by rw [← hL]; unfold stemZ; (repeat (first | rw [if_pos (by omega)] | rw [if_neg (by omega)])), keepR_l hL⟩)
  · skip
    have c_15 := zC_0 c_15
    refine g_iconst F (pc' := 19) dX5_stem_18 rfl ?_
    exact g_iret F hr hlk dX5_stem_19 (⟨by rw [← hL]; unfold stemZ; (repeat (first | rw [if_pos (by omega)] | rw [if_neg (by omega)])), keepR_l hL⟩)

theorem iX5_kind_X5 : ∀ w ∈ wsX50, w ∈ wsX5_kind := fun _ h => List.mem_cons_of_mem _ (List.mem_append_right _ h)
set_option maxHeartbeats 4000000 in
set_option maxRecDepth 100000 in
theorem c5_kind (l : Launch) (a : Nat → Nat) (k w : Int) (hk : -2147483648 ≤ k ∧ k < 2147483648) (hw : -2147483648 ≤ w ∧ w < 2147483648) (M : Mem) (ord : Int → Int) (hR : refOK M) (ho : isOrd (sR M).1 (wS (sR M)) ord) : CtI XT l yX5_kind wsX5_kind ({ frames := 3, cells := 0, slots := 0, locals := 73 } : Room) LR a M [.ref (a 0), .int (iI k), .int (iI w)] (fun z M' => z = kindZ (laid M ord) k w ∧ keepR M M') := by
  refine CtI.of (y := yX5_kind) (cc := cX5_kind) (maxL := 3) (ret := (some .int)) (lv := [some (.ref (a 0)), some (.int (iI k)), some (.int (iI w))]) (by decide) rfl (Nat.le_of_ble_eq_true rfl) (lvOK_of _ _ ⟨rfl, rfl⟩) ?_
  intro p e s m below meth c D T F K X0 hr hlk
  have hXc := XT_c
  obtain ⟨hm, hE, htl, h1, h2, h3, h4⟩ := id hR
  refine g_aload_n F (pc' := 1) dX5_kind_0 rfl rfl ?_
  refine g_callV F K hXc X0 (pc' := 4) (st := []) (c5_layStems l a M ord hm hE ho htl) (cwV 0 F.2.2.2.2 gX5_kind_X5_layStems rfl rfl rfl (by decide +kernel) ⟨Nat.le_of_ble_eq_true rfl, Nat.le_of_ble_eq_true rfl⟩) rfl rfl rfl rfl (Nat.le_of_ble_eq_true rfl) dX5_kind_1 rfl (fun L q_1 => ?_)
  have hL : L = laid M ord := q_1
  have hL1 := laid_ok hR ho
  rw [← hL] at hL1
  obtain ⟨hn, hg, hs, hsep, hc⟩ := id hL1
  have hL4 : 0 ≤ L 2 4 ∧ L 2 4 ≤ 3 := by rw [hL]; exact h4
  refine g_iload_n F (pc' := 5) dX5_kind_4 rfl rfl ?_
  refine g_iconst F (pc' := 6) dX5_kind_5 rfl ?_
  refine g_aload_n F (pc' := 7) dX5_kind_6 rfl rfl ?_
  refine g_getI F K (k := 0) (fld := 16) (ci := 5) (z := L 0 16) (pc' := 10) iX5_kind_X5 rfl rfl rfl (by decide) (List.mem_of_getElem? (i := 1) rfl) dX5_kind_7 rfl (by first | rfl | simp [upf, sc]) ?_
  refine g_iconst F (pc' := 11) dX5_kind_10 rfl ?_
  refine g_isub F (pc' := 12) dX5_kind_11 rfl ?_
  refine g_callP F (pc' := 15) (st := []) (c5_in l k 0 ((L 0 16) - 1) (by omega) (by omega) (by omega)) (va_cwS 3 F.2.2.2.2 gX5_kind_X5_in rfl rfl rfl (by decide +kernel) ⟨Nat.le_of_ble_eq_true rfl, Nat.le_of_ble_eq_true rfl⟩) rfl rfl (Nat.le_of_ble_eq_true rfl) dX5_kind_12 rfl ?_
  refine g_if_ne F (pc' := 18) (tgt := 20) dX5_kind_15 rfl (by decide) (zC_R _) (fun c_15 => ?_) (fun c_15 => ?_)
  · skip
    have c_15 := zC_1 c_15
    refine g_iload_n F (pc' := 21) dX5_kind_20 rfl rfl ?_
    refine g_if_ne F (pc' := 24) (tgt := 33) dX5_kind_21 rfl (by decide) (by omega) (fun c_21 => ?_) (fun c_21 => ?_)
    · skip
      refine g_iload_n F (pc' := 34) dX5_kind_33 rfl rfl ?_
      refine g_iconst F (pc' := 35) dX5_kind_34 rfl ?_
      refine g_icmp_ne F (pc' := 38) (tgt := 47) dX5_kind_35 rfl (by decide) (by omega) (by decide) (fun c_35 => ?_) (fun c_35 => ?_)
      · skip
        refine g_iload_n F (pc' := 48) dX5_kind_47 rfl rfl ?_
        refine g_iconst F (pc' := 49) dX5_kind_48 rfl ?_
        refine g_icmp_ne F (pc' := 52) (tgt := 68) dX5_kind_49 rfl (by decide) (by omega) (by decide) (fun c_49 => ?_) (fun c_49 => ?_)
        · skip
          refine g_bipush F (pc' := 70) dX5_kind_68 rfl (by decide +kernel) ?_
          exact g_iret F hr hlk dX5_kind_70 (⟨by rw [← hL]; unfold kindZ; (repeat (first | rw [if_pos (by omega)] | rw [if_neg (by omega)])); try (rw [Int.tdiv_eq_ediv_of_nonneg (by omega)]), keepR_l hL⟩)
        · skip
          refine g_aload_n F (pc' := 53) dX5_kind_52 rfl rfl ?_
          refine g_getR F K (k := 0) (fld := 15) (ci := 5) (q := 13) (pc' := 56) iX5_kind_X5 rfl rfl rfl (by decide) (List.mem_of_getElem? (i := 4) rfl) dX5_kind_53 rfl ?_
          refine g_iload_n F (pc' := 57) dX5_kind_56 rfl rfl ?_
          refine g_iald F K (k := 13) (v := L 13 k) (pc' := 58) rfl (by decide) (by omega) dX5_kind_57 rfl (by first | rfl | simp [upf, sc]) ?_
          have b_57 := hc k (by omega) (by omega)
          refine g_aload_n F (pc' := 59) dX5_kind_58 rfl rfl ?_
          refine g_getR F K (k := 0) (fld := 13) (ci := 5) (q := 11) (pc' := 62) iX5_kind_X5 rfl rfl rfl (by decide) (List.mem_of_getElem? (i := 2) rfl) dX5_kind_59 rfl ?_
          refine g_iload_n F (pc' := 63) dX5_kind_62 rfl rfl ?_
          refine g_iald F K (k := 11) (v := L 11 k) (pc' := 64) rfl (by decide) (by omega) dX5_kind_63 rfl (by first | rfl | simp [upf, sc]) ?_
          have b_63 := hc k (by omega) (by omega)
          refine g_idiv F (pc' := 65) dX5_kind_64 rfl (by omega) (by omega) (by omega) ?_
          refine g_goto F (tgt := 70) dX5_kind_65 (by decide) ?_
          exact g_iret F hr hlk dX5_kind_70 (⟨by rw [← hL]; unfold kindZ; (repeat (first | rw [if_pos (by omega)] | rw [if_neg (by omega)])); try (rw [Int.tdiv_eq_ediv_of_nonneg (by omega)]), keepR_l hL⟩)
      · skip
        refine g_aload_n F (pc' := 39) dX5_kind_38 rfl rfl ?_
        refine g_getR F K (k := 0) (fld := 14) (ci := 5) (q := 12) (pc' := 42) iX5_kind_X5 rfl rfl rfl (by decide) (List.mem_of_getElem? (i := 3) rfl) dX5_kind_39 rfl ?_
        refine g_iload_n F (pc' := 43) dX5_kind_42 rfl rfl ?_
        refine g_iald F K (k := 12) (v := L 12 k) (pc' := 44) rfl (by decide) (by omega) dX5_kind_43 rfl (by first | rfl | simp [upf, sc]) ?_
        refine g_goto F (tgt := 70) dX5_kind_44 (by decide) ?_
        exact g_iret F hr hlk dX5_kind_70 (⟨by rw [← hL]; unfold kindZ; (repeat (first | rw [if_pos (by omega)] | rw [if_neg (by omega)])); try (rw [Int.tdiv_eq_ediv_of_nonneg (by omega)]), keepR_l hL⟩)
    · skip
      refine g_aload_n F (pc' := 25) dX5_kind_24 rfl rfl ?_
      refine g_getR F K (k := 0) (fld := 13) (ci := 5) (q := 11) (pc' := 28) iX5_kind_X5 rfl rfl rfl (by decide) (List.mem_of_getElem? (i := 2) rfl) dX5_kind_25 rfl ?_
      refine g_iload_n F (pc' := 29) dX5_kind_28 rfl rfl ?_
      refine g_iald F K (k := 11) (v := L 11 k) (pc' := 30) rfl (by decide) (by omega) dX5_kind_29 rfl (by first | rfl | simp [upf, sc]) ?_
      have b_29 := hc k (by omega) (by omega)
      refine g_goto F (tgt := 70) dX5_kind_30 (by decide) ?_
      exact g_iret F hr hlk dX5_kind_70 (⟨by rw [← hL]; unfold kindZ; (repeat (first | rw [if_pos (by omega)] | rw [if_neg (by omega)])); try (rw [Int.tdiv_eq_ediv_of_nonneg (by omega)]), keepR_l hL⟩)
  · skip
    have c_15 := zC_0 c_15
    refine g_iconst F (pc' := 19) dX5_kind_18 rfl ?_
    exact g_iret F hr hlk dX5_kind_19 (⟨by rw [← hL]; unfold kindZ; (repeat (first | rw [if_pos (by omega)] | rw [if_neg (by omega)])); try (rw [Int.tdiv_eq_ediv_of_nonneg (by omega)]), keepR_l hL⟩)

theorem iX5_dots_X5 : ∀ w ∈ wsX50, w ∈ wsX5_dots := fun _ h => List.mem_cons_of_mem _ (List.mem_append_right _ h)
set_option maxHeartbeats 4000000 in
set_option maxRecDepth 100000 in
theorem c5_dots (l : Launch) (a : Nat → Nat) (k sz : Int) (hk : -2147483648 ≤ k ∧ k < 2147483648) (hz : -2147483648 ≤ sz ∧ sz < 2147483648) (M : Mem) (ord : Int → Int) (hR : refOK M) (ho : isOrd (sR M).1 (wS (sR M)) ord) : CtI XT l yX5_dots wsX5_dots ({ frames := 3, cells := 0, slots := 0, locals := 73 } : Room) LR a M [.ref (a 0), .int (iI k), .int (iI sz)] (fun z M' => z = dotsZ (laid M ord) k sz ∧ keepR M M') := by
  refine CtI.of (y := yX5_dots) (cc := cX5_dots) (maxL := 3) (ret := (some .int)) (lv := [some (.ref (a 0)), some (.int (iI k)), some (.int (iI sz))]) (by decide) rfl (Nat.le_of_ble_eq_true rfl) (lvOK_of _ _ ⟨rfl, rfl⟩) ?_
  intro p e s m below meth c D T F K X0 hr hlk
  have hXc := XT_c
  obtain ⟨hm, hE, htl, h1, h2, h3, h4⟩ := id hR
  refine g_aload_n F (pc' := 1) dX5_dots_0 rfl rfl ?_
  refine g_callV F K hXc X0 (pc' := 4) (st := []) (c5_layStems l a M ord hm hE ho htl) (cwV 0 F.2.2.2.2 gX5_dots_X5_layStems rfl rfl rfl (by decide +kernel) ⟨Nat.le_of_ble_eq_true rfl, Nat.le_of_ble_eq_true rfl⟩) rfl rfl rfl rfl (Nat.le_of_ble_eq_true rfl) dX5_dots_1 rfl (fun L q_1 => ?_)
  have hL : L = laid M ord := q_1
  have hL1 := laid_ok hR ho
  rw [← hL] at hL1
  obtain ⟨hn, hg, hs, hsep, hc⟩ := id hL1
  have hL4 : 0 ≤ L 2 4 ∧ L 2 4 ≤ 3 := by rw [hL]; exact h4
  refine g_iload_n F (pc' := 5) dX5_dots_4 rfl rfl ?_
  refine g_iconst F (pc' := 6) dX5_dots_5 rfl ?_
  refine g_aload_n F (pc' := 7) dX5_dots_6 rfl rfl ?_
  refine g_getI F K (k := 0) (fld := 16) (ci := 5) (z := L 0 16) (pc' := 10) iX5_dots_X5 rfl rfl rfl (by decide) (List.mem_of_getElem? (i := 1) rfl) dX5_dots_7 rfl (by first | rfl | simp [upf, sc]) ?_
  refine g_iconst F (pc' := 11) dX5_dots_10 rfl ?_
  refine g_isub F (pc' := 12) dX5_dots_11 rfl ?_
  refine g_callP F (pc' := 15) (st := []) (c5_in l k 0 ((L 0 16) - 1) (by omega) (by omega) (by omega)) (va_cwS 3 F.2.2.2.2 gX5_dots_X5_in rfl rfl rfl (by decide +kernel) ⟨Nat.le_of_ble_eq_true rfl, Nat.le_of_ble_eq_true rfl⟩) rfl rfl (Nat.le_of_ble_eq_true rfl) dX5_dots_12 rfl ?_
  refine g_if_ne F (pc' := 18) (tgt := 20) dX5_dots_15 rfl (by decide) (zC_R _) (fun c_15 => ?_) (fun c_15 => ?_)
  · skip
    have c_15 := zC_1 c_15
    refine g_iload_n F (pc' := 21) dX5_dots_20 rfl rfl ?_
    refine g_iconst F (pc' := 22) dX5_dots_21 rfl ?_
    refine g_bipush F (pc' := 24) dX5_dots_22 rfl (by decide +kernel) ?_
    refine g_callP F (pc' := 27) (st := []) (c5_in l sz 1 60 (by omega) (by omega) (by omega)) (va_cwS 3 F.2.2.2.2 gX5_dots_X5_in rfl rfl rfl (by decide +kernel) ⟨Nat.le_of_ble_eq_true rfl, Nat.le_of_ble_eq_true rfl⟩) rfl rfl (Nat.le_of_ble_eq_true rfl) dX5_dots_24 rfl ?_
    refine g_if_eq F (pc' := 30) (tgt := 39) dX5_dots_27 rfl (by decide) (zC_R _) (fun c_27 => ?_) (fun c_27 => ?_)
    · skip
      have c_27 := zC_0 c_27
      refine g_bipush F (pc' := 41) dX5_dots_39 rfl (by decide +kernel) ?_
      exact g_iret F hr hlk dX5_dots_41 (⟨by rw [← hL]; unfold dotsZ; (repeat (first | rw [if_pos (by omega)] | rw [if_neg (by omega)])), keepR_l hL⟩)
    · skip
      have c_27 := zC_1 c_27
      have hck := hc k (by omega) (by omega)
      refine g_aload_n F (pc' := 31) dX5_dots_30 rfl rfl ?_
      refine g_iload_n F (pc' := 32) dX5_dots_31 rfl rfl ?_
      refine g_iload_n F (pc' := 33) dX5_dots_32 rfl rfl ?_
      refine g_callI F K hXc X0 (pc' := 36) (st := []) (c5_dotsOf l a L k sz (by omega) (by omega) (by omega) (by omega) (by omega)) (cwV 2 F.2.2.2.2 gX5_dots_X5_dotsOf rfl rfl rfl (by decide +kernel) ⟨Nat.le_of_ble_eq_true rfl, Nat.le_of_ble_eq_true rfl⟩) rfl rfl rfl rfl (Nat.le_of_ble_eq_true rfl) dX5_dots_33 rfl (fun z_33 M_33 q_33 => ?_)
      obtain ⟨rfl, mq_33⟩ := q_33
      have mq_33 := mq_33.symm; subst mq_33
      refine g_goto F (tgt := 41) dX5_dots_36 (by decide) ?_
      exact g_iret F hr hlk dX5_dots_41 (⟨by rw [← hL]; unfold dotsZ; (repeat (first | rw [if_pos (by omega)] | rw [if_neg (by omega)])), keepR_l hL⟩)
  · skip
    have c_15 := zC_0 c_15
    refine g_iconst F (pc' := 19) dX5_dots_18 rfl ?_
    exact g_iret F hr hlk dX5_dots_19 (⟨by rw [← hL]; unfold dotsZ; (repeat (first | rw [if_pos (by omega)] | rw [if_neg (by omega)])), keepR_l hL⟩)

theorem iX5_grows_X5 : ∀ w ∈ wsX50, w ∈ wsX5_grows := fun _ h => List.mem_cons_of_mem _ (List.mem_append_right _ h)
set_option maxHeartbeats 4000000 in
set_option maxRecDepth 100000 in
theorem c5_grows (l : Launch) (a : Nat → Nat) (k d : Int) (hk : -2147483648 ≤ k ∧ k < 2147483648) (hd : -2147483648 ≤ d ∧ d < 2147483648) (M : Mem) (ord : Int → Int) (hR : refOK M) (ho : isOrd (sR M).1 (wS (sR M)) ord) : CtI XT l yX5_grows wsX5_grows ({ frames := 3, cells := 0, slots := 0, locals := 73 } : Room) LR a M [.ref (a 0), .int (iI k), .int (iI d)] (fun z M' => z = growsZ (laid M ord) k d ∧ keepR M M') := by
  refine CtI.of (y := yX5_grows) (cc := cX5_grows) (maxL := 4) (ret := (some .int)) (lv := [some (.ref (a 0)), some (.int (iI k)), some (.int (iI d)), none]) (by decide) rfl (Nat.le_of_ble_eq_true rfl) (lvOK_of _ _ ⟨rfl, rfl⟩) ?_
  intro p e s m below meth c D T F K X0 hr hlk
  have hXc := XT_c
  obtain ⟨hm, hE, htl, h1, h2, h3, h4⟩ := id hR
  refine g_aload_n F (pc' := 1) dX5_grows_0 rfl rfl ?_
  refine g_callV F K hXc X0 (pc' := 4) (st := []) (c5_layStems l a M ord hm hE ho htl) (cwV 0 F.2.2.2.2 gX5_grows_X5_layStems rfl rfl rfl (by decide +kernel) ⟨Nat.le_of_ble_eq_true rfl, Nat.le_of_ble_eq_true rfl⟩) rfl rfl rfl rfl (Nat.le_of_ble_eq_true rfl) dX5_grows_1 rfl (fun L q_1 => ?_)
  have hL : L = laid M ord := q_1
  have hL1 := laid_ok hR ho
  rw [← hL] at hL1
  obtain ⟨hn, hg, hs, hsep, hc⟩ := id hL1
  have hL4 : 0 ≤ L 2 4 ∧ L 2 4 ≤ 3 := by rw [hL]; exact h4
  refine g_iload_n F (pc' := 5) dX5_grows_4 rfl rfl ?_
  refine g_iconst F (pc' := 6) dX5_grows_5 rfl ?_
  refine g_aload_n F (pc' := 7) dX5_grows_6 rfl rfl ?_
  refine g_getI F K (k := 0) (fld := 16) (ci := 5) (z := L 0 16) (pc' := 10) iX5_grows_X5 rfl rfl rfl (by decide) (List.mem_of_getElem? (i := 1) rfl) dX5_grows_7 rfl (by first | rfl | simp [upf, sc]) ?_
  refine g_iconst F (pc' := 11) dX5_grows_10 rfl ?_
  refine g_isub F (pc' := 12) dX5_grows_11 rfl ?_
  refine g_callP F (pc' := 15) (st := []) (c5_in l k 0 ((L 0 16) - 1) (by omega) (by omega) (by omega)) (va_cwS 3 F.2.2.2.2 gX5_grows_X5_in rfl rfl rfl (by decide +kernel) ⟨Nat.le_of_ble_eq_true rfl, Nat.le_of_ble_eq_true rfl⟩) rfl rfl (Nat.le_of_ble_eq_true rfl) dX5_grows_12 rfl ?_
  refine g_if_ne F (pc' := 18) (tgt := 20) dX5_grows_15 rfl (by decide) (zC_R _) (fun c_15 => ?_) (fun c_15 => ?_)
  · skip
    have c_15 := zC_1 c_15
    refine g_iload_n F (pc' := 21) dX5_grows_20 rfl rfl ?_
    refine g_iconst F (pc' := 22) dX5_grows_21 rfl ?_
    refine g_bipush F (pc' := 24) dX5_grows_22 rfl (by decide +kernel) ?_
    refine g_callP F (pc' := 27) (st := []) (c5_in l d 1 60 (by omega) (by omega) (by omega)) (va_cwS 3 F.2.2.2.2 gX5_grows_X5_in rfl rfl rfl (by decide +kernel) ⟨Nat.le_of_ble_eq_true rfl, Nat.le_of_ble_eq_true rfl⟩) rfl rfl (Nat.le_of_ble_eq_true rfl) dX5_grows_24 rfl ?_
    refine g_if_ne F (pc' := 30) (tgt := 33) dX5_grows_27 rfl (by decide) (zC_R _) (fun c_27 => ?_) (fun c_27 => ?_)
    · skip
      have c_27 := zC_1 c_27
      refine g_iconst F (pc' := 34) dX5_grows_33 rfl ?_
      refine g_istore_n F (pc' := 35) (lv' := [some (.ref (a 0)), some (.int (iI k)), some (.int (iI d)), some (.int (iI 1))]) dX5_grows_34 rfl (by decide) rfl ?_
      have lp_35 : ∀ (n_35 : Nat) (v : Int) (hm_35 : 61 - v < (n_35 : Int)) (hv : 1 ≤ v ∧ v ≤ 61) (hgr : growsI (fun t => dz (L 13 k / L 11 k) t (L 2 4)) d 1 = growsI (fun t => dz (L 13 k / L 11 k) t (L 2 4)) d v), GG p l e ({ frames := 3, cells := 0, slots := 0, locals := 73 } : Room) s m ([.ref (a 0), .int (iI k), .int (iI d)].toArray) below meth c (PI D T a LR M (fun z M' => z = growsZ (laid M ord) k d ∧ keepR M M') below ([.ref (a 0), .int (iI k), .int (iI d)].toArray) s) D (AA T a LR M s.heap.size) 4 (wld T a LR L) 35 [some (.ref (a 0)), some (.int (iI k)), some (.int (iI d)), some (.int (iI v))] [] := by
        intro n_35
        induction n_35 with
        | zero => intro v hm_35 hv hgr; exfalso; omega
        | succ n_35 ih_35 =>
          intro v hm_35 hv hgr
          have hck := hc k (by omega) (by omega)
          refine g_iload_n F (pc' := 36) dX5_grows_35 rfl rfl ?_
          refine g_bipush F (pc' := 38) dX5_grows_36 rfl (by decide +kernel) ?_
          refine g_icmp_gt F (pc' := 41) (tgt := 59) dX5_grows_38 rfl (by decide) (by omega) (by decide) (fun c_38 => ?_) (fun c_38 => ?_)
          · skip
            refine g_bipush F (pc' := 61) dX5_grows_59 rfl (by decide +kernel) ?_
            exact g_iret F hr hlk dX5_grows_61 (⟨by rw [← hL]; unfold growsZ; rw [if_pos (by omega), if_pos (by omega), hgr]; exact (growsI_e (by omega)).symm, keepR_l hL⟩)
          · skip
            refine g_aload_n F (pc' := 42) dX5_grows_41 rfl rfl ?_
            refine g_iload_n F (pc' := 43) dX5_grows_42 rfl rfl ?_
            refine g_iload_n F (pc' := 44) dX5_grows_43 rfl rfl ?_
            refine g_callI F K hXc X0 (pc' := 47) (st := []) (c5_dotsOf l a L k v (by omega) (by omega) (by omega) (by omega) (by omega)) (cwV 2 F.2.2.2.2 gX5_grows_X5_dotsOf rfl rfl rfl (by decide +kernel) ⟨Nat.le_of_ble_eq_true rfl, Nat.le_of_ble_eq_true rfl⟩) rfl rfl rfl rfl (Nat.le_of_ble_eq_true rfl) dX5_grows_44 rfl (fun z_44 M_44 q_44 => ?_)
            obtain ⟨rfl, mq_44⟩ := q_44
            have mq_44 := mq_44.symm; subst mq_44
            have hdR := dz_R (sz := v) hck.1 hck.2.2 (by omega) hL4
            refine g_iload_n F (pc' := 48) dX5_grows_47 rfl rfl ?_
            refine g_icmp_lt F (pc' := 51) (tgt := 53) dX5_grows_48 rfl (by decide) (by omega) (by omega) (fun c_48 => ?_) (fun c_48 => ?_)
            · skip
              refine g_iinc F (pc' := 56) (lv' := [some (.ref (a 0)), some (.int (iI k)), some (.int (iI d)), some (.int (iI (v + 1)))]) dX5_grows_53 rfl rfl (by decide) rfl ?_
              refine g_goto F (tgt := 35) dX5_grows_56 (by decide) ?_
              exact ih_35 (v + 1) (by omega) (by omega) (by first | rfl | (rw [hgr]; exact growsI_f (by omega) (by show _ < d; omega)))
            · skip
              refine g_iload_n F (pc' := 52) dX5_grows_51 rfl rfl ?_
              exact g_iret F hr hlk dX5_grows_52 (⟨by rw [← hL]; unfold growsZ; rw [if_pos (by omega), if_pos (by omega), hgr]; exact (growsI_t (by omega) (by show d ≤ _; omega)).symm, keepR_l hL⟩)
      exact lp_35 ((61 - 1 : Int).toNat + 1) 1 (by omega) (by omega) (by first | rfl | (rw [hgr]; exact growsI_f (by omega) (by show _ < d; omega)))
    · skip
      have c_27 := zC_0 c_27
      refine g_bipush F (pc' := 32) dX5_grows_30 rfl (by decide +kernel) ?_
      exact g_iret F hr hlk dX5_grows_32 (⟨by rw [← hL]; unfold growsZ; (repeat (first | rw [if_pos (by omega)] | rw [if_neg (by omega)])), keepR_l hL⟩)
  · skip
    have c_15 := zC_0 c_15
    refine g_iconst F (pc' := 19) dX5_grows_18 rfl ?_
    exact g_iret F hr hlk dX5_grows_19 (⟨by rw [← hL]; unfold growsZ; (repeat (first | rw [if_pos (by omega)] | rw [if_neg (by omega)])), keepR_l hL⟩)

theorem iX5_told_X5 : ∀ w ∈ wsX50, w ∈ wsX5_told := fun _ h => List.mem_cons_of_mem _ (List.mem_append_right _ h)
set_option maxHeartbeats 4000000 in
set_option maxRecDepth 100000 in
theorem c5_told (l : Launch) (a : Nat → Nat) (u w : Int) (hu : -2147483648 ≤ u ∧ u < 2147483648) (hw : -2147483648 ≤ w ∧ w < 2147483648) (M : Mem) (ord : Int → Int) (hR : refOK M) (ho : isOrd (sR M).1 (wS (sR M)) ord) : CtI XT l yX5_told wsX5_told ({ frames := 3, cells := 0, slots := 0, locals := 73 } : Room) LR a M [.ref (a 0), .int (iI u), .int (iI w)] (fun z M' => z = toldZ (laid M ord) u w ∧ keepR M M') := by
  refine CtI.of (y := yX5_told) (cc := cX5_told) (maxL := 3) (ret := (some .int)) (lv := [some (.ref (a 0)), some (.int (iI u)), some (.int (iI w))]) (by decide) rfl (Nat.le_of_ble_eq_true rfl) (lvOK_of _ _ ⟨rfl, rfl⟩) ?_
  intro p e s m below meth c D T F K X0 hr hlk
  have hXc := XT_c
  obtain ⟨hm, hE, htl, h1, h2, h3, h4⟩ := id hR
  have hLb := laid_b M ord
  have hLe := laid_e M ord
  refine g_iload_n F (pc' := 1) dX5_told_0 rfl rfl ?_
  refine g_iconst F (pc' := 2) dX5_told_1 rfl ?_
  refine g_aload_n F (pc' := 3) dX5_told_2 rfl rfl ?_
  refine g_getI F K (k := 0) (fld := 1) (ci := 5) (z := M 0 1) (pc' := 6) iX5_told_X5 rfl rfl rfl (by decide) (List.mem_of_getElem? (i := 1) rfl) dX5_told_3 rfl (by first | rfl | simp [upf, sc]) ?_
  refine g_iconst F (pc' := 7) dX5_told_6 rfl ?_
  refine g_isub F (pc' := 8) dX5_told_7 rfl ?_
  refine g_callP F (pc' := 11) (st := []) (c5_in l u 0 ((M 0 1) - 1) (by omega) (by omega) (by omega)) (va_cwS 3 F.2.2.2.2 gX5_told_X5_in rfl rfl rfl (by decide +kernel) ⟨Nat.le_of_ble_eq_true rfl, Nat.le_of_ble_eq_true rfl⟩) rfl rfl (Nat.le_of_ble_eq_true rfl) dX5_told_8 rfl ?_
  refine g_if_ne F (pc' := 14) (tgt := 16) dX5_told_11 rfl (by decide) (zC_R _) (fun c_11 => ?_) (fun c_11 => ?_)
  · skip
    have c_11 := zC_1 c_11
    refine g_iload_n F (pc' := 17) dX5_told_16 rfl rfl ?_
    refine g_iconst F (pc' := 18) dX5_told_17 rfl ?_
    refine g_iconst F (pc' := 19) dX5_told_18 rfl ?_
    refine g_callP F (pc' := 22) (st := []) (c5_in l w 0 4 (by omega) (by omega) (by omega)) (va_cwS 3 F.2.2.2.2 gX5_told_X5_in rfl rfl rfl (by decide +kernel) ⟨Nat.le_of_ble_eq_true rfl, Nat.le_of_ble_eq_true rfl⟩) rfl rfl (Nat.le_of_ble_eq_true rfl) dX5_told_19 rfl ?_
    refine g_if_ne F (pc' := 25) (tgt := 28) dX5_told_22 rfl (by decide) (zC_R _) (fun c_22 => ?_) (fun c_22 => ?_)
    · skip
      have c_22 := zC_1 c_22
      refine g_aload_n F (pc' := 29) dX5_told_28 rfl rfl ?_
      refine g_callV F K hXc X0 (pc' := 32) (st := []) (c5_layStems l a M ord hm hE ho htl) (cwV 0 F.2.2.2.2 gX5_told_X5_layStems rfl rfl rfl (by decide +kernel) ⟨Nat.le_of_ble_eq_true rfl, Nat.le_of_ble_eq_true rfl⟩) rfl rfl rfl rfl (Nat.le_of_ble_eq_true rfl) dX5_told_29 rfl (fun L q_29 => ?_)
      have hL : L = laid M ord := q_29
      have hL1 := laid_ok hR ho
      rw [← hL] at hL1
      obtain ⟨hn, hg, hs, hsep, hc⟩ := id hL1
      have hL4 : 0 ≤ L 2 4 ∧ L 2 4 ≤ 3 := by rw [hL]; exact h4
      refine g_iload_n F (pc' := 33) dX5_told_32 rfl rfl ?_
      rw [← hL] at hLb hLe
      refine g_iconst F (pc' := 34) dX5_told_33 rfl ?_
      refine g_icmp_ge F (pc' := 37) (tgt := 50) dX5_told_34 rfl (by decide) (by omega) (by decide) (fun c_34 => ?_) (fun c_34 => ?_)
      · skip
        refine g_aload_n F (pc' := 51) dX5_told_50 rfl rfl ?_
        refine g_getR F K (k := 0) (fld := 12) (ci := 5) (q := 10) (pc' := 54) iX5_told_X5 rfl rfl rfl (by decide) (List.mem_of_getElem? (i := 3) rfl) dX5_told_51 rfl ?_
        refine g_iload_n F (pc' := 55) dX5_told_54 rfl rfl ?_
        refine g_iald F K (k := 10) (v := L 10 u) (pc' := 56) rfl (by decide) (by omega) dX5_told_55 rfl (by first | rfl | simp [upf, sc]) ?_
        exact g_iret F hr hlk dX5_told_56 (⟨by rw [← hL]; unfold toldZ; (repeat (first | rw [if_pos (by omega)] | rw [if_neg (by omega)])), keepR_l hL⟩)
      · skip
        refine g_aload_n F (pc' := 38) dX5_told_37 rfl rfl ?_
        refine g_getR F K (k := 0) (fld := 0) (ci := 5) (q := 1) (pc' := 41) iX5_told_X5 rfl rfl rfl (by decide) (List.mem_of_getElem? (i := 2) rfl) dX5_told_38 rfl ?_
        refine g_iconst F (pc' := 42) dX5_told_41 rfl ?_
        refine g_iload_n F (pc' := 43) dX5_told_42 rfl rfl ?_
        refine g_imul F (pc' := 44) dX5_told_43 rfl ?_
        refine g_iload_n F (pc' := 45) dX5_told_44 rfl rfl ?_
        refine g_iadd F (pc' := 46) dX5_told_45 rfl ?_
        refine g_iald F K (k := 1) (v := L 1 ((4 * u) + w)) (pc' := 47) rfl (by decide) (by omega) dX5_told_46 rfl rfl ?_
        refine g_goto F (tgt := 56) dX5_told_47 (by decide) ?_
        exact g_iret F hr hlk dX5_told_56 (⟨by rw [← hL]; unfold toldZ; (repeat (first | rw [if_pos (by omega)] | rw [if_neg (by omega)])), keepR_l hL⟩)
    · skip
      have c_22 := zC_0 c_22
      refine g_bipush F (pc' := 27) dX5_told_25 rfl (by decide +kernel) ?_
      exact g_iret F hr hlk dX5_told_27 (⟨by unfold toldZ; rw [hLb]; (repeat (first | rw [if_pos (by omega)] | rw [if_neg (by omega)])), keepR_0 M⟩)
  · skip
    have c_11 := zC_0 c_11
    refine g_iconst F (pc' := 15) dX5_told_14 rfl ?_
    exact g_iret F hr hlk dX5_told_15 (⟨by unfold toldZ; rw [hLb]; (repeat (first | rw [if_pos (by omega)] | rw [if_neg (by omega)])), keepR_0 M⟩)

theorem iX5_count_X5 : ∀ w ∈ wsX50, w ∈ wsX5_count := fun _ h => List.mem_cons_of_mem _ (List.mem_append_right _ h)
set_option maxHeartbeats 4000000 in
set_option maxRecDepth 100000 in
theorem c5_count (l : Launch) (a : Nat → Nat) (w : Int) (hw : -2147483648 ≤ w ∧ w < 2147483648) (M : Mem) (ord : Int → Int) (hR : refOK M) (ho : isOrd (sR M).1 (wS (sR M)) ord) : CtI XT l yX5_count wsX5_count ({ frames := 3, cells := 0, slots := 0, locals := 73 } : Room) LR a M [.ref (a 0), .int (iI w)] (fun z M' => z = countZ (laid M ord) w ∧ keepR M M') := by
  refine CtI.of (y := yX5_count) (cc := cX5_count) (maxL := 2) (ret := (some .int)) (lv := [some (.ref (a 0)), some (.int (iI w))]) (by decide) rfl (Nat.le_of_ble_eq_true rfl) (lvOK_of _ _ ⟨rfl, rfl⟩) ?_
  intro p e s m below meth c D T F K X0 hr hlk
  have hXc := XT_c
  obtain ⟨hm, hE, htl, h1, h2, h3, h4⟩ := id hR
  refine g_aload_n F (pc' := 1) dX5_count_0 rfl rfl ?_
  refine g_callV F K hXc X0 (pc' := 4) (st := []) (c5_layStems l a M ord hm hE ho htl) (cwV 0 F.2.2.2.2 gX5_count_X5_layStems rfl rfl rfl (by decide +kernel) ⟨Nat.le_of_ble_eq_true rfl, Nat.le_of_ble_eq_true rfl⟩) rfl rfl rfl rfl (Nat.le_of_ble_eq_true rfl) dX5_count_1 rfl (fun L q_1 => ?_)
  have hL : L = laid M ord := q_1
  have hL1 := laid_ok hR ho
  rw [← hL] at hL1
  obtain ⟨hn, hg, hs, hsep, hc⟩ := id hL1
  have hL4 : 0 ≤ L 2 4 ∧ L 2 4 ≤ 3 := by rw [hL]; exact h4
  refine g_iload_n F (pc' := 5) dX5_count_4 rfl rfl ?_
  rcases (show (w < 0 ∨ 3 < w) ∨ w = 0 ∨ w = 1 ∨ w = 2 ∨ w = 3 by omega) with c_5 | c_5 | c_5 | c_5 | c_5
  · skip
    refine g_tswO F (tgt := 56) dX5_count_5 (by omega) c_5 (by decide) ?_
    refine g_iload_n F (pc' := 57) dX5_count_56 rfl rfl ?_
    refine g_iconst F (pc' := 58) dX5_count_57 rfl ?_
    refine g_bipush F (pc' := 60) dX5_count_58 rfl (by decide +kernel) ?_
    refine g_callP F (pc' := 63) (st := []) (c5_in l w 4 8 (by omega) (by omega) (by omega)) (va_cwS 3 F.2.2.2.2 gX5_count_X5_in rfl rfl rfl (by decide +kernel) ⟨Nat.le_of_ble_eq_true rfl, Nat.le_of_ble_eq_true rfl⟩) rfl rfl (Nat.le_of_ble_eq_true rfl) dX5_count_60 rfl ?_
    refine g_if_eq F (pc' := 66) (tgt := 77) dX5_count_63 rfl (by decide) (zC_R _) (fun c_63 => ?_) (fun c_63 => ?_)
    · skip
      have c_63 := zC_0 c_63
      refine g_bipush F (pc' := 79) dX5_count_77 rfl (by decide +kernel) ?_
      exact g_iret F hr hlk dX5_count_79 (⟨by rw [← hL]; unfold countZ; (repeat (first | rw [if_pos (by omega)] | rw [if_neg (by omega)])), keepR_l hL⟩)
    · skip
      have c_63 := zC_1 c_63
      refine g_aload_n F (pc' := 67) dX5_count_66 rfl rfl ?_
      refine g_getR F K (k := 0) (fld := 2) (ci := 5) (q := 2) (pc' := 70) iX5_count_X5 rfl rfl rfl (by decide) (List.mem_of_getElem? (i := 5) rfl) dX5_count_67 rfl ?_
      refine g_iload_n F (pc' := 71) dX5_count_70 rfl rfl ?_
      refine g_iconst F (pc' := 72) dX5_count_71 rfl ?_
      refine g_isub F (pc' := 73) dX5_count_72 rfl ?_
      refine g_iald F K (k := 2) (v := L 2 (w - 4)) (pc' := 74) rfl (by decide) (by omega) dX5_count_73 rfl (by first | rfl | simp [upf, sc]) ?_
      refine g_goto F (tgt := 79) dX5_count_74 (by decide) ?_
      exact g_iret F hr hlk dX5_count_79 (⟨by rw [← hL]; unfold countZ; (repeat (first | rw [if_pos (by omega)] | rw [if_neg (by omega)])), keepR_l hL⟩)
  · skip
    refine g_tswI F (tgt := 36) (i := 0) dX5_count_5 (by omega) (by omega) (by decide) rfl (by decide) ?_
    refine g_aload_n F (pc' := 37) dX5_count_36 rfl rfl ?_
    refine g_getI F K (k := 0) (fld := 3) (ci := 5) (z := L 0 3) (pc' := 40) iX5_count_X5 rfl rfl rfl (by decide) (List.mem_of_getElem? (i := 1) rfl) dX5_count_37 rfl (by first | rfl | simp [upf, sc]) ?_
    exact g_iret F hr hlk dX5_count_40 (⟨by rw [← hL]; unfold countZ; (repeat (first | rw [if_pos (by omega)] | rw [if_neg (by omega)])), keepR_l hL⟩)
  · skip
    refine g_tswI F (tgt := 41) (i := 1) dX5_count_5 (by omega) (by omega) (by decide) rfl (by decide) ?_
    refine g_aload_n F (pc' := 42) dX5_count_41 rfl rfl ?_
    refine g_getI F K (k := 0) (fld := 1) (ci := 5) (z := L 0 1) (pc' := 45) iX5_count_X5 rfl rfl rfl (by decide) (List.mem_of_getElem? (i := 2) rfl) dX5_count_42 rfl (by first | rfl | simp [upf, sc]) ?_
    exact g_iret F hr hlk dX5_count_45 (⟨by rw [← hL]; unfold countZ; (repeat (first | rw [if_pos (by omega)] | rw [if_neg (by omega)])), keepR_l hL⟩)
  · skip
    refine g_tswI F (tgt := 46) (i := 2) dX5_count_5 (by omega) (by omega) (by decide) rfl (by decide) ?_
    refine g_aload_n F (pc' := 47) dX5_count_46 rfl rfl ?_
    refine g_getI F K (k := 0) (fld := 11) (ci := 5) (z := L 0 11) (pc' := 50) iX5_count_X5 rfl rfl rfl (by decide) (List.mem_of_getElem? (i := 3) rfl) dX5_count_47 rfl (by first | rfl | simp [upf, sc]) ?_
    exact g_iret F hr hlk dX5_count_50 (⟨by rw [← hL]; unfold countZ; (repeat (first | rw [if_pos (by omega)] | rw [if_neg (by omega)])), keepR_l hL⟩)
  · skip
    refine g_tswI F (tgt := 51) (i := 3) dX5_count_5 (by omega) (by omega) (by decide) rfl (by decide) ?_
    refine g_aload_n F (pc' := 52) dX5_count_51 rfl rfl ?_
    refine g_getI F K (k := 0) (fld := 16) (ci := 5) (z := L 0 16) (pc' := 55) iX5_count_X5 rfl rfl rfl (by decide) (List.mem_of_getElem? (i := 4) rfl) dX5_count_52 rfl (by first | rfl | simp [upf, sc]) ?_
    exact g_iret F hr hlk dX5_count_55 (⟨by rw [← hL]; unfold countZ; (repeat (first | rw [if_pos (by omega)] | rw [if_neg (by omega)])), keepR_l hL⟩)

theorem iX5_why_X5 : ∀ w ∈ wsX50, w ∈ wsX5_why := fun _ h => List.mem_cons_of_mem _ (List.mem_append_right _ h)
set_option maxHeartbeats 4000000 in
set_option maxRecDepth 100000 in
theorem c5_why (l : Launch) (a : Nat → Nat) (sz w : Int) (hz : -2147483648 ≤ sz ∧ sz < 2147483648) (hw : -2147483648 ≤ w ∧ w < 2147483648) (M : Mem) (ord : Int → Int) (hR : refOK M) (ho : isOrd (sR M).1 (wS (sR M)) ord) : CtI XT l yX5_why wsX5_why ({ frames := 3, cells := 0, slots := 0, locals := 73 } : Room) LR a M [.ref (a 0), .int (iI sz), .int (iI w)] (fun z M' => ((¬ (1 ≤ sz ∧ sz ≤ 60) ∨ ¬ (0 ≤ w ∧ w ≤ 1)) → z = -2) ∧ ((1 ≤ sz ∧ sz ≤ 60) → (0 ≤ w ∧ w ≤ 1) → whyQ (laid M ord 0 11) (wL (laid M ord) sz) sz w z) ∧ keepR M M') := by
  refine CtI.of (y := yX5_why) (cc := cX5_why) (maxL := 6) (ret := (some .int)) (lv := [some (.ref (a 0)), some (.int (iI sz)), some (.int (iI w)), none, none, none]) (by decide) rfl (Nat.le_of_ble_eq_true rfl) (lvOK_of _ _ ⟨rfl, rfl⟩) ?_
  intro p e s m below meth c D T F K X0 hr hlk
  have hXc := XT_c
  obtain ⟨hm, hE, htl, h1, h2, h3, h4⟩ := id hR
  refine g_iload_n F (pc' := 1) dX5_why_0 rfl rfl ?_
  refine g_iconst F (pc' := 2) dX5_why_1 rfl ?_
  refine g_bipush F (pc' := 4) dX5_why_2 rfl (by decide +kernel) ?_
  refine g_callP F (pc' := 7) (st := []) (c5_in l sz 1 60 (by omega) (by omega) (by omega)) (va_cwS 3 F.2.2.2.2 gX5_why_X5_in rfl rfl rfl (by decide +kernel) ⟨Nat.le_of_ble_eq_true rfl, Nat.le_of_ble_eq_true rfl⟩) rfl rfl (Nat.le_of_ble_eq_true rfl) dX5_why_4 rfl ?_
  refine g_if_eq F (pc' := 10) (tgt := 19) dX5_why_7 rfl (by decide) (zC_R _) (fun c_7 => ?_) (fun c_7 => ?_)
  · skip
    have c_7 := zC_0 c_7
    refine g_bipush F (pc' := 21) dX5_why_19 rfl (by decide +kernel) ?_
    exact g_iret F hr hlk dX5_why_21 (⟨fun _ => rfl, fun q1 q2 => by exfalso; omega, keepR_0 M⟩)
  · skip
    have c_7 := zC_1 c_7
    refine g_iload_n F (pc' := 11) dX5_why_10 rfl rfl ?_
    refine g_iconst F (pc' := 12) dX5_why_11 rfl ?_
    refine g_iconst F (pc' := 13) dX5_why_12 rfl ?_
    refine g_callP F (pc' := 16) (st := []) (c5_in l w 0 1 (by omega) (by omega) (by omega)) (va_cwS 3 F.2.2.2.2 gX5_why_X5_in rfl rfl rfl (by decide +kernel) ⟨Nat.le_of_ble_eq_true rfl, Nat.le_of_ble_eq_true rfl⟩) rfl rfl (Nat.le_of_ble_eq_true rfl) dX5_why_13 rfl ?_
    refine g_if_ne F (pc' := 19) (tgt := 22) dX5_why_16 rfl (by decide) (zC_R _) (fun c_16 => ?_) (fun c_16 => ?_)
    · skip
      have c_16 := zC_1 c_16
      refine g_aload_n F (pc' := 23) dX5_why_22 rfl rfl ?_
      refine g_callV F K hXc X0 (pc' := 26) (st := []) (c5_layStems l a M ord hm hE ho htl) (cwV 0 F.2.2.2.2 gX5_why_X5_layStems rfl rfl rfl (by decide +kernel) ⟨Nat.le_of_ble_eq_true rfl, Nat.le_of_ble_eq_true rfl⟩) rfl rfl rfl rfl (Nat.le_of_ble_eq_true rfl) dX5_why_23 rfl (fun L q_23 => ?_)
      have hL : L = laid M ord := q_23
      have hL1 := laid_ok hR ho
      rw [← hL] at hL1
      obtain ⟨hn, hg, hs, hsep, hc⟩ := id hL1
      have hL4 : 0 ≤ L 2 4 ∧ L 2 4 ≤ 3 := by rw [hL]; exact h4
      refine g_iconst F (pc' := 27) dX5_why_26 rfl ?_
      refine g_istore_n F (pc' := 28) (lv' := [some (.ref (a 0)), some (.int (iI sz)), some (.int (iI w)), some (.int (iI (-1))), none, none]) dX5_why_27 rfl (by decide) rfl ?_
      refine g_iconst F (pc' := 29) dX5_why_28 rfl ?_
      refine g_istore F (pc' := 31) (lv' := [some (.ref (a 0)), some (.int (iI sz)), some (.int (iI w)), some (.int (iI (-1))), some (.int (iI 0)), none]) dX5_why_29 rfl (by decide) rfl ?_
      have lp_31 : ∀ (n_31 : Nat) (en : Int) (v : Int) (hm_31 : 9 - v < (n_31 : Int)) (hv : 0 ≤ v ∧ v ≤ L 0 11) (hen : en + 1 = lpp (wL L sz) v) (hll : ∀ j, 0 ≤ j → j < v → lpp (wL L sz) j + wL L sz j ≤ sz), GG p l e ({ frames := 3, cells := 0, slots := 0, locals := 73 } : Room) s m ([.ref (a 0), .int (iI sz), .int (iI w)].toArray) below meth c (PI D T a LR M (fun z M' => ((¬ (1 ≤ sz ∧ sz ≤ 60) ∨ ¬ (0 ≤ w ∧ w ≤ 1)) → z = -2) ∧ ((1 ≤ sz ∧ sz ≤ 60) → (0 ≤ w ∧ w ≤ 1) → whyQ (laid M ord 0 11) (wL (laid M ord) sz) sz w z) ∧ keepR M M') below ([.ref (a 0), .int (iI sz), .int (iI w)].toArray) s) D (AA T a LR M s.heap.size) 6 (wld T a LR L) 31 [some (.ref (a 0)), some (.int (iI sz)), some (.int (iI w)), some (.int (iI en)), some (.int (iI v)), none] [] := by
        intro n_31
        induction n_31 with
        | zero => intro en v hm_31 hv hen hll; exfalso; omega
        | succ n_31 ih_31 =>
          intro en v hm_31 hv hen hll
          have hz2 : 1 ≤ sz ∧ sz ≤ 60 := by omega
          have hlR := lpL_R hL1 hL4 hz2 v hv.1 hv.2
          have hls := lpp_s (w := wL L sz) (i := v) hv.1
          refine g_iload F (pc' := 33) dX5_why_31 rfl rfl ?_
          refine g_aload_n F (pc' := 34) dX5_why_33 rfl rfl ?_
          refine g_getI F K (k := 0) (fld := 11) (ci := 5) (z := L 0 11) (pc' := 37) iX5_why_X5 rfl rfl rfl (by decide) (List.mem_of_getElem? (i := 1) rfl) dX5_why_34 rfl (by first | rfl | simp [upf, sc]) ?_
          refine g_icmp_ge F (pc' := 40) (tgt := 99) dX5_why_37 rfl (by decide) (by omega) (by omega) (fun c_37 => ?_) (fun c_37 => ?_)
          · skip
            refine g_iload_n F (pc' := 100) dX5_why_99 rfl rfl ?_
            refine g_if_ne F (pc' := 103) (tgt := 107) dX5_why_100 rfl (by decide) (by omega) (fun c_100 => ?_) (fun c_100 => ?_)
            · skip
              refine g_bipush F (pc' := 109) dX5_why_107 rfl (by decide +kernel) ?_
              exact g_iret F hr hlk dX5_why_109 (⟨fun q => by exfalso; omega, fun _ _ => by rw [← hL]; exact Or.inl ⟨fun j q1 q2 => hll j q1 (by omega), by (repeat (first | rw [if_pos (by omega)] | rw [if_neg (by omega)]))⟩, keepR_l hL⟩)
            · skip
              refine g_iconst F (pc' := 104) dX5_why_103 rfl ?_
              refine g_goto F (tgt := 109) dX5_why_104 (by decide) ?_
              exact g_iret F hr hlk dX5_why_109 (⟨fun q => by exfalso; omega, fun _ _ => by rw [← hL]; exact Or.inl ⟨fun j q1 q2 => hll j q1 (by omega), by (repeat (first | rw [if_pos (by omega)] | rw [if_neg (by omega)]))⟩, keepR_l hL⟩)
          · skip
            refine g_aload_n F (pc' := 41) dX5_why_40 rfl rfl ?_
            refine g_aload_n F (pc' := 42) dX5_why_41 rfl rfl ?_
            refine g_getR F K (k := 0) (fld := 10) (ci := 5) (q := 9) (pc' := 45) iX5_why_X5 rfl rfl rfl (by decide) (List.mem_of_getElem? (i := 2) rfl) dX5_why_42 rfl ?_
            refine g_iload F (pc' := 47) dX5_why_45 rfl rfl ?_
            refine g_iald F K (k := 9) (v := L 9 v) (pc' := 48) rfl (by decide) (by omega) dX5_why_47 rfl (by first | rfl | simp [upf, sc]) ?_
            have hsv := hs v (by omega) (by omega)
            have hcv := hc (L 9 v) (by omega) (by omega)
            refine g_iload_n F (pc' := 49) dX5_why_48 rfl rfl ?_
            refine g_callI F K hXc X0 (pc' := 52) (st := []) (c5_dotsOf l a L (L 9 v) sz (by omega) (by omega) (by omega) (by omega) (by omega)) (cwV 2 F.2.2.2.2 gX5_why_X5_dotsOf rfl rfl rfl (by decide +kernel) ⟨Nat.le_of_ble_eq_true rfl, Nat.le_of_ble_eq_true rfl⟩) rfl rfl rfl rfl (Nat.le_of_ble_eq_true rfl) dX5_why_49 rfl (fun z_49 M_49 q_49 => ?_)
            obtain ⟨rfl, mq_49⟩ := q_49
            have mq_49 := mq_49.symm; subst mq_49
            have hwR := wL_R hL1 hL4 hz2 (s := v) (by omega) (by omega)
            have hwv : wL L sz v = dz (L 13 (L 9 v) / L 11 (L 9 v)) sz (L 2 4) := rfl
            refine g_istore F (pc' := 54) (lv' := [some (.ref (a 0)), some (.int (iI sz)), some (.int (iI w)), some (.int (iI en)), some (.int (iI v)), some (.int (iI (dz (L 13 (L 9 v) / L 11 (L 9 v)) sz (L 2 4))))]) dX5_why_52 rfl (by decide) rfl ?_
            refine g_iload_n F (pc' := 55) dX5_why_54 rfl rfl ?_
            refine g_iconst F (pc' := 56) dX5_why_55 rfl ?_
            refine g_iadd F (pc' := 57) dX5_why_56 rfl ?_
            refine g_iload F (pc' := 59) dX5_why_57 rfl rfl ?_
            refine g_iadd F (pc' := 60) dX5_why_59 rfl ?_
            refine g_iload_n F (pc' := 61) dX5_why_60 rfl rfl ?_
            refine g_icmp_le F (pc' := 64) (tgt := 86) dX5_why_61 rfl (by decide) (by omega) (by omega) (fun c_61 => ?_) (fun c_61 => ?_)
            · skip
              refine g_iload_n F (pc' := 87) dX5_why_86 rfl rfl ?_
              refine g_iconst F (pc' := 88) dX5_why_87 rfl ?_
              refine g_iload F (pc' := 90) dX5_why_88 rfl rfl ?_
              refine g_iadd F (pc' := 91) dX5_why_90 rfl ?_
              refine g_iadd F (pc' := 92) dX5_why_91 rfl ?_
              refine g_istore_n F (pc' := 93) (lv' := [some (.ref (a 0)), some (.int (iI sz)), some (.int (iI w)), some (.int (iI (en + (1 + (dz (L 13 (L 9 v) / L 11 (L 9 v)) sz (L 2 4)))))), some (.int (iI v)), some (.int (iI (dz (L 13 (L 9 v) / L 11 (L 9 v)) sz (L 2 4))))]) dX5_why_92 rfl (by decide) rfl ?_
              refine g_iinc F (pc' := 96) (lv' := [some (.ref (a 0)), some (.int (iI sz)), some (.int (iI w)), some (.int (iI (en + (1 + (dz (L 13 (L 9 v) / L 11 (L 9 v)) sz (L 2 4)))))), some (.int (iI (v + 1))), some (.int (iI (dz (L 13 (L 9 v) / L 11 (L 9 v)) sz (L 2 4))))]) dX5_why_93 rfl rfl (by decide) rfl ?_
              refine g_goto F (tgt := 31) dX5_why_96 (by decide) ?_
              refine g_lvw [some (.ref (a 0)), some (.int (iI sz)), some (.int (iI w)), some (.int (iI (en + (1 + (dz (L 13 (L 9 v) / L 11 (L 9 v)) sz (L 2 4)))))), some (.int (iI (v + 1))), none] (lvw_of _ _ [true, true, true, true, true, false] rfl) ?_
              exact ih_31 (en + (1 + (dz (L 13 (L 9 v) / L 11 (L 9 v)) sz (L 2 4)))) (v + 1) (by omega) (by omega) (by rw [hls, ← hen, hwv]; omega) (fun j q1 q2 => by by_cases hj : j = v; (rw [hj]; omega); exact hll j q1 (by omega))
            · skip
              refine g_iload_n F (pc' := 65) dX5_why_64 rfl rfl ?_
              refine g_iconst F (pc' := 66) dX5_why_65 rfl ?_
              refine g_icmp_ne F (pc' := 69) (tgt := 74) dX5_why_66 rfl (by decide) (by omega) (by decide) (fun c_66 => ?_) (fun c_66 => ?_)
              · skip
                refine g_iload F (pc' := 76) dX5_why_74 rfl rfl ?_
                refine g_iload_n F (pc' := 77) dX5_why_76 rfl rfl ?_
                refine g_icmp_le F (pc' := 80) (tgt := 84) dX5_why_77 rfl (by decide) (by omega) (by omega) (fun c_77 => ?_) (fun c_77 => ?_)
                · skip
                  refine g_iconst F (pc' := 85) dX5_why_84 rfl ?_
                  exact g_iret F hr hlk dX5_why_85 (⟨fun q => by exfalso; omega, fun _ _ => by rw [← hL]; exact Or.inr ⟨v, by omega, by omega, hll, by (repeat (first | rw [if_pos (by omega)] | rw [if_neg (by omega)]))⟩, keepR_l hL⟩)
                · skip
                  refine g_iconst F (pc' := 81) dX5_why_80 rfl ?_
                  refine g_goto F (tgt := 85) dX5_why_81 (by decide) ?_
                  exact g_iret F hr hlk dX5_why_85 (⟨fun q => by exfalso; omega, fun _ _ => by rw [← hL]; exact Or.inr ⟨v, by omega, by omega, hll, by (repeat (first | rw [if_pos (by omega)] | rw [if_neg (by omega)]))⟩, keepR_l hL⟩)
              · skip
                refine g_iload F (pc' := 71) dX5_why_69 rfl rfl ?_
                refine g_goto F (tgt := 85) dX5_why_71 (by decide) ?_
                exact g_iret F hr hlk dX5_why_85 (⟨fun q => by exfalso; omega, fun _ _ => by rw [← hL]; exact Or.inr ⟨v, by omega, by omega, hll, by (repeat (first | rw [if_pos (by omega)] | rw [if_neg (by omega)]))⟩, keepR_l hL⟩)
      exact lp_31 ((9 - 0 : Int).toNat + 1) (-1) 0 (by omega) (by omega) (by rfl) (fun j q1 q2 => by omega)
    · skip
      have c_16 := zC_0 c_16
      refine g_bipush F (pc' := 21) dX5_why_19 rfl (by decide +kernel) ?_
      exact g_iret F hr hlk dX5_why_21 (⟨fun _ => rfl, fun q1 q2 => by exfalso; omega, keepR_0 M⟩)
