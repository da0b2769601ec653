/-! ===== the class: a size once worked out is kept; what lies between ===== -/
def kOKf (M : Mem) (kn b d ld : Int → Int) : Prop := (∀ j, 0 ≤ kn j ∧ kn j ≤ 1) ∧ ∀ t, 1 ≤ t → t ≤ 60 → kn t ≠ 0 → goodX M t (b t) (d t) ld
def kOK (M : Mem) : Prop := kOKf M (M 37) (M 36) (M 35) (M 38)
theorem goodX_R {M : Mem} {sz b d : Int} {ld : Int → Int} (hn : M 24 0 ≤ 8) (h : goodX M sz b d ld) : -6 ≤ b ∧ b < 9 := by
  rcases h.1 with q | q
  · have := q.1; omega
  · have := q.1; omega
theorem goodX_z {M : Mem} {sz b d z : Int} {ld : Int → Int} (h : goodX M sz b d ld) (hz : (b = -6 ∧ z = 1) ∨ (b ≠ -6 ∧ z = 0)) : z = zC (okF M sz) := by
  rcases h.1 with q | q
  · rw [zC_t q.2]; have := q.1; omega
  · rw [zC_f (fun o => by have := o b q.1.1 q.1.2; have := q.2.1; omega)]
    have := q.1; omega
def iaQ (M : Mem) (sz z : Int) (M' : Mem) : Prop := keepF M M' ∧ z = zC (okF M sz) ∧ kOK M' ∧ goodX M sz (M' 36 sz) (M' 35 sz) (M' 38)
theorem iaQ_a {M : Mem} {sz z : Int} (hK : kOK M) (hz : 1 ≤ sz ∧ sz ≤ 60) (hk : M 37 sz ≠ 0) (h : (M 36 sz = -6 ∧ z = 1) ∨ (M 36 sz ≠ -6 ∧ z = 0)) : iaQ M sz z M :=
  ⟨fun _ _ => rfl, goodX_z (hK.2 sz hz.1 hz.2 hk) h, hK, hK.2 sz hz.1 hz.2 hk⟩
theorem goodX_ld {M : Mem} {sz b d : Int} {ld ld2 : Int → Int} (h : goodX M sz b d ld) (hn : M 24 0 ≤ 8) (he : ∀ j, sz * 8 ≤ j → j < sz * 8 + 8 → ld2 j = ld j) : goodX M sz b d ld2 :=
  ⟨h.1, fun q => ⟨(h.2 q).1, fun s a c => by rw [he _ (by omega) (by omega)]; exact (h.2 q).2 s a c⟩⟩
theorem goodX_M {M M' : Mem} (hk : keepF M M') {sz b d : Int} {ld : Int → Int} : goodX M' sz b d ld = goodX M sz b d ld := by
  have e : ∀ k : Nat, k < 34 → M' k = M k := fun k q => hk k (Or.inl q)
  have w : wF M' sz = wF M sz := by funext s; unfold wF; rw [e 32 (by decide), e 29 (by decide), e 30 (by decide), e 9 (by decide)]
  unfold goodX blB okF leastF dotF lpF roomF scF gcF lpF
  rw [w, e 24 (by decide), e 9 (by decide), e 25 (by decide), e 26 (by decide)]
theorem iaQ_b {M M1 M' : Mem} {sz z : Int} {f35 f36 f37 f38 : Int → Int} (hK : kOK M) (hz : 1 ≤ sz ∧ sz ≤ 60) (_ : keepF M M1) (hg : goodX M sz (f36 sz) (f35 sz) f38) (ho : ∀ t, t ≠ sz → f36 t = M 36 t ∧ f35 t = M 35 t) (hl : ∀ j, j < sz * 8 ∨ sz * 8 + 8 ≤ j → f38 j = M 38 j) (h37 : f37 = M 37) (hk : keepF M M') (e35 : M' 35 = f35) (e36 : M' 36 = f36) (e37 : M' 37 = upf f37 sz 1) (e38 : M' 38 = f38) (h : M 24 0 ≤ 8 ∧ ((f36 sz = -6 ∧ z = 1) ∨ (f36 sz ≠ -6 ∧ z = 0))) : iaQ M sz z M' := by
  refine ⟨hk, goodX_z hg h.2, ⟨fun j => ?_, fun t t1 t2 t3 => ?_⟩, ?_⟩
  · rw [e37, h37]
    by_cases hj : j = sz
    · rw [hj, upf_s]; decide
    · rw [upf_n hj]; exact hK.1 j
  · rw [goodX_M hk, e36, e35, e38]
    by_cases hj : t = sz
    · rw [hj]; exact hg
    · rw [e37, h37, upf_n hj] at t3
      rw [(ho t hj).1, (ho t hj).2]
      exact goodX_ld (hK.2 t t1 t2 t3) h.1 (fun j a b => hl j (by omega))
  · rw [e36, e35, e38]; exact hg
theorem mulA_R {x y A B : Int} (hx : -A ≤ x ∧ x ≤ A) (hy : -B ≤ y ∧ y ≤ B) : -(A * B) ≤ x * y ∧ x * y ≤ A * B := by
  have a := Int.mul_nonneg (show 0 ≤ A - x by omega) (show 0 ≤ B - y by omega)
  have b := Int.mul_nonneg (show 0 ≤ A + x by omega) (show 0 ≤ B + y by omega)
  have c := Int.mul_nonneg (show 0 ≤ A - x by omega) (show 0 ≤ B + y by omega)
  have d := Int.mul_nonneg (show 0 ≤ A + x by omega) (show 0 ≤ B - y by omega)
  rw [Int.sub_mul, Int.mul_sub, Int.mul_sub] at a
  rw [Int.add_mul, Int.mul_add, Int.mul_add] at b
  rw [Int.sub_mul, Int.mul_add, Int.mul_add] at c
  rw [Int.add_mul, Int.mul_sub, Int.mul_sub] at d
  omega
/-- where an X is drawn, from a stem on -/
def plR (n x : Int) (lf rt ld w : Int → Int) (sz : Int) : Nat → Int → Int
  | 0, _ => 1000 * (ld (n - 1) + w (n - 1)) + (x - rt (n - 1)) * sz
  | d + 1, s => if x ≤ rt s then 1000 * ld s + Int.tdiv ((x - lf s) * (1000 * (ld s + w s) - 1000 * ld s)) (rt s - lf s)
    else if s + 1 < n ∧ x < lf (s + 1) then 1000 * (ld s + w s) + Int.tdiv ((x - rt s) * (1000 * ld (s + 1) - 1000 * (ld s + w s))) (lf (s + 1) - rt s)
    else plR n x lf rt ld w sz d (s + 1)
def plF (n x : Int) (lf rt ld w : Int → Int) (sz : Int) : Int := if n = 0 then x * sz else if x ≤ lf 0 then 1000 * ld 0 - (lf 0 - x) * sz else plR n x lf rt ld w sz (n - 0).toNat 0
section PL
variable {n x : Int} {lf rt ld w : Int → Int} {sz s : Int}
theorem plF_a (h : n = 0) : plF n x lf rt ld w sz = x * sz := if_pos h
theorem plF_b (h : n ≠ 0) (h2 : x ≤ lf 0) : plF n x lf rt ld w sz = 1000 * ld 0 - (lf 0 - x) * sz := by
  unfold plF; rw [if_neg h, if_pos h2]
theorem plF_c (h : 0 < n) (h2 : lf 0 < x) : plF n x lf rt ld w sz = plR n x lf rt ld w sz (n - 0).toNat 0 := by
  unfold plF; rw [if_neg (by omega), if_neg (by omega)]
theorem plR_a (h : 0 ≤ s ∧ s < n) (hx : x ≤ rt s) : plR n x lf rt ld w sz (n - s).toNat s = 1000 * ld s + Int.tdiv ((x - lf s) * (1000 * (ld s + w s) - 1000 * ld s)) (rt s - lf s) := by
  rw [show (n - s).toNat = (n - s - 1).toNat + 1 by omega]
  unfold plR
  rw [if_pos hx]
theorem plR_c (h : 0 ≤ s ∧ s < n) (hx : rt s < x) (h2 : ¬ (s + 1 < n ∧ x < lf (s + 1))) : plR n x lf rt ld w sz (n - s).toNat s = plR n x lf rt ld w sz (n - (s + 1)).toNat (s + 1) := by
  rw [show (n - s).toNat = (n - (s + 1)).toNat + 1 by omega]
  show (if x ≤ rt s then _ else if s + 1 < n ∧ x < lf (s + 1) then _ else _) = _
  rw [if_neg (by omega), if_neg h2]
theorem plR_t : plR n x lf rt ld w sz (n - n).toNat n = 1000 * (ld (n - 1) + w (n - 1)) + (x - rt (n - 1)) * sz := by
  rw [show (n - n).toNat = 0 by omega]; rfl
theorem plR_b (h : 0 ≤ s) (h1 : s + 1 < n) (hx : rt s < x) (h2 : x ≤ lf (s + 1)) (h3 : rt s < lf (s + 1)) (h4 : lf (s + 1) < rt (s + 1)) : plR n x lf rt ld w sz (n - s).toNat s = 1000 * (ld s + w s) + Int.tdiv ((x - rt s) * (1000 * ld (s + 1) - 1000 * (ld s + w s))) (lf (s + 1) - rt s) := by
  by_cases c : x < lf (s + 1)
  · rw [show (n - s).toNat = (n - s - 1).toNat + 1 by omega]
    show (if x ≤ rt s then _ else if s + 1 < n ∧ x < lf (s + 1) then _ else _) = _
    rw [if_neg (by omega), if_pos ⟨h1, c⟩]
  · rw [plR_c ⟨h, by omega⟩ hx (by omega), plR_a ⟨by omega, h1⟩ (by omega), show x = lf (s + 1) by omega, Int.sub_self, Int.zero_mul, Int.zero_tdiv, Int.mul_tdiv_cancel_left _ (by omega)]
    omega
end PL
theorem iX0_isAt_X0 : ∀ w ∈ wsX00, w ∈ wsX0_isAt := fun _ h => List.mem_cons_of_mem _ (List.mem_append_left _ (List.mem_append_left _ (List.mem_append_right _ h)))
theorem iX0_isAt_X1 : ∀ w ∈ wsX10, w ∈ wsX0_isAt := fun _ h => List.mem_cons_of_mem _ (List.mem_append_right _ h)
theorem iX0_isAt_X3 : ∀ w ∈ wsX30, w ∈ wsX0_isAt := fun _ h => List.mem_cons_of_mem _ (List.mem_append_left _ (List.mem_append_right _ h))
set_option maxHeartbeats 4000000 in
set_option maxRecDepth 100000 in
theorem c0_isAt (l : Launch) (a : Nat → Nat) (M : Mem) (sz : Int) (hS : stemOK M) (hz : 1 ≤ sz ∧ sz ≤ 60) (hK : kOK M) : CtI XS l yX0_isAt wsX0_isAt ({ frames := 5, cells := 0, slots := 0, locals := 119 } : Room) LC a M [.ref (a 34), .int (iI sz)] (fun z M' => iaQ M sz z M') := by
  refine CtI.of (y := yX0_isAt) (cc := cX0_isAt) (maxL := 2) (ret := (some .boolean)) (lv := [some (.ref (a 34)), some (.int (iI sz))]) (by decide) rfl (Nat.le_of_ble_eq_true rfl) (lvOK_of _ _ ⟨rfl, rfl⟩) ?_
  intro p e s m below meth c D T F K X0 hr hlk
  have hXc := XS_c
  obtain ⟨hn, h1, h2, h3, h4, hst, hgr⟩ := id hS
  have hK0 := hK.1 sz
  refine g_aload_n F (pc' := 1) dX0_isAt_0 rfl rfl ?_
  refine g_getR F K (k := 34) (fld := 2) (ci := 0) (q := 37) (pc' := 4) iX0_isAt_X0 rfl rfl rfl (by decide) (List.mem_of_getElem? (i := 1) rfl) dX0_isAt_1 rfl ?_
  refine g_iload_n F (pc' := 5) dX0_isAt_4 rfl rfl ?_
  refine g_zald F K (k := 37) (v := M 37 sz) (pc' := 6) rfl (by decide) (by omega) dX0_isAt_5 rfl (by first | rfl | simp [upf, sc]) ?_
  refine g_if_ne F (pc' := 9) (tgt := 21) dX0_isAt_6 rfl (by decide) (by omega) (fun c_6 => ?_) (fun c_6 => ?_)
  · skip
    refine g_aload_n F (pc' := 22) dX0_isAt_21 rfl rfl ?_
    refine g_getR F K (k := 34) (fld := 1) (ci := 0) (q := 36) (pc' := 25) iX0_isAt_X0 rfl rfl rfl (by decide) (List.mem_of_getElem? (i := 2) rfl) dX0_isAt_22 rfl ?_
    refine g_iload_n F (pc' := 26) dX0_isAt_25 rfl rfl ?_
    refine g_iald F K (k := 36) (v := M 36 sz) (pc' := 27) rfl (by decide) (by omega) dX0_isAt_26 rfl (by first | rfl | simp [upf, sc]) ?_
    have b_26 := goodX_R hn.2 (hK.2 sz hz.1 hz.2 c_6)
    refine g_bipush F (pc' := 29) dX0_isAt_27 rfl (by decide +kernel) ?_
    refine g_icmp_ne F (pc' := 32) (tgt := 36) dX0_isAt_29 rfl (by decide) (by omega) (by decide) (fun c_29 => ?_) (fun c_29 => ?_)
    · skip
      refine g_iconst F (pc' := 37) dX0_isAt_36 rfl ?_
      exact g_zret F hr hlk dX0_isAt_37 (Or.inl rfl) (iaQ_a hK hz c_6 (by omega))
    · skip
      refine g_iconst F (pc' := 33) dX0_isAt_32 rfl ?_
      refine g_goto F (tgt := 37) dX0_isAt_33 (by decide) ?_
      exact g_zret F hr hlk dX0_isAt_37 (Or.inr rfl) (iaQ_a hK hz c_6 (by omega))
  · skip
    refine g_aload_n F (pc' := 10) dX0_isAt_9 rfl rfl ?_
    refine g_iload_n F (pc' := 11) dX0_isAt_10 rfl rfl ?_
    refine g_callV F K hXc X0 (pc' := 14) (st := []) (c0_workOut l a M sz (by exact hS) (by omega)) (cwV 1 F.2.2.2.2 gX0_isAt_X0_workOut rfl rfl rfl (by decide +kernel) ⟨Nat.le_of_ble_eq_true rfl, Nat.le_of_ble_eq_true rfl⟩) rfl rfl rfl rfl (Nat.le_of_ble_eq_true rfl) dX0_isAt_11 rfl (fun M_11 q_11 => ?_)
    obtain ⟨k1, hg1, ho1, hl1, h371⟩ := q_11
    obtain ⟨f34, f35, f36, f37, f38, f39, f40, f41, f42, rfl⟩ := keepF_ex k1
    have hg : goodX M sz (f36 sz) (f35 sz) f38 := hg1
    have ho : ∀ t, t ≠ sz → f36 t = M 36 t ∧ f35 t = M 35 t := ho1
    have hl : ∀ j, j < sz * 8 ∨ sz * 8 + 8 ≤ j → f38 j = M 38 j := hl1
    have h37 : f37 = M 37 := h371
    refine h_mem (sc (sc (sc (sc (sc (sc (sc (sc (sc M 34 f34) 35 f35) 36 f36) 37 f37) 38 f38) 39 f39) 40 f40) 41 f41) 42 f42) rfl ?_
    refine g_aload_n F (pc' := 15) dX0_isAt_14 rfl rfl ?_
    refine g_getR F K (k := 34) (fld := 2) (ci := 0) (q := 37) (pc' := 18) iX0_isAt_X0 rfl rfl rfl (by decide) (List.mem_of_getElem? (i := 1) rfl) dX0_isAt_15 rfl ?_
    refine g_iload_n F (pc' := 19) dX0_isAt_18 rfl rfl ?_
    refine g_iconst F (pc' := 20) dX0_isAt_19 rfl ?_
    refine h_zast F K (k := 37) (pc' := 21) (sc (sc (sc (sc (sc (sc (sc (sc (sc M 34 f34) 35 f35) 36 f36) 37 (upf f37 sz 1)) 38 f38) 39 f39) 40 f40) 41 f41) 42 f42) (mem_up (by rfl) (by intro j hj; simp only [sc, if_neg hj])) rfl (by decide) (by omega) (by omega) dX0_isAt_20 rfl ?_
    refine g_aload_n F (pc' := 22) dX0_isAt_21 rfl rfl ?_
    refine g_getR F K (k := 34) (fld := 1) (ci := 0) (q := 36) (pc' := 25) iX0_isAt_X0 rfl rfl rfl (by decide) (List.mem_of_getElem? (i := 2) rfl) dX0_isAt_22 rfl ?_
    refine g_iload_n F (pc' := 26) dX0_isAt_25 rfl rfl ?_
    refine g_iald F K (k := 36) (v := f36 sz) (pc' := 27) rfl (by decide) (by omega) dX0_isAt_26 rfl (by first | rfl | simp [upf, sc]) ?_
    have b_26 := goodX_R hn.2 hg
    refine g_bipush F (pc' := 29) dX0_isAt_27 rfl (by decide +kernel) ?_
    refine g_icmp_ne F (pc' := 32) (tgt := 36) dX0_isAt_29 rfl (by decide) (by omega) (by decide) (fun c_29 => ?_) (fun c_29 => ?_)
    · skip
      refine g_iconst F (pc' := 37) dX0_isAt_36 rfl ?_
      exact g_zret F hr hlk dX0_isAt_37 (Or.inl rfl) (iaQ_b hK hz k1 hg ho hl h37 (M' := (sc (sc (sc (sc (sc (sc (sc (sc (sc M 34 f34) 35 f35) 36 f36) 37 (upf f37 sz 1)) 38 f38) 39 f39) 40 f40) 41 f41) 42 f42)) (fun k q => by simp only [sc]; (repeat' split) <;> first | rfl | (exfalso; omega)) rfl rfl rfl rfl (by omega))
    · skip
      refine g_iconst F (pc' := 33) dX0_isAt_32 rfl ?_
      refine g_goto F (tgt := 37) dX0_isAt_33 (by decide) ?_
      exact g_zret F hr hlk dX0_isAt_37 (Or.inr rfl) (iaQ_b hK hz k1 hg ho hl h37 (M' := (sc (sc (sc (sc (sc (sc (sc (sc (sc M 34 f34) 35 f35) 36 f36) 37 (upf f37 sz 1)) 38 f38) 39 f39) 40 f40) 41 f41) 42 f42)) (fun k q => by simp only [sc]; (repeat' split) <;> first | rfl | (exfalso; omega)) rfl rfl rfl rfl (by omega))

theorem iX0_drawn_X0 : ∀ w ∈ wsX00, w ∈ wsX0_drawn := fun _ h => List.mem_cons_of_mem _ (List.mem_append_left _ (List.mem_append_left _ (List.mem_append_right _ h)))
theorem iX0_drawn_X1 : ∀ w ∈ wsX10, w ∈ wsX0_drawn := fun _ h => List.mem_cons_of_mem _ (List.mem_append_right _ h)
theorem iX0_drawn_X3 : ∀ w ∈ wsX30, w ∈ wsX0_drawn := fun _ h => List.mem_cons_of_mem _ (List.mem_append_left _ (List.mem_append_right _ h))
set_option maxHeartbeats 4000000 in
set_option maxRecDepth 100000 in
theorem c0_drawn (l : Launch) (a : Nat → Nat) (M : Mem) (sz x : Int) (hS : stemOK M) (hz : 1 ≤ sz ∧ sz ≤ 60) (hx : 0 ≤ x ∧ x ≤ 999) (hlr : ∀ j, 0 ≤ j → j < M 24 0 → M 25 j < M 26 j) (hsep : ∀ j, 0 ≤ j → j + 1 < M 24 0 → M 26 j < M 25 (j + 1)) (hld : ∀ j, 0 ≤ j → j < M 24 0 → 0 ≤ M 38 (sz * 8 + j) ∧ M 38 (sz * 8 + j) ≤ 60) : CtI XS l yX0_drawn wsX0_drawn ({ frames := 3, cells := 0, slots := 0, locals := 68 } : Room) LC a M [.ref (a 34), .int (iI sz), .int (iI x)] (fun z M' => z = plF (M 24 0) x (M 25) (M 26) (fun s => M 38 (sz * 8 + s)) (wF M sz) sz ∧ M' = M) := by
  refine CtI.of (y := yX0_drawn) (cc := cX0_drawn) (maxL := 10) (ret := (some .int)) (lv := [some (.ref (a 34)), some (.int (iI sz)), some (.int (iI x)), none, none, none, none, none, none, none]) (by decide) rfl (Nat.le_of_ble_eq_true rfl) (lvOK_of _ _ ⟨rfl, rfl⟩) ?_
  intro p e s m below meth c D T F K X0 hr hlk
  have hXc := XS_c
  obtain ⟨hn, h1, h2, h3, h4, hst, hgr⟩ := id hS
  refine g_aload_n F (pc' := 1) dX0_drawn_0 rfl rfl ?_
  refine g_getR F K (k := 34) (fld := 5) (ci := 0) (q := 24) (pc' := 4) iX0_drawn_X0 rfl rfl rfl (by decide) (List.mem_of_getElem? (i := 1) rfl) dX0_drawn_1 rfl ?_
  refine g_getI F K (k := 24) (fld := 0) (ci := 3) (z := M 24 0) (pc' := 7) iX0_drawn_X3 rfl rfl rfl (by decide) (List.mem_of_getElem? (i := 2) rfl) dX0_drawn_4 rfl (by first | rfl | simp [upf, sc]) ?_
  refine g_if_ne F (pc' := 10) (tgt := 14) dX0_drawn_7 rfl (by decide) (by omega) (fun c_7 => ?_) (fun c_7 => ?_)
  · skip
    have hn0 : 0 < M 24 0 := by omega
    have hs0 := hst 0 (by omega) hn0
    have hl0 := hld 0 (by omega) hn0
    refine g_aload_n F (pc' := 15) dX0_drawn_14 rfl rfl ?_
    refine g_getR F K (k := 34) (fld := 5) (ci := 0) (q := 24) (pc' := 18) iX0_drawn_X0 rfl rfl rfl (by decide) (List.mem_of_getElem? (i := 1) rfl) dX0_drawn_15 rfl ?_
    refine g_getR F K (k := 24) (fld := 1) (ci := 3) (q := 25) (pc' := 21) iX0_drawn_X3 rfl rfl rfl (by decide) (List.mem_of_getElem? (i := 3) rfl) dX0_drawn_18 rfl ?_
    refine g_iconst F (pc' := 22) dX0_drawn_21 rfl ?_
    refine g_iald F K (k := 25) (v := M 25 0) (pc' := 23) rfl (by decide) (by decide) dX0_drawn_22 rfl (by first | rfl | simp [upf, sc]) ?_
    refine g_istore_n F (pc' := 24) (lv' := [some (.ref (a 34)), some (.int (iI sz)), some (.int (iI x)), some (.int (iI (M 25 0))), none, none, none, none, none, none]) dX0_drawn_23 rfl (by decide) rfl ?_
    refine g_sipush F (pc' := 27) dX0_drawn_24 rfl (by decide +kernel) ?_
    refine g_aload_n F (pc' := 28) dX0_drawn_27 rfl rfl ?_
    refine g_iload_n F (pc' := 29) dX0_drawn_28 rfl rfl ?_
    refine g_iconst F (pc' := 30) dX0_drawn_29 rfl ?_
    refine g_callI F K hXc X0 (pc' := 33) (st := [.int (iI 1000)]) (c0_leftDot l a M sz 0 (by omega) (by omega)) (cwV 2 F.2.2.2.2 gX0_drawn_X0_leftDot rfl rfl rfl (by decide +kernel) ⟨Nat.le_of_ble_eq_true rfl, Nat.le_of_ble_eq_true rfl⟩) rfl rfl rfl rfl (Nat.le_of_ble_eq_true rfl) dX0_drawn_30 rfl (fun z_30 M_30 q_30 => ?_)
    obtain ⟨rfl, mq_30⟩ := q_30
    have mq_30 := mq_30.symm; subst mq_30
    refine g_imul F (pc' := 34) dX0_drawn_33 rfl ?_
    refine g_istore F (pc' := 36) (lv' := [some (.ref (a 34)), some (.int (iI sz)), some (.int (iI x)), some (.int (iI (M 25 0))), some (.int (iI (1000 * (M 38 (sz * 8 + 0))))), none, none, none, none, none]) dX0_drawn_34 rfl (by decide) rfl ?_
    refine g_iload_n F (pc' := 37) dX0_drawn_36 rfl rfl ?_
    refine g_iload_n F (pc' := 38) dX0_drawn_37 rfl rfl ?_
    refine g_icmp_gt F (pc' := 41) (tgt := 50) dX0_drawn_38 rfl (by decide) (by omega) (by omega) (fun c_38 => ?_) (fun c_38 => ?_)
    · skip
      refine g_iconst F (pc' := 51) dX0_drawn_50 rfl ?_
      refine g_istore F (pc' := 53) (lv' := [some (.ref (a 34)), some (.int (iI sz)), some (.int (iI x)), some (.int (iI (M 25 0))), some (.int (iI (1000 * (M 38 (sz * 8 + 0))))), some (.int (iI 1)), none, none, none, none]) dX0_drawn_51 rfl (by decide) rfl ?_
      have lp_53 : ∀ (n_53 : Nat) (kn : Int) (at1 : Int) (k : Int) (hm_53 : 20 - k < (n_53 : Int)) (hk0 : 1 ≤ k ∧ k ≤ 16) (hI : ∃ v, (0 ≤ v ∧ v < M 24 0) ∧ ((k = 2 * v + 1 ∧ kn = M 25 v ∧ at1 = 1000 * M 38 (sz * 8 + v) ∧ M 25 v < x) ∨ (k = 2 * v + 2 ∧ kn = M 26 v ∧ at1 = 1000 * (M 38 (sz * 8 + v) + wF M sz v) ∧ M 26 v < x)) ∧ plF (M 24 0) x (M 25) (M 26) (fun s => M 38 (sz * 8 + s)) (wF M sz) sz = (plR (M 24 0) x (M 25) (M 26) (fun s => M 38 (sz * 8 + s)) (wF M sz) sz (M 24 0 - v).toNat v)), GG p l e ({ frames := 3, cells := 0, slots := 0, locals := 68 } : Room) s m ([.ref (a 34), .int (iI sz), .int (iI x)].toArray) below meth c (PI D T a LC M (fun z M' => z = plF (M 24 0) x (M 25) (M 26) (fun s => M 38 (sz * 8 + s)) (wF M sz) sz ∧ M' = M) below ([.ref (a 34), .int (iI sz), .int (iI x)].toArray) s) D (AA T a LC M s.heap.size) 10 (wld T a LC M) 53 [some (.ref (a 34)), some (.int (iI sz)), some (.int (iI x)), some (.int (iI kn)), some (.int (iI at1)), some (.int (iI k)), none, none, none, none] [] := by
        intro n_53
        induction n_53 with
        | zero => intro kn at1 k hm_53 hk0 hI; exfalso; omega
        | succ n_53 ih_53 =>
          intro kn at1 k hm_53 hk0 hI
          obtain ⟨v, hv, hk, hZ⟩ := hI
          have htd : Int.tdiv k 2 = k / 2 := Int.tdiv_eq_ediv_of_nonneg (by omega)
          have htm : Int.tmod k 2 = k % 2 := Int.tmod_eq_emod_of_nonneg (by omega)
          refine g_iload F (pc' := 55) dX0_drawn_53 rfl rfl ?_
          refine g_iconst F (pc' := 56) dX0_drawn_55 rfl ?_
          refine g_aload_n F (pc' := 57) dX0_drawn_56 rfl rfl ?_
          refine g_getR F K (k := 34) (fld := 5) (ci := 0) (q := 24) (pc' := 60) iX0_drawn_X0 rfl rfl rfl (by decide) (List.mem_of_getElem? (i := 1) rfl) dX0_drawn_57 rfl ?_
          refine g_getI F K (k := 24) (fld := 0) (ci := 3) (z := M 24 0) (pc' := 63) iX0_drawn_X3 rfl rfl rfl (by decide) (List.mem_of_getElem? (i := 2) rfl) dX0_drawn_60 rfl (by first | rfl | simp [upf, sc]) ?_
          refine g_imul F (pc' := 64) dX0_drawn_63 rfl ?_
          refine g_icmp_ge F (pc' := 67) (tgt := 207) dX0_drawn_64 rfl (by decide) (by omega) (by omega) (fun c_64 => ?_) (fun c_64 => ?_)
          · skip
            refine g_iload F (pc' := 209) dX0_drawn_207 rfl rfl ?_
            refine g_iload_n F (pc' := 210) dX0_drawn_209 rfl rfl ?_
            refine g_iload_n F (pc' := 211) dX0_drawn_210 rfl rfl ?_
            refine g_isub F (pc' := 212) dX0_drawn_211 rfl ?_
            refine g_iload_n F (pc' := 213) dX0_drawn_212 rfl rfl ?_
            refine g_imul F (pc' := 214) dX0_drawn_213 rfl ?_
            refine g_iadd F (pc' := 215) dX0_drawn_214 rfl ?_
            exact g_iret F hr hlk dX0_drawn_215 (⟨by rw [hZ, show v = M 24 0 - 1 by omega, plR_c (by omega) (by rw [show M 24 0 - 1 = v by omega]; omega) (by omega)]; rcases hk with q | q; (exfalso; omega); (rw [show M 24 0 - 1 + 1 = M 24 0 by omega, plR_t, q.2.1, q.2.2.1, show M 24 0 - 1 = v by omega]), rfl⟩)
          · skip
            refine g_iload F (pc' := 69) dX0_drawn_67 rfl rfl ?_
            refine g_iconst F (pc' := 70) dX0_drawn_69 rfl ?_
            refine g_idiv F (pc' := 71) dX0_drawn_70 rfl (by omega) (by decide) (by omega) ?_
            refine g_istore F (pc' := 73) (lv' := [some (.ref (a 34)), some (.int (iI sz)), some (.int (iI x)), some (.int (iI kn)), some (.int (iI at1)), some (.int (iI k)), some (.int (iI (Int.tdiv k 2))), none, none, none]) dX0_drawn_71 rfl (by decide) rfl ?_
            refine g_iload F (pc' := 75) dX0_drawn_73 rfl rfl ?_
            refine g_iconst F (pc' := 76) dX0_drawn_75 rfl ?_
            refine g_irem F (pc' := 77) dX0_drawn_76 rfl (by omega) (by decide) (by omega) ?_
            refine g_iconst F (pc' := 78) dX0_drawn_77 rfl ?_
            refine g_icmp_ne F (pc' := 81) (tgt := 85) dX0_drawn_78 rfl (by decide) (by omega) (by decide) (fun c_78 => ?_) (fun c_78 => ?_)
            · skip
              have hk2 : Int.tdiv k 2 = v + 1 := by rcases hk with q | q <;> omega
              have ho2 : k = 2 * v + 2 ∧ kn = M 26 v ∧ at1 = 1000 * (M 38 (sz * 8 + v) + wF M sz v) ∧ M 26 v < x := by rcases hk with q | q; (exfalso; omega); exact q
              rw [hk2]
              have hv1 : v + 1 < M 24 0 := by omega
              have hsv := hst v hv.1 hv.2
              have hsv1 := hst (v + 1) (by omega) hv1
              have hlv := hlr (v + 1) (by omega) hv1
              have hsp := hsep v hv.1 hv1
              have hd1 := hld v hv.1 hv.2
              have hd2 := hld (v + 1) (by omega) hv1
              have hwv := wF_R hS hz hv.1 hv.2
              refine g_iconst F (pc' := 86) dX0_drawn_85 rfl ?_
              refine g_istore F (pc' := 88) (lv' := [some (.ref (a 34)), some (.int (iI sz)), some (.int (iI x)), some (.int (iI kn)), some (.int (iI at1)), some (.int (iI k)), some (.int (iI (v + 1))), some (.int (iI 0)), none, none]) dX0_drawn_86 rfl (by decide) rfl ?_
              refine g_iload F (pc' := 90) dX0_drawn_88 rfl rfl ?_
              refine g_if_eq F (pc' := 93) (tgt := 106) dX0_drawn_90 rfl (by decide) (by decide) (fun c_90 => ?_) (fun c_90 => ?_)
              · skip
                refine g_aload_n F (pc' := 107) dX0_drawn_106 rfl rfl ?_
                refine g_getR F K (k := 34) (fld := 5) (ci := 0) (q := 24) (pc' := 110) iX0_drawn_X0 rfl rfl rfl (by decide) (List.mem_of_getElem? (i := 1) rfl) dX0_drawn_107 rfl ?_
                refine g_getR F K (k := 24) (fld := 1) (ci := 3) (q := 25) (pc' := 113) iX0_drawn_X3 rfl rfl rfl (by decide) (List.mem_of_getElem? (i := 3) rfl) dX0_drawn_110 rfl ?_
                refine g_iload F (pc' := 115) dX0_drawn_113 rfl rfl ?_
                refine g_iald F K (k := 25) (v := M 25 (v + 1)) (pc' := 116) rfl (by decide) (by omega) dX0_drawn_115 rfl (by first | rfl | simp [upf, sc]) ?_
                refine g_istore F (pc' := 118) (lv' := [some (.ref (a 34)), some (.int (iI sz)), some (.int (iI x)), some (.int (iI kn)), some (.int (iI at1)), some (.int (iI k)), some (.int (iI (v + 1))), some (.int (iI 0)), some (.int (iI (M 25 (v + 1)))), none]) dX0_drawn_116 rfl (by decide) rfl ?_
                refine g_aload_n F (pc' := 119) dX0_drawn_118 rfl rfl ?_
                refine g_iload_n F (pc' := 120) dX0_drawn_119 rfl rfl ?_
                refine g_iload F (pc' := 122) dX0_drawn_120 rfl rfl ?_
                refine g_callI F K hXc X0 (pc' := 125) (st := []) (c0_leftDot l a M sz (v + 1) (by omega) (by omega)) (cwV 2 F.2.2.2.2 gX0_drawn_X0_leftDot rfl rfl rfl (by decide +kernel) ⟨Nat.le_of_ble_eq_true rfl, Nat.le_of_ble_eq_true rfl⟩) rfl rfl rfl rfl (Nat.le_of_ble_eq_true rfl) dX0_drawn_122 rfl (fun z_122 M_122 q_122 => ?_)
                obtain ⟨rfl, mq_122⟩ := q_122
                have mq_122 := mq_122.symm; subst mq_122
                refine g_iload F (pc' := 127) dX0_drawn_125 rfl rfl ?_
                refine g_if_eq F (pc' := 130) (tgt := 152) dX0_drawn_127 rfl (by decide) (by decide) (fun c_127 => ?_) (fun c_127 => ?_)
                · skip
                  refine g_iconst F (pc' := 153) dX0_drawn_152 rfl ?_
                  refine g_iadd F (pc' := 154) dX0_drawn_153 rfl ?_
                  refine g_istore F (pc' := 156) (lv' := [some (.ref (a 34)), some (.int (iI sz)), some (.int (iI x)), some (.int (iI kn)), some (.int (iI at1)), some (.int (iI k)), some (.int (iI (v + 1))), some (.int (iI 0)), some (.int (iI (M 25 (v + 1)))), some (.int (iI ((M 38 (sz * 8 + (v + 1))) + 0)))]) dX0_drawn_154 rfl (by decide) rfl ?_
                  refine g_iload_n F (pc' := 157) dX0_drawn_156 rfl rfl ?_
                  refine g_iload F (pc' := 159) dX0_drawn_157 rfl rfl ?_
                  refine g_icmp_gt F (pc' := 162) (tgt := 190) dX0_drawn_159 rfl (by decide) (by omega) (by omega) (fun c_159 => ?_) (fun c_159 => ?_)
                  · skip
                    refine g_iload F (pc' := 192) dX0_drawn_190 rfl rfl ?_
                    refine g_istore_n F (pc' := 193) (lv' := [some (.ref (a 34)), some (.int (iI sz)), some (.int (iI x)), some (.int (iI (M 25 (v + 1)))), some (.int (iI at1)), some (.int (iI k)), some (.int (iI (v + 1))), some (.int (iI 0)), some (.int (iI (M 25 (v + 1)))), some (.int (iI ((M 38 (sz * 8 + (v + 1))) + 0)))]) dX0_drawn_192 rfl (by decide) rfl ?_
                    refine g_sipush F (pc' := 196) dX0_drawn_193 rfl (by decide +kernel) ?_
                    refine g_iload F (pc' := 198) dX0_drawn_196 rfl rfl ?_
                    refine g_imul F (pc' := 199) dX0_drawn_198 rfl ?_
                    refine g_istore F (pc' := 201) (lv' := [some (.ref (a 34)), some (.int (iI sz)), some (.int (iI x)), some (.int (iI (M 25 (v + 1)))), some (.int (iI (1000 * ((M 38 (sz * 8 + (v + 1))) + 0)))), some (.int (iI k)), some (.int (iI (v + 1))), some (.int (iI 0)), some (.int (iI (M 25 (v + 1)))), some (.int (iI ((M 38 (sz * 8 + (v + 1))) + 0)))]) dX0_drawn_199 rfl (by decide) rfl ?_
                    refine g_iinc F (pc' := 204) (lv' := [some (.ref (a 34)), some (.int (iI sz)), some (.int (iI x)), some (.int (iI (M 25 (v + 1)))), some (.int (iI (1000 * ((M 38 (sz * 8 + (v + 1))) + 0)))), some (.int (iI (k + 1))), some (.int (iI (v + 1))), some (.int (iI 0)), some (.int (iI (M 25 (v + 1)))), some (.int (iI ((M 38 (sz * 8 + (v + 1))) + 0)))]) dX0_drawn_201 rfl rfl (by decide) rfl ?_
                    refine g_goto F (tgt := 53) dX0_drawn_204 (by decide) ?_
                    refine g_lvw [some (.ref (a 34)), some (.int (iI sz)), some (.int (iI x)), some (.int (iI (M 25 (v + 1)))), some (.int (iI (1000 * ((M 38 (sz * 8 + (v + 1))) + 0)))), some (.int (iI (k + 1))), none, none, none, none] (lvw_of _ _ [true, true, true, true, true, true, false, false, false, false] rfl) ?_
                    exact ih_53 (M 25 (v + 1)) (1000 * ((M 38 (sz * 8 + (v + 1))) + 0)) (k + 1) (by omega) (by omega) (by first | exact ⟨v, hv, Or.inr ⟨by omega, rfl, rfl, by omega⟩, hZ⟩ | exact ⟨v + 1, ⟨by omega, hv1⟩, Or.inl ⟨by omega, rfl, by rw [Int.add_zero], by omega⟩, by rw [hZ, plR_c hv (by omega) (by omega)]⟩)
                  · skip
                    refine g_iload F (pc' := 164) dX0_drawn_162 rfl rfl ?_
                    refine g_iload_n F (pc' := 165) dX0_drawn_164 rfl rfl ?_
                    refine g_icmp_le F (pc' := 168) (tgt := 190) dX0_drawn_165 rfl (by decide) (by omega) (by omega) (fun c_165 => ?_) (fun c_165 => ?_)
                    · skip
                      exfalso; omega
                    · skip
                      refine g_iload F (pc' := 170) dX0_drawn_168 rfl rfl ?_
                      refine g_iload_n F (pc' := 171) dX0_drawn_170 rfl rfl ?_
                      refine g_iload_n F (pc' := 172) dX0_drawn_171 rfl rfl ?_
                      refine g_isub F (pc' := 173) dX0_drawn_172 rfl ?_
                      refine g_sipush F (pc' := 176) dX0_drawn_173 rfl (by decide +kernel) ?_
                      refine g_iload F (pc' := 178) dX0_drawn_176 rfl rfl ?_
                      refine g_imul F (pc' := 179) dX0_drawn_178 rfl ?_
                      refine g_iload F (pc' := 181) dX0_drawn_179 rfl rfl ?_
                      refine g_isub F (pc' := 182) dX0_drawn_181 rfl ?_
                      refine g_imul F (pc' := 183) dX0_drawn_182 rfl ?_
                      refine g_iload F (pc' := 185) dX0_drawn_183 rfl rfl ?_
                      refine g_iload_n F (pc' := 186) dX0_drawn_185 rfl rfl ?_
                      refine g_isub F (pc' := 187) dX0_drawn_186 rfl ?_
                      have hmul := mulA_R (x := x - kn) (y := (1000 * (M 38 ((sz * 8) + (v + 1)) + 0)) - at1) (A := 999) (B := 100000) (by omega) (by omega)
                      refine g_idiv F (pc' := 188) dX0_drawn_187 rfl (by omega) (by omega) (by omega) ?_
                      refine g_iadd F (pc' := 189) dX0_drawn_188 rfl ?_
                      exact g_iret F hr hlk dX0_drawn_189 (⟨by rw [hZ, plR_b hv.1 hv1 (by omega) c_159 hsp (by omega), ho2.2.1, ho2.2.2.1, Int.add_zero], rfl⟩)
                · skip
                  exact absurd c_127 (by decide)
              · skip
                exact absurd c_90 (by decide)
            · skip
              have hk2 : Int.tdiv k 2 = v := by rcases hk with q | q <;> omega
              have ho2 : k = 2 * v + 1 ∧ kn = M 25 v ∧ at1 = 1000 * M 38 (sz * 8 + v) ∧ M 25 v < x := by rcases hk with q | q; exact q; (exfalso; omega)
              rw [hk2]
              have hsv := hst v hv.1 hv.2
              have hlv := hlr v hv.1 hv.2
              have hd1 := hld v hv.1 hv.2
              refine g_iconst F (pc' := 82) dX0_drawn_81 rfl ?_
              refine g_goto F (tgt := 86) dX0_drawn_82 (by decide) ?_
              refine g_istore F (pc' := 88) (lv' := [some (.ref (a 34)), some (.int (iI sz)), some (.int (iI x)), some (.int (iI kn)), some (.int (iI at1)), some (.int (iI k)), some (.int (iI v)), some (.int (iI 1)), none, none]) dX0_drawn_86 rfl (by decide) rfl ?_
              refine g_iload F (pc' := 90) dX0_drawn_88 rfl rfl ?_
              refine g_if_eq F (pc' := 93) (tgt := 106) dX0_drawn_90 rfl (by decide) (by decide) (fun c_90 => ?_) (fun c_90 => ?_)
              · skip
                exact absurd c_90 (by decide)
              · skip
                refine g_aload_n F (pc' := 94) dX0_drawn_93 rfl rfl ?_
                refine g_getR F K (k := 34) (fld := 5) (ci := 0) (q := 24) (pc' := 97) iX0_drawn_X0 rfl rfl rfl (by decide) (List.mem_of_getElem? (i := 1) rfl) dX0_drawn_94 rfl ?_
                refine g_getR F K (k := 24) (fld := 2) (ci := 3) (q := 26) (pc' := 100) iX0_drawn_X3 rfl rfl rfl (by decide) (List.mem_of_getElem? (i := 4) rfl) dX0_drawn_97 rfl ?_
                refine g_iload F (pc' := 102) dX0_drawn_100 rfl rfl ?_
                refine g_iald F K (k := 26) (v := M 26 v) (pc' := 103) rfl (by decide) (by omega) dX0_drawn_102 rfl (by first | rfl | simp [upf, sc]) ?_
                refine g_goto F (tgt := 116) dX0_drawn_103 (by decide) ?_
                refine g_istore F (pc' := 118) (lv' := [some (.ref (a 34)), some (.int (iI sz)), some (.int (iI x)), some (.int (iI kn)), some (.int (iI at1)), some (.int (iI k)), some (.int (iI v)), some (.int (iI 1)), some (.int (iI (M 26 v))), none]) dX0_drawn_116 rfl (by decide) rfl ?_
                refine g_aload_n F (pc' := 119) dX0_drawn_118 rfl rfl ?_
                refine g_iload_n F (pc' := 120) dX0_drawn_119 rfl rfl ?_
                refine g_iload F (pc' := 122) dX0_drawn_120 rfl rfl ?_
                refine g_callI F K hXc X0 (pc' := 125) (st := []) (c0_leftDot l a M sz v (by omega) (by omega)) (cwV 2 F.2.2.2.2 gX0_drawn_X0_leftDot rfl rfl rfl (by decide +kernel) ⟨Nat.le_of_ble_eq_true rfl, Nat.le_of_ble_eq_true rfl⟩) rfl rfl rfl rfl (Nat.le_of_ble_eq_true rfl) dX0_drawn_122 rfl (fun z_122 M_122 q_122 => ?_)
                obtain ⟨rfl, mq_122⟩ := q_122
                have mq_122 := mq_122.symm; subst mq_122
                refine g_iload F (pc' := 127) dX0_drawn_125 rfl rfl ?_
                refine g_if_eq F (pc' := 130) (tgt := 152) dX0_drawn_127 rfl (by decide) (by decide) (fun c_127 => ?_) (fun c_127 => ?_)
                · skip
                  exact absurd c_127 (by decide)
                · skip
                  refine g_aload_n F (pc' := 131) dX0_drawn_130 rfl rfl ?_
                  refine g_getR F K (k := 34) (fld := 5) (ci := 0) (q := 24) (pc' := 134) iX0_drawn_X0 rfl rfl rfl (by decide) (List.mem_of_getElem? (i := 1) rfl) dX0_drawn_131 rfl ?_
                  refine g_iload F (pc' := 136) dX0_drawn_134 rfl rfl ?_
                  refine g_iload_n F (pc' := 137) dX0_drawn_136 rfl rfl ?_
                  refine g_aload_n F (pc' := 138) dX0_drawn_137 rfl rfl ?_
                  refine g_getR F K (k := 34) (fld := 4) (ci := 0) (q := 4) (pc' := 141) iX0_drawn_X0 rfl rfl rfl (by decide) (List.mem_of_getElem? (i := 5) rfl) dX0_drawn_138 rfl ?_
                  refine g_getR F K (k := 4) (fld := 5) (ci := 1) (q := 9) (pc' := 144) iX0_drawn_X1 rfl rfl rfl (by decide) (List.mem_of_getElem? (i := 6) rfl) dX0_drawn_141 rfl ?_
                  refine g_iconst F (pc' := 145) dX0_drawn_144 rfl ?_
                  refine g_iald F K (k := 9) (v := M 9 4) (pc' := 146) rfl (by decide) (by decide) dX0_drawn_145 rfl (by first | rfl | simp [upf, sc]) ?_
                  refine g_callI F K hXc X0 (pc' := 149) (st := [.int (iI (M 38 (sz * 8 + v)))]) (c3_dotsOfStem l a M v sz (M 9 4) (by omega) (by exact (hgr v (by omega) (by omega)).1) (by exact (hgr v (by omega) (by omega)).2.1) (by exact (hgr v (by omega) (by omega)).2.2) (by omega) (by omega)) (cwV 3 F.2.2.2.2 gX0_drawn_X3_dotsOfStem rfl rfl rfl (by decide +kernel) ⟨Nat.le_of_ble_eq_true rfl, Nat.le_of_ble_eq_true rfl⟩) rfl rfl rfl rfl (Nat.le_of_ble_eq_true rfl) dX0_drawn_146 rfl (fun z_146 M_146 q_146 => ?_)
                  obtain ⟨rfl, mq_146⟩ := q_146
                  have mq_146 := mq_146.symm; subst mq_146
                  have b_146 := wF_R hS (sz := sz) (s := v) (by omega) (by omega) (by omega)
                  refine g_goto F (tgt := 153) dX0_drawn_149 (by decide) ?_
                  refine g_iadd F (pc' := 154) dX0_drawn_153 rfl ?_
                  refine g_istore F (pc' := 156) (lv' := [some (.ref (a 34)), some (.int (iI sz)), some (.int (iI x)), some (.int (iI kn)), some (.int (iI at1)), some (.int (iI k)), some (.int (iI v)), some (.int (iI 1)), some (.int (iI (M 26 v))), some (.int (iI ((M 38 (sz * 8 + v)) + (wF M sz v))))]) dX0_drawn_154 rfl (by decide) rfl ?_
                  refine g_iload_n F (pc' := 157) dX0_drawn_156 rfl rfl ?_
                  refine g_iload F (pc' := 159) dX0_drawn_157 rfl rfl ?_
                  refine g_icmp_gt F (pc' := 162) (tgt := 190) dX0_drawn_159 rfl (by decide) (by omega) (by omega) (fun c_159 => ?_) (fun c_159 => ?_)
                  · skip
                    refine g_iload F (pc' := 192) dX0_drawn_190 rfl rfl ?_
                    refine g_istore_n F (pc' := 193) (lv' := [some (.ref (a 34)), some (.int (iI sz)), some (.int (iI x)), some (.int (iI (M 26 v))), some (.int (iI at1)), some (.int (iI k)), some (.int (iI v)), some (.int (iI 1)), some (.int (iI (M 26 v))), some (.int (iI ((M 38 (sz * 8 + v)) + (wF M sz v))))]) dX0_drawn_192 rfl (by decide) rfl ?_
                    refine g_sipush F (pc' := 196) dX0_drawn_193 rfl (by decide +kernel) ?_
                    refine g_iload F (pc' := 198) dX0_drawn_196 rfl rfl ?_
                    refine g_imul F (pc' := 199) dX0_drawn_198 rfl ?_
                    refine g_istore F (pc' := 201) (lv' := [some (.ref (a 34)), some (.int (iI sz)), some (.int (iI x)), some (.int (iI (M 26 v))), some (.int (iI (1000 * ((M 38 (sz * 8 + v)) + (wF M sz v))))), some (.int (iI k)), some (.int (iI v)), some (.int (iI 1)), some (.int (iI (M 26 v))), some (.int (iI ((M 38 (sz * 8 + v)) + (wF M sz v))))]) dX0_drawn_199 rfl (by decide) rfl ?_
                    refine g_iinc F (pc' := 204) (lv' := [some (.ref (a 34)), some (.int (iI sz)), some (.int (iI x)), some (.int (iI (M 26 v))), some (.int (iI (1000 * ((M 38 (sz * 8 + v)) + (wF M sz v))))), some (.int (iI (k + 1))), some (.int (iI v)), some (.int (iI 1)), some (.int (iI (M 26 v))), some (.int (iI ((M 38 (sz * 8 + v)) + (wF M sz v))))]) dX0_drawn_201 rfl rfl (by decide) rfl ?_
                    refine g_goto F (tgt := 53) dX0_drawn_204 (by decide) ?_
                    refine g_lvw [some (.ref (a 34)), some (.int (iI sz)), some (.int (iI x)), some (.int (iI (M 26 v))), some (.int (iI (1000 * ((M 38 (sz * 8 + v)) + (wF M sz v))))), some (.int (iI (k + 1))), none, none, none, none] (lvw_of _ _ [true, true, true, true, true, true, false, false, false, false] rfl) ?_
                    exact ih_53 (M 26 v) (1000 * ((M 38 (sz * 8 + v)) + (wF M sz v))) (k + 1) (by omega) (by omega) (by first | exact ⟨v, hv, Or.inr ⟨by omega, rfl, rfl, by omega⟩, hZ⟩ | exact ⟨v + 1, ⟨by omega, hv1⟩, Or.inl ⟨by omega, rfl, by rw [Int.add_zero], by omega⟩, by rw [hZ, plR_c hv (by omega) (by omega)]⟩)
                  · skip
                    refine g_iload F (pc' := 164) dX0_drawn_162 rfl rfl ?_
                    refine g_iload_n F (pc' := 165) dX0_drawn_164 rfl rfl ?_
                    refine g_icmp_le F (pc' := 168) (tgt := 190) dX0_drawn_165 rfl (by decide) (by omega) (by omega) (fun c_165 => ?_) (fun c_165 => ?_)
                    · skip
                      exfalso; omega
                    · skip
                      refine g_iload F (pc' := 170) dX0_drawn_168 rfl rfl ?_
                      refine g_iload_n F (pc' := 171) dX0_drawn_170 rfl rfl ?_
                      refine g_iload_n F (pc' := 172) dX0_drawn_171 rfl rfl ?_
                      refine g_isub F (pc' := 173) dX0_drawn_172 rfl ?_
                      refine g_sipush F (pc' := 176) dX0_drawn_173 rfl (by decide +kernel) ?_
                      refine g_iload F (pc' := 178) dX0_drawn_176 rfl rfl ?_
                      refine g_imul F (pc' := 179) dX0_drawn_178 rfl ?_
                      refine g_iload F (pc' := 181) dX0_drawn_179 rfl rfl ?_
                      refine g_isub F (pc' := 182) dX0_drawn_181 rfl ?_
                      refine g_imul F (pc' := 183) dX0_drawn_182 rfl ?_
                      refine g_iload F (pc' := 185) dX0_drawn_183 rfl rfl ?_
                      refine g_iload_n F (pc' := 186) dX0_drawn_185 rfl rfl ?_
                      refine g_isub F (pc' := 187) dX0_drawn_186 rfl ?_
                      have hmul := mulA_R (x := x - kn) (y := (1000 * (M 38 ((sz * 8) + v) + wF M sz v)) - at1) (A := 999) (B := 100000) (by omega) (by omega)
                      refine g_idiv F (pc' := 188) dX0_drawn_187 rfl (by omega) (by omega) (by omega) ?_
                      refine g_iadd F (pc' := 189) dX0_drawn_188 rfl ?_
                      exact g_iret F hr hlk dX0_drawn_189 (⟨by rw [hZ, plR_a hv c_159, ho2.2.1, ho2.2.2.1], rfl⟩)
      exact lp_53 ((20 - 1 : Int).toNat + 1) (M 25 0) (1000 * (M 38 (sz * 8 + 0))) 1 (by omega) (by omega) (⟨0, by omega, Or.inl ⟨by omega, rfl, rfl, c_38⟩, plF_c hn0 c_38⟩)
    · skip
      refine g_iload F (pc' := 43) dX0_drawn_41 rfl rfl ?_
      refine g_iload_n F (pc' := 44) dX0_drawn_43 rfl rfl ?_
      refine g_iload_n F (pc' := 45) dX0_drawn_44 rfl rfl ?_
      refine g_isub F (pc' := 46) dX0_drawn_45 rfl ?_
      refine g_iload_n F (pc' := 47) dX0_drawn_46 rfl rfl ?_
      refine g_imul F (pc' := 48) dX0_drawn_47 rfl ?_
      refine g_isub F (pc' := 49) dX0_drawn_48 rfl ?_
      exact g_iret F hr hlk dX0_drawn_49 (⟨(plF_b (lf := M 25) (rt := M 26) (ld := (fun s => M 38 (sz * 8 + s))) (w := wF M sz) (sz := sz) (by omega) c_38).symm, rfl⟩)
  · skip
    refine g_iload_n F (pc' := 11) dX0_drawn_10 rfl rfl ?_
    refine g_iload_n F (pc' := 12) dX0_drawn_11 rfl rfl ?_
    refine g_imul F (pc' := 13) dX0_drawn_12 rfl ?_
    exact g_iret F hr hlk dX0_drawn_13 (⟨(plF_a c_7).symm, rfl⟩)

