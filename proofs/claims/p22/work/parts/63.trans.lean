/-! ===== what the calls do to the relation ===== -/
theorem pv_R (p : Int → Int) (n t : Int) : 0 ≤ vI p t (fg p n t) ∧ vI p t (fg p n t) ≤ 999 := by
  by_cases h0 : isF p n t
  · by_cases h1 : isF p n (t + 1)
    · by_cases h2 : isF p n (t + 2)
      · have e : fg p n t = 3 := by unfold fg; rw [pif_t h0, pif_t h1, pif_t h2]
        have := vz_R (p := p) (n := n) (t := t) 3 (fun j a b => by
          rcases (show j = 0 ∨ j = 1 ∨ j = 2 by omega) with rfl | rfl | rfl
          · rw [Int.add_zero]; exact h0
          · exact h1
          · exact h2)
        have e3 : (10 : Int) ^ 3 = 1000 := rfl
        rw [e3] at this
        rw [e]
        show 0 ≤ vz p t 3 ∧ vz p t 3 ≤ 999
        omega
      · have e : fg p n t = 2 := by unfold fg; rw [pif_t h0, pif_t h1, pif_f h2]
        have := vz_R (p := p) (n := n) (t := t) 2 (fun j a b => by
          rcases (show j = 0 ∨ j = 1 by omega) with rfl | rfl
          · rw [Int.add_zero]; exact h0
          · exact h1)
        have e3 : (10 : Int) ^ 2 = 100 := rfl
        rw [e3] at this
        rw [e]
        show 0 ≤ vz p t 2 ∧ vz p t 2 ≤ 999
        omega
    · have e : fg p n t = 1 := by unfold fg; rw [pif_t h0, pif_f h1]
      have := vz_R (p := p) (n := n) (t := t) 1 (fun j a b => by
        obtain rfl : j = 0 := by omega
        rw [Int.add_zero]; exact h0)
      have e3 : (10 : Int) ^ 1 = 10 := rfl
      rw [e3] at this
      rw [e]
      show 0 ≤ vz p t 1 ∧ vz p t 1 ≤ 999
      omega
  · have e : fg p n t = 0 := by unfold fg; rw [pif_f h0]
    rw [e]
    show 0 ≤ vz p t 0 ∧ vz p t 0 ≤ 999
    simp [vz]
theorem REL_c {C K R S : Mem} (h : REL C R) (hC : ∀ k, (k < 34 ∨ 42 < k) → K k = C k) (hk : kOK K) (hR : keepR R S) : REL K S := by
  obtain ⟨hB, -, hP, hE, hI, hF⟩ := h
  obtain ⟨r1, r3, e1, e2, e3, e17, e18⟩ := hR
  have e : ∀ k, k < 34 → K k = C k := fun k a => hC k (Or.inl a)
  refine ⟨?_, hk, ?_, ?_, ?_, FND_c (by rw [e 4 (by decide)]) (e 5 (by decide)) (e 6 (by decide)) (e 7 (by decide)) (e 8 (by decide)) (e 9 (by decide)) (e 24 (by decide)) (e 25 (by decide)) (e 26 (by decide)) (e 27 (by decide)) (e 28 (by decide)) (e 29 (by decide)) (e 30 (by decide)) (e 31 (by decide)) (e 32 (by decide)) hF⟩
  · unfold CBo
    rw [e 1 (by decide), e 2 (by decide), e 4 (by decide), e 5 (by decide), e 6 (by decide), e 7 (by decide), e 8 (by decide), e 9 (by decide), e 10 (by decide), e 11 (by decide), e 12 (by decide), e 13 (by decide), e 14 (by decide), e 15 (by decide), e 16 (by decide), e 17 (by decide), e 18 (by decide), e 19 (by decide), e 20 (by decide), e 21 (by decide), e 23 (by decide)]
    exact hB
  · unfold PADr
    rw [e 1 (by decide), e 2 (by decide), r3, e3]
    exact hP
  · unfold EDG
    rw [e 4 (by decide), e 5 (by decide), e 6 (by decide), e 7 (by decide), e 8 (by decide), e 9 (by decide), r1, e1, e2]
    exact hE
  · unfold IMG
    rw [e 23 (by decide), e 10 (by decide), e 11 (by decide), e 12 (by decide), e 13 (by decide), e 14 (by decide), e 15 (by decide), e 16 (by decide), e 17 (by decide), e 18 (by decide), e 19 (by decide), e 20 (by decide), e 21 (by decide), e17, e18]
    exact hI
theorem kOK_c {C K : Mem} (h9 : K 9 = C 9) (h : ∀ k, 24 ≤ k → K k = C k) (hk : kOK C) : kOK K := by
  have e24 := h 24 (by decide)
  have e25 := h 25 (by decide)
  have e26 := h 26 (by decide)
  have e29 := h 29 (by decide)
  have e30 := h 30 (by decide)
  have e32 := h 32 (by decide)
  have hw : wF K = wF C := by
    funext sz s
    unfold wF
    rw [e32, e30, e29, h9]
  have hl : lpF K = lpF C := by
    funext sz s
    unfold lpF
    rw [hw]
  have hr : roomF K = roomF C := by
    funext sz
    unfold roomF
    rw [e24, hl, hw]
  have ho : okF K = okF C := by
    funext sz
    unfold okF
    rw [e24, hl, hw]
  have hb : blB K = blB C := by
    funext sz z
    unfold blB
    rw [e24, hl, hw]
  have hs : scF K = scF C := by
    funext sz
    unfold scF
    rw [h9, e25, e26, hw]
  have hg : gcF K = gcF C := by
    funext sz
    unfold gcF
    rw [h9, e25, e26]
  have hle : leastF K = leastF C := by
    funext sz
    unfold leastF
    rw [e24, h9, hs, hg, hl, hr]
  have hd : dotF K = dotF C := by
    funext sz s
    unfold dotF
    rw [hl, h9, hs, hg, e24, hr]
  have hx : goodX K = goodX C := by
    funext sz b d ld
    unfold goodX
    rw [ho, hb, hle, e24, hd]
  unfold kOK kOKf
  rw [h 37 (by decide), h 36 (by decide), h 35 (by decide), h 38 (by decide), hx]
  exact hk
/-- cells of the pad alone change -/
theorem REL_pad {C K R S : Mem} (h : REL C R) (hC : ∀ k, 4 ≤ k → K k = C k) (h1 : 0 ≤ K 1 1 ∧ K 1 1 ≤ 30) (h2 : ∀ j, 0 ≤ K 2 j ∧ K 2 j ≤ 126) (hP : PADr K S) (r1 : S 0 1 = R 0 1) (e1 : S 1 = R 1) (e2 : S 2 = R 2) (e17 : S 17 = R 17) (e18 : S 18 = R 18) : REL K S := by
  obtain ⟨hB, hk, -, hE, hI, hF⟩ := h
  have e := hC
  refine ⟨?_, kOK_c (e 9 (by decide)) (fun k a => e k (by omega)) hk, hP, ?_, ?_, FND_c (by rw [e 4 (by decide)]) (e 5 (by decide)) (e 6 (by decide)) (e 7 (by decide)) (e 8 (by decide)) (e 9 (by decide)) (e 24 (by decide)) (e 25 (by decide)) (e 26 (by decide)) (e 27 (by decide)) (e 28 (by decide)) (e 29 (by decide)) (e 30 (by decide)) (e 31 (by decide)) (e 32 (by decide)) hF⟩
  · refine ⟨h1, h2, ?_⟩
    rw [e 4 (by decide), e 5 (by decide), e 6 (by decide), e 7 (by decide), e 8 (by decide), e 9 (by decide), e 10 (by decide), e 11 (by decide), e 12 (by decide), e 13 (by decide), e 14 (by decide), e 15 (by decide), e 16 (by decide), e 17 (by decide), e 18 (by decide), e 19 (by decide), e 20 (by decide), e 21 (by decide), e 23 (by decide)]
    exact hB.2.2
  · unfold EDG
    rw [e 4 (by decide), e 5 (by decide), e 6 (by decide), e 7 (by decide), e 8 (by decide), e 9 (by decide), r1, e1, e2]
    exact hE
  · unfold IMG
    rw [e 23 (by decide), e 10 (by decide), e 11 (by decide), e 12 (by decide), e 13 (by decide), e 14 (by decide), e 15 (by decide), e 16 (by decide), e 17 (by decide), e 18 (by decide), e 19 (by decide), e 20 (by decide), e 21 (by decide), e17, e18]
    exact hI
theorem sc_ge {M : Mem} {j k : Nat} {f : Int → Int} (h : j < 4) (hk : 4 ≤ k) : sc M j f k = M k := sc_n (by omega)
theorem t_wipe {C R C' R' : Mem} {z z2 : Int} (h : REL C R) (hc : z = C 1 1 ∧ C' = sc C 1 (upf (C 1) 1 0)) (hr : z2 = R 0 3 ∧ R' = sc R 0 (upf (R 0) 3 0)) : z = z2 ∧ REL C' R' := by
  obtain ⟨rfl, rfl⟩ := hc
  obtain ⟨rfl, rfl⟩ := hr
  refine ⟨h.2.2.1.1, REL_pad h (fun k hk => sc_ge (by decide) hk) ?_ h.1.2.1 ⟨rfl, h.2.2.1.2⟩ rfl rfl rfl rfl rfl⟩
  show 0 ≤ (0 : Int) ∧ (0 : Int) ≤ 30
  decide
theorem t_fault {C R C' R' : Mem} {z z2 : Int} (h : REL C R) (hc : z = fl (C 2) (C 1 1) ∧ ∃ nu, C' = sc C 3 nu) (hr : ∃ rd : Int → Int, R' = sc R 4 rd ∧ z2 = fl (R 3) (R 0 3)) : z = z2 ∧ REL C' R' := by
  obtain ⟨rfl, nu, rfl⟩ := hc
  obtain ⟨rd, rfl, rfl⟩ := hr
  have hP := h.2.2.1
  refine ⟨by rw [hP.1, hP.2], REL_pad h (fun k hk => sc_ge (by decide) hk) h.1.1 h.1.2.1 hP rfl rfl rfl rfl rfl⟩
theorem edm_0 {M : Mem} {u : Int} : edm M (4 * u) = upf (fun t => M 1 (4 * t)) (M 0 1) (upz (M 3)) u := by
  unfold edm upf
  by_cases c : u = M 0 1
  · subst c
    rw [if_pos rfl, if_neg (by omega), if_neg (by omega), if_neg (by omega), if_pos (by omega)]
  · rw [if_neg c, if_neg (by omega), if_neg (by omega), if_neg (by omega), if_neg (by omega)]
theorem edm_1 {M : Mem} {u : Int} : edm M ((4 * u) + 1) = upf (fun t => M 1 ((4 * t) + 1)) (M 0 1) (pv1 (M 3) (M 0 3)) u := by
  unfold edm upf
  by_cases c : u = M 0 1
  · subst c
    rw [if_pos rfl, if_neg (by omega), if_neg (by omega), if_pos (by omega)]
  · rw [if_neg c, if_neg (by omega), if_neg (by omega), if_neg (by omega), if_neg (by omega)]
theorem edm_2 {M : Mem} {u : Int} : edm M ((4 * u) + 2) = upf (fun t => M 1 ((4 * t) + 2)) (M 0 1) (pv2 (M 3) (M 0 3)) u := by
  unfold edm upf
  by_cases c : u = M 0 1
  · subst c
    rw [if_pos rfl, if_neg (by omega), if_pos (by omega)]
  · rw [if_neg c, if_neg (by omega), if_neg (by omega), if_neg (by omega), if_neg (by omega)]
theorem edm_3 {M : Mem} {u : Int} : edm M ((4 * u) + 3) = upf (fun t => M 1 ((4 * t) + 3)) (M 0 1) (pv3 (M 3) (M 0 3)) u := by
  unfold edm upf
  by_cases c : u = M 0 1
  · subst c
    rw [if_pos rfl, if_pos (by omega)]
  · rw [if_neg c, if_neg (by omega), if_neg (by omega), if_neg (by omega), if_neg (by omega)]
theorem upf_e {f g : Int → Int} {j v u : Int} (h : f u = g u) : upf f j v u = upf g j v u := by
  unfold upf
  rw [h]
theorem del_e {f : Int → Int} {g : Int → Int} {lo k i u : Int} (hi : 0 ≤ i ∧ i < 4) (h : ∀ t, f t = g ((4 * t) + i)) : del1 f lo k u = delf g (4 * lo) (4 * k) ((4 * u) + i) := by
  unfold del1 delf
  by_cases c : lo ≤ u ∧ u < k
  · rw [if_pos c, if_pos (by omega), h]
    congr 1
    omega
  · rw [if_neg c, if_neg (by omega), h]
theorem rulB_u {r : Int → Int} {w n : Int} (h : rulB r) (hw : 0 ≤ w ∧ w ≤ 4) (hn : 0 ≤ n ∧ n ≤ rmx w) : rulB (upf r w n) := by
  obtain ⟨r0, r1, r2, r3, r4⟩ := h
  unfold rmx at hn
  rcases (show w = 0 ∨ w = 1 ∨ w = 2 ∨ w = 3 ∨ w = 4 by omega) with rfl | rfl | rfl | rfl | rfl
  · exact ⟨by rw [upf_s]; exact hn, by rw [upf_n (by decide)]; exact r1, by rw [upf_n (by decide)]; exact r2, by rw [upf_n (by decide)]; exact r3, by rw [upf_n (by decide)]; exact r4⟩
  · exact ⟨by rw [upf_n (by decide)]; exact r0, by rw [upf_s]; exact hn, by rw [upf_n (by decide)]; exact r2, by rw [upf_n (by decide)]; exact r3, by rw [upf_n (by decide)]; exact r4⟩
  · exact ⟨by rw [upf_n (by decide)]; exact r0, by rw [upf_n (by decide)]; exact r1, by rw [upf_s]; exact hn, by rw [upf_n (by decide)]; exact r3, by rw [upf_n (by decide)]; exact r4⟩
  · exact ⟨by rw [upf_n (by decide)]; exact r0, by rw [upf_n (by decide)]; exact r1, by rw [upf_n (by decide)]; exact r2, by rw [upf_s]; exact hn, by rw [upf_n (by decide)]; exact r4⟩
  · exact ⟨by rw [upf_n (by decide)]; exact r0, by rw [upf_n (by decide)]; exact r1, by rw [upf_n (by decide)]; exact r2, by rw [upf_n (by decide)]; exact r3, by rw [upf_s]; exact hn⟩
/-! images -/
def imN (g f r : Int → Int) (c n : Int) : Int → Int := upf (cpy (cpy g f (70 * n) 64) r (70 * n + 64) 5) (70 * n + 69) c
theorem imN_e {g f r : Int → Int} {c n t : Int} (h : 0 ≤ t ∧ t < 64) : imN g f r c n (70 * n + t) = f t := by
  unfold imN upf cpy
  rw [if_neg (by omega), if_neg (by omega), if_pos (by omega)]
  congr 1
  omega
theorem imN_r {g f r : Int → Int} {c n t : Int} (h : 0 ≤ t ∧ t < 5) : imN g f r c n (70 * n + 64 + t) = r t := by
  unfold imN upf cpy
  rw [if_neg (by omega), if_pos (by omega)]
  congr 1
  omega
theorem imN_c {g f r : Int → Int} {c n : Int} : imN g f r c n (70 * n + 69) = c := by
  unfold imN
  exact upf_s _ _ _
theorem imN_o {g f r : Int → Int} {c n j : Int} (h : j < 70 * n ∨ 70 * n + 70 ≤ j) : imN g f r c n j = g j := by
  unfold imN upf cpy
  rw [if_neg (by omega), if_neg (by omega), if_neg (by omega)]
theorem IMf_new {n0 : Int} {u x lo hi r u2 x2 lo2 hi2 r2 g f : Int → Int} {n : Int} (hE : ∀ t, u t = f (4 * t) ∧ x t = f ((4 * t) + 1) ∧ lo t = f ((4 * t) + 2) ∧ hi t = f ((4 * t) + 3)) : IMf n0 (cpr u2 u 0 16) (cpr x2 x 0 16) (cpr lo2 lo 0 16) (cpr hi2 hi 0 16) (cpr r2 r 0 5) (imN g f r n0 n) (70 * n) := by
  refine ⟨imN_c.symm, fun j a b => ⟨?_, ?_, ?_, ?_⟩, fun j a b => ?_⟩
  · rw [cpr_at ⟨a, b⟩, imN_e (by omega), Int.zero_add, (hE j).1]
  · rw [cpr_at ⟨a, b⟩, imN_e (by omega), Int.zero_add, (hE j).2.1]
  · rw [cpr_at ⟨a, b⟩, imN_e (by omega), Int.zero_add, (hE j).2.2.1]
  · rw [cpr_at ⟨a, b⟩, imN_e (by omega), Int.zero_add, (hE j).2.2.2]
  · rw [cpr_at ⟨a, b⟩, imN_r ⟨a, b⟩, Int.zero_add]
theorem IMf_old {n0 c m n : Int} {u x lo hi r g f q : Int → Int} (h : IMf n0 u x lo hi r g (70 * m)) (hm : m + 1 ≤ n ∨ n + 1 ≤ m) : IMf n0 u x lo hi r (imN g f q c n) (70 * m) := by
  refine ⟨by rw [imN_o (by omega)]; exact h.1, fun j a b => ?_, fun j a b => by rw [imN_o (by omega)]; exact h.2.2 j a b⟩
  rw [imN_o (by omega), imN_o (by omega), imN_o (by omega), imN_o (by omega)]
  exact h.2.1 j a b
theorem rulB_cpr {f r : Int → Int} (h : rulB r) : rulB (cpr f r 0 5) := by
  obtain ⟨r0, r1, r2, r3, r4⟩ := h
  exact ⟨by rw [cpr_at (by decide), Int.zero_add]; exact r0, by rw [cpr_at (by decide), Int.zero_add]; exact r1, by rw [cpr_at (by decide), Int.zero_add]; exact r2, by rw [cpr_at (by decide), Int.zero_add]; exact r3, by rw [cpr_at (by decide), Int.zero_add]; exact r4⟩
theorem LBf_cpr {n : Int} {u x lo hi r u2 x2 lo2 hi2 r2 : Int → Int} (h : LBf n u x lo hi r) {m : Int} (h2 : LBf m u2 x2 lo2 hi2 r2) : LBf n (cpr u2 u 0 16) (cpr x2 x 0 16) (cpr lo2 lo 0 16) (cpr hi2 hi 0 16) (cpr r2 r 0 5) :=
  ⟨h.1, cpr_R h2.2.1 h.2.1, cpr_R h2.2.2.1 h.2.2.1, cpr_R h2.2.2.2.1 h.2.2.2.1, cpr_R h2.2.2.2.2.1 h.2.2.2.2.1, rulB_cpr h.2.2.2.2.2⟩
theorem upf_01 {g : Int → Int} {j : Int} (h : ∀ j, 0 ≤ g j ∧ g j ≤ 1) : ∀ i, 0 ≤ upf g j 1 i ∧ upf g j 1 i ≤ 1 := by
  intro i
  unfold upf
  split
  · decide
  · exact h i
theorem EDG_res {n0 : Int} {u x lo hi r u2 x2 lo2 hi2 r2 g f q : Int → Int} {o : Int} (hE : ∀ t, u2 t = f (4 * t) ∧ x2 t = f ((4 * t) + 1) ∧ lo2 t = f ((4 * t) + 2) ∧ hi2 t = f ((4 * t) + 3)) (hr : r2 = q) (h : IMf n0 u x lo hi r g o) :
    (∀ t, cpr u2 u 0 16 t = cpr f g o 64 (4 * t) ∧ cpr x2 x 0 16 t = cpr f g o 64 ((4 * t) + 1) ∧ cpr lo2 lo 0 16 t = cpr f g o 64 ((4 * t) + 2) ∧ cpr hi2 hi 0 16 t = cpr f g o 64 ((4 * t) + 3)) ∧ cpr r2 r 0 5 = cpr q g (o + 64) 5 := by
  refine ⟨fun t => ?_, ?_⟩
  · by_cases c : 0 ≤ t ∧ t < 16
    · have k := h.2.1 t c.1 c.2
      rw [cpr_at c, cpr_at c, cpr_at c, cpr_at c, cpr_at (by omega), cpr_at (by omega), cpr_at (by omega), cpr_at (by omega), Int.zero_add]
      exact k
    · have k := hE t
      unfold cpr
      rw [if_neg c, if_neg c, if_neg c, if_neg c, if_neg (by omega), if_neg (by omega), if_neg (by omega), if_neg (by omega)]
      exact k
  · funext t
    unfold cpr
    by_cases c : 0 ≤ t ∧ t < 5
    · rw [if_pos c, if_pos c, Int.zero_add]
      exact h.2.2 t c.1 c.2
    · rw [if_neg c, if_neg c, hr]
