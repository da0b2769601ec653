/-! ===== what the calls do to the relation ===== -/
theorem pv_R (p : Int → Int) (n t : Int) : 0 ≤ vI p t (fg p n t) ∧ vI p t (fg p n t) ≤ 999 := by
  by_cases h0 : isF p n t
  · by_cases h1 : isF p n (t + 1)
    · by_cases h2 : isF p n (t + 2)
      · have e : fg p n t = 3 := by unfold fg; rw [pif_t h0, pif_t h1, pif_t h2]
        have := vz_R (p := p) (n := n) (t := t) 3 (fun j a b => by
          rcases (show j = 0 ∨ j = 1 ∨ j = 2 by omega) with rfl | rfl | rfl
          · rw [Int.add_zero]; exact h0
          · exact h1
          · exact h2)
        have e3 : (10 : Int) ^ 3 = 1000 := rfl
        rw [e3] at this
        rw [e]
        show 0 ≤ vz p t 3 ∧ vz p t 3 ≤ 999
        omega
      · have e : fg p n t = 2 := by unfold fg; rw [pif_t h0, pif_t h1, pif_f h2]
        have := vz_R (p := p) (n := n) (t := t) 2 (fun j a b => by
          rcases (show j = 0 ∨ j = 1 by omega) with rfl | rfl
          · rw [Int.add_zero]; exact h0
          · exact h1)
        have e3 : (10 : Int) ^ 2 = 100 := rfl
        rw [e3] at this
        rw [e]
        show 0 ≤ vz p t 2 ∧ vz p t 2 ≤ 999
        omega
    · have e : fg p n t = 1 := by unfold fg; rw [pif_t h0, pif_f h1]
      have := vz_R (p := p) (n := n) (t := t) 1 (fun j a b => by
        obtain rfl : j = 0 := by omega
        rw [Int.add_zero]; exact h0)
      have e3 : (10 : Int) ^ 1 = 10 := rfl
      rw [e3] at this
      rw [e]
      show 0 ≤ vz p t 1 ∧ vz p t 1 ≤ 999
      omega
  · have e : fg p n t = 0 := by unfold fg; rw [pif_f h0]
    rw [e]
    show 0 ≤ vz p t 0 ∧ vz p t 0 ≤ 999
    simp [vz]
theorem REL_c {C K R S : Mem} (h : REL C R) (hC : ∀ k, (k < 34 ∨ 42 < k) → K k = C k) (hk : kOK K) (hR : keepR R S) : REL K S := by
  obtain ⟨hB, -, hP, hE, hI, hF⟩ := h
  obtain ⟨r1, r3, e1, e2, e3, e17, e18⟩ := hR
  have e : ∀ k, k < 34 → K k = C k := fun k a => hC k (Or.inl a)
  refine ⟨?_, hk, ?_, ?_, ?_, FND_c (by rw [e 4 (by decide)]) (e 5 (by decide)) (e 6 (by decide)) (e 7 (by decide)) (e 8 (by decide)) (e 9 (by decide)) (e 24 (by decide)) (e 25 (by decide)) (e 26 (by decide)) (e 27 (by decide)) (e 28 (by decide)) (e 29 (by decide)) (e 30 (by decide)) (e 31 (by decide)) (e 32 (by decide)) hF⟩
  · unfold CBo
    rw [e 1 (by decide), e 2 (by decide), e 4 (by decide), e 5 (by decide), e 6 (by decide), e 7 (by decide), e 8 (by decide), e 9 (by decide), e 10 (by decide), e 11 (by decide), e 12 (by decide), e 13 (by decide), e 14 (by decide), e 15 (by decide), e 16 (by decide), e 17 (by decide), e 18 (by decide), e 19 (by decide), e 20 (by decide), e 21 (by decide), e 23 (by decide)]
    exact hB
  · unfold PADr
    rw [e 1 (by decide), e 2 (by decide), r3, e3]
    exact hP
  · unfold EDG
    rw [e 4 (by decide), e 5 (by decide), e 6 (by decide), e 7 (by decide), e 8 (by decide), e 9 (by decide), r1, e1, e2]
    exact hE
  · unfold IMG
    rw [e 23 (by decide), e 10 (by decide), e 11 (by decide), e 12 (by decide), e 13 (by decide), e 14 (by decide), e 15 (by decide), e 16 (by decide), e 17 (by decide), e 18 (by decide), e 19 (by decide), e 20 (by decide), e 21 (by decide), e17, e18]
    exact hI
theorem kOK_c {C K : Mem} (h9 : K 9 = C 9) (h : ∀ k, 24 ≤ k → K k = C k) (hk : kOK C) : kOK K := by
  have e24 := h 24 (by decide)
  have e25 := h 25 (by decide)
  have e26 := h 26 (by decide)
  have e29 := h 29 (by decide)
  have e30 := h 30 (by decide)
  have e32 := h 32 (by decide)
  have hw : wF K = wF C := by
    funext sz s
    unfold wF
    rw [e32, e30, e29, h9]
  have hl : lpF K = lpF C := by
    funext sz s
    unfold lpF
    rw [hw]
  have hr : roomF K = roomF C := by
    funext sz
    unfold roomF
    rw [e24, hl, hw]
  have ho : okF K = okF C := by
    funext sz
    unfold okF
    rw [e24, hl, hw]
  have hb : blB K = blB C := by
    funext sz z
    unfold blB
    rw [e24, hl, hw]
  have hs : scF K = scF C := by
    funext sz
    unfold scF
    rw [h9, e25, e26, hw]
  have hg : gcF K = gcF C := by
    funext sz
    unfold gcF
    rw [h9, e25, e26]
  have hle : leastF K = leastF C := by
    funext sz
    unfold leastF
    rw [e24, h9, hs, hg, hl, hr]
  have hd : dotF K = dotF C := by
    funext sz s
    unfold dotF
    rw [hl, h9, hs, hg, e24, hr]
  have hx : goodX K = goodX C := by
    funext sz b d ld
    unfold goodX
    rw [ho, hb, hle, e24, hd]
  unfold kOK kOKf
  rw [h 37 (by decide), h 36 (by decide), h 35 (by decide), h 38 (by decide), hx]
  exact hk
/-- cells of the pad alone change -/
theorem REL_pad {C K R S : Mem} (h : REL C R) (hC : ∀ k, 4 ≤ k → K k = C k) (h1 : 0 ≤ K 1 1 ∧ K 1 1 ≤ 30) (h2 : ∀ j, 0 ≤ K 2 j ∧ K 2 j ≤ 126) (hP : PADr K S) (r1 : S 0 1 = R 0 1) (e1 : S 1 = R 1) (e2 : S 2 = R 2) (e17 : S 17 = R 17) (e18 : S 18 = R 18) : REL K S := by
  obtain ⟨hB, hk, -, hE, hI, hF⟩ := h
  have e := hC
  refine ⟨?_, kOK_c (e 9 (by decide)) (fun k a => e k (by omega)) hk, hP, ?_, ?_, FND_c (by rw [e 4 (by decide)]) (e 5 (by decide)) (e 6 (by decide)) (e 7 (by decide)) (e 8 (by decide)) (e 9 (by decide)) (e 24 (by decide)) (e 25 (by decide)) (e 26 (by decide)) (e 27 (by decide)) (e 28 (by decide)) (e 29 (by decide)) (e 30 (by decide)) (e 31 (by decide)) (e 32 (by decide)) hF⟩
  · refine ⟨h1, h2, ?_⟩
    rw [e 4 (by decide), e 5 (by decide), e 6 (by decide), e 7 (by decide), e 8 (by decide), e 9 (by decide), e 10 (by decide), e 11 (by decide), e 12 (by decide), e 13 (by decide), e 14 (by decide), e 15 (by decide), e 16 (by decide), e 17 (by decide), e 18 (by decide), e 19 (by decide), e 20 (by decide), e 21 (by decide), e 23 (by decide)]
    exact hB.2.2
  · unfold EDG
    rw [e 4 (by decide), e 5 (by decide), e 6 (by decide), e 7 (by decide), e 8 (by decide), e 9 (by decide), r1, e1, e2]
    exact hE
  · unfold IMG
    rw [e 23 (by decide), e 10 (by decide), e 11 (by decide), e 12 (by decide), e 13 (by decide), e 14 (by decide), e 15 (by decide), e 16 (by decide), e 17 (by decide), e 18 (by decide), e 19 (by decide), e 20 (by decide), e 21 (by decide), e17, e18]
    exact hI
theorem sc_ge {M : Mem} {j k : Nat} {f : Int → Int} (h : j < 4) (hk : 4 ≤ k) : sc M j f k = M k := sc_n (by omega)
theorem t_say {C R C' R' : Mem} {v z z2 : Int} (h : REL C R) (hc : q4_say C v z C') (hr : q5_say R v z2 R') : z = z2 ∧ REL C' R' := by
  have hP := h.2.2.1
  have hB := h.1
  have hp := hP.1
  rcases hc with ⟨a, b, rfl⟩ | ⟨a, a2, b, rfl⟩ | ⟨a, a2, b, rfl⟩
  · rcases hr with ⟨c, d, rfl⟩ | ⟨c, c2, d, rfl⟩ | ⟨c, c2, d, rfl⟩
    · exact ⟨by rw [b, d], h⟩
    · exact absurd c a
    · exact absurd c a
  · rcases hr with ⟨c, d, rfl⟩ | ⟨c, c2, d, rfl⟩ | ⟨c, c2, d, rfl⟩
    · exact absurd a c
    · exact ⟨by rw [b, d], h⟩
    · exact absurd (hp ▸ a2) c2
  · rcases hr with ⟨c, d, rfl⟩ | ⟨c, c2, d, rfl⟩ | ⟨c, c2, d, rfl⟩
    · exact absurd a c
    · omega
    · refine ⟨by rw [b, d, hp], REL_pad h (fun k hk => by rw [sc_ge (by decide) hk, sc_ge (by decide) hk]) ?_ ?_ ⟨?_, ?_⟩ rfl rfl rfl rfl rfl⟩
      · show 0 ≤ C 1 1 + 1 ∧ C 1 1 + 1 ≤ 30
        have := hB.1
        omega
      · intro j
        show 0 ≤ upf (C 2) (C 1 1) v j ∧ upf (C 2) (C 1 1) v j ≤ 126
        unfold upf
        split
        · omega
        · exact hB.2.1 j
      · show C 1 1 + 1 = R 0 3 + 1
        rw [hp]
      · show upf (C 2) (C 1 1) v = upf (R 3) (R 0 3) v
        rw [hp, hP.2]
theorem t_wipe {C R C' R' : Mem} {z z2 : Int} (h : REL C R) (hc : z = C 1 1 ∧ C' = sc C 1 (upf (C 1) 1 0)) (hr : z2 = R 0 3 ∧ R' = sc R 0 (upf (R 0) 3 0)) : z = z2 ∧ REL C' R' := by
  obtain ⟨rfl, rfl⟩ := hc
  obtain ⟨rfl, rfl⟩ := hr
  refine ⟨h.2.2.1.1, REL_pad h (fun k hk => sc_ge (by decide) hk) ?_ h.1.2.1 ⟨rfl, h.2.2.1.2⟩ rfl rfl rfl rfl rfl⟩
  show 0 ≤ (0 : Int) ∧ (0 : Int) ≤ 30
  decide
theorem t_fault {C R C' R' : Mem} {z z2 : Int} (h : REL C R) (hc : z = fl (C 2) (C 1 1) ∧ ∃ nu, C' = sc C 3 nu) (hr : ∃ rd : Int → Int, R' = sc R 4 rd ∧ z2 = fl (R 3) (R 0 3)) : z = z2 ∧ REL C' R' := by
  obtain ⟨rfl, nu, rfl⟩ := hc
  obtain ⟨rd, rfl, rfl⟩ := hr
  have hP := h.2.2.1
  refine ⟨by rw [hP.1, hP.2], REL_pad h (fun k hk => sc_ge (by decide) hk) h.1.1 h.1.2.1 hP rfl rfl rfl rfl rfl⟩
theorem edm_0 {M : Mem} {u : Int} : edm M (4 * u) = upf (fun t => M 1 (4 * t)) (M 0 1) (upz (M 3)) u := by
  unfold edm upf
  by_cases c : u = M 0 1
  · subst c
    rw [if_pos rfl, if_neg (by omega), if_neg (by omega), if_neg (by omega), if_pos (by omega)]
  · rw [if_neg c, if_neg (by omega), if_neg (by omega), if_neg (by omega), if_neg (by omega)]
theorem edm_1 {M : Mem} {u : Int} : edm M ((4 * u) + 1) = upf (fun t => M 1 ((4 * t) + 1)) (M 0 1) (pv1 (M 3) (M 0 3)) u := by
  unfold edm upf
  by_cases c : u = M 0 1
  · subst c
    rw [if_pos rfl, if_neg (by omega), if_neg (by omega), if_pos (by omega)]
  · rw [if_neg c, if_neg (by omega), if_neg (by omega), if_neg (by omega), if_neg (by omega)]
theorem edm_2 {M : Mem} {u : Int} : edm M ((4 * u) + 2) = upf (fun t => M 1 ((4 * t) + 2)) (M 0 1) (pv2 (M 3) (M 0 3)) u := by
  unfold edm upf
  by_cases c : u = M 0 1
  · subst c
    rw [if_pos rfl, if_neg (by omega), if_pos (by omega)]
  · rw [if_neg c, if_neg (by omega), if_neg (by omega), if_neg (by omega), if_neg (by omega)]
theorem edm_3 {M : Mem} {u : Int} : edm M ((4 * u) + 3) = upf (fun t => M 1 ((4 * t) + 3)) (M 0 1) (pv3 (M 3) (M 0 3)) u := by
  unfold edm upf
  by_cases c : u = M 0 1
  · subst c
    rw [if_pos rfl, if_pos (by omega)]
  · rw [if_neg c, if_neg (by omega), if_neg (by omega), if_neg (by omega), if_neg (by omega)]
theorem upf_e {f g : Int → Int} {j v u : Int} (h : f u = g u) : upf f j v u = upf g j v u := by
  unfold upf
  rw [h]
theorem t_edge {C R C' R' : Mem} {z z2 : Int} (h : REL C R) (hc : q4_edge C z C') (hr : q5_edge R z2 R') : z = z2 ∧ REL C' R' := by
  have hP := h.2.2.1
  have hB := h.1
  have hE := h.2.2.2.1
  have hl : C 4 4 ≤ 16 := hB.2.2.1.1.2
  have ef : fl (C 2) (C 1 1) = fl (R 3) (R 0 3) := by rw [hP.1, hP.2]
  have e1 := hE.1
  rcases hc with ⟨a, b, nu, rfl⟩ | ⟨a, a2, b, nu, rfl⟩ | ⟨a, a2, b, nu, hn, hq⟩
  · rcases hr with ⟨c, d, rd, rfl⟩ | ⟨c, c2, d, rd, rfl⟩ | ⟨c, c2, d, rd, rfl⟩
    · exact ⟨by rw [b, d], REL_pad h (fun k hk => sc_ge (by decide) hk) hB.1 hB.2.1 hP rfl rfl rfl rfl rfl⟩
    · exact absurd (ef.trans c) a
    · exact absurd (ef.trans c) a
  · rcases hr with ⟨c, d, rd, rfl⟩ | ⟨c, c2, d, rd, rfl⟩ | ⟨c, c2, d, rd, rfl⟩
    · exact absurd (ef.symm.trans a) c
    · exact ⟨by rw [b, d], REL_pad h (fun k hk => sc_ge (by decide) hk) hB.1 hB.2.1 hP rfl rfl rfl rfl rfl⟩
    · omega
  · rcases hr with ⟨c, d, rd, rfl⟩ | ⟨c, c2, d, rd, rfl⟩ | ⟨c, c2, d, rd, rfl⟩
    · exact absurd (ef.symm.trans a) c
    · omega
    · refine ⟨by rw [b, d, e1], REL_rn (M := edA C nu) ⟨?_, hB.2.1, ⟨?_, ?_, ?_, ?_, ?_, hB.2.2.1.2.2.2.2.2⟩, hB.2.2.2⟩ h.2.1.1 ⟨rfl, hP.2⟩ ⟨?_, fun u => ⟨?_, ?_, ?_, ?_⟩, hE.2.2⟩ h.2.2.2.2.1 hq⟩
      · show 0 ≤ (0 : Int) ∧ (0 : Int) ≤ 30
        decide
      · show 0 ≤ C 4 4 + 1 ∧ C 4 4 + 1 ≤ 16
        have := hB.2.2.1.1
        omega
      · exact upf_R hB.2.2.1.2.1 (upz_R _)
      · exact upf_R hB.2.2.1.2.2.1 (by rw [hn.1]; exact pv_R _ _ _)
      · exact upf_R hB.2.2.1.2.2.2.1 (by rw [hn.2.1]; exact pv_R _ _ _)
      · exact upf_R hB.2.2.1.2.2.2.2.1 (by rw [hn.2.2]; exact pv_R _ _ _)
      · show C 4 4 + 1 = R 0 1 + 1
        rw [e1]
      · show upf (C 5) (C 4 4) (upz (C 2)) u = edm R (4 * u)
        rw [edm_0, e1, hP.2]
        exact upf_e (hE.2.1 u).1
      · show upf (C 6) (C 4 4) (nu 0) u = edm R ((4 * u) + 1)
        rw [edm_1, hn.1, e1, hP.2, hP.1]
        exact upf_e (hE.2.1 u).2.1
      · show upf (C 7) (C 4 4) (nu 1) u = edm R ((4 * u) + 2)
        rw [edm_2, hn.2.1, e1, hP.2, hP.1]
        exact upf_e (hE.2.1 u).2.2.1
      · show upf (C 8) (C 4 4) (nu 2) u = edm R ((4 * u) + 3)
        rw [edm_3, hn.2.2, e1, hP.2, hP.1]
        exact upf_e (hE.2.1 u).2.2.2
theorem del_e {f : Int → Int} {g : Int → Int} {lo k i u : Int} (hi : 0 ≤ i ∧ i < 4) (h : ∀ t, f t = g ((4 * t) + i)) : del1 f lo k u = delf g (4 * lo) (4 * k) ((4 * u) + i) := by
  unfold del1 delf
  by_cases c : lo ≤ u ∧ u < k
  · rw [if_pos c, if_pos (by omega), h]
    congr 1
    omega
  · rw [if_neg c, if_neg (by omega), h]
theorem t_erase {C R C' R' : Mem} {u z z2 : Int} (h : REL C R) (hc : q4_erase C u z C') (hr : q5_erase R u z2 R') : z = z2 ∧ REL C' R' := by
  have hP := h.2.2.1
  have hB := h.1
  have hE := h.2.2.2.1
  have e1 := hE.1
  rcases hc with ⟨a, b, rfl⟩ | ⟨a, b, hq⟩
  · rcases hr with ⟨c, d, rfl⟩ | ⟨c, d, rfl⟩
    · exact ⟨by rw [b, d], h⟩
    · exact absurd (by rw [e1]; exact c) a
  · rcases hr with ⟨c, d, rfl⟩ | ⟨c, d, rfl⟩
    · exact absurd (by rw [← e1]; exact a) c
    · refine ⟨by rw [b, d, e1], REL_rn (M := edD C u) ⟨hB.1, hB.2.1, ⟨?_, del1_R hB.2.2.1.2.1, del1_R hB.2.2.1.2.2.1, del1_R hB.2.2.1.2.2.2.1, del1_R hB.2.2.1.2.2.2.2.1, hB.2.2.1.2.2.2.2.2⟩, hB.2.2.2⟩ h.2.1.1 hP ⟨?_, fun t => ⟨?_, ?_, ?_, ?_⟩, hE.2.2⟩ h.2.2.2.2.1 hq⟩
      · show 0 ≤ C 4 4 - 1 ∧ C 4 4 - 1 ≤ 16
        have := hB.2.2.1.1
        omega
      · show C 4 4 - 1 = R 0 1 - 1
        rw [e1]
      · show del1 (C 5) u (C 4 4 - 1) t = delf (R 1) (4 * u) (4 * (R 0 1 - 1)) (4 * t)
        rw [e1]
        have := del_e (f := C 5) (g := R 1) (lo := u) (k := R 0 1 - 1) (i := 0) (u := t) (by decide) (fun t => by rw [Int.add_zero]; exact (hE.2.1 t).1)
        rw [Int.add_zero] at this
        exact this
      · show del1 (C 6) u (C 4 4 - 1) t = delf (R 1) (4 * u) (4 * (R 0 1 - 1)) ((4 * t) + 1)
        rw [e1]
        exact del_e (by decide) (fun t => (hE.2.1 t).2.1)
      · show del1 (C 7) u (C 4 4 - 1) t = delf (R 1) (4 * u) (4 * (R 0 1 - 1)) ((4 * t) + 2)
        rw [e1]
        exact del_e (by decide) (fun t => (hE.2.1 t).2.2.1)
      · show del1 (C 8) u (C 4 4 - 1) t = delf (R 1) (4 * u) (4 * (R 0 1 - 1)) ((4 * t) + 3)
        rw [e1]
        exact del_e (by decide) (fun t => (hE.2.1 t).2.2.2)
theorem rulB_u {r : Int → Int} {w n : Int} (h : rulB r) (hw : 0 ≤ w ∧ w ≤ 4) (hn : 0 ≤ n ∧ n ≤ rmx w) : rulB (upf r w n) := by
  obtain ⟨r0, r1, r2, r3, r4⟩ := h
  unfold rmx at hn
  rcases (show w = 0 ∨ w = 1 ∨ w = 2 ∨ w = 3 ∨ w = 4 by omega) with rfl | rfl | rfl | rfl | rfl
  · exact ⟨by rw [upf_s]; exact hn, by rw [upf_n (by decide)]; exact r1, by rw [upf_n (by decide)]; exact r2, by rw [upf_n (by decide)]; exact r3, by rw [upf_n (by decide)]; exact r4⟩
  · exact ⟨by rw [upf_n (by decide)]; exact r0, by rw [upf_s]; exact hn, by rw [upf_n (by decide)]; exact r2, by rw [upf_n (by decide)]; exact r3, by rw [upf_n (by decide)]; exact r4⟩
  · exact ⟨by rw [upf_n (by decide)]; exact r0, by rw [upf_n (by decide)]; exact r1, by rw [upf_s]; exact hn, by rw [upf_n (by decide)]; exact r3, by rw [upf_n (by decide)]; exact r4⟩
  · exact ⟨by rw [upf_n (by decide)]; exact r0, by rw [upf_n (by decide)]; exact r1, by rw [upf_n (by decide)]; exact r2, by rw [upf_s]; exact hn, by rw [upf_n (by decide)]; exact r4⟩
  · exact ⟨by rw [upf_n (by decide)]; exact r0, by rw [upf_n (by decide)]; exact r1, by rw [upf_n (by decide)]; exact r2, by rw [upf_n (by decide)]; exact r3, by rw [upf_s]; exact hn⟩
theorem t_rule {C R C' R' : Mem} {w n z z2 : Int} (h : REL C R) (hc : q4_rule C w n z C') (hr : q5_rule R w n z2 R') : z = z2 ∧ REL C' R' := by
  have hB := h.1
  have hE := h.2.2.2.1
  have e9 := hE.2.2
  rcases hc with ⟨a, b, rfl⟩ | ⟨a, b, hq⟩
  · rcases hr with ⟨c, d, rfl⟩ | ⟨c, d, rfl⟩
    · exact ⟨by rw [b, d], h⟩
    · exact absurd c a
  · rcases hr with ⟨c, d, rfl⟩ | ⟨c, d, rfl⟩
    · exact absurd a c
    · refine ⟨by rw [b, d, e9], REL_rn (M := sc C 9 (upf (C 9) w n)) ⟨hB.1, hB.2.1, ⟨hB.2.2.1.1, hB.2.2.1.2.1, hB.2.2.1.2.2.1, hB.2.2.1.2.2.2.1, hB.2.2.1.2.2.2.2.1, rulB_u hB.2.2.1.2.2.2.2.2 a.1 a.2⟩, hB.2.2.2⟩ h.2.1.1 h.2.2.1 ⟨hE.1, hE.2.1, ?_⟩ h.2.2.2.2.1 hq⟩
      show upf (C 9) w n = upf (R 2) w n
      rw [e9]
/-! images -/
def imN (g f r : Int → Int) (c n : Int) : Int → Int := upf (cpy (cpy g f (70 * n) 64) r (70 * n + 64) 5) (70 * n + 69) c
theorem imN_e {g f r : Int → Int} {c n t : Int} (h : 0 ≤ t ∧ t < 64) : imN g f r c n (70 * n + t) = f t := by
  unfold imN upf cpy
  rw [if_neg (by omega), if_neg (by omega), if_pos (by omega)]
  congr 1
  omega
theorem imN_r {g f r : Int → Int} {c n t : Int} (h : 0 ≤ t ∧ t < 5) : imN g f r c n (70 * n + 64 + t) = r t := by
  unfold imN upf cpy
  rw [if_neg (by omega), if_pos (by omega)]
  congr 1
  omega
theorem imN_c {g f r : Int → Int} {c n : Int} : imN g f r c n (70 * n + 69) = c := by
  unfold imN
  exact upf_s _ _ _
theorem imN_o {g f r : Int → Int} {c n j : Int} (h : j < 70 * n ∨ 70 * n + 70 ≤ j) : imN g f r c n j = g j := by
  unfold imN upf cpy
  rw [if_neg (by omega), if_neg (by omega), if_neg (by omega)]
theorem IMf_new {n0 : Int} {u x lo hi r u2 x2 lo2 hi2 r2 g f : Int → Int} {n : Int} (hE : ∀ t, u t = f (4 * t) ∧ x t = f ((4 * t) + 1) ∧ lo t = f ((4 * t) + 2) ∧ hi t = f ((4 * t) + 3)) : IMf n0 (cpr u2 u 0 16) (cpr x2 x 0 16) (cpr lo2 lo 0 16) (cpr hi2 hi 0 16) (cpr r2 r 0 5) (imN g f r n0 n) (70 * n) := by
  refine ⟨imN_c.symm, fun j a b => ⟨?_, ?_, ?_, ?_⟩, fun j a b => ?_⟩
  · rw [cpr_at ⟨a, b⟩, imN_e (by omega), Int.zero_add, (hE j).1]
  · rw [cpr_at ⟨a, b⟩, imN_e (by omega), Int.zero_add, (hE j).2.1]
  · rw [cpr_at ⟨a, b⟩, imN_e (by omega), Int.zero_add, (hE j).2.2.1]
  · rw [cpr_at ⟨a, b⟩, imN_e (by omega), Int.zero_add, (hE j).2.2.2]
  · rw [cpr_at ⟨a, b⟩, imN_r ⟨a, b⟩, Int.zero_add]
theorem IMf_old {n0 c m n : Int} {u x lo hi r g f q : Int → Int} (h : IMf n0 u x lo hi r g (70 * m)) (hm : m + 1 ≤ n ∨ n + 1 ≤ m) : IMf n0 u x lo hi r (imN g f q c n) (70 * m) := by
  refine ⟨by rw [imN_o (by omega)]; exact h.1, fun j a b => ?_, fun j a b => by rw [imN_o (by omega)]; exact h.2.2 j a b⟩
  rw [imN_o (by omega), imN_o (by omega), imN_o (by omega), imN_o (by omega)]
  exact h.2.1 j a b
theorem rulB_cpr {f r : Int → Int} (h : rulB r) : rulB (cpr f r 0 5) := by
  obtain ⟨r0, r1, r2, r3, r4⟩ := h
  exact ⟨by rw [cpr_at (by decide), Int.zero_add]; exact r0, by rw [cpr_at (by decide), Int.zero_add]; exact r1, by rw [cpr_at (by decide), Int.zero_add]; exact r2, by rw [cpr_at (by decide), Int.zero_add]; exact r3, by rw [cpr_at (by decide), Int.zero_add]; exact r4⟩
theorem LBf_cpr {n : Int} {u x lo hi r u2 x2 lo2 hi2 r2 : Int → Int} (h : LBf n u x lo hi r) {m : Int} (h2 : LBf m u2 x2 lo2 hi2 r2) : LBf n (cpr u2 u 0 16) (cpr x2 x 0 16) (cpr lo2 lo 0 16) (cpr hi2 hi 0 16) (cpr r2 r 0 5) :=
  ⟨h.1, cpr_R h2.2.1 h.2.1, cpr_R h2.2.2.1 h.2.2.1, cpr_R h2.2.2.2.1 h.2.2.2.1, cpr_R h2.2.2.2.2.1 h.2.2.2.2.1, rulB_cpr h.2.2.2.2.2⟩
theorem upf_01 {g : Int → Int} {j : Int} (h : ∀ j, 0 ≤ g j ∧ g j ≤ 1) : ∀ i, 0 ≤ upf g j 1 i ∧ upf g j 1 i ≤ 1 := by
  intro i
  unfold upf
  split
  · decide
  · exact h i
theorem q5_im {R R' : Mem} {n z : Int} (hn : 0 ≤ n ∧ n ≤ 1) (h : q5_image R n z R') : z = 1 ∧ R' = sc (sc R 17 (imN (R 17) (R 1) (R 2) (R 0 1) n)) 18 (upf (R 18) n 1) := by
  rcases h with ⟨a, b, c⟩ | ⟨a, b, c⟩
  · exact absurd hn a
  · exact ⟨b, c⟩
theorem t_image_0 {C R C' R' : Mem} {z z2 : Int} (h : REL C R) (hc : z = 1 ∧ C' = sc (takeM C 10 4) 23 (upf (C 23) 0 1)) (hr : q5_image R 0 z2 R') : z = z2 ∧ REL C' R' := by
  obtain ⟨hB, hk, hP, hE, hI, hF⟩ := h
  obtain ⟨rfl, rfl⟩ := hc
  obtain ⟨rfl, rfl⟩ := q5_im (by decide) hr
  refine ⟨rfl, ⟨hB.1, hB.2.1, hB.2.2.1, ?_, hB.2.2.2.2.1, upf_01 hB.2.2.2.2.2⟩, kOK_c rfl (fun k a => ?_) hk, hP, hE, ⟨?_, fun _ => ?_, fun q => ?_⟩, FND_c rfl rfl rfl rfl rfl rfl rfl rfl rfl rfl rfl rfl rfl rfl rfl hF⟩
  · exact LBf_cpr hB.2.2.1 hB.2.2.2.1
  · unfold takeM
    rw [sc_n (by omega), sc_n (by omega), sc_n (by omega), sc_n (by omega), sc_n (by omega), sc_n (by omega), sc_n (by omega)]
  · show upf (C 23) 0 1 = upf (R 18) 0 1
    rw [hI.1]
  · show IMf (C 4 4) (cpr (C 11) (C 5) 0 16) (cpr (C 12) (C 6) 0 16) (cpr (C 13) (C 7) 0 16) (cpr (C 14) (C 8) 0 16) (cpr (C 15) (C 9) 0 5) (imN (R 17) (R 1) (R 2) (R 0 1) 0) (70 * 0)
    rw [hE.1, ← hE.2.2]
    exact IMf_new hE.2.1
  · exact IMf_old (hI.2.2 q) (by decide)
theorem t_image_1 {C R C' R' : Mem} {z z2 : Int} (h : REL C R) (hc : z = 1 ∧ C' = sc (takeM C 16 4) 23 (upf (C 23) 1 1)) (hr : q5_image R 1 z2 R') : z = z2 ∧ REL C' R' := by
  obtain ⟨hB, hk, hP, hE, hI, hF⟩ := h
  obtain ⟨rfl, rfl⟩ := hc
  obtain ⟨rfl, rfl⟩ := q5_im (by decide) hr
  refine ⟨rfl, ⟨hB.1, hB.2.1, hB.2.2.1, hB.2.2.2.1, ?_, upf_01 hB.2.2.2.2.2⟩, kOK_c rfl (fun k a => ?_) hk, hP, hE, ⟨?_, fun q => ?_, fun _ => ?_⟩, FND_c rfl rfl rfl rfl rfl rfl rfl rfl rfl rfl rfl rfl rfl rfl rfl hF⟩
  · exact LBf_cpr hB.2.2.1 hB.2.2.2.2.1
  · unfold takeM
    rw [sc_n (by omega), sc_n (by omega), sc_n (by omega), sc_n (by omega), sc_n (by omega), sc_n (by omega), sc_n (by omega)]
  · show upf (C 23) 1 1 = upf (R 18) 1 1
    rw [hI.1]
  · exact IMf_old (hI.2.1 q) (by decide)
  · show IMf (C 4 4) (cpr (C 17) (C 5) 0 16) (cpr (C 18) (C 6) 0 16) (cpr (C 19) (C 7) 0 16) (cpr (C 20) (C 8) 0 16) (cpr (C 21) (C 9) 0 5) (imN (R 17) (R 1) (R 2) (R 0 1) 1) (70 * 1)
    rw [hE.1, ← hE.2.2]
    exact IMf_new hE.2.1
theorem t_image_n {C R C' R' : Mem} {n z z2 : Int} (hn : ¬ (0 ≤ n ∧ n ≤ 1)) (h : REL C R) (hc : z = -2 ∧ C' = C) (hr : q5_image R n z2 R') : z = z2 ∧ REL C' R' := by
  obtain ⟨rfl, rfl⟩ := hc
  rcases hr with ⟨a, b, rfl⟩ | ⟨a, b, c⟩
  · exact ⟨b.symm, h⟩
  · exact absurd a hn
theorem EDG_res {n0 : Int} {u x lo hi r u2 x2 lo2 hi2 r2 g f q : Int → Int} {o : Int} (hE : ∀ t, u2 t = f (4 * t) ∧ x2 t = f ((4 * t) + 1) ∧ lo2 t = f ((4 * t) + 2) ∧ hi2 t = f ((4 * t) + 3)) (hr : r2 = q) (h : IMf n0 u x lo hi r g o) :
    (∀ t, cpr u2 u 0 16 t = cpr f g o 64 (4 * t) ∧ cpr x2 x 0 16 t = cpr f g o 64 ((4 * t) + 1) ∧ cpr lo2 lo 0 16 t = cpr f g o 64 ((4 * t) + 2) ∧ cpr hi2 hi 0 16 t = cpr f g o 64 ((4 * t) + 3)) ∧ cpr r2 r 0 5 = cpr q g (o + 64) 5 := by
  refine ⟨fun t => ?_, ?_⟩
  · by_cases c : 0 ≤ t ∧ t < 16
    · have k := h.2.1 t c.1 c.2
      rw [cpr_at c, cpr_at c, cpr_at c, cpr_at c, cpr_at (by omega), cpr_at (by omega), cpr_at (by omega), cpr_at (by omega), Int.zero_add]
      exact k
    · have k := hE t
      unfold cpr
      rw [if_neg c, if_neg c, if_neg c, if_neg c, if_neg (by omega), if_neg (by omega), if_neg (by omega), if_neg (by omega)]
      exact k
  · funext t
    unfold cpr
    by_cases c : 0 ≤ t ∧ t < 5
    · rw [if_pos c, if_pos c, Int.zero_add]
      exact h.2.2 t c.1 c.2
    · rw [if_neg c, if_neg c, hr]
theorem t_restore_0 {C R C' R' : Mem} {z z2 : Int} (h : REL C R) (hc : (C 23 0 = 0 ∧ z = -3 ∧ C' = C) ∨ (C 23 0 ≠ 0 ∧ z = 1 ∧ rnQ (takeM C 4 10) C')) (hr : q5_restore R 0 z2 R') : z = z2 ∧ REL C' R' := by
  have hI := h.2.2.2.2.1
  have hB := h.1
  have hE := h.2.2.2.1
  have e23 : C 23 0 = R 18 0 := by rw [hI.1]
  rcases hc with ⟨a, b, rfl⟩ | ⟨a, b, hq⟩
  · rcases hr with ⟨c, d, rfl⟩ | ⟨c, c2, d, rfl⟩ | ⟨c, c2, d, rfl⟩
    · exact absurd (by decide) c
    · exact ⟨by rw [b, d], h⟩
    · exact absurd (e23.symm.trans a) c2
  · rcases hr with ⟨c, d, rfl⟩ | ⟨c, c2, d, rfl⟩ | ⟨c, c2, d, rfl⟩
    · exact absurd (by decide) c
    · exact absurd (e23.trans c2) a
    · have k := hI.2.1 a
      have w := EDG_res hE.2.1 hE.2.2 k
      exact ⟨by rw [b, d], REL_rn (M := takeM C 4 10) ⟨hB.1, hB.2.1, LBf_cpr hB.2.2.2.1 hB.2.2.1, hB.2.2.2⟩ h.2.1.1 h.2.2.1 ⟨k.1, w.1, w.2⟩ hI hq⟩
theorem t_restore_1 {C R C' R' : Mem} {z z2 : Int} (h : REL C R) (hc : (C 23 1 = 0 ∧ z = -3 ∧ C' = C) ∨ (C 23 1 ≠ 0 ∧ z = 1 ∧ rnQ (takeM C 4 16) C')) (hr : q5_restore R 1 z2 R') : z = z2 ∧ REL C' R' := by
  have hI := h.2.2.2.2.1
  have hB := h.1
  have hE := h.2.2.2.1
  have e23 : C 23 1 = R 18 1 := by rw [hI.1]
  rcases hc with ⟨a, b, rfl⟩ | ⟨a, b, hq⟩
  · rcases hr with ⟨c, d, rfl⟩ | ⟨c, c2, d, rfl⟩ | ⟨c, c2, d, rfl⟩
    · exact absurd (by decide) c
    · exact ⟨by rw [b, d], h⟩
    · exact absurd (e23.symm.trans a) c2
  · rcases hr with ⟨c, d, rfl⟩ | ⟨c, c2, d, rfl⟩ | ⟨c, c2, d, rfl⟩
    · exact absurd (by decide) c
    · exact absurd (e23.trans c2) a
    · have k := hI.2.2 a
      have w := EDG_res hE.2.1 hE.2.2 k
      exact ⟨by rw [b, d], REL_rn (M := takeM C 4 16) ⟨hB.1, hB.2.1, LBf_cpr hB.2.2.2.2.1 hB.2.2.1, hB.2.2.2⟩ h.2.1.1 h.2.2.1 ⟨k.1, w.1, w.2⟩ hI hq⟩
theorem t_restore_n {C R C' R' : Mem} {n z z2 : Int} (hn : ¬ (0 ≤ n ∧ n ≤ 1)) (h : REL C R) (hc : z = -2 ∧ C' = C) (hr : q5_restore R n z2 R') : z = z2 ∧ REL C' R' := by
  obtain ⟨rfl, rfl⟩ := hc
  rcases hr with ⟨a, b, rfl⟩ | ⟨a, c2, b, c⟩ | ⟨a, c2, b, c⟩
  · exact ⟨b.symm, h⟩
  · exact absurd a hn
  · exact absurd a hn
