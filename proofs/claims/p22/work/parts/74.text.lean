/-! ===== a pad's text that tells an edge ===== -/
theorem vz_c {f g : Int → Int} {t : Int} : ∀ k : Nat, (∀ j : Int, t ≤ j → j < t + k → f j = g j) → vz f t k = vz g t k
  | 0, _ => rfl
  | k + 1, h => by
    show (10 * vz f t k + f (t + k)) - 48 = (10 * vz g t k + g (t + k)) - 48
    rw [vz_c k (fun j a b => h j a (by omega)), h (t + k) (by omega) (by omega)]
theorem vI_c {f g : Int → Int} {t k : Int} (h : ∀ j : Int, t ≤ j → j < t + k → f j = g j) : vI f t k = vI g t k := vz_c _ (fun j a b => h j a (by omega))
theorem vI_1 (f : Int → Int) (t : Int) : vI f t 1 = f t - 48 := by
  have e := vI_s (p := f) (t := t) (k := 0) (by decide)
  have e0 : vI f t 0 = 0 := rfl
  rw [show (0 : Int) + 1 = 1 by decide, e0, Int.add_zero] at e
  omega
theorem vI_2 (f : Int → Int) (t : Int) : vI f t 2 = 10 * (f t - 48) + (f (t + 1) - 48) := by
  have e := vI_s (p := f) (t := t) (k := 1) (by decide)
  rw [show (1 : Int) + 1 = 2 by decide, vI_1] at e
  omega
theorem vI_3 (f : Int → Int) (t : Int) : vI f t 3 = 100 * (f t - 48) + 10 * (f (t + 1) - 48) + (f (t + 2) - 48) := by
  have e := vI_s (p := f) (t := t) (k := 2) (by decide)
  rw [show (2 : Int) + 1 = 3 by decide, vI_2] at e
  omega
theorem fl_text {f : Int → Int} {k1 k2 k3 n : Int} (h1 : 1 ≤ k1 ∧ k1 ≤ 3) (h2 : 1 ≤ k2 ∧ k2 ≤ 3) (h3 : 1 ≤ k3 ∧ k3 ≤ 3) (hn : n = 3 + k1 + k2 + k3) (h0 : f 0 = 117 ∨ f 0 = 100) (d1 : ∀ j, 1 ≤ j → j < 1 + k1 → 48 ≤ f j ∧ f j ≤ 57) (c1 : f (1 + k1) = 44) (d2 : ∀ j, 2 + k1 ≤ j → j < 2 + k1 + k2 → 48 ≤ f j ∧ f j ≤ 57) (c2 : f (2 + k1 + k2) = 45) (d3 : ∀ j, 3 + k1 + k2 ≤ j → j < n → 48 ≤ f j ∧ f j ≤ 57) (hv : vI f (2 + k1) k2 < vI f (3 + k1 + k2) k3) :
    fl f n = -6 ∧ pv1 f n = vI f 1 k1 ∧ pv2 f n = vI f (2 + k1) k2 ∧ pv3 f n = vI f (3 + k1 + k2) k3 := by
  have g1 : fg f n 1 = k1 := fg_is (by omega) (fun j a b => ⟨by omega, d1 _ (by omega) (by omega)⟩) (Or.inr (fun q => by have := q.2; omega))
  have e1 : pe1 f n = 1 + k1 := by unfold pe1; rw [g1]
  have e2 : pa2 f n = 2 + k1 := by unfold pa2; rw [e1]; omega
  have g2 : fg f n (2 + k1) = k2 := fg_is (by omega) (fun j a b => ⟨by omega, d2 _ (by omega) (by omega)⟩) (Or.inr (fun q => by have := q.2; omega))
  have e3 : pe2 f n = 2 + k1 + k2 := by unfold pe2; rw [e2, g2]
  have e4 : pa3 f n = 3 + k1 + k2 := by unfold pa3; rw [e3]; omega
  have g3 : fg f n (3 + k1 + k2) = k3 := fg_is (by omega) (fun j a b => ⟨by omega, d3 _ (by omega) (by omega)⟩) (Or.inr (fun q => by have := q.1; omega))
  have e5 : pe3 f n = n := by unfold pe3; rw [e4, g3]; omega
  have p1 : pv1 f n = vI f 1 k1 := by unfold pv1; rw [g1]
  have p2 : pv2 f n = vI f (2 + k1) k2 := by unfold pv2; rw [e2, g2]
  have p3 : pv3 f n = vI f (3 + k1 + k2) k3 := by unfold pv3; rw [e4, g3]
  exact ⟨fl_7 ⟨by omega, h0⟩ (by omega) ⟨by omega, by rw [e1]; exact c1⟩ (by rw [e2]; omega) ⟨by omega, by rw [e3]; exact c2⟩ (by rw [e4]; omega) (by omega) (by rw [p2, p3]; exact hv), p1, p2, p3⟩
theorem upf_P {g : Int → Int} {j z : Int} (h : ∀ j, 0 ≤ g j ∧ g j ≤ 126) (hz : 0 ≤ z ∧ z ≤ 126) : ∀ i, 0 ≤ upf g j z i ∧ upf g j z i ≤ 126 := by
  intro i
  unfold upf
  split
  · exact hz
  · exact h i
/-- a number told: its figures stand behind what was told before -/
def numQ (M : Mem) (v : Int) (M' : Mem) : Prop := ∃ (k : Int) (f : Int → Int), (1 ≤ k ∧ k ≤ 3) ∧ M' = sc (sc M 1 (upf (M 1) 1 (M 1 1 + k))) 2 f ∧ (∀ j, j < M 1 1 → f j = M 2 j) ∧ (∀ j, 0 ≤ f j ∧ f j ≤ 126) ∧ (∀ j, M 1 1 ≤ j → j < M 1 1 + k → 48 ≤ f j ∧ f j ≤ 57) ∧ vI f (M 1 1) k = v
theorem num1 {M : Mem} {v a : Int} (hP : ∀ j, 0 ≤ M 2 j ∧ M 2 j ≤ 126) (ha : 48 ≤ a ∧ a ≤ 57) (hv : a - 48 = v) : numQ M v (sc (sc M 1 (upf (M 1) 1 (M 1 1 + 1))) 2 (upf (M 2) (M 1 1) a)) := by
  refine ⟨1, _, by omega, rfl, fun j h => upf_n (by omega), upf_P hP (by omega), fun j h h2 => ?_, ?_⟩
  · rw [show j = M 1 1 by omega, upf_s]; exact ha
  · rw [vI_1, upf_s]; exact hv
theorem num2 {M : Mem} {v a b : Int} (hP : ∀ j, 0 ≤ M 2 j ∧ M 2 j ≤ 126) (ha : 48 ≤ a ∧ a ≤ 57) (hb : 48 ≤ b ∧ b ≤ 57) (hv : 10 * (a - 48) + (b - 48) = v) : numQ M v (sc (sc M 1 (upf (M 1) 1 (M 1 1 + 2))) 2 (upf (upf (M 2) (M 1 1) a) (M 1 1 + 1) b)) := by
  refine ⟨2, _, by omega, rfl, fun j h => by rw [upf_n (by omega), upf_n (by omega)], upf_P (upf_P hP (by omega)) (by omega), fun j h h2 => ?_, ?_⟩
  · rcases (show j = M 1 1 ∨ j = M 1 1 + 1 by omega) with e | e
    · rw [e, upf_n (by omega), upf_s]; exact ha
    · rw [e, upf_s]; exact hb
  · rw [vI_2, upf_n (by omega), upf_s, upf_s]; exact hv
theorem num3 {M : Mem} {v a b c : Int} (hP : ∀ j, 0 ≤ M 2 j ∧ M 2 j ≤ 126) (ha : 48 ≤ a ∧ a ≤ 57) (hb : 48 ≤ b ∧ b ≤ 57) (hc : 48 ≤ c ∧ c ≤ 57) (hv : 100 * (a - 48) + 10 * (b - 48) + (c - 48) = v) : numQ M v (sc (sc M 1 (upf (M 1) 1 (M 1 1 + 3))) 2 (upf (upf (upf (M 2) (M 1 1) a) (M 1 1 + 1) b) (M 1 1 + 2) c)) := by
  refine ⟨3, _, by omega, rfl, fun j h => by rw [upf_n (by omega), upf_n (by omega), upf_n (by omega)], upf_P (upf_P (upf_P hP (by omega)) (by omega)) (by omega), fun j h h2 => ?_, ?_⟩
  · rcases (show j = M 1 1 ∨ j = M 1 1 + 1 ∨ j = M 1 1 + 2 by omega) with e | e | e
    · rw [e, upf_n (by omega), upf_n (by omega), upf_s]; exact ha
    · rw [e, upf_n (by omega), upf_s]; exact hb
    · rw [e, upf_s]; exact hc
  · rw [vI_3, upf_n (by omega), upf_n (by omega), upf_s, upf_n (by omega), upf_s, upf_s]; exact hv
/-! ===== the state while the letter is told ===== -/
def BI (M : Mem) (k : Int) : Prop := CI M ∧ M 4 4 = k ∧ M 44 0 = k ∧ ∀ i, 0 ≤ i → i < 5 → M 9 i = M 44 (1 + i)
theorem BI_edge {M cur N : Mem} {k : Int} {nu : Int → Int} (hB : BI M k) (hk : 0 ≤ k ∧ k ≤ 15) (hc : ∀ j : Nat, j ≠ 1 ∧ j ≠ 2 ∧ j ≠ 43 ∧ j ≠ 44 → cur j = M j) (h2 : ∀ j, 0 ≤ cur 2 j ∧ cur 2 j ≤ 126) (h44 : cur 44 = upf (M 44) 0 (k + 1)) (hnu : nu 0 = pv1 (cur 2) (cur 1 1) ∧ nu 1 = pv2 (cur 2) (cur 1 1) ∧ nu 2 = pv3 (cur 2) (cur 1 1)) (h : rnQ (edA cur nu) N) : BI N (k + 1) ∧ N 44 0 = k + 1 := by
  obtain ⟨⟨hCB, hK, hF⟩, b4, b44, b9⟩ := hB
  have e4 := hc 4 (by decide)
  have e44 : N 44 = upf (M 44) 0 (k + 1) := (rn_id h (by decide)).trans h44
  have hBo : CBo (edA cur nu) := by
    refine ⟨?_, h2, ⟨?_, ?_, ?_, ?_, ?_, ?_⟩, ?_, ?_, ?_⟩
    · show 0 ≤ (0 : Int) ∧ (0 : Int) ≤ 30
      decide
    · show 0 ≤ cur 4 4 + 1 ∧ cur 4 4 + 1 ≤ 16
      rw [e4]
      omega
    · exact upf_R (by rw [hc 5 (by decide)]; exact hCB.2.2.1.2.1) (upz_R _)
    · exact upf_R (by rw [hc 6 (by decide)]; exact hCB.2.2.1.2.2.1) (by rw [hnu.1]; exact pv_R _ _ _)
    · exact upf_R (by rw [hc 7 (by decide)]; exact hCB.2.2.1.2.2.2.1) (by rw [hnu.2.1]; exact pv_R _ _ _)
    · exact upf_R (by rw [hc 8 (by decide)]; exact hCB.2.2.1.2.2.2.2.1) (by rw [hnu.2.2]; exact pv_R _ _ _)
    · show rulB (cur 9)
      rw [hc 9 (by decide)]
      exact hCB.2.2.1.2.2.2.2.2
    · show LBf (cur 10 4) (cur 11) (cur 12) (cur 13) (cur 14) (cur 15)
      rw [hc 10 (by decide), hc 11 (by decide), hc 12 (by decide), hc 13 (by decide), hc 14 (by decide), hc 15 (by decide)]
      exact hCB.2.2.2.1
    · show LBf (cur 16 4) (cur 17) (cur 18) (cur 19) (cur 20) (cur 21)
      rw [hc 16 (by decide), hc 17 (by decide), hc 18 (by decide), hc 19 (by decide), hc 20 (by decide), hc 21 (by decide)]
      exact hCB.2.2.2.2.1
    · show ∀ j, 0 ≤ cur 23 j ∧ cur 23 j ≤ 1
      rw [hc 23 (by decide)]
      exact hCB.2.2.2.2.2
  have hk37 : ∀ j, 0 ≤ (edA cur nu) 37 j ∧ (edA cur nu) 37 j ≤ 1 := by
    show ∀ j, 0 ≤ cur 37 j ∧ cur 37 j ≤ 1
    rw [hc 37 (by decide)]
    exact hK.1
  have hN4 : N 4 4 = k + 1 := by
    rw [rn_id h (by decide)]
    show cur 4 4 + 1 = k + 1
    rw [e4, b4]
  have hN9 : N 9 = M 9 := (rn_id h (by decide)).trans (hc 9 (by decide))
  refine ⟨⟨CI_rn hBo hk37 h, hN4, by rw [e44, upf_s], fun i a b => ?_⟩, by rw [e44, upf_s]⟩
  rw [hN9, e44, upf_n (by omega)]
  exact b9 i a b
theorem BI_rule {M N : Mem} {k w n : Int} (hB : BI M k) (hw : 0 ≤ w ∧ w ≤ 4) (hn : 0 ≤ n ∧ n ≤ rmx w) (h : rnQ (sc M 9 (upf (M 9) w n)) N) : BI (sc N 44 (upf (N 44) (1 + w) n)) k := by
  obtain ⟨⟨hCB, hK, hF⟩, b4, b44, b9⟩ := hB
  have hr : rulB (upf (M 9) w n) := by
    obtain ⟨r0, r1, r2, r3, r4⟩ := hCB.2.2.1.2.2.2.2.2
    unfold rmx at hn
    refine ⟨?_, ?_, ?_, ?_, ?_⟩
    · unfold upf; split
      · rw [if_pos (by omega)] at hn; omega
      · exact r0
    · unfold upf; split
      · rw [if_neg (by omega), if_pos (by omega)] at hn; exact hn
      · exact r1
    · unfold upf; split
      · rw [if_neg (by omega), if_pos (by omega)] at hn; exact hn
      · exact r2
    · unfold upf; split
      · rw [if_neg (by omega), if_neg (by omega)] at hn; exact hn
      · exact r3
    · unfold upf; split
      · rw [if_neg (by omega), if_neg (by omega)] at hn; exact hn
      · exact r4
  have hBo : CBo (sc M 9 (upf (M 9) w n)) := ⟨hCB.1, hCB.2.1, ⟨hCB.2.2.1.1, hCB.2.2.1.2.1, hCB.2.2.1.2.2.1, hCB.2.2.1.2.2.2.1, hCB.2.2.1.2.2.2.2.1, hr⟩, hCB.2.2.2.1, hCB.2.2.2.2.1, hCB.2.2.2.2.2⟩
  have hC := CI_rn hBo hK.1 h
  have hS : CI (sc N 44 (upf (N 44) (1 + w) n)) := ⟨hC.1, hC.2.1, hC.2.2⟩
  have e44 : N 44 = M 44 := rn_id h (by decide)
  have e9 : N 9 = upf (M 9) w n := rn_id h (by decide)
  have e4 : N 4 = M 4 := rn_id h (by decide)
  refine ⟨hS, ?_, ?_, fun i a b => ?_⟩
  · show N 4 4 = k
    rw [e4, b4]
  · show upf (N 44) (1 + w) n 0 = k
    rw [upf_n (by omega), e44, b44]
  · show N 9 i = upf (N 44) (1 + w) n (1 + i)
    rw [e9, e44]
    by_cases e : i = w
    · subst e; rw [upf_s, upf_s]
    · rw [upf_n e, upf_n (by omega)]
      exact b9 i a b
