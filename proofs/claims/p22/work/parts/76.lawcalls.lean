/-! ===== the class's calls, as the law makes them ===== -/
theorem keepF_43 {M M1 : Mem} (h : keepF M M1) : ∀ k : Nat, 43 ≤ k → M1 k = M k := fun k hk => h k (Or.inr (by omega))
theorem rn_43 {M N : Mem} (h : rnQ M N) : ∀ k : Nat, 43 ≤ k → N k = M k := fun k hk => rn_id h (by omega)
theorem e4_wipe {X : (Nat → Prop) → State → Heap → Prop} (hXX : ∀ (A : Nat → Prop) (U : State) (H : Heap), X A U H → XS A U H) (l : Launch) (a : Nat → Nat) (M : Mem)  : CtI X l yX4_wipe wsX4_wipe ({ frames := 1, cells := 0, slots := 0, locals := 20 } : Room) LL a M [.ref (a 0)] (fun z M' => z = M 1 1 ∧ M' = sc M 1 (upf (M 1) 1 0)) :=
  CtI.lift XS_c hXX LE (n := 43) rfl (fun z M1 q k hk => by rw [q.2]; exact sc_n (by omega)) (c4_wipe l a M)
theorem e4_say {X : (Nat → Prop) → State → Heap → Prop} (hXX : ∀ (A : Nat → Prop) (U : State) (H : Heap), X A U H → XS A U H) (l : Launch) (a : Nat → Nat) (M : Mem) (v : Int) (hv : 33 ≤ v ∧ v ≤ 126) (hn : 0 ≤ M 1 1 ∧ M 1 1 < 30) (hP : ∀ j, 0 ≤ M 2 j ∧ M 2 j ≤ 126) : CtI X l yX4_say wsX4_say ({ frames := 1, cells := 0, slots := 0, locals := 22 } : Room) LL a M [.ref (a 0), .int (iI v)] (fun _ M' => M' = sc (sc M 1 (upf (M 1) 1 (M 1 1 + 1))) 2 (upf (M 2) (M 1 1) v)) :=
  CtI.lift XS_c hXX LE (n := 43) rfl (fun z M1 q k hk => by rw [q]; exact (sc_n (by omega)).trans (sc_n (by omega))) ((c4_say l a M v (by omega) (by omega) hP).mono (fun z M' q => by
    rcases q with ⟨c, -⟩ | ⟨-, c, -⟩ | ⟨-, -, -, e⟩
    · exact absurd hv c
    · omega
    · exact e))
theorem e4_edge {X : (Nat → Prop) → State → Heap → Prop} (hXX : ∀ (A : Nat → Prop) (U : State) (H : Heap), X A U H → XS A U H) (l : Launch) (a : Nat → Nat) (M : Mem) (hn : 0 ≤ M 1 1 ∧ M 1 1 ≤ 30) (hP : ∀ j, 0 ≤ M 2 j ∧ M 2 j ≤ 126) (hL : LBf (M 4 4) (M 5) (M 6) (M 7) (M 8) (M 9)) : CtI X l yX4_edge wsX4_edge ({ frames := 5, cells := 0, slots := 0, locals := 112 } : Room) LL a M [.ref (a 0)] (q4_edge M) :=
  CtI.lift XS_c hXX LE (n := 43) rfl (fun z M1 q k hk => by
    rcases q with ⟨-, -, nu, e⟩ | ⟨-, -, -, nu, e⟩ | ⟨-, -, -, nu, -, hr⟩
    · rw [e]; exact sc_n (by omega)
    · rw [e]; exact sc_n (by omega)
    · rw [rn_43 hr k hk]
      exact (sc_n (by omega)).trans ((sc_n (by omega)).trans ((sc_n (by omega)).trans ((sc_n (by omega)).trans ((sc_n (by omega)).trans ((sc_n (by omega)).trans (sc_n (by omega)))))))) (c4_edge l a M hn hP hL.1 hL.2.1 hL.2.2.1 hL.2.2.2.1 hL.2.2.2.2.1 hL.2.2.2.2.2.1)
theorem e4_rule {X : (Nat → Prop) → State → Heap → Prop} (hXX : ∀ (A : Nat → Prop) (U : State) (H : Heap), X A U H → XS A U H) (l : Launch) (a : Nat → Nat) (M : Mem) (w n : Int) (hw : 0 ≤ w ∧ w ≤ 4) (hnn : 0 ≤ n ∧ n ≤ rmx w) (hC : CI M) : CtI X l yX4_rule wsX4_rule ({ frames := 5, cells := 0, slots := 0, locals := 112 } : Room) LL a M [.ref (a 0), .int (iI w), .int (iI n)] (fun z M' => z = M 9 w ∧ rnQ (sc M 9 (upf (M 9) w n)) M') :=
  CtI.lift XS_c hXX LE (n := 43) rfl (fun z M1 q k hk => by rw [rn_43 q.2 k hk]; exact sc_n (by omega)) ((c4_rule l a M w n (by omega) (by have := rmx_R w; omega) hC.1.2.2.1.1 hC.1.2.2.1.2.1 hC.1.2.2.1.2.2.1 hC.1.2.2.1.2.2.2.1 hC.1.2.2.1.2.2.2.2.1 hC.1.2.2.1.2.2.2.2.2.1).mono (fun z M' q => by
    rcases q with ⟨c, -⟩ | ⟨-, e⟩
    · exact absurd ⟨hw, hnn⟩ c
    · exact e))
theorem e4_count_1 {X : (Nat → Prop) → State → Heap → Prop} (hXX : ∀ (A : Nat → Prop) (U : State) (H : Heap), X A U H → XS A U H) (l : Launch) (a : Nat → Nat) (M : Mem) (hC : CI M) : CtI X l yX4_count wsX4_count ({ frames := 1, cells := 0, slots := 0, locals := 22 } : Room) LL a M [.ref (a 0), .int (iI 1)] (fun z M' => z = M 4 4 ∧ M' = M) :=
  CtI.lift XS_c hXX LE (n := 43) rfl (fun z M1 q k _ => by rw [q.2]) ((c4_count l a 1 (by decide) M (CI_lOK hC) (CI_rul hC) (CI_m hC)).mono (fun z M' q => ⟨q.1, q.2⟩))
theorem e4_count_2 {X : (Nat → Prop) → State → Heap → Prop} (hXX : ∀ (A : Nat → Prop) (U : State) (H : Heap), X A U H → XS A U H) (l : Launch) (a : Nat → Nat) (M : Mem) (hC : CI M) : CtI X l yX4_count wsX4_count ({ frames := 1, cells := 0, slots := 0, locals := 22 } : Room) LL a M [.ref (a 0), .int (iI 2)] (fun z M' => z = M 24 0 ∧ M' = M) :=
  CtI.lift XS_c hXX LE (n := 43) rfl (fun z M1 q k _ => by rw [q.2]) ((c4_count l a 2 (by decide) M (CI_lOK hC) (CI_rul hC) (CI_m hC)).mono (fun z M' q => ⟨q.1, q.2⟩))
theorem e4_count_3 {X : (Nat → Prop) → State → Heap → Prop} (hXX : ∀ (A : Nat → Prop) (U : State) (H : Heap), X A U H → XS A U H) (l : Launch) (a : Nat → Nat) (M : Mem) (hC : CI M) : CtI X l yX4_count wsX4_count ({ frames := 1, cells := 0, slots := 0, locals := 22 } : Room) LL a M [.ref (a 0), .int (iI 3)] (fun z M' => z = M 24 6 ∧ M' = M) :=
  CtI.lift XS_c hXX LE (n := 43) rfl (fun z M1 q k _ => by rw [q.2]) ((c4_count l a 3 (by decide) M (CI_lOK hC) (CI_rul hC) (CI_m hC)).mono (fun z M' q => ⟨q.1, q.2⟩))
theorem e4_stem_0 {X : (Nat → Prop) → State → Heap → Prop} (hXX : ∀ (A : Nat → Prop) (U : State) (H : Heap), X A U H → XS A U H) (l : Launch) (a : Nat → Nat) (M : Mem) (j : Int) (hj : 0 ≤ j ∧ j < M 24 0) (hC : CI M) : CtI X l yX4_stem wsX4_stem ({ frames := 1, cells := 0, slots := 0, locals := 22 } : Room) LL a M [.ref (a 0), .int (iI j), .int (iI 0)] (fun z M' => z = M 25 j ∧ M' = M) :=
  CtI.lift XS_c hXX LE (n := 43) rfl (fun z M1 q k _ => by rw [q.2]) ((c4_stem l a j 0 (by have := CI_n hC; have := CI_m hC; omega) (by decide) M (CI_lOK hC) (CI_rul hC) (CI_m hC)).mono (fun z M' q => ⟨q.1.trans ((if_pos (show 0 ≤ j ∧ j ≤ M 24 0 - 1 by omega)).trans rfl), q.2⟩))
theorem e4_stem_1 {X : (Nat → Prop) → State → Heap → Prop} (hXX : ∀ (A : Nat → Prop) (U : State) (H : Heap), X A U H → XS A U H) (l : Launch) (a : Nat → Nat) (M : Mem) (j : Int) (hj : 0 ≤ j ∧ j < M 24 0) (hC : CI M) : CtI X l yX4_stem wsX4_stem ({ frames := 1, cells := 0, slots := 0, locals := 22 } : Room) LL a M [.ref (a 0), .int (iI j), .int (iI 1)] (fun z M' => z = M 26 j ∧ M' = M) :=
  CtI.lift XS_c hXX LE (n := 43) rfl (fun z M1 q k _ => by rw [q.2]) ((c4_stem l a j 1 (by have := CI_n hC; have := CI_m hC; omega) (by decide) M (CI_lOK hC) (CI_rul hC) (CI_m hC)).mono (fun z M' q => ⟨q.1.trans ((if_pos (show 0 ≤ j ∧ j ≤ M 24 0 - 1 by omega)).trans rfl), q.2⟩))
theorem e4_stem_2 {X : (Nat → Prop) → State → Heap → Prop} (hXX : ∀ (A : Nat → Prop) (U : State) (H : Heap), X A U H → XS A U H) (l : Launch) (a : Nat → Nat) (M : Mem) (j : Int) (hj : 0 ≤ j ∧ j < M 24 0) (hC : CI M) : CtI X l yX4_stem wsX4_stem ({ frames := 1, cells := 0, slots := 0, locals := 22 } : Room) LL a M [.ref (a 0), .int (iI j), .int (iI 2)] (fun z M' => z = M 27 j ∧ M' = M) :=
  CtI.lift XS_c hXX LE (n := 43) rfl (fun z M1 q k _ => by rw [q.2]) ((c4_stem l a j 2 (by have := CI_n hC; have := CI_m hC; omega) (by decide) M (CI_lOK hC) (CI_rul hC) (CI_m hC)).mono (fun z M' q => ⟨q.1.trans ((if_pos (show 0 ≤ j ∧ j ≤ M 24 0 - 1 by omega)).trans rfl), q.2⟩))
theorem e4_stem_3 {X : (Nat → Prop) → State → Heap → Prop} (hXX : ∀ (A : Nat → Prop) (U : State) (H : Heap), X A U H → XS A U H) (l : Launch) (a : Nat → Nat) (M : Mem) (j : Int) (hj : 0 ≤ j ∧ j < M 24 0) (hC : CI M) : CtI X l yX4_stem wsX4_stem ({ frames := 1, cells := 0, slots := 0, locals := 22 } : Room) LL a M [.ref (a 0), .int (iI j), .int (iI 3)] (fun z M' => z = M 28 j ∧ M' = M) :=
  CtI.lift XS_c hXX LE (n := 43) rfl (fun z M1 q k _ => by rw [q.2]) ((c4_stem l a j 3 (by have := CI_n hC; have := CI_m hC; omega) (by decide) M (CI_lOK hC) (CI_rul hC) (CI_m hC)).mono (fun z M' q => ⟨q.1.trans ((if_pos (show 0 ≤ j ∧ j ≤ M 24 0 - 1 by omega)).trans rfl), q.2⟩))
theorem e4_stem_4 {X : (Nat → Prop) → State → Heap → Prop} (hXX : ∀ (A : Nat → Prop) (U : State) (H : Heap), X A U H → XS A U H) (l : Launch) (a : Nat → Nat) (M : Mem) (j : Int) (hj : 0 ≤ j ∧ j < M 24 0) (hC : CI M) : CtI X l yX4_stem wsX4_stem ({ frames := 1, cells := 0, slots := 0, locals := 22 } : Room) LL a M [.ref (a 0), .int (iI j), .int (iI 4)] (fun z M' => z = M 29 j ∧ M' = M) :=
  CtI.lift XS_c hXX LE (n := 43) rfl (fun z M1 q k _ => by rw [q.2]) ((c4_stem l a j 4 (by have := CI_n hC; have := CI_m hC; omega) (by decide) M (CI_lOK hC) (CI_rul hC) (CI_m hC)).mono (fun z M' q => ⟨q.1.trans ((if_pos (show 0 ≤ j ∧ j ≤ M 24 0 - 1 by omega)).trans rfl), q.2⟩))
theorem e4_kind_0 {X : (Nat → Prop) → State → Heap → Prop} (hXX : ∀ (A : Nat → Prop) (U : State) (H : Heap), X A U H → XS A U H) (l : Launch) (a : Nat → Nat) (M : Mem) (k : Int) (hk : 0 ≤ k ∧ k < M 24 6) (hC : CI M) : CtI X l yX4_kind wsX4_kind ({ frames := 1, cells := 0, slots := 0, locals := 22 } : Room) LL a M [.ref (a 0), .int (iI k), .int (iI 0)] (fun z M' => z = M 30 k ∧ M' = M) :=
  CtI.lift XS_c hXX LE (n := 43) rfl (fun z M1 q k _ => by rw [q.2]) ((c4_kind l a k 0 (by have := CI_n hC; have := CI_m hC; have := (CI_grp hC).1; omega) (by decide) M (CI_lOK hC) (CI_rul hC) (CI_m hC)).mono (fun z M' q => ⟨q.1.trans ((if_pos (show 0 ≤ k ∧ k ≤ M 24 6 - 1 by omega)).trans rfl), q.2⟩))
theorem e4_kind_1 {X : (Nat → Prop) → State → Heap → Prop} (hXX : ∀ (A : Nat → Prop) (U : State) (H : Heap), X A U H → XS A U H) (l : Launch) (a : Nat → Nat) (M : Mem) (k : Int) (hk : 0 ≤ k ∧ k < M 24 6) (hC : CI M) : CtI X l yX4_kind wsX4_kind ({ frames := 1, cells := 0, slots := 0, locals := 22 } : Room) LL a M [.ref (a 0), .int (iI k), .int (iI 1)] (fun z M' => z = M 31 k ∧ M' = M) :=
  CtI.lift XS_c hXX LE (n := 43) rfl (fun z M1 q k _ => by rw [q.2]) ((c4_kind l a k 1 (by have := CI_n hC; have := CI_m hC; have := (CI_grp hC).1; omega) (by decide) M (CI_lOK hC) (CI_rul hC) (CI_m hC)).mono (fun z M' q => ⟨q.1.trans ((if_pos (show 0 ≤ k ∧ k ≤ M 24 6 - 1 by omega)).trans rfl), q.2⟩))
theorem e4_kind_2 {X : (Nat → Prop) → State → Heap → Prop} (hXX : ∀ (A : Nat → Prop) (U : State) (H : Heap), X A U H → XS A U H) (l : Launch) (a : Nat → Nat) (M : Mem) (k : Int) (hk : 0 ≤ k ∧ k < M 24 6) (hC : CI M) : CtI X l yX4_kind wsX4_kind ({ frames := 1, cells := 0, slots := 0, locals := 22 } : Room) LL a M [.ref (a 0), .int (iI k), .int (iI 2)] (fun z M' => z = M 32 k / M 30 k ∧ M' = M) :=
  CtI.lift XS_c hXX LE (n := 43) rfl (fun z M1 q k _ => by rw [q.2]) ((c4_kind l a k 2 (by have := CI_n hC; have := CI_m hC; have := (CI_grp hC).1; omega) (by decide) M (CI_lOK hC) (CI_rul hC) (CI_m hC)).mono (fun z M' q => ⟨q.1.trans ((if_pos (show 0 ≤ k ∧ k ≤ M 24 6 - 1 by omega)).trans rfl), q.2⟩))
theorem e4_dots {X : (Nat → Prop) → State → Heap → Prop} (hXX : ∀ (A : Nat → Prop) (U : State) (H : Heap), X A U H → XS A U H) (l : Launch) (a : Nat → Nat) (M : Mem) (k sz : Int) (hk : 0 ≤ k ∧ k < M 24 6) (hz : 1 ≤ sz ∧ sz ≤ 60) (hC : CI M) : CtI X l yX4_dots wsX4_dots ({ frames := 2, cells := 0, slots := 0, locals := 45 } : Room) LL a M [.ref (a 0), .int (iI k), .int (iI sz)] (fun z M' => z = dz (M 32 k / M 30 k) sz (M 9 4) ∧ M' = M) :=
  CtI.lift XS_c hXX LE (n := 43) rfl (fun z M1 q k _ => by rw [q.2]) ((c4_dots l a k sz (by have := CI_n hC; have := CI_m hC; have := (CI_grp hC).1; omega) (by omega) M (CI_lOK hC) (CI_rul hC) (CI_m hC)).mono (fun z M' q => ⟨q.1.trans ((if_pos (show 0 ≤ k ∧ k ≤ M 24 6 - 1 by omega)).trans (if_pos hz)), q.2⟩))
theorem e4_grows {X : (Nat → Prop) → State → Heap → Prop} (hXX : ∀ (A : Nat → Prop) (U : State) (H : Heap), X A U H → XS A U H) (l : Launch) (a : Nat → Nat) (M : Mem) (k d : Int) (hk : 0 ≤ k ∧ k < M 24 6) (hd : 1 ≤ d ∧ d ≤ 60) (hC : CI M) : CtI X l yX4_grows wsX4_grows ({ frames := 2, cells := 0, slots := 0, locals := 45 } : Room) LL a M [.ref (a 0), .int (iI k), .int (iI d)] (fun z M' => z = growsI (fun t => dz (M 32 k / M 30 k) t (M 9 4)) d 1 ∧ M' = M) :=
  CtI.lift XS_c hXX LE (n := 43) rfl (fun z M1 q k _ => by rw [q.2]) ((c4_grows l a k d (by have := CI_n hC; have := CI_m hC; have := (CI_grp hC).1; omega) (by omega) M (CI_lOK hC) (CI_rul hC) (CI_m hC)).mono (fun z M' q => ⟨q.1.trans ((if_pos (show 0 ≤ k ∧ k ≤ M 24 6 - 1 by omega)).trans (if_pos hd)), q.2⟩))
theorem e4_told_0 {X : (Nat → Prop) → State → Heap → Prop} (hXX : ∀ (A : Nat → Prop) (U : State) (H : Heap), X A U H → XS A U H) (l : Launch) (a : Nat → Nat) (M : Mem) (u : Int) (hu : 0 ≤ u ∧ u < M 4 4) (hC : CI M) : CtI X l yX4_told wsX4_told ({ frames := 1, cells := 0, slots := 0, locals := 22 } : Room) LL a M [.ref (a 0), .int (iI u), .int (iI 0)] (fun z M' => z = M 5 u ∧ M' = M) :=
  CtI.lift XS_c hXX LE (n := 43) rfl (fun z M1 q k _ => by rw [q.2]) ((c4_told l a u 0 (by have := CI_m hC; omega) (by decide) M (CI_lOK hC) (CI_rul hC) (CI_m hC) (CI_be hC)).mono (fun z M' q => by
    have q2 := q.1.2 (show 0 ≤ u ∧ u ≤ M 4 4 - 1 by omega)
    exact ⟨q2.1 rfl, q.2⟩))
theorem e4_told_1 {X : (Nat → Prop) → State → Heap → Prop} (hXX : ∀ (A : Nat → Prop) (U : State) (H : Heap), X A U H → XS A U H) (l : Launch) (a : Nat → Nat) (M : Mem) (u : Int) (hu : 0 ≤ u ∧ u < M 4 4) (hC : CI M) : CtI X l yX4_told wsX4_told ({ frames := 1, cells := 0, slots := 0, locals := 22 } : Room) LL a M [.ref (a 0), .int (iI u), .int (iI 1)] (fun z M' => z = M 6 u ∧ M' = M) :=
  CtI.lift XS_c hXX LE (n := 43) rfl (fun z M1 q k _ => by rw [q.2]) ((c4_told l a u 1 (by have := CI_m hC; omega) (by decide) M (CI_lOK hC) (CI_rul hC) (CI_m hC) (CI_be hC)).mono (fun z M' q => by
    have q2 := q.1.2 (show 0 ≤ u ∧ u ≤ M 4 4 - 1 by omega)
    exact ⟨q2.2.1 rfl, q.2⟩))
theorem e4_told_2 {X : (Nat → Prop) → State → Heap → Prop} (hXX : ∀ (A : Nat → Prop) (U : State) (H : Heap), X A U H → XS A U H) (l : Launch) (a : Nat → Nat) (M : Mem) (u : Int) (hu : 0 ≤ u ∧ u < M 4 4) (hC : CI M) : CtI X l yX4_told wsX4_told ({ frames := 1, cells := 0, slots := 0, locals := 22 } : Room) LL a M [.ref (a 0), .int (iI u), .int (iI 2)] (fun z M' => z = M 7 u ∧ M' = M) :=
  CtI.lift XS_c hXX LE (n := 43) rfl (fun z M1 q k _ => by rw [q.2]) ((c4_told l a u 2 (by have := CI_m hC; omega) (by decide) M (CI_lOK hC) (CI_rul hC) (CI_m hC) (CI_be hC)).mono (fun z M' q => by
    have q2 := q.1.2 (show 0 ≤ u ∧ u ≤ M 4 4 - 1 by omega)
    exact ⟨q2.2.2.1 rfl, q.2⟩))
theorem e4_told_3 {X : (Nat → Prop) → State → Heap → Prop} (hXX : ∀ (A : Nat → Prop) (U : State) (H : Heap), X A U H → XS A U H) (l : Launch) (a : Nat → Nat) (M : Mem) (u : Int) (hu : 0 ≤ u ∧ u < M 4 4) (hC : CI M) : CtI X l yX4_told wsX4_told ({ frames := 1, cells := 0, slots := 0, locals := 22 } : Room) LL a M [.ref (a 0), .int (iI u), .int (iI 3)] (fun z M' => z = M 8 u ∧ M' = M) :=
  CtI.lift XS_c hXX LE (n := 43) rfl (fun z M1 q k _ => by rw [q.2]) ((c4_told l a u 3 (by have := CI_m hC; omega) (by decide) M (CI_lOK hC) (CI_rul hC) (CI_m hC) (CI_be hC)).mono (fun z M' q => by
    have q2 := q.1.2 (show 0 ≤ u ∧ u ≤ M 4 4 - 1 by omega)
    exact ⟨q2.2.2.2.1 rfl, q.2⟩))
theorem e4_told_4 {X : (Nat → Prop) → State → Heap → Prop} (hXX : ∀ (A : Nat → Prop) (U : State) (H : Heap), X A U H → XS A U H) (l : Launch) (a : Nat → Nat) (M : Mem) (u : Int) (hu : 0 ≤ u ∧ u < M 4 4) (hC : CI M) : CtI X l yX4_told wsX4_told ({ frames := 1, cells := 0, slots := 0, locals := 22 } : Room) LL a M [.ref (a 0), .int (iI u), .int (iI 4)] (fun z M' => wedge M u z ∧ M' = M) :=
  CtI.lift XS_c hXX LE (n := 43) rfl (fun z M1 q k _ => by rw [q.2]) ((c4_told l a u 4 (by have := CI_m hC; omega) (by decide) M (CI_lOK hC) (CI_rul hC) (CI_m hC) (CI_be hC)).mono (fun z M' q => by
    have q2 := q.1.2 (show 0 ≤ u ∧ u ≤ M 4 4 - 1 by omega)
    exact ⟨q2.2.2.2.2.1 rfl, q.2⟩))
theorem e4_fit {X : (Nat → Prop) → State → Heap → Prop} (hXX : ∀ (A : Nat → Prop) (U : State) (H : Heap), X A U H → XS A U H) (l : Launch) (a : Nat → Nat) (M : Mem) (sz j : Int) (hz : 1 ≤ sz ∧ sz ≤ 60) (hj : 0 ≤ j ∧ j < M 24 0) (hC : CI M) : CtI X l yX4_fit wsX4_fit ({ frames := 6, cells := 0, slots := 0, locals := 140 } : Room) LL a M [.ref (a 0), .int (iI sz), .int (iI j)] (fun z M' => z = pif (okL (viewC M) sz) (dotL (viewC M) sz j) (-3) ∧ keepF M M' ∧ kOK M') :=
  CtI.lift XS_c hXX LE (n := 43) rfl (fun z M1 q => keepF_43 q.2.1) ((c4_fit l a sz j (by omega) (by have := CI_n hC; have := CI_m hC; omega) M (CI_lOK hC) (CI_rul hC) hC.2.1).mono (fun z M' q => ⟨q.1.trans ((if_pos (show 0 ≤ j ∧ j ≤ M 24 0 - 1 by omega)).trans (if_pos hz)), q.2⟩))
theorem e4_dist {X : (Nat → Prop) → State → Heap → Prop} (hXX : ∀ (A : Nat → Prop) (U : State) (H : Heap), X A U H → XS A U H) (l : Launch) (a : Nat → Nat) (M : Mem) (sz : Int) (hz : 1 ≤ sz ∧ sz ≤ 60) (hC : CI M) : CtJ X l yX4_distortion wsX4_distortion ({ frames := 6, cells := 0, slots := 0, locals := 140 } : Room) LL a M [.ref (a 0), .int (iI sz)] (fun z M' => z = pif (okL (viewC M) sz) (leastL (viewC M) sz) (-3) ∧ keepF M M' ∧ kOK M') :=
  CtJ.lift XS_c hXX LE (n := 43) rfl (fun z M1 q => keepF_43 q.2.1) ((c4_distortion l a sz (by omega) M (CI_lOK hC) (CI_rul hC) hC.2.1).mono (fun z M' q => ⟨q.1.trans (if_pos hz), q.2⟩))
theorem e4_why_0 {X : (Nat → Prop) → State → Heap → Prop} (hXX : ∀ (A : Nat → Prop) (U : State) (H : Heap), X A U H → XS A U H) (l : Launch) (a : Nat → Nat) (M : Mem) (sz : Int) (hz : 1 ≤ sz ∧ sz ≤ 60) (hC : CI M) : CtI X l yX4_why wsX4_why ({ frames := 6, cells := 0, slots := 0, locals := 140 } : Room) LL a M [.ref (a 0), .int (iI sz), .int (iI 0)] (fun z M' => whyQ (viewC M 0 11) (wL (viewC M) sz) sz 0 z ∧ keepF M M' ∧ kOK M') :=
  CtI.lift XS_c hXX LE (n := 43) rfl (fun z M1 q => keepF_43 q.2.1) ((c4_why l a sz 0 (by omega) (by decide) M (CI_lOK hC) (CI_rul hC) hC.2.1).mono (fun z M' q => ⟨q.2.1 hz (by decide), q.2.2⟩))
theorem e4_why_1 {X : (Nat → Prop) → State → Heap → Prop} (hXX : ∀ (A : Nat → Prop) (U : State) (H : Heap), X A U H → XS A U H) (l : Launch) (a : Nat → Nat) (M : Mem) (sz : Int) (hz : 1 ≤ sz ∧ sz ≤ 60) (hC : CI M) : CtI X l yX4_why wsX4_why ({ frames := 6, cells := 0, slots := 0, locals := 140 } : Room) LL a M [.ref (a 0), .int (iI sz), .int (iI 1)] (fun z M' => whyQ (viewC M 0 11) (wL (viewC M) sz) sz 1 z ∧ keepF M M' ∧ kOK M') :=
  CtI.lift XS_c hXX LE (n := 43) rfl (fun z M1 q => keepF_43 q.2.1) ((c4_why l a sz 1 (by omega) (by decide) M (CI_lOK hC) (CI_rul hC) hC.2.1).mono (fun z M' q => ⟨q.2.1 hz (by decide), q.2.2⟩))
theorem e4_place {X : (Nat → Prop) → State → Heap → Prop} (hXX : ∀ (A : Nat → Prop) (U : State) (H : Heap), X A U H → XS A U H) (l : Launch) (a : Nat → Nat) (M : Mem) (sz x : Int) (hz : 1 ≤ sz ∧ sz ≤ 60) (hx : 0 ≤ x ∧ x ≤ 999) (hok : okL (viewC M) sz) (hC : CI M) : CtI X l yX4_place wsX4_place ({ frames := 6, cells := 0, slots := 0, locals := 140 } : Room) LL a M [.ref (a 0), .int (iI sz), .int (iI x)] (fun z M' => z = plF (M 24 0) x (M 25) (M 26) (dotL (viewC M) sz) (wL (viewC M) sz) sz ∧ keepF M M' ∧ kOK M') :=
  CtI.lift XS_c hXX LE (n := 43) rfl (fun z M1 q => keepF_43 q.2.1) ((c4_place l a sz x (by omega) (by omega) M (CI_lOK hC) (CI_rul hC) hC.2.1).mono (fun z M' q => ⟨q.1.trans ((if_neg (by omega)).trans (pif_t hok)), q.2⟩))
theorem e4_best {X : (Nat → Prop) → State → Heap → Prop} (hXX : ∀ (A : Nat → Prop) (U : State) (H : Heap), X A U H → XS A U H) (l : Launch) (a : Nat → Nat) (M : Mem) (hC : CI M) : CtI X l yX4_best wsX4_best ({ frames := 6, cells := 0, slots := 0, locals := 140 } : Room) LL a M [.ref (a 0), .int (iI 60)] (fun z M' => z = (bestI (okL (viewC M)) (leastL (viewC M)) 60).1 ∧ keepF M M' ∧ kOK M') :=
  CtI.lift XS_c hXX LE (n := 43) rfl (fun z M1 q => keepF_43 q.2.1) ((c4_best l a 60 (by decide) M (CI_lOK hC) (CI_rul hC) hC.2.1).mono (fun z M' q => ⟨q.1.trans (if_pos (by decide)), q.2⟩))
theorem e4_image {X : (Nat → Prop) → State → Heap → Prop} (hXX : ∀ (A : Nat → Prop) (U : State) (H : Heap), X A U H → XS A U H) (l : Launch) (a : Nat → Nat) (M : Mem)  : CtI X l yX4_image wsX4_image ({ frames := 2, cells := 0, slots := 0, locals := 39 } : Room) LL a M [.ref (a 0), .int (iI 0)] (fun z M' => z = 1 ∧ M' = sc (takeM M 10 4) 23 (upf (M 23) 0 1)) :=
  CtI.lift XS_c hXX LE (n := 43) rfl (fun z M1 q k hk => by rw [q.2]; exact (sc_n (by omega)).trans ((sc_n (by omega)).trans ((sc_n (by omega)).trans ((sc_n (by omega)).trans ((sc_n (by omega)).trans ((sc_n (by omega)).trans (sc_n (by omega)))))))) (c4_image_0 l a M)
theorem e4_erase {X : (Nat → Prop) → State → Heap → Prop} (hXX : ∀ (A : Nat → Prop) (U : State) (H : Heap), X A U H → XS A U H) (l : Launch) (a : Nat → Nat) (M : Mem) (u : Int) (hu : 0 ≤ u ∧ u < M 4 4) (hC : CI M) : CtI X l yX4_erase wsX4_erase ({ frames := 5, cells := 0, slots := 0, locals := 112 } : Room) LL a M [.ref (a 0), .int (iI u)] (fun z M' => z = M 4 4 - 1 ∧ rnQ (edD M u) M') :=
  CtI.lift XS_c hXX LE (n := 43) rfl (fun z M1 q k hk => by rw [rn_43 q.2 k hk]; exact (sc_n (by omega)).trans ((sc_n (by omega)).trans ((sc_n (by omega)).trans ((sc_n (by omega)).trans (sc_n (by omega)))))) ((c4_erase l a M u (by have := CI_m hC; omega) hC.1.2.2.1.1 hC.1.2.2.1.2.1 hC.1.2.2.1.2.2.1 hC.1.2.2.1.2.2.2.1 hC.1.2.2.1.2.2.2.2.1 hC.1.2.2.1.2.2.2.2.2.1).mono (fun z M' q => by
    rcases q with ⟨c, -⟩ | ⟨-, e⟩
    · exact absurd (show 0 ≤ u ∧ u ≤ M 4 4 - 1 by omega) c
    · exact e))
theorem e4_restore {X : (Nat → Prop) → State → Heap → Prop} (hXX : ∀ (A : Nat → Prop) (U : State) (H : Heap), X A U H → XS A U H) (l : Launch) (a : Nat → Nat) (M : Mem) (hk1 : M 23 0 = 1) (hC : CI M) : CtI X l yX4_restore wsX4_restore ({ frames := 5, cells := 0, slots := 0, locals := 112 } : Room) LL a M [.ref (a 0), .int (iI 0)] (fun z M' => z = 1 ∧ rnQ (takeM M 4 10) M') :=
  CtI.lift XS_c hXX LE (n := 43) rfl (fun z M1 q k hk => by rw [rn_43 q.2 k hk]; exact (sc_n (by omega)).trans ((sc_n (by omega)).trans ((sc_n (by omega)).trans ((sc_n (by omega)).trans ((sc_n (by omega)).trans (sc_n (by omega))))))) ((c4_restore_0 l a M (by omega) hC.1.2.2.2.1.1 hC.1.2.2.2.1.2.1 hC.1.2.2.2.1.2.2.1 hC.1.2.2.2.1.2.2.2.1 hC.1.2.2.2.1.2.2.2.2.1 hC.1.2.2.2.1.2.2.2.2.2.1 hC.1.2.2.1.2.1 hC.1.2.2.1.2.2.1 hC.1.2.2.1.2.2.2.1 hC.1.2.2.1.2.2.2.2.1).mono (fun z M' q => by
    rcases q with ⟨c, -⟩ | ⟨-, e⟩
    · omega
    · exact e))
/-! ===== the pad, while an edge is told ===== -/
def PD (N : Mem) (n : Int) (f : Int → Int) : Mem := sc (sc N 1 (upf (N 1) 1 n)) 2 f
theorem PD_1 (N : Mem) (n : Int) (f : Int → Int) : PD N n f 1 1 = n := by
  show upf (N 1) 1 n 1 = n
  exact upf_s _ _ _
theorem PD_2 (N : Mem) (n : Int) (f : Int → Int) : PD N n f 2 = f := rfl
theorem PD_n {N : Mem} {n : Int} {f : Int → Int} {k : Nat} (h : k ≠ 1 ∧ k ≠ 2) : PD N n f k = N k := (sc_n h.2).trans (sc_n h.1)
theorem PD_nx (N : Mem) (n n2 : Int) (f g : Int → Int) : sc (sc (PD N n f) 1 (upf (PD N n f 1) 1 n2)) 2 g = PD N n2 g := by
  funext k
  by_cases h2 : k = 2
  · subst h2; rfl
  · by_cases h1 : k = 1
    · subst h1
      show upf (upf (N 1) 1 n) 1 n2 = upf (N 1) 1 n2
      exact upf_w _ _ _ _
    · rw [PD_n ⟨h1, h2⟩, sc_n h2, sc_n h1, PD_n ⟨h1, h2⟩]
theorem PD_id (M : Mem) : M = PD M (M 1 1) (M 2) := by
  funext k
  by_cases h2 : k = 2
  · subst h2; rfl
  · by_cases h1 : k = 1
    · subst h1
      show M 1 = upf (M 1) 1 (M 1 1)
      funext i
      unfold upf
      by_cases h : i = 1
      · subst h; rw [if_pos rfl]
      · rw [if_neg h]
    · rw [PD_n ⟨h1, h2⟩]
theorem PD_w (M : Mem) : sc M 1 (upf (M 1) 1 0) = PD M 0 (M 2) := by
  funext k
  by_cases h2 : k = 2
  · subst h2; rfl
  · by_cases h1 : k = 1
    · subst h1; rfl
    · rw [PD_n ⟨h1, h2⟩, sc_n h1]
def numP (N : Mem) (n : Int) (f : Int → Int) (v : Int) (M' : Mem) : Prop := ∃ (k : Int) (g : Int → Int), (1 ≤ k ∧ k ≤ 3) ∧ M' = PD N (n + k) g ∧ (∀ j, j < n → g j = f j) ∧ (∀ j, 0 ≤ g j ∧ g j ≤ 126) ∧ (∀ j, n ≤ j → j < n + k → 48 ≤ g j ∧ g j ≤ 57) ∧ vI g n k = v
section NUMP
variable {N : Mem} {n : Int} {f : Int → Int} {v a b c : Int}
theorem nmp1 (hP : ∀ j, 0 ≤ f j ∧ f j ≤ 126) (ha : 48 ≤ a ∧ a ≤ 57) (hv : a - 48 = v) : numP N n f v (PD N (n + 1) (upf f n a)) := by
  refine ⟨1, _, by omega, rfl, fun j h => upf_n (by omega), upf_P hP (by omega), fun j h h2 => ?_, ?_⟩
  · rw [show j = n by omega, upf_s]; exact ha
  · rw [vI_1, upf_s]; exact hv
theorem nmp2 (hP : ∀ j, 0 ≤ f j ∧ f j ≤ 126) (ha : 48 ≤ a ∧ a ≤ 57) (hb : 48 ≤ b ∧ b ≤ 57) (hv : 10 * (a - 48) + (b - 48) = v) : numP N n f v (PD N (n + 1 + 1) (upf (upf f n a) (n + 1) b)) := by
  refine ⟨2, _, by omega, by rw [show n + 1 + 1 = n + 2 by omega], fun j h => by rw [upf_n (by omega), upf_n (by omega)], upf_P (upf_P hP (by omega)) (by omega), fun j h h2 => ?_, ?_⟩
  · rcases (show j = n ∨ j = n + 1 by omega) with e | e
    · rw [e, upf_n (by omega), upf_s]; exact ha
    · rw [e, upf_s]; exact hb
  · rw [vI_2, upf_n (by omega), upf_s, upf_s]; exact hv
theorem nmp3 (hP : ∀ j, 0 ≤ f j ∧ f j ≤ 126) (ha : 48 ≤ a ∧ a ≤ 57) (hb : 48 ≤ b ∧ b ≤ 57) (hc : 48 ≤ c ∧ c ≤ 57) (hv : 100 * (a - 48) + 10 * (b - 48) + (c - 48) = v) : numP N n f v (PD N (n + 1 + 1 + 1) (upf (upf (upf f n a) (n + 1) b) (n + 1 + 1) c)) := by
  refine ⟨3, _, by omega, by rw [show n + 1 + 1 + 1 = n + 3 by omega], fun j h => by rw [upf_n (by omega), upf_n (by omega), upf_n (by omega)], upf_P (upf_P (upf_P hP (by omega)) (by omega)) (by omega), fun j h h2 => ?_, ?_⟩
  · rcases (show j = n ∨ j = n + 1 ∨ j = n + 1 + 1 by omega) with e | e | e
    · rw [e, upf_n (by omega), upf_n (by omega), upf_s]; exact ha
    · rw [e, upf_n (by omega), upf_s]; exact hb
    · rw [e, upf_s]; exact hc
  · rw [vI_3, upf_n (by omega), upf_n (by omega), upf_s, upf_n (by omega), upf_s, show n + 2 = n + 1 + 1 by omega, upf_s]; exact hv
end NUMP
theorem pad_edge {f0 f1 f2 f3 : Int → Int} {ch k1 k2 k3 v1 v2 v3 n : Int} (hch : ch = 117 ∨ ch = 100) (h1 : 1 ≤ k1 ∧ k1 ≤ 3) (h2 : 1 ≤ k2 ∧ k2 ≤ 3) (h3 : 1 ≤ k3 ∧ k3 ≤ 3)
    (a1 : ∀ j, j < 0 + 1 → f1 j = upf f0 0 ch j) (b1 : ∀ j, 0 + 1 ≤ j → j < 0 + 1 + k1 → 48 ≤ f1 j ∧ f1 j ≤ 57) (c1 : vI f1 (0 + 1) k1 = v1)
    (a2 : ∀ j, j < 0 + 1 + k1 + 1 → f2 j = upf f1 (0 + 1 + k1) 44 j) (b2 : ∀ j, 0 + 1 + k1 + 1 ≤ j → j < 0 + 1 + k1 + 1 + k2 → 48 ≤ f2 j ∧ f2 j ≤ 57) (c2 : vI f2 (0 + 1 + k1 + 1) k2 = v2)
    (a3 : ∀ j, j < 0 + 1 + k1 + 1 + k2 + 1 → f3 j = upf f2 (0 + 1 + k1 + 1 + k2) 45 j) (b3 : ∀ j, 0 + 1 + k1 + 1 + k2 + 1 ≤ j → j < 0 + 1 + k1 + 1 + k2 + 1 + k3 → 48 ≤ f3 j ∧ f3 j ≤ 57) (c3 : vI f3 (0 + 1 + k1 + 1 + k2 + 1) k3 = v3)
    (hlt : v2 < v3) (hn : n = 0 + 1 + k1 + 1 + k2 + 1 + k3) : fl f3 n = -6 ∧ pv1 f3 n = v1 ∧ pv2 f3 n = v2 ∧ pv3 f3 n = v3 := by
  have e12 : ∀ j, j < 1 + k1 → f2 j = f1 j := fun j h => by rw [a2 j (by omega), upf_n (by omega)]
  have e23 : ∀ j, j < 2 + k1 + k2 → f3 j = f2 j := fun j h => by rw [a3 j (by omega), upf_n (by omega)]
  have e13 : ∀ j, j < 1 + k1 → f3 j = f1 j := fun j h => by rw [e23 j (by omega), e12 j h]
  have q1 : vI f3 1 k1 = v1 := by
    rw [vI_c (g := f1) (fun j x y => e13 j (by omega))]
    exact c1
  have q2 : vI f3 (2 + k1) k2 = v2 := by
    rw [vI_c (g := f2) (fun j x y => e23 j (by omega)), show 2 + k1 = 0 + 1 + k1 + 1 by omega]
    exact c2
  have q3 : vI f3 (3 + k1 + k2) k3 = v3 := by
    rw [show 3 + k1 + k2 = 0 + 1 + k1 + 1 + k2 + 1 by omega]
    exact c3
  have t := fl_text (f := f3) (k1 := k1) (k2 := k2) (k3 := k3) (n := n) h1 h2 h3 (by omega) (by rw [e13 0 (by omega), a1 0 (by omega), upf_s]; exact hch)
    (fun j x y => by rw [e13 j (by omega)]; exact b1 j (by omega) (by omega)) (by rw [e23 _ (by omega), a2 _ (by omega), show 1 + k1 = 0 + 1 + k1 by omega, upf_s])
    (fun j x y => by rw [e23 j (by omega)]; exact b2 j (by omega) (by omega)) (by rw [a3 _ (by omega), show 2 + k1 + k2 = 0 + 1 + k1 + 1 + k2 by omega, upf_s])
    (fun j x y => b3 j (by omega) (by omega)) (by rw [q2, q3]; exact hlt)
  rw [q1, q2, q3] at t
  exact t
theorem e4_sayP {X : (Nat → Prop) → State → Heap → Prop} (hXX : ∀ (A : Nat → Prop) (U : State) (H : Heap), X A U H → XS A U H) (l : Launch) (a : Nat → Nat) (N : Mem) (n : Int) (f : Int → Int) (v : Int) (hv : 33 ≤ v ∧ v ≤ 126) (hn : 0 ≤ n ∧ n < 30) (hP : ∀ j, 0 ≤ f j ∧ f j ≤ 126) : CtI X l yX4_say wsX4_say ({ frames := 1, cells := 0, slots := 0, locals := 22 } : Room) LL a (PD N n f) [.ref (a 0), .int (iI v)] (fun _ M' => M' = PD N (n + 1) (upf f n v)) :=
  (e4_say hXX l a (PD N n f) v hv (by rw [PD_1]; exact hn) hP).mono (fun z M' q => by
    rw [q, PD_1, PD_nx]
    rfl)
/-! ===== the state while the letter is told, edges of some height ===== -/
def EH (M : Mem) : Prop := ∀ u, 0 ≤ u → u < M 4 4 → M 7 u < M 8 u
def BJ (M : Mem) (k : Int) : Prop := BI M k ∧ EH M
theorem BJ_edge {M cur N : Mem} {k : Int} {nu : Int → Int} (hJ : BJ M k) (hk : 0 ≤ k ∧ k ≤ 15) (hc : ∀ j : Nat, j ≠ 1 ∧ j ≠ 2 ∧ j ≠ 43 ∧ j ≠ 44 → cur j = M j) (h2 : ∀ j, 0 ≤ cur 2 j ∧ cur 2 j ≤ 126) (h44 : cur 44 = upf (M 44) 0 (k + 1)) (hnu : nu 0 = pv1 (cur 2) (cur 1 1) ∧ nu 1 = pv2 (cur 2) (cur 1 1) ∧ nu 2 = pv3 (cur 2) (cur 1 1)) (hlt : pv2 (cur 2) (cur 1 1) < pv3 (cur 2) (cur 1 1)) (h : rnQ (edA cur nu) N) : BJ N (k + 1) ∧ N 44 0 = k + 1 := by
  have hb := BI_edge hJ.1 hk hc h2 h44 hnu h
  refine ⟨⟨hb.1, fun u u0 u1 => ?_⟩, hb.2⟩
  have e4 := hb.1.2.1
  have b4 := hJ.1.2.1
  have c4 : cur 4 = M 4 := hc 4 (by decide)
  rw [rn_id h (k := 7) (by decide), rn_id h (k := 8) (by decide)]
  show upf (cur 7) (cur 4 4) (nu 1) u < upf (cur 8) (cur 4 4) (nu 2) u
  rw [c4, b4, hc 7 (by decide), hc 8 (by decide)]
  by_cases e : u = k
  · rw [e, upf_s, upf_s, hnu.2.1, hnu.2.2]
    exact hlt
  · rw [upf_n e, upf_n e]
    exact hJ.2 u u0 (by omega)
theorem BJ_rule {M N : Mem} {k w n : Int} (hJ : BJ M k) (hw : 0 ≤ w ∧ w ≤ 4) (hn : 0 ≤ n ∧ n ≤ rmx w) (h : rnQ (sc M 9 (upf (M 9) w n)) N) : BJ (sc N 44 (upf (N 44) (1 + w) n)) k := by
  refine ⟨BI_rule hJ.1 hw hn h, fun u u0 u1 => ?_⟩
  have u1 : u < N 4 4 := u1
  show N 7 u < N 8 u
  rw [rn_id h (k := 4) (by decide)] at u1
  rw [rn_id h (k := 7) (by decide), rn_id h (k := 8) (by decide)]
  exact hJ.2 u u0 u1
theorem BJ_keep {C K : Mem} {k : Int} (h : BJ C k) (hk : keepF C K) (ho : kOK K) : BJ K k := by
  obtain ⟨⟨hC, h4, h44, h9⟩, hE⟩ := h
  refine ⟨⟨CI_keep hC hk ho, ?_, ?_, fun i a b => ?_⟩, fun u u0 u1 => ?_⟩
  · rw [hk 4 (Or.inl (by decide))]; exact h4
  · rw [hk 44 (Or.inr (by decide))]; exact h44
  · rw [hk 9 (Or.inl (by decide)), hk 44 (Or.inr (by decide))]
    exact h9 i a b
  · rw [hk 4 (Or.inl (by decide))] at u1
    rw [hk 7 (Or.inl (by decide)), hk 8 (Or.inl (by decide))]
    exact hE u u0 u1

