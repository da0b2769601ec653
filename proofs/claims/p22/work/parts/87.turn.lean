/-! ===== the first memory ===== -/
theorem sC_00 : (sC MC0).1 = 0 := by
  have hI : sInv (canC MC0) (MC0 6) (MC0 4 4) (sC MC0) := siterC_inv (s0 := sC0 MC0) (canC_x MC0) (Int.le_refl 0) rfl 8
  have h1 := sInv_n (canC_x MC0) (canC_g MC0) (Int.le_refl 0) hI
  have h2 := hI.1
  have h3 : MC0 4 4 = 0 := rfl
  omega
theorem rul0_B : rulB rul0 := ⟨by decide, by decide, by decide, by decide, by decide⟩
theorem MZ_B (n : Nat) (j : Int) : 0 ≤ MZ n j ∧ MZ n j ≤ 999 := by
  show 0 ≤ (0 : Int) ∧ (0 : Int) ≤ 999
  decide
theorem LBf_0 (n1 n2 n3 n4 n5 : Nat) : LBf (MZ n1 4) (MZ n2) (MZ n3) (MZ n4) (MZ n5) rul0 := by
  refine ⟨?_, MZ_B n2, MZ_B n3, MZ_B n4, MZ_B n5, rul0_B⟩
  show 0 ≤ (0 : Int) ∧ (0 : Int) ≤ 16
  decide
/-! ===== a turn of the law ===== -/
section TURN
variable {p : Program} {l : Launch} {e : Env} {s : State} {m : MethodId} {below : List Frame} {meth : Method} {c : Code} {D : va_G} {T : Nat → ClassId} {b nS kc ks : Nat} {xs : Nat → Int32}
theorem law_body {a : Nat → Nat} (F : CallFix p m c cL_law 19 s #[.ref b] lw_tbl RL) (K : va_K D vwCl (tysT T) s) (X0 : XL b nS xs (fun q : Nat => s.heap.size ≤ q) s s.heap) (hcs : kc ≤ room_1.cells ∧ ks ≤ room_1.slots) (M : Mem) (t : Int) (ht : 0 ≤ t ∧ t ≤ 2) (hC : CI M) (h4 : M 4 4 = 0) (h44 : ∀ j, M 44 j = 0) (h9 : M 9 = rul0) (kk : ∀ R : Mem, KK kc ks p l e room_1 s m #[.ref b] below meth c (lw_Z below #[.ref b] s) D (fun q : Nat => s.heap.size ≤ q) 19 (wld T a LL R) 1428 [some (.ref b), some (.int (iI t)), some (.ref (a 0)), some (.ref (a 43)), some (.ref (a 44)), none, none, none, none, none, none, none, none, none, none, none, none, none, none] []) : KK kc ks p l e room_1 s m #[.ref b] below meth c (lw_Z below #[.ref b] s) D (fun q : Nat => s.heap.size ≤ q) 19 (wld T a LL M) 26 [some (.ref b), some (.int (iI t)), some (.ref (a 0)), some (.ref (a 43)), some (.ref (a 44)), none, none, none, none, none, none, none, none, none, none, none, none, none, none] [] := by
  refine law_s0 F K X0 hcs M t ht hC h4 h44 h9 (fun R mk hk hJ => ?_)
  refine law_s1 F K X0 hcs R mk t hk hJ ?_
  refine law_s2 F K X0 hcs R mk t hk hJ (fun u hu hU => ?_)
  refine law_s3 F K X0 hcs R mk t hk hJ u hu hU ?_
  refine law_s4 F K X0 hcs R mk t hk hJ ?_
  refine law_s5 F K X0 hcs R mk t hk hJ ?_
  refine law_s6 F K X0 hcs R mk t (R 24 0) hk ht hJ rfl (fun R2 had hJ2 hh => ?_)
  exact law_s7 F K X0 hcs R2 mk t had hk hJ2 hh kk
/-- a world's cells know of addresses by their numbers alone -/
def kdIn (n : Nat) : Kd → Prop
  | (0, _, _) => True
  | (1, _, _) => True
  | (2, _, _) => True
  | (3, _, rs) => ∀ q ∈ rs, q < n
  | (_ + 4, _, fs) => ∀ q ∈ fs, q < n + 2
theorem cE_a {T : Nat → ClassId} {a a2 : Nat → Nat} {f : Int → Int} {n : Nat} (h : ∀ q, q < n → a q = a2 q) : ∀ kd : Kd, kdIn n kd → cE T a f kd = cE T a2 f kd
  | (0, _, _), _ => rfl
  | (1, _, _), _ => rfl
  | (2, _, _), _ => rfl
  | (3, z, rs), hk => by
    have hk : ∀ q ∈ rs, q < n := hk
    have e : (fun j : Nat => (rs[j]?).map a) = fun j : Nat => (rs[j]?).map a2 := by
      funext j
      cases hj : rs[j]? with
      | none => rfl
      | some q => exact congrArg some (h q (hk q (List.mem_of_getElem? hj)))
    exact congrArg (fun g => (Sum.inl (T 3, z, .inr (.inr (.inr (.inr g)))) : va_E)) e
  | (ci + 4, z, fs), hk => by
    have hk : ∀ q ∈ fs, q < n + 2 := hk
    have e : fs.zipIdx.map (fun p => fV a f p.2 p.1) = fs.zipIdx.map (fun p => fV a2 f p.2 p.1) := by
      apply List.map_congr_left
      intro p hp
      obtain ⟨q, i⟩ := p
      have hq := hk q (List.mem_of_getElem? (List.mem_zipIdx_iff_getElem?.mp hp))
      show fV a f i q = fV a2 f i q
      match q, hq with
      | 0, _ => rfl
      | 1, _ => rfl
      | q + 2, hq => exact congrArg Value.ref (h q (by omega))
    exact congrArg (fun g => (Sum.inr (ci, g) : va_E)) e
theorem wld_a {T : Nat → ClassId} {a a2 : Nat → Nat} {L : List Kd} {M : Mem} (h : ∀ q, q < L.length → a q = a2 q) (hL : ∀ kd ∈ L, kdIn L.length kd) : wld T a L M = wld T a2 L M :=
  wld_ext wld_len (fun k kd hk => by
    have h1 : k < L.length := (List.getElem?_eq_some_iff.mp hk).1
    rw [wld_at hk, h k h1, cE_a h kd (hL kd (List.mem_of_getElem? hk))])
theorem LC_in : ∀ kd ∈ LC, kdIn LC.length kd := by
  intro kd h
  simp only [LC, List.mem_cons, List.not_mem_nil, or_false] at h
  rcases h with rfl | rfl | rfl | rfl | rfl | rfl | rfl | rfl | rfl | rfl | rfl | rfl | rfl | rfl | rfl | rfl | rfl | rfl | rfl | rfl | rfl | rfl | rfl | rfl | rfl | rfl | rfl | rfl | rfl | rfl | rfl | rfl | rfl | rfl | rfl | rfl | rfl | rfl | rfl | rfl | rfl | rfl | rfl
  all_goals (first | trivial | (intro q hq; simp only [List.mem_cons, List.not_mem_nil, or_false] at hq; show q < _; simp only [LC, List.length]; omega))
theorem CI_0 : CI MC0 := by
  refine ⟨⟨?_, fun j => ?_, LBf_0 4 5 6 7 8, LBf_0 10 11 12 13 14, LBf_0 16 17 18 19 20, fun j => ?_⟩, ⟨fun j => ?_, fun t _ _ q => absurd rfl q⟩, ?_⟩
  · show 0 ≤ (0 : Int) ∧ (0 : Int) ≤ 30
    decide
  · show 0 ≤ (0 : Int) ∧ (0 : Int) ≤ 126
    decide
  · show 0 ≤ (0 : Int) ∧ (0 : Int) ≤ 1
    decide
  · show 0 ≤ (0 : Int) ∧ (0 : Int) ≤ 1
    decide
  · have e := sC_00
    refine ⟨fun _ => 0, ?_, ?_, ?_⟩
    · rw [e]
      exact ⟨fun i a b => by omega, fun i j a b c => by omega, fun j a b => by omega⟩
    · exact ⟨e, fun j a b => by omega⟩
    · rw [e]
      exact ⟨rfl, fun c _ _ => ⟨rfl, rfl, rfl⟩, fun i _ _ => rfl⟩
set_option maxHeartbeats 4000000 in
set_option maxRecDepth 100000 in
theorem law_turn (F : CallFix p m c cL_law 19 s #[.ref b] lw_tbl RL) (hK : va_K D vwCl (tysT T) s) (X0 : XL b nS xs (fun q : Nat => s.heap.size ≤ q) s s.heap) (hXF : XF (fun q : Nat => s.heap.size ≤ q) s s.heap) (hcs : kc ≤ 100000 ∧ ks ≤ 1000000) {t : Int} (ht : 0 ≤ t ∧ t ≤ 2)
    (nx : ∀ (H : Heap) (locs : List Loc) (ls : Array Slot), va_S (fun q : Nat => s.heap.size ≤ q) s.heap H locs → lv_has ls 19 [(0, .ref b), (1, .int (iI (t + 1)))] → W p l e room_1 s m #[.ref b] below meth c H locs (kc + 50) (ks + 2000) (lw_Z below #[.ref b] s) (F0 m 2 ls [])) :
    ∀ (H : Heap) (locs : List Loc) (ls : Array Slot), va_S (fun q : Nat => s.heap.size ≤ q) s.heap H locs → lv_has ls 19 [(0, .ref b), (1, .int (iI t))] → W p l e room_1 s m #[.ref b] below meth c H locs kc ks (lw_Z below #[.ref b] s) (F0 m 2 ls []) := by
  intro H locs ls hS hl
  obtain ⟨hx, hb, hml, hown, hts⟩ := id F
  have hA : ∀ q : Nat, s.heap.size ≤ q → (fun q : Nat => s.heap.size ≤ q) q := fun _ h => h
  have hP : va_P D vwCl [] H := fun k q h => by simp at h
  have hD : va_D (fun q : Nat => s.heap.size ≤ q) [] := ⟨fun i j p q h => by simp at h, fun k q h => by simp at h⟩
  refine lv_iload_n hx hb dL_law_2 rfl (lv_at hl 1 rfl) ?_
  refine lv_iconst hx hb dL_law_3 (v := iI 3) rfl ?_
  refine lv_icmp_ge (tgt := 1434) hx hb dL_law_4 (by decide) (fun hc => ?_) (fun _ => ?_)
  · exfalso
    have := (iI_le (a := 3) (b := t) (by decide) (by omega)).mp hc
    omega
  refine va_new (ci := 4) (fs := [.null, .null, .null, .null, .null, .null]) (C := RX4) (T := TX4) (N := 6) hx hb hts inLX4 tyX4 tyX4_ok hown (hts (.classLink RL 10 RX4) (by decide +kernel)) (hts (.instantiable RX4 6) (by decide +kernel)) (hts (.initialized RX4) (by decide +kernel)) hK hP hD hS hA rfl (fun j hj => by rcases (show j = 0 ∨ j = 1 ∨ j = 2 ∨ j = 3 ∨ j = 4 ∨ j = 5 by omega) with rfl | rfl | rfl | rfl | rfl | rfl <;> rfl) (by show kc + 1 ≤ 600000; omega) (by show ks + 6 ≤ 7302250; omega) dL_law_7 (fun q0 H hP hD hS => ?_)
  have hP : va_P D vwCl (o4 q0) H := hP
  have hD : va_D (fun q : Nat => s.heap.size ≤ q) (o4 q0) := hD
  refine lv_dup hx hb dL_law_10 rfl ?_
  have hFc : ∀ q, va_A (o4 q0) H.size q → s.heap.size ≤ q := by
    rintro q (⟨k, x, h⟩ | h)
    · exact hD.2 k _ h
    · exact Nat.le_trans hS.1 h
  refine va_callv (va_runI (As := []) (rest := [.ref q0]) F (n4_init l D T q0 H.size) (cwI 0 hts (goodIn_L gL_law_X4_init) rfl rfl rfl (hts (.initialized RX4) (by decide +kernel)) (hts (.methodLink RL 59 yX4_init) (by decide +kernel)) (hts (.instanceMethod yX4_init) (by decide +kernel)) rfl (by decide +kernel) ⟨Nat.le_of_ble_eq_true rfl, Nat.le_of_ble_eq_true rfl⟩) ⟨fun a U g mk q => by obtain ⟨q0, q1, qP, qK, qD, qX⟩ := q; exact ⟨q0, q1, qP, va_K.moved (u := U) (U := U.calling g mk a) (Vm.Alike.refl U.vm) qK, qD, XF_c.1 _ _ _ _ _ _ qX⟩, fun U hU hW => ⟨rfl, by rw [hU], by rw [hU]; exact hP, va_K.moved hW.alike hK, hD.weaken (fun _ _ _ _ => trivial), XF_c.2 _ _ _ _ _ _ hXF hW hFc (fun q h1 h2 => by rw [hU]; exact hS.2.1 q h1 h2)⟩⟩ rfl rfl hl.1 rfl (lv_room (Nat.le_of_ble_eq_true rfl)) dL_law_11 ⟨by show kc + 1 + 42 ≤ 600000; omega, by show ks + 6 + 1587 ≤ 7302250; omega⟩) hS (fun q _ h => hFc q h) hFc (fun a1 t2 H1 locs ht2 hvm hw hB hz1 hk1 hS => ?_)
  obtain ⟨hP1, hD1⟩ := hB
  rw [ht2] at hP1
  subst hw
  generalize H1 = H at hP1 hS ⊢
  have hP : va_P D vwCl (wld T a1 LC MC0) H := hP1
  have hD : va_D (fun q : Nat => s.heap.size ≤ q) (wld T a1 LC MC0) := hD1.weaken (fun k q _ h => hFc q.1 h)
  refine lv_astore_n (lv' := [(2, .ref (a1 0)), (0, .ref b), (1, .int (iI t))]) hx hb dL_law_14 rfl hl (by decide) rfl (fun ls hl => ?_)
  refine lv_bipush hx hb dL_law_15 (v := iI 64) (by decide +kernel) ?_
  refine n_new (i := 0) (ty := .int) (atype := .int) (n := 64) (a0 := (64, .inl (fun _ => 0))) F hK hP hD hS hA rfl (Or.inl rfl) rfl (fun _ => rfl) rfl (by decide) (by decide +kernel) (Nat.le_of_ble_eq_true rfl) (by show kc + 1 + 42 + 1 ≤ 600000; omega) (by show ks + 6 + 1587 + 64 ≤ 7302250; omega) dL_law_17 (fun q3 H hP hD hS => ?_)
  refine lv_astore_n (lv' := [(3, .ref q3), (2, .ref (a1 0)), (0, .ref b), (1, .int (iI t))]) hx hb dL_law_19 rfl hl (by decide) rfl (fun ls hl => ?_)
  refine lv_bipush hx hb dL_law_20 (v := iI 8) (by decide +kernel) ?_
  refine n_new (i := 0) (ty := .int) (atype := .int) (n := 8) (a0 := (8, .inl (fun _ => 0))) F hK hP hD hS hA rfl (Or.inl rfl) rfl (fun _ => rfl) rfl (by decide) (by decide +kernel) (Nat.le_of_ble_eq_true rfl) (by show kc + 1 + 42 + 1 + 1 ≤ 600000; omega) (by show ks + 6 + 1587 + 64 + 8 ≤ 7302250; omega) dL_law_22 (fun q4 H hP hD hS => ?_)
  refine lv_astore (lv' := [(4, .ref q4), (3, .ref q3), (2, .ref (a1 0)), (0, .ref b), (1, .int (iI t))]) hx hb dL_law_24 hl (by decide) rfl (fun ls hl => ?_)
  obtain ⟨a, ha1, ha3, ha4⟩ : ∃ a : Nat → Nat, (∀ q, q < 43 → a q = a1 q) ∧ a 43 = q3 ∧ a 44 = q4 := ⟨fun k => if k = 43 then q3 else if k = 44 then q4 else a1 k, fun q h => by show (if q = 43 then q3 else if q = 44 then q4 else a1 q) = a1 q; rw [if_neg (by omega), if_neg (by omega)], rfl, rfl⟩
  have hw : wld T a1 LC MC0 ++ [(q3, (.inl (T 0, 64, .inl (fun _ => 0)) : va_E))] ++ [(q4, (.inl (T 0, 8, .inl (fun _ => 0)) : va_E))] = wld T a LL MC0 := by
    rw [wld_app, wld_a (a := a) (a2 := a1) (L := LC) ha1 LC_in, List.append_assoc]
    have e2 : wld2 T a LC.length LE MC0 = [(a 43, (.inl (T 0, 64, .inl (fun _ => 0)) : va_E)), (a 44, (.inl (T 0, 8, .inl (fun _ => 0)) : va_E))] := rfl
    rw [e2, ha3, ha4]
    rfl
  have hP : va_P D vwCl (wld T a1 LC MC0 ++ [(q3, (.inl (T 0, 64, .inl (fun _ => 0)) : va_E))] ++ [(q4, (.inl (T 0, 8, .inl (fun _ => 0)) : va_E))]) H := hP
  have hD : va_D (fun q : Nat => s.heap.size ≤ q) (wld T a1 LC MC0 ++ [(q3, (.inl (T 0, 64, .inl (fun _ => 0)) : va_E))] ++ [(q4, (.inl (T 0, 8, .inl (fun _ => 0)) : va_E))]) := hD
  rw [hw] at hP hD
  refine W.widen (k := kc + 50) (n := ks + 2000) (by show kc + 1 + 42 + 1 + 1 ≤ kc + 50; omega) (by show ks + 6 + 1587 + 64 + 8 ≤ ks + 2000; omega) ?_
  rw [← ha1 0 (by decide), ← ha3, ← ha4] at hl
  refine law_body (kc := kc + 50) (ks := ks + 2000) (a := a) F hK X0 ⟨by show kc + 50 ≤ 600000; omega, by show ks + 2000 ≤ 7302250; omega⟩ MC0 t ht CI_0 rfl (fun j => rfl) rfl (fun R => ?_) H _ ls hP hD hS (lv_sub hl [3, 4, 2, 1, 0] rfl)
  refine k_iinc F (pc' := 1431) (lv' := [some (.ref b), some (.int (iI (t + 1))), some (.ref (a 0)), some (.ref (a 43)), some (.ref (a 44)), none, none, none, none, none, none, none, none, none, none, none, none, none, none]) dL_law_1428 rfl rfl (by decide) rfl ?_
  refine k_goto F (tgt := 2) dL_law_1431 (by decide) ?_
  exact fun H locs ls _ _ hS h => nx H locs ls hS (lv_sub h [0, 1] rfl)
end TURN
