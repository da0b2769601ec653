/-! ===== two worlds beside one another ===== -/
theorem va_P_l {D : va_G} {cl : List vw_C} {w1 w2 : va_W} {H : Heap} (h : va_P D cl (w1 ++ w2) H) : va_P D cl w1 H := fun k q hq => h k q (by rw [List.getElem?_append_left (List.getElem?_eq_some_iff.mp hq).1]; exact hq)
theorem va_at_r {w1 w2 : va_W} {k : Nat} {q : Nat × va_E} (hq : w2[k]? = some q) : (w1 ++ w2)[w1.length + k]? = some q := by
  rw [List.getElem?_append_right (by omega), show w1.length + k - w1.length = k by omega]
  exact hq
theorem va_at_l {w1 w2 : va_W} {k : Nat} {q : Nat × va_E} (hq : w1[k]? = some q) : (w1 ++ w2)[k]? = some q := by
  rw [List.getElem?_append_left (List.getElem?_eq_some_iff.mp hq).1]
  exact hq
theorem va_P_r {D : va_G} {cl : List vw_C} {w1 w2 : va_W} {H : Heap} (h : va_P D cl (w1 ++ w2) H) : va_P D cl w2 H := fun k q hq => h (w1.length + k) q (va_at_r hq)
theorem va_D_l {A : Nat → Prop} {w1 w2 : va_W} (h : va_D A (w1 ++ w2)) : va_D A w1 := ⟨fun i j p q hp hq e => h.1 i j p q (va_at_l hp) (va_at_l hq) e, fun k q hq => h.2 k q (va_at_l hq)⟩
theorem va_D_r {A : Nat → Prop} {w1 w2 : va_W} (h : va_D A (w1 ++ w2)) : va_D A w2 := ⟨fun i j p q hp hq e => by have := h.1 _ _ p q (va_at_r hp) (va_at_r hq) e; omega, fun k q hq => h.2 _ q (va_at_r hq)⟩
/-- the first of two worlds has changed -/
theorem joinL {A : Nat → Prop} {D : va_G} {cl : List vw_C} {w1 w2 w1' : va_W} {H H1 : Heap} (hP : va_P D cl (w1 ++ w2) H) (hD : va_D A (w1 ++ w2)) (hk : ∀ q : Nat, q < H.size → ¬ va_A w1 H.size q → H1[q]? = H[q]?) (hP1 : va_P D cl w1' H1) : va_P D cl (w1' ++ w2) H1 := by
  refine va_P.app hP1 (fun k q hq => (va_P_r hP k q hq).kept (hk q.1 (va_P_r hP k q hq).lt ?_))
  rintro (⟨k2, e, h⟩ | h)
  · have h1 := hD.1 k2 (w1.length + k) (q.1, e) q (va_at_l h) (va_at_r hq) rfl
    have h2 := (List.getElem?_eq_some_iff.mp h).1
    omega
  · have := (va_P_r hP k q hq).lt
    omega
/-! ===== a greater layout: the class's cells, and the law's two arrays ===== -/
def mrg (n : Nat) (M1 M : Mem) : Mem := fun k => if k < n then M1 k else M k
theorem mrg_id {n : Nat} {M1 M : Mem} (h : ∀ k, n ≤ k → M1 k = M k) : mrg n M1 M = M1 := by
  funext k
  unfold mrg
  by_cases q : k < n
  · rw [if_pos q]
  · rw [if_neg q]
    exact (h k (by omega)).symm
def wld2 (T : Nat → ClassId) (a : Nat → Nat) (n : Nat) (L2 : List Kd) (M : Mem) : va_W := (L2.zipIdx n).map (fun p => (a p.2, cE T a (M p.2) p.1))
theorem wld_app {T : Nat → ClassId} {a : Nat → Nat} {L1 L2 : List Kd} {M : Mem} : wld T a (L1 ++ L2) M = wld T a L1 M ++ wld2 T a L1.length L2 M := by
  unfold wld wld2
  rw [List.zipIdx_append, List.map_append, Nat.zero_add]
theorem wld_c {T : Nat → ClassId} {a : Nat → Nat} {L : List Kd} {M M' : Mem} (h : ∀ k, k < L.length → M k = M' k) : wld T a L M = wld T a L M' :=
  wld_ext wld_len (fun k kd hk => by rw [wld_at hk, h k (List.getElem?_eq_some_iff.mp hk).1])
theorem wld2_c {T : Nat → ClassId} {a : Nat → Nat} {n : Nat} {L : List Kd} {M M' : Mem} (h : ∀ k, n ≤ k → M k = M' k) : wld2 T a n L M = wld2 T a n L M' := by
  unfold wld2
  apply List.map_congr_left
  intro p hp
  rw [h p.2 (List.le_snd_of_mem_zipIdx hp)]
abbrev LE : List Kd := [(0, 64, []), (0, 8, [])]
abbrev LL : List Kd := LC ++ LE
section LIFT
variable {X X' : (Nat → Prop) → State → Heap → Prop} {l : Launch} {y : MethodName} {ws : List Cond} {rm : Room} {L1 : List Kd} {a : Nat → Nat} {M : Mem} {vs : List Value}
theorem AA_lift {L1 L2 : List Kd} {T : Nat → ClassId} {a : Nat → Nat} {M : Mem} {sz q : Nat} (h : AA T a L1 M sz q) : AA T a (L1 ++ L2) M sz q := by
  unfold AA at h ⊢
  rw [wld_app]
  rcases h with ⟨k, e, h⟩ | h
  · exact Or.inl ⟨k, e, va_at_l h⟩
  · exact Or.inr h
theorem CtI.lift (hX : XC X) (hXX : ∀ (A : Nat → Prop) (U : State) (H : Heap), X' A U H → X A U H) (L2 : List Kd) {n : Nat} (hn : L1.length = n) {Qf : Int → Mem → Prop} (hk0 : ∀ z M1, Qf z M1 → ∀ k, n ≤ k → M1 k = M k) (h : CtI X l y ws rm L1 a M vs Qf) : CtI X' l y ws rm (L1 ++ L2) a M vs Qf := by
  intro D T sz p e ha hc hk s m args below hf happ hpre hK
  obtain ⟨h0, hsz, hP, hKK, hD, hXs⟩ := hpre
  subst hsz; subst hn
  have hP' := hP
  have hD' := hD
  rw [wld_app] at hP' hD'
  obtain ⟨t, o, h1, h2, h3, ⟨⟨⟨r, u, g1, ⟨z, g2, g3⟩, g4⟩, g5⟩, LL2, g6, g7⟩⟩ := h D T s.heap.size p e ha hc hk s m args below hf happ ⟨h0, rfl, va_P_l hP', hKK, va_D_l hD', hX.2 _ _ s s _ _ (hXX _ _ _ hXs) (State.WarmedH.refl s) (fun q w => AA_lift w) (fun _ _ _ => rfl)⟩ hK
  refine ⟨t, o, h1, h2, h3, ⟨⟨⟨r, u, g1, ⟨z, g2, g3⟩, ?_⟩, g5.1, fun q hq hn => g5.2 q hq (fun w => hn (AA_lift w))⟩, LL2, g6, fun q hq => AA_lift (g7 q hq)⟩⟩
  unfold Em
  rw [wld_app, wld2_c (hk0 z u g3)]
  exact joinL hP' hD' g5.2 g4
theorem CtJ.lift (hX : XC X) (hXX : ∀ (A : Nat → Prop) (U : State) (H : Heap), X' A U H → X A U H) (L2 : List Kd) {n : Nat} (hn : L1.length = n) {Qf : Int → Mem → Prop} (hk0 : ∀ z M1, Qf z M1 → ∀ k, n ≤ k → M1 k = M k) (h : CtJ X l y ws rm L1 a M vs Qf) : CtJ X' l y ws rm (L1 ++ L2) a M vs Qf := by
  intro D T sz p e ha hc hk s m args below hf happ hpre hK
  obtain ⟨h0, hsz, hP, hKK, hD, hXs⟩ := hpre
  subst hsz; subst hn
  have hP' := hP
  have hD' := hD
  rw [wld_app] at hP' hD'
  obtain ⟨t, o, h1, h2, h3, ⟨⟨⟨r, u, g1, ⟨z, g2, g3⟩, g4⟩, g5⟩, LL2, g6, g7⟩⟩ := h D T s.heap.size p e ha hc hk s m args below hf happ ⟨h0, rfl, va_P_l hP', hKK, va_D_l hD', hX.2 _ _ s s _ _ (hXX _ _ _ hXs) (State.WarmedH.refl s) (fun q w => AA_lift w) (fun _ _ _ => rfl)⟩ hK
  refine ⟨t, o, h1, h2, h3, ⟨⟨⟨r, u, g1, ⟨z, g2, g3⟩, ?_⟩, g5.1, fun q hq hn => g5.2 q hq (fun w => hn (AA_lift w))⟩, LL2, g6, fun q hq => AA_lift (g7 q hq)⟩⟩
  unfold Em
  rw [wld_app, wld2_c (hk0 z u g3)]
  exact joinL hP' hD' g5.2 g4
end LIFT
/-- an answer of a call is what its contract's end says, and more -/
theorem CtJ.mono {X : (Nat → Prop) → State → Heap → Prop} {l : Launch} {y : MethodName} {ws : List Cond} {rm : Room} {L : List Kd} {a : Nat → Nat} {M : Mem} {vs : List Value} {Q1 Q2 : Int → Mem → Prop} (h : CtJ X l y ws rm L a M vs Q1) (hq : ∀ z M', Q1 z M' → Q2 z M') : CtJ X l y ws rm L a M vs Q2 := by
  intro D T sz p e ha hc hk s m args below hf happ hpre hK
  obtain ⟨t, o, h1, h2, h3, ⟨⟨⟨r, u, g1, ⟨z, g2, g3⟩, g4⟩, g5⟩, g6⟩⟩ := h D T sz p e ha hc hk s m args below hf happ hpre hK
  exact ⟨t, o, h1, h2, h3, ⟨⟨⟨r, u, g1, ⟨z, g2, hq z u g3⟩, g4⟩, g5⟩, g6⟩⟩
/-! ===== bits ===== -/
theorem iI_s (x : Int32) : iI x.toInt = x := Int32.ofInt_toInt x
def andZ (x y : Int) : Int := (iI x &&& iI y).toInt
def orZ (x y : Int) : Int := (iI x ||| iI y).toInt
def shrZ (x y : Int) : Int := (iI x >>> (iI y &&& 31)).toInt
def shlZ (x y : Int) : Int := (iI x <<< (iI y &&& 31)).toInt
def wrZ (z : Int) : Int := (iI z).toInt
theorem i32_R (x : Int32) : -2147483648 ≤ x.toInt ∧ x.toInt < 2147483648 := by
  have h1 := Int32.le_toInt x
  have h2 := Int32.toInt_lt x
  omega
theorem andZ_R (x y : Int) : -2147483648 ≤ andZ x y ∧ andZ x y < 2147483648 := i32_R _
theorem orZ_R (x y : Int) : -2147483648 ≤ orZ x y ∧ orZ x y < 2147483648 := i32_R _
theorem shrZ_R (x y : Int) : -2147483648 ≤ shrZ x y ∧ shrZ x y < 2147483648 := i32_R _
theorem shlZ_R (x y : Int) : -2147483648 ≤ shlZ x y ∧ shlZ x y < 2147483648 := i32_R _
theorem wrZ_R (x : Int) : -2147483648 ≤ wrZ x ∧ wrZ x < 2147483648 := i32_R _
theorem i32_nn {x : Int32} {z : Int} (h : x.toInt = z) (h0 : 0 ≤ z) : (x.toBitVec.toNat : Int) = z ∧ x.toBitVec.toNat < 2147483648 := by
  have h1 : x.toBitVec.toInt = z := h
  have h2 := x.toBitVec.isLt
  rw [BitVec.toInt_eq_toNat_cond] at h1
  split at h1 <;> omega
theorem andZ_le {x y : Int} (h : 0 ≤ y ∧ y < 2147483648) : 0 ≤ andZ x y ∧ andZ x y ≤ y := by
  have e1 := i32_nn (x := iI y) (iI_toInt ⟨by omega, h.2⟩) h.1
  have e2 : ((iI x &&& iI y).toBitVec).toNat ≤ (iI y).toBitVec.toNat := by
    rw [Int32.toBitVec_and, BitVec.toNat_and]
    exact Nat.and_le_right
  have e3 : (iI x &&& iI y).toInt = ((iI x &&& iI y).toBitVec.toNat : Int) := by
    show (iI x &&& iI y).toBitVec.toInt = _
    rw [BitVec.toInt_eq_toNat_cond, if_pos (by omega)]
  unfold andZ
  rw [e3]
  omega
theorem andZ_1 (x : Int) : andZ x 1 = 0 ∨ andZ x 1 = 1 := by
  have := andZ_le (x := x) (y := 1) (by omega)
  omega
def upZ (v m : Int) : Int := Int.tmod (andZ v 2147483647) m
theorem upZ_R {v m : Int} (h : 1 ≤ m) : 0 ≤ upZ v m ∧ upZ v m < m := by
  have h1 := andZ_le (x := v) (y := 2147483647) (by omega)
  exact ⟨Int.tmod_nonneg _ h1.1, Int.tmod_lt_of_pos _ (by omega)⟩
/-! ===== what the law's contracts carry: the class's, and the script ===== -/
def XL (b n : Nat) (xs : Nat → Int32) : (Nat → Prop) → State → Heap → Prop := fun A U H => XS A U H ∧ n ≤ 260 ∧ va_X b n xs U H ∧ b < H.size ∧ ¬ A b
theorem XL_c (b n : Nat) (xs : Nat → Int32) : XC (XL b n xs) := by
  refine ⟨fun A U H g mk v h => ⟨XS_c.1 _ _ _ _ _ _ h.1, h.2.1, va_X.moved (u := U) (U := U.calling g mk v) (Vm.Alike.refl U.vm) h.2.2.1, h.2.2.2⟩, fun A B s U H H' h hW hAB hk => ?_⟩
  have e := hk b h.2.2.2.1 h.2.2.2.2
  have hx := (va_X.moved hW.alike h.2.2.1).kept e
  refine ⟨XS_c.2 _ _ _ _ _ _ h.1 hW hAB hk, h.2.1, hx, ?_, fun q => h.2.2.2.2 (hAB b q)⟩
  obtain ⟨scr, h1, -⟩ := hx
  exact (Array.getElem?_eq_some_iff.mp h1).1
theorem XL_S {b n : Nat} {xs : Nat → Int32} : ∀ (A : Nat → Prop) (U : State) (H : Heap), XL b n xs A U H → XS A U H := fun _ _ _ h => h.1
section BROWS
variable {X : (Nat → Prop) → State → Heap → Prop} {p : Program} {l : Launch} {e : Env} {R : Room} {s : State} {m : MethodId} {args : Array Value} {below : List Frame} {meth : Method} {c : Code} {Q : State → Prop}
variable {D : va_G} {A : Nat → Prop} {nL : Nat} {ws : va_W} {pc pc' tgt : Nat} {lv lv' : List (Option Value)} {st st0 : List Value} {cc : ByteArray} {Ts : List Cond} {own : String} {T : Nat → ClassId} {a : Nat → Nat} {L : List Kd} {M M0 : Mem} {kc ks : Nat}
theorem g_iand (F : CallFix p m c cc nL s args Ts own) {x y : Int} (hdg : decode cc pc = .ok (.iand, 1)) (hp : pc + 1 = pc') (k : GG p l e R s m args below meth c Q D A nL ws pc' lv (.int (iI (andZ x y)) :: st)) : GG p l e R s m args below meth c Q D A nL ws pc lv (.int (iI y) :: .int (iI x) :: st) := by
  subst hp; exact fun H locs ls hP hD hS h => lv_iand F.1 F.2.1 hdg (by rw [show iI x &&& iI y = iI (andZ x y) from (iI_s _).symm]; exact k H locs ls hP hD hS h)
theorem g_ishr (F : CallFix p m c cc nL s args Ts own) {x y : Int} (hdg : decode cc pc = .ok (.ishr, 1)) (hp : pc + 1 = pc') (k : GG p l e R s m args below meth c Q D A nL ws pc' lv (.int (iI (shrZ x y)) :: st)) : GG p l e R s m args below meth c Q D A nL ws pc lv (.int (iI y) :: .int (iI x) :: st) := by
  subst hp; exact fun H locs ls hP hD hS h => lv_ishr F.1 F.2.1 hdg (by rw [show iI x >>> (iI y &&& 31) = iI (shrZ x y) from (iI_s _).symm]; exact k H locs ls hP hD hS h)
theorem g_pop (F : CallFix p m c cc nL s args Ts own) {z : Int32} (hdg : decode cc pc = .ok (.pop, 1)) (hp : pc + 1 = pc') (k : GG p l e R s m args below meth c Q D A nL ws pc' lv st) : GG p l e R s m args below meth c Q D A nL ws pc lv (.int z :: st) := by
  subst hp; exact fun H locs ls hP hD hS h => lv_pop F.1 F.2.1 hdg rfl (k H locs ls hP hD hS h)
theorem g_wrap {z : Int} (k : GG p l e R s m args below meth c Q D A nL ws pc lv (.int (iI (wrZ z)) :: st)) : GG p l e R s m args below meth c Q D A nL ws pc lv (.int (iI z) :: st) := by
  rw [show iI (wrZ z) = iI z from iI_s _] at k; exact k
theorem k_iand (F : CallFix p m c cc nL s args Ts own) {x y : Int} (hdg : decode cc pc = .ok (.iand, 1)) (hp : pc + 1 = pc') (k : KK kc ks p l e R s m args below meth c Q D A nL ws pc' lv (.int (iI (andZ x y)) :: st)) : KK kc ks p l e R s m args below meth c Q D A nL ws pc lv (.int (iI y) :: .int (iI x) :: st) := by
  subst hp; exact fun H locs ls hP hD hS h => lv_iand F.1 F.2.1 hdg (by rw [show iI x &&& iI y = iI (andZ x y) from (iI_s _).symm]; exact k H locs ls hP hD hS h)
theorem k_ior (F : CallFix p m c cc nL s args Ts own) {x y : Int} (hdg : decode cc pc = .ok (.ior, 1)) (hp : pc + 1 = pc') (k : KK kc ks p l e R s m args below meth c Q D A nL ws pc' lv (.int (iI (orZ x y)) :: st)) : KK kc ks p l e R s m args below meth c Q D A nL ws pc lv (.int (iI y) :: .int (iI x) :: st) := by
  subst hp; exact fun H locs ls hP hD hS h => lv_ior F.1 F.2.1 hdg (by rw [show iI x ||| iI y = iI (orZ x y) from (iI_s _).symm]; exact k H locs ls hP hD hS h)
theorem k_ishr (F : CallFix p m c cc nL s args Ts own) {x y : Int} (hdg : decode cc pc = .ok (.ishr, 1)) (hp : pc + 1 = pc') (k : KK kc ks p l e R s m args below meth c Q D A nL ws pc' lv (.int (iI (shrZ x y)) :: st)) : KK kc ks p l e R s m args below meth c Q D A nL ws pc lv (.int (iI y) :: .int (iI x) :: st) := by
  subst hp; exact fun H locs ls hP hD hS h => lv_ishr F.1 F.2.1 hdg (by rw [show iI x >>> (iI y &&& 31) = iI (shrZ x y) from (iI_s _).symm]; exact k H locs ls hP hD hS h)
theorem k_ishl (F : CallFix p m c cc nL s args Ts own) {x y : Int} (hdg : decode cc pc = .ok (.ishl, 1)) (hp : pc + 1 = pc') (k : KK kc ks p l e R s m args below meth c Q D A nL ws pc' lv (.int (iI (shlZ x y)) :: st)) : KK kc ks p l e R s m args below meth c Q D A nL ws pc lv (.int (iI y) :: .int (iI x) :: st) := by
  subst hp; exact fun H locs ls hP hD hS h => lv_ishl F.1 F.2.1 hdg (by rw [show iI x <<< (iI y &&& 31) = iI (shlZ x y) from (iI_s _).symm]; exact k H locs ls hP hD hS h)
theorem k_pop (F : CallFix p m c cc nL s args Ts own) {z : Int32} (hdg : decode cc pc = .ok (.pop, 1)) (hp : pc + 1 = pc') (k : KK kc ks p l e R s m args below meth c Q D A nL ws pc' lv st) : KK kc ks p l e R s m args below meth c Q D A nL ws pc lv (.int z :: st) := by
  subst hp; exact fun H locs ls hP hD hS h => lv_pop F.1 F.2.1 hdg rfl (k H locs ls hP hD hS h)
/-- the script -/
theorem g_slen (F : CallFix p m c cc nL s args Ts own) {b n : Nat} {xs : Nat → Int32} (X0 : XL b n xs A s s.heap) (hdg : decode cc pc = .ok (.arraylength, 1)) (hp : pc + 1 = pc') (k : GG p l e R s m args below meth c Q D A nL ws pc' lv (.int (iI (n : Int)) :: st)) : GG p l e R s m args below meth c Q D A nL ws pc lv (.ref b :: st) := by
  subst hp
  intro H locs ls hP hD hS h
  refine va_slen F.1 F.2.1 X0.2.2.1 X0.2.2.2.1 X0.2.2.2.2 hS hdg ?_
  have e1 : Int32.ofNat n = iI (n : Int) := by
    first | rfl | exact (Int32.ofInt_eq_ofNat).symm | simp [iI]
  rw [e1]
  exact k H locs ls hP hD hS h
theorem g_sld (F : CallFix p m c cc nL s args Ts own) {b n : Nat} {xs : Nat → Int32} (X0 : XL b n xs A s s.heap) {i : Int} (hi : 0 ≤ i ∧ i < (n : Int)) (hdg : decode cc pc = .ok (.iaload, 1)) (hp : pc + 1 = pc') (k : ∀ z : Int, -2147483648 ≤ z ∧ z < 2147483648 → GG p l e R s m args below meth c Q D A nL ws pc' lv (.int (iI z) :: st)) : GG p l e R s m args below meth c Q D A nL ws pc lv (.int (iI i) :: .ref b :: st) := by
  subst hp
  intro H locs ls hP hD hS h
  have hn := X0.2.1
  refine va_sld F.1 F.2.1 X0.2.2.1 X0.2.2.2.1 X0.2.2.2.2 hS (iI_in hi (by omega)) hdg ?_
  obtain ⟨z, e1, hz⟩ := iI_of (xs (iI i).toNatClampNeg)
  rw [e1]
  exact k z hz H locs ls hP hD hS h
/-- calls of static methods over a memory -/
theorem Pm_preS (hX : XC X) (K : va_K D vwCl (tysT T) s) {A : Nat → Prop} (hA : ∀ q, s.heap.size ≤ q → A q) (X0 : X A s s.heap) {H : Heap} {locs : List Loc} (hP : va_P D vwCl (wld T a L M) H) (hD : va_D A (wld T a L M)) (hS : va_S A s.heap H locs) {As : List Value} : PreS s H (va_Pc As (Pm X D T a L M H.size)) As := by
  refine ⟨Pm_blind hX _ _, fun U hU hW => ⟨rfl, by rw [hU], by rw [hU]; exact hP, va_K.moved hW.alike K, hD.weaken (fun _ _ _ _ => trivial), hX.2 _ _ _ _ _ _ X0 hW ?_ (fun q h1 h2 => by rw [hU]; exact hS.2.1 q h1 h2)⟩⟩
  rintro q (⟨k, x, h⟩ | h)
  · exact hD.2 k _ h
  · exact hA q (Nat.le_trans hS.1 h)
theorem AA_inA {A : Nat → Prop} (hA : ∀ q, s.heap.size ≤ q → A q) {H : Heap} {locs : List Loc} (hD : va_D A (wld T a L M)) (hS : va_S A s.heap H locs) (q : Nat) (h : AA T a L M H.size q) : A q := by
  rcases h with ⟨k, x, h⟩ | h
  · exact hD.2 k _ h
  · exact hA q (Nat.le_trans hS.1 h)
theorem Pm_preV (hX : XC X) (K : va_K D vwCl (tysT T) s) {A : Nat → Prop} (hA : ∀ q, s.heap.size ≤ q → A q) (X0 : X A s s.heap) {H : Heap} {locs : List Loc} (hP : va_P D vwCl (wld T a L M) H) (hD : va_D A (wld T a L M)) (hS : va_S A s.heap H locs) {C : String} {Tt : u_T} {N r ci n : Nat} {fs : List Nat} {As : List Value} (hL : L[r]? = some (ci + 4, n, fs)) (hc : vwCl[ci]? = some (C, Tt, N)) : PreV s H C (a r) (va_Pc (.ref (a r) :: As) (Pm X D T a L M H.size)) As :=
  ⟨Pm_blind hX _ _, va_recv K hP hc (wld_at hL), (Pm_preS hX K hA X0 hP hD hS).2⟩
theorem AA_new {M' : Mem} {L : List Kd} (q : Nat) (h : s.heap.size ≤ q) : AA T a L M' s.heap.size q := Or.inr h
theorem g_callSI (F : CallFix p m c cc nL s args Ts own) (K : va_K D vwCl (tysT T) s) (hX : XC X) (X0 : X (AA T a L M0 s.heap.size) s s.heap) {y : MethodName} {ws' : List Cond} {rm : Room} {bytes : ByteArray} {maxL index n : Nat} {ret : Option FieldType} {As : List Value} {Qf : Int → Mem → Prop} (hct : CtI X l y ws' rm L a M As Qf) (cw : CallB R s args own index y bytes maxL ret ws' rm 0 0 n ∧ (Cond.static y).before args s = true) (hn : As.length = n) (hst : st0 = As.reverse ++ st) (hroom : (st.map fun v => v.category).sum ≤ 8) (hdg : decode cc pc = .ok (.invokestatic index, 3)) (hp : pc + 3 = pc')
    (kk : ∀ (z : Int) (M' : Mem), Qf z M' → GG p l e R s m args below meth c Q D (AA T a L M0 s.heap.size) nL (wld T a L M') pc' lv (.int (iI z) :: st)) : GG p l e R s m args below meth c Q D (AA T a L M0 s.heap.size) nL (wld T a L M) pc lv st0 := by
  subst hp; subst hst
  intro H locs ls hP hD hS h
  refine va_calli (va_runS (As := As) (rest := st) F (hct D T H.size) cw (Pm_preS hX K AA_new X0 hP hD hS) rfl hn h.1 rfl (lv_room hroom) hdg ⟨Nat.zero_le _, Nat.zero_le _⟩) hS (fun q _ h => AA_in hS q h) (fun q h => AA_in hS q h) (fun r u t H1 locs1 ht hvm hw hB hz hk hS1 => ?_)
  obtain ⟨z, rfl, hq⟩ := hw
  exact kk z u hq H1 locs1 ls (by rw [← ht]; exact hB) (wld_D hD) hS1 h
theorem g_callSV (F : CallFix p m c cc nL s args Ts own) (K : va_K D vwCl (tysT T) s) (hX : XC X) (X0 : X (AA T a L M0 s.heap.size) s s.heap) {y : MethodName} {ws' : List Cond} {rm : Room} {bytes : ByteArray} {maxL index n : Nat} {ret : Option FieldType} {As : List Value} {Qf : Mem → Prop} (hct : CtV X l y ws' rm L a M As Qf) (cw : CallB R s args own index y bytes maxL ret ws' rm 0 0 n ∧ (Cond.static y).before args s = true) (hn : As.length = n) (hst : st0 = As.reverse ++ st) (hroom : (st.map fun v => v.category).sum ≤ 8) (hdg : decode cc pc = .ok (.invokestatic index, 3)) (hp : pc + 3 = pc')
    (kk : ∀ (M' : Mem), Qf M' → GG p l e R s m args below meth c Q D (AA T a L M0 s.heap.size) nL (wld T a L M') pc' lv st) : GG p l e R s m args below meth c Q D (AA T a L M0 s.heap.size) nL (wld T a L M) pc lv st0 := by
  subst hp; subst hst
  intro H locs ls hP hD hS h
  refine va_callv (va_runS (As := As) (rest := st) F (hct D T H.size) cw (Pm_preS hX K AA_new X0 hP hD hS) rfl hn h.1 rfl (lv_room hroom) hdg ⟨Nat.zero_le _, Nat.zero_le _⟩) hS (fun q _ h => AA_in hS q h) (fun q h => AA_in hS q h) (fun u t H1 locs1 ht hvm hw hB hz hk hS1 => ?_)
  exact kk u hw H1 locs1 ls (by rw [← ht]; exact hB) (wld_D hD) hS1 h
theorem k_callI (F : CallFix p m c cc nL s args Ts own) (K : va_K D vwCl (tysT T) s) (hX : XC X) (hA : ∀ q, s.heap.size ≤ q → A q) (X0 : X A s s.heap) (hcs : kc ≤ R.cells ∧ ks ≤ R.slots) {y : MethodName} {ws' : List Cond} {rm : Room} {bytes : ByteArray} {maxL index n r ci n0 N : Nat} {ret : Option FieldType} {C : String} {Tt : u_T} {fs : List Nat} {As : List Value} {Qf : Int → Mem → Prop} (hct : CtI X l y ws' rm L a M (.ref (a r) :: As) Qf) (cw : CallW R s args own C index y bytes maxL ret ws' rm 0 0 n) (hL : L[r]? = some (ci + 4, n0, fs)) (hc : vwCl[ci]? = some (C, Tt, N)) (hn : As.length = n) (hst : st0 = As.reverse ++ .ref (a r) :: st) (hroom : (st.map fun v => v.category).sum ≤ 8) (hdg : decode cc pc = .ok (.invokevirtual index, 3)) (hp : pc + 3 = pc')
    (kk : ∀ (z : Int) (M' : Mem), Qf z M' → KK kc ks p l e R s m args below meth c Q D A nL (wld T a L M') pc' lv (.int (iI z) :: st)) : KK kc ks p l e R s m args below meth c Q D A nL (wld T a L M) pc lv st0 := by
  subst hp; subst hst
  intro H locs ls hP hD hS h
  refine va_calli (va_runV (As := As) (rest := st) F (hct D T H.size) cw (Pm_preV hX K hA X0 hP hD hS hL hc) rfl hn h.1 rfl (lv_room hroom) hdg hcs) hS (fun q _ h => AA_inA hA hD hS q h) (fun q h => AA_inA hA hD hS q h) (fun r u t H1 locs1 ht hvm hw hB hz hk hS1 => ?_)
  obtain ⟨z, rfl, hq⟩ := hw
  exact kk z u hq H1 locs1 ls (by rw [← ht]; exact hB) (wld_D hD) hS1 h
theorem k_callJ (F : CallFix p m c cc nL s args Ts own) (K : va_K D vwCl (tysT T) s) (hX : XC X) (hA : ∀ q, s.heap.size ≤ q → A q) (X0 : X A s s.heap) (hcs : kc ≤ R.cells ∧ ks ≤ R.slots) {y : MethodName} {ws' : List Cond} {rm : Room} {bytes : ByteArray} {maxL index n r ci n0 N : Nat} {ret : Option FieldType} {C : String} {Tt : u_T} {fs : List Nat} {As : List Value} {Qf : Int → Mem → Prop} (hct : CtJ X l y ws' rm L a M (.ref (a r) :: As) Qf) (cw : CallW R s args own C index y bytes maxL ret ws' rm 0 0 n) (hL : L[r]? = some (ci + 4, n0, fs)) (hc : vwCl[ci]? = some (C, Tt, N)) (hn : As.length = n) (hst : st0 = As.reverse ++ .ref (a r) :: st) (hroom : (st.map fun v => v.category).sum ≤ 8) (hdg : decode cc pc = .ok (.invokevirtual index, 3)) (hp : pc + 3 = pc')
    (kk : ∀ (z : Int) (M' : Mem), Qf z M' → KK kc ks p l e R s m args below meth c Q D A nL (wld T a L M') pc' lv (.long (lI z) :: st)) : KK kc ks p l e R s m args below meth c Q D A nL (wld T a L M) pc lv st0 := by
  subst hp; subst hst
  intro H locs ls hP hD hS h
  refine va_calll (va_runV (As := As) (rest := st) F (hct D T H.size) cw (Pm_preV hX K hA X0 hP hD hS hL hc) rfl hn h.1 rfl (lv_room hroom) hdg hcs) hS (fun q _ h => AA_inA hA hD hS q h) (fun q h => AA_inA hA hD hS q h) (fun r u t H1 locs1 ht hvm hw hB hz hk hS1 => ?_)
  obtain ⟨z, rfl, hq⟩ := hw
  exact kk z u hq H1 locs1 ls (by rw [← ht]; exact hB) (wld_D hD) hS1 h
theorem k_callSI (F : CallFix p m c cc nL s args Ts own) (K : va_K D vwCl (tysT T) s) (hX : XC X) (hA : ∀ q, s.heap.size ≤ q → A q) (X0 : X A s s.heap) (hcs : kc ≤ R.cells ∧ ks ≤ R.slots) {y : MethodName} {ws' : List Cond} {rm : Room} {bytes : ByteArray} {maxL index n : Nat} {ret : Option FieldType} {As : List Value} {Qf : Int → Mem → Prop} (hct : CtI X l y ws' rm L a M As Qf) (cw : CallB R s args own index y bytes maxL ret ws' rm 0 0 n ∧ (Cond.static y).before args s = true) (hn : As.length = n) (hst : st0 = As.reverse ++ st) (hroom : (st.map fun v => v.category).sum ≤ 8) (hdg : decode cc pc = .ok (.invokestatic index, 3)) (hp : pc + 3 = pc')
    (kk : ∀ (z : Int) (M' : Mem), Qf z M' → KK kc ks p l e R s m args below meth c Q D A nL (wld T a L M') pc' lv (.int (iI z) :: st)) : KK kc ks p l e R s m args below meth c Q D A nL (wld T a L M) pc lv st0 := by
  subst hp; subst hst
  intro H locs ls hP hD hS h
  refine va_calli (va_runS (As := As) (rest := st) F (hct D T H.size) cw (Pm_preS hX K hA X0 hP hD hS) rfl hn h.1 rfl (lv_room hroom) hdg hcs) hS (fun q _ h => AA_inA hA hD hS q h) (fun q h => AA_inA hA hD hS q h) (fun r u t H1 locs1 ht hvm hw hB hz hk hS1 => ?_)
  obtain ⟨z, rfl, hq⟩ := hw
  exact kk z u hq H1 locs1 ls (by rw [← ht]; exact hB) (wld_D hD) hS1 h
end BROWS
