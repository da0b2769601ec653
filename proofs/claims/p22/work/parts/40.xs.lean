/-! ===== what the class's contracts carry: links across the nest, two static tables ===== -/
def XS : (Nat → Prop) → State → Heap → Prop := fun A U H =>
  (va_Nw (.methodLinkNest RX2 38 yX4_isWithin RX4) U ∧ va_Nw (.methodLinkNest RX1 40 yX2_isSign RX4) U ∧ va_Nw (.methodLinkNest RX1 49 yX4_isWithin RX4) U) ∧
  (∃ t : Nat, va_Z "StemDots" "MOST_OF_RULE" "[I" (.ref t) A U H ∧ va_T .int t 5 (fun j => .int (iI (rmx (j : Int)))) A U H) ∧
  ∃ t : Nat, va_Z "StemDots$Pad" "BEHIND_NUMBER" "[C" (.ref t) A U H ∧ va_T .char t 2 (fun j => .int (iI (44 + (j : Int)))) A U H
theorem XS_c : XC XS := by
  refine ⟨fun A U H g mk v h => ?_, fun A B s U H H' h hW hAB hk => ?_⟩
  · obtain ⟨⟨h1, h2, h3⟩, ⟨t, h4, h5⟩, t2, h6, h7⟩ := h
    exact ⟨⟨va_Nw.same (U := U.calling g mk v) rfl rfl h1, va_Nw.same (U := U.calling g mk v) rfl rfl h2, va_Nw.same (U := U.calling g mk v) rfl rfl h3⟩,
      ⟨t, va_Z.moved (u := U) (U := U.calling g mk v) (Vm.Alike.refl U.vm) h4, va_T.moved (u := U) (U := U.calling g mk v) (Vm.Alike.refl U.vm) h5⟩,
      t2, va_Z.moved (u := U) (U := U.calling g mk v) (Vm.Alike.refl U.vm) h6, va_T.moved (u := U) (U := U.calling g mk v) (Vm.Alike.refl U.vm) h7⟩
  · obtain ⟨⟨h1, h2, h3⟩, ⟨t, h4, h5⟩, t2, h6, h7⟩ := h
    exact ⟨⟨va_Nw.warmM hW h1, va_Nw.warmM hW h2, va_Nw.warmM hW h3⟩,
      ⟨t, ((h4.moved hW.alike).kept hk).narrow hAB, ((h5.moved hW.alike).kept hk).narrow hAB⟩,
      t2, ((h6.moved hW.alike).kept hk).narrow hAB, ((h7.moved hW.alike).kept hk).narrow hAB⟩
section TABR
variable {p : Program} {l : Launch} {e : Env} {R : Room} {s : State} {m : MethodId} {args : Array Value} {below : List Frame} {meth : Method} {c : Code} {Q : State → Prop}
variable {D : va_G} {A : Nat → Prop} {nL : Nat} {ws : va_W} {pc pc' : Nat} {lv : List (Option Value)} {st : List Value} {cc : ByteArray} {Ts : List Cond} {own : String} {T : Nat → ClassId} {a : Nat → Nat} {L : List Kd} {M : Mem}
theorem g_gets (F : CallFix p m c cc nL s args Ts own) {C n d : String} {t index : Nat} (hZ : va_Z C n d (.ref t) A s s.heap) (hw : Cond.fieldLink own index C n d ∈ Ts) (hdg : decode cc pc = .ok (.getstatic index, 3)) (hp : pc + 3 = pc') (k : GG p l e R s m args below meth c Q D A nL ws pc' lv (.ref t :: st)) : GG p l e R s m args below meth c Q D A nL ws pc lv st := by
  subst hp
  exact fun H locs ls hP hD hS hl => va_gets F.1 F.2.1 hZ hS F.2.2.2.1 (F.2.2.2.2 _ hw) (fun _ h => h) hdg (k H locs ls hP hD hS hl)
theorem g_ti (F : CallFix p m c cc nL s args Ts own) {t N : Nat} {f : Int → Int} {z v : Int} (hT : va_T .int t N (fun j => .int (iI (f (j : Int)))) A s s.heap) (hN : N < 2147483648) (hz : 0 ≤ z ∧ z < (N : Int)) (hdg : decode cc pc = .ok (.iaload, 1)) (hp : pc + 1 = pc') (hv : f z = v) (k : GG p l e R s m args below meth c Q D A nL ws pc' lv (.int (iI v) :: st)) : GG p l e R s m args below meth c Q D A nL ws pc lv (.int (iI z) :: .ref t :: st) := by
  subst hp; subst hv
  exact fun H locs ls hP hD hS hl => va_ti F.1 F.2.1 hT hS (iI_in hz hN) (v := .int (iI (f z))) (by rw [iI_clamp (by omega)]) hdg (k H locs ls hP hD hS hl)
theorem g_tc (F : CallFix p m c cc nL s args Ts own) {t N : Nat} {f : Int → Int} {z v : Int} (hT : va_T .char t N (fun j => .int (iI (f (j : Int)))) A s s.heap) (hN : N < 2147483648) (hz : 0 ≤ z ∧ z < (N : Int)) (hdg : decode cc pc = .ok (.caload, 1)) (hp : pc + 1 = pc') (hv : f z = v) (k : GG p l e R s m args below meth c Q D A nL ws pc' lv (.int (iI v) :: st)) : GG p l e R s m args below meth c Q D A nL ws pc lv (.int (iI z) :: .ref t :: st) := by
  subst hp; subst hv
  exact fun H locs ls hP hD hS hl => va_tc F.1 F.2.1 hT hS (iI_in hz hN) (v := .int (iI (f z))) (by rw [iI_clamp (by omega)]) hdg (k H locs ls hP hD hS hl)
theorem g_tlen (F : CallFix p m c cc nL s args Ts own) {ty : FieldType} {t N : Nat} {f : Nat → Value} (hT : va_T ty t N f A s s.heap) (hdg : decode cc pc = .ok (.arraylength, 1)) (hp : pc + 1 = pc') {z : Int} (hz : Int32.ofNat N = iI z) (k : GG p l e R s m args below meth c Q D A nL ws pc' lv (.int (iI z) :: st)) : GG p l e R s m args below meth c Q D A nL ws pc lv (.ref t :: st) := by
  subst hp
  exact fun H locs ls hP hD hS hl => va_tlen F.1 F.2.1 hT hS hz hdg (k H locs ls hP hD hS hl)
theorem h_copy (F : CallFix p m c cc nL s args Ts own) (K : va_K D vwCl (tysT T) s) {k1 k2 n1 n2 n : Nat} {r1 r2 : List Nat} {z : Int} {index : Nat} (M2 : Mem) (hM : M2 = sc M k2 (cpr (M k2) (M k1) 0 z)) (hL1 : L[k1]? = some (0, n1, r1)) (hL2 : L[k2]? = some (0, n2, r2)) (hn : z = (n : Int)) (h1 : n ≤ n1) (h2 : n ≤ n2) (hb : n < 2147483648) (hlink : Cond.methodLink own index arraycopyName ∈ Ts) (hnat : Cond.native arraycopyName ∈ Ts) (hstat : Cond.static arraycopyName ∈ Ts) (hini : Cond.initialized "java/lang/System" ∈ Ts) (hframes : 1 ≤ R.frames) (hlocals : (st.map fun v => v.category).sum + (nativeFrameWords "java/lang/System" "arraycopy" 5 + 11) ≤ R.locals) (hdg : decode cc pc = .ok (.invokestatic index, 3)) (hp : pc + 3 = pc')
    (kk : GG p l e R s m args below meth c Q D A nL (wld T a L M2) pc' lv st) : GG p l e R s m args below meth c Q D A nL (wld T a L M) pc lv (.int (iI z) :: .int (iI 0) :: .ref (a k2) :: .int (iI 0) :: .ref (a k1) :: st) := by
  subst hp; subst hM; subst hn
  intro H locs ls hP hD hS hl
  have c0 : (iI 0).toNatClampNeg = 0 := rfl
  have cn : (iI (n : Int)).toNatClampNeg = n := by have := iI_clamp (z := (n : Int)) (by omega); omega
  have n0 : ¬ iI 0 < 0 := by decide +kernel
  have nn : ¬ iI (n : Int) < 0 := by rw [← iI_0, iI_lt (by omega) (by omega)]; omega
  refine va_copyi F.1 F.2.1 (F.2.2.1.trans hl.1.symm) F.2.2.2.1 (F.2.2.2.2 _ hlink) (F.2.2.2.2 _ hnat) (F.2.2.2.2 _ hstat) (F.2.2.2.2 _ hini) K hP hD hS k1 k2 0 0 (wld_at hL1) (wld_at hL2) rfl rfl rfl n0 n0 nn (by rw [c0, cn]; omega) (by rw [c0, cn]; omega) (fun _ _ => rfl) hframes hlocals hdg (fun H1 locs1 hP1 hD1 hS1 => ?_)
  rw [c0, cn] at hP1 hD1
  have e2 : va_cpy (fun j : Nat => iI (M k1 (j : Int))) (fun j : Nat => iI (M k2 (j : Int))) 0 0 n = fun j : Nat => iI (cpr (M k2) (M k1) 0 (n : Int) (j : Int)) := by
    funext j
    unfold va_cpy cpr
    by_cases hj : 0 ≤ j ∧ j < 0 + n
    · rw [if_pos hj, if_pos (by omega)]
      congr 2
      all_goals omega
    · rw [if_neg hj, if_neg (by omega)]
  rw [e2] at hP1 hD1
  have e1 := wld_set (T := T) (a := a) (M := M) (M' := sc M k2 (cpr (M k2) (M k1) 0 (n : Int))) (e := .inl (T 0, n2, .inl (fun j : Nat => iI (cpr (M k2) (M k1) 0 (n : Int) (j : Int))))) hL2 (by rw [sc_s]; rfl) (fun j hj => sc_n hj)
  rw [e1] at hP1 hD1
  exact kk H1 locs1 ls hP1 hD1 hS1 hl
end TABR
theorem sc_sc (M : Mem) (k : Nat) (f g : Int → Int) : sc (sc M k f) k g = sc M k g := by
  funext j; unfold sc; split <;> rfl

