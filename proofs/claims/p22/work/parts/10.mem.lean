/-! ===== rows of the memory ===== -/
theorem cE_I {T : Nat → ClassId} {a : Nat → Nat} {f : Int → Int} {n : Nat} {r : List Nat} : cE T a f (0, n, r) = .inl (T 0, n, .inl (fun j => iI (f j))) := rfl
theorem cE_O {T : Nat → ClassId} {a : Nat → Nat} {f : Int → Int} {ci n : Nat} {fs : List Nat} : cE T a f (ci + 4, n, fs) = .inr (ci, fs.zipIdx.map (fun p => fV a f p.2 p.1)) := rfl
theorem fs_at {a : Nat → Nat} {f : Int → Int} {fs : List Nat} {fld q : Nat} (h : fs[fld]? = some q) : (fs.zipIdx.map (fun p => fV a f p.2 p.1))[fld]? = some (fV a f fld q) := by
  rw [List.getElem?_map, List.getElem?_zipIdx, h]
  simp
theorem fs_set {a : Nat → Nat} {f : Int → Int} {fs : List Nat} {fld : Nat} {z : Int} {v : Value} {q : Nat} (h : fs[fld]? = some q) (hv : fV a (fun j => if j = (fld : Int) then z else f j) fld q = v) :
    (fs.zipIdx.map (fun p => fV a f p.2 p.1)).set fld v = fs.zipIdx.map (fun p => fV a (fun j => if j = (fld : Int) then z else f j) p.2 p.1) := by
  apply List.ext_getElem?
  intro i
  by_cases hi : i = fld
  · subst hi
    have hlt : i < (fs.zipIdx.map (fun p => fV a f p.2 p.1)).length := by
      have := (List.getElem?_eq_some_iff.mp h).1
      simpa using this
    rw [List.getElem?_set_self hlt, List.getElem?_map, List.getElem?_zipIdx, h]
    simp [hv]
  · rw [List.getElem?_set_ne (fun q => hi q.symm), List.getElem?_map, List.getElem?_map, List.getElem?_zipIdx]
    cases fs[i]? with
    | none => rfl
    | some q =>
      simp only [Option.map_some, Nat.zero_add]
      have hne : ¬ ((i : Int) = (fld : Int)) := by omega
      match q with
      | 0 => simp [fV, hne]
      | 1 => simp [fV, hne]
      | q + 2 => simp [fV]
theorem up_fn (M : Mem) (k : Nat) (j z : Int) : up M k j z k = fun i => if i = j then z else M k i := by funext i; simp [up]
theorem ar_set {f : Int → Int} {z v : Int} (h : 0 ≤ z ∧ z < 2147483648) : upd (fun j => iI (f (j : Nat))) (iI z).toNatClampNeg (iI v) = fun j : Nat => iI (if (j : Int) = z then v else f j) := by
  funext j
  have hz := iI_clamp h
  unfold upd
  by_cases hj : j = (iI z).toNatClampNeg
  · rw [if_pos hj, if_pos (by omega)]
  · rw [if_neg hj, if_neg (by omega)]
theorem ar_setL {f : Int → Int} {z v : Int} (h : 0 ≤ z ∧ z < 2147483648) : vp_updL (fun j => lI (f (j : Nat))) (iI z).toNatClampNeg (lI v) = fun j : Nat => lI (if (j : Int) = z then v else f j) := by
  funext j
  have hz := iI_clamp h
  unfold vp_updL
  by_cases hj : j = (iI z).toNatClampNeg
  · rw [if_pos hj, if_pos (by omega)]
  · rw [if_neg hj, if_neg (by omega)]
section MEMR
variable {p : Program} {l : Launch} {e : Env} {R : Room} {s : State} {m : MethodId} {args : Array Value} {below : List Frame} {meth : Method} {c : Code} {Q : State → Prop}
variable {D : va_G} {A : Nat → Prop} {nL : Nat} {ws : va_W} {pc pc' tgt : Nat} {lv lv' : List (Option Value)} {st : List Value} {cc : ByteArray} {Ts : List Cond} {own : String} {T : Nat → ClassId} {a : Nat → Nat} {L : List Kd} {M : Mem}
theorem g_getI (F : CallFix p m c cc nL s args Ts own) (K : va_K D vwCl (tysT T) s) {k fld ci n N index : Nat} {fs : List Nat} {C : String} {Tt : u_T} {z : Int} (hin : ∀ w ∈ u_ws C Tt N, w ∈ Ts) (hL : L[k]? = some (ci + 4, n, fs)) (hc : vwCl[ci]? = some (C, Tt, N)) (hf : fs[fld]? = some 0) (hk : fld < N) (hw : Cond.fieldLink own index (Tt fld).1 (Tt fld).2.1 (Tt fld).2.2.1 ∈ Ts) (hdg : decode cc pc = .ok (.getfield index, 3)) (hp : pc + 3 = pc') (hv : M k fld = z)
    (kk : GG p l e R s m args below meth c Q D A nL (wld T a L M) pc' lv (.int (iI z) :: st)) : GG p l e R s m args below meth c Q D A nL (wld T a L M) pc lv (.ref (a k) :: st) := by
  subst hp; subst hv
  exact fun H locs ls hP hD hS h => va_get F.1 F.2.1 F.2.2.2.2 hin F.2.2.2.1 K hP k (wld_at hL) hc fld hk (F.2.2.2.2 _ hw) (fun _ h9 => h9) (fs_at hf) hdg (kk H locs ls hP hD hS h)
theorem g_getJ (F : CallFix p m c cc nL s args Ts own) (K : va_K D vwCl (tysT T) s) {k fld ci n N index : Nat} {fs : List Nat} {C : String} {Tt : u_T} {z : Int} (hin : ∀ w ∈ u_ws C Tt N, w ∈ Ts) (hL : L[k]? = some (ci + 4, n, fs)) (hc : vwCl[ci]? = some (C, Tt, N)) (hf : fs[fld]? = some 1) (hk : fld < N) (hw : Cond.fieldLink own index (Tt fld).1 (Tt fld).2.1 (Tt fld).2.2.1 ∈ Ts) (hdg : decode cc pc = .ok (.getfield index, 3)) (hp : pc + 3 = pc') (hv : M k fld = z)
    (kk : GG p l e R s m args below meth c Q D A nL (wld T a L M) pc' lv (.long (lI z) :: st)) : GG p l e R s m args below meth c Q D A nL (wld T a L M) pc lv (.ref (a k) :: st) := by
  subst hp; subst hv
  exact fun H locs ls hP hD hS h => va_get F.1 F.2.1 F.2.2.2.2 hin F.2.2.2.1 K hP k (wld_at hL) hc fld hk (F.2.2.2.2 _ hw) (fun _ h9 => h9) (fs_at hf) hdg (kk H locs ls hP hD hS h)
theorem g_getR (F : CallFix p m c cc nL s args Ts own) (K : va_K D vwCl (tysT T) s) {k fld ci n N index q : Nat} {fs : List Nat} {C : String} {Tt : u_T} (hin : ∀ w ∈ u_ws C Tt N, w ∈ Ts) (hL : L[k]? = some (ci + 4, n, fs)) (hc : vwCl[ci]? = some (C, Tt, N)) (hf : fs[fld]? = some (q + 2)) (hk : fld < N) (hw : Cond.fieldLink own index (Tt fld).1 (Tt fld).2.1 (Tt fld).2.2.1 ∈ Ts) (hdg : decode cc pc = .ok (.getfield index, 3)) (hp : pc + 3 = pc')
    (kk : GG p l e R s m args below meth c Q D A nL (wld T a L M) pc' lv (.ref (a q) :: st)) : GG p l e R s m args below meth c Q D A nL (wld T a L M) pc lv (.ref (a k) :: st) := by
  subst hp
  exact fun H locs ls hP hD hS h => va_get F.1 F.2.1 F.2.2.2.2 hin F.2.2.2.1 K hP k (wld_at hL) hc fld hk (F.2.2.2.2 _ hw) (fun _ h9 => h9) (fs_at hf) hdg (kk H locs ls hP hD hS h)
theorem g_putI (F : CallFix p m c cc nL s args Ts own) (K : va_K D vwCl (tysT T) s) {k fld ci n N index : Nat} {fs : List Nat} {C : String} {Tt : u_T} {z : Int} (ty0 : Nat → FieldType) (hty : ∀ k, k < N → parseFieldDescriptor (Tt k).2.2.1 = some (ty0 k)) (hnm : ∀ a, a < N → ∀ b, b < N → a ≠ b → (Tt a).2.1 ≠ (Tt b).2.1) (hin : ∀ w ∈ u_ws C Tt N, w ∈ Ts) (hL : L[k]? = some (ci + 4, n, fs)) (hc : vwCl[ci]? = some (C, Tt, N)) (hf : fs[fld]? = some 0) (hk : fld < N) (hfin : (Tt fld).2.2.2 = false) (hd : (Tt fld).2.2.1 = "I") (hw : Cond.fieldLink own index (Tt fld).1 (Tt fld).2.1 (Tt fld).2.2.1 ∈ Ts) (hdg : decode cc pc = .ok (.putfield index, 3)) (hp : pc + 3 = pc')
    (kk : GG p l e R s m args below meth c Q D A nL (wld T a L (up M k fld z)) pc' lv st) : GG p l e R s m args below meth c Q D A nL (wld T a L M) pc lv (.int (iI z) :: .ref (a k) :: st) := by
  subst hp
  intro H locs ls hP hD hS h
  refine va_put (ty := .int) (v := .int (iI z)) F.1 F.2.1 F.2.2.2.2 hin ty0 hty hnm F.2.2.2.1 K hP hD hS k (wld_at hL) hc fld hk (F.2.2.2.2 _ hw) (fun _ h9 => h9) hfin (by rw [hd]; decide +kernel) rfl rfl (by have := (List.getElem?_eq_some_iff.mp hf).1; simpa using this) hdg (fun H1 locs1 hP1 hD1 hS1 => ?_)
  have e1 := wld_set (T := T) (a := a) (M := M) (M' := up M k fld z) (e := .inr (ci, (fs.zipIdx.map (fun p => fV a (M k) p.2 p.1)).set fld (.int (iI z)))) hL (by rw [cE_O, up_fn, fs_set (z := z) hf (by simp [fV])]) (fun j hj => up_n hj)
  rw [e1] at hP1 hD1
  exact kk H1 locs1 ls hP1 hD1 hS1 h
theorem g_putJ (F : CallFix p m c cc nL s args Ts own) (K : va_K D vwCl (tysT T) s) {k fld ci n N index : Nat} {fs : List Nat} {C : String} {Tt : u_T} {z : Int} (ty0 : Nat → FieldType) (hty : ∀ k, k < N → parseFieldDescriptor (Tt k).2.2.1 = some (ty0 k)) (hnm : ∀ a, a < N → ∀ b, b < N → a ≠ b → (Tt a).2.1 ≠ (Tt b).2.1) (hin : ∀ w ∈ u_ws C Tt N, w ∈ Ts) (hL : L[k]? = some (ci + 4, n, fs)) (hc : vwCl[ci]? = some (C, Tt, N)) (hf : fs[fld]? = some 1) (hk : fld < N) (hfin : (Tt fld).2.2.2 = false) (hd : (Tt fld).2.2.1 = "J") (hw : Cond.fieldLink own index (Tt fld).1 (Tt fld).2.1 (Tt fld).2.2.1 ∈ Ts) (hdg : decode cc pc = .ok (.putfield index, 3)) (hp : pc + 3 = pc')
    (kk : GG p l e R s m args below meth c Q D A nL (wld T a L (up M k fld z)) pc' lv st) : GG p l e R s m args below meth c Q D A nL (wld T a L M) pc lv (.long (lI z) :: .ref (a k) :: st) := by
  subst hp
  intro H locs ls hP hD hS h
  refine va_put (ty := .long) (v := .long (lI z)) F.1 F.2.1 F.2.2.2.2 hin ty0 hty hnm F.2.2.2.1 K hP hD hS k (wld_at hL) hc fld hk (F.2.2.2.2 _ hw) (fun _ h9 => h9) hfin (by rw [hd]; decide +kernel) rfl rfl (by have := (List.getElem?_eq_some_iff.mp hf).1; simpa using this) hdg (fun H1 locs1 hP1 hD1 hS1 => ?_)
  have e1 := wld_set (T := T) (a := a) (M := M) (M' := up M k fld z) (e := .inr (ci, (fs.zipIdx.map (fun p => fV a (M k) p.2 p.1)).set fld (.long (lI z)))) hL (by rw [cE_O, up_fn, fs_set (z := z) hf (by simp [fV])]) (fun j hj => up_n hj)
  rw [e1] at hP1 hD1
  exact kk H1 locs1 ls hP1 hD1 hS1 h
theorem g_iald (F : CallFix p m c cc nL s args Ts own) (K : va_K D vwCl (tysT T) s) {k n : Nat} {r : List Nat} {z v : Int} (hL : L[k]? = some (0, n, r)) (hn : n < 2147483648) (hz : 0 ≤ z ∧ z < (n : Int)) (hdg : decode cc pc = .ok (.iaload, 1)) (hp : pc + 1 = pc') (hv : M k z = v)
    (kk : GG p l e R s m args below meth c Q D A nL (wld T a L M) pc' lv (.int (iI v) :: st)) : GG p l e R s m args below meth c Q D A nL (wld T a L M) pc lv (.int (iI z) :: .ref (a k) :: st) := by
  subst hp; subst hv
  refine fun H locs ls hP hD hS h => va_iald F.1 F.2.1 K hP k 0 (wld_at hL) rfl (iI_in hz hn) hdg ?_
  show W p l e R s m args below meth c H locs 0 0 Q (F0 m (pc + 1) ls (.int (iI (M k (((iI z).toNatClampNeg : Nat) : Int))) :: st))
  rw [iI_clamp (by omega)]
  exact kk H locs ls hP hD hS h
theorem g_lald (F : CallFix p m c cc nL s args Ts own) (K : va_K D vwCl (tysT T) s) {k n : Nat} {r : List Nat} {z v : Int} (hL : L[k]? = some (1, n, r)) (hn : n < 2147483648) (hz : 0 ≤ z ∧ z < (n : Int)) (hdg : decode cc pc = .ok (.laload, 1)) (hp : pc + 1 = pc') (hv : M k z = v)
    (kk : GG p l e R s m args below meth c Q D A nL (wld T a L M) pc' lv (.long (lI v) :: st)) : GG p l e R s m args below meth c Q D A nL (wld T a L M) pc lv (.int (iI z) :: .ref (a k) :: st) := by
  subst hp; subst hv
  refine fun H locs ls hP hD hS h => va_lald F.1 F.2.1 K hP k 1 (wld_at hL) rfl (iI_in hz hn) hdg ?_
  show W p l e R s m args below meth c H locs 0 0 Q (F0 m (pc + 1) ls (.long (lI (M k (((iI z).toNatClampNeg : Nat) : Int))) :: st))
  rw [iI_clamp (by omega)]
  exact kk H locs ls hP hD hS h
theorem g_zald (F : CallFix p m c cc nL s args Ts own) (K : va_K D vwCl (tysT T) s) {k n : Nat} {r : List Nat} {z v : Int} (hL : L[k]? = some (2, n, r)) (hn : n < 2147483648) (hz : 0 ≤ z ∧ z < (n : Int)) (hdg : decode cc pc = .ok (.baload, 1)) (hp : pc + 1 = pc') (hv : M k z = v)
    (kk : GG p l e R s m args below meth c Q D A nL (wld T a L M) pc' lv (.int (iI v) :: st)) : GG p l e R s m args below meth c Q D A nL (wld T a L M) pc lv (.int (iI z) :: .ref (a k) :: st) := by
  subst hp; subst hv
  refine fun H locs ls hP hD hS h => va_zald F.1 F.2.1 K hP k 2 (wld_at hL) rfl (iI_in hz hn) hdg ?_
  show W p l e R s m args below meth c H locs 0 0 Q (F0 m (pc + 1) ls (.int (iI (M k (((iI z).toNatClampNeg : Nat) : Int))) :: st))
  rw [iI_clamp (by omega)]
  exact kk H locs ls hP hD hS h
theorem g_aald (F : CallFix p m c cc nL s args Ts own) (K : va_K D vwCl (tysT T) s) {k n q : Nat} {r : List Nat} {z : Int} (hL : L[k]? = some (3, n, r)) (hn : n < 2147483648) (hz : 0 ≤ z ∧ z < (n : Int)) (hq : r[z.toNat]? = some q) (hdg : decode cc pc = .ok (.aaload, 1)) (hp : pc + 1 = pc')
    (kk : GG p l e R s m args below meth c Q D A nL (wld T a L M) pc' lv (.ref (a q) :: st)) : GG p l e R s m args below meth c Q D A nL (wld T a L M) pc lv (.int (iI z) :: .ref (a k) :: st) := by
  subst hp
  refine fun H locs ls hP hD hS h => va_aldq F.1 F.2.1 K hP k 3 (wld_at hL) rfl (iI_in hz hn) hdg ?_
  have e1 : (iI z).toNatClampNeg = z.toNat := by have := iI_clamp (z := z) (by omega); omega
  rw [e1]
  show W p l e R s m args below meth c H locs 0 0 Q (F0 m (pc + 1) ls (va_rf ((r[z.toNat]?).map a) :: st))
  rw [hq]
  exact kk H locs ls hP hD hS h
theorem g_iast (F : CallFix p m c cc nL s args Ts own) (K : va_K D vwCl (tysT T) s) {k n : Nat} {r : List Nat} {z v : Int} (hL : L[k]? = some (0, n, r)) (hn : n < 2147483648) (hz : 0 ≤ z ∧ z < (n : Int)) (hdg : decode cc pc = .ok (.iastore, 1)) (hp : pc + 1 = pc')
    (kk : GG p l e R s m args below meth c Q D A nL (wld T a L (up M k z v)) pc' lv st) : GG p l e R s m args below meth c Q D A nL (wld T a L M) pc lv (.int (iI v) :: .int (iI z) :: .ref (a k) :: st) := by
  subst hp
  intro H locs ls hP hD hS h
  refine va_iast F.1 F.2.1 K hP hD hS k 0 (wld_at hL) rfl (iI_in hz hn) hdg (fun H1 locs1 hP1 hD1 hS1 => ?_)
  rw [ar_set (by omega)] at hP1 hD1
  have e1 := wld_set (T := T) (a := a) (M := M) (M' := up M k z v) (e := .inl (T 0, n, .inl (fun j : Nat => iI (if (j : Int) = z then v else M k j)))) hL (by rw [up_fn]; rfl) (fun j hj => up_n hj)
  rw [e1] at hP1 hD1
  exact kk H1 locs1 ls hP1 hD1 hS1 h
theorem g_last (F : CallFix p m c cc nL s args Ts own) (K : va_K D vwCl (tysT T) s) {k n : Nat} {r : List Nat} {z v : Int} (hL : L[k]? = some (1, n, r)) (hn : n < 2147483648) (hz : 0 ≤ z ∧ z < (n : Int)) (hdg : decode cc pc = .ok (.lastore, 1)) (hp : pc + 1 = pc')
    (kk : GG p l e R s m args below meth c Q D A nL (wld T a L (up M k z v)) pc' lv st) : GG p l e R s m args below meth c Q D A nL (wld T a L M) pc lv (.long (lI v) :: .int (iI z) :: .ref (a k) :: st) := by
  subst hp
  intro H locs ls hP hD hS h
  refine va_last F.1 F.2.1 K hP hD hS k 1 (wld_at hL) rfl (iI_in hz hn) hdg (fun H1 locs1 hP1 hD1 hS1 => ?_)
  rw [ar_setL (by omega)] at hP1 hD1
  have e1 := wld_set (T := T) (a := a) (M := M) (M' := up M k z v) (e := .inl (T 1, n, .inr (.inl (fun j : Nat => lI (if (j : Int) = z then v else M k j))))) hL (by rw [up_fn]; rfl) (fun j hj => up_n hj)
  rw [e1] at hP1 hD1
  exact kk H1 locs1 ls hP1 hD1 hS1 h
theorem nar_z {v : Int} (hv : v = 0 ∨ v = 1) : vp_nar .boolean (iI v) = iI v := by rcases hv with rfl | rfl <;> decide +kernel
theorem g_zast (F : CallFix p m c cc nL s args Ts own) (K : va_K D vwCl (tysT T) s) {k n : Nat} {r : List Nat} {z v : Int} (hL : L[k]? = some (2, n, r)) (hn : n < 2147483648) (hz : 0 ≤ z ∧ z < (n : Int)) (hb : v = 0 ∨ v = 1) (hdg : decode cc pc = .ok (.bastore, 1)) (hp : pc + 1 = pc')
    (kk : GG p l e R s m args below meth c Q D A nL (wld T a L (up M k z v)) pc' lv st) : GG p l e R s m args below meth c Q D A nL (wld T a L M) pc lv (.int (iI v) :: .int (iI z) :: .ref (a k) :: st) := by
  subst hp
  intro H locs ls hP hD hS h
  refine va_zast F.1 F.2.1 K hP hD hS k 2 (wld_at hL) rfl (iI_in hz hn) hdg (fun H1 locs1 hP1 hD1 hS1 => ?_)
  rw [nar_z hb, ar_set (by omega)] at hP1 hD1
  have e1 := wld_set (T := T) (a := a) (M := M) (M' := up M k z v) (e := .inl (T 2, n, .inl (fun j : Nat => iI (if (j : Int) = z then v else M k j)))) hL (by rw [up_fn]; rfl) (fun j hj => up_n hj)
  rw [e1] at hP1 hD1
  exact kk H1 locs1 ls hP1 hD1 hS1 h
end MEMR
/-! ===== contracts over a memory ===== -/
/-- what a system's contracts carry beside its memory, and how it is kept -/
def XC (X : (Nat → Prop) → State → Heap → Prop) : Prop := (∀ (A : Nat → Prop) (U : State) (H : Heap) (g : JFrame) (mk : MethodId) (v : Array Value), X A U H → X A (U.calling g mk v) H) ∧
  ∀ (A B : Nat → Prop) (s U : State) (H H' : Heap), X A s H → s.WarmedH U.vm → (∀ q, B q → A q) → (∀ q : Nat, q < H.size → ¬ A q → H'[q]? = H[q]?) → X B U H'
def AA (T : Nat → ClassId) (a : Nat → Nat) (L : List Kd) (M : Mem) (sz : Nat) : Nat → Prop := va_A (wld T a L M) sz
def Pm (X : (Nat → Prop) → State → Heap → Prop) (D : va_G) (T : Nat → ClassId) (a : Nat → Nat) (L : List Kd) (M : Mem) (sz : Nat) (U : State) : Prop :=
  U.heap.size = sz ∧ va_P D vwCl (wld T a L M) U.heap ∧ va_K D vwCl (tysT T) U ∧ va_D (fun _ => True) (wld T a L M) ∧ X (AA T a L M sz) U U.heap
def Em (D : va_G) (T : Nat → ClassId) (a : Nat → Nat) (L : List Kd) (M : Mem) (t : State) : Prop := va_P D vwCl (wld T a L M) t.heap
def CtI (X : (Nat → Prop) → State → Heap → Prop) (l : Launch) (y : MethodName) (ws : List Cond) (rm : Room) (L : List Kd) (a : Nat → Nat) (M : Mem) (vs : List Value) (Qf : Int → Mem → Prop) : Prop :=
  ∀ (D : va_G) (T : Nat → ClassId) (sz : Nat), Met l y ws rm (va_Pc vs (Pm X D T a L M sz)) (va_Qi (fun (r : Int32) (M' : Mem) => ∃ z : Int, r = iI z ∧ Qf z M') (Em D T a L) (AA T a L M sz)) 0 0 (AA T a L M sz)
def CtJ (X : (Nat → Prop) → State → Heap → Prop) (l : Launch) (y : MethodName) (ws : List Cond) (rm : Room) (L : List Kd) (a : Nat → Nat) (M : Mem) (vs : List Value) (Qf : Int → Mem → Prop) : Prop :=
  ∀ (D : va_G) (T : Nat → ClassId) (sz : Nat), Met l y ws rm (va_Pc vs (Pm X D T a L M sz)) (va_Ql (fun (r : Int64) (M' : Mem) => ∃ z : Int, r = lI z ∧ Qf z M') (Em D T a L) (AA T a L M sz)) 0 0 (AA T a L M sz)
def CtV (X : (Nat → Prop) → State → Heap → Prop) (l : Launch) (y : MethodName) (ws : List Cond) (rm : Room) (L : List Kd) (a : Nat → Nat) (M : Mem) (vs : List Value) (Qf : Mem → Prop) : Prop :=
  ∀ (D : va_G) (T : Nat → ClassId) (sz : Nat), Met l y ws rm (va_Pc vs (Pm X D T a L M sz)) (va_Qv (fun (M' : Mem) => Qf M') (Em D T a L) (AA T a L M sz)) 0 0 (AA T a L M sz)
/-- a static method that touches nothing -/
def CtP (l : Launch) (y : MethodName) (ws : List Cond) (rm : Room) (vs : List Value) (z : Int) : Prop :=
  ∀ (sz : Nat), Met l y ws rm (va_Pc vs (fun U => U.heap.size = sz)) (va_Qi (fun (r : Int32) (_ : Unit) => r = iI z) (fun _ _ => True) (fun _ => False)) 0 0 (fun _ => False)
theorem CtI.mono {X : (Nat → Prop) → State → Heap → Prop} {l : Launch} {y : MethodName} {ws : List Cond} {rm : Room} {L : List Kd} {a : Nat → Nat} {M : Mem} {vs : List Value} {Q1 Q2 : Int → Mem → Prop} (h : CtI X l y ws rm L a M vs Q1) (hq : ∀ z M', Q1 z M' → Q2 z M') : CtI X l y ws rm L a M vs Q2 := by
  intro D T sz p e ha hc hk s m args below hf happ hpre hK
  obtain ⟨t, o, h1, h2, h3, ⟨⟨⟨r, u, g1, ⟨z, g2, g3⟩, g4⟩, g5⟩, g6⟩⟩ := h D T sz p e ha hc hk s m args below hf happ hpre hK
  exact ⟨t, o, h1, h2, h3, ⟨⟨⟨r, u, g1, ⟨z, g2, hq z u g3⟩, g4⟩, g5⟩, g6⟩⟩
def PI (D : va_G) (T : Nat → ClassId) (a : Nat → Nat) (L : List Kd) (M : Mem) (Qf : Int → Mem → Prop) (below : List Frame) (args : Array Value) (s : State) : State → Prop :=
  MQ below (va_Qi (fun (r : Int32) (M' : Mem) => ∃ z : Int, r = iI z ∧ Qf z M') (Em D T a L) (AA T a L M s.heap.size)) args s 0 0 (AA T a L M s.heap.size)
def PJ (D : va_G) (T : Nat → ClassId) (a : Nat → Nat) (L : List Kd) (M : Mem) (Qf : Int → Mem → Prop) (below : List Frame) (args : Array Value) (s : State) : State → Prop :=
  MQ below (va_Ql (fun (r : Int64) (M' : Mem) => ∃ z : Int, r = lI z ∧ Qf z M') (Em D T a L) (AA T a L M s.heap.size)) args s 0 0 (AA T a L M s.heap.size)
def PV (D : va_G) (T : Nat → ClassId) (a : Nat → Nat) (L : List Kd) (M : Mem) (Qf : Mem → Prop) (below : List Frame) (args : Array Value) (s : State) : State → Prop :=
  MQ below (va_Qv (fun (M' : Mem) => Qf M') (Em D T a L) (AA T a L M s.heap.size)) args s 0 0 (AA T a L M s.heap.size)
def PP (z : Int) (below : List Frame) (args : Array Value) (s : State) : State → Prop :=
  MQ below (va_Qi (fun (r : Int32) (_ : Unit) => r = iI z) (fun _ _ => True) (fun _ => False)) args s 0 0 (fun _ => False)
def lvOK (lv : List (Option Value)) (vs : List Value) : Prop := ∀ (i : Nat) (v : Value), lv[i]? = some (some v) → (i, v) ∈ lv_args 0 vs
theorem lh_entry {vs : List Value} {n : Nat} {lv : List (Option Value)} (h : (lg_sl vs).length ≤ n) (hv : lvOK lv vs) : lh ((lg_sl vs ++ List.replicate (n - (lg_sl vs).length) Slot.unset).toArray) n lv := by
  have h1 := lv_entry vs h
  exact ⟨h1.1, h1.2.1, fun q hq => h1.2.2 q (by obtain ⟨i, v⟩ := q; exact hv i v (asL_mem.mp hq))⟩
section ENTRY
variable {X : (Nat → Prop) → State → Heap → Prop} {l : Launch} {y : MethodName} {ws ws' : List Cond} {rm : Room} {L : List Kd} {a : Nat → Nat} {M : Mem} {vs : List Value} {cc : ByteArray} {maxL : Nat} {ret : Option FieldType} {lv : List (Option Value)}
theorem CtI.of {Qf : Int → Mem → Prop} (hy : plainName y.cls = true) (hw : ws = Cond.code y cc maxL ret :: ws') (hn : (lg_sl vs).length ≤ maxL) (hv : lvOK lv vs)
    (body : ∀ (p : Program) (e : Env) (s : State) (m : MethodId) (below : List Frame) (meth : Method) (c : Code) (D : va_G) (T : Nat → ClassId), CallFix p m c cc maxL s vs.toArray ws y.cls → va_K D vwCl (tysT T) s → X (AA T a L M s.heap.size) s s.heap → meth.sig.returnType = ret → meth.locks = false → GG p l e rm s m vs.toArray below meth c (PI D T a L M Qf below vs.toArray s) D (AA T a L M s.heap.size) maxL (wld T a L M) 0 lv []) : CtI X l y ws rm L a M vs Qf := by
  intro D T sz
  refine Met.ofW (cc := cc) (maxL := maxL) (ret := ret) hy hw ?_
  intro p e s m args below meth c s₁ B hml hv'
  obtain ⟨rfl, hsz, hP, hK, hD0, hX⟩ := hv'
  subst hsz
  have hD : va_D (AA T a L M s.heap.size) (wld T a L M) := hD0.self (sz := s.heap.size)
  have hown : s.vm.findClass y.cls = some m.cls := findClass_of_methodNamed B.named
  have k := body p e s m below meth c D T ⟨B.exec, B.bytes, hml, hown, atoms_spec (ws := ws) B.pre⟩ hK hX B.returns B.notSynchronized
  rw [lg_entry_eq]
  exact k s.heap [] _ hP hD va_S.rf (lh_entry hn hv)
theorem CtJ.of {Qf : Int → Mem → Prop} (hy : plainName y.cls = true) (hw : ws = Cond.code y cc maxL ret :: ws') (hn : (lg_sl vs).length ≤ maxL) (hv : lvOK lv vs)
    (body : ∀ (p : Program) (e : Env) (s : State) (m : MethodId) (below : List Frame) (meth : Method) (c : Code) (D : va_G) (T : Nat → ClassId), CallFix p m c cc maxL s vs.toArray ws y.cls → va_K D vwCl (tysT T) s → X (AA T a L M s.heap.size) s s.heap → meth.sig.returnType = ret → meth.locks = false → GG p l e rm s m vs.toArray below meth c (PJ D T a L M Qf below vs.toArray s) D (AA T a L M s.heap.size) maxL (wld T a L M) 0 lv []) : CtJ X l y ws rm L a M vs Qf := by
  intro D T sz
  refine Met.ofW (cc := cc) (maxL := maxL) (ret := ret) hy hw ?_
  intro p e s m args below meth c s₁ B hml hv'
  obtain ⟨rfl, hsz, hP, hK, hD0, hX⟩ := hv'
  subst hsz
  have hD : va_D (AA T a L M s.heap.size) (wld T a L M) := hD0.self (sz := s.heap.size)
  have hown : s.vm.findClass y.cls = some m.cls := findClass_of_methodNamed B.named
  have k := body p e s m below meth c D T ⟨B.exec, B.bytes, hml, hown, atoms_spec (ws := ws) B.pre⟩ hK hX B.returns B.notSynchronized
  rw [lg_entry_eq]
  exact k s.heap [] _ hP hD va_S.rf (lh_entry hn hv)
theorem CtV.of {Qf : Mem → Prop} (hy : plainName y.cls = true) (hw : ws = Cond.code y cc maxL ret :: ws') (hn : (lg_sl vs).length ≤ maxL) (hv : lvOK lv vs)
    (body : ∀ (p : Program) (e : Env) (s : State) (m : MethodId) (below : List Frame) (meth : Method) (c : Code) (D : va_G) (T : Nat → ClassId), CallFix p m c cc maxL s vs.toArray ws y.cls → va_K D vwCl (tysT T) s → X (AA T a L M s.heap.size) s s.heap → meth.sig.returnType = ret → meth.locks = false → GG p l e rm s m vs.toArray below meth c (PV D T a L M Qf below vs.toArray s) D (AA T a L M s.heap.size) maxL (wld T a L M) 0 lv []) : CtV X l y ws rm L a M vs Qf := by
  intro D T sz
  refine Met.ofW (cc := cc) (maxL := maxL) (ret := ret) hy hw ?_
  intro p e s m args below meth c s₁ B hml hv'
  obtain ⟨rfl, hsz, hP, hK, hD0, hX⟩ := hv'
  subst hsz
  have hD : va_D (AA T a L M s.heap.size) (wld T a L M) := hD0.self (sz := s.heap.size)
  have hown : s.vm.findClass y.cls = some m.cls := findClass_of_methodNamed B.named
  have k := body p e s m below meth c D T ⟨B.exec, B.bytes, hml, hown, atoms_spec (ws := ws) B.pre⟩ hK hX B.returns B.notSynchronized
  rw [lg_entry_eq]
  exact k s.heap [] _ hP hD va_S.rf (lh_entry hn hv)
theorem CtP.of {z : Int} (hy : plainName y.cls = true) (hw : ws = Cond.code y cc maxL ret :: ws') (hn : (lg_sl vs).length ≤ maxL) (hv : lvOK lv vs)
    (body : ∀ (p : Program) (e : Env) (s : State) (m : MethodId) (below : List Frame) (meth : Method) (c : Code) (D : va_G), CallFix p m c cc maxL s vs.toArray ws y.cls → meth.sig.returnType = ret → meth.locks = false → GG p l e rm s m vs.toArray below meth c (PP z below vs.toArray s) D (fun _ => False) maxL [] 0 lv []) : CtP l y ws rm vs z := by
  intro sz
  refine Met.ofW (cc := cc) (maxL := maxL) (ret := ret) hy hw ?_
  intro p e s m args below meth c s₁ B hml hv'
  obtain ⟨rfl, hsz⟩ := hv'
  have hown : s.vm.findClass y.cls = some m.cls := findClass_of_methodNamed B.named
  have k := body p e s m below meth c ((fun _ => 0), fun _ _ => 0) ⟨B.exec, B.bytes, hml, hown, atoms_spec (ws := ws) B.pre⟩ B.returns B.notSynchronized
  rw [lg_entry_eq]
  exact k s.heap [] _ (fun k q h => by simp at h) ⟨fun i j p q h => by simp at h, fun k q h => by simp at h⟩ va_S.rf (lh_entry hn hv)
end ENTRY
section EXIT
variable {p : Program} {l : Launch} {e : Env} {R : Room} {s : State} {m : MethodId} {args : Array Value} {below : List Frame} {meth : Method} {c : Code} {D : va_G} {nL : Nat} {pc : Nat} {lv : List (Option Value)} {cc : ByteArray} {Ts : List Cond} {own : String} {T : Nat → ClassId} {a : Nat → Nat} {L : List Kd} {M M0 : Mem}
theorem g_iret (F : CallFix p m c cc nL s args Ts own) {Qf : Int → Mem → Prop} {z : Int} (hr : meth.sig.returnType = some .int) (hlk : meth.locks = false) (hdg : decode cc pc = .ok (.ireturn, 1)) (hq : Qf z M) : GG p l e R s m args below meth c (PI D T a L M0 Qf below args s) D (AA T a L M0 s.heap.size) nL (wld T a L M) pc lv [.int (iI z)] :=
  fun H locs ls hP hD hS h => W.iret F.1 F.2.1 hr (fun t ht hW => ⟨⟨iI z, M, rfl, ⟨z, rfl, hq⟩, (by show va_P D vwCl (wld T a L M) t.heap; rw [ht]; exact hP)⟩, hS.F ht⟩) hS.2.2 hdg hlk
theorem nar_zb {v : Int} (hv : v = 0 ∨ v = 1) : narrow .boolean (.int (iI v)) = .int (iI v) := by rcases hv with rfl | rfl <;> decide +kernel
theorem g_zret (F : CallFix p m c cc nL s args Ts own) {Qf : Int → Mem → Prop} {z : Int} (hr : meth.sig.returnType = some .boolean) (hlk : meth.locks = false) (hdg : decode cc pc = .ok (.ireturn, 1)) (hz : z = 0 ∨ z = 1) (hq : Qf z M) : GG p l e R s m args below meth c (PI D T a L M0 Qf below args s) D (AA T a L M0 s.heap.size) nL (wld T a L M) pc lv [.int (iI z)] :=
  fun H locs ls hP hD hS h => W.zret F.1 F.2.1 hr (nar_zb hz) (fun t ht hW => ⟨⟨iI z, M, rfl, ⟨z, rfl, hq⟩, (by show va_P D vwCl (wld T a L M) t.heap; rw [ht]; exact hP)⟩, hS.F ht⟩) hS.2.2 hdg hlk
theorem g_lret (F : CallFix p m c cc nL s args Ts own) {Qf : Int → Mem → Prop} {z : Int} (hr : meth.sig.returnType = some .long) (hlk : meth.locks = false) (hdg : decode cc pc = .ok (.lreturn, 1)) (hq : Qf z M) : GG p l e R s m args below meth c (PJ D T a L M0 Qf below args s) D (AA T a L M0 s.heap.size) nL (wld T a L M) pc lv [.long (lI z)] :=
  fun H locs ls hP hD hS h => W.lret F.1 F.2.1 hr (fun t ht hW => ⟨⟨lI z, M, rfl, ⟨z, rfl, hq⟩, (by show va_P D vwCl (wld T a L M) t.heap; rw [ht]; exact hP)⟩, hS.F ht⟩) hS.2.2 hdg hlk
theorem g_vret (F : CallFix p m c cc nL s args Ts own) {Qf : Mem → Prop} (hr : meth.sig.returnType = none) (hlk : meth.locks = false) (hdg : decode cc pc = .ok (.return_, 1)) (hq : Qf M) : GG p l e R s m args below meth c (PV D T a L M0 Qf below args s) D (AA T a L M0 s.heap.size) nL (wld T a L M) pc lv [] :=
  fun H locs ls hP hD hS h => W.vret F.1 F.2.1 hr (fun t ht hW => ⟨⟨M, rfl, hq, (by show va_P D vwCl (wld T a L M) t.heap; rw [ht]; exact hP)⟩, hS.F ht⟩) hS.2.2 hdg hlk
theorem g_piret (F : CallFix p m c cc nL s args Ts own) {z z0 : Int} (hr : meth.sig.returnType = some .int) (hlk : meth.locks = false) (hdg : decode cc pc = .ok (.ireturn, 1)) (hq : z = z0) : GG p l e R s m args below meth c (PP z0 below args s) D (fun _ => False) nL [] pc lv [.int (iI z)] :=
  fun H locs ls hP hD hS h => W.iret F.1 F.2.1 hr (fun t ht hW => ⟨⟨iI z, (), rfl, by rw [hq], trivial⟩, hS.F ht⟩) hS.2.2 hdg hlk
theorem g_pzret (F : CallFix p m c cc nL s args Ts own) {z z0 : Int} (hr : meth.sig.returnType = some .boolean) (hlk : meth.locks = false) (hdg : decode cc pc = .ok (.ireturn, 1)) (hz : z = 0 ∨ z = 1) (hq : z = z0) : GG p l e R s m args below meth c (PP z0 below args s) D (fun _ => False) nL [] pc lv [.int (iI z)] :=
  fun H locs ls hP hD hS h => W.zret F.1 F.2.1 hr (nar_zb hz) (fun t ht hW => ⟨⟨iI z, (), rfl, by rw [hq], trivial⟩, hS.F ht⟩) hS.2.2 hdg hlk
end EXIT
section CALLS
variable {X : (Nat → Prop) → State → Heap → Prop} {p : Program} {l : Launch} {e : Env} {R : Room} {s : State} {m : MethodId} {args : Array Value} {below : List Frame} {meth : Method} {c : Code} {Q : State → Prop}
variable {D : va_G} {A : Nat → Prop} {nL : Nat} {ws : va_W} {pc pc' tgt : Nat} {lv lv' : List (Option Value)} {st st0 : List Value} {cc : ByteArray} {Ts : List Cond} {own : String} {T : Nat → ClassId} {a : Nat → Nat} {L : List Kd} {M M0 : Mem}
theorem Pm_blind (hX : XC X) (vs : List Value) (sz : Nat) : FrameBlind (va_Pc vs (Pm X D T a L M sz)) := by
  intro v U g mk q
  obtain ⟨q0, q1, q2, q3, q4, q5⟩ := q
  exact ⟨q0, q1, q2, va_K.moved (u := U) (U := U.calling g mk v) (Vm.Alike.refl U.vm) q3, q4, hX.1 _ _ _ _ _ _ q5⟩
theorem AA_in {M' : Mem} {H : Heap} {locs : List Loc} (hS : va_S (AA T a L M0 s.heap.size) s.heap H locs) (q : Nat) (h : AA T a L M' H.size q) : AA T a L M0 s.heap.size q := wld_A h hS.1
theorem Pm_at (hX : XC X) (K : va_K D vwCl (tysT T) s) (X0 : X (AA T a L M0 s.heap.size) s s.heap) {H : Heap} {locs : List Loc} (hP : va_P D vwCl (wld T a L M) H) (hD : va_D (AA T a L M0 s.heap.size) (wld T a L M)) (hS : va_S (AA T a L M0 s.heap.size) s.heap H locs) {U : State} (hU : U.heap = H) (hW : s.WarmedH U.vm) : Pm X D T a L M H.size U :=
  ⟨by rw [hU], by rw [hU]; exact hP, va_K.moved hW.alike K, hD.weaken (fun _ _ _ _ => trivial), hX.2 _ _ _ _ _ _ X0 hW (AA_in hS) (fun q h1 h2 => by rw [hU]; exact hS.2.1 q h1 h2)⟩
theorem Pm_pre (hX : XC X) (K : va_K D vwCl (tysT T) s) (X0 : X (AA T a L M0 s.heap.size) s s.heap) {H : Heap} {locs : List Loc} (hP : va_P D vwCl (wld T a L M) H) (hD : va_D (AA T a L M0 s.heap.size) (wld T a L M)) (hS : va_S (AA T a L M0 s.heap.size) s.heap H locs) {C : String} {Tt : u_T} {N r ci n : Nat} {fs : List Nat} {As : List Value} (hL : L[r]? = some (ci + 4, n, fs)) (hc : vwCl[ci]? = some (C, Tt, N)) : PreV s H C (a r) (va_Pc (.ref (a r) :: As) (Pm X D T a L M H.size)) As :=
  ⟨Pm_blind hX _ _, va_recv K hP hc (wld_at hL), fun U hU hW => ⟨rfl, Pm_at hX K X0 hP hD hS hU hW⟩⟩
theorem g_callI (F : CallFix p m c cc nL s args Ts own) (K : va_K D vwCl (tysT T) s) (hX : XC X) (X0 : X (AA T a L M0 s.heap.size) s s.heap) {y : MethodName} {ws' : List Cond} {rm : Room} {bytes : ByteArray} {maxL index n r ci n0 N : Nat} {ret : Option FieldType} {C : String} {Tt : u_T} {fs : List Nat} {As : List Value} {Qf : Int → Mem → Prop} (hct : CtI X l y ws' rm L a M (.ref (a r) :: As) Qf) (cw : CallW R s args own C index y bytes maxL ret ws' rm 0 0 n) (hL : L[r]? = some (ci + 4, n0, fs)) (hc : vwCl[ci]? = some (C, Tt, N)) (hn : As.length = n) (hst : st0 = As.reverse ++ .ref (a r) :: st) (hroom : (st.map fun v => v.category).sum ≤ 8) (hdg : decode cc pc = .ok (.invokevirtual index, 3)) (hp : pc + 3 = pc')
    (kk : ∀ (z : Int) (M' : Mem), Qf z M' → GG p l e R s m args below meth c Q D (AA T a L M0 s.heap.size) nL (wld T a L M') pc' lv (.int (iI z) :: st)) : GG p l e R s m args below meth c Q D (AA T a L M0 s.heap.size) nL (wld T a L M) pc lv st0 := by
  subst hp; subst hst
  intro H locs ls hP hD hS h
  refine va_calli (va_runV (As := As) (rest := st) F (hct D T H.size) cw (Pm_pre hX K X0 hP hD hS hL hc) rfl hn h.1 rfl (lv_room hroom) hdg ⟨Nat.zero_le _, Nat.zero_le _⟩) hS (fun q _ h => AA_in hS q h) (fun q h => AA_in hS q h) (fun r u t H1 locs1 ht hvm hw hB hz hk hS1 => ?_)
  obtain ⟨z, rfl, hq⟩ := hw
  exact kk z u hq H1 locs1 ls (by rw [← ht]; exact hB) (wld_D hD) hS1 h
theorem g_callJ (F : CallFix p m c cc nL s args Ts own) (K : va_K D vwCl (tysT T) s) (hX : XC X) (X0 : X (AA T a L M0 s.heap.size) s s.heap) {y : MethodName} {ws' : List Cond} {rm : Room} {bytes : ByteArray} {maxL index n r ci n0 N : Nat} {ret : Option FieldType} {C : String} {Tt : u_T} {fs : List Nat} {As : List Value} {Qf : Int → Mem → Prop} (hct : CtJ X l y ws' rm L a M (.ref (a r) :: As) Qf) (cw : CallW R s args own C index y bytes maxL ret ws' rm 0 0 n) (hL : L[r]? = some (ci + 4, n0, fs)) (hc : vwCl[ci]? = some (C, Tt, N)) (hn : As.length = n) (hst : st0 = As.reverse ++ .ref (a r) :: st) (hroom : (st.map fun v => v.category).sum ≤ 8) (hdg : decode cc pc = .ok (.invokevirtual index, 3)) (hp : pc + 3 = pc')
    (kk : ∀ (z : Int) (M' : Mem), Qf z M' → GG p l e R s m args below meth c Q D (AA T a L M0 s.heap.size) nL (wld T a L M') pc' lv (.long (lI z) :: st)) : GG p l e R s m args below meth c Q D (AA T a L M0 s.heap.size) nL (wld T a L M) pc lv st0 := by
  subst hp; subst hst
  intro H locs ls hP hD hS h
  refine va_calll (va_runV (As := As) (rest := st) F (hct D T H.size) cw (Pm_pre hX K X0 hP hD hS hL hc) rfl hn h.1 rfl (lv_room hroom) hdg ⟨Nat.zero_le _, Nat.zero_le _⟩) hS (fun q _ h => AA_in hS q h) (fun q h => AA_in hS q h) (fun r u t H1 locs1 ht hvm hw hB hz hk hS1 => ?_)
  obtain ⟨z, rfl, hq⟩ := hw
  exact kk z u hq H1 locs1 ls (by rw [← ht]; exact hB) (wld_D hD) hS1 h
theorem g_callV (F : CallFix p m c cc nL s args Ts own) (K : va_K D vwCl (tysT T) s) (hX : XC X) (X0 : X (AA T a L M0 s.heap.size) s s.heap) {y : MethodName} {ws' : List Cond} {rm : Room} {bytes : ByteArray} {maxL index n r ci n0 N : Nat} {ret : Option FieldType} {C : String} {Tt : u_T} {fs : List Nat} {As : List Value} {Qf : Mem → Prop} (hct : CtV X l y ws' rm L a M (.ref (a r) :: As) Qf) (cw : CallW R s args own C index y bytes maxL ret ws' rm 0 0 n) (hL : L[r]? = some (ci + 4, n0, fs)) (hc : vwCl[ci]? = some (C, Tt, N)) (hn : As.length = n) (hst : st0 = As.reverse ++ .ref (a r) :: st) (hroom : (st.map fun v => v.category).sum ≤ 8) (hdg : decode cc pc = .ok (.invokevirtual index, 3)) (hp : pc + 3 = pc')
    (kk : ∀ (M' : Mem), Qf M' → GG p l e R s m args below meth c Q D (AA T a L M0 s.heap.size) nL (wld T a L M') pc' lv st) : GG p l e R s m args below meth c Q D (AA T a L M0 s.heap.size) nL (wld T a L M) pc lv st0 := by
  subst hp; subst hst
  intro H locs ls hP hD hS h
  refine va_callv (va_runV (As := As) (rest := st) F (hct D T H.size) cw (Pm_pre hX K X0 hP hD hS hL hc) rfl hn h.1 rfl (lv_room hroom) hdg ⟨Nat.zero_le _, Nat.zero_le _⟩) hS (fun q _ h => AA_in hS q h) (fun q h => AA_in hS q h) (fun u t H1 locs1 ht hvm hw hB hz hk hS1 => ?_)
  exact kk u hw H1 locs1 ls (by rw [← ht]; exact hB) (wld_D hD) hS1 h
theorem Pp_pre {H : Heap} {As : List Value} : PreS s H (va_Pc As (fun U => U.heap.size = H.size)) As := ⟨fun _ _ _ _ q => q, fun U hU _ => ⟨rfl, by show U.heap.size = H.size; rw [hU]⟩⟩
theorem g_callP (F : CallFix p m c cc nL s args Ts own) {y : MethodName} {ws' : List Cond} {rm : Room} {bytes : ByteArray} {maxL index n : Nat} {ret : Option FieldType} {As : List Value} {z : Int} (hct : CtP l y ws' rm As z) (cw : CallB R s args own index y bytes maxL ret ws' rm 0 0 n ∧ (Cond.static y).before args s = true) (hn : As.length = n) (hst : st0 = As.reverse ++ st) (hroom : (st.map fun v => v.category).sum ≤ 8) (hdg : decode cc pc = .ok (.invokestatic index, 3)) (hp : pc + 3 = pc')
    (kk : GG p l e R s m args below meth c Q D A nL ws pc' lv (.int (iI z) :: st)) : GG p l e R s m args below meth c Q D A nL ws pc lv st0 := by
  subst hp; subst hst
  intro H locs ls hP hD hS h
  refine va_calli (va_runS (As := As) (rest := st) F (hct H.size) cw Pp_pre rfl hn h.1 rfl (lv_room hroom) hdg ⟨Nat.zero_le _, Nat.zero_le _⟩) hS (fun q _ h => False.elim h) (fun q h => False.elim h) (fun r u t H1 locs1 ht hvm hw hB hz hk hS1 => ?_)
  subst hw
  exact kk H1 locs1 ls (hP.kept (fun k q hq => hk q.1 ((hP k q hq).lt) (fun h => h))) hD hS1 h
theorem g_callPN (F : CallFix p m c cc nL s args Ts own) {y : MethodName} {ws' : List Cond} {rm : Room} {bytes : ByteArray} {maxL index n : Nat} {host : String} {ret : Option FieldType} {As : List Value} {z : Int} (hct : CtP l y ws' rm As z) (cw : va_CN R s args own index y host bytes maxL ret ws' rm 0 0 n ∧ (Cond.static y).before args s = true ∧ True) (hn : As.length = n) (hst : st0 = As.reverse ++ st) (hroom : (st.map fun v => v.category).sum ≤ 8) (hdg : decode cc pc = .ok (.invokestatic index, 3)) (hp : pc + 3 = pc')
    (kk : GG p l e R s m args below meth c Q D A nL ws pc' lv (.int (iI z) :: st)) : GG p l e R s m args below meth c Q D A nL ws pc lv st0 := by
  subst hp; subst hst
  intro H locs ls hP hD hS h
  refine va_calli (va_runSN (As := As) (rest := st) F (hct H.size) cw Pp_pre rfl hn h.1 rfl (lv_room hroom) hdg ⟨Nat.zero_le _, Nat.zero_le _⟩) hS (fun q _ h => False.elim h) (fun q h => False.elim h) (fun r u t H1 locs1 ht hvm hw hB hz hk hS1 => ?_)
  subst hw
  exact kk H1 locs1 ls (hP.kept (fun k q hq => hk q.1 ((hP k q hq).lt) (fun h => h))) hD hS1 h
theorem g_callIN (F : CallFix p m c cc nL s args Ts own) (K : va_K D vwCl (tysT T) s) (hX : XC X) (X0 : X (AA T a L M0 s.heap.size) s s.heap) {y : MethodName} {ws' : List Cond} {rm : Room} {bytes : ByteArray} {maxL index n r ci n0 N : Nat} {host : String} {ret : Option FieldType} {C : String} {Tt : u_T} {fs : List Nat} {As : List Value} {Qf : Int → Mem → Prop} (hct : CtI X l y ws' rm L a M (.ref (a r) :: As) Qf) (cw : va_CN R s args own index y host bytes maxL ret ws' rm 0 0 n ∧ (Cond.instanceMethod y).before args s = true ∧ (Cond.selects C y y).before args s = true) (hL : L[r]? = some (ci + 4, n0, fs)) (hc : vwCl[ci]? = some (C, Tt, N)) (hn : As.length = n) (hst : st0 = As.reverse ++ .ref (a r) :: st) (hroom : (st.map fun v => v.category).sum ≤ 8) (hdg : decode cc pc = .ok (.invokevirtual index, 3)) (hp : pc + 3 = pc')
    (kk : ∀ (z : Int) (M' : Mem), Qf z M' → GG p l e R s m args below meth c Q D (AA T a L M0 s.heap.size) nL (wld T a L M') pc' lv (.int (iI z) :: st)) : GG p l e R s m args below meth c Q D (AA T a L M0 s.heap.size) nL (wld T a L M) pc lv st0 := by
  subst hp; subst hst
  intro H locs ls hP hD hS h
  refine va_calli (va_runVN (As := As) (rest := st) F (hct D T H.size) cw (Pm_pre hX K X0 hP hD hS hL hc) rfl hn h.1 rfl (lv_room hroom) hdg ⟨Nat.zero_le _, Nat.zero_le _⟩) hS (fun q _ h => AA_in hS q h) (fun q h => AA_in hS q h) (fun r u t H1 locs1 ht hvm hw hB hz hk hS1 => ?_)
  obtain ⟨z, rfl, hq⟩ := hw
  exact kk z u hq H1 locs1 ls (by rw [← ht]; exact hB) (wld_D hD) hS1 h
/-- Math of the JDK -/
theorem g_max (F : CallFix p m c cc nL s args Ts own) {index : Nat} {x y : Int} (hlink : Cond.methodLink own index Lib.Math.max.name ∈ Ts) (hstat : Cond.static Lib.Math.max.name ∈ Ts) (hini : Cond.initialized "java/lang/Math" ∈ Ts) (hcode : Cond.code Lib.Math.max.name Lib.Math.max.code 2 (some .int) ∈ Ts) (hframes : 1 ≤ R.frames) (hlocals : (st.map fun v => v.category).sum + 13 ≤ R.locals) (hx : -2147483648 ≤ x ∧ x < 2147483648) (hy : -2147483648 ≤ y ∧ y < 2147483648) (hdg : decode cc pc = .ok (.invokestatic index, 3)) (hp : pc + 3 = pc')
    (kk : GG p l e R s m args below meth c Q D A nL ws pc' lv (.int (iI (max x y)) :: st)) : GG p l e R s m args below meth c Q D A nL ws pc lv (.int (iI y) :: .int (iI x) :: st) := by
  subst hp
  intro H locs ls hP hD hS h
  refine va_mmax F.1 F.2.1 (F.2.2.1.trans h.1.symm) F.2.2.2.1 (F.2.2.2.2 _ hlink) (F.2.2.2.2 _ hstat) (F.2.2.2.2 _ hini) (F.2.2.2.2 _ hcode) hframes hlocals (Nat.zero_le _) (Nat.zero_le _) hdg ?_
  have e1 : (if iI x < iI y then iI y else iI x) = iI (max x y) := by
    simp only [iI_lt hx hy]
    split <;> congr 1 <;> omega
  rw [e1]
  exact kk H locs ls hP hD hS h
theorem g_min (F : CallFix p m c cc nL s args Ts own) {index : Nat} {x y : Int} (hlink : Cond.methodLink own index Lib.Math.min.name ∈ Ts) (hstat : Cond.static Lib.Math.min.name ∈ Ts) (hini : Cond.initialized "java/lang/Math" ∈ Ts) (hcode : Cond.code Lib.Math.min.name Lib.Math.min.code 2 (some .int) ∈ Ts) (hframes : 1 ≤ R.frames) (hlocals : (st.map fun v => v.category).sum + 13 ≤ R.locals) (hx : -2147483648 ≤ x ∧ x < 2147483648) (hy : -2147483648 ≤ y ∧ y < 2147483648) (hdg : decode cc pc = .ok (.invokestatic index, 3)) (hp : pc + 3 = pc')
    (kk : GG p l e R s m args below meth c Q D A nL ws pc' lv (.int (iI (min x y)) :: st)) : GG p l e R s m args below meth c Q D A nL ws pc lv (.int (iI y) :: .int (iI x) :: st) := by
  subst hp
  intro H locs ls hP hD hS h
  refine va_mmin F.1 F.2.1 (F.2.2.1.trans h.1.symm) F.2.2.2.1 (F.2.2.2.2 _ hlink) (F.2.2.2.2 _ hstat) (F.2.2.2.2 _ hini) (F.2.2.2.2 _ hcode) hframes hlocals (Nat.zero_le _) (Nat.zero_le _) hdg ?_
  have e1 : (if iI y < iI x then iI y else iI x) = iI (min x y) := by
    simp only [iI_lt hy hx]
    split <;> congr 1 <;> omega
  rw [e1]
  exact kk H locs ls hP hD hS h
theorem g_abs (F : CallFix p m c cc nL s args Ts own) {index : Nat} {x z : Int} (hlink : Cond.methodLink own index Lib.Math.abs.name ∈ Ts) (hstat : Cond.static Lib.Math.abs.name ∈ Ts) (hini : Cond.initialized "java/lang/Math" ∈ Ts) (hcode : Cond.code Lib.Math.abs.name Lib.Math.abs.code 1 (some .int) ∈ Ts) (hframes : 1 ≤ R.frames) (hlocals : (st.map fun v => v.category).sum + 13 ≤ R.locals) (hx : -2147483648 ≤ x ∧ x < 2147483648) (hz : z = if 0 ≤ x then x else -x) (hdg : decode cc pc = .ok (.invokestatic index, 3)) (hp : pc + 3 = pc')
    (kk : GG p l e R s m args below meth c Q D A nL ws pc' lv (.int (iI z) :: st)) : GG p l e R s m args below meth c Q D A nL ws pc lv (.int (iI x) :: st) := by
  subst hp; subst hz
  intro H locs ls hP hD hS h
  refine va_mabs F.1 F.2.1 (F.2.2.1.trans h.1.symm) F.2.2.2.1 (F.2.2.2.2 _ hlink) (F.2.2.2.2 _ hstat) (F.2.2.2.2 _ hini) (F.2.2.2.2 _ hcode) hframes hlocals (Nat.zero_le _) (Nat.zero_le _) hdg ?_
  have e1 : (if (0 : Int32) ≤ iI x then iI x else 0 - iI x) = iI (if 0 ≤ x then x else -x) := by
    have h0 : (0 : Int32) ≤ iI x ↔ 0 ≤ x := by rw [← iI_0]; exact iI_le (by omega) hx
    simp only [h0]
    split
    · rfl
    · rw [← iI_0, iI_sub, Int.zero_sub]
  rw [e1]
  exact kk H locs ls hP hD hS h
theorem g_maxL (F : CallFix p m c cc nL s args Ts own) {index : Nat} {x y : Int} (hlink : Cond.methodLink own index Lib.MathLoose.max_long.x ∈ Ts) (hstat : Cond.static Lib.MathLoose.max_long.x ∈ Ts) (hini : Cond.initialized "java/lang/Math" ∈ Ts) (hcode : Cond.code Lib.MathLoose.max_long.x Lib.MathLoose.max_long.code 4 (some .long) ∈ Ts) (hframes : 1 ≤ R.frames) (hlocals : (st.map fun v => v.category).sum + 15 ≤ R.locals) (hx : -9223372036854775808 ≤ x ∧ x < 9223372036854775808) (hy : -9223372036854775808 ≤ y ∧ y < 9223372036854775808) (hdg : decode cc pc = .ok (.invokestatic index, 3)) (hp : pc + 3 = pc')
    (kk : GG p l e R s m args below meth c Q D A nL ws pc' lv (.long (lI (max x y)) :: st)) : GG p l e R s m args below meth c Q D A nL ws pc lv (.long (lI y) :: .long (lI x) :: st) := by
  subst hp
  intro H locs ls hP hD hS h
  refine va_mmax_long F.1 F.2.1 (F.2.2.1.trans h.1.symm) F.2.2.2.1 (F.2.2.2.2 _ hlink) (F.2.2.2.2 _ hstat) (F.2.2.2.2 _ hini) (F.2.2.2.2 _ hcode) hframes hlocals (Nat.zero_le _) (Nat.zero_le _) hdg ?_
  have e1 : (if lI y < lI x then lI x else lI y) = lI (max x y) := by
    simp only [lI_lt hy hx]
    split <;> congr 1 <;> omega
  rw [e1]
  exact kk H locs ls hP hD hS h
theorem g_minL (F : CallFix p m c cc nL s args Ts own) {index : Nat} {x y : Int} (hlink : Cond.methodLink own index Lib.MathLoose.min_long.x ∈ Ts) (hstat : Cond.static Lib.MathLoose.min_long.x ∈ Ts) (hini : Cond.initialized "java/lang/Math" ∈ Ts) (hcode : Cond.code Lib.MathLoose.min_long.x Lib.MathLoose.min_long.code 4 (some .long) ∈ Ts) (hframes : 1 ≤ R.frames) (hlocals : (st.map fun v => v.category).sum + 15 ≤ R.locals) (hx : -9223372036854775808 ≤ x ∧ x < 9223372036854775808) (hy : -9223372036854775808 ≤ y ∧ y < 9223372036854775808) (hdg : decode cc pc = .ok (.invokestatic index, 3)) (hp : pc + 3 = pc')
    (kk : GG p l e R s m args below meth c Q D A nL ws pc' lv (.long (lI (min x y)) :: st)) : GG p l e R s m args below meth c Q D A nL ws pc lv (.long (lI y) :: .long (lI x) :: st) := by
  subst hp
  intro H locs ls hP hD hS h
  refine va_mmin_long F.1 F.2.1 (F.2.2.1.trans h.1.symm) F.2.2.2.1 (F.2.2.2.2 _ hlink) (F.2.2.2.2 _ hstat) (F.2.2.2.2 _ hini) (F.2.2.2.2 _ hcode) hframes hlocals (Nat.zero_le _) (Nat.zero_le _) hdg ?_
  have e1 : (if lI y < lI x then lI y else lI x) = lI (min x y) := by
    simp only [lI_lt hy hx]
    split <;> congr 1 <;> omega
  rw [e1]
  exact kk H locs ls hP hD hS h
end CALLS
