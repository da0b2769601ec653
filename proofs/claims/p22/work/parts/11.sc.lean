/-! ===== a memory with cells replaced ===== -/
def sc (M : Mem) (k : Nat) (f : Int → Int) : Mem := fun k' => if k' = k then f else M k'
def upf (f : Int → Int) (j z : Int) : Int → Int := fun i => if i = j then z else f i
theorem upf_s (f : Int → Int) (j z : Int) : upf f j z j = z := if_pos rfl
theorem upf_n {f : Int → Int} {j z i : Int} (h : i ≠ j) : upf f j z i = f i := if_neg h
theorem sc_s (M : Mem) (k : Nat) (f : Int → Int) : sc M k f k = f := if_pos rfl
theorem sc_n {M : Mem} {k j : Nat} {f : Int → Int} (h : j ≠ k) : sc M k f j = M j := if_neg h
theorem mem_up {M M2 : Mem} {k : Nat} {z v : Int} (hm : M2 k = upf (M k) z v) (ho : ∀ j, j ≠ k → M2 j = M j) : up M k z v = M2 := by
  funext j
  by_cases hj : j = k
  · subst hj
    rw [hm]
    funext i
    simp [up, upf]
  · rw [ho j hj, up_n hj]
section HROWS
variable {p : Program} {l : Launch} {e : Env} {R : Room} {s : State} {m : MethodId} {args : Array Value} {below : List Frame} {meth : Method} {c : Code} {Q : State → Prop}
variable {D : va_G} {A : Nat → Prop} {nL : Nat} {ws : va_W} {pc pc' tgt : Nat} {lv lv' : List (Option Value)} {st : List Value} {cc : ByteArray} {Ts : List Cond} {own : String} {T : Nat → ClassId} {a : Nat → Nat} {L : List Kd} {M M2 : Mem}
theorem h_mem (M2 : Mem) (h : M = M2) (kk : GG p l e R s m args below meth c Q D A nL (wld T a L M2) pc lv st) : GG p l e R s m args below meth c Q D A nL (wld T a L M) pc lv st := h ▸ kk
theorem h_putI (F : CallFix p m c cc nL s args Ts own) (K : va_K D vwCl (tysT T) s) {k fld ci n N index : Nat} {fs : List Nat} {C : String} {Tt : u_T} {z : Int} (M2 : Mem) (hM : up M k fld z = M2) (ty0 : Nat → FieldType) (hty : ∀ k, k < N → parseFieldDescriptor (Tt k).2.2.1 = some (ty0 k)) (hnm : ∀ a, a < N → ∀ b, b < N → a ≠ b → (Tt a).2.1 ≠ (Tt b).2.1) (hin : ∀ w ∈ u_ws C Tt N, w ∈ Ts) (hL : L[k]? = some (ci + 4, n, fs)) (hc : vwCl[ci]? = some (C, Tt, N)) (hf : fs[fld]? = some 0) (hk : fld < N) (hfin : (Tt fld).2.2.2 = false) (hd : (Tt fld).2.2.1 = "I") (hw : Cond.fieldLink own index (Tt fld).1 (Tt fld).2.1 (Tt fld).2.2.1 ∈ Ts) (hdg : decode cc pc = .ok (.putfield index, 3)) (hp : pc + 3 = pc')
    (kk : GG p l e R s m args below meth c Q D A nL (wld T a L M2) pc' lv st) : GG p l e R s m args below meth c Q D A nL (wld T a L M) pc lv (.int (iI z) :: .ref (a k) :: st) := by
  subst hM; exact g_putI F K ty0 hty hnm hin hL hc hf hk hfin hd hw hdg hp kk
theorem h_putJ (F : CallFix p m c cc nL s args Ts own) (K : va_K D vwCl (tysT T) s) {k fld ci n N index : Nat} {fs : List Nat} {C : String} {Tt : u_T} {z : Int} (M2 : Mem) (hM : up M k fld z = M2) (ty0 : Nat → FieldType) (hty : ∀ k, k < N → parseFieldDescriptor (Tt k).2.2.1 = some (ty0 k)) (hnm : ∀ a, a < N → ∀ b, b < N → a ≠ b → (Tt a).2.1 ≠ (Tt b).2.1) (hin : ∀ w ∈ u_ws C Tt N, w ∈ Ts) (hL : L[k]? = some (ci + 4, n, fs)) (hc : vwCl[ci]? = some (C, Tt, N)) (hf : fs[fld]? = some 1) (hk : fld < N) (hfin : (Tt fld).2.2.2 = false) (hd : (Tt fld).2.2.1 = "J") (hw : Cond.fieldLink own index (Tt fld).1 (Tt fld).2.1 (Tt fld).2.2.1 ∈ Ts) (hdg : decode cc pc = .ok (.putfield index, 3)) (hp : pc + 3 = pc')
    (kk : GG p l e R s m args below meth c Q D A nL (wld T a L M2) pc' lv st) : GG p l e R s m args below meth c Q D A nL (wld T a L M) pc lv (.long (lI z) :: .ref (a k) :: st) := by
  subst hM; exact g_putJ F K ty0 hty hnm hin hL hc hf hk hfin hd hw hdg hp kk
theorem h_iast (F : CallFix p m c cc nL s args Ts own) (K : va_K D vwCl (tysT T) s) {k n : Nat} {r : List Nat} {z v : Int} (M2 : Mem) (hM : up M k z v = M2) (hL : L[k]? = some (0, n, r)) (hn : n < 2147483648) (hz : 0 ≤ z ∧ z < (n : Int)) (hdg : decode cc pc = .ok (.iastore, 1)) (hp : pc + 1 = pc')
    (kk : GG p l e R s m args below meth c Q D A nL (wld T a L M2) pc' lv st) : GG p l e R s m args below meth c Q D A nL (wld T a L M) pc lv (.int (iI v) :: .int (iI z) :: .ref (a k) :: st) := by
  subst hM; exact g_iast F K hL hn hz hdg hp kk
theorem h_last (F : CallFix p m c cc nL s args Ts own) (K : va_K D vwCl (tysT T) s) {k n : Nat} {r : List Nat} {z v : Int} (M2 : Mem) (hM : up M k z v = M2) (hL : L[k]? = some (1, n, r)) (hn : n < 2147483648) (hz : 0 ≤ z ∧ z < (n : Int)) (hdg : decode cc pc = .ok (.lastore, 1)) (hp : pc + 1 = pc')
    (kk : GG p l e R s m args below meth c Q D A nL (wld T a L M2) pc' lv st) : GG p l e R s m args below meth c Q D A nL (wld T a L M) pc lv (.long (lI v) :: .int (iI z) :: .ref (a k) :: st) := by
  subst hM; exact g_last F K hL hn hz hdg hp kk
theorem h_zast (F : CallFix p m c cc nL s args Ts own) (K : va_K D vwCl (tysT T) s) {k n : Nat} {r : List Nat} {z v : Int} (M2 : Mem) (hM : up M k z v = M2) (hL : L[k]? = some (2, n, r)) (hn : n < 2147483648) (hz : 0 ≤ z ∧ z < (n : Int)) (hb : v = 0 ∨ v = 1) (hdg : decode cc pc = .ok (.bastore, 1)) (hp : pc + 1 = pc')
    (kk : GG p l e R s m args below meth c Q D A nL (wld T a L M2) pc' lv st) : GG p l e R s m args below meth c Q D A nL (wld T a L M) pc lv (.int (iI v) :: .int (iI z) :: .ref (a k) :: st) := by
  subst hM; exact g_zast F K hL hn hz hb hdg hp kk
end HROWS
theorem sc_id (M : Mem) (k : Nat) : sc M k (M k) = M := by
  funext j
  by_cases h : j = k
  · subst h; exact sc_s _ _ _
  · exact sc_n h
theorem upf_w (f : Int → Int) (j x y : Int) : upf (upf f j x) j y = upf f j y := by
  funext i; simp only [upf]; split <;> rfl

