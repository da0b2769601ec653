/-! ===== rows of the law's own body: cells and slots are counted ===== -/
def KK (kc ks : Nat) (p : Program) (l : Launch) (e : Env) (R : Room) (s : State) (m : MethodId) (args : Array Value) (below : List Frame) (meth : Method) (c : Code) (Q : State → Prop) (D : va_G) (A : Nat → Prop) (nL : Nat) (ws : va_W) (pc : Nat) (lv : List (Option Value)) (st : List Value) : Prop :=
  ∀ (H : Heap) (locs : List Loc) (ls : Array Slot), va_P D vwCl ws H → va_D A ws → va_S A s.heap H locs → lh ls nL lv → W p l e R s m args below meth c H locs kc ks Q (F0 m pc ls st)
section KROWS
variable {kc ks : Nat} {p : Program} {l : Launch} {e : Env} {R : Room} {s : State} {m : MethodId} {args : Array Value} {below : List Frame} {meth : Method} {c : Code} {Q : State → Prop}
variable {D : va_G} {A : Nat → Prop} {nL : Nat} {ws : va_W} {pc pc' tgt : Nat} {lv lv' : List (Option Value)} {st : List Value} {cc : ByteArray} {Ts : List Cond} {own : String} {T : Nat → ClassId} {a : Nat → Nat} {L : List Kd} {M : Mem}
theorem k_iconst (F : CallFix p m c cc nL s args Ts own) {n : Int} (hdg : decode cc pc = .ok (.iconst n, 1)) (hp : pc + 1 = pc') (k : KK kc ks p l e R s m args below meth c Q D A nL ws pc' lv (.int (iI n) :: st)) : KK kc ks p l e R s m args below meth c Q D A nL ws pc lv st := by
  subst hp; exact fun H locs ls hP hD hS hl => lv_iconst F.1 F.2.1 hdg rfl (k H locs ls hP hD hS hl)
theorem k_bipush (F : CallFix p m c cc nL s args Ts own) {n : Int} (hdg : decode cc pc = .ok (.bipush n, 2)) (hp : pc + 2 = pc') (hv : (Int8.ofInt n).toInt32 = iI n) (k : KK kc ks p l e R s m args below meth c Q D A nL ws pc' lv (.int (iI n) :: st)) : KK kc ks p l e R s m args below meth c Q D A nL ws pc lv st := by
  subst hp; exact fun H locs ls hP hD hS hl => lv_bipush F.1 F.2.1 hdg hv (k H locs ls hP hD hS hl)
theorem k_sipush (F : CallFix p m c cc nL s args Ts own) {n : Int} (hdg : decode cc pc = .ok (.sipush n, 3)) (hp : pc + 3 = pc') (hv : (Int16.ofInt n).toInt32 = iI n) (k : KK kc ks p l e R s m args below meth c Q D A nL ws pc' lv (.int (iI n) :: st)) : KK kc ks p l e R s m args below meth c Q D A nL ws pc lv st := by
  subst hp; exact fun H locs ls hP hD hS hl => lv_sipush F.1 F.2.1 hdg hv (k H locs ls hP hD hS hl)
theorem k_lconst (F : CallFix p m c cc nL s args Ts own) {n : Fin 2} {z : Int} (hdg : decode cc pc = .ok (.lconst n, 1)) (hp : pc + 1 = pc') (hv : Int64.ofNat (n : Nat) = lI z) (k : KK kc ks p l e R s m args below meth c Q D A nL ws pc' lv (.long (lI z) :: st)) : KK kc ks p l e R s m args below meth c Q D A nL ws pc lv st := by
  subst hp; exact fun H locs ls hP hD hS hl => lv_lconst F.1 F.2.1 hdg hv (k H locs ls hP hD hS hl)
theorem k_ldc (F : CallFix p m c cc nL s args Ts own) {idx : Nat} {v : Int32} {z : Int} (hdg : decode cc pc = .ok (.ldc idx, 2)) (hp : pc + 2 = pc') (hw : Jvm.Cond.constant own idx v ∈ Ts) (hv : v = iI z) (k : KK kc ks p l e R s m args below meth c Q D A nL ws pc' lv (.int (iI z) :: st)) : KK kc ks p l e R s m args below meth c Q D A nL ws pc lv st := by
  subst hp; subst hv; exact fun H locs ls hP hD hS hl => lv_ldc F.1 F.2.1 F.2.2.2.1 (F.2.2.2.2 _ hw) hdg (k H locs ls hP hD hS hl)
theorem k_ldc2 (F : CallFix p m c cc nL s args Ts own) {idx : Nat} {v : Int64} {z : Int} (hdg : decode cc pc = .ok (.ldc2_w idx, 3)) (hp : pc + 3 = pc') (hw : Jvm.Cond.constantLong own idx v ∈ Ts) (hv : v = lI z) (k : KK kc ks p l e R s m args below meth c Q D A nL ws pc' lv (.long (lI z) :: st)) : KK kc ks p l e R s m args below meth c Q D A nL ws pc lv st := by
  subst hp; subst hv; exact fun H locs ls hP hD hS hl => lv_ldc2 F.1 F.2.1 F.2.2.2.1 (F.2.2.2.2 _ hw) hdg (k H locs ls hP hD hS hl)
theorem k_iload_n (F : CallFix p m c cc nL s args Ts own) {j : Fin 4} {x : Int32} (hdg : decode cc pc = .ok (.iload_n j, 1)) (hp : pc + 1 = pc') (hl : lv[(j : Nat)]? = some (some (.int x))) (k : KK kc ks p l e R s m args below meth c Q D A nL ws pc' lv (.int x :: st)) : KK kc ks p l e R s m args below meth c Q D A nL ws pc lv st := by
  subst hp; exact fun H locs ls hP hD hS h => lv_iload_n F.1 F.2.1 hdg rfl (lh_at h hl) (k H locs ls hP hD hS h)
theorem k_iload (F : CallFix p m c cc nL s args Ts own) {j : Nat} {x : Int32} (hdg : decode cc pc = .ok (.iload j, 2)) (hp : pc + 2 = pc') (hl : lv[j]? = some (some (.int x))) (k : KK kc ks p l e R s m args below meth c Q D A nL ws pc' lv (.int x :: st)) : KK kc ks p l e R s m args below meth c Q D A nL ws pc lv st := by
  subst hp; exact fun H locs ls hP hD hS h => lv_iload F.1 F.2.1 hdg (lh_at h hl) (k H locs ls hP hD hS h)
theorem k_lload_n (F : CallFix p m c cc nL s args Ts own) {j : Fin 4} {x : Int64} (hdg : decode cc pc = .ok (.lload_n j, 1)) (hp : pc + 1 = pc') (hl : lv[(j : Nat)]? = some (some (.long x))) (k : KK kc ks p l e R s m args below meth c Q D A nL ws pc' lv (.long x :: st)) : KK kc ks p l e R s m args below meth c Q D A nL ws pc lv st := by
  subst hp; exact fun H locs ls hP hD hS h => lv_lload_n F.1 F.2.1 hdg rfl (lh_at h hl) (k H locs ls hP hD hS h)
theorem k_lload (F : CallFix p m c cc nL s args Ts own) {j : Nat} {x : Int64} (hdg : decode cc pc = .ok (.lload j, 2)) (hp : pc + 2 = pc') (hl : lv[j]? = some (some (.long x))) (k : KK kc ks p l e R s m args below meth c Q D A nL ws pc' lv (.long x :: st)) : KK kc ks p l e R s m args below meth c Q D A nL ws pc lv st := by
  subst hp; exact fun H locs ls hP hD hS h => lv_lload F.1 F.2.1 hdg (lh_at h hl) (k H locs ls hP hD hS h)
theorem k_aload_n (F : CallFix p m c cc nL s args Ts own) {j : Fin 4} {x : Nat} (hdg : decode cc pc = .ok (.aload_n j, 1)) (hp : pc + 1 = pc') (hl : lv[(j : Nat)]? = some (some (.ref x))) (k : KK kc ks p l e R s m args below meth c Q D A nL ws pc' lv (.ref x :: st)) : KK kc ks p l e R s m args below meth c Q D A nL ws pc lv st := by
  subst hp; exact fun H locs ls hP hD hS h => lv_aload_n F.1 F.2.1 hdg rfl (lh_at h hl) (k H locs ls hP hD hS h)
theorem k_aload (F : CallFix p m c cc nL s args Ts own) {j : Nat} {x : Nat} (hdg : decode cc pc = .ok (.aload j, 2)) (hp : pc + 2 = pc') (hl : lv[j]? = some (some (.ref x))) (k : KK kc ks p l e R s m args below meth c Q D A nL ws pc' lv (.ref x :: st)) : KK kc ks p l e R s m args below meth c Q D A nL ws pc lv st := by
  subst hp; exact fun H locs ls hP hD hS h => lv_aload F.1 F.2.1 hdg (lh_at h hl) (k H locs ls hP hD hS h)
theorem k_istore_n (F : CallFix p m c cc nL s args Ts own) {j : Fin 4} {x : Int32} (hdg : decode cc pc = .ok (.istore_n j, 1)) (hp : pc + 1 = pc') (hj : (j : Nat) < nL) (hl : st1 lv (j : Nat) (.int x) = lv') (k : KK kc ks p l e R s m args below meth c Q D A nL ws pc' lv' st) : KK kc ks p l e R s m args below meth c Q D A nL ws pc lv (.int x :: st) := by
  subst hp; subst hl; exact fun H locs ls hP hD hS h => lv_istore_n F.1 F.2.1 hdg rfl h hj rfl (fun ls' h' => k H locs ls' hP hD hS (lh_st1 h'))
theorem k_istore (F : CallFix p m c cc nL s args Ts own) {j : Nat} {x : Int32} (hdg : decode cc pc = .ok (.istore j, 2)) (hp : pc + 2 = pc') (hj : j < nL) (hl : st1 lv j (.int x) = lv') (k : KK kc ks p l e R s m args below meth c Q D A nL ws pc' lv' st) : KK kc ks p l e R s m args below meth c Q D A nL ws pc lv (.int x :: st) := by
  subst hp; subst hl; exact fun H locs ls hP hD hS h => lv_istore F.1 F.2.1 hdg h hj rfl (fun ls' h' => k H locs ls' hP hD hS (lh_st1 h'))
theorem k_lstore_n (F : CallFix p m c cc nL s args Ts own) {j : Fin 4} {x : Int64} (hdg : decode cc pc = .ok (.lstore_n j, 1)) (hp : pc + 1 = pc') (hj : (j : Nat) + 1 < nL) (hl : st2 lv (j : Nat) (.long x) = lv') (k : KK kc ks p l e R s m args below meth c Q D A nL ws pc' lv' st) : KK kc ks p l e R s m args below meth c Q D A nL ws pc lv (.long x :: st) := by
  subst hp; subst hl; exact fun H locs ls hP hD hS h => lv_lstore_n F.1 F.2.1 hdg rfl h hj rfl (fun ls' h' => k H locs ls' hP hD hS (lh_st2 h'))
theorem k_lstore (F : CallFix p m c cc nL s args Ts own) {j : Nat} {x : Int64} (hdg : decode cc pc = .ok (.lstore j, 2)) (hp : pc + 2 = pc') (hj : j + 1 < nL) (hl : st2 lv j (.long x) = lv') (k : KK kc ks p l e R s m args below meth c Q D A nL ws pc' lv' st) : KK kc ks p l e R s m args below meth c Q D A nL ws pc lv (.long x :: st) := by
  subst hp; subst hl; exact fun H locs ls hP hD hS h => lv_lstore F.1 F.2.1 hdg h hj rfl (fun ls' h' => k H locs ls' hP hD hS (lh_st2 h'))
theorem k_astore_n (F : CallFix p m c cc nL s args Ts own) {j : Fin 4} {x : Nat} (hdg : decode cc pc = .ok (.astore_n j, 1)) (hp : pc + 1 = pc') (hj : (j : Nat) < nL) (hl : st1 lv (j : Nat) (.ref x) = lv') (k : KK kc ks p l e R s m args below meth c Q D A nL ws pc' lv' st) : KK kc ks p l e R s m args below meth c Q D A nL ws pc lv (.ref x :: st) := by
  subst hp; subst hl; exact fun H locs ls hP hD hS h => lv_astore_n F.1 F.2.1 hdg rfl h hj rfl (fun ls' h' => k H locs ls' hP hD hS (lh_st1 h'))
theorem k_iinc (F : CallFix p m c cc nL s args Ts own) {j : Nat} {n z : Int} (hdg : decode cc pc = .ok (.iinc j n, 3)) (hp : pc + 3 = pc') (hx : lv[j]? = some (some (.int (iI z)))) (hj : j < nL) (hl : st1 lv j (.int (iI (z + n))) = lv') (k : KK kc ks p l e R s m args below meth c Q D A nL ws pc' lv' st) : KK kc ks p l e R s m args below meth c Q D A nL ws pc lv st := by
  subst hp; subst hl
  intro H locs ls hP hD hS h
  obtain ⟨i, hi⟩ := List.getElem?_of_mem (asL_mem.mpr hx)
  exact lv_iinc F.1 F.2.1 hdg h hi (iI_add z n) hj rfl (fun ls' h' => k H locs ls' hP hD hS (lh_st1 h'))
theorem k_lvw (lv' : List (Option Value)) (hs : ∀ (i : Nat) (v : Value), lv'[i]? = some (some v) → lv[i]? = some (some v)) (k : KK kc ks p l e R s m args below meth c Q D A nL ws pc lv' st) : KK kc ks p l e R s m args below meth c Q D A nL ws pc lv st :=
  fun H locs ls hP hD hS h => k H locs ls hP hD hS (lh_weak h hs)
theorem k_iadd (F : CallFix p m c cc nL s args Ts own) {x y : Int} (hdg : decode cc pc = .ok (.iadd, 1)) (hp : pc + 1 = pc') (k : KK kc ks p l e R s m args below meth c Q D A nL ws pc' lv (.int (iI (x + y)) :: st)) : KK kc ks p l e R s m args below meth c Q D A nL ws pc lv (.int (iI y) :: .int (iI x) :: st) := by
  subst hp; exact fun H locs ls hP hD hS h => lv_iadd F.1 F.2.1 hdg (by rw [iI_add]; exact k H locs ls hP hD hS h)
theorem k_isub (F : CallFix p m c cc nL s args Ts own) {x y : Int} (hdg : decode cc pc = .ok (.isub, 1)) (hp : pc + 1 = pc') (k : KK kc ks p l e R s m args below meth c Q D A nL ws pc' lv (.int (iI (x - y)) :: st)) : KK kc ks p l e R s m args below meth c Q D A nL ws pc lv (.int (iI y) :: .int (iI x) :: st) := by
  subst hp; exact fun H locs ls hP hD hS h => lv_isub F.1 F.2.1 hdg (by rw [iI_sub]; exact k H locs ls hP hD hS h)
theorem k_imul (F : CallFix p m c cc nL s args Ts own) {x y : Int} (hdg : decode cc pc = .ok (.imul, 1)) (hp : pc + 1 = pc') (k : KK kc ks p l e R s m args below meth c Q D A nL ws pc' lv (.int (iI (x * y)) :: st)) : KK kc ks p l e R s m args below meth c Q D A nL ws pc lv (.int (iI y) :: .int (iI x) :: st) := by
  subst hp; exact fun H locs ls hP hD hS h => lv_imul F.1 F.2.1 hdg (by rw [iI_mul]; exact k H locs ls hP hD hS h)
theorem k_idiv (F : CallFix p m c cc nL s args Ts own) {x y : Int} (hdg : decode cc pc = .ok (.idiv, 1)) (hp : pc + 1 = pc') (hx : -2147483648 ≤ x ∧ x < 2147483648) (hy : -2147483648 ≤ y ∧ y < 2147483648) (h0 : y ≠ 0) (k : KK kc ks p l e R s m args below meth c Q D A nL ws pc' lv (.int (iI (x.tdiv y)) :: st)) : KK kc ks p l e R s m args below meth c Q D A nL ws pc lv (.int (iI y) :: .int (iI x) :: st) := by
  subst hp; exact fun H locs ls hP hD hS h => lv_idiv F.1 F.2.1 hdg (by rw [← iI_0, iI_eq hy (by omega)]; exact h0) (by rw [iI_div hx hy]; exact k H locs ls hP hD hS h)
theorem k_irem (F : CallFix p m c cc nL s args Ts own) {x y : Int} (hdg : decode cc pc = .ok (.irem, 1)) (hp : pc + 1 = pc') (hx : -2147483648 ≤ x ∧ x < 2147483648) (hy : -2147483648 ≤ y ∧ y < 2147483648) (h0 : y ≠ 0) (k : KK kc ks p l e R s m args below meth c Q D A nL ws pc' lv (.int (iI (x.tmod y)) :: st)) : KK kc ks p l e R s m args below meth c Q D A nL ws pc lv (.int (iI y) :: .int (iI x) :: st) := by
  subst hp; exact fun H locs ls hP hD hS h => lv_irem F.1 F.2.1 hdg (by rw [← iI_0, iI_eq hy (by omega)]; exact h0) (by rw [iI_rem hx hy]; exact k H locs ls hP hD hS h)
theorem k_i2l (F : CallFix p m c cc nL s args Ts own) {x : Int} (hdg : decode cc pc = .ok (.i2l, 1)) (hp : pc + 1 = pc') (hx : -2147483648 ≤ x ∧ x < 2147483648) (k : KK kc ks p l e R s m args below meth c Q D A nL ws pc' lv (.long (lI x) :: st)) : KK kc ks p l e R s m args below meth c Q D A nL ws pc lv (.int (iI x) :: st) := by
  subst hp; exact fun H locs ls hP hD hS h => lv_i2l F.1 F.2.1 hdg (iI_l hx) (k H locs ls hP hD hS h)
theorem k_ladd (F : CallFix p m c cc nL s args Ts own) {x y : Int} (hdg : decode cc pc = .ok (.ladd, 1)) (hp : pc + 1 = pc') (k : KK kc ks p l e R s m args below meth c Q D A nL ws pc' lv (.long (lI (x + y)) :: st)) : KK kc ks p l e R s m args below meth c Q D A nL ws pc lv (.long (lI y) :: .long (lI x) :: st) := by
  subst hp; exact fun H locs ls hP hD hS h => lv_ladd F.1 F.2.1 hdg (by rw [lI_add]; exact k H locs ls hP hD hS h)
theorem k_lsub (F : CallFix p m c cc nL s args Ts own) {x y : Int} (hdg : decode cc pc = .ok (.lsub, 1)) (hp : pc + 1 = pc') (k : KK kc ks p l e R s m args below meth c Q D A nL ws pc' lv (.long (lI (x - y)) :: st)) : KK kc ks p l e R s m args below meth c Q D A nL ws pc lv (.long (lI y) :: .long (lI x) :: st) := by
  subst hp; exact fun H locs ls hP hD hS h => lv_lsub F.1 F.2.1 hdg (by rw [lI_sub]; exact k H locs ls hP hD hS h)
theorem k_lmul (F : CallFix p m c cc nL s args Ts own) {x y : Int} (hdg : decode cc pc = .ok (.lmul, 1)) (hp : pc + 1 = pc') (k : KK kc ks p l e R s m args below meth c Q D A nL ws pc' lv (.long (lI (x * y)) :: st)) : KK kc ks p l e R s m args below meth c Q D A nL ws pc lv (.long (lI y) :: .long (lI x) :: st) := by
  subst hp; exact fun H locs ls hP hD hS h => lv_lmul F.1 F.2.1 hdg (by rw [lI_mul]; exact k H locs ls hP hD hS h)
theorem k_lneg (F : CallFix p m c cc nL s args Ts own) {x : Int} (hdg : decode cc pc = .ok (.lneg, 1)) (hp : pc + 1 = pc') (k : KK kc ks p l e R s m args below meth c Q D A nL ws pc' lv (.long (lI (-x)) :: st)) : KK kc ks p l e R s m args below meth c Q D A nL ws pc lv (.long (lI x) :: st) := by
  subst hp; exact fun H locs ls hP hD hS h => lv_lneg F.1 F.2.1 hdg (by rw [lI_neg]; exact k H locs ls hP hD hS h)
theorem k_ldiv (F : CallFix p m c cc nL s args Ts own) {x y : Int} (hdg : decode cc pc = .ok (.ldiv, 1)) (hp : pc + 1 = pc') (hx : -9223372036854775808 ≤ x ∧ x < 9223372036854775808) (hy : -9223372036854775808 ≤ y ∧ y < 9223372036854775808) (h0 : y ≠ 0) (k : KK kc ks p l e R s m args below meth c Q D A nL ws pc' lv (.long (lI (x.tdiv y)) :: st)) : KK kc ks p l e R s m args below meth c Q D A nL ws pc lv (.long (lI y) :: .long (lI x) :: st) := by
  subst hp; exact fun H locs ls hP hD hS h => lv_ldiv F.1 F.2.1 hdg (by rw [show (0 : Int64) = lI 0 from rfl, lI_eq hy (by omega)]; exact h0) (by rw [lI_div hx hy]; exact k H locs ls hP hD hS h)
theorem k_lcmp (F : CallFix p m c cc nL s args Ts own) {x y : Int} (hdg : decode cc pc = .ok (.lcmp, 1)) (hp : pc + 1 = pc') (hx : -9223372036854775808 ≤ x ∧ x < 9223372036854775808) (hy : -9223372036854775808 ≤ y ∧ y < 9223372036854775808) (k : KK kc ks p l e R s m args below meth c Q D A nL ws pc' lv (.int (iI (cmpz x y)) :: st)) : KK kc ks p l e R s m args below meth c Q D A nL ws pc lv (.long (lI y) :: .long (lI x) :: st) := by
  subst hp; exact fun H locs ls hP hD hS h => W.lcmp F.1 F.2.1 hdg (by rw [lg_cmpz hx hy]; exact k H locs ls hP hD hS h)
theorem k_dup (F : CallFix p m c cc nL s args Ts own) {v : Value} (hdg : decode cc pc = .ok (.dup, 1)) (hp : pc + 1 = pc') (hv : v.category = 1) (k : KK kc ks p l e R s m args below meth c Q D A nL ws pc' lv (v :: v :: st)) : KK kc ks p l e R s m args below meth c Q D A nL ws pc lv (v :: st) := by
  subst hp; exact fun H locs ls hP hD hS h => lv_dup F.1 F.2.1 hdg hv (k H locs ls hP hD hS h)
theorem k_dup2 (F : CallFix p m c cc nL s args Ts own) {v w : Value} (hdg : decode cc pc = .ok (.dup2, 1)) (hp : pc + 1 = pc') (hv : v.category = 1) (hw : w.category = 1) (k : KK kc ks p l e R s m args below meth c Q D A nL ws pc' lv (v :: w :: v :: w :: st)) : KK kc ks p l e R s m args below meth c Q D A nL ws pc lv (v :: w :: st) := by
  subst hp; exact fun H locs ls hP hD hS h => lv_dup2_11 F.1 F.2.1 hdg hv hw (k H locs ls hP hD hS h)
theorem k_goto (F : CallFix p m c cc nL s args Ts own) {off : Int} (hdg : decode cc pc = .ok (.goto off, 3)) (ht : (pc : Int) + off = (tgt : Int)) (k : KK kc ks p l e R s m args below meth c Q D A nL ws tgt lv st) : KK kc ks p l e R s m args below meth c Q D A nL ws pc lv st :=
  fun H locs ls hP hD hS h => lv_goto F.1 F.2.1 hdg ht (k H locs ls hP hD hS h)
theorem k_vw {st' : List Value} (h : st' = st) (k : KK kc ks p l e R s m args below meth c Q D A nL ws pc lv st') : KK kc ks p l e R s m args below meth c Q D A nL ws pc lv st := h ▸ k
theorem k_icmp_lt (F : CallFix p m c cc nL s args Ts own) {x y off : Int} (hdg : decode cc pc = .ok (.if_icmp .lt off, 3)) (hp : pc + 3 = pc') (ht : (pc : Int) + off = (tgt : Int)) (hx : -2147483648 ≤ x ∧ x < 2147483648) (hy : -2147483648 ≤ y ∧ y < 2147483648) (kt : x < y → KK kc ks p l e R s m args below meth c Q D A nL ws tgt lv st) (kf : y ≤ x → KK kc ks p l e R s m args below meth c Q D A nL ws pc' lv st) : KK kc ks p l e R s m args below meth c Q D A nL ws pc lv (.int (iI y) :: .int (iI x) :: st) := by
  subst hp
  exact fun H locs ls hP hD hS h => lv_icmp_lt F.1 F.2.1 hdg ht (fun h1 => kt ((iI_lt hx hy).mp h1) H locs ls hP hD hS h) (fun h1 => kf (Int.not_lt.mp (fun q => h1 ((iI_lt hx hy).mpr q))) H locs ls hP hD hS h)
theorem k_if_lt (F : CallFix p m c cc nL s args Ts own) {x off : Int} (hdg : decode cc pc = .ok (.ifCond .lt off, 3)) (hp : pc + 3 = pc') (ht : (pc : Int) + off = (tgt : Int)) (hx : -2147483648 ≤ x ∧ x < 2147483648) (kt : x < 0 → KK kc ks p l e R s m args below meth c Q D A nL ws tgt lv st) (kf : 0 ≤ x → KK kc ks p l e R s m args below meth c Q D A nL ws pc' lv st) : KK kc ks p l e R s m args below meth c Q D A nL ws pc lv (.int (iI x) :: st) := by
  subst hp
  have hy : -2147483648 ≤ (0 : Int) ∧ (0 : Int) < 2147483648 := by omega
  intro H locs ls hP hD hS h
  refine lv_if_lt F.1 F.2.1 hdg ht (fun h1 => kt ?_ H locs ls hP hD hS h) (fun h1 => kf ?_ H locs ls hP hD hS h)
  · rw [← iI_0] at h1
    exact (iI_lt hx hy).mp h1
  · rw [← iI_0] at h1
    exact Int.not_lt.mp (fun q => h1 ((iI_lt hx hy).mpr q))
theorem k_icmp_ge (F : CallFix p m c cc nL s args Ts own) {x y off : Int} (hdg : decode cc pc = .ok (.if_icmp .ge off, 3)) (hp : pc + 3 = pc') (ht : (pc : Int) + off = (tgt : Int)) (hx : -2147483648 ≤ x ∧ x < 2147483648) (hy : -2147483648 ≤ y ∧ y < 2147483648) (kt : y ≤ x → KK kc ks p l e R s m args below meth c Q D A nL ws tgt lv st) (kf : x < y → KK kc ks p l e R s m args below meth c Q D A nL ws pc' lv st) : KK kc ks p l e R s m args below meth c Q D A nL ws pc lv (.int (iI y) :: .int (iI x) :: st) := by
  subst hp
  exact fun H locs ls hP hD hS h => lv_icmp_ge F.1 F.2.1 hdg ht (fun h1 => kt ((iI_le hy hx).mp h1) H locs ls hP hD hS h) (fun h1 => kf (Int.not_le.mp (fun q => h1 ((iI_le hy hx).mpr q))) H locs ls hP hD hS h)
theorem k_if_ge (F : CallFix p m c cc nL s args Ts own) {x off : Int} (hdg : decode cc pc = .ok (.ifCond .ge off, 3)) (hp : pc + 3 = pc') (ht : (pc : Int) + off = (tgt : Int)) (hx : -2147483648 ≤ x ∧ x < 2147483648) (kt : 0 ≤ x → KK kc ks p l e R s m args below meth c Q D A nL ws tgt lv st) (kf : x < 0 → KK kc ks p l e R s m args below meth c Q D A nL ws pc' lv st) : KK kc ks p l e R s m args below meth c Q D A nL ws pc lv (.int (iI x) :: st) := by
  subst hp
  have hy : -2147483648 ≤ (0 : Int) ∧ (0 : Int) < 2147483648 := by omega
  intro H locs ls hP hD hS h
  refine lv_if_ge F.1 F.2.1 hdg ht (fun h1 => kt ?_ H locs ls hP hD hS h) (fun h1 => kf ?_ H locs ls hP hD hS h)
  · rw [← iI_0] at h1
    exact (iI_le hy hx).mp h1
  · rw [← iI_0] at h1
    exact Int.not_le.mp (fun q => h1 ((iI_le hy hx).mpr q))
theorem k_icmp_gt (F : CallFix p m c cc nL s args Ts own) {x y off : Int} (hdg : decode cc pc = .ok (.if_icmp .gt off, 3)) (hp : pc + 3 = pc') (ht : (pc : Int) + off = (tgt : Int)) (hx : -2147483648 ≤ x ∧ x < 2147483648) (hy : -2147483648 ≤ y ∧ y < 2147483648) (kt : y < x → KK kc ks p l e R s m args below meth c Q D A nL ws tgt lv st) (kf : x ≤ y → KK kc ks p l e R s m args below meth c Q D A nL ws pc' lv st) : KK kc ks p l e R s m args below meth c Q D A nL ws pc lv (.int (iI y) :: .int (iI x) :: st) := by
  subst hp
  exact fun H locs ls hP hD hS h => lv_icmp_gt F.1 F.2.1 hdg ht (fun h1 => kt ((iI_lt hy hx).mp h1) H locs ls hP hD hS h) (fun h1 => kf (Int.not_lt.mp (fun q => h1 ((iI_lt hy hx).mpr q))) H locs ls hP hD hS h)
theorem k_if_gt (F : CallFix p m c cc nL s args Ts own) {x off : Int} (hdg : decode cc pc = .ok (.ifCond .gt off, 3)) (hp : pc + 3 = pc') (ht : (pc : Int) + off = (tgt : Int)) (hx : -2147483648 ≤ x ∧ x < 2147483648) (kt : 0 < x → KK kc ks p l e R s m args below meth c Q D A nL ws tgt lv st) (kf : x ≤ 0 → KK kc ks p l e R s m args below meth c Q D A nL ws pc' lv st) : KK kc ks p l e R s m args below meth c Q D A nL ws pc lv (.int (iI x) :: st) := by
  subst hp
  have hy : -2147483648 ≤ (0 : Int) ∧ (0 : Int) < 2147483648 := by omega
  intro H locs ls hP hD hS h
  refine lv_if_gt F.1 F.2.1 hdg ht (fun h1 => kt ?_ H locs ls hP hD hS h) (fun h1 => kf ?_ H locs ls hP hD hS h)
  · rw [← iI_0] at h1
    exact (iI_lt hy hx).mp h1
  · rw [← iI_0] at h1
    exact Int.not_lt.mp (fun q => h1 ((iI_lt hy hx).mpr q))
theorem k_icmp_le (F : CallFix p m c cc nL s args Ts own) {x y off : Int} (hdg : decode cc pc = .ok (.if_icmp .le off, 3)) (hp : pc + 3 = pc') (ht : (pc : Int) + off = (tgt : Int)) (hx : -2147483648 ≤ x ∧ x < 2147483648) (hy : -2147483648 ≤ y ∧ y < 2147483648) (kt : x ≤ y → KK kc ks p l e R s m args below meth c Q D A nL ws tgt lv st) (kf : y < x → KK kc ks p l e R s m args below meth c Q D A nL ws pc' lv st) : KK kc ks p l e R s m args below meth c Q D A nL ws pc lv (.int (iI y) :: .int (iI x) :: st) := by
  subst hp
  exact fun H locs ls hP hD hS h => lv_icmp_le F.1 F.2.1 hdg ht (fun h1 => kt ((iI_le hx hy).mp h1) H locs ls hP hD hS h) (fun h1 => kf (Int.not_le.mp (fun q => h1 ((iI_le hx hy).mpr q))) H locs ls hP hD hS h)
theorem k_if_le (F : CallFix p m c cc nL s args Ts own) {x off : Int} (hdg : decode cc pc = .ok (.ifCond .le off, 3)) (hp : pc + 3 = pc') (ht : (pc : Int) + off = (tgt : Int)) (hx : -2147483648 ≤ x ∧ x < 2147483648) (kt : x ≤ 0 → KK kc ks p l e R s m args below meth c Q D A nL ws tgt lv st) (kf : 0 < x → KK kc ks p l e R s m args below meth c Q D A nL ws pc' lv st) : KK kc ks p l e R s m args below meth c Q D A nL ws pc lv (.int (iI x) :: st) := by
  subst hp
  have hy : -2147483648 ≤ (0 : Int) ∧ (0 : Int) < 2147483648 := by omega
  intro H locs ls hP hD hS h
  refine lv_if_le F.1 F.2.1 hdg ht (fun h1 => kt ?_ H locs ls hP hD hS h) (fun h1 => kf ?_ H locs ls hP hD hS h)
  · rw [← iI_0] at h1
    exact (iI_le hx hy).mp h1
  · rw [← iI_0] at h1
    exact Int.not_le.mp (fun q => h1 ((iI_le hx hy).mpr q))
theorem k_icmp_eq (F : CallFix p m c cc nL s args Ts own) {x y off : Int} (hdg : decode cc pc = .ok (.if_icmp .eq off, 3)) (hp : pc + 3 = pc') (ht : (pc : Int) + off = (tgt : Int)) (hx : -2147483648 ≤ x ∧ x < 2147483648) (hy : -2147483648 ≤ y ∧ y < 2147483648) (kt : x = y → KK kc ks p l e R s m args below meth c Q D A nL ws tgt lv st) (kf : x ≠ y → KK kc ks p l e R s m args below meth c Q D A nL ws pc' lv st) : KK kc ks p l e R s m args below meth c Q D A nL ws pc lv (.int (iI y) :: .int (iI x) :: st) := by
  subst hp
  exact fun H locs ls hP hD hS h => lv_icmp_eq F.1 F.2.1 hdg ht (fun h1 => kt ((iI_eq hx hy).mp h1) H locs ls hP hD hS h) (fun h1 => kf (fun q => h1 ((iI_eq hx hy).mpr q)) H locs ls hP hD hS h)
theorem k_if_eq (F : CallFix p m c cc nL s args Ts own) {x off : Int} (hdg : decode cc pc = .ok (.ifCond .eq off, 3)) (hp : pc + 3 = pc') (ht : (pc : Int) + off = (tgt : Int)) (hx : -2147483648 ≤ x ∧ x < 2147483648) (kt : x = 0 → KK kc ks p l e R s m args below meth c Q D A nL ws tgt lv st) (kf : x ≠ 0 → KK kc ks p l e R s m args below meth c Q D A nL ws pc' lv st) : KK kc ks p l e R s m args below meth c Q D A nL ws pc lv (.int (iI x) :: st) := by
  subst hp
  have hy : -2147483648 ≤ (0 : Int) ∧ (0 : Int) < 2147483648 := by omega
  intro H locs ls hP hD hS h
  refine lv_if_eq F.1 F.2.1 hdg ht (fun h1 => kt ?_ H locs ls hP hD hS h) (fun h1 => kf ?_ H locs ls hP hD hS h)
  · rw [← iI_0] at h1
    exact (iI_eq hx hy).mp h1
  · rw [← iI_0] at h1
    exact fun q => h1 ((iI_eq hx hy).mpr q)
theorem k_icmp_ne (F : CallFix p m c cc nL s args Ts own) {x y off : Int} (hdg : decode cc pc = .ok (.if_icmp .ne off, 3)) (hp : pc + 3 = pc') (ht : (pc : Int) + off = (tgt : Int)) (hx : -2147483648 ≤ x ∧ x < 2147483648) (hy : -2147483648 ≤ y ∧ y < 2147483648) (kt : x ≠ y → KK kc ks p l e R s m args below meth c Q D A nL ws tgt lv st) (kf : x = y → KK kc ks p l e R s m args below meth c Q D A nL ws pc' lv st) : KK kc ks p l e R s m args below meth c Q D A nL ws pc lv (.int (iI y) :: .int (iI x) :: st) := by
  subst hp
  exact fun H locs ls hP hD hS h => lv_icmp_ne F.1 F.2.1 hdg ht (fun h1 => kt (fun q => h1 ((iI_eq hx hy).mpr q)) H locs ls hP hD hS h) (fun h1 => kf ((iI_eq hx hy).mp h1) H locs ls hP hD hS h)
theorem k_if_ne (F : CallFix p m c cc nL s args Ts own) {x off : Int} (hdg : decode cc pc = .ok (.ifCond .ne off, 3)) (hp : pc + 3 = pc') (ht : (pc : Int) + off = (tgt : Int)) (hx : -2147483648 ≤ x ∧ x < 2147483648) (kt : x ≠ 0 → KK kc ks p l e R s m args below meth c Q D A nL ws tgt lv st) (kf : x = 0 → KK kc ks p l e R s m args below meth c Q D A nL ws pc' lv st) : KK kc ks p l e R s m args below meth c Q D A nL ws pc lv (.int (iI x) :: st) := by
  subst hp
  have hy : -2147483648 ≤ (0 : Int) ∧ (0 : Int) < 2147483648 := by omega
  intro H locs ls hP hD hS h
  refine lv_if_ne F.1 F.2.1 hdg ht (fun h1 => kt ?_ H locs ls hP hD hS h) (fun h1 => kf ?_ H locs ls hP hD hS h)
  · rw [← iI_0] at h1
    exact fun q => h1 ((iI_eq hx hy).mpr q)
  · rw [← iI_0] at h1
    exact (iI_eq hx hy).mp h1
end KROWS
section KMEM
variable {kc ks : Nat} {p : Program} {l : Launch} {e : Env} {R : Room} {s : State} {m : MethodId} {args : Array Value} {below : List Frame} {meth : Method} {c : Code} {Q : State → Prop}
variable {D : va_G} {A : Nat → Prop} {nL : Nat} {ws : va_W} {pc pc' tgt : Nat} {lv lv' : List (Option Value)} {st : List Value} {cc : ByteArray} {Ts : List Cond} {own : String} {T : Nat → ClassId} {a : Nat → Nat} {L : List Kd} {M : Mem}
theorem k_getI (F : CallFix p m c cc nL s args Ts own) (K : va_K D vwCl (tysT T) s) {k fld ci n N index : Nat} {fs : List Nat} {C : String} {Tt : u_T} {z : Int} (hin : ∀ w ∈ u_ws C Tt N, w ∈ Ts) (hL : L[k]? = some (ci + 4, n, fs)) (hc : vwCl[ci]? = some (C, Tt, N)) (hf : fs[fld]? = some 0) (hk : fld < N) (hw : Cond.fieldLink own index (Tt fld).1 (Tt fld).2.1 (Tt fld).2.2.1 ∈ Ts) (hdg : decode cc pc = .ok (.getfield index, 3)) (hp : pc + 3 = pc') (hv : M k fld = z)
    (kk : KK kc ks p l e R s m args below meth c Q D A nL (wld T a L M) pc' lv (.int (iI z) :: st)) : KK kc ks p l e R s m args below meth c Q D A nL (wld T a L M) pc lv (.ref (a k) :: st) := by
  subst hp; subst hv
  exact fun H locs ls hP hD hS h => va_get F.1 F.2.1 F.2.2.2.2 hin F.2.2.2.1 K hP k (wld_at hL) hc fld hk (F.2.2.2.2 _ hw) (fun _ h9 => h9) (fs_at hf) hdg (kk H locs ls hP hD hS h)
theorem k_getJ (F : CallFix p m c cc nL s args Ts own) (K : va_K D vwCl (tysT T) s) {k fld ci n N index : Nat} {fs : List Nat} {C : String} {Tt : u_T} {z : Int} (hin : ∀ w ∈ u_ws C Tt N, w ∈ Ts) (hL : L[k]? = some (ci + 4, n, fs)) (hc : vwCl[ci]? = some (C, Tt, N)) (hf : fs[fld]? = some 1) (hk : fld < N) (hw : Cond.fieldLink own index (Tt fld).1 (Tt fld).2.1 (Tt fld).2.2.1 ∈ Ts) (hdg : decode cc pc = .ok (.getfield index, 3)) (hp : pc + 3 = pc') (hv : M k fld = z)
    (kk : KK kc ks p l e R s m args below meth c Q D A nL (wld T a L M) pc' lv (.long (lI z) :: st)) : KK kc ks p l e R s m args below meth c Q D A nL (wld T a L M) pc lv (.ref (a k) :: st) := by
  subst hp; subst hv
  exact fun H locs ls hP hD hS h => va_get F.1 F.2.1 F.2.2.2.2 hin F.2.2.2.1 K hP k (wld_at hL) hc fld hk (F.2.2.2.2 _ hw) (fun _ h9 => h9) (fs_at hf) hdg (kk H locs ls hP hD hS h)
theorem k_getR (F : CallFix p m c cc nL s args Ts own) (K : va_K D vwCl (tysT T) s) {k fld ci n N index q : Nat} {fs : List Nat} {C : String} {Tt : u_T} (hin : ∀ w ∈ u_ws C Tt N, w ∈ Ts) (hL : L[k]? = some (ci + 4, n, fs)) (hc : vwCl[ci]? = some (C, Tt, N)) (hf : fs[fld]? = some (q + 2)) (hk : fld < N) (hw : Cond.fieldLink own index (Tt fld).1 (Tt fld).2.1 (Tt fld).2.2.1 ∈ Ts) (hdg : decode cc pc = .ok (.getfield index, 3)) (hp : pc + 3 = pc')
    (kk : KK kc ks p l e R s m args below meth c Q D A nL (wld T a L M) pc' lv (.ref (a q) :: st)) : KK kc ks p l e R s m args below meth c Q D A nL (wld T a L M) pc lv (.ref (a k) :: st) := by
  subst hp
  exact fun H locs ls hP hD hS h => va_get F.1 F.2.1 F.2.2.2.2 hin F.2.2.2.1 K hP k (wld_at hL) hc fld hk (F.2.2.2.2 _ hw) (fun _ h9 => h9) (fs_at hf) hdg (kk H locs ls hP hD hS h)
theorem k_putI (F : CallFix p m c cc nL s args Ts own) (K : va_K D vwCl (tysT T) s) {k fld ci n N index : Nat} {fs : List Nat} {C : String} {Tt : u_T} {z : Int} (ty0 : Nat → FieldType) (hty : ∀ k, k < N → parseFieldDescriptor (Tt k).2.2.1 = some (ty0 k)) (hnm : ∀ a, a < N → ∀ b, b < N → a ≠ b → (Tt a).2.1 ≠ (Tt b).2.1) (hin : ∀ w ∈ u_ws C Tt N, w ∈ Ts) (hL : L[k]? = some (ci + 4, n, fs)) (hc : vwCl[ci]? = some (C, Tt, N)) (hf : fs[fld]? = some 0) (hk : fld < N) (hfin : (Tt fld).2.2.2 = false) (hd : (Tt fld).2.2.1 = "I") (hw : Cond.fieldLink own index (Tt fld).1 (Tt fld).2.1 (Tt fld).2.2.1 ∈ Ts) (hdg : decode cc pc = .ok (.putfield index, 3)) (hp : pc + 3 = pc')
    (kk : KK kc ks p l e R s m args below meth c Q D A nL (wld T a L (up M k fld z)) pc' lv st) : KK kc ks p l e R s m args below meth c Q D A nL (wld T a L M) pc lv (.int (iI z) :: .ref (a k) :: st) := by
  subst hp
  intro H locs ls hP hD hS h
  refine va_put (ty := .int) (v := .int (iI z)) F.1 F.2.1 F.2.2.2.2 hin ty0 hty hnm F.2.2.2.1 K hP hD hS k (wld_at hL) hc fld hk (F.2.2.2.2 _ hw) (fun _ h9 => h9) hfin (by rw [hd]; decide +kernel) rfl rfl (by have := (List.getElem?_eq_some_iff.mp hf).1; simpa using this) hdg (fun H1 locs1 hP1 hD1 hS1 => ?_)
  have e1 := wld_set (T := T) (a := a) (M := M) (M' := up M k fld z) (e := .inr (ci, (fs.zipIdx.map (fun p => fV a (M k) p.2 p.1)).set fld (.int (iI z)))) hL (by rw [cE_O, up_fn, fs_set (z := z) hf (by simp [fV])]) (fun j hj => up_n hj)
  rw [e1] at hP1 hD1
  exact kk H1 locs1 ls hP1 hD1 hS1 h
theorem k_putJ (F : CallFix p m c cc nL s args Ts own) (K : va_K D vwCl (tysT T) s) {k fld ci n N index : Nat} {fs : List Nat} {C : String} {Tt : u_T} {z : Int} (ty0 : Nat → FieldType) (hty : ∀ k, k < N → parseFieldDescriptor (Tt k).2.2.1 = some (ty0 k)) (hnm : ∀ a, a < N → ∀ b, b < N → a ≠ b → (Tt a).2.1 ≠ (Tt b).2.1) (hin : ∀ w ∈ u_ws C Tt N, w ∈ Ts) (hL : L[k]? = some (ci + 4, n, fs)) (hc : vwCl[ci]? = some (C, Tt, N)) (hf : fs[fld]? = some 1) (hk : fld < N) (hfin : (Tt fld).2.2.2 = false) (hd : (Tt fld).2.2.1 = "J") (hw : Cond.fieldLink own index (Tt fld).1 (Tt fld).2.1 (Tt fld).2.2.1 ∈ Ts) (hdg : decode cc pc = .ok (.putfield index, 3)) (hp : pc + 3 = pc')
    (kk : KK kc ks p l e R s m args below meth c Q D A nL (wld T a L (up M k fld z)) pc' lv st) : KK kc ks p l e R s m args below meth c Q D A nL (wld T a L M) pc lv (.long (lI z) :: .ref (a k) :: st) := by
  subst hp
  intro H locs ls hP hD hS h
  refine va_put (ty := .long) (v := .long (lI z)) F.1 F.2.1 F.2.2.2.2 hin ty0 hty hnm F.2.2.2.1 K hP hD hS k (wld_at hL) hc fld hk (F.2.2.2.2 _ hw) (fun _ h9 => h9) hfin (by rw [hd]; decide +kernel) rfl rfl (by have := (List.getElem?_eq_some_iff.mp hf).1; simpa using this) hdg (fun H1 locs1 hP1 hD1 hS1 => ?_)
  have e1 := wld_set (T := T) (a := a) (M := M) (M' := up M k fld z) (e := .inr (ci, (fs.zipIdx.map (fun p => fV a (M k) p.2 p.1)).set fld (.long (lI z)))) hL (by rw [cE_O, up_fn, fs_set (z := z) hf (by simp [fV])]) (fun j hj => up_n hj)
  rw [e1] at hP1 hD1
  exact kk H1 locs1 ls hP1 hD1 hS1 h
theorem k_iald (F : CallFix p m c cc nL s args Ts own) (K : va_K D vwCl (tysT T) s) {k n : Nat} {r : List Nat} {z v : Int} (hL : L[k]? = some (0, n, r)) (hn : n < 2147483648) (hz : 0 ≤ z ∧ z < (n : Int)) (hdg : decode cc pc = .ok (.iaload, 1)) (hp : pc + 1 = pc') (hv : M k z = v)
    (kk : KK kc ks p l e R s m args below meth c Q D A nL (wld T a L M) pc' lv (.int (iI v) :: st)) : KK kc ks p l e R s m args below meth c Q D A nL (wld T a L M) pc lv (.int (iI z) :: .ref (a k) :: st) := by
  subst hp; subst hv
  refine fun H locs ls hP hD hS h => va_iald F.1 F.2.1 K hP k 0 (wld_at hL) rfl (iI_in hz hn) hdg ?_
  show W p l e R s m args below meth c H locs kc ks Q (F0 m (pc + 1) ls (.int (iI (M k (((iI z).toNatClampNeg : Nat) : Int))) :: st))
  rw [iI_clamp (by omega)]
  exact kk H locs ls hP hD hS h
theorem k_lald (F : CallFix p m c cc nL s args Ts own) (K : va_K D vwCl (tysT T) s) {k n : Nat} {r : List Nat} {z v : Int} (hL : L[k]? = some (1, n, r)) (hn : n < 2147483648) (hz : 0 ≤ z ∧ z < (n : Int)) (hdg : decode cc pc = .ok (.laload, 1)) (hp : pc + 1 = pc') (hv : M k z = v)
    (kk : KK kc ks p l e R s m args below meth c Q D A nL (wld T a L M) pc' lv (.long (lI v) :: st)) : KK kc ks p l e R s m args below meth c Q D A nL (wld T a L M) pc lv (.int (iI z) :: .ref (a k) :: st) := by
  subst hp; subst hv
  refine fun H locs ls hP hD hS h => va_lald F.1 F.2.1 K hP k 1 (wld_at hL) rfl (iI_in hz hn) hdg ?_
  show W p l e R s m args below meth c H locs kc ks Q (F0 m (pc + 1) ls (.long (lI (M k (((iI z).toNatClampNeg : Nat) : Int))) :: st))
  rw [iI_clamp (by omega)]
  exact kk H locs ls hP hD hS h
theorem k_zald (F : CallFix p m c cc nL s args Ts own) (K : va_K D vwCl (tysT T) s) {k n : Nat} {r : List Nat} {z v : Int} (hL : L[k]? = some (2, n, r)) (hn : n < 2147483648) (hz : 0 ≤ z ∧ z < (n : Int)) (hdg : decode cc pc = .ok (.baload, 1)) (hp : pc + 1 = pc') (hv : M k z = v)
    (kk : KK kc ks p l e R s m args below meth c Q D A nL (wld T a L M) pc' lv (.int (iI v) :: st)) : KK kc ks p l e R s m args below meth c Q D A nL (wld T a L M) pc lv (.int (iI z) :: .ref (a k) :: st) := by
  subst hp; subst hv
  refine fun H locs ls hP hD hS h => va_zald F.1 F.2.1 K hP k 2 (wld_at hL) rfl (iI_in hz hn) hdg ?_
  show W p l e R s m args below meth c H locs kc ks Q (F0 m (pc + 1) ls (.int (iI (M k (((iI z).toNatClampNeg : Nat) : Int))) :: st))
  rw [iI_clamp (by omega)]
  exact kk H locs ls hP hD hS h
theorem k_aald (F : CallFix p m c cc nL s args Ts own) (K : va_K D vwCl (tysT T) s) {k n q : Nat} {r : List Nat} {z : Int} (hL : L[k]? = some (3, n, r)) (hn : n < 2147483648) (hz : 0 ≤ z ∧ z < (n : Int)) (hq : r[z.toNat]? = some q) (hdg : decode cc pc = .ok (.aaload, 1)) (hp : pc + 1 = pc')
    (kk : KK kc ks p l e R s m args below meth c Q D A nL (wld T a L M) pc' lv (.ref (a q) :: st)) : KK kc ks p l e R s m args below meth c Q D A nL (wld T a L M) pc lv (.int (iI z) :: .ref (a k) :: st) := by
  subst hp
  refine fun H locs ls hP hD hS h => va_aldq F.1 F.2.1 K hP k 3 (wld_at hL) rfl (iI_in hz hn) hdg ?_
  have e1 : (iI z).toNatClampNeg = z.toNat := by have := iI_clamp (z := z) (by omega); omega
  rw [e1]
  show W p l e R s m args below meth c H locs kc ks Q (F0 m (pc + 1) ls (va_rf ((r[z.toNat]?).map a) :: st))
  rw [hq]
  exact kk H locs ls hP hD hS h
theorem k_iast (F : CallFix p m c cc nL s args Ts own) (K : va_K D vwCl (tysT T) s) {k n : Nat} {r : List Nat} {z v : Int} (hL : L[k]? = some (0, n, r)) (hn : n < 2147483648) (hz : 0 ≤ z ∧ z < (n : Int)) (hdg : decode cc pc = .ok (.iastore, 1)) (hp : pc + 1 = pc')
    (kk : KK kc ks p l e R s m args below meth c Q D A nL (wld T a L (up M k z v)) pc' lv st) : KK kc ks p l e R s m args below meth c Q D A nL (wld T a L M) pc lv (.int (iI v) :: .int (iI z) :: .ref (a k) :: st) := by
  subst hp
  intro H locs ls hP hD hS h
  refine va_iast F.1 F.2.1 K hP hD hS k 0 (wld_at hL) rfl (iI_in hz hn) hdg (fun H1 locs1 hP1 hD1 hS1 => ?_)
  rw [ar_set (by omega)] at hP1 hD1
  have e1 := wld_set (T := T) (a := a) (M := M) (M' := up M k z v) (e := .inl (T 0, n, .inl (fun j : Nat => iI (if (j : Int) = z then v else M k j)))) hL (by rw [up_fn]; rfl) (fun j hj => up_n hj)
  rw [e1] at hP1 hD1
  exact kk H1 locs1 ls hP1 hD1 hS1 h
theorem k_last (F : CallFix p m c cc nL s args Ts own) (K : va_K D vwCl (tysT T) s) {k n : Nat} {r : List Nat} {z v : Int} (hL : L[k]? = some (1, n, r)) (hn : n < 2147483648) (hz : 0 ≤ z ∧ z < (n : Int)) (hdg : decode cc pc = .ok (.lastore, 1)) (hp : pc + 1 = pc')
    (kk : KK kc ks p l e R s m args below meth c Q D A nL (wld T a L (up M k z v)) pc' lv st) : KK kc ks p l e R s m args below meth c Q D A nL (wld T a L M) pc lv (.long (lI v) :: .int (iI z) :: .ref (a k) :: st) := by
  subst hp
  intro H locs ls hP hD hS h
  refine va_last F.1 F.2.1 K hP hD hS k 1 (wld_at hL) rfl (iI_in hz hn) hdg (fun H1 locs1 hP1 hD1 hS1 => ?_)
  rw [ar_setL (by omega)] at hP1 hD1
  have e1 := wld_set (T := T) (a := a) (M := M) (M' := up M k z v) (e := .inl (T 1, n, .inr (.inl (fun j : Nat => lI (if (j : Int) = z then v else M k j))))) hL (by rw [up_fn]; rfl) (fun j hj => up_n hj)
  rw [e1] at hP1 hD1
  exact kk H1 locs1 ls hP1 hD1 hS1 h
theorem k_zast (F : CallFix p m c cc nL s args Ts own) (K : va_K D vwCl (tysT T) s) {k n : Nat} {r : List Nat} {z v : Int} (hL : L[k]? = some (2, n, r)) (hn : n < 2147483648) (hz : 0 ≤ z ∧ z < (n : Int)) (hb : v = 0 ∨ v = 1) (hdg : decode cc pc = .ok (.bastore, 1)) (hp : pc + 1 = pc')
    (kk : KK kc ks p l e R s m args below meth c Q D A nL (wld T a L (up M k z v)) pc' lv st) : KK kc ks p l e R s m args below meth c Q D A nL (wld T a L M) pc lv (.int (iI v) :: .int (iI z) :: .ref (a k) :: st) := by
  subst hp
  intro H locs ls hP hD hS h
  refine va_zast F.1 F.2.1 K hP hD hS k 2 (wld_at hL) rfl (iI_in hz hn) hdg (fun H1 locs1 hP1 hD1 hS1 => ?_)
  rw [nar_z hb, ar_set (by omega)] at hP1 hD1
  have e1 := wld_set (T := T) (a := a) (M := M) (M' := up M k z v) (e := .inl (T 2, n, .inl (fun j : Nat => iI (if (j : Int) = z then v else M k j)))) hL (by rw [up_fn]; rfl) (fun j hj => up_n hj)
  rw [e1] at hP1 hD1
  exact kk H1 locs1 ls hP1 hD1 hS1 h
end KMEM
section KH
variable {kc ks : Nat} {p : Program} {l : Launch} {e : Env} {R : Room} {s : State} {m : MethodId} {args : Array Value} {below : List Frame} {meth : Method} {c : Code} {Q : State → Prop}
variable {D : va_G} {A : Nat → Prop} {nL : Nat} {ws : va_W} {pc pc' tgt : Nat} {lv lv' : List (Option Value)} {st : List Value} {cc : ByteArray} {Ts : List Cond} {own : String} {T : Nat → ClassId} {a : Nat → Nat} {L : List Kd} {M M2 : Mem}
theorem kh_mem (M2 : Mem) (h : M = M2) (kk : KK kc ks p l e R s m args below meth c Q D A nL (wld T a L M2) pc lv st) : KK kc ks p l e R s m args below meth c Q D A nL (wld T a L M) pc lv st := h ▸ kk
theorem kh_putI (F : CallFix p m c cc nL s args Ts own) (K : va_K D vwCl (tysT T) s) {k fld ci n N index : Nat} {fs : List Nat} {C : String} {Tt : u_T} {z : Int} (M2 : Mem) (hM : up M k fld z = M2) (ty0 : Nat → FieldType) (hty : ∀ k, k < N → parseFieldDescriptor (Tt k).2.2.1 = some (ty0 k)) (hnm : ∀ a, a < N → ∀ b, b < N → a ≠ b → (Tt a).2.1 ≠ (Tt b).2.1) (hin : ∀ w ∈ u_ws C Tt N, w ∈ Ts) (hL : L[k]? = some (ci + 4, n, fs)) (hc : vwCl[ci]? = some (C, Tt, N)) (hf : fs[fld]? = some 0) (hk : fld < N) (hfin : (Tt fld).2.2.2 = false) (hd : (Tt fld).2.2.1 = "I") (hw : Cond.fieldLink own index (Tt fld).1 (Tt fld).2.1 (Tt fld).2.2.1 ∈ Ts) (hdg : decode cc pc = .ok (.putfield index, 3)) (hp : pc + 3 = pc')
    (kk : KK kc ks p l e R s m args below meth c Q D A nL (wld T a L M2) pc' lv st) : KK kc ks p l e R s m args below meth c Q D A nL (wld T a L M) pc lv (.int (iI z) :: .ref (a k) :: st) := by
  subst hM; exact k_putI F K ty0 hty hnm hin hL hc hf hk hfin hd hw hdg hp kk
theorem kh_putJ (F : CallFix p m c cc nL s args Ts own) (K : va_K D vwCl (tysT T) s) {k fld ci n N index : Nat} {fs : List Nat} {C : String} {Tt : u_T} {z : Int} (M2 : Mem) (hM : up M k fld z = M2) (ty0 : Nat → FieldType) (hty : ∀ k, k < N → parseFieldDescriptor (Tt k).2.2.1 = some (ty0 k)) (hnm : ∀ a, a < N → ∀ b, b < N → a ≠ b → (Tt a).2.1 ≠ (Tt b).2.1) (hin : ∀ w ∈ u_ws C Tt N, w ∈ Ts) (hL : L[k]? = some (ci + 4, n, fs)) (hc : vwCl[ci]? = some (C, Tt, N)) (hf : fs[fld]? = some 1) (hk : fld < N) (hfin : (Tt fld).2.2.2 = false) (hd : (Tt fld).2.2.1 = "J") (hw : Cond.fieldLink own index (Tt fld).1 (Tt fld).2.1 (Tt fld).2.2.1 ∈ Ts) (hdg : decode cc pc = .ok (.putfield index, 3)) (hp : pc + 3 = pc')
    (kk : KK kc ks p l e R s m args below meth c Q D A nL (wld T a L M2) pc' lv st) : KK kc ks p l e R s m args below meth c Q D A nL (wld T a L M) pc lv (.long (lI z) :: .ref (a k) :: st) := by
  subst hM; exact k_putJ F K ty0 hty hnm hin hL hc hf hk hfin hd hw hdg hp kk
theorem kh_iast (F : CallFix p m c cc nL s args Ts own) (K : va_K D vwCl (tysT T) s) {k n : Nat} {r : List Nat} {z v : Int} (M2 : Mem) (hM : up M k z v = M2) (hL : L[k]? = some (0, n, r)) (hn : n < 2147483648) (hz : 0 ≤ z ∧ z < (n : Int)) (hdg : decode cc pc = .ok (.iastore, 1)) (hp : pc + 1 = pc')
    (kk : KK kc ks p l e R s m args below meth c Q D A nL (wld T a L M2) pc' lv st) : KK kc ks p l e R s m args below meth c Q D A nL (wld T a L M) pc lv (.int (iI v) :: .int (iI z) :: .ref (a k) :: st) := by
  subst hM; exact k_iast F K hL hn hz hdg hp kk
theorem kh_last (F : CallFix p m c cc nL s args Ts own) (K : va_K D vwCl (tysT T) s) {k n : Nat} {r : List Nat} {z v : Int} (M2 : Mem) (hM : up M k z v = M2) (hL : L[k]? = some (1, n, r)) (hn : n < 2147483648) (hz : 0 ≤ z ∧ z < (n : Int)) (hdg : decode cc pc = .ok (.lastore, 1)) (hp : pc + 1 = pc')
    (kk : KK kc ks p l e R s m args below meth c Q D A nL (wld T a L M2) pc' lv st) : KK kc ks p l e R s m args below meth c Q D A nL (wld T a L M) pc lv (.long (lI v) :: .int (iI z) :: .ref (a k) :: st) := by
  subst hM; exact k_last F K hL hn hz hdg hp kk
theorem kh_zast (F : CallFix p m c cc nL s args Ts own) (K : va_K D vwCl (tysT T) s) {k n : Nat} {r : List Nat} {z v : Int} (M2 : Mem) (hM : up M k z v = M2) (hL : L[k]? = some (2, n, r)) (hn : n < 2147483648) (hz : 0 ≤ z ∧ z < (n : Int)) (hb : v = 0 ∨ v = 1) (hdg : decode cc pc = .ok (.bastore, 1)) (hp : pc + 1 = pc')
    (kk : KK kc ks p l e R s m args below meth c Q D A nL (wld T a L M2) pc' lv st) : KK kc ks p l e R s m args below meth c Q D A nL (wld T a L M) pc lv (.int (iI v) :: .int (iI z) :: .ref (a k) :: st) := by
  subst hM; exact k_zast F K hL hn hz hb hdg hp kk
end KH
section KTOP
variable {kc ks : Nat} {p : Program} {l : Launch} {e : Env} {R : Room} {s : State} {m : MethodId} {args : Array Value} {below : List Frame} {meth : Method} {c : Code} {Q : State → Prop}
variable {D : va_G} {A : Nat → Prop} {nL : Nat} {ws : va_W} {pc : Nat} {lv : List (Option Value)} {st : List Value}
theorem kh_top {z z' : Int} (h : z = z') (kk : KK kc ks p l e R s m args below meth c Q D A nL ws pc lv (.int (iI z') :: st)) : KK kc ks p l e R s m args below meth c Q D A nL ws pc lv (.int (iI z) :: st) := h ▸ kk
theorem kh_topJ {z z' : Int} (h : z = z') (kk : KK kc ks p l e R s m args below meth c Q D A nL ws pc lv (.long (lI z') :: st)) : KK kc ks p l e R s m args below meth c Q D A nL ws pc lv (.long (lI z) :: st) := h ▸ kk
end KTOP
