abbrev vwCl : List vw_C := [(RX0, TX0, 12), (RX1, TX1, 6), (RX2, TX2, 3), (RX3, TX3, 11), (RX4, TX4, 6)]
/-! ===== the judgement: from here on, whatever heap holds the world, the machine comes to Q ===== -/
def GG (p : Program) (l : Launch) (e : Env) (R : Room) (s : State) (m : MethodId) (args : Array Value) (below : List Frame) (meth : Method) (c : Code) (Q : State → Prop) (D : va_G) (A : Nat → Prop) (nL : Nat) (ws : va_W) (pc : Nat) (lv : List (Option Value)) (st : List Value) : Prop :=
  ∀ (H : Heap) (locs : List Loc) (ls : Array Slot), va_P D vwCl ws H → va_D A ws → va_S A s.heap H locs → lh ls nL lv → W p l e R s m args below meth c H locs 0 0 Q (F0 m pc ls st)
section ROWS
variable {p : Program} {l : Launch} {e : Env} {R : Room} {s : State} {m : MethodId} {args : Array Value} {below : List Frame} {meth : Method} {c : Code} {Q : State → Prop}
variable {D : va_G} {A : Nat → Prop} {nL : Nat} {ws : va_W} {pc pc' tgt : Nat} {lv lv' : List (Option Value)} {st : List Value} {cc : ByteArray} {Ts : List Cond} {own : String} {T : Nat → ClassId} {a : Nat → Nat} {L : List Kd} {M : Mem}
theorem g_iconst (F : CallFix p m c cc nL s args Ts own) {n : Int} (hdg : decode cc pc = .ok (.iconst n, 1)) (hp : pc + 1 = pc') (k : GG p l e R s m args below meth c Q D A nL ws pc' lv (.int (iI n) :: st)) : GG p l e R s m args below meth c Q D A nL ws pc lv st := by
  subst hp; exact fun H locs ls hP hD hS hl => lv_iconst F.1 F.2.1 hdg rfl (k H locs ls hP hD hS hl)
theorem g_bipush (F : CallFix p m c cc nL s args Ts own) {n : Int} (hdg : decode cc pc = .ok (.bipush n, 2)) (hp : pc + 2 = pc') (hv : (Int8.ofInt n).toInt32 = iI n) (k : GG p l e R s m args below meth c Q D A nL ws pc' lv (.int (iI n) :: st)) : GG p l e R s m args below meth c Q D A nL ws pc lv st := by
  subst hp; exact fun H locs ls hP hD hS hl => lv_bipush F.1 F.2.1 hdg hv (k H locs ls hP hD hS hl)
theorem g_sipush (F : CallFix p m c cc nL s args Ts own) {n : Int} (hdg : decode cc pc = .ok (.sipush n, 3)) (hp : pc + 3 = pc') (hv : (Int16.ofInt n).toInt32 = iI n) (k : GG p l e R s m args below meth c Q D A nL ws pc' lv (.int (iI n) :: st)) : GG p l e R s m args below meth c Q D A nL ws pc lv st := by
  subst hp; exact fun H locs ls hP hD hS hl => lv_sipush F.1 F.2.1 hdg hv (k H locs ls hP hD hS hl)
theorem g_lconst (F : CallFix p m c cc nL s args Ts own) {n : Fin 2} {z : Int} (hdg : decode cc pc = .ok (.lconst n, 1)) (hp : pc + 1 = pc') (hv : Int64.ofNat (n : Nat) = lI z) (k : GG p l e R s m args below meth c Q D A nL ws pc' lv (.long (lI z) :: st)) : GG p l e R s m args below meth c Q D A nL ws pc lv st := by
  subst hp; exact fun H locs ls hP hD hS hl => lv_lconst F.1 F.2.1 hdg hv (k H locs ls hP hD hS hl)
theorem g_ldc (F : CallFix p m c cc nL s args Ts own) {idx : Nat} {v : Int32} {z : Int} (hdg : decode cc pc = .ok (.ldc idx, 2)) (hp : pc + 2 = pc') (hw : Jvm.Cond.constant own idx v ∈ Ts) (hv : v = iI z) (k : GG p l e R s m args below meth c Q D A nL ws pc' lv (.int (iI z) :: st)) : GG p l e R s m args below meth c Q D A nL ws pc lv st := by
  subst hp; subst hv; exact fun H locs ls hP hD hS hl => lv_ldc F.1 F.2.1 F.2.2.2.1 (F.2.2.2.2 _ hw) hdg (k H locs ls hP hD hS hl)
theorem g_ldc2 (F : CallFix p m c cc nL s args Ts own) {idx : Nat} {v : Int64} {z : Int} (hdg : decode cc pc = .ok (.ldc2_w idx, 3)) (hp : pc + 3 = pc') (hw : Jvm.Cond.constantLong own idx v ∈ Ts) (hv : v = lI z) (k : GG p l e R s m args below meth c Q D A nL ws pc' lv (.long (lI z) :: st)) : GG p l e R s m args below meth c Q D A nL ws pc lv st := by
  subst hp; subst hv; exact fun H locs ls hP hD hS hl => lv_ldc2 F.1 F.2.1 F.2.2.2.1 (F.2.2.2.2 _ hw) hdg (k H locs ls hP hD hS hl)
theorem g_iload_n (F : CallFix p m c cc nL s args Ts own) {j : Fin 4} {x : Int32} (hdg : decode cc pc = .ok (.iload_n j, 1)) (hp : pc + 1 = pc') (hl : lv[(j : Nat)]? = some (some (.int x))) (k : GG p l e R s m args below meth c Q D A nL ws pc' lv (.int x :: st)) : GG p l e R s m args below meth c Q D A nL ws pc lv st := by
  subst hp; exact fun H locs ls hP hD hS h => lv_iload_n F.1 F.2.1 hdg rfl (lh_at h hl) (k H locs ls hP hD hS h)
theorem g_iload (F : CallFix p m c cc nL s args Ts own) {j : Nat} {x : Int32} (hdg : decode cc pc = .ok (.iload j, 2)) (hp : pc + 2 = pc') (hl : lv[j]? = some (some (.int x))) (k : GG p l e R s m args below meth c Q D A nL ws pc' lv (.int x :: st)) : GG p l e R s m args below meth c Q D A nL ws pc lv st := by
  subst hp; exact fun H locs ls hP hD hS h => lv_iload F.1 F.2.1 hdg (lh_at h hl) (k H locs ls hP hD hS h)
theorem g_lload_n (F : CallFix p m c cc nL s args Ts own) {j : Fin 4} {x : Int64} (hdg : decode cc pc = .ok (.lload_n j, 1)) (hp : pc + 1 = pc') (hl : lv[(j : Nat)]? = some (some (.long x))) (k : GG p l e R s m args below meth c Q D A nL ws pc' lv (.long x :: st)) : GG p l e R s m args below meth c Q D A nL ws pc lv st := by
  subst hp; exact fun H locs ls hP hD hS h => lv_lload_n F.1 F.2.1 hdg rfl (lh_at h hl) (k H locs ls hP hD hS h)
theorem g_lload (F : CallFix p m c cc nL s args Ts own) {j : Nat} {x : Int64} (hdg : decode cc pc = .ok (.lload j, 2)) (hp : pc + 2 = pc') (hl : lv[j]? = some (some (.long x))) (k : GG p l e R s m args below meth c Q D A nL ws pc' lv (.long x :: st)) : GG p l e R s m args below meth c Q D A nL ws pc lv st := by
  subst hp; exact fun H locs ls hP hD hS h => lv_lload F.1 F.2.1 hdg (lh_at h hl) (k H locs ls hP hD hS h)
theorem g_aload_n (F : CallFix p m c cc nL s args Ts own) {j : Fin 4} {x : Nat} (hdg : decode cc pc = .ok (.aload_n j, 1)) (hp : pc + 1 = pc') (hl : lv[(j : Nat)]? = some (some (.ref x))) (k : GG p l e R s m args below meth c Q D A nL ws pc' lv (.ref x :: st)) : GG p l e R s m args below meth c Q D A nL ws pc lv st := by
  subst hp; exact fun H locs ls hP hD hS h => lv_aload_n F.1 F.2.1 hdg rfl (lh_at h hl) (k H locs ls hP hD hS h)
theorem g_aload (F : CallFix p m c cc nL s args Ts own) {j : Nat} {x : Nat} (hdg : decode cc pc = .ok (.aload j, 2)) (hp : pc + 2 = pc') (hl : lv[j]? = some (some (.ref x))) (k : GG p l e R s m args below meth c Q D A nL ws pc' lv (.ref x :: st)) : GG p l e R s m args below meth c Q D A nL ws pc lv st := by
  subst hp; exact fun H locs ls hP hD hS h => lv_aload F.1 F.2.1 hdg (lh_at h hl) (k H locs ls hP hD hS h)
theorem g_istore_n (F : CallFix p m c cc nL s args Ts own) {j : Fin 4} {x : Int32} (hdg : decode cc pc = .ok (.istore_n j, 1)) (hp : pc + 1 = pc') (hj : (j : Nat) < nL) (hl : st1 lv (j : Nat) (.int x) = lv') (k : GG p l e R s m args below meth c Q D A nL ws pc' lv' st) : GG p l e R s m args below meth c Q D A nL ws pc lv (.int x :: st) := by
  subst hp; subst hl; exact fun H locs ls hP hD hS h => lv_istore_n F.1 F.2.1 hdg rfl h hj rfl (fun ls' h' => k H locs ls' hP hD hS (lh_st1 h'))
theorem g_istore (F : CallFix p m c cc nL s args Ts own) {j : Nat} {x : Int32} (hdg : decode cc pc = .ok (.istore j, 2)) (hp : pc + 2 = pc') (hj : j < nL) (hl : st1 lv j (.int x) = lv') (k : GG p l e R s m args below meth c Q D A nL ws pc' lv' st) : GG p l e R s m args below meth c Q D A nL ws pc lv (.int x :: st) := by
  subst hp; subst hl; exact fun H locs ls hP hD hS h => lv_istore F.1 F.2.1 hdg h hj rfl (fun ls' h' => k H locs ls' hP hD hS (lh_st1 h'))
theorem g_lstore_n (F : CallFix p m c cc nL s args Ts own) {j : Fin 4} {x : Int64} (hdg : decode cc pc = .ok (.lstore_n j, 1)) (hp : pc + 1 = pc') (hj : (j : Nat) + 1 < nL) (hl : st2 lv (j : Nat) (.long x) = lv') (k : GG p l e R s m args below meth c Q D A nL ws pc' lv' st) : GG p l e R s m args below meth c Q D A nL ws pc lv (.long x :: st) := by
  subst hp; subst hl; exact fun H locs ls hP hD hS h => lv_lstore_n F.1 F.2.1 hdg rfl h hj rfl (fun ls' h' => k H locs ls' hP hD hS (lh_st2 h'))
theorem g_lstore (F : CallFix p m c cc nL s args Ts own) {j : Nat} {x : Int64} (hdg : decode cc pc = .ok (.lstore j, 2)) (hp : pc + 2 = pc') (hj : j + 1 < nL) (hl : st2 lv j (.long x) = lv') (k : GG p l e R s m args below meth c Q D A nL ws pc' lv' st) : GG p l e R s m args below meth c Q D A nL ws pc lv (.long x :: st) := by
  subst hp; subst hl; exact fun H locs ls hP hD hS h => lv_lstore F.1 F.2.1 hdg h hj rfl (fun ls' h' => k H locs ls' hP hD hS (lh_st2 h'))
theorem g_astore_n (F : CallFix p m c cc nL s args Ts own) {j : Fin 4} {x : Nat} (hdg : decode cc pc = .ok (.astore_n j, 1)) (hp : pc + 1 = pc') (hj : (j : Nat) < nL) (hl : st1 lv (j : Nat) (.ref x) = lv') (k : GG p l e R s m args below meth c Q D A nL ws pc' lv' st) : GG p l e R s m args below meth c Q D A nL ws pc lv (.ref x :: st) := by
  subst hp; subst hl; exact fun H locs ls hP hD hS h => lv_astore_n F.1 F.2.1 hdg rfl h hj rfl (fun ls' h' => k H locs ls' hP hD hS (lh_st1 h'))
theorem g_iinc (F : CallFix p m c cc nL s args Ts own) {j : Nat} {n z : Int} (hdg : decode cc pc = .ok (.iinc j n, 3)) (hp : pc + 3 = pc') (hx : lv[j]? = some (some (.int (iI z)))) (hj : j < nL) (hl : st1 lv j (.int (iI (z + n))) = lv') (k : GG p l e R s m args below meth c Q D A nL ws pc' lv' st) : GG p l e R s m args below meth c Q D A nL ws pc lv st := by
  subst hp; subst hl
  intro H locs ls hP hD hS h
  obtain ⟨i, hi⟩ := List.getElem?_of_mem (asL_mem.mpr hx)
  exact lv_iinc F.1 F.2.1 hdg h hi (iI_add z n) hj rfl (fun ls' h' => k H locs ls' hP hD hS (lh_st1 h'))
theorem g_lvw (lv' : List (Option Value)) (hs : ∀ (i : Nat) (v : Value), lv'[i]? = some (some v) → lv[i]? = some (some v)) (k : GG p l e R s m args below meth c Q D A nL ws pc lv' st) : GG p l e R s m args below meth c Q D A nL ws pc lv st :=
  fun H locs ls hP hD hS h => k H locs ls hP hD hS (lh_weak h hs)
theorem g_iadd (F : CallFix p m c cc nL s args Ts own) {x y : Int} (hdg : decode cc pc = .ok (.iadd, 1)) (hp : pc + 1 = pc') (k : GG p l e R s m args below meth c Q D A nL ws pc' lv (.int (iI (x + y)) :: st)) : GG p l e R s m args below meth c Q D A nL ws pc lv (.int (iI y) :: .int (iI x) :: st) := by
  subst hp; exact fun H locs ls hP hD hS h => lv_iadd F.1 F.2.1 hdg (by rw [iI_add]; exact k H locs ls hP hD hS h)
theorem g_isub (F : CallFix p m c cc nL s args Ts own) {x y : Int} (hdg : decode cc pc = .ok (.isub, 1)) (hp : pc + 1 = pc') (k : GG p l e R s m args below meth c Q D A nL ws pc' lv (.int (iI (x - y)) :: st)) : GG p l e R s m args below meth c Q D A nL ws pc lv (.int (iI y) :: .int (iI x) :: st) := by
  subst hp; exact fun H locs ls hP hD hS h => lv_isub F.1 F.2.1 hdg (by rw [iI_sub]; exact k H locs ls hP hD hS h)
theorem g_imul (F : CallFix p m c cc nL s args Ts own) {x y : Int} (hdg : decode cc pc = .ok (.imul, 1)) (hp : pc + 1 = pc') (k : GG p l e R s m args below meth c Q D A nL ws pc' lv (.int (iI (x * y)) :: st)) : GG p l e R s m args below meth c Q D A nL ws pc lv (.int (iI y) :: .int (iI x) :: st) := by
  subst hp; exact fun H locs ls hP hD hS h => lv_imul F.1 F.2.1 hdg (by rw [iI_mul]; exact k H locs ls hP hD hS h)
theorem g_idiv (F : CallFix p m c cc nL s args Ts own) {x y : Int} (hdg : decode cc pc = .ok (.idiv, 1)) (hp : pc + 1 = pc') (hx : -2147483648 ≤ x ∧ x < 2147483648) (hy : -2147483648 ≤ y ∧ y < 2147483648) (h0 : y ≠ 0) (k : GG p l e R s m args below meth c Q D A nL ws pc' lv (.int (iI (x.tdiv y)) :: st)) : GG p l e R s m args below meth c Q D A nL ws pc lv (.int (iI y) :: .int (iI x) :: st) := by
  subst hp; exact fun H locs ls hP hD hS h => lv_idiv F.1 F.2.1 hdg (by rw [← iI_0, iI_eq hy (by omega)]; exact h0) (by rw [iI_div hx hy]; exact k H locs ls hP hD hS h)
theorem g_irem (F : CallFix p m c cc nL s args Ts own) {x y : Int} (hdg : decode cc pc = .ok (.irem, 1)) (hp : pc + 1 = pc') (hx : -2147483648 ≤ x ∧ x < 2147483648) (hy : -2147483648 ≤ y ∧ y < 2147483648) (h0 : y ≠ 0) (k : GG p l e R s m args below meth c Q D A nL ws pc' lv (.int (iI (x.tmod y)) :: st)) : GG p l e R s m args below meth c Q D A nL ws pc lv (.int (iI y) :: .int (iI x) :: st) := by
  subst hp; exact fun H locs ls hP hD hS h => lv_irem F.1 F.2.1 hdg (by rw [← iI_0, iI_eq hy (by omega)]; exact h0) (by rw [iI_rem hx hy]; exact k H locs ls hP hD hS h)
theorem g_i2l (F : CallFix p m c cc nL s args Ts own) {x : Int} (hdg : decode cc pc = .ok (.i2l, 1)) (hp : pc + 1 = pc') (hx : -2147483648 ≤ x ∧ x < 2147483648) (k : GG p l e R s m args below meth c Q D A nL ws pc' lv (.long (lI x) :: st)) : GG p l e R s m args below meth c Q D A nL ws pc lv (.int (iI x) :: st) := by
  subst hp; exact fun H locs ls hP hD hS h => lv_i2l F.1 F.2.1 hdg (iI_l hx) (k H locs ls hP hD hS h)
theorem g_ladd (F : CallFix p m c cc nL s args Ts own) {x y : Int} (hdg : decode cc pc = .ok (.ladd, 1)) (hp : pc + 1 = pc') (k : GG p l e R s m args below meth c Q D A nL ws pc' lv (.long (lI (x + y)) :: st)) : GG p l e R s m args below meth c Q D A nL ws pc lv (.long (lI y) :: .long (lI x) :: st) := by
  subst hp; exact fun H locs ls hP hD hS h => lv_ladd F.1 F.2.1 hdg (by rw [lI_add]; exact k H locs ls hP hD hS h)
theorem g_lsub (F : CallFix p m c cc nL s args Ts own) {x y : Int} (hdg : decode cc pc = .ok (.lsub, 1)) (hp : pc + 1 = pc') (k : GG p l e R s m args below meth c Q D A nL ws pc' lv (.long (lI (x - y)) :: st)) : GG p l e R s m args below meth c Q D A nL ws pc lv (.long (lI y) :: .long (lI x) :: st) := by
  subst hp; exact fun H locs ls hP hD hS h => lv_lsub F.1 F.2.1 hdg (by rw [lI_sub]; exact k H locs ls hP hD hS h)
theorem g_lmul (F : CallFix p m c cc nL s args Ts own) {x y : Int} (hdg : decode cc pc = .ok (.lmul, 1)) (hp : pc + 1 = pc') (k : GG p l e R s m args below meth c Q D A nL ws pc' lv (.long (lI (x * y)) :: st)) : GG p l e R s m args below meth c Q D A nL ws pc lv (.long (lI y) :: .long (lI x) :: st) := by
  subst hp; exact fun H locs ls hP hD hS h => lv_lmul F.1 F.2.1 hdg (by rw [lI_mul]; exact k H locs ls hP hD hS h)
theorem g_lneg (F : CallFix p m c cc nL s args Ts own) {x : Int} (hdg : decode cc pc = .ok (.lneg, 1)) (hp : pc + 1 = pc') (k : GG p l e R s m args below meth c Q D A nL ws pc' lv (.long (lI (-x)) :: st)) : GG p l e R s m args below meth c Q D A nL ws pc lv (.long (lI x) :: st) := by
  subst hp; exact fun H locs ls hP hD hS h => lv_lneg F.1 F.2.1 hdg (by rw [lI_neg]; exact k H locs ls hP hD hS h)
theorem g_ldiv (F : CallFix p m c cc nL s args Ts own) {x y : Int} (hdg : decode cc pc = .ok (.ldiv, 1)) (hp : pc + 1 = pc') (hx : -9223372036854775808 ≤ x ∧ x < 9223372036854775808) (hy : -9223372036854775808 ≤ y ∧ y < 9223372036854775808) (h0 : y ≠ 0) (k : GG p l e R s m args below meth c Q D A nL ws pc' lv (.long (lI (x.tdiv y)) :: st)) : GG p l e R s m args below meth c Q D A nL ws pc lv (.long (lI y) :: .long (lI x) :: st) := by
  subst hp; exact fun H locs ls hP hD hS h => lv_ldiv F.1 F.2.1 hdg (by rw [show (0 : Int64) = lI 0 from rfl, lI_eq hy (by omega)]; exact h0) (by rw [lI_div hx hy]; exact k H locs ls hP hD hS h)
theorem g_lcmp (F : CallFix p m c cc nL s args Ts own) {x y : Int} (hdg : decode cc pc = .ok (.lcmp, 1)) (hp : pc + 1 = pc') (hx : -9223372036854775808 ≤ x ∧ x < 9223372036854775808) (hy : -9223372036854775808 ≤ y ∧ y < 9223372036854775808) (k : GG p l e R s m args below meth c Q D A nL ws pc' lv (.int (iI (cmpz x y)) :: st)) : GG p l e R s m args below meth c Q D A nL ws pc lv (.long (lI y) :: .long (lI x) :: st) := by
  subst hp; exact fun H locs ls hP hD hS h => W.lcmp F.1 F.2.1 hdg (by rw [lg_cmpz hx hy]; exact k H locs ls hP hD hS h)
theorem g_dup (F : CallFix p m c cc nL s args Ts own) {v : Value} (hdg : decode cc pc = .ok (.dup, 1)) (hp : pc + 1 = pc') (hv : v.category = 1) (k : GG p l e R s m args below meth c Q D A nL ws pc' lv (v :: v :: st)) : GG p l e R s m args below meth c Q D A nL ws pc lv (v :: st) := by
  subst hp; exact fun H locs ls hP hD hS h => lv_dup F.1 F.2.1 hdg hv (k H locs ls hP hD hS h)
theorem g_dup2 (F : CallFix p m c cc nL s args Ts own) {v w : Value} (hdg : decode cc pc = .ok (.dup2, 1)) (hp : pc + 1 = pc') (hv : v.category = 1) (hw : w.category = 1) (k : GG p l e R s m args below meth c Q D A nL ws pc' lv (v :: w :: v :: w :: st)) : GG p l e R s m args below meth c Q D A nL ws pc lv (v :: w :: st) := by
  subst hp; exact fun H locs ls hP hD hS h => lv_dup2_11 F.1 F.2.1 hdg hv hw (k H locs ls hP hD hS h)
theorem g_goto (F : CallFix p m c cc nL s args Ts own) {off : Int} (hdg : decode cc pc = .ok (.goto off, 3)) (ht : (pc : Int) + off = (tgt : Int)) (k : GG p l e R s m args below meth c Q D A nL ws tgt lv st) : GG p l e R s m args below meth c Q D A nL ws pc lv st :=
  fun H locs ls hP hD hS h => lv_goto F.1 F.2.1 hdg ht (k H locs ls hP hD hS h)
theorem g_vw {st' : List Value} (h : st' = st) (k : GG p l e R s m args below meth c Q D A nL ws pc lv st') : GG p l e R s m args below meth c Q D A nL ws pc lv st := h ▸ k
theorem g_icmp_lt (F : CallFix p m c cc nL s args Ts own) {x y off : Int} (hdg : decode cc pc = .ok (.if_icmp .lt off, 3)) (hp : pc + 3 = pc') (ht : (pc : Int) + off = (tgt : Int)) (hx : -2147483648 ≤ x ∧ x < 2147483648) (hy : -2147483648 ≤ y ∧ y < 2147483648) (kt : x < y → GG p l e R s m args below meth c Q D A nL ws tgt lv st) (kf : y ≤ x → GG p l e R s m args below meth c Q D A nL ws pc' lv st) : GG p l e R s m args below meth c Q D A nL ws pc lv (.int (iI y) :: .int (iI x) :: st) := by
  subst hp
  exact fun H locs ls hP hD hS h => lv_icmp_lt F.1 F.2.1 hdg ht (fun h1 => kt ((iI_lt hx hy).mp h1) H locs ls hP hD hS h) (fun h1 => kf (Int.not_lt.mp (fun q => h1 ((iI_lt hx hy).mpr q))) H locs ls hP hD hS h)
theorem g_if_lt (F : CallFix p m c cc nL s args Ts own) {x off : Int} (hdg : decode cc pc = .ok (.ifCond .lt off, 3)) (hp : pc + 3 = pc') (ht : (pc : Int) + off = (tgt : Int)) (hx : -2147483648 ≤ x ∧ x < 2147483648) (kt : x < 0 → GG p l e R s m args below meth c Q D A nL ws tgt lv st) (kf : 0 ≤ x → GG p l e R s m args below meth c Q D A nL ws pc' lv st) : GG p l e R s m args below meth c Q D A nL ws pc lv (.int (iI x) :: st) := by
  subst hp
  have hy : -2147483648 ≤ (0 : Int) ∧ (0 : Int) < 2147483648 := by omega
  intro H locs ls hP hD hS h
  refine lv_if_lt F.1 F.2.1 hdg ht (fun h1 => kt ?_ H locs ls hP hD hS h) (fun h1 => kf ?_ H locs ls hP hD hS h)
  · rw [← iI_0] at h1
    exact (iI_lt hx hy).mp h1
  · rw [← iI_0] at h1
    exact Int.not_lt.mp (fun q => h1 ((iI_lt hx hy).mpr q))
theorem g_icmp_ge (F : CallFix p m c cc nL s args Ts own) {x y off : Int} (hdg : decode cc pc = .ok (.if_icmp .ge off, 3)) (hp : pc + 3 = pc') (ht : (pc : Int) + off = (tgt : Int)) (hx : -2147483648 ≤ x ∧ x < 2147483648) (hy : -2147483648 ≤ y ∧ y < 2147483648) (kt : y ≤ x → GG p l e R s m args below meth c Q D A nL ws tgt lv st) (kf : x < y → GG p l e R s m args below meth c Q D A nL ws pc' lv st) : GG p l e R s m args below meth c Q D A nL ws pc lv (.int (iI y) :: .int (iI x) :: st) := by
  subst hp
  exact fun H locs ls hP hD hS h => lv_icmp_ge F.1 F.2.1 hdg ht (fun h1 => kt ((iI_le hy hx).mp h1) H locs ls hP hD hS h) (fun h1 => kf (Int.not_le.mp (fun q => h1 ((iI_le hy hx).mpr q))) H locs ls hP hD hS h)
theorem g_if_ge (F : CallFix p m c cc nL s args Ts own) {x off : Int} (hdg : decode cc pc = .ok (.ifCond .ge off, 3)) (hp : pc + 3 = pc') (ht : (pc : Int) + off = (tgt : Int)) (hx : -2147483648 ≤ x ∧ x < 2147483648) (kt : 0 ≤ x → GG p l e R s m args below meth c Q D A nL ws tgt lv st) (kf : x < 0 → GG p l e R s m args below meth c Q D A nL ws pc' lv st) : GG p l e R s m args below meth c Q D A nL ws pc lv (.int (iI x) :: st) := by
  subst hp
  have hy : -2147483648 ≤ (0 : Int) ∧ (0 : Int) < 2147483648 := by omega
  intro H locs ls hP hD hS h
  refine lv_if_ge F.1 F.2.1 hdg ht (fun h1 => kt ?_ H locs ls hP hD hS h) (fun h1 => kf ?_ H locs ls hP hD hS h)
  · rw [← iI_0] at h1
    exact (iI_le hy hx).mp h1
  · rw [← iI_0] at h1
    exact Int.not_le.mp (fun q => h1 ((iI_le hy hx).mpr q))
theorem g_icmp_gt (F : CallFix p m c cc nL s args Ts own) {x y off : Int} (hdg : decode cc pc = .ok (.if_icmp .gt off, 3)) (hp : pc + 3 = pc') (ht : (pc : Int) + off = (tgt : Int)) (hx : -2147483648 ≤ x ∧ x < 2147483648) (hy : -2147483648 ≤ y ∧ y < 2147483648) (kt : y < x → GG p l e R s m args below meth c Q D A nL ws tgt lv st) (kf : x ≤ y → GG p l e R s m args below meth c Q D A nL ws pc' lv st) : GG p l e R s m args below meth c Q D A nL ws pc lv (.int (iI y) :: .int (iI x) :: st) := by
  subst hp
  exact fun H locs ls hP hD hS h => lv_icmp_gt F.1 F.2.1 hdg ht (fun h1 => kt ((iI_lt hy hx).mp h1) H locs ls hP hD hS h) (fun h1 => kf (Int.not_lt.mp (fun q => h1 ((iI_lt hy hx).mpr q))) H locs ls hP hD hS h)
theorem g_if_gt (F : CallFix p m c cc nL s args Ts own) {x off : Int} (hdg : decode cc pc = .ok (.ifCond .gt off, 3)) (hp : pc + 3 = pc') (ht : (pc : Int) + off = (tgt : Int)) (hx : -2147483648 ≤ x ∧ x < 2147483648) (kt : 0 < x → GG p l e R s m args below meth c Q D A nL ws tgt lv st) (kf : x ≤ 0 → GG p l e R s m args below meth c Q D A nL ws pc' lv st) : GG p l e R s m args below meth c Q D A nL ws pc lv (.int (iI x) :: st) := by
  subst hp
  have hy : -2147483648 ≤ (0 : Int) ∧ (0 : Int) < 2147483648 := by omega
  intro H locs ls hP hD hS h
  refine lv_if_gt F.1 F.2.1 hdg ht (fun h1 => kt ?_ H locs ls hP hD hS h) (fun h1 => kf ?_ H locs ls hP hD hS h)
  · rw [← iI_0] at h1
    exact (iI_lt hy hx).mp h1
  · rw [← iI_0] at h1
    exact Int.not_lt.mp (fun q => h1 ((iI_lt hy hx).mpr q))
theorem g_icmp_le (F : CallFix p m c cc nL s args Ts own) {x y off : Int} (hdg : decode cc pc = .ok (.if_icmp .le off, 3)) (hp : pc + 3 = pc') (ht : (pc : Int) + off = (tgt : Int)) (hx : -2147483648 ≤ x ∧ x < 2147483648) (hy : -2147483648 ≤ y ∧ y < 2147483648) (kt : x ≤ y → GG p l e R s m args below meth c Q D A nL ws tgt lv st) (kf : y < x → GG p l e R s m args below meth c Q D A nL ws pc' lv st) : GG p l e R s m args below meth c Q D A nL ws pc lv (.int (iI y) :: .int (iI x) :: st) := by
  subst hp
  exact fun H locs ls hP hD hS h => lv_icmp_le F.1 F.2.1 hdg ht (fun h1 => kt ((iI_le hx hy).mp h1) H locs ls hP hD hS h) (fun h1 => kf (Int.not_le.mp (fun q => h1 ((iI_le hx hy).mpr q))) H locs ls hP hD hS h)
theorem g_if_le (F : CallFix p m c cc nL s args Ts own) {x off : Int} (hdg : decode cc pc = .ok (.ifCond .le off, 3)) (hp : pc + 3 = pc') (ht : (pc : Int) + off = (tgt : Int)) (hx : -2147483648 ≤ x ∧ x < 2147483648) (kt : x ≤ 0 → GG p l e R s m args below meth c Q D A nL ws tgt lv st) (kf : 0 < x → GG p l e R s m args below meth c Q D A nL ws pc' lv st) : GG p l e R s m args below meth c Q D A nL ws pc lv (.int (iI x) :: st) := by
  subst hp
  have hy : -2147483648 ≤ (0 : Int) ∧ (0 : Int) < 2147483648 := by omega
  intro H locs ls hP hD hS h
  refine lv_if_le F.1 F.2.1 hdg ht (fun h1 => kt ?_ H locs ls hP hD hS h) (fun h1 => kf ?_ H locs ls hP hD hS h)
  · rw [← iI_0] at h1
    exact (iI_le hx hy).mp h1
  · rw [← iI_0] at h1
    exact Int.not_le.mp (fun q => h1 ((iI_le hx hy).mpr q))
theorem g_icmp_eq (F : CallFix p m c cc nL s args Ts own) {x y off : Int} (hdg : decode cc pc = .ok (.if_icmp .eq off, 3)) (hp : pc + 3 = pc') (ht : (pc : Int) + off = (tgt : Int)) (hx : -2147483648 ≤ x ∧ x < 2147483648) (hy : -2147483648 ≤ y ∧ y < 2147483648) (kt : x = y → GG p l e R s m args below meth c Q D A nL ws tgt lv st) (kf : x ≠ y → GG p l e R s m args below meth c Q D A nL ws pc' lv st) : GG p l e R s m args below meth c Q D A nL ws pc lv (.int (iI y) :: .int (iI x) :: st) := by
  subst hp
  exact fun H locs ls hP hD hS h => lv_icmp_eq F.1 F.2.1 hdg ht (fun h1 => kt ((iI_eq hx hy).mp h1) H locs ls hP hD hS h) (fun h1 => kf (fun q => h1 ((iI_eq hx hy).mpr q)) H locs ls hP hD hS h)
theorem g_if_eq (F : CallFix p m c cc nL s args Ts own) {x off : Int} (hdg : decode cc pc = .ok (.ifCond .eq off, 3)) (hp : pc + 3 = pc') (ht : (pc : Int) + off = (tgt : Int)) (hx : -2147483648 ≤ x ∧ x < 2147483648) (kt : x = 0 → GG p l e R s m args below meth c Q D A nL ws tgt lv st) (kf : x ≠ 0 → GG p l e R s m args below meth c Q D A nL ws pc' lv st) : GG p l e R s m args below meth c Q D A nL ws pc lv (.int (iI x) :: st) := by
  subst hp
  have hy : -2147483648 ≤ (0 : Int) ∧ (0 : Int) < 2147483648 := by omega
  intro H locs ls hP hD hS h
  refine lv_if_eq F.1 F.2.1 hdg ht (fun h1 => kt ?_ H locs ls hP hD hS h) (fun h1 => kf ?_ H locs ls hP hD hS h)
  · rw [← iI_0] at h1
    exact (iI_eq hx hy).mp h1
  · rw [← iI_0] at h1
    exact fun q => h1 ((iI_eq hx hy).mpr q)
theorem g_icmp_ne (F : CallFix p m c cc nL s args Ts own) {x y off : Int} (hdg : decode cc pc = .ok (.if_icmp .ne off, 3)) (hp : pc + 3 = pc') (ht : (pc : Int) + off = (tgt : Int)) (hx : -2147483648 ≤ x ∧ x < 2147483648) (hy : -2147483648 ≤ y ∧ y < 2147483648) (kt : x ≠ y → GG p l e R s m args below meth c Q D A nL ws tgt lv st) (kf : x = y → GG p l e R s m args below meth c Q D A nL ws pc' lv st) : GG p l e R s m args below meth c Q D A nL ws pc lv (.int (iI y) :: .int (iI x) :: st) := by
  subst hp
  exact fun H locs ls hP hD hS h => lv_icmp_ne F.1 F.2.1 hdg ht (fun h1 => kt (fun q => h1 ((iI_eq hx hy).mpr q)) H locs ls hP hD hS h) (fun h1 => kf ((iI_eq hx hy).mp h1) H locs ls hP hD hS h)
theorem g_if_ne (F : CallFix p m c cc nL s args Ts own) {x off : Int} (hdg : decode cc pc = .ok (.ifCond .ne off, 3)) (hp : pc + 3 = pc') (ht : (pc : Int) + off = (tgt : Int)) (hx : -2147483648 ≤ x ∧ x < 2147483648) (kt : x ≠ 0 → GG p l e R s m args below meth c Q D A nL ws tgt lv st) (kf : x = 0 → GG p l e R s m args below meth c Q D A nL ws pc' lv st) : GG p l e R s m args below meth c Q D A nL ws pc lv (.int (iI x) :: st) := by
  subst hp
  have hy : -2147483648 ≤ (0 : Int) ∧ (0 : Int) < 2147483648 := by omega
  intro H locs ls hP hD hS h
  refine lv_if_ne F.1 F.2.1 hdg ht (fun h1 => kt ?_ H locs ls hP hD hS h) (fun h1 => kf ?_ H locs ls hP hD hS h)
  · rw [← iI_0] at h1
    exact fun q => h1 ((iI_eq hx hy).mpr q)
  · rw [← iI_0] at h1
    exact (iI_eq hx hy).mp h1
end ROWS
