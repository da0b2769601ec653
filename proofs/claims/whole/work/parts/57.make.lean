/-! ===== constructors: rows ===== -/
theorem ra_u {s : State} {cA cB : ClassId} {ty : FieldType} (hty : ty = .int ∨ ty = .long ∨ ty = .boolean) (h : va_RA s cA ty) (h2 : va_RA s cB ty) : cA = cB := by
  rcases hty with rfl | rfl | rfl
  · exact Option.some.inj (Eq.trans (Eq.symm h) h2)
  · exact Option.some.inj (Eq.trans (Eq.symm h) h2)
  · exact Option.some.inj (Eq.trans (Eq.symm h) h2)
section MAKE
variable {p : Program} {l : Launch} {e : Env} {R : Room} {s : State} {m : MethodId} {args : Array Value} {below : List Frame} {meth : Method} {c : Code} {Q : State → Prop}
variable {D : va_G} {A : Nat → Prop} {nL : Nat} {ws : va_W} {pc : Nat} {rest : List Value} {cc : ByteArray} {Ts : List Cond} {own : String} {T : Nat → ClassId} {H : Heap} {locs : List Loc} {ls : Array Slot} {cells slots : Nat}
theorem n_new (F : CallFix p m c cc nL s args Ts own) (K : va_K D vwCl (tysT T) s) (hP : va_P D vwCl ws H) (hD : va_D A ws) (hS : va_S A s.heap H locs) (hA : ∀ q, s.heap.size ≤ q → A q) {i : Nat} {ty : FieldType} {atype : ArrayType} (hi : (tysT T)[i]? = some (T i, ty)) (hp : ty = .int ∨ ty = .long ∨ ty = .boolean) (hty : newarray.typeOf atype = ty) {z : Int} {n : Nat} {a0 : vp_A} (ha : ∀ cA : ClassId, vp_cell cA a0 = arrV cA n (fun _ => defaultValue ty)) (hz : z = (n : Int)) (hn : n < 2147483648) (harr : Cond.arrayClass (newarray.typeOf atype) ∈ Ts) (hbytes : n * componentBytes ty ≤ 536870912) (hcells : cells + 1 ≤ R.cells) (hslots : slots + n ≤ R.slots) (hdg : decode cc pc = .ok (.newarray atype, 2))
    (kk : ∀ (q : Nat) (H1 : Heap), va_P D vwCl (ws ++ [(q, .inl (T i, a0))]) H1 → va_D A (ws ++ [(q, .inl (T i, a0))]) → va_S A s.heap H1 locs → W p l e R s m args below meth c H1 locs (cells + 1) (slots + n) Q (F0 m (pc + 2) ls (.ref q :: rest))) : W p l e R s m args below meth c H locs cells slots Q (F0 m pc ls (.int (iI z) :: rest)) := by
  subst hz
  have hc := iI_clamp (z := (n : Int)) (by omega)
  refine va_newa F.1 F.2.1 (F.2.2.2.2 _ harr) hty K hP hD hS hA ha (by rw [← iI_0, iI_lt (by omega) (by omega)]; omega) (by omega) hbytes hcells hslots hdg (fun q cA H1 K1 hP1 hD1 hS1 => ?_)
  have e1 : cA = T i := ra_u hp (K1.2 (tysT T).length (cA, ty) (by rw [List.getElem?_append_right (Nat.le_refl _), Nat.sub_self]; rfl)).2 (K.2 i (T i, ty) hi).2
  subst e1
  exact kk q H1 hP1 hD1 hS1
end MAKE
