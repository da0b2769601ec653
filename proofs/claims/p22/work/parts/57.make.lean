/-! ===== constructors: rows ===== -/
theorem ra_u {s : State} {cA cB : ClassId} {ty : FieldType} (hty : ty = .int ∨ ty = .long ∨ ty = .boolean) (h : va_RA s cA ty) (h2 : va_RA s cB ty) : cA = cB := by
  rcases hty with rfl | rfl | rfl
  · exact Option.some.inj (Eq.trans (Eq.symm h) h2)
  · exact Option.some.inj (Eq.trans (Eq.symm h) h2)
  · exact Option.some.inj (Eq.trans (Eq.symm h) h2)
section MAKE
variable {p : Program} {l : Launch} {e : Env} {R : Room} {s : State} {m : MethodId} {args : Array Value} {below : List Frame} {meth : Method} {c : Code} {Q : State → Prop}
variable {D : va_G} {A : Nat → Prop} {nL : Nat} {ws : va_W} {pc : Nat} {rest : List Value} {cc : ByteArray} {Ts : List Cond} {own : String} {T : Nat → ClassId} {H : Heap} {locs : List Loc} {ls : Array Slot} {cells slots : Nat}
theorem n_new (F : CallFix p m c cc nL s args Ts own) (K : va_K D vwCl (tysT T) s) (hP : va_P D vwCl ws H) (hD : va_D A ws) (hS : va_S A s.heap H locs) (hA : ∀ q, s.heap.size ≤ q → A q) {i : Nat} {ty : FieldType} {atype : ArrayType} (hi : (tysT T)[i]? = some (T i, ty)) (hp : ty = .int ∨ ty = .long ∨ ty = .boolean) (hty : newarray.typeOf atype = ty) {z : Int} {n : Nat} {a0 : vp_A} (ha : ∀ cA : ClassId, vp_cell cA a0 = arrV cA n (fun _ => defaultValue ty)) (hz : z = (n : Int)) (hn : n < 2147483648) (harr : Cond.arrayClass (newarray.typeOf atype) ∈ Ts) (hbytes : n * componentBytes ty ≤ 536870912) (hcells : cells + 1 ≤ R.cells) (hslots : slots + n ≤ R.slots) (hdg : decode cc pc = .ok (.newarray atype, 2))
    (kk : ∀ (q : Nat) (H1 : Heap), va_P D vwCl (ws ++ [(q, .inl (T i, a0))]) H1 → va_D A (ws ++ [(q, .inl (T i, a0))]) → va_S A s.heap H1 locs → W p l e R s m args below meth c H1 locs (cells + 1) (slots + n) Q (F0 m (pc + 2) ls (.ref q :: rest))) : W p l e R s m args below meth c H locs cells slots Q (F0 m pc ls (.int (iI z) :: rest)) := by
  subst hz
  have hc := iI_clamp (z := (n : Int)) (by omega)
  refine va_newa F.1 F.2.1 (F.2.2.2.2 _ harr) hty K hP hD hS hA ha (by rw [← iI_0, iI_lt (by omega) (by omega)]; omega) (by omega) hbytes hcells hslots hdg (fun q cA H1 K1 hP1 hD1 hS1 => ?_)
  have e1 : cA = T i := ra_u hp (K1.2 (tysT T).length (cA, ty) (by rw [List.getElem?_append_right (Nat.le_refl _), Nat.sub_self]; rfl)).2 (K.2 i (T i, ty) hi).2
  subst e1
  exact kk q H1 hP1 hD1 hS1
end MAKE
def LX2 : List Kd := [(6, 0, [3, 0, 4]), (0, 30, []), (0, 3, [])]
def MZ : Mem := fun _ _ => 0
def o2 (h0 : Nat) : va_W := [(h0, .inr (2, [.null, .int 0, .null]))]
def aL (l : List Nat) : Nat → Nat := fun k => l.getD k 0
set_option maxHeartbeats 4000000 in
set_option maxRecDepth 100000 in
theorem n2_init (l : Launch) (D : va_G) (T : Nat → ClassId) (h0 sz : Nat) : Met l yX2_init wsX2_init ({ frames := 1, cells := 2, slots := 33, locals := 12 }) (va_Pc [.ref h0] (fun U => U.heap.size = sz ∧ va_P D vwCl (o2 h0) U.heap ∧ va_K D vwCl (tysT T) U ∧ va_D (fun _ => True) (o2 h0))) (va_Qv (fun a : Nat → Nat => a 0 = h0) (fun a t => va_P D vwCl (wld T a LX2 MZ) t.heap ∧ va_D (va_A (o2 h0) sz) (wld T a LX2 MZ)) (va_A (o2 h0) sz)) 2 33 (va_A (o2 h0) sz) := by
  refine Met.ofW (cc := cX2_init) (maxL := 1) (ret := none) (by decide) rfl ?_
  intro p e s m args below meth c s₁ B hml hv
  obtain ⟨rfl, hsz, hP, hK, hD0⟩ := hv
  have hx := B.exec
  have hb := B.bytes
  have hr := B.returns
  have hts := atoms_spec (ws := wsX2_init) B.pre
  have hown : s.vm.findClass RX2 = some m.cls := findClass_of_methodNamed B.named
  have hin : meth.name = "<init>" := (name_of_methodNamed B.named B.method).1
  subst hsz
  have hD := hD0.self (sz := s.heap.size)
  generalize hAe : va_A (o2 h0) s.heap.size = A at hD ⊢
  have hA : ∀ q : Nat, s.heap.size ≤ q → A q := fun q h => by rw [← hAe]; exact Or.inr h
  have hS : va_S A s.heap s.heap [] := va_S.rf
  have F : CallFix p m c cX2_init 1 s #[.ref h0] wsX2_init RX2 := ⟨hx, hb, hml, hown, hts⟩
  have hl := lv_entry ([.ref h0]) (n := 1) (Nat.le_of_ble_eq_true rfl)
  rw [lg_entry_eq]
  generalize (lg_sl ([.ref h0]) ++ List.replicate (1 - (lg_sl ([.ref h0])).length) Slot.unset).toArray = ls at hl ⊢
  have hl : lv_has ls 1 [(0, .ref h0)] := hl
  refine lv_aload_n hx hb dX2_init_0 rfl (lv_at hl 0 rfl) ?_
  refine W.objInit hx hb hown (hts _ (List.mem_of_getElem? (i := 1) rfl)) (hts _ (List.mem_of_getElem? (i := 2) rfl)) (hts _ (List.mem_of_getElem? (i := 3) rfl)) rfl (by rw [hml]; exact hl.1) rfl dX2_init_1 (Nat.le_of_ble_eq_true rfl) (Nat.le_of_ble_eq_true rfl) ?_
  refine W.eq (g2 := F0 m 4 ls []) rfl ?_
  refine lv_aload_n hx hb dX2_init_4 rfl (lv_at hl 0 rfl) ?_
  refine lv_bipush hx hb dX2_init_5 (v := iI 30) (by decide +kernel) ?_
  refine n_new (i := 0) (ty := .int) (atype := .int) (n := 30) (a0 := (30, .inl (fun _ => 0))) F hK hP hD hS hA rfl (Or.inl rfl) rfl (fun _ => rfl) rfl (by decide) (List.mem_of_getElem? (i := 4) rfl) (Nat.le_of_ble_eq_true rfl) (Nat.le_of_ble_eq_true rfl) (Nat.le_of_ble_eq_true rfl) dX2_init_7 (fun q1 H hP hD hS => ?_)
  have hw20 : ∀ w ∈ wsX20, w ∈ wsX2_init := fun _ h => List.mem_cons_of_mem _ (List.mem_append_right _ h)
  refine va_putF (ci := 2) (v := .ref q1) (ty := .array .int) (C := RX2) (T := TX2) (N := 3) hx hb hts hw20 tyX2 tyX2_ok nmX2 hown hK hP hD hS 0 rfl rfl 0 (by decide) (hts _ (List.mem_of_getElem? (i := 5) rfl)) (fun _ h9 => h9) rfl hin rfl (by decide +kernel) rfl rfl (Nat.le_of_ble_eq_true rfl) dX2_init_9 (fun H locs hP hD hS => ?_)
  refine lv_aload_n hx hb dX2_init_12 rfl (lv_at hl 0 rfl) ?_
  refine lv_iconst hx hb dX2_init_13 (v := iI 3) rfl ?_
  refine n_new (i := 0) (ty := .int) (atype := .int) (n := 3) (a0 := (3, .inl (fun _ => 0))) F hK hP hD hS hA rfl (Or.inl rfl) rfl (fun _ => rfl) rfl (by decide) (List.mem_of_getElem? (i := 4) rfl) (Nat.le_of_ble_eq_true rfl) (Nat.le_of_ble_eq_true rfl) (Nat.le_of_ble_eq_true rfl) dX2_init_14 (fun q2 H hP hD hS => ?_)
  refine va_putF (ci := 2) (v := .ref q2) (ty := .array .int) (C := RX2) (T := TX2) (N := 3) hx hb hts hw20 tyX2 tyX2_ok nmX2 hown hK hP hD hS 0 rfl rfl 2 (by decide) (hts _ (List.mem_of_getElem? (i := 6) rfl)) (fun _ h9 => h9) rfl hin rfl (by decide +kernel) rfl rfl (Nat.le_of_ble_eq_true rfl) dX2_init_16 (fun H locs hP hD hS => ?_)
  have hP9 : va_P D vwCl (wld T (aL [h0, q1, q2]) LX2 MZ) H := hP
  have hD9 : va_D A (wld T (aL [h0, q1, q2]) LX2 MZ) := hD
  exact W.vret hx hb hr (fun t ht hW => ⟨⟨aL [h0, q1, q2], rfl, rfl, by rw [ht]; exact hP9, hD9⟩, hS.F ht⟩) hS.2.2 dX2_init_19
def LX3 : List Kd := [(7, 0, [0, 3, 4, 5, 6, 7, 0, 8, 9, 10, 11]), (0, 8, []), (0, 8, []), (0, 8, []), (0, 8, []), (0, 8, []), (0, 8, []), (0, 8, []), (0, 8, []), (0, 8, [])]
def o3 (h0 : Nat) : va_W := [(h0, .inr (3, [.int 0, .null, .null, .null, .null, .null, .int 0, .null, .null, .null, .null]))]
set_option maxHeartbeats 4000000 in
set_option maxRecDepth 100000 in
theorem n3_init (l : Launch) (D : va_G) (T : Nat → ClassId) (h0 sz : Nat) : Met l yX3_init wsX3_init ({ frames := 1, cells := 9, slots := 72, locals := 12 }) (va_Pc [.ref h0] (fun U => U.heap.size = sz ∧ va_P D vwCl (o3 h0) U.heap ∧ va_K D vwCl (tysT T) U ∧ va_D (fun _ => True) (o3 h0))) (va_Qv (fun a : Nat → Nat => a 0 = h0) (fun a t => va_P D vwCl (wld T a LX3 MZ) t.heap ∧ va_D (va_A (o3 h0) sz) (wld T a LX3 MZ)) (va_A (o3 h0) sz)) 9 72 (va_A (o3 h0) sz) := by
  refine Met.ofW (cc := cX3_init) (maxL := 1) (ret := none) (by decide) rfl ?_
  intro p e s m args below meth c s₁ B hml hv
  obtain ⟨rfl, hsz, hP, hK, hD0⟩ := hv
  have hx := B.exec
  have hb := B.bytes
  have hr := B.returns
  have hts := atoms_spec (ws := wsX3_init) B.pre
  have hown : s.vm.findClass RX3 = some m.cls := findClass_of_methodNamed B.named
  have hin : meth.name = "<init>" := (name_of_methodNamed B.named B.method).1
  subst hsz
  have hD := hD0.self (sz := s.heap.size)
  generalize hAe : va_A (o3 h0) s.heap.size = A at hD ⊢
  have hA : ∀ q : Nat, s.heap.size ≤ q → A q := fun q h => by rw [← hAe]; exact Or.inr h
  have hS : va_S A s.heap s.heap [] := va_S.rf
  have F : CallFix p m c cX3_init 1 s #[.ref h0] wsX3_init RX3 := ⟨hx, hb, hml, hown, hts⟩
  have hl := lv_entry ([.ref h0]) (n := 1) (Nat.le_of_ble_eq_true rfl)
  rw [lg_entry_eq]
  generalize (lg_sl ([.ref h0]) ++ List.replicate (1 - (lg_sl ([.ref h0])).length) Slot.unset).toArray = ls at hl ⊢
  have hl : lv_has ls 1 [(0, .ref h0)] := hl
  have hwf : ∀ w ∈ wsX30, w ∈ wsX3_init := fun _ h => List.mem_cons_of_mem _ (List.mem_append_right _ h)
  refine lv_aload_n hx hb dX3_init_0 rfl (lv_at hl 0 rfl) ?_
  refine W.objInit hx hb hown (hts _ (List.mem_of_getElem? (i := 1) rfl)) (hts _ (List.mem_of_getElem? (i := 2) rfl)) (hts _ (List.mem_of_getElem? (i := 3) rfl)) rfl (by rw [hml]; exact hl.1) rfl dX3_init_1 (Nat.le_of_ble_eq_true rfl) (Nat.le_of_ble_eq_true rfl) ?_
  refine W.eq (g2 := F0 m 4 ls []) rfl ?_
  refine lv_aload_n hx hb dX3_init_4 rfl (lv_at hl 0 rfl) ?_
  refine lv_bipush hx hb dX3_init_5 (v := iI 8) (by decide +kernel) ?_
  refine n_new (i := 0) (ty := .int) (atype := .int) (n := 8) (a0 := (8, .inl (fun _ => 0))) F hK hP hD hS hA rfl (Or.inl rfl) rfl (fun _ => rfl) rfl (by decide) (List.mem_of_getElem? (i := 4) rfl) (Nat.le_of_ble_eq_true rfl) (Nat.le_of_ble_eq_true rfl) (Nat.le_of_ble_eq_true rfl) dX3_init_7 (fun q1 H hP hD hS => ?_)
  refine va_putF (ci := 3) (v := .ref q1) (ty := .array .int) (C := RX3) (T := TX3) (N := 11) hx hb hts hwf tyX3 tyX3_ok nmX3 hown hK hP hD hS 0 rfl rfl 1 (by decide) (hts _ (List.mem_of_getElem? (i := 5) rfl)) (fun _ h9 => h9) rfl hin rfl (by decide +kernel) rfl rfl (Nat.le_of_ble_eq_true rfl) dX3_init_9 (fun H locs hP hD hS => ?_)
  refine lv_aload_n hx hb dX3_init_12 rfl (lv_at hl 0 rfl) ?_
  refine lv_bipush hx hb dX3_init_13 (v := iI 8) (by decide +kernel) ?_
  refine n_new (i := 0) (ty := .int) (atype := .int) (n := 8) (a0 := (8, .inl (fun _ => 0))) F hK hP hD hS hA rfl (Or.inl rfl) rfl (fun _ => rfl) rfl (by decide) (List.mem_of_getElem? (i := 4) rfl) (Nat.le_of_ble_eq_true rfl) (Nat.le_of_ble_eq_true rfl) (Nat.le_of_ble_eq_true rfl) dX3_init_15 (fun q2 H hP hD hS => ?_)
  refine va_putF (ci := 3) (v := .ref q2) (ty := .array .int) (C := RX3) (T := TX3) (N := 11) hx hb hts hwf tyX3 tyX3_ok nmX3 hown hK hP hD hS 0 rfl rfl 2 (by decide) (hts _ (List.mem_of_getElem? (i := 6) rfl)) (fun _ h9 => h9) rfl hin rfl (by decide +kernel) rfl rfl (Nat.le_of_ble_eq_true rfl) dX3_init_17 (fun H locs hP hD hS => ?_)
  refine lv_aload_n hx hb dX3_init_20 rfl (lv_at hl 0 rfl) ?_
  refine lv_bipush hx hb dX3_init_21 (v := iI 8) (by decide +kernel) ?_
  refine n_new (i := 0) (ty := .int) (atype := .int) (n := 8) (a0 := (8, .inl (fun _ => 0))) F hK hP hD hS hA rfl (Or.inl rfl) rfl (fun _ => rfl) rfl (by decide) (List.mem_of_getElem? (i := 4) rfl) (Nat.le_of_ble_eq_true rfl) (Nat.le_of_ble_eq_true rfl) (Nat.le_of_ble_eq_true rfl) dX3_init_23 (fun q3 H hP hD hS => ?_)
  refine va_putF (ci := 3) (v := .ref q3) (ty := .array .int) (C := RX3) (T := TX3) (N := 11) hx hb hts hwf tyX3 tyX3_ok nmX3 hown hK hP hD hS 0 rfl rfl 3 (by decide) (hts _ (List.mem_of_getElem? (i := 7) rfl)) (fun _ h9 => h9) rfl hin rfl (by decide +kernel) rfl rfl (Nat.le_of_ble_eq_true rfl) dX3_init_25 (fun H locs hP hD hS => ?_)
  refine lv_aload_n hx hb dX3_init_28 rfl (lv_at hl 0 rfl) ?_
  refine lv_bipush hx hb dX3_init_29 (v := iI 8) (by decide +kernel) ?_
  refine n_new (i := 0) (ty := .int) (atype := .int) (n := 8) (a0 := (8, .inl (fun _ => 0))) F hK hP hD hS hA rfl (Or.inl rfl) rfl (fun _ => rfl) rfl (by decide) (List.mem_of_getElem? (i := 4) rfl) (Nat.le_of_ble_eq_true rfl) (Nat.le_of_ble_eq_true rfl) (Nat.le_of_ble_eq_true rfl) dX3_init_31 (fun q4 H hP hD hS => ?_)
  refine va_putF (ci := 3) (v := .ref q4) (ty := .array .int) (C := RX3) (T := TX3) (N := 11) hx hb hts hwf tyX3 tyX3_ok nmX3 hown hK hP hD hS 0 rfl rfl 4 (by decide) (hts _ (List.mem_of_getElem? (i := 8) rfl)) (fun _ h9 => h9) rfl hin rfl (by decide +kernel) rfl rfl (Nat.le_of_ble_eq_true rfl) dX3_init_33 (fun H locs hP hD hS => ?_)
  refine lv_aload_n hx hb dX3_init_36 rfl (lv_at hl 0 rfl) ?_
  refine lv_bipush hx hb dX3_init_37 (v := iI 8) (by decide +kernel) ?_
  refine n_new (i := 0) (ty := .int) (atype := .int) (n := 8) (a0 := (8, .inl (fun _ => 0))) F hK hP hD hS hA rfl (Or.inl rfl) rfl (fun _ => rfl) rfl (by decide) (List.mem_of_getElem? (i := 4) rfl) (Nat.le_of_ble_eq_true rfl) (Nat.le_of_ble_eq_true rfl) (Nat.le_of_ble_eq_true rfl) dX3_init_39 (fun q5 H hP hD hS => ?_)
  refine va_putF (ci := 3) (v := .ref q5) (ty := .array .int) (C := RX3) (T := TX3) (N := 11) hx hb hts hwf tyX3 tyX3_ok nmX3 hown hK hP hD hS 0 rfl rfl 5 (by decide) (hts _ (List.mem_of_getElem? (i := 9) rfl)) (fun _ h9 => h9) rfl hin rfl (by decide +kernel) rfl rfl (Nat.le_of_ble_eq_true rfl) dX3_init_41 (fun H locs hP hD hS => ?_)
  refine lv_aload_n hx hb dX3_init_44 rfl (lv_at hl 0 rfl) ?_
  refine lv_bipush hx hb dX3_init_45 (v := iI 8) (by decide +kernel) ?_
  refine n_new (i := 0) (ty := .int) (atype := .int) (n := 8) (a0 := (8, .inl (fun _ => 0))) F hK hP hD hS hA rfl (Or.inl rfl) rfl (fun _ => rfl) rfl (by decide) (List.mem_of_getElem? (i := 4) rfl) (Nat.le_of_ble_eq_true rfl) (Nat.le_of_ble_eq_true rfl) (Nat.le_of_ble_eq_true rfl) dX3_init_47 (fun q6 H hP hD hS => ?_)
  refine va_putF (ci := 3) (v := .ref q6) (ty := .array .int) (C := RX3) (T := TX3) (N := 11) hx hb hts hwf tyX3 tyX3_ok nmX3 hown hK hP hD hS 0 rfl rfl 7 (by decide) (hts _ (List.mem_of_getElem? (i := 10) rfl)) (fun _ h9 => h9) rfl hin rfl (by decide +kernel) rfl rfl (Nat.le_of_ble_eq_true rfl) dX3_init_49 (fun H locs hP hD hS => ?_)
  refine lv_aload_n hx hb dX3_init_52 rfl (lv_at hl 0 rfl) ?_
  refine lv_bipush hx hb dX3_init_53 (v := iI 8) (by decide +kernel) ?_
  refine n_new (i := 0) (ty := .int) (atype := .int) (n := 8) (a0 := (8, .inl (fun _ => 0))) F hK hP hD hS hA rfl (Or.inl rfl) rfl (fun _ => rfl) rfl (by decide) (List.mem_of_getElem? (i := 4) rfl) (Nat.le_of_ble_eq_true rfl) (Nat.le_of_ble_eq_true rfl) (Nat.le_of_ble_eq_true rfl) dX3_init_55 (fun q7 H hP hD hS => ?_)
  refine va_putF (ci := 3) (v := .ref q7) (ty := .array .int) (C := RX3) (T := TX3) (N := 11) hx hb hts hwf tyX3 tyX3_ok nmX3 hown hK hP hD hS 0 rfl rfl 8 (by decide) (hts _ (List.mem_of_getElem? (i := 11) rfl)) (fun _ h9 => h9) rfl hin rfl (by decide +kernel) rfl rfl (Nat.le_of_ble_eq_true rfl) dX3_init_57 (fun H locs hP hD hS => ?_)
  refine lv_aload_n hx hb dX3_init_60 rfl (lv_at hl 0 rfl) ?_
  refine lv_bipush hx hb dX3_init_61 (v := iI 8) (by decide +kernel) ?_
  refine n_new (i := 0) (ty := .int) (atype := .int) (n := 8) (a0 := (8, .inl (fun _ => 0))) F hK hP hD hS hA rfl (Or.inl rfl) rfl (fun _ => rfl) rfl (by decide) (List.mem_of_getElem? (i := 4) rfl) (Nat.le_of_ble_eq_true rfl) (Nat.le_of_ble_eq_true rfl) (Nat.le_of_ble_eq_true rfl) dX3_init_63 (fun q8 H hP hD hS => ?_)
  refine va_putF (ci := 3) (v := .ref q8) (ty := .array .int) (C := RX3) (T := TX3) (N := 11) hx hb hts hwf tyX3 tyX3_ok nmX3 hown hK hP hD hS 0 rfl rfl 9 (by decide) (hts _ (List.mem_of_getElem? (i := 12) rfl)) (fun _ h9 => h9) rfl hin rfl (by decide +kernel) rfl rfl (Nat.le_of_ble_eq_true rfl) dX3_init_65 (fun H locs hP hD hS => ?_)
  refine lv_aload_n hx hb dX3_init_68 rfl (lv_at hl 0 rfl) ?_
  refine lv_bipush hx hb dX3_init_69 (v := iI 8) (by decide +kernel) ?_
  refine n_new (i := 0) (ty := .int) (atype := .int) (n := 8) (a0 := (8, .inl (fun _ => 0))) F hK hP hD hS hA rfl (Or.inl rfl) rfl (fun _ => rfl) rfl (by decide) (List.mem_of_getElem? (i := 4) rfl) (Nat.le_of_ble_eq_true rfl) (Nat.le_of_ble_eq_true rfl) (Nat.le_of_ble_eq_true rfl) dX3_init_71 (fun q9 H hP hD hS => ?_)
  refine va_putF (ci := 3) (v := .ref q9) (ty := .array .int) (C := RX3) (T := TX3) (N := 11) hx hb hts hwf tyX3 tyX3_ok nmX3 hown hK hP hD hS 0 rfl rfl 10 (by decide) (hts _ (List.mem_of_getElem? (i := 13) rfl)) (fun _ h9 => h9) rfl hin rfl (by decide +kernel) rfl rfl (Nat.le_of_ble_eq_true rfl) dX3_init_73 (fun H locs hP hD hS => ?_)
  have hP9 : va_P D vwCl (wld T (aL [h0, q1, q2, q3, q4, q5, q6, q7, q8, q9]) LX3 MZ) H := hP
  have hD9 : va_D A (wld T (aL [h0, q1, q2, q3, q4, q5, q6, q7, q8, q9]) LX3 MZ) := hD
  exact W.vret hx hb hr (fun t ht hW => ⟨⟨aL [h0, q1, q2, q3, q4, q5, q6, q7, q8, q9], rfl, rfl, by rw [ht]; exact hP9, hD9⟩, hS.F ht⟩) hS.2.2 dX3_init_76

