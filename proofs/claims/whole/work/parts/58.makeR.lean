/-! ===== the reference: its constructor ===== -/
def rul0 : Int → Int := fun j => if j = 0 then 20 else if j = 1 then 1 else if j = 2 then 1 else 0
def MR0 : Mem := sc MZ 2 rul0
theorem hrul : upd (upd (upd (fun _ : Nat => (0 : Int32)) (iI 0).toNatClampNeg (iI 20)) (iI 1).toNatClampNeg (iI 1)) (iI 2).toNatClampNeg (iI 1) = fun j : Nat => iI (rul0 (j : Int)) := by
  have e0 : (iI 0).toNatClampNeg = 0 := rfl
  have e1 : (iI 1).toNatClampNeg = 1 := rfl
  have e2 : (iI 2).toNatClampNeg = 2 := rfl
  rw [e0, e1, e2]
  funext j
  unfold upd rul0
  match j with
  | 0 => rfl
  | 1 => rfl
  | 2 => rfl
  | j + 3 =>
    rw [if_neg (by omega), if_neg (by omega), if_neg (by omega), if_neg (by omega), if_neg (by omega), if_neg (by omega)]
    rfl
def o5 (h0 : Nat) : va_W := [(h0, .inr (5, [.null, .int 0, .null, .int 0, .null, .null, .null, .null, .null, .null, .null, .int 0, .null, .null, .null, .null, .int 0, .null, .null, .null, .long 0, .null, .null]))]
set_option maxHeartbeats 4000000 in
set_option maxRecDepth 100000 in
theorem n5_init (l : Launch) (D : va_G) (T : Nat → ClassId) (h0 sz : Nat) : Met l yX5_init wsX5_init ({ frames := 1, cells := 18, slots := 829, locals := 12 }) (va_Pc [.ref h0] (fun U => U.heap.size = sz ∧ va_P D vwCl (o5 h0) U.heap ∧ va_K D vwCl (tysT T) U ∧ va_D (fun _ => True) (o5 h0))) (va_Qv (fun a : Nat → Nat => a 0 = h0) (fun a t => va_P D vwCl (wld T a LR MR0) t.heap ∧ va_D (va_A (o5 h0) sz) (wld T a LR MR0)) (va_A (o5 h0) sz)) 18 829 (va_A (o5 h0) sz) := by
  refine Met.ofW (cc := cX5_init) (maxL := 1) (ret := none) (by decide) rfl ?_
  intro p e s m args below meth c s₁ B hml hv
  obtain ⟨rfl, hsz, hP, hK, hD0⟩ := hv
  have hx := B.exec
  have hb := B.bytes
  have hr := B.returns
  have hts := atoms_spec (ws := wsX5_init) B.pre
  have hown : s.vm.findClass RX5 = some m.cls := findClass_of_methodNamed B.named
  have hin : meth.name = "<init>" := (name_of_methodNamed B.named B.method).1
  subst hsz
  have hD := hD0.self (sz := s.heap.size)
  generalize hAe : va_A (o5 h0) s.heap.size = A at hD ⊢
  have hA : ∀ q : Nat, s.heap.size ≤ q → A q := fun q h => by rw [← hAe]; exact Or.inr h
  have hS : va_S A s.heap s.heap [] := va_S.rf
  have F : CallFix p m c cX5_init 1 s #[.ref h0] wsX5_init RX5 := ⟨hx, hb, hml, hown, hts⟩
  have hl := lv_entry ([.ref h0]) (n := 1) (Nat.le_of_ble_eq_true rfl)
  rw [lg_entry_eq]
  generalize (lg_sl ([.ref h0]) ++ List.replicate (1 - (lg_sl ([.ref h0])).length) Slot.unset).toArray = ls at hl ⊢
  have hl : lv_has ls 1 [(0, .ref h0)] := hl
  have hwf : ∀ w ∈ wsX50, w ∈ wsX5_init := fun _ h => List.mem_cons_of_mem _ (List.mem_append_right _ h)
  refine lv_aload_n hx hb dX5_init_0 rfl (lv_at hl 0 rfl) ?_
  refine W.objInit hx hb hown (hts _ (List.mem_of_getElem? (i := 1) rfl)) (hts _ (List.mem_of_getElem? (i := 2) rfl)) (hts _ (List.mem_of_getElem? (i := 3) rfl)) rfl (by rw [hml]; exact hl.1) rfl dX5_init_1 (Nat.le_of_ble_eq_true rfl) (Nat.le_of_ble_eq_true rfl) ?_
  refine W.eq (g2 := F0 m 4 ls []) rfl ?_
  refine lv_aload_n hx hb dX5_init_4 rfl (lv_at hl 0 rfl) ?_
  refine lv_bipush hx hb dX5_init_5 (v := iI 64) (by decide +kernel) ?_
  refine n_new (i := 0) (ty := .int) (atype := .int) (n := 64) (a0 := (64, .inl (fun _ => 0))) F hK hP hD hS hA rfl (Or.inl rfl) rfl (fun _ => rfl) rfl (by decide) (List.mem_of_getElem? (i := 4) rfl) (Nat.le_of_ble_eq_true rfl) (Nat.le_of_ble_eq_true rfl) (Nat.le_of_ble_eq_true rfl) dX5_init_7 (fun q1 H hP hD hS => ?_)
  refine va_putF (ci := 5) (v := .ref q1) (ty := .array .int) (C := RX5) (T := TX5) (N := 23) hx hb hts hwf tyX5 tyX5_ok nmX5 hown hK hP hD hS 0 rfl rfl 0 (by decide) (hts _ (List.mem_of_getElem? (i := 5) rfl)) (fun _ h9 => h9) rfl hin rfl (by decide +kernel) rfl rfl (Nat.le_of_ble_eq_true rfl) dX5_init_9 (fun H locs hP hD hS => ?_)
  refine lv_aload_n hx hb dX5_init_12 rfl (lv_at hl 0 rfl) ?_
  refine lv_iconst hx hb dX5_init_13 (v := iI 5) rfl ?_
  refine n_new (i := 0) (ty := .int) (atype := .int) (n := 5) (a0 := (5, .inl (fun _ => 0))) F hK hP hD hS hA rfl (Or.inl rfl) rfl (fun _ => rfl) rfl (by decide) (List.mem_of_getElem? (i := 4) rfl) (Nat.le_of_ble_eq_true rfl) (Nat.le_of_ble_eq_true rfl) (Nat.le_of_ble_eq_true rfl) dX5_init_14 (fun q2 H hP hD hS => ?_)
  refine va_putF (ci := 5) (v := .ref q2) (ty := .array .int) (C := RX5) (T := TX5) (N := 23) hx hb hts hwf tyX5 tyX5_ok nmX5 hown hK hP hD hS 0 rfl rfl 2 (by decide) (hts _ (List.mem_of_getElem? (i := 6) rfl)) (fun _ h9 => h9) rfl hin rfl (by decide +kernel) rfl rfl (Nat.le_of_ble_eq_true rfl) dX5_init_16 (fun H locs hP hD hS => ?_)
  refine lv_aload_n hx hb dX5_init_19 rfl (lv_at hl 0 rfl) ?_
  refine lv_bipush hx hb dX5_init_20 (v := iI 30) (by decide +kernel) ?_
  refine n_new (i := 0) (ty := .int) (atype := .int) (n := 30) (a0 := (30, .inl (fun _ => 0))) F hK hP hD hS hA rfl (Or.inl rfl) rfl (fun _ => rfl) rfl (by decide) (List.mem_of_getElem? (i := 4) rfl) (Nat.le_of_ble_eq_true rfl) (Nat.le_of_ble_eq_true rfl) (Nat.le_of_ble_eq_true rfl) dX5_init_22 (fun q3 H hP hD hS => ?_)
  refine va_putF (ci := 5) (v := .ref q3) (ty := .array .int) (C := RX5) (T := TX5) (N := 23) hx hb hts hwf tyX5 tyX5_ok nmX5 hown hK hP hD hS 0 rfl rfl 4 (by decide) (hts _ (List.mem_of_getElem? (i := 7) rfl)) (fun _ h9 => h9) rfl hin rfl (by decide +kernel) rfl rfl (Nat.le_of_ble_eq_true rfl) dX5_init_24 (fun H locs hP hD hS => ?_)
  refine lv_aload_n hx hb dX5_init_27 rfl (lv_at hl 0 rfl) ?_
  refine lv_iconst hx hb dX5_init_28 (v := iI 4) rfl ?_
  refine n_new (i := 0) (ty := .int) (atype := .int) (n := 4) (a0 := (4, .inl (fun _ => 0))) F hK hP hD hS hA rfl (Or.inl rfl) rfl (fun _ => rfl) rfl (by decide) (List.mem_of_getElem? (i := 4) rfl) (Nat.le_of_ble_eq_true rfl) (Nat.le_of_ble_eq_true rfl) (Nat.le_of_ble_eq_true rfl) dX5_init_29 (fun q4 H hP hD hS => ?_)
  refine va_putF (ci := 5) (v := .ref q4) (ty := .array .int) (C := RX5) (T := TX5) (N := 23) hx hb hts hwf tyX5 tyX5_ok nmX5 hown hK hP hD hS 0 rfl rfl 5 (by decide) (hts _ (List.mem_of_getElem? (i := 8) rfl)) (fun _ h9 => h9) rfl hin rfl (by decide +kernel) rfl rfl (Nat.le_of_ble_eq_true rfl) dX5_init_31 (fun H locs hP hD hS => ?_)
  refine lv_aload_n hx hb dX5_init_34 rfl (lv_at hl 0 rfl) ?_
  refine lv_bipush hx hb dX5_init_35 (v := iI 8) (by decide +kernel) ?_
  refine n_new (i := 0) (ty := .int) (atype := .int) (n := 8) (a0 := (8, .inl (fun _ => 0))) F hK hP hD hS hA rfl (Or.inl rfl) rfl (fun _ => rfl) rfl (by decide) (List.mem_of_getElem? (i := 4) rfl) (Nat.le_of_ble_eq_true rfl) (Nat.le_of_ble_eq_true rfl) (Nat.le_of_ble_eq_true rfl) dX5_init_37 (fun q5 H hP hD hS => ?_)
  refine va_putF (ci := 5) (v := .ref q5) (ty := .array .int) (C := RX5) (T := TX5) (N := 23) hx hb hts hwf tyX5 tyX5_ok nmX5 hown hK hP hD hS 0 rfl rfl 6 (by decide) (hts _ (List.mem_of_getElem? (i := 9) rfl)) (fun _ h9 => h9) rfl hin rfl (by decide +kernel) rfl rfl (Nat.le_of_ble_eq_true rfl) dX5_init_39 (fun H locs hP hD hS => ?_)
  refine lv_aload_n hx hb dX5_init_42 rfl (lv_at hl 0 rfl) ?_
  refine lv_bipush hx hb dX5_init_43 (v := iI 8) (by decide +kernel) ?_
  refine n_new (i := 0) (ty := .int) (atype := .int) (n := 8) (a0 := (8, .inl (fun _ => 0))) F hK hP hD hS hA rfl (Or.inl rfl) rfl (fun _ => rfl) rfl (by decide) (List.mem_of_getElem? (i := 4) rfl) (Nat.le_of_ble_eq_true rfl) (Nat.le_of_ble_eq_true rfl) (Nat.le_of_ble_eq_true rfl) dX5_init_45 (fun q6 H hP hD hS => ?_)
  refine va_putF (ci := 5) (v := .ref q6) (ty := .array .int) (C := RX5) (T := TX5) (N := 23) hx hb hts hwf tyX5 tyX5_ok nmX5 hown hK hP hD hS 0 rfl rfl 7 (by decide) (hts _ (List.mem_of_getElem? (i := 10) rfl)) (fun _ h9 => h9) rfl hin rfl (by decide +kernel) rfl rfl (Nat.le_of_ble_eq_true rfl) dX5_init_47 (fun H locs hP hD hS => ?_)
  refine lv_aload_n hx hb dX5_init_50 rfl (lv_at hl 0 rfl) ?_
  refine lv_bipush hx hb dX5_init_51 (v := iI 8) (by decide +kernel) ?_
  refine n_new (i := 0) (ty := .int) (atype := .int) (n := 8) (a0 := (8, .inl (fun _ => 0))) F hK hP hD hS hA rfl (Or.inl rfl) rfl (fun _ => rfl) rfl (by decide) (List.mem_of_getElem? (i := 4) rfl) (Nat.le_of_ble_eq_true rfl) (Nat.le_of_ble_eq_true rfl) (Nat.le_of_ble_eq_true rfl) dX5_init_53 (fun q7 H hP hD hS => ?_)
  refine va_putF (ci := 5) (v := .ref q7) (ty := .array .int) (C := RX5) (T := TX5) (N := 23) hx hb hts hwf tyX5 tyX5_ok nmX5 hown hK hP hD hS 0 rfl rfl 8 (by decide) (hts _ (List.mem_of_getElem? (i := 11) rfl)) (fun _ h9 => h9) rfl hin rfl (by decide +kernel) rfl rfl (Nat.le_of_ble_eq_true rfl) dX5_init_55 (fun H locs hP hD hS => ?_)
  refine lv_aload_n hx hb dX5_init_58 rfl (lv_at hl 0 rfl) ?_
  refine lv_bipush hx hb dX5_init_59 (v := iI 8) (by decide +kernel) ?_
  refine n_new (i := 0) (ty := .int) (atype := .int) (n := 8) (a0 := (8, .inl (fun _ => 0))) F hK hP hD hS hA rfl (Or.inl rfl) rfl (fun _ => rfl) rfl (by decide) (List.mem_of_getElem? (i := 4) rfl) (Nat.le_of_ble_eq_true rfl) (Nat.le_of_ble_eq_true rfl) (Nat.le_of_ble_eq_true rfl) dX5_init_61 (fun q8 H hP hD hS => ?_)
  refine va_putF (ci := 5) (v := .ref q8) (ty := .array .int) (C := RX5) (T := TX5) (N := 23) hx hb hts hwf tyX5 tyX5_ok nmX5 hown hK hP hD hS 0 rfl rfl 9 (by decide) (hts _ (List.mem_of_getElem? (i := 12) rfl)) (fun _ h9 => h9) rfl hin rfl (by decide +kernel) rfl rfl (Nat.le_of_ble_eq_true rfl) dX5_init_63 (fun H locs hP hD hS => ?_)
  refine lv_aload_n hx hb dX5_init_66 rfl (lv_at hl 0 rfl) ?_
  refine lv_bipush hx hb dX5_init_67 (v := iI 8) (by decide +kernel) ?_
  refine n_new (i := 0) (ty := .int) (atype := .int) (n := 8) (a0 := (8, .inl (fun _ => 0))) F hK hP hD hS hA rfl (Or.inl rfl) rfl (fun _ => rfl) rfl (by decide) (List.mem_of_getElem? (i := 4) rfl) (Nat.le_of_ble_eq_true rfl) (Nat.le_of_ble_eq_true rfl) (Nat.le_of_ble_eq_true rfl) dX5_init_69 (fun q9 H hP hD hS => ?_)
  refine va_putF (ci := 5) (v := .ref q9) (ty := .array .int) (C := RX5) (T := TX5) (N := 23) hx hb hts hwf tyX5 tyX5_ok nmX5 hown hK hP hD hS 0 rfl rfl 10 (by decide) (hts _ (List.mem_of_getElem? (i := 13) rfl)) (fun _ h9 => h9) rfl hin rfl (by decide +kernel) rfl rfl (Nat.le_of_ble_eq_true rfl) dX5_init_71 (fun H locs hP hD hS => ?_)
  refine lv_aload_n hx hb dX5_init_74 rfl (lv_at hl 0 rfl) ?_
  refine lv_bipush hx hb dX5_init_75 (v := iI 16) (by decide +kernel) ?_
  refine n_new (i := 0) (ty := .int) (atype := .int) (n := 16) (a0 := (16, .inl (fun _ => 0))) F hK hP hD hS hA rfl (Or.inl rfl) rfl (fun _ => rfl) rfl (by decide) (List.mem_of_getElem? (i := 4) rfl) (Nat.le_of_ble_eq_true rfl) (Nat.le_of_ble_eq_true rfl) (Nat.le_of_ble_eq_true rfl) dX5_init_77 (fun q10 H hP hD hS => ?_)
  refine va_putF (ci := 5) (v := .ref q10) (ty := .array .int) (C := RX5) (T := TX5) (N := 23) hx hb hts hwf tyX5 tyX5_ok nmX5 hown hK hP hD hS 0 rfl rfl 12 (by decide) (hts _ (List.mem_of_getElem? (i := 14) rfl)) (fun _ h9 => h9) rfl hin rfl (by decide +kernel) rfl rfl (Nat.le_of_ble_eq_true rfl) dX5_init_79 (fun H locs hP hD hS => ?_)
  refine lv_aload_n hx hb dX5_init_82 rfl (lv_at hl 0 rfl) ?_
  refine lv_bipush hx hb dX5_init_83 (v := iI 8) (by decide +kernel) ?_
  refine n_new (i := 0) (ty := .int) (atype := .int) (n := 8) (a0 := (8, .inl (fun _ => 0))) F hK hP hD hS hA rfl (Or.inl rfl) rfl (fun _ => rfl) rfl (by decide) (List.mem_of_getElem? (i := 4) rfl) (Nat.le_of_ble_eq_true rfl) (Nat.le_of_ble_eq_true rfl) (Nat.le_of_ble_eq_true rfl) dX5_init_85 (fun q11 H hP hD hS => ?_)
  refine va_putF (ci := 5) (v := .ref q11) (ty := .array .int) (C := RX5) (T := TX5) (N := 23) hx hb hts hwf tyX5 tyX5_ok nmX5 hown hK hP hD hS 0 rfl rfl 13 (by decide) (hts _ (List.mem_of_getElem? (i := 15) rfl)) (fun _ h9 => h9) rfl hin rfl (by decide +kernel) rfl rfl (Nat.le_of_ble_eq_true rfl) dX5_init_87 (fun H locs hP hD hS => ?_)
  refine lv_aload_n hx hb dX5_init_90 rfl (lv_at hl 0 rfl) ?_
  refine lv_bipush hx hb dX5_init_91 (v := iI 8) (by decide +kernel) ?_
  refine n_new (i := 0) (ty := .int) (atype := .int) (n := 8) (a0 := (8, .inl (fun _ => 0))) F hK hP hD hS hA rfl (Or.inl rfl) rfl (fun _ => rfl) rfl (by decide) (List.mem_of_getElem? (i := 4) rfl) (Nat.le_of_ble_eq_true rfl) (Nat.le_of_ble_eq_true rfl) (Nat.le_of_ble_eq_true rfl) dX5_init_93 (fun q12 H hP hD hS => ?_)
  refine va_putF (ci := 5) (v := .ref q12) (ty := .array .int) (C := RX5) (T := TX5) (N := 23) hx hb hts hwf tyX5 tyX5_ok nmX5 hown hK hP hD hS 0 rfl rfl 14 (by decide) (hts _ (List.mem_of_getElem? (i := 16) rfl)) (fun _ h9 => h9) rfl hin rfl (by decide +kernel) rfl rfl (Nat.le_of_ble_eq_true rfl) dX5_init_95 (fun H locs hP hD hS => ?_)
  refine lv_aload_n hx hb dX5_init_98 rfl (lv_at hl 0 rfl) ?_
  refine lv_bipush hx hb dX5_init_99 (v := iI 8) (by decide +kernel) ?_
  refine n_new (i := 0) (ty := .int) (atype := .int) (n := 8) (a0 := (8, .inl (fun _ => 0))) F hK hP hD hS hA rfl (Or.inl rfl) rfl (fun _ => rfl) rfl (by decide) (List.mem_of_getElem? (i := 4) rfl) (Nat.le_of_ble_eq_true rfl) (Nat.le_of_ble_eq_true rfl) (Nat.le_of_ble_eq_true rfl) dX5_init_101 (fun q13 H hP hD hS => ?_)
  refine va_putF (ci := 5) (v := .ref q13) (ty := .array .int) (C := RX5) (T := TX5) (N := 23) hx hb hts hwf tyX5 tyX5_ok nmX5 hown hK hP hD hS 0 rfl rfl 15 (by decide) (hts _ (List.mem_of_getElem? (i := 17) rfl)) (fun _ h9 => h9) rfl hin rfl (by decide +kernel) rfl rfl (Nat.le_of_ble_eq_true rfl) dX5_init_103 (fun H locs hP hD hS => ?_)
  refine lv_aload_n hx hb dX5_init_106 rfl (lv_at hl 0 rfl) ?_
  refine lv_sipush hx hb dX5_init_107 (v := iI 488) (by decide +kernel) ?_
  refine n_new (i := 1) (ty := .long) (atype := .long) (n := 488) (a0 := (488, .inr (.inl (fun _ => 0)))) F hK hP hD hS hA rfl (Or.inr (Or.inl rfl)) rfl (fun _ => rfl) rfl (by decide) (List.mem_of_getElem? (i := 18) rfl) (Nat.le_of_ble_eq_true rfl) (Nat.le_of_ble_eq_true rfl) (Nat.le_of_ble_eq_true rfl) dX5_init_110 (fun q14 H hP hD hS => ?_)
  refine va_putF (ci := 5) (v := .ref q14) (ty := .array .long) (C := RX5) (T := TX5) (N := 23) hx hb hts hwf tyX5 tyX5_ok nmX5 hown hK hP hD hS 0 rfl rfl 17 (by decide) (hts _ (List.mem_of_getElem? (i := 19) rfl)) (fun _ h9 => h9) rfl hin rfl (by decide +kernel) rfl rfl (Nat.le_of_ble_eq_true rfl) dX5_init_112 (fun H locs hP hD hS => ?_)
  refine lv_aload_n hx hb dX5_init_115 rfl (lv_at hl 0 rfl) ?_
  refine lv_bipush hx hb dX5_init_116 (v := iI 8) (by decide +kernel) ?_
  refine n_new (i := 0) (ty := .int) (atype := .int) (n := 8) (a0 := (8, .inl (fun _ => 0))) F hK hP hD hS hA rfl (Or.inl rfl) rfl (fun _ => rfl) rfl (by decide) (List.mem_of_getElem? (i := 4) rfl) (Nat.le_of_ble_eq_true rfl) (Nat.le_of_ble_eq_true rfl) (Nat.le_of_ble_eq_true rfl) dX5_init_118 (fun q15 H hP hD hS => ?_)
  refine va_putF (ci := 5) (v := .ref q15) (ty := .array .int) (C := RX5) (T := TX5) (N := 23) hx hb hts hwf tyX5 tyX5_ok nmX5 hown hK hP hD hS 0 rfl rfl 18 (by decide) (hts _ (List.mem_of_getElem? (i := 20) rfl)) (fun _ h9 => h9) rfl hin rfl (by decide +kernel) rfl rfl (Nat.le_of_ble_eq_true rfl) dX5_init_120 (fun H locs hP hD hS => ?_)
  refine lv_aload_n hx hb dX5_init_123 rfl (lv_at hl 0 rfl) ?_
  refine lv_bipush hx hb dX5_init_124 (v := iI 8) (by decide +kernel) ?_
  refine n_new (i := 0) (ty := .int) (atype := .int) (n := 8) (a0 := (8, .inl (fun _ => 0))) F hK hP hD hS hA rfl (Or.inl rfl) rfl (fun _ => rfl) rfl (by decide) (List.mem_of_getElem? (i := 4) rfl) (Nat.le_of_ble_eq_true rfl) (Nat.le_of_ble_eq_true rfl) (Nat.le_of_ble_eq_true rfl) dX5_init_126 (fun q16 H hP hD hS => ?_)
  refine va_putF (ci := 5) (v := .ref q16) (ty := .array .int) (C := RX5) (T := TX5) (N := 23) hx hb hts hwf tyX5 tyX5_ok nmX5 hown hK hP hD hS 0 rfl rfl 19 (by decide) (hts _ (List.mem_of_getElem? (i := 21) rfl)) (fun _ h9 => h9) rfl hin rfl (by decide +kernel) rfl rfl (Nat.le_of_ble_eq_true rfl) dX5_init_128 (fun H locs hP hD hS => ?_)
  refine lv_aload_n hx hb dX5_init_131 rfl (lv_at hl 0 rfl) ?_
  refine lv_sipush hx hb dX5_init_132 (v := iI 140) (by decide +kernel) ?_
  refine n_new (i := 0) (ty := .int) (atype := .int) (n := 140) (a0 := (140, .inl (fun _ => 0))) F hK hP hD hS hA rfl (Or.inl rfl) rfl (fun _ => rfl) rfl (by decide) (List.mem_of_getElem? (i := 4) rfl) (Nat.le_of_ble_eq_true rfl) (Nat.le_of_ble_eq_true rfl) (Nat.le_of_ble_eq_true rfl) dX5_init_135 (fun q17 H hP hD hS => ?_)
  refine va_putF (ci := 5) (v := .ref q17) (ty := .array .int) (C := RX5) (T := TX5) (N := 23) hx hb hts hwf tyX5 tyX5_ok nmX5 hown hK hP hD hS 0 rfl rfl 21 (by decide) (hts _ (List.mem_of_getElem? (i := 22) rfl)) (fun _ h9 => h9) rfl hin rfl (by decide +kernel) rfl rfl (Nat.le_of_ble_eq_true rfl) dX5_init_137 (fun H locs hP hD hS => ?_)
  refine lv_aload_n hx hb dX5_init_140 rfl (lv_at hl 0 rfl) ?_
  refine lv_iconst hx hb dX5_init_141 (v := iI 2) rfl ?_
  refine n_new (i := 2) (ty := .boolean) (atype := .boolean) (n := 2) (a0 := (2, .inl (fun _ => 0))) F hK hP hD hS hA rfl (Or.inr (Or.inr rfl)) rfl (fun _ => rfl) rfl (by decide) (List.mem_of_getElem? (i := 23) rfl) (Nat.le_of_ble_eq_true rfl) (Nat.le_of_ble_eq_true rfl) (Nat.le_of_ble_eq_true rfl) dX5_init_142 (fun q18 H hP hD hS => ?_)
  refine va_putF (ci := 5) (v := .ref q18) (ty := .array .boolean) (C := RX5) (T := TX5) (N := 23) hx hb hts hwf tyX5 tyX5_ok nmX5 hown hK hP hD hS 0 rfl rfl 22 (by decide) (hts _ (List.mem_of_getElem? (i := 24) rfl)) (fun _ h9 => h9) rfl hin rfl (by decide +kernel) rfl rfl (Nat.le_of_ble_eq_true rfl) dX5_init_144 (fun H locs hP hD hS => ?_)
  refine lv_aload_n hx hb dX5_init_147 rfl (lv_at hl 0 rfl) ?_
  refine va_get (v := .ref q2) hx hb hts hwf hown hK hP 0 rfl rfl 2 (by decide) (hts _ (List.mem_of_getElem? (i := 6) rfl)) (fun _ h9 => h9) rfl dX5_init_148 ?_
  refine lv_iconst hx hb dX5_init_151 (v := iI 0) rfl ?_
  refine lv_bipush hx hb dX5_init_152 (v := iI 20) (by decide +kernel) ?_
  refine va_iast hx hb hK hP hD hS 2 0 rfl rfl (by decide +kernel) dX5_init_154 (fun H locs hP hD hS => ?_)
  refine lv_aload_n hx hb dX5_init_155 rfl (lv_at hl 0 rfl) ?_
  refine va_get (v := .ref q2) hx hb hts hwf hown hK hP 0 rfl rfl 2 (by decide) (hts _ (List.mem_of_getElem? (i := 6) rfl)) (fun _ h9 => h9) rfl dX5_init_156 ?_
  refine lv_iconst hx hb dX5_init_159 (v := iI 1) rfl ?_
  refine lv_iconst hx hb dX5_init_160 (v := iI 1) rfl ?_
  refine va_iast hx hb hK hP hD hS 2 0 rfl rfl (by decide +kernel) dX5_init_161 (fun H locs hP hD hS => ?_)
  refine lv_aload_n hx hb dX5_init_162 rfl (lv_at hl 0 rfl) ?_
  refine va_get (v := .ref q2) hx hb hts hwf hown hK hP 0 rfl rfl 2 (by decide) (hts _ (List.mem_of_getElem? (i := 6) rfl)) (fun _ h9 => h9) rfl dX5_init_163 ?_
  refine lv_iconst hx hb dX5_init_166 (v := iI 2) rfl ?_
  refine lv_iconst hx hb dX5_init_167 (v := iI 1) rfl ?_
  refine va_iast hx hb hK hP hD hS 2 0 rfl rfl (by decide +kernel) dX5_init_168 (fun H locs hP hD hS => ?_)
  have hP9 : va_P D vwCl (wld T (aL [h0, q1, q2, q3, q4, q5, q6, q7, q8, q9, q10, q11, q12, q13, q14, q15, q16, q17, q18]) LR MR0) H := by rw [hrul] at hP; exact hP
  have hD9 : va_D A (wld T (aL [h0, q1, q2, q3, q4, q5, q6, q7, q8, q9, q10, q11, q12, q13, q14, q15, q16, q17, q18]) LR MR0) := by rw [hrul] at hD; exact hD
  exact W.vret hx hb hr (fun t ht hW => ⟨⟨aL [h0, q1, q2, q3, q4, q5, q6, q7, q8, q9, q10, q11, q12, q13, q14, q15, q16, q17, q18], rfl, rfl, by rw [ht]; exact hP9, hD9⟩, hS.F ht⟩) hS.2.2 dX5_init_169
