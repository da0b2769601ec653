/-! ===== the law, from its entry ===== -/
section START
variable {s : State} {b : Nat}
theorem tb_el {C n d : String} {k : Nat} {z : Int32} {v : Int} (h : (Cond.eq (.elem (.static C n d) (.int (Int32.ofNat k))) (.int z)).before #[Value.ref b] s = true) (e : z = iI v) : (Term.elem (.static C n d) (.int (Int32.ofNat k))).eval #[Value.ref b] s none [] s = some (.int (iI v)) := by
  rw [← e]
  exact va_eqt h
theorem tb_5 {C n : String} {f : Int → Int} {A : Nat → Prop} {z0 z1 z2 z3 z4 : Int32} (hA : ∀ a : Nat, a < s.heap.size → ¬ A a) (hl : (Cond.laysStatic C n "[I").before #[Value.ref b] s = true) (hini : (Cond.initialized C).before #[Value.ref b] s = true) (ha : (Cond.arrayOf (.static C n "[I") .int).before #[Value.ref b] s = true) (hn : (Cond.eq (.length (.static C n "[I")) (.int 5)).before #[Value.ref b] s = true)
    (h0 : (Cond.eq (.elem (.static C n "[I") (.int 0)) (.int z0)).before #[Value.ref b] s = true) (h1 : (Cond.eq (.elem (.static C n "[I") (.int 1)) (.int z1)).before #[Value.ref b] s = true) (h2 : (Cond.eq (.elem (.static C n "[I") (.int 2)) (.int z2)).before #[Value.ref b] s = true) (h3 : (Cond.eq (.elem (.static C n "[I") (.int 3)) (.int z3)).before #[Value.ref b] s = true) (h4 : (Cond.eq (.elem (.static C n "[I") (.int 4)) (.int z4)).before #[Value.ref b] s = true)
    (e0 : z0 = iI (f 0)) (e1 : z1 = iI (f 1)) (e2 : z2 = iI (f 2)) (e3 : z3 = iI (f 3)) (e4 : z4 = iI (f 4)) : ∃ t : Nat, va_Z C n "[I" (.ref t) A s s.heap ∧ va_T .int t 5 (fun j => .int (iI (f (j : Int)))) A s s.heap := by
  obtain ⟨t, ht, hT⟩ := va_Tof (args := #[Value.ref b]) (tm := .static C n "[I") (ty := .int) (N := 5) (f := fun j => .int (iI (f (j : Int)))) (A := A) (by decide) ha (va_eqt hn) (fun j hj => by
    rcases (show j = 0 ∨ j = 1 ∨ j = 2 ∨ j = 3 ∨ j = 4 by omega) with rfl | rfl | rfl | rfl | rfl
    · exact tb_el h0 e0
    · exact tb_el h1 e1
    · exact tb_el h2 e2
    · exact tb_el h3 e3
    · exact tb_el h4 e4) hA
  exact ⟨t, va_Zof hl hini ht hA, hT⟩
theorem tb_2 {C n : String} {f : Int → Int} {A : Nat → Prop} {z0 z1 : Int32} (hA : ∀ a : Nat, a < s.heap.size → ¬ A a) (hl : (Cond.laysStatic C n "[C").before #[Value.ref b] s = true) (hini : (Cond.initialized C).before #[Value.ref b] s = true) (ha : (Cond.arrayOf (.static C n "[C") .char).before #[Value.ref b] s = true) (hn : (Cond.eq (.length (.static C n "[C")) (.int 2)).before #[Value.ref b] s = true)
    (h0 : (Cond.eq (.elem (.static C n "[C") (.int 0)) (.int z0)).before #[Value.ref b] s = true) (h1 : (Cond.eq (.elem (.static C n "[C") (.int 1)) (.int z1)).before #[Value.ref b] s = true)
    (e0 : z0 = iI (f 0)) (e1 : z1 = iI (f 1)) : ∃ t : Nat, va_Z C n "[C" (.ref t) A s s.heap ∧ va_T .char t 2 (fun j => .int (iI (f (j : Int)))) A s s.heap := by
  obtain ⟨t, ht, hT⟩ := va_Tof (args := #[Value.ref b]) (tm := .static C n "[C") (ty := .char) (N := 2) (f := fun j => .int (iI (f (j : Int)))) (A := A) (by decide) ha (va_eqt hn) (fun j hj => by
    rcases (show j = 0 ∨ j = 1 by omega) with rfl | rfl
    · exact tb_el h0 e0
    · exact tb_el h1 e1) hA
  exact ⟨t, va_Zof hl hini ht hA, hT⟩
theorem ar_K {ty : FieldType} (hty : ty = .int ∨ ty = .long ∨ ty = .boolean) (h : (Cond.arrayClass ty).before #[Value.ref b] s = true) : ∃ cA : ClassId, ArrOfT s cA ty ∧ va_RA s cA ty := by
  obtain ⟨c0, k0, comp, f1, f2, f3⟩ := Cond.arrayClass_spec h
  refine ⟨c0, fun n z => ⟨fun k h => (by cases h), k0, f2, comp, f3⟩, ?_⟩
  rcases hty with rfl | rfl | rfl
  · exact f1
  · exact f1
  · exact f1
theorem ar_KO {C : String} (h : (Cond.arrayOver (.object C)).before #[Value.ref b] s = true) : ∃ cA : ClassId, ArrOfT s cA (.object C) ∧ va_RA s cA (.object C) := by
  obtain ⟨comp, c0, k0, f1, f2, f3, f4, f5⟩ := Cond.arrayOver_spec h
  exact ⟨c0, fun n z => ⟨fun k h => (by cases h), k0, f3, comp, f4⟩, k0, comp, f3, f4, f1, f5⟩
theorem st_XS (hA : ∀ q : Nat, s.heap.size ≤ q → (fun q : Nat => s.heap.size ≤ q) q) (hts : ∀ w ∈ lw_tbl, w.before #[Value.ref b] s = true) (hgv : (Jvm.Cond.and given_1 narrow_1).before #[Value.ref b] s = true) : XS (fun q : Nat => s.heap.size ≤ q) s s.heap := by
  have hs := flat_of_before _ hgv
  have hB : ∀ a : Nat, a < s.heap.size → ¬ (fun q : Nat => s.heap.size ≤ q) a := fun a h => Nat.not_le.mpr h
  refine ⟨⟨va_Nw.of rfl (hts (.methodLinkNest RX2 38 yX4_isWithin RX4) (by decide +kernel)), va_Nw.of rfl (hts (.methodLinkNest RX1 40 yX2_isSign RX4) (by decide +kernel)), va_Nw.of rfl (hts (.methodLinkNest RX1 49 yX4_isWithin RX4) (by decide +kernel))⟩, ?_, ?_⟩
  · exact tb_5 (f := rmx) (z0 := 99) (z1 := 9) (z2 := 9) (z3 := 3) (z4 := 3) hB (hts (.laysStatic "StemDots" "MOST_OF_RULE" "[I") (by decide +kernel)) (hts (.initialized "StemDots") (by decide +kernel)) (hs _ (by decide +kernel)) (hs _ (by decide +kernel)) (hs _ (by decide +kernel)) (hs _ (by decide +kernel)) (hs _ (by decide +kernel)) (hs _ (by decide +kernel)) (hs _ (by decide +kernel)) (by decide +kernel) (by decide +kernel) (by decide +kernel) (by decide +kernel) (by decide +kernel)
  · exact tb_2 (f := fun j => 44 + j) (z0 := 44) (z1 := 45) hB (hts (.laysStatic "StemDots$Pad" "BEHIND_NUMBER" "[C") (by decide +kernel)) (hts (.initialized "StemDots$Pad") (by decide +kernel)) (hs _ (by decide +kernel)) (hs _ (by decide +kernel)) (hs _ (by decide +kernel)) (hs _ (by decide +kernel)) (by decide +kernel) (by decide +kernel)
theorem st_XF (hts : ∀ w ∈ lw_tbl, w.before #[Value.ref b] s = true) (hgv : (Jvm.Cond.and given_1 narrow_1).before #[Value.ref b] s = true) : XF (fun q : Nat => s.heap.size ≤ q) s s.heap := by
  have hs := flat_of_before _ hgv
  have hB : ∀ a : Nat, a < s.heap.size → ¬ (fun q : Nat => s.heap.size ≤ q) a := fun a h => Nat.not_le.mpr h
  refine ⟨va_Nw.of rfl (hts (.fieldLinkNest RX1 27 RX4 "FIRST_RULES" "[I" RX4) (by decide +kernel)), ?_, va_AO.of (A := #[Value.ref b]) (hts (.arrayOver (.object "StemDots$Letter")) (by decide +kernel))⟩
  exact tb_5 (f := rul0) (z0 := 20) (z1 := 1) (z2 := 1) (z3 := 0) (z4 := 0) hB (hts (.laysStatic "StemDots" "FIRST_RULES" "[I") (by decide +kernel)) (hts (.initialized "StemDots") (by decide +kernel)) (hs _ (by decide +kernel)) (hs _ (by decide +kernel)) (hs _ (by decide +kernel)) (hs _ (by decide +kernel)) (hs _ (by decide +kernel)) (hs _ (by decide +kernel)) (hs _ (by decide +kernel)) (by decide +kernel) (by decide +kernel) (by decide +kernel) (by decide +kernel) (by decide +kernel)
theorem st_K (hts : ∀ w ∈ lw_tbl, w.before #[Value.ref b] s = true) : ∃ (D : va_G) (T : Nat → ClassId), va_K D vwCl (tysT T) s := by
  obtain ⟨c0, i0, k0⟩ := u_known (C := RX0) (T := TX0) (N := 12) (n := 12) hts inLX0 (hts (.instantiable RX0 12) (by decide +kernel))
  obtain ⟨c1, i1, k1⟩ := u_known (C := RX1) (T := TX1) (N := 6) (n := 6) hts inLX1 (hts (.instantiable RX1 6) (by decide +kernel))
  obtain ⟨c2, i2, k2⟩ := u_known (C := RX2) (T := TX2) (N := 3) (n := 3) hts inLX2 (hts (.instantiable RX2 3) (by decide +kernel))
  obtain ⟨c3, i3, k3⟩ := u_known (C := RX3) (T := TX3) (N := 11) (n := 11) hts inLX3 (hts (.instantiable RX3 11) (by decide +kernel))
  obtain ⟨c4, i4, k4⟩ := u_known (C := RX4) (T := TX4) (N := 6) (n := 6) hts inLX4 (hts (.instantiable RX4 6) (by decide +kernel))
  obtain ⟨t0, p0⟩ := ar_K (ty := .int) (Or.inl rfl) (hts (.arrayClass .int) (by decide +kernel))
  obtain ⟨t1, p1⟩ := ar_K (ty := .long) (Or.inr (Or.inl rfl)) (hts (.arrayClass .long) (by decide +kernel))
  obtain ⟨t2, p2⟩ := ar_K (ty := .boolean) (Or.inr (Or.inr rfl)) (hts (.arrayClass .boolean) (by decide +kernel))
  obtain ⟨t3, p3⟩ := ar_KO (C := "StemDots$Letter") (hts (.arrayOver (.object "StemDots$Letter")) (by decide +kernel))
  refine ⟨(fun k => if k = 0 then c0 else if k = 1 then c1 else if k = 2 then c2 else if k = 3 then c3 else c4, fun k => if k = 0 then i0 else if k = 1 then i1 else if k = 2 then i2 else if k = 3 then i3 else i4), fun k => if k = 0 then t0 else if k = 1 then t1 else if k = 2 then t2 else t3, ?_, ?_⟩
  · intro k q hq
    match k, hq with
    | 0, hq => cases hq; exact k0
    | 1, hq => cases hq; exact k1
    | 2, hq => cases hq; exact k2
    | 3, hq => cases hq; exact k3
    | 4, hq => cases hq; exact k4
    | k + 5, hq => simp [vwCl] at hq
  · intro k q hq
    match k, hq with
    | 0, hq => cases hq; exact p0
    | 1, hq => cases hq; exact p1
    | 2, hq => cases hq; exact p2
    | 3, hq => cases hq; exact p3
    | k + 4, hq => simp [tysT] at hq
end START
set_option maxHeartbeats 4000000 in
set_option maxRecDepth 100000 in
theorem whole_start {p : Program} {e : Env} {s : State} {m : MethodId} {below : List Frame} {meth : Method} {c : Code} (l : Launch) (hflags : l.flags = flags0) {b L : Nat} {xs : Nat → Int32} (hL : L ≤ 260) (C0 : lw_At p s m meth c b L xs) : W p l e room_1 s m #[Value.ref b] below meth c s.heap [] 0 0 (lw_Z below #[Value.ref b] s) (entryFrame m ([Value.ref b] : List Value).toArray 19) := by
  obtain ⟨hx, hb, hr, hml, hown, hts, hX, hbl, hlocks, hgv⟩ := id C0
  have hA : ∀ q : Nat, s.heap.size ≤ q → (fun q : Nat => s.heap.size ≤ q) q := fun _ h => h
  have hXS := st_XS hA hts hgv
  have hXF := st_XF hts hgv
  obtain ⟨D, T, hK⟩ := st_K hts
  have F : CallFix p m c cL_law 19 s #[.ref b] lw_tbl RL := ⟨hx, hb, hml, hown, hts⟩
  have X0 : XL b L xs (fun q : Nat => s.heap.size ≤ q) s s.heap := ⟨hXS, hL, hX, hbl, fun h => absurd hbl (Nat.not_lt.mpr h)⟩
  have hS : va_S (fun q : Nat => s.heap.size ≤ q) s.heap s.heap [] := va_S.rf
  have hl := lv_entry ([.ref b]) (n := 19) (Nat.le_of_ble_eq_true rfl)
  rw [lg_entry_eq]
  generalize (lg_sl ([.ref b]) ++ List.replicate (19 - (lg_sl ([.ref b])).length) Slot.unset).toArray = ls at hl ⊢
  have hl : lv_has ls 19 [(0, .ref b)] := hl
  refine lv_iconst hx hb dL_law_0 (v := iI 0) rfl ?_
  refine lv_istore_n (lv' := [(1, .int (iI 0)), (0, .ref b)]) hx hb dL_law_1 rfl hl (by decide) rfl (fun ls hl => ?_)
  refine law_turn (kc := 0) (ks := 0) (t := 0) F hK X0 hXF (by decide) (by decide) (fun H locs ls hS hl => ?_) s.heap [] ls hS (lv_sub hl [1, 0] rfl)
  refine law_turn (kc := 0 + 50) (ks := 0 + 2000) (t := 0 + 1) F hK X0 hXF (by decide) (by decide) (fun H locs ls hS hl => ?_) H locs ls hS hl
  refine law_turn (kc := 0 + 50 + 50) (ks := 0 + 2000 + 2000) (t := 0 + 1 + 1) F hK X0 hXF (by decide) (by decide) (fun H locs ls hS hl => ?_) H locs ls hS hl
  refine lv_iload_n hx hb dL_law_2 rfl (lv_at hl 1 rfl) ?_
  refine lv_iconst hx hb dL_law_3 (v := iI 3) rfl ?_
  refine lv_icmp_ge (tgt := 1434) hx hb dL_law_4 (by decide) (fun _ => ?_) (fun hc => absurd (show iI 3 ≤ iI (0 + 1 + 1 + 1) by decide +kernel) hc)
  refine W.widen (k := 600000) (n := 7302250) (Nat.le_of_ble_eq_true rfl) (Nat.le_of_ble_eq_true rfl) ?_
  refine va_forget (fun q hq => hS.2.2 q hq) ?_
  refine lv_iconst (v := 1) hx hb dL_law_1434 (by decide) ?_
  exact lw_ret hx hb hr hlocks dL_law_1435
set_option maxHeartbeats 4000000 in
theorem lw_walk (l : Launch) (hflags : l.flags = flags0) (b : Addr) (xs : List Int32) : MetFree l x (headSpec (Jvm.Cond.code x code maxLocals ret :: tables_1) room_1) (lw_P b xs) (fun _ _ _ _ _ => True) lw_Q := by
  refine MetFree.of_bodyS (code := code) (maxLocals := maxLocals) (ret := ret) (by decide) ?_ ?_
  · intro args s m h hn
    obtain ⟨meth, c, h1, h2, h3, h4, h5, h6, -, -⟩ := Cond.code_spec hn (atoms_spec (ws := Jvm.Cond.code x code maxLocals ret :: tables_1) h _ List.mem_cons_self)
    exact ⟨meth, c, h1, h2, h3, h4, h5, h6⟩
  · intro p e s m args below meth c s₁ B hml0 hP _
    obtain ⟨rfl, hx, hbd, hgv⟩ := hP
    obtain ⟨scr, harrAt, hlist, hof, hsmall⟩ := hx
    obtain ⟨hcb, hkn, -, -⟩ := State.arrayAt?_spec harrAt
    have hown : s.vm.findClass R_law = some m.cls := findClass_of_methodNamed B.named
    have hts0 : ∀ c ∈ (Jvm.Cond.code x code maxLocals ret :: tables_1), c.before #[Value.ref b] s = true := atoms_spec (ws := Jvm.Cond.code x code maxLocals ret :: tables_1) B.pre
    have hts : ∀ w ∈ lw_tbl, w.before #[Value.ref b] s = true := k2_hts_sels lw_privs (fun w hw => hts0 w (List.mem_cons_of_mem _ hw)) lw_privs_ok
    have hml : c.maxLocals = 19 := B.maxLocals_eq (hts0 _ List.mem_cons_self)
    have X₀ : Stand p l e room_1 s m #[Value.ref b] below meth c s₁ [] 0 0 := Stand.of_body B
    have hh0 : s₁.heap = s.heap := by rw [B.state]; rfl
    have hsz : scr.slots.size = xs.length := by rw [← Array.length_toList, hlist, List.length_map]
    have hval : ∀ j : Nat, j < xs.length → scr.slots[j]? = some (.int (xs.getD j 0)) := fun j hj => by
      rw [← Array.getElem?_toList, hlist]
      simp [hj]
    have hbl : b < s.heap.size := (Array.getElem?_eq_some_iff.mp hcb).1
    have hX : va_X b xs.length (fun j => xs.getD j 0) s s.heap := ⟨scr, hcb, hof, hkn, hsz, hval⟩
    have K : W p l e room_1 s m #[Value.ref b] below meth c s₁.heap [] 0 0 (lw_Z below #[Value.ref b] s) (entryFrame m ([Value.ref b] : List Value).toArray 19) := by
      rw [hh0]
      exact whole_start l hflags hbd ⟨B.exec, B.bytes, B.returns, hml, hown, hts, hX, hbl, B.notSynchronized, hgv⟩
    obtain ⟨t, a1, o, b1, b2, b3⟩ := K s₁ rfl X₀
    exact ⟨t, o, a1, b1, b2, b3⟩
theorem lw_pre_spec {args : Array Value} {s : State} (h : (Jvm.Cond.and given_1 narrow_1).before args s = true) (hr : rest_1_c.before args s = true) : ∃ (b : Addr) (xs : List Int32), lw_P b xs args s := by
  have hs := flat_of_before _ h
  have hq := flat_of_before _ hr
  have hc : (Cond.count 1).before args s = true := hs _ (by decide +kernel)
  have harr : (Cond.arrayOf (.arg 0) .int).before args s = true := hs _ (by decide +kernel)
  have hle : (Cond.le (.length (.arg 0)) (.int 260)).before args s = true := hs _ (by decide +kernel)
  have hlen : (Cond.isInt (.length (.arg 0))).before args s = true := hq _ (by decide +kernel)
  have hall : (Cond.all (.arg 0) (.isInt (.elem (.arg 0) (.index 0)))).before args s = true := hq _ (by decide +kernel)
  obtain ⟨b, xs, hb, hx⟩ := State.ints_of_pre rfl harr hlen hall
  have hsm : xs.length < 2 ^ 31 := hx.choose_spec.2.2.2
  have hev : (Term.length (.arg 0)).eval args s none [] s = some (.int xs.length.toInt32) := hx.length_eval hb
  have hv := Cond.le_ints hev (show (Term.int 260).eval args s none [] s = some (.int 260) from rfl)
  have hd : xs.length.toInt32 ≤ 260 := by
    simpa [Cond.before, Cond.holds, hv] using hle
  have hN : xs.length ≤ 260 := (Int32.ofNat_le_ofNat hsm (by decide)).mp (show Int32.ofNat xs.length ≤ Int32.ofNat 260 from hd)
  exact ⟨b, xs, Cond.one_arg hc (show args[0]? = some (.ref b) from hb), hx, hN, h⟩
theorem lw_comes (l : Launch) (hflags : l.flags = flags0) : Comes l x (Jvm.Cond.code x code maxLocals ret :: tables_1) room_1 (fun tb e args s => Calls_1 tb e args s ∧ rest_1 tb e args s ∧ Pre_1 tb e args s)
    (fun _ _ args s o t => lw_Q args s o t) := by
  intro p e ha hc hk s m args below hf hfit hheap happ hpre
  obtain ⟨b, xs, hP⟩ := lw_pre_spec hpre.2.2 hpre.2.1
  obtain ⟨k, o, h1, h2, h3, hQ⟩ := lw_walk l hflags b xs p e ha hc hk s m args below hf ((Spec.applies_iff_loose hf).mp happ).1 hP trivial
  exact ⟨k, o, h1, h2, h3, hQ⟩
theorem lw_frame {s t : State} {o : Outcome} {args : Array Value} (h : Framed s o t [] 600000 7302250) :
    Framed s o t (fieldLocs frame_1_writes args s ++ arrayLocs frame_1_arrays args s ++ staticLocs frame_1_statics s) 600000 7302250 := h
theorem lw_limb (L : Cond) (hL : ∀ (args : Array Value) (s t : State), L.after args s (.returned (some (.int 1))) t = true) :
    ArmFor flags0 classFile x code maxLocals ret World_1 tables_1 room_1 Calls_1 rest_1 Pre_1
      (fun tb e a s o t => postC L tb e a s o t ∧ Framed s o t (fieldLocs frame_1_writes a s ++ arrayLocs frame_1_arrays a s ++ staticLocs frame_1_statics s) 600000 7302250) := by
  intro l hflags _ _ p e ha hc hk s m args below hf hfit hheap happ hpre
  obtain ⟨k, o, h1, h2, h3, rfl, hF⟩ := lw_comes l hflags p e ha hc hk s m args below hf hfit hheap happ hpre
  exact ⟨k, _, h1, h2, h3, hL args s _, lw_frame hF⟩
theorem i_vc : Claimed_1_1 ∧ Claimed_1_2 := ⟨lw_limb limb_1_1 (fun args s t => by simp [limb_1_1, Cond.after, Cond.holds, Cond.value]), lw_limb limb_1_2 (fun args s t => Cond.after_iff.mpr (by
  first | (rw [show limb_1_2 = Cond.eq .result (.int 1) from rfl, Cond.eq_ints (x := 1) (y := 1) rfl rfl]; simp; done) | (simp [limb_1_2, Cond.value, Term.eval]; done)))⟩
