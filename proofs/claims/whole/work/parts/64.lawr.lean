def R_law : String := "StemDotsLaw"
def lw_P (b : Addr) (xs : List Int32) (args : Array Value) (s : State) : Prop := args = #[.ref b] ∧ s.IntsAt b xs ∧ xs.length ≤ 1536 ∧ (Jvm.Cond.and given_1 narrow_1).before args s = true
def lw_Q (_ : Array Value) (s : State) (o : Outcome) (t : State) : Prop := o = .returned (some (.int 1)) ∧ Framed s o t [] 600000 7302250
def lw_Z (below : List Frame) (a : Array Value) (s : State) : State → Prop := fun t => ∃ o, t.status = .running ∧ Ended t below o ∧ lw_Q a s o t
/-- the law's own end, with 1 on the stack, nothing written that was there before, its room as the claim has it -/
theorem lw_ret {p : Program} {l : Launch} {e : Env} {s : State} {m : MethodId} {below : List Frame} {meth : Method} {c : Code} {b : Nat} (hx : p.tables.exec = Jvm.exec) (hb : c.code = code) (hr : meth.sig.returnType = ret) (hlocks : meth.locks = false) {pc : Nat} {H : Heap} {ls : Array Slot} (hdg : decode code pc = .ok (.ireturn, 1)) : W p l e room_1 s m #[Value.ref b] below meth c H [] 600000 7302250 (lw_Z below #[Value.ref b] s) (F0 m pc ls [.int 1]) := by
  intro T hT X
  obtain ⟨fs, hret, hrun, hended, hW, hframe⟩ := X.leave (v := some (.int 1)) (hlocks := hlocks) (fun h => by rw [hr] at h; cases h)
  have hmeth' : T.vm.method? m = some meth := X.method'
  refine ⟨T.setFrames fs, ?_, .returned (some (.int 1)), hrun, hended, rfl, ⟨_, rfl⟩, hW, hframe⟩
  jvm_step X.here [X.here.top, hx, hb, hdg, hmeth', hr, ret, narrow_b1]
  (try refine ⟨rfl, ?_⟩); (try refine ⟨rfl, ?_⟩)
  first | (intro acts; rw [hret _ acts rfl rfl rfl]) | rw [hret _ _ rfl rfl rfl]
  exact Steps.refl _
/-- what holds at the law's entry: the machine, the code, the tables' words (any of lw_tbl by 'hts w (by decide +kernel)'), the script of L ints xs at the cell b, what the Statement gives of the start (any of its parts by flat_of_before) -/
def lw_At (p : Program) (s : State) (m : MethodId) (meth : Method) (c : Code) (b L : Nat) (xs : Nat → Int32) : Prop :=
  p.tables.exec = Jvm.exec ∧ c.code = code ∧ meth.sig.returnType = ret ∧ c.maxLocals = 4 ∧ s.vm.findClass R_law = some m.cls ∧ (∀ w ∈ lw_tbl, w.before #[Value.ref b] s = true) ∧ va_X b L xs s s.heap ∧ b < s.heap.size ∧ meth.locks = false ∧ (Jvm.Cond.and given_1 narrow_1).before #[Value.ref b] s = true
/-! ===== the law: its judgement, over the two memories ===== -/
theorem va_P_l {D : va_G} {cl : List vw_C} {w1 w2 : va_W} {H : Heap} (h : va_P D cl (w1 ++ w2) H) : va_P D cl w1 H := fun k q hq => h k q (by rw [List.getElem?_append_left (List.getElem?_eq_some_iff.mp hq).1]; exact hq)
theorem va_at_r {w1 w2 : va_W} {k : Nat} {q : Nat × va_E} (hq : w2[k]? = some q) : (w1 ++ w2)[w1.length + k]? = some q := by
  rw [List.getElem?_append_right (by omega), show w1.length + k - w1.length = k by omega]
  exact hq
theorem va_at_l {w1 w2 : va_W} {k : Nat} {q : Nat × va_E} (hq : w1[k]? = some q) : (w1 ++ w2)[k]? = some q := by
  rw [List.getElem?_append_left (List.getElem?_eq_some_iff.mp hq).1]
  exact hq
theorem va_P_r {D : va_G} {cl : List vw_C} {w1 w2 : va_W} {H : Heap} (h : va_P D cl (w1 ++ w2) H) : va_P D cl w2 H := fun k q hq => h (w1.length + k) q (va_at_r hq)
theorem va_D_l {A : Nat → Prop} {w1 w2 : va_W} (h : va_D A (w1 ++ w2)) : va_D A w1 := ⟨fun i j p q hp hq e => h.1 i j p q (va_at_l hp) (va_at_l hq) e, fun k q hq => h.2 k q (va_at_l hq)⟩
theorem va_D_r {A : Nat → Prop} {w1 w2 : va_W} (h : va_D A (w1 ++ w2)) : va_D A w2 := ⟨fun i j p q hp hq e => by have := h.1 _ _ p q (va_at_r hp) (va_at_r hq) e; omega, fun k q hq => h.2 _ q (va_at_r hq)⟩
theorem va_D_addr {A : Nat → Prop} {w w' : va_W} (h : w.map Prod.fst = w'.map Prod.fst) (hD : va_D A w) : va_D A w' := by
  have key : ∀ (k : Nat) (q : Nat × va_E), w'[k]? = some q → ∃ e, w[k]? = some (q.1, e) := by
    intro k q hq
    have h1 : (w'.map Prod.fst)[k]? = some q.1 := by rw [List.getElem?_map, hq]; rfl
    rw [← h, List.getElem?_map] at h1
    cases hw : w[k]? with
    | none => rw [hw] at h1; cases h1
    | some p =>
      rw [hw] at h1
      obtain ⟨p1, p2⟩ := p
      have e1 : p1 = q.1 := Option.some.inj h1
      exact ⟨p2, by rw [e1]⟩
  refine ⟨fun i j p q hp hq e => ?_, fun k q hq => ?_⟩
  · obtain ⟨e1, h1⟩ := key i p hp
    obtain ⟨e2, h2⟩ := key j q hq
    exact hD.1 i j _ _ h1 h2 e
  · obtain ⟨e1, h1⟩ := key k q hq
    exact hD.2 k (q.1, e1) h1
theorem wld_fst (T : Nat → ClassId) (a : Nat → Nat) (L : List Kd) (M M' : Mem) : (wld T a L M).map Prod.fst = (wld T a L M').map Prod.fst := by
  unfold wld
  rw [List.map_map, List.map_map]
  rfl
theorem wld2_D {A : Nat → Prop} {T : Nat → ClassId} {a1 a2 : Nat → Nat} {L1 L2 : List Kd} {M1 M1' M2 M2' : Mem} (h : va_D A (wld T a1 L1 M1 ++ wld T a2 L2 M2)) : va_D A (wld T a1 L1 M1' ++ wld T a2 L2 M2') := by
  refine va_D_addr ?_ h
  rw [List.map_append, List.map_append, wld_fst T a1 L1 M1 M1', wld_fst T a2 L2 M2 M2']
/-- the first of two worlds has changed -/
theorem joinL {A : Nat → Prop} {D : va_G} {cl : List vw_C} {w1 w2 w1' : va_W} {H H1 : Heap} (hP : va_P D cl (w1 ++ w2) H) (hD : va_D A (w1 ++ w2)) (hk : ∀ q : Nat, q < H.size → ¬ va_A w1 H.size q → H1[q]? = H[q]?) (hP1 : va_P D cl w1' H1) : va_P D cl (w1' ++ w2) H1 := by
  refine va_P.app hP1 (fun k q hq => (va_P_r hP k q hq).kept (hk q.1 (va_P_r hP k q hq).lt ?_))
  rintro (⟨k2, e, h⟩ | h)
  · have h1 := hD.1 k2 (w1.length + k) (q.1, e) q (va_at_l h) (va_at_r hq) rfl
    have h2 := (List.getElem?_eq_some_iff.mp h).1
    omega
  · have := (va_P_r hP k q hq).lt
    omega
theorem joinR {A : Nat → Prop} {D : va_G} {cl : List vw_C} {w1 w2 w2' : va_W} {H H1 : Heap} (hP : va_P D cl (w1 ++ w2) H) (hD : va_D A (w1 ++ w2)) (hk : ∀ q : Nat, q < H.size → ¬ va_A w2 H.size q → H1[q]? = H[q]?) (hP1 : va_P D cl w2' H1) : va_P D cl (w1 ++ w2') H1 := by
  refine va_P.app (fun k q hq => (va_P_l hP k q hq).kept (hk q.1 (va_P_l hP k q hq).lt ?_)) hP1
  rintro (⟨k2, e, h⟩ | h)
  · have h1 := hD.1 k (w1.length + k2) q (q.1, e) (va_at_l hq) (va_at_r h) rfl
    have h2 := (List.getElem?_eq_some_iff.mp hq).1
    omega
  · have := (va_P_l hP k q hq).lt
    omega
def xz (xs : Nat → Int32) (i : Int) : Int := (xs i.toNat).toInt
theorem xz_R (xs : Nat → Int32) (i : Int) : -2147483648 ≤ xz xs i ∧ xz xs i < 2147483648 := by
  have h1 := Int32.le_toInt (xs i.toNat)
  have h2 := Int32.toInt_lt (xs i.toNat)
  unfold xz
  omega
theorem xz_i (xs : Nat → Int32) (i : Int) : xs i.toNat = iI (xz xs i) := (Int32.ofInt_toInt _).symm
theorem goodIn_L {ws : List Cond} (h : GoodIn wsL_law ws) : GoodIn lw_tbl ws := fun w hw => ⟨wsL_law_in w (h w hw).1, (h w hw).2⟩
/-- what stands beside the two memories all through the law -/
def LX (p : Program) (s : State) (m : MethodId) (c : Code) (b L : Nat) (xs : Nat → Int32) (D : va_G) (T : Nat → ClassId) : Prop :=
  CallFix p m c cL_law 4 s #[.ref b] lw_tbl RL ∧ va_K D vwCl (tysT T) s ∧ va_X b L xs s s.heap ∧ b < s.heap.size ∧ XS (fun q : Nat => s.heap.size ≤ q) s s.heap ∧ L ≤ 1536
def LG (p : Program) (l : Launch) (e : Env) (s : State) (m : MethodId) (below : List Frame) (meth : Method) (c : Code) (b : Nat) (D : va_G) (T : Nat → ClassId) (a1 a2 : Nat → Nat) (i : Int) (MC MR : Mem) (pc : Nat) (st : List Value) : Prop :=
  ∀ (H : Heap) (locs : List Loc) (ls : Array Slot), va_P D vwCl (wld T a1 LC MC ++ wld T a2 LR MR) H → va_D (fun q : Nat => s.heap.size ≤ q) (wld T a1 LC MC ++ wld T a2 LR MR) → va_S (fun q : Nat => s.heap.size ≤ q) s.heap H locs → lv_has ls 4 [(0, .ref b), (1, .ref (a1 0)), (2, .ref (a2 0)), (3, .int (iI i))] → W p l e room_1 s m #[.ref b] below meth c H locs 600000 7302250 (lw_Z below #[.ref b] s) (F0 m pc ls st)
section LAWR
variable {p : Program} {l : Launch} {e : Env} {s : State} {m : MethodId} {below : List Frame} {meth : Method} {c : Code} {b L : Nat} {xs : Nat → Int32} {D : va_G} {T : Nat → ClassId} {a1 a2 : Nat → Nat} {i : Int} {MC MR : Mem} {pc pc' tgt : Nat} {st st0 : List Value}
theorem lg_c (X : LX p s m c b L xs D T) (hdg : decode cL_law pc = .ok (.aload_n 1, 1)) (hp : pc + 1 = pc') (kk : LG p l e s m below meth c b D T a1 a2 i MC MR pc' (.ref (a1 0) :: st)) : LG p l e s m below meth c b D T a1 a2 i MC MR pc st := by
  subst hp
  exact fun H locs ls hP hD hS hl => lv_aload_n X.1.1 X.1.2.1 hdg rfl (lv_at hl 1 rfl) (kk H locs ls hP hD hS hl)
theorem lg_r (X : LX p s m c b L xs D T) (hdg : decode cL_law pc = .ok (.aload_n 2, 1)) (hp : pc + 1 = pc') (kk : LG p l e s m below meth c b D T a1 a2 i MC MR pc' (.ref (a2 0) :: st)) : LG p l e s m below meth c b D T a1 a2 i MC MR pc st := by
  subst hp
  exact fun H locs ls hP hD hS hl => lv_aload_n X.1.1 X.1.2.1 hdg rfl (lv_at hl 2 rfl) (kk H locs ls hP hD hS hl)
theorem lg_arg (X : LX p s m c b L xs D T) {k : Int} (hk : 0 ≤ k ∧ k ≤ 2) (hi : 0 ≤ i ∧ i + 3 ≤ (L : Int)) (d0 : decode cL_law pc = .ok (.aload_n 0, 1)) (d1 : decode cL_law (pc + 1) = .ok (.iload_n 3, 1)) (d2 : decode cL_law (pc + 1 + 1) = .ok (.iconst k, 1)) (d3 : decode cL_law (pc + 1 + 1 + 1) = .ok (.iadd, 1)) (d4 : decode cL_law (pc + 1 + 1 + 1 + 1) = .ok (.iaload, 1)) (hp : pc + 1 + 1 + 1 + 1 + 1 = pc') (kk : LG p l e s m below meth c b D T a1 a2 i MC MR pc' (.int (iI (xz xs (i + k))) :: st)) : LG p l e s m below meth c b D T a1 a2 i MC MR pc st := by
  subst hp
  intro H locs ls hP hD hS hl
  have hL := X.2.2.2.2.2
  refine lv_aload_n X.1.1 X.1.2.1 d0 rfl (lv_at hl 0 rfl) ?_
  refine lv_iload_n X.1.1 X.1.2.1 d1 rfl (lv_at hl 3 rfl) ?_
  refine lv_iconst X.1.1 X.1.2.1 d2 (v := iI k) rfl ?_
  refine lv_iadd X.1.1 X.1.2.1 d3 ?_
  rw [iI_add]
  refine va_sld X.1.1 X.1.2.1 X.2.2.1 X.2.2.2.1 (fun h => absurd X.2.2.2.1 (Nat.not_lt.mpr h)) hS (iI_in (by omega) (by omega)) d4 ?_
  have e1 : (iI (i + k)).toNatClampNeg = (i + k).toNat := by
    have := iI_clamp (z := i + k) (by omega)
    omega
  rw [e1, xz_i xs (i + k)]
  exact kk H locs ls hP hD hS hl
theorem lg_eq (X : LX p s m c b L xs D T) {z off : Int} (hdg : decode cL_law pc = .ok (.if_icmp .eq off, 3)) (ht : (pc : Int) + off = (tgt : Int)) (kk : LG p l e s m below meth c b D T a1 a2 i MC MR tgt []) : LG p l e s m below meth c b D T a1 a2 i MC MR pc [.int (iI z), .int (iI z)] :=
  fun H locs ls hP hD hS hl => lv_icmp_eq X.1.1 X.1.2.1 hdg ht (fun _ => kk H locs ls hP hD hS hl) (fun h => absurd rfl h)
theorem lg_cmp_self (x : Int64) : lg_cmp x x = 0 := by
  unfold lg_cmp
  rw [if_neg (fun h => absurd h Int64.lt_irrefl), if_pos rfl]
theorem lg_eqJ (X : LX p s m c b L xs D T) {z off : Int} (hd0 : decode cL_law pc = .ok (.lcmp, 1)) (hdg : decode cL_law (pc + 1) = .ok (.ifCond .eq off, 3)) (ht : ((pc + 1 : Nat) : Int) + off = (tgt : Int)) (kk : LG p l e s m below meth c b D T a1 a2 i MC MR tgt []) : LG p l e s m below meth c b D T a1 a2 i MC MR pc [.long (lI z), .long (lI z)] := by
  intro H locs ls hP hD hS hl
  refine W.lcmp X.1.1 X.1.2.1 hd0 ?_
  rw [lg_cmp_self]
  exact lv_if_eq X.1.1 X.1.2.1 hdg ht (fun _ => kk H locs ls hP hD hS hl) (fun h => absurd rfl h)
theorem lg_F1 {H : Heap} {locs : List Loc} (hD : va_D (fun q : Nat => s.heap.size ≤ q) (wld T a1 LC MC ++ wld T a2 LR MR)) (hS : va_S (fun q : Nat => s.heap.size ≤ q) s.heap H locs) : ∀ q, AA T a1 LC MC H.size q → s.heap.size ≤ q := by
  rintro q (⟨k, x, h⟩ | h)
  · exact (va_D_l hD).2 k _ h
  · exact Nat.le_trans hS.1 h
theorem lg_F2 {H : Heap} {locs : List Loc} (hD : va_D (fun q : Nat => s.heap.size ≤ q) (wld T a1 LC MC ++ wld T a2 LR MR)) (hS : va_S (fun q : Nat => s.heap.size ≤ q) s.heap H locs) : ∀ q, AA T a2 LR MR H.size q → s.heap.size ≤ q := by
  rintro q (⟨k, x, h⟩ | h)
  · exact (va_D_r hD).2 k _ h
  · exact Nat.le_trans hS.1 h
theorem lg_recv {a : Nat → Nat} {Lk : List Kd} {M : Mem} {H : Heap} (K : va_K D vwCl (tysT T) s) (hP : va_P D vwCl (wld T a Lk M) H) {C : String} {Tt : u_T} {N r ci n : Nat} {fs : List Nat} (hL : Lk[r]? = some (ci + 4, n, fs)) (hc : vwCl[ci]? = some (C, Tt, N)) : ∃ cell : Cell, H[a r]? = some cell ∧ cell.vm.isStatics = false ∧ s.vm.findClass C = some cell.cls := va_recv K hP hc (wld_at hL)
theorem lg_preC (X : LX p s m c b L xs D T) {H : Heap} {locs : List Loc} (hP : va_P D vwCl (wld T a1 LC MC ++ wld T a2 LR MR) H) (hD : va_D (fun q : Nat => s.heap.size ≤ q) (wld T a1 LC MC ++ wld T a2 LR MR)) (hS : va_S (fun q : Nat => s.heap.size ≤ q) s.heap H locs) {As : List Value} : PreV s H RX4 (a1 0) (va_Pc (.ref (a1 0) :: As) (Pm XS D T a1 LC MC H.size)) As :=
  ⟨Pm_blind XS_c _ _, lg_recv (r := 0) (ci := 4) (n := 0) (fs := [3, 6, 24, 25, 26, 36]) (Tt := TX4) (N := 6) X.2.1 (va_P_l hP) rfl rfl, fun U hU hW => ⟨rfl, by rw [hU], by rw [hU]; exact va_P_l hP, va_K.moved hW.alike X.2.1, (va_D_l hD).weaken (fun _ _ _ _ => trivial), XS_c.2 _ _ _ _ _ _ X.2.2.2.2.1 hW (lg_F1 hD hS) (fun q h1 h2 => by rw [hU]; exact hS.2.1 q h1 h2)⟩⟩
theorem lg_preR (X : LX p s m c b L xs D T) {H : Heap} {locs : List Loc} (hP : va_P D vwCl (wld T a1 LC MC ++ wld T a2 LR MR) H) (hD : va_D (fun q : Nat => s.heap.size ≤ q) (wld T a1 LC MC ++ wld T a2 LR MR)) (hS : va_S (fun q : Nat => s.heap.size ≤ q) s.heap H locs) {As : List Value} : PreV s H RX5 (a2 0) (va_Pc (.ref (a2 0) :: As) (Pm XT D T a2 LR MR H.size)) As :=
  ⟨Pm_blind XT_c _ _, lg_recv (r := 0) (ci := 5) (n := 0) (fs := [3, 0, 4, 0, 5, 6, 7, 8, 9, 10, 11, 0, 12, 13, 14, 15, 0, 16, 17, 18, 1, 19, 20]) (Tt := TX5) (N := 23) X.2.1 (va_P_r hP) rfl rfl, fun U hU hW => ⟨rfl, by rw [hU], by rw [hU]; exact va_P_r hP, va_K.moved hW.alike X.2.1, (va_D_r hD).weaken (fun _ _ _ _ => trivial), trivial⟩⟩
theorem lg_callCI (X : LX p s m c b L xs D T) {y : MethodName} {ws' : List Cond} {rm : Room} {bytes : ByteArray} {maxL index n : Nat} {ret : Option FieldType} {As : List Value} {Qf : Int → Mem → Prop} (hct : CtI XS l y ws' rm LC a1 MC (.ref (a1 0) :: As) Qf) (cw : CallW room_1 s #[.ref b] RL RX4 index y bytes maxL ret ws' rm 0 0 n) (hn : As.length = n) (hst : st0 = As.reverse ++ .ref (a1 0) :: st) (hroom : (st.map fun v => v.category).sum ≤ 8) (hdg : decode cL_law pc = .ok (.invokevirtual index, 3)) (hp : pc + 3 = pc')
    (kk : ∀ (z : Int) (M' : Mem), Qf z M' → LG p l e s m below meth c b D T a1 a2 i M' MR pc' (.int (iI z) :: st)) : LG p l e s m below meth c b D T a1 a2 i MC MR pc st0 := by
  subst hp; subst hst
  intro H locs ls hP hD hS hl
  refine va_calli (va_runV (As := As) (rest := st) X.1 (hct D T H.size) cw (lg_preC X hP hD hS) rfl hn hl.1 rfl (lv_room hroom) hdg ⟨Nat.le_of_ble_eq_true rfl, Nat.le_of_ble_eq_true rfl⟩) hS (fun q _ h => lg_F1 hD hS q h) (fun q h => lg_F1 hD hS q h) (fun r u t H1 locs1 ht hvm hw hB hz hk hS1 => ?_)
  obtain ⟨z, rfl, hq⟩ := hw
  exact kk z u hq H1 locs1 ls (joinL hP hD hk (by rw [← ht]; exact hB)) (wld2_D hD) hS1 hl
theorem lg_callCJ (X : LX p s m c b L xs D T) {y : MethodName} {ws' : List Cond} {rm : Room} {bytes : ByteArray} {maxL index n : Nat} {ret : Option FieldType} {As : List Value} {Qf : Int → Mem → Prop} (hct : CtJ XS l y ws' rm LC a1 MC (.ref (a1 0) :: As) Qf) (cw : CallW room_1 s #[.ref b] RL RX4 index y bytes maxL ret ws' rm 0 0 n) (hn : As.length = n) (hst : st0 = As.reverse ++ .ref (a1 0) :: st) (hroom : (st.map fun v => v.category).sum ≤ 8) (hdg : decode cL_law pc = .ok (.invokevirtual index, 3)) (hp : pc + 3 = pc')
    (kk : ∀ (z : Int) (M' : Mem), Qf z M' → LG p l e s m below meth c b D T a1 a2 i M' MR pc' (.long (lI z) :: st)) : LG p l e s m below meth c b D T a1 a2 i MC MR pc st0 := by
  subst hp; subst hst
  intro H locs ls hP hD hS hl
  refine va_calll (va_runV (As := As) (rest := st) X.1 (hct D T H.size) cw (lg_preC X hP hD hS) rfl hn hl.1 rfl (lv_room hroom) hdg ⟨Nat.le_of_ble_eq_true rfl, Nat.le_of_ble_eq_true rfl⟩) hS (fun q _ h => lg_F1 hD hS q h) (fun q h => lg_F1 hD hS q h) (fun r u t H1 locs1 ht hvm hw hB hz hk hS1 => ?_)
  obtain ⟨z, rfl, hq⟩ := hw
  exact kk z u hq H1 locs1 ls (joinL hP hD hk (by rw [← ht]; exact hB)) (wld2_D hD) hS1 hl
theorem lg_callRI (X : LX p s m c b L xs D T) {y : MethodName} {ws' : List Cond} {rm : Room} {bytes : ByteArray} {maxL index n : Nat} {ret : Option FieldType} {As : List Value} {Qf : Int → Mem → Prop} (hct : CtI XT l y ws' rm LR a2 MR (.ref (a2 0) :: As) Qf) (cw : CallW room_1 s #[.ref b] RL RX5 index y bytes maxL ret ws' rm 0 0 n) (hn : As.length = n) (hst : st0 = As.reverse ++ .ref (a2 0) :: st) (hroom : (st.map fun v => v.category).sum ≤ 8) (hdg : decode cL_law pc = .ok (.invokevirtual index, 3)) (hp : pc + 3 = pc')
    (kk : ∀ (z : Int) (M' : Mem), Qf z M' → LG p l e s m below meth c b D T a1 a2 i MC M' pc' (.int (iI z) :: st)) : LG p l e s m below meth c b D T a1 a2 i MC MR pc st0 := by
  subst hp; subst hst
  intro H locs ls hP hD hS hl
  refine va_calli (va_runV (As := As) (rest := st) X.1 (hct D T H.size) cw (lg_preR X hP hD hS) rfl hn hl.1 rfl (lv_room hroom) hdg ⟨Nat.le_of_ble_eq_true rfl, Nat.le_of_ble_eq_true rfl⟩) hS (fun q _ h => lg_F2 hD hS q h) (fun q h => lg_F2 hD hS q h) (fun r u t H1 locs1 ht hvm hw hB hz hk hS1 => ?_)
  obtain ⟨z, rfl, hq⟩ := hw
  exact kk z u hq H1 locs1 ls (joinR hP hD hk (by rw [← ht]; exact hB)) (wld2_D hD) hS1 hl
theorem lg_callRJ (X : LX p s m c b L xs D T) {y : MethodName} {ws' : List Cond} {rm : Room} {bytes : ByteArray} {maxL index n : Nat} {ret : Option FieldType} {As : List Value} {Qf : Int → Mem → Prop} (hct : CtJ XT l y ws' rm LR a2 MR (.ref (a2 0) :: As) Qf) (cw : CallW room_1 s #[.ref b] RL RX5 index y bytes maxL ret ws' rm 0 0 n) (hn : As.length = n) (hst : st0 = As.reverse ++ .ref (a2 0) :: st) (hroom : (st.map fun v => v.category).sum ≤ 8) (hdg : decode cL_law pc = .ok (.invokevirtual index, 3)) (hp : pc + 3 = pc')
    (kk : ∀ (z : Int) (M' : Mem), Qf z M' → LG p l e s m below meth c b D T a1 a2 i MC M' pc' (.long (lI z) :: st)) : LG p l e s m below meth c b D T a1 a2 i MC MR pc st0 := by
  subst hp; subst hst
  intro H locs ls hP hD hS hl
  refine va_calll (va_runV (As := As) (rest := st) X.1 (hct D T H.size) cw (lg_preR X hP hD hS) rfl hn hl.1 rfl (lv_room hroom) hdg ⟨Nat.le_of_ble_eq_true rfl, Nat.le_of_ble_eq_true rfl⟩) hS (fun q _ h => lg_F2 hD hS q h) (fun q h => lg_F2 hD hS q h) (fun r u t H1 locs1 ht hvm hw hB hz hk hS1 => ?_)
  obtain ⟨z, rfl, hq⟩ := hw
  exact kk z u hq H1 locs1 ls (joinR hP hD hk (by rw [← ht]; exact hB)) (wld2_D hD) hS1 hl
end LAWR
