section
-- ===== PART A: goes FIRST, ahead of the names: the tables' words, and 'selects' of the private methods out of them =====
/-- a private method of a class that the tables say can be made, by its rows of tables_1 -/
def lw_okq (q : MethodName × Nat) : Prop := (q.1.cls ≠ "java/lang/invoke/MethodHandle" ∧ q.1.cls ≠ "java/lang/invoke/VarHandle") ∧ Cond.instantiable q.1.cls q.2 ∈ tables_1 ∧ Cond.privateMethod q.1 ∈ tables_1 ∧ Cond.instanceMethod q.1 ∈ tables_1
theorem lw_p0 : lw_okq (⟨"StemDots$Pad", "isSign", "(IC)Z"⟩, 3) := ⟨⟨by decide +kernel, by decide +kernel⟩, List.mem_of_getElem? (i := 18) (by decide +kernel), List.mem_of_getElem? (i := 223) (by decide +kernel), List.mem_of_getElem? (i := 224) (by decide +kernel)⟩
theorem lw_p1 : lw_okq (⟨"StemDots$Pad", "readNumber", "(II)I"⟩, 3) := ⟨⟨by decide +kernel, by decide +kernel⟩, List.mem_of_getElem? (i := 18) (by decide +kernel), List.mem_of_getElem? (i := 227) (by decide +kernel), List.mem_of_getElem? (i := 228) (by decide +kernel)⟩
theorem lw_p2 : lw_okq (⟨"StemDots$Pad", "isFigure", "(I)Z"⟩, 3) := ⟨⟨by decide +kernel, by decide +kernel⟩, List.mem_of_getElem? (i := 18) (by decide +kernel), List.mem_of_getElem? (i := 231) (by decide +kernel), List.mem_of_getElem? (i := 232) (by decide +kernel)⟩
theorem lw_p3 : lw_okq (⟨"StemDots", "renew", "()V"⟩, 6) := ⟨⟨by decide +kernel, by decide +kernel⟩, List.mem_of_getElem? (i := 10) (by decide +kernel), List.mem_of_getElem? (i := 247) (by decide +kernel), List.mem_of_getElem? (i := 248) (by decide +kernel)⟩
theorem lw_p4 : lw_okq (⟨"StemDots$Stems", "addNarrowest", "(LStemDots$Letter;)Z"⟩, 11) := ⟨⟨by decide +kernel, by decide +kernel⟩, List.mem_of_getElem? (i := 78) (by decide +kernel), List.mem_of_getElem? (i := 255) (by decide +kernel), List.mem_of_getElem? (i := 256) (by decide +kernel)⟩
theorem lw_p5 : lw_okq (⟨"StemDots$Stems", "isFree", "(II)Z"⟩, 11) := ⟨⟨by decide +kernel, by decide +kernel⟩, List.mem_of_getElem? (i := 78) (by decide +kernel), List.mem_of_getElem? (i := 270) (by decide +kernel), List.mem_of_getElem? (i := 271) (by decide +kernel)⟩
theorem lw_p6 : lw_okq (⟨"StemDots$Stems", "insert", "(IIII)V"⟩, 11) := ⟨⟨by decide +kernel, by decide +kernel⟩, List.mem_of_getElem? (i := 78) (by decide +kernel), List.mem_of_getElem? (i := 277) (by decide +kernel), List.mem_of_getElem? (i := 278) (by decide +kernel)⟩
theorem lw_p7 : lw_okq (⟨"StemDots$Stems", "sortByWidth", "()V"⟩, 11) := ⟨⟨by decide +kernel, by decide +kernel⟩, List.mem_of_getElem? (i := 78) (by decide +kernel), List.mem_of_getElem? (i := 281) (by decide +kernel), List.mem_of_getElem? (i := 282) (by decide +kernel)⟩
theorem lw_p8 : lw_okq (⟨"StemDots$Stems", "width", "(I)I"⟩, 11) := ⟨⟨by decide +kernel, by decide +kernel⟩, List.mem_of_getElem? (i := 78) (by decide +kernel), List.mem_of_getElem? (i := 285) (by decide +kernel), List.mem_of_getElem? (i := 286) (by decide +kernel)⟩
theorem lw_p9 : lw_okq (⟨"StemDots$Stems", "makeGroups", "(I)V"⟩, 11) := ⟨⟨by decide +kernel, by decide +kernel⟩, List.mem_of_getElem? (i := 78) (by decide +kernel), List.mem_of_getElem? (i := 289) (by decide +kernel), List.mem_of_getElem? (i := 290) (by decide +kernel)⟩
theorem lw_p10 : lw_okq (⟨"StemDots$Fits", "workOut", "(I)V"⟩, 12) := ⟨⟨by decide +kernel, by decide +kernel⟩, List.mem_of_getElem? (i := 131) (by decide +kernel), List.mem_of_getElem? (i := 356) (by decide +kernel), List.mem_of_getElem? (i := 357) (by decide +kernel)⟩
theorem lw_p11 : lw_okq (⟨"StemDots$Fits", "layLeftmost", "()I"⟩, 12) := ⟨⟨by decide +kernel, by decide +kernel⟩, List.mem_of_getElem? (i := 131) (by decide +kernel), List.mem_of_getElem? (i := 360) (by decide +kernel), List.mem_of_getElem? (i := 361) (by decide +kernel)⟩
theorem lw_p12 : lw_okq (⟨"StemDots$Fits", "weighRests", "()V"⟩, 12) := ⟨⟨by decide +kernel, by decide +kernel⟩, List.mem_of_getElem? (i := 131) (by decide +kernel), List.mem_of_getElem? (i := 369) (by decide +kernel), List.mem_of_getElem? (i := 370) (by decide +kernel)⟩
theorem lw_p13 : lw_okq (⟨"StemDots$Fits", "weighGapsBehind", "(I)V"⟩, 12) := ⟨⟨by decide +kernel, by decide +kernel⟩, List.mem_of_getElem? (i := 131) (by decide +kernel), List.mem_of_getElem? (i := 373) (by decide +kernel), List.mem_of_getElem? (i := 374) (by decide +kernel)⟩
theorem lw_p14 : lw_okq (⟨"StemDots$Fits", "gapCost", "(II)J"⟩, 12) := ⟨⟨by decide +kernel, by decide +kernel⟩, List.mem_of_getElem? (i := 131) (by decide +kernel), List.mem_of_getElem? (i := 377) (by decide +kernel), List.mem_of_getElem? (i := 378) (by decide +kernel)⟩
theorem lw_p15 : lw_okq (⟨"StemDots$Fits", "weighed", "(JI)J"⟩, 12) := ⟨⟨by decide +kernel, by decide +kernel⟩, List.mem_of_getElem? (i := 131) (by decide +kernel), List.mem_of_getElem? (i := 384) (by decide +kernel), List.mem_of_getElem? (i := 385) (by decide +kernel)⟩
def lw_privs_1 : List (MethodName × Nat) := [(⟨"StemDots$Pad", "isSign", "(IC)Z"⟩, 3), (⟨"StemDots$Pad", "readNumber", "(II)I"⟩, 3), (⟨"StemDots$Pad", "isFigure", "(I)Z"⟩, 3), (⟨"StemDots", "renew", "()V"⟩, 6), (⟨"StemDots$Stems", "addNarrowest", "(LStemDots$Letter;)Z"⟩, 11), (⟨"StemDots$Stems", "isFree", "(II)Z"⟩, 11), (⟨"StemDots$Stems", "insert", "(IIII)V"⟩, 11), (⟨"StemDots$Stems", "sortByWidth", "()V"⟩, 11), (⟨"StemDots$Stems", "width", "(I)I"⟩, 11), (⟨"StemDots$Stems", "makeGroups", "(I)V"⟩, 11), (⟨"StemDots$Fits", "workOut", "(I)V"⟩, 12), (⟨"StemDots$Fits", "layLeftmost", "()I"⟩, 12), (⟨"StemDots$Fits", "weighRests", "()V"⟩, 12), (⟨"StemDots$Fits", "weighGapsBehind", "(I)V"⟩, 12), (⟨"StemDots$Fits", "gapCost", "(II)J"⟩, 12), (⟨"StemDots$Fits", "weighed", "(JI)J"⟩, 12)]
theorem lw_r1 : ∀ q ∈ lw_privs_1, lw_okq q := List.forall_mem_cons.mpr ⟨lw_p0, List.forall_mem_cons.mpr ⟨lw_p1, List.forall_mem_cons.mpr ⟨lw_p2, List.forall_mem_cons.mpr ⟨lw_p3, List.forall_mem_cons.mpr ⟨lw_p4, List.forall_mem_cons.mpr ⟨lw_p5, List.forall_mem_cons.mpr ⟨lw_p6, List.forall_mem_cons.mpr ⟨lw_p7, List.forall_mem_cons.mpr ⟨lw_p8, List.forall_mem_cons.mpr ⟨lw_p9, List.forall_mem_cons.mpr ⟨lw_p10, List.forall_mem_cons.mpr ⟨lw_p11, List.forall_mem_cons.mpr ⟨lw_p12, List.forall_mem_cons.mpr ⟨lw_p13, List.forall_mem_cons.mpr ⟨lw_p14, List.forall_mem_cons.mpr ⟨lw_p15, fun _ h => absurd h List.not_mem_nil⟩⟩⟩⟩⟩⟩⟩⟩⟩⟩⟩⟩⟩⟩⟩⟩
theorem lw_p16 : lw_okq (⟨"StemDots$Fits", "restAt", "(II)J"⟩, 12) := ⟨⟨by decide +kernel, by decide +kernel⟩, List.mem_of_getElem? (i := 131) (by decide +kernel), List.mem_of_getElem? (i := 389) (by decide +kernel), List.mem_of_getElem? (i := 390) (by decide +kernel)⟩
theorem lw_p17 : lw_okq (⟨"StemDots$Fits", "stemCost", "(II)J"⟩, 12) := ⟨⟨by decide +kernel, by decide +kernel⟩, List.mem_of_getElem? (i := 131) (by decide +kernel), List.mem_of_getElem? (i := 393) (by decide +kernel), List.mem_of_getElem? (i := 394) (by decide +kernel)⟩
theorem lw_p18 : lw_okq (⟨"StemDots$Fits", "joined", "(JJ)J"⟩, 12) := ⟨⟨by decide +kernel, by decide +kernel⟩, List.mem_of_getElem? (i := 131) (by decide +kernel), List.mem_of_getElem? (i := 397) (by decide +kernel), List.mem_of_getElem? (i := 398) (by decide +kernel)⟩
theorem lw_p19 : lw_okq (⟨"StemDots$Fits", "worstCounts", "()Z"⟩, 12) := ⟨⟨by decide +kernel, by decide +kernel⟩, List.mem_of_getElem? (i := 131) (by decide +kernel), List.mem_of_getElem? (i := 401) (by decide +kernel), List.mem_of_getElem? (i := 402) (by decide +kernel)⟩
theorem lw_p20 : lw_okq (⟨"StemDots$Fits", "leastRest", "()J"⟩, 12) := ⟨⟨by decide +kernel, by decide +kernel⟩, List.mem_of_getElem? (i := 131) (by decide +kernel), List.mem_of_getElem? (i := 411) (by decide +kernel), List.mem_of_getElem? (i := 412) (by decide +kernel)⟩
theorem lw_p21 : lw_okq (⟨"StemDots$Fits", "layLeast", "()V"⟩, 12) := ⟨⟨by decide +kernel, by decide +kernel⟩, List.mem_of_getElem? (i := 131) (by decide +kernel), List.mem_of_getElem? (i := 415) (by decide +kernel), List.mem_of_getElem? (i := 416) (by decide +kernel)⟩
theorem lw_p22 : lw_okq (⟨"StemDots$Fits", "comesTo", "(III)J"⟩, 12) := ⟨⟨by decide +kernel, by decide +kernel⟩, List.mem_of_getElem? (i := 131) (by decide +kernel), List.mem_of_getElem? (i := 419) (by decide +kernel), List.mem_of_getElem? (i := 420) (by decide +kernel)⟩
theorem lw_p23 : lw_okq (⟨"StemDots$Fits", "without", "(JJ)J"⟩, 12) := ⟨⟨by decide +kernel, by decide +kernel⟩, List.mem_of_getElem? (i := 131) (by decide +kernel), List.mem_of_getElem? (i := 423) (by decide +kernel), List.mem_of_getElem? (i := 424) (by decide +kernel)⟩
theorem lw_p24 : lw_okq (⟨"StemDotsModel", "faultOf", "()I"⟩, 23) := ⟨⟨by decide +kernel, by decide +kernel⟩, List.mem_of_getElem? (i := 473) (by decide +kernel), List.mem_of_getElem? (i := 564) (by decide +kernel), List.mem_of_getElem? (i := 565) (by decide +kernel)⟩
theorem lw_p25 : lw_okq (⟨"StemDotsModel", "layStems", "()V"⟩, 23) := ⟨⟨by decide +kernel, by decide +kernel⟩, List.mem_of_getElem? (i := 473) (by decide +kernel), List.mem_of_getElem? (i := 587) (by decide +kernel), List.mem_of_getElem? (i := 588) (by decide +kernel)⟩
theorem lw_p26 : lw_okq (⟨"StemDotsModel", "canBe", "(II)Z"⟩, 23) := ⟨⟨by decide +kernel, by decide +kernel⟩, List.mem_of_getElem? (i := 473) (by decide +kernel), List.mem_of_getElem? (i := 591) (by decide +kernel), List.mem_of_getElem? (i := 592) (by decide +kernel)⟩
theorem lw_p27 : lw_okq (⟨"StemDotsModel", "x", "(I)I"⟩, 23) := ⟨⟨by decide +kernel, by decide +kernel⟩, List.mem_of_getElem? (i := 473) (by decide +kernel), List.mem_of_getElem? (i := 595) (by decide +kernel), List.mem_of_getElem? (i := 596) (by decide +kernel)⟩
theorem lw_p28 : lw_okq (⟨"StemDotsModel", "isFree", "(II)Z"⟩, 23) := ⟨⟨by decide +kernel, by decide +kernel⟩, List.mem_of_getElem? (i := 473) (by decide +kernel), List.mem_of_getElem? (i := 599) (by decide +kernel), List.mem_of_getElem? (i := 600) (by decide +kernel)⟩
theorem lw_p29 : lw_okq (⟨"StemDotsModel", "layKinds", "()V"⟩, 23) := ⟨⟨by decide +kernel, by decide +kernel⟩, List.mem_of_getElem? (i := 473) (by decide +kernel), List.mem_of_getElem? (i := 603) (by decide +kernel), List.mem_of_getElem? (i := 604) (by decide +kernel)⟩
theorem lw_p30 : lw_okq (⟨"StemDotsModel", "width", "(I)I"⟩, 23) := ⟨⟨by decide +kernel, by decide +kernel⟩, List.mem_of_getElem? (i := 473) (by decide +kernel), List.mem_of_getElem? (i := 607) (by decide +kernel), List.mem_of_getElem? (i := 608) (by decide +kernel)⟩
theorem lw_p31 : lw_okq (⟨"StemDotsModel", "dotsOf", "(II)I"⟩, 23) := ⟨⟨by decide +kernel, by decide +kernel⟩, List.mem_of_getElem? (i := 473) (by decide +kernel), List.mem_of_getElem? (i := 623) (by decide +kernel), List.mem_of_getElem? (i := 624) (by decide +kernel)⟩
def lw_privs_2 : List (MethodName × Nat) := [(⟨"StemDots$Fits", "restAt", "(II)J"⟩, 12), (⟨"StemDots$Fits", "stemCost", "(II)J"⟩, 12), (⟨"StemDots$Fits", "joined", "(JJ)J"⟩, 12), (⟨"StemDots$Fits", "worstCounts", "()Z"⟩, 12), (⟨"StemDots$Fits", "leastRest", "()J"⟩, 12), (⟨"StemDots$Fits", "layLeast", "()V"⟩, 12), (⟨"StemDots$Fits", "comesTo", "(III)J"⟩, 12), (⟨"StemDots$Fits", "without", "(JJ)J"⟩, 12), (⟨"StemDotsModel", "faultOf", "()I"⟩, 23), (⟨"StemDotsModel", "layStems", "()V"⟩, 23), (⟨"StemDotsModel", "canBe", "(II)Z"⟩, 23), (⟨"StemDotsModel", "x", "(I)I"⟩, 23), (⟨"StemDotsModel", "isFree", "(II)Z"⟩, 23), (⟨"StemDotsModel", "layKinds", "()V"⟩, 23), (⟨"StemDotsModel", "width", "(I)I"⟩, 23), (⟨"StemDotsModel", "dotsOf", "(II)I"⟩, 23)]
theorem lw_r2 : ∀ q ∈ lw_privs_2, lw_okq q := List.forall_mem_cons.mpr ⟨lw_p16, List.forall_mem_cons.mpr ⟨lw_p17, List.forall_mem_cons.mpr ⟨lw_p18, List.forall_mem_cons.mpr ⟨lw_p19, List.forall_mem_cons.mpr ⟨lw_p20, List.forall_mem_cons.mpr ⟨lw_p21, List.forall_mem_cons.mpr ⟨lw_p22, List.forall_mem_cons.mpr ⟨lw_p23, List.forall_mem_cons.mpr ⟨lw_p24, List.forall_mem_cons.mpr ⟨lw_p25, List.forall_mem_cons.mpr ⟨lw_p26, List.forall_mem_cons.mpr ⟨lw_p27, List.forall_mem_cons.mpr ⟨lw_p28, List.forall_mem_cons.mpr ⟨lw_p29, List.forall_mem_cons.mpr ⟨lw_p30, List.forall_mem_cons.mpr ⟨lw_p31, fun _ h => absurd h List.not_mem_nil⟩⟩⟩⟩⟩⟩⟩⟩⟩⟩⟩⟩⟩⟩⟩⟩
theorem lw_p32 : lw_okq (⟨"StemDotsModel", "layFit", "(I)Z"⟩, 23) := ⟨⟨by decide +kernel, by decide +kernel⟩, List.mem_of_getElem? (i := 473) (by decide +kernel), List.mem_of_getElem? (i := 635) (by decide +kernel), List.mem_of_getElem? (i := 636) (by decide +kernel)⟩
theorem lw_p33 : lw_okq (⟨"StemDotsModel", "gapDrift", "(IIII)J"⟩, 23) := ⟨⟨by decide +kernel, by decide +kernel⟩, List.mem_of_getElem? (i := 473) (by decide +kernel), List.mem_of_getElem? (i := 640) (by decide +kernel), List.mem_of_getElem? (i := 641) (by decide +kernel)⟩
theorem lw_p34 : lw_okq (⟨"StemDotsModel", "counted", "(JI)J"⟩, 23) := ⟨⟨by decide +kernel, by decide +kernel⟩, List.mem_of_getElem? (i := 473) (by decide +kernel), List.mem_of_getElem? (i := 647) (by decide +kernel), List.mem_of_getElem? (i := 648) (by decide +kernel)⟩
theorem lw_p35 : lw_okq (⟨"StemDotsModel", "both", "(JJ)J"⟩, 23) := ⟨⟨by decide +kernel, by decide +kernel⟩, List.mem_of_getElem? (i := 473) (by decide +kernel), List.mem_of_getElem? (i := 651) (by decide +kernel), List.mem_of_getElem? (i := 652) (by decide +kernel)⟩
theorem lw_p36 : lw_okq (⟨"StemDotsModel", "stemDrift", "(III)J"⟩, 23) := ⟨⟨by decide +kernel, by decide +kernel⟩, List.mem_of_getElem? (i := 473) (by decide +kernel), List.mem_of_getElem? (i := 655) (by decide +kernel), List.mem_of_getElem? (i := 656) (by decide +kernel)⟩
def lw_privs_3 : List (MethodName × Nat) := [(⟨"StemDotsModel", "layFit", "(I)Z"⟩, 23), (⟨"StemDotsModel", "gapDrift", "(IIII)J"⟩, 23), (⟨"StemDotsModel", "counted", "(JI)J"⟩, 23), (⟨"StemDotsModel", "both", "(JJ)J"⟩, 23), (⟨"StemDotsModel", "stemDrift", "(III)J"⟩, 23)]
theorem lw_r3 : ∀ q ∈ lw_privs_3, lw_okq q := List.forall_mem_cons.mpr ⟨lw_p32, List.forall_mem_cons.mpr ⟨lw_p33, List.forall_mem_cons.mpr ⟨lw_p34, List.forall_mem_cons.mpr ⟨lw_p35, List.forall_mem_cons.mpr ⟨lw_p36, fun _ h => absurd h List.not_mem_nil⟩⟩⟩⟩⟩
def lw_privs : List (MethodName × Nat) := lw_privs_1 ++ (lw_privs_2 ++ (lw_privs_3))
def lw_tbl : List Cond := k2_sels lw_privs ++ tables_1
theorem lw_privs_ok : ∀ q ∈ lw_privs, lw_okq q := by
  show ∀ q ∈ lw_privs_1 ++ (lw_privs_2 ++ (lw_privs_3)), lw_okq q
  exact List.forall_mem_append.mpr ⟨lw_r1, List.forall_mem_append.mpr ⟨lw_r2, lw_r3⟩⟩
end
section
/-! ===== BEGIN words of one list among another's, by their places ===== -/
theorem goodIn_r {big : List Cond} (ws : List Cond) (ps : List Nat) (hp : ws = ps.filterMap (fun i => big[i]?)) (h : ws.all goodWord = true) : GoodIn big ws := by
  intro w hw
  have h1 := List.all_eq_true.mp h w hw
  rw [hp] at hw
  obtain ⟨i, -, hi⟩ := List.mem_filterMap.mp hw
  have hm : w ∈ big := by first | exact List.mem_of_getElem? hi | exact List.getElem?_mem hi
  exact ⟨hm, good_of_word h1⟩
theorem goodIn_app {big a b : List Cond} (ha : GoodIn big a) (hb : GoodIn big b) : GoodIn big (a ++ b) := fun w h => (List.mem_append.mp h).elim (ha w) (hb w)
theorem goodIn_ca {big a b : List Cond} {c : Cond} (ha : GoodIn big (c :: a)) (hb : GoodIn big b) : GoodIn big (c :: (a ++ b)) := fun w h => (List.mem_cons.mp h).elim (fun e => ha w (List.mem_cons.mpr (Or.inl e))) (fun h => (List.mem_append.mp h).elim (fun h => ha w (List.mem_cons.mpr (Or.inr h))) (hb w))
theorem goodIn_sub {big ws : List Cond} (hm : ∀ w ∈ ws, w ∈ big) (h : ws.all goodWord = true) : GoodIn big ws := fun w hw => ⟨hm w hw, good_of_word (List.all_eq_true.mp h w hw)⟩
/-! ===== END ===== -/

/-! ===== BEGIN printed: names, fields, word lists, decode rows ===== -/
def RX0 : String := "StemDots$Fits"
def TX0 : u_T := fun k => match k with
  | 0 => ("StemDots$Fits", "least", "[J", true)
  | 1 => ("StemDots$Fits", "blamed", "[I", true)
  | 2 => ("StemDots$Fits", "known", "[Z", true)
  | 3 => ("StemDots$Fits", "leftDots", "[I", true)
  | 4 => ("StemDots$Fits", "letter", "LStemDots$Letter;", true)
  | 5 => ("StemDots$Fits", "stems", "LStemDots$Stems;", true)
  | 6 => ("StemDots$Fits", "dotsOf", "[I", true)
  | 7 => ("StemDots$Fits", "leftmost", "[I", true)
  | 8 => ("StemDots$Fits", "rest", "[J", true)
  | 9 => ("StemDots$Fits", "gapCosts", "[J", true)
  | 10 => ("StemDots$Fits", "workSize", "I", false)
  | _ => ("StemDots$Fits", "room", "I", false)
def tyX0 : Nat → FieldType := fun k => match k with
  | 0 => .array .long
  | 1 => .array .int
  | 2 => .array .boolean
  | 3 => .array .int
  | 4 => .object "StemDots$Letter"
  | 5 => .object "StemDots$Stems"
  | 6 => .array .int
  | 7 => .array .int
  | 8 => .array .long
  | 9 => .array .long
  | 10 => .int
  | _ => .int
abbrev wsX00 : List Cond := u_ws RX0 TX0 12
theorem nmX0 : ∀ a, a < 12 → ∀ b, b < 12 → a ≠ b → (TX0 a).2.1 ≠ (TX0 b).2.1 := by decide +kernel
theorem tyX0_ok : ∀ k, k < 12 → parseFieldDescriptor (TX0 k).2.2.1 = some (tyX0 k) := by decide +kernel
abbrev cX0_init : ByteArray := prog_2_method_1_code
def yX0_init : MethodName := ⟨RX0, "<init>", "(LStemDots$Letter;LStemDots$Stems;)V"⟩
abbrev cX0_forget : ByteArray := prog_2_method_2_code
def yX0_forget : MethodName := ⟨RX0, "forget", "()V"⟩
abbrev cX0_isAt : ByteArray := prog_2_method_3_code
def yX0_isAt : MethodName := ⟨RX0, "isAt", "(I)Z"⟩
abbrev cX0_leftDot : ByteArray := prog_2_method_4_code
def yX0_leftDot : MethodName := ⟨RX0, "leftDot", "(II)I"⟩
abbrev cX0_drawn : ByteArray := prog_2_method_5_code
def yX0_drawn : MethodName := ⟨RX0, "drawn", "(II)I"⟩
abbrev cX0_workOut : ByteArray := prog_2_method_6_code
def yX0_workOut : MethodName := ⟨RX0, "workOut", "(I)V"⟩
abbrev cX0_layLeftmost : ByteArray := prog_2_method_7_code
def yX0_layLeftmost : MethodName := ⟨RX0, "layLeftmost", "()I"⟩
abbrev cX0_weighRests : ByteArray := prog_2_method_8_code
def yX0_weighRests : MethodName := ⟨RX0, "weighRests", "()V"⟩
abbrev cX0_weighGapsBehind : ByteArray := prog_2_method_9_code
def yX0_weighGapsBehind : MethodName := ⟨RX0, "weighGapsBehind", "(I)V"⟩
abbrev cX0_restAt : ByteArray := prog_2_method_10_code
def yX0_restAt : MethodName := ⟨RX0, "restAt", "(II)J"⟩
abbrev cX0_leastRest : ByteArray := prog_2_method_11_code
def yX0_leastRest : MethodName := ⟨RX0, "leastRest", "()J"⟩
abbrev cX0_layLeast : ByteArray := prog_2_method_12_code
def yX0_layLeast : MethodName := ⟨RX0, "layLeast", "()V"⟩
abbrev cX0_comesTo : ByteArray := prog_2_method_13_code
def yX0_comesTo : MethodName := ⟨RX0, "comesTo", "(III)J"⟩
abbrev cX0_worstCounts : ByteArray := prog_2_method_14_code
def yX0_worstCounts : MethodName := ⟨RX0, "worstCounts", "()Z"⟩
abbrev cX0_joined : ByteArray := prog_2_method_15_code
def yX0_joined : MethodName := ⟨RX0, "joined", "(JJ)J"⟩
abbrev cX0_without : ByteArray := prog_2_method_16_code
def yX0_without : MethodName := ⟨RX0, "without", "(JJ)J"⟩
abbrev cX0_stemCost : ByteArray := prog_2_method_17_code
def yX0_stemCost : MethodName := ⟨RX0, "stemCost", "(II)J"⟩
abbrev cX0_gapCost : ByteArray := prog_2_method_18_code
def yX0_gapCost : MethodName := ⟨RX0, "gapCost", "(II)J"⟩
abbrev cX0_weighed : ByteArray := prog_2_method_19_code
def yX0_weighed : MethodName := ⟨RX0, "weighed", "(JI)J"⟩
def RX1 : String := "StemDots$Letter"
def TX1 : u_T := fun k => match k with
  | 0 => ("StemDots$Letter", "up", "[I", true)
  | 1 => ("StemDots$Letter", "x", "[I", true)
  | 2 => ("StemDots$Letter", "low", "[I", true)
  | 3 => ("StemDots$Letter", "high", "[I", true)
  | 4 => ("StemDots$Letter", "edges", "I", false)
  | _ => ("StemDots$Letter", "rules", "[I", true)
def tyX1 : Nat → FieldType := fun k => match k with
  | 0 => .array .int
  | 1 => .array .int
  | 2 => .array .int
  | 3 => .array .int
  | 4 => .int
  | _ => .array .int
abbrev wsX10 : List Cond := u_ws RX1 TX1 6
theorem nmX1 : ∀ a, a < 6 → ∀ b, b < 6 → a ≠ b → (TX1 a).2.1 ≠ (TX1 b).2.1 := by decide +kernel
theorem tyX1_ok : ∀ k, k < 6 → parseFieldDescriptor (TX1 k).2.2.1 = some (tyX1 k) := by decide +kernel
abbrev cX1_init : ByteArray := prog_3_method_1_code
def yX1_init : MethodName := ⟨RX1, "<init>", "()V"⟩
abbrev cX1_add : ByteArray := prog_3_method_2_code
def yX1_add : MethodName := ⟨RX1, "add", "(LStemDots$Pad;)Z"⟩
abbrev cX1_remove : ByteArray := prog_3_method_3_code
def yX1_remove : MethodName := ⟨RX1, "remove", "(I)V"⟩
abbrev cX1_take : ByteArray := prog_3_method_4_code
def yX1_take : MethodName := ⟨RX1, "take", "(LStemDots$Letter;)V"⟩
abbrev cX1_canBeStem : ByteArray := prog_3_method_5_code
def yX1_canBeStem : MethodName := ⟨RX1, "canBeStem", "(II)Z"⟩
def RX2 : String := "StemDots$Pad"
def TX2 : u_T := fun k => match k with
  | 0 => ("StemDots$Pad", "row", "[I", true)
  | 1 => ("StemDots$Pad", "signs", "I", false)
  | _ => ("StemDots$Pad", "numbers", "[I", true)
def tyX2 : Nat → FieldType := fun k => match k with
  | 0 => .array .int
  | 1 => .int
  | _ => .array .int
abbrev wsX20 : List Cond := u_ws RX2 TX2 3
theorem nmX2 : ∀ a, a < 3 → ∀ b, b < 3 → a ≠ b → (TX2 a).2.1 ≠ (TX2 b).2.1 := by decide +kernel
theorem tyX2_ok : ∀ k, k < 3 → parseFieldDescriptor (TX2 k).2.2.1 = some (tyX2 k) := by decide +kernel
abbrev cX2_init : ByteArray := prog_4_method_1_code
def yX2_init : MethodName := ⟨RX2, "<init>", "()V"⟩
abbrev cX2_add : ByteArray := prog_4_method_2_code
def yX2_add : MethodName := ⟨RX2, "add", "(I)Z"⟩
abbrev cX2_clear : ByteArray := prog_4_method_3_code
def yX2_clear : MethodName := ⟨RX2, "clear", "()V"⟩
abbrev cX2_read : ByteArray := prog_4_method_4_code
def yX2_read : MethodName := ⟨RX2, "read", "()I"⟩
abbrev cX2_isSign : ByteArray := prog_4_method_5_code
def yX2_isSign : MethodName := ⟨RX2, "isSign", "(IC)Z"⟩
abbrev cX2_readNumber : ByteArray := prog_4_method_6_code
def yX2_readNumber : MethodName := ⟨RX2, "readNumber", "(II)I"⟩
abbrev cX2_isFigure : ByteArray := prog_4_method_7_code
def yX2_isFigure : MethodName := ⟨RX2, "isFigure", "(I)Z"⟩
def RX3 : String := "StemDots$Stems"
def TX3 : u_T := fun k => match k with
  | 0 => ("StemDots$Stems", "many", "I", false)
  | 1 => ("StemDots$Stems", "left", "[I", true)
  | 2 => ("StemDots$Stems", "right", "[I", true)
  | 3 => ("StemDots$Stems", "upEdge", "[I", true)
  | 4 => ("StemDots$Stems", "downEdge", "[I", true)
  | 5 => ("StemDots$Stems", "group", "[I", true)
  | 6 => ("StemDots$Stems", "groups", "I", false)
  | 7 => ("StemDots$Stems", "members", "[I", true)
  | 8 => ("StemDots$Stems", "leastWidth", "[I", true)
  | 9 => ("StemDots$Stems", "widths", "[I", true)
  | _ => ("StemDots$Stems", "byWidth", "[I", true)
def tyX3 : Nat → FieldType := fun k => match k with
  | 0 => .int
  | 1 => .array .int
  | 2 => .array .int
  | 3 => .array .int
  | 4 => .array .int
  | 5 => .array .int
  | 6 => .int
  | 7 => .array .int
  | 8 => .array .int
  | 9 => .array .int
  | _ => .array .int
abbrev wsX30 : List Cond := u_ws RX3 TX3 11
theorem nmX3 : ∀ a, a < 11 → ∀ b, b < 11 → a ≠ b → (TX3 a).2.1 ≠ (TX3 b).2.1 := by decide +kernel
theorem tyX3_ok : ∀ k, k < 11 → parseFieldDescriptor (TX3 k).2.2.1 = some (tyX3 k) := by decide +kernel
abbrev cX3_init : ByteArray := prog_5_method_1_code
def yX3_init : MethodName := ⟨RX3, "<init>", "()V"⟩
abbrev cX3_find : ByteArray := prog_5_method_2_code
def yX3_find : MethodName := ⟨RX3, "find", "(LStemDots$Letter;)V"⟩
abbrev cX3_withEdge : ByteArray := prog_5_method_3_code
def yX3_withEdge : MethodName := ⟨RX3, "withEdge", "(I)I"⟩
abbrev cX3_standard : ByteArray := prog_5_method_4_code
def yX3_standard : MethodName := ⟨RX3, "standard", "(I)I"⟩
abbrev cX3_dotsOfGroup : ByteArray := prog_5_method_5_code
def yX3_dotsOfGroup : MethodName := ⟨RX3, "dotsOfGroup", "(III)I"⟩
abbrev cX3_dotsOfStem : ByteArray := prog_5_method_6_code
def yX3_dotsOfStem : MethodName := ⟨RX3, "dotsOfStem", "(III)I"⟩
abbrev cX3_width : ByteArray := prog_5_method_7_code
def yX3_width : MethodName := ⟨RX3, "width", "(I)I"⟩
abbrev cX3_addNarrowest : ByteArray := prog_5_method_8_code
def yX3_addNarrowest : MethodName := ⟨RX3, "addNarrowest", "(LStemDots$Letter;)Z"⟩
abbrev cX3_isFree : ByteArray := prog_5_method_9_code
def yX3_isFree : MethodName := ⟨RX3, "isFree", "(II)Z"⟩
abbrev cX3_isSooner : ByteArray := prog_5_method_10_code
def yX3_isSooner : MethodName := ⟨RX3, "isSooner", "(IIII)Z"⟩
abbrev cX3_insert : ByteArray := prog_5_method_11_code
def yX3_insert : MethodName := ⟨RX3, "insert", "(IIII)V"⟩
abbrev cX3_sortByWidth : ByteArray := prog_5_method_12_code
def yX3_sortByWidth : MethodName := ⟨RX3, "sortByWidth", "()V"⟩
abbrev cX3_makeGroups : ByteArray := prog_5_method_13_code
def yX3_makeGroups : MethodName := ⟨RX3, "makeGroups", "(I)V"⟩
def RX4 : String := "StemDots"
def TX4 : u_T := fun k => match k with
  | 0 => ("StemDots", "pad", "LStemDots$Pad;", true)
  | 1 => ("StemDots", "letter", "LStemDots$Letter;", true)
  | 2 => ("StemDots", "images", "[LStemDots$Letter;", true)
  | 3 => ("StemDots", "kept", "[Z", true)
  | 4 => ("StemDots", "stems", "LStemDots$Stems;", true)
  | _ => ("StemDots", "fits", "LStemDots$Fits;", true)
def tyX4 : Nat → FieldType := fun k => match k with
  | 0 => .object "StemDots$Pad"
  | 1 => .object "StemDots$Letter"
  | 2 => .array (.object "StemDots$Letter")
  | 3 => .array .boolean
  | 4 => .object "StemDots$Stems"
  | _ => .object "StemDots$Fits"
abbrev wsX40 : List Cond := u_ws RX4 TX4 6
theorem nmX4 : ∀ a, a < 6 → ∀ b, b < 6 → a ≠ b → (TX4 a).2.1 ≠ (TX4 b).2.1 := by decide +kernel
theorem tyX4_ok : ∀ k, k < 6 → parseFieldDescriptor (TX4 k).2.2.1 = some (tyX4 k) := by decide +kernel
abbrev cX4_init : ByteArray := prog_1_method_1_code
def yX4_init : MethodName := ⟨RX4, "<init>", "()V"⟩
abbrev cX4_say : ByteArray := prog_1_method_2_code
def yX4_say : MethodName := ⟨RX4, "say", "(I)I"⟩
abbrev cX4_wipe : ByteArray := prog_1_method_3_code
def yX4_wipe : MethodName := ⟨RX4, "wipe", "()I"⟩
abbrev cX4_fault : ByteArray := prog_1_method_4_code
def yX4_fault : MethodName := ⟨RX4, "fault", "()I"⟩
abbrev cX4_edge : ByteArray := prog_1_method_5_code
def yX4_edge : MethodName := ⟨RX4, "edge", "()I"⟩
abbrev cX4_erase : ByteArray := prog_1_method_6_code
def yX4_erase : MethodName := ⟨RX4, "erase", "(I)I"⟩
abbrev cX4_told : ByteArray := prog_1_method_7_code
def yX4_told : MethodName := ⟨RX4, "told", "(II)I"⟩
abbrev cX4_rule : ByteArray := prog_1_method_8_code
def yX4_rule : MethodName := ⟨RX4, "rule", "(II)I"⟩
abbrev cX4_stem : ByteArray := prog_1_method_9_code
def yX4_stem : MethodName := ⟨RX4, "stem", "(II)I"⟩
abbrev cX4_kind : ByteArray := prog_1_method_10_code
def yX4_kind : MethodName := ⟨RX4, "kind", "(II)I"⟩
abbrev cX4_dots : ByteArray := prog_1_method_11_code
def yX4_dots : MethodName := ⟨RX4, "dots", "(II)I"⟩
abbrev cX4_grows : ByteArray := prog_1_method_12_code
def yX4_grows : MethodName := ⟨RX4, "grows", "(II)I"⟩
abbrev cX4_fit : ByteArray := prog_1_method_13_code
def yX4_fit : MethodName := ⟨RX4, "fit", "(II)I"⟩
abbrev cX4_distortion : ByteArray := prog_1_method_14_code
def yX4_distortion : MethodName := ⟨RX4, "distortion", "(I)J"⟩
abbrev cX4_why : ByteArray := prog_1_method_15_code
def yX4_why : MethodName := ⟨RX4, "why", "(II)I"⟩
abbrev cX4_best : ByteArray := prog_1_method_16_code
def yX4_best : MethodName := ⟨RX4, "best", "(I)I"⟩
abbrev cX4_place : ByteArray := prog_1_method_17_code
def yX4_place : MethodName := ⟨RX4, "place", "(II)I"⟩
abbrev cX4_image : ByteArray := prog_1_method_18_code
def yX4_image : MethodName := ⟨RX4, "image", "(I)I"⟩
abbrev cX4_restore : ByteArray := prog_1_method_19_code
def yX4_restore : MethodName := ⟨RX4, "restore", "(I)I"⟩
abbrev cX4_count : ByteArray := prog_1_method_20_code
def yX4_count : MethodName := ⟨RX4, "count", "(I)I"⟩
abbrev cX4_renew : ByteArray := prog_1_method_21_code
def yX4_renew : MethodName := ⟨RX4, "renew", "()V"⟩
abbrev cX4_isWithin : ByteArray := prog_1_method_22_code
def yX4_isWithin : MethodName := ⟨RX4, "isWithin", "(III)Z"⟩
abbrev cX4_isSize : ByteArray := prog_1_method_23_code
def yX4_isSize : MethodName := ⟨RX4, "isSize", "(I)Z"⟩
def RX5 : String := "StemDotsModel"
def TX5 : u_T := fun k => match k with
  | 0 => ("StemDotsModel", "edges", "[I", true)
  | 1 => ("StemDotsModel", "many", "I", false)
  | 2 => ("StemDotsModel", "rules", "[I", true)
  | 3 => ("StemDotsModel", "signs", "I", false)
  | 4 => ("StemDotsModel", "pad", "[I", true)
  | 5 => ("StemDotsModel", "read", "[I", true)
  | 6 => ("StemDotsModel", "left", "[I", true)
  | 7 => ("StemDotsModel", "right", "[I", true)
  | 8 => ("StemDotsModel", "ups", "[I", true)
  | 9 => ("StemDotsModel", "downs", "[I", true)
  | 10 => ("StemDotsModel", "kinds", "[I", true)
  | 11 => ("StemDotsModel", "stems", "I", false)
  | 12 => ("StemDotsModel", "stemOf", "[I", true)
  | 13 => ("StemDotsModel", "count", "[I", true)
  | 14 => ("StemDotsModel", "least", "[I", true)
  | 15 => ("StemDotsModel", "sum", "[I", true)
  | 16 => ("StemDotsModel", "classes", "I", false)
  | 17 => ("StemDotsModel", "from", "[J", true)
  | 18 => ("StemDotsModel", "dot", "[I", true)
  | 19 => ("StemDotsModel", "wide", "[I", true)
  | 20 => ("StemDotsModel", "whole", "J", false)
  | 21 => ("StemDotsModel", "image", "[I", true)
  | _ => ("StemDotsModel", "isKept", "[Z", true)
def tyX5 : Nat → FieldType := fun k => match k with
  | 0 => .array .int
  | 1 => .int
  | 2 => .array .int
  | 3 => .int
  | 4 => .array .int
  | 5 => .array .int
  | 6 => .array .int
  | 7 => .array .int
  | 8 => .array .int
  | 9 => .array .int
  | 10 => .array .int
  | 11 => .int
  | 12 => .array .int
  | 13 => .array .int
  | 14 => .array .int
  | 15 => .array .int
  | 16 => .int
  | 17 => .array .long
  | 18 => .array .int
  | 19 => .array .int
  | 20 => .long
  | 21 => .array .int
  | _ => .array .boolean
abbrev wsX50 : List Cond := u_ws RX5 TX5 23
theorem nmX5 : ∀ a, a < 23 → ∀ b, b < 23 → a ≠ b → (TX5 a).2.1 ≠ (TX5 b).2.1 := by decide +kernel
theorem tyX5_ok : ∀ k, k < 23 → parseFieldDescriptor (TX5 k).2.2.1 = some (tyX5 k) := by decide +kernel
abbrev cX5_init : ByteArray := prog_7_method_1_code
def yX5_init : MethodName := ⟨RX5, "<init>", "()V"⟩
abbrev cX5_in : ByteArray := prog_7_method_2_code
def yX5_in : MethodName := ⟨RX5, "in", "(III)Z"⟩
abbrev cX5_isFigure : ByteArray := prog_7_method_3_code
def yX5_isFigure : MethodName := ⟨RX5, "isFigure", "(I)Z"⟩
abbrev cX5_say : ByteArray := prog_7_method_4_code
def yX5_say : MethodName := ⟨RX5, "say", "(I)I"⟩
abbrev cX5_wipe : ByteArray := prog_7_method_5_code
def yX5_wipe : MethodName := ⟨RX5, "wipe", "()I"⟩
abbrev cX5_faultOf : ByteArray := prog_7_method_6_code
def yX5_faultOf : MethodName := ⟨RX5, "faultOf", "()I"⟩
abbrev cX5_fault : ByteArray := prog_7_method_7_code
def yX5_fault : MethodName := ⟨RX5, "fault", "()I"⟩
abbrev cX5_edge : ByteArray := prog_7_method_8_code
def yX5_edge : MethodName := ⟨RX5, "edge", "()I"⟩
abbrev cX5_erase : ByteArray := prog_7_method_9_code
def yX5_erase : MethodName := ⟨RX5, "erase", "(I)I"⟩
abbrev cX5_rule : ByteArray := prog_7_method_10_code
def yX5_rule : MethodName := ⟨RX5, "rule", "(II)I"⟩
abbrev cX5_x : ByteArray := prog_7_method_11_code
def yX5_x : MethodName := ⟨RX5, "x", "(I)I"⟩
abbrev cX5_canBe : ByteArray := prog_7_method_12_code
def yX5_canBe : MethodName := ⟨RX5, "canBe", "(II)Z"⟩
abbrev cX5_isFree : ByteArray := prog_7_method_13_code
def yX5_isFree : MethodName := ⟨RX5, "isFree", "(II)Z"⟩
abbrev cX5_layStems : ByteArray := prog_7_method_14_code
def yX5_layStems : MethodName := ⟨RX5, "layStems", "()V"⟩
abbrev cX5_width : ByteArray := prog_7_method_15_code
def yX5_width : MethodName := ⟨RX5, "width", "(I)I"⟩
abbrev cX5_layKinds : ByteArray := prog_7_method_16_code
def yX5_layKinds : MethodName := ⟨RX5, "layKinds", "()V"⟩
abbrev cX5_told : ByteArray := prog_7_method_17_code
def yX5_told : MethodName := ⟨RX5, "told", "(II)I"⟩
abbrev cX5_stem : ByteArray := prog_7_method_18_code
def yX5_stem : MethodName := ⟨RX5, "stem", "(II)I"⟩
abbrev cX5_kind : ByteArray := prog_7_method_19_code
def yX5_kind : MethodName := ⟨RX5, "kind", "(II)I"⟩
abbrev cX5_dotsOf : ByteArray := prog_7_method_20_code
def yX5_dotsOf : MethodName := ⟨RX5, "dotsOf", "(II)I"⟩
abbrev cX5_dots : ByteArray := prog_7_method_21_code
def yX5_dots : MethodName := ⟨RX5, "dots", "(II)I"⟩
abbrev cX5_grows : ByteArray := prog_7_method_22_code
def yX5_grows : MethodName := ⟨RX5, "grows", "(II)I"⟩
abbrev cX5_counted : ByteArray := prog_7_method_23_code
def yX5_counted : MethodName := ⟨RX5, "counted", "(JI)J"⟩
abbrev cX5_both : ByteArray := prog_7_method_24_code
def yX5_both : MethodName := ⟨RX5, "both", "(JJ)J"⟩
abbrev cX5_stemDrift : ByteArray := prog_7_method_25_code
def yX5_stemDrift : MethodName := ⟨RX5, "stemDrift", "(III)J"⟩
abbrev cX5_gapDrift : ByteArray := prog_7_method_26_code
def yX5_gapDrift : MethodName := ⟨RX5, "gapDrift", "(IIII)J"⟩
abbrev cX5_layFit : ByteArray := prog_7_method_27_code
def yX5_layFit : MethodName := ⟨RX5, "layFit", "(I)Z"⟩
abbrev cX5_fit : ByteArray := prog_7_method_28_code
def yX5_fit : MethodName := ⟨RX5, "fit", "(II)I"⟩
abbrev cX5_distortion : ByteArray := prog_7_method_29_code
def yX5_distortion : MethodName := ⟨RX5, "distortion", "(I)J"⟩
abbrev cX5_why : ByteArray := prog_7_method_30_code
def yX5_why : MethodName := ⟨RX5, "why", "(II)I"⟩
abbrev cX5_best : ByteArray := prog_7_method_31_code
def yX5_best : MethodName := ⟨RX5, "best", "(I)I"⟩
abbrev cX5_place : ByteArray := prog_7_method_32_code
def yX5_place : MethodName := ⟨RX5, "place", "(II)I"⟩
abbrev cX5_image : ByteArray := prog_7_method_33_code
def yX5_image : MethodName := ⟨RX5, "image", "(I)I"⟩
abbrev cX5_restore : ByteArray := prog_7_method_34_code
def yX5_restore : MethodName := ⟨RX5, "restore", "(I)I"⟩
abbrev cX5_count : ByteArray := prog_7_method_35_code
def yX5_count : MethodName := ⟨RX5, "count", "(I)I"⟩
def RJ9 : String := "java/lang/Math"
def TJ9 : u_T := fun k => match k with
  | _ => ("", "", "", false)
def tyJ9 : Nat → FieldType := fun k => match k with
  | _ => .int
abbrev wsJ90 : List Cond := u_ws RJ9 TJ9 0
theorem nmJ9 : ∀ a, a < 0 → ∀ b, b < 0 → a ≠ b → (TJ9 a).2.1 ≠ (TJ9 b).2.1 := by decide +kernel
theorem tyJ9_ok : ∀ k, k < 0 → parseFieldDescriptor (TJ9 k).2.2.1 = some (tyJ9 k) := by decide +kernel
abbrev cJ9_abs_0f7a4 : ByteArray := prog_8_method_59_code
def yJ9_abs_0f7a4 : MethodName := ⟨RJ9, "abs", "(I)I"⟩
abbrev cJ9_max_7cf53 : ByteArray := prog_8_method_65_code
def yJ9_max_7cf53 : MethodName := ⟨RJ9, "max", "(II)I"⟩
abbrev cJ9_max_f86c9 : ByteArray := prog_8_method_66_code
def yJ9_max_f86c9 : MethodName := ⟨RJ9, "max", "(JJ)J"⟩
abbrev cJ9_min_7cf53 : ByteArray := prog_8_method_69_code
def yJ9_min_7cf53 : MethodName := ⟨RJ9, "min", "(II)I"⟩
abbrev cJ9_min_f86c9 : ByteArray := prog_8_method_70_code
def yJ9_min_f86c9 : MethodName := ⟨RJ9, "min", "(JJ)J"⟩
def RJ10 : String := "java/lang/System"
def TJ10 : u_T := fun k => match k with
  | _ => ("", "", "", false)
def tyJ10 : Nat → FieldType := fun k => match k with
  | _ => .int
abbrev wsJ100 : List Cond := u_ws RJ10 TJ10 0
theorem nmJ10 : ∀ a, a < 0 → ∀ b, b < 0 → a ≠ b → (TJ10 a).2.1 ≠ (TJ10 b).2.1 := by decide +kernel
theorem tyJ10_ok : ∀ k, k < 0 → parseFieldDescriptor (TJ10 k).2.2.1 = some (tyJ10 k) := by decide +kernel
def RL : String := "StemDotsLaw"
abbrev cL_law : ByteArray := code
def yL_law : MethodName := ⟨RL, "law", "([I)Z"⟩
def wsX0_init : List Cond := .code yX0_init cX0_init 3 none :: ([.methodLink RX0 3 objectInit, .instanceMethod objectInit, .code objectInit ⟨#[0xb1]⟩ 1 none, .fieldLink RX0 9 "StemDots$Fits" "letter" "LStemDots$Letter;", .fieldLink RX0 15 "StemDots$Fits" "stems" "LStemDots$Stems;", .arrayClass .long, .fieldLink RX0 19 "StemDots$Fits" "least" "[J", .arrayClass .int, .fieldLink RX0 23 "StemDots$Fits" "blamed" "[I", .arrayClass .boolean, .fieldLink RX0 27 "StemDots$Fits" "known" "[Z", .fieldLink RX0 31 "StemDots$Fits" "leftDots" "[I", .fieldLink RX0 34 "StemDots$Fits" "dotsOf" "[I", .fieldLink RX0 37 "StemDots$Fits" "leftmost" "[I", .fieldLink RX0 40 "StemDots$Fits" "rest" "[J", .fieldLink RX0 43 "StemDots$Fits" "gapCosts" "[J"] ++ wsX00)
def wsX0_forget : List Cond := .code yX0_forget cX0_forget 2 none :: ([.fieldLink RX0 27 "StemDots$Fits" "known" "[Z"] ++ wsX00)
def wsX3_standard : List Cond := .code yX3_standard cX3_standard 2 (some .int) :: ([.fieldLink RX3 27 "StemDots$Stems" "members" "[I", .fieldLink RX3 33 "StemDots$Stems" "widths" "[I"] ++ wsX30)
def wsX3_dotsOfGroup : List Cond := .code yX3_dotsOfGroup cX3_dotsOfGroup 5 (some .int) :: ([.methodLink RX3 63 Lib.Math.max.name, .static Lib.Math.max.name, .initialized "java/lang/Math", .code Lib.Math.max.name Lib.Math.max.code 2 (some .int), .methodLink RX3 59 yX3_standard, .instanceMethod yX3_standard, .selects RX3 yX3_standard yX3_standard, .initialized RX3, .code yX3_standard cX3_standard 2 (some .int), .fieldLink RX3 27 "StemDots$Stems" "members" "[I", .fieldLink RX3 33 "StemDots$Stems" "widths" "[I"] ++ wsX30)
def wsX3_dotsOfStem : List Cond := .code yX3_dotsOfStem cX3_dotsOfStem 4 (some .int) :: ([.fieldLink RX3 24 "StemDots$Stems" "group" "[I", .methodLink RX3 69 yX3_dotsOfGroup, .instanceMethod yX3_dotsOfGroup, .selects RX3 yX3_dotsOfGroup yX3_dotsOfGroup, .initialized RX3, .code yX3_dotsOfGroup cX3_dotsOfGroup 5 (some .int), .methodLink RX3 63 Lib.Math.max.name, .static Lib.Math.max.name, .initialized "java/lang/Math", .code Lib.Math.max.name Lib.Math.max.code 2 (some .int), .methodLink RX3 59 yX3_standard, .instanceMethod yX3_standard, .selects RX3 yX3_standard yX3_standard, .code yX3_standard cX3_standard 2 (some .int), .fieldLink RX3 27 "StemDots$Stems" "members" "[I", .fieldLink RX3 33 "StemDots$Stems" "widths" "[I"] ++ wsX30)
def wsX0_layLeftmost_r1 : List Cond := [Cond.fieldLink RX0 92 "StemDots$Fits" "room" "I", Cond.fieldLink RX0 15 "StemDots$Fits" "stems" "LStemDots$Stems;", Cond.fieldLink RX0 50 "StemDots$Stems" "many" "I", Cond.fieldLink RX0 34 "StemDots$Fits" "dotsOf" "[I", Cond.fieldLink RX0 75 "StemDots$Fits" "workSize" "I", Cond.fieldLink RX0 9 "StemDots$Fits" "letter" "LStemDots$Letter;", Cond.fieldLink RX0 66 "StemDots$Letter" "rules" "[I", Cond.fieldLink RX0 37 "StemDots$Fits" "leftmost" "[I", Cond.methodLink RX0 71 yX3_dotsOfStem, Cond.instanceMethod yX3_dotsOfStem, Cond.selects RX3 yX3_dotsOfStem yX3_dotsOfStem, Cond.initialized RX3, Cond.code yX3_dotsOfStem cX3_dotsOfStem 4 (some .int), Cond.fieldLink RX3 24 "StemDots$Stems" "group" "[I", Cond.methodLink RX3 69 yX3_dotsOfGroup, Cond.instanceMethod yX3_dotsOfGroup, Cond.selects RX3 yX3_dotsOfGroup yX3_dotsOfGroup, Cond.code yX3_dotsOfGroup cX3_dotsOfGroup 5 (some .int), Cond.methodLink RX3 63 Lib.Math.max.name, Cond.static Lib.Math.max.name, Cond.initialized "java/lang/Math", Cond.code Lib.Math.max.name Lib.Math.max.code 2 (some .int), Cond.methodLink RX3 59 yX3_standard, Cond.instanceMethod yX3_standard]
def wsX0_layLeftmost_r2 : List Cond := [Cond.selects RX3 yX3_standard yX3_standard, Cond.code yX3_standard cX3_standard 2 (some .int), Cond.fieldLink RX3 27 "StemDots$Stems" "members" "[I", Cond.fieldLink RX3 33 "StemDots$Stems" "widths" "[I"]
def wsX0_layLeftmost : List Cond := .code yX0_layLeftmost cX0_layLeftmost 3 (some .int) :: ((wsX0_layLeftmost_r1 ++ wsX0_layLeftmost_r2) ++ wsX00 ++ wsX30 ++ wsX10)
def wsX0_weighed : List Cond := .code yX0_weighed cX0_weighed 5 (some .long) :: ([.fieldLink RX0 9 "StemDots$Fits" "letter" "LStemDots$Letter;", .fieldLink RX0 66 "StemDots$Letter" "rules" "[I", .constantLong RX0 139 (1000)] ++ wsX00 ++ wsX10)
def wsX0_gapCost : List Cond := .code yX0_gapCost cX0_gapCost 5 (some .long) :: ([.fieldLink RX0 15 "StemDots$Fits" "stems" "LStemDots$Stems;", .fieldLink RX0 56 "StemDots$Stems" "left" "[I", .fieldLink RX0 63 "StemDots$Stems" "right" "[I", .fieldLink RX0 75 "StemDots$Fits" "workSize" "I", .methodLink RX0 131 Lib.Math.abs.name, .static Lib.Math.abs.name, .initialized "java/lang/Math", .code Lib.Math.abs.name Lib.Math.abs.code 1 (some .int), .fieldLink RX0 9 "StemDots$Fits" "letter" "LStemDots$Letter;", .fieldLink RX0 66 "StemDots$Letter" "rules" "[I", .methodLink RX0 135 yX0_weighed, .instanceMethod yX0_weighed, .selects RX0 yX0_weighed yX0_weighed, .initialized RX0, .code yX0_weighed cX0_weighed 5 (some .long), .constantLong RX0 139 (1000)] ++ wsX00 ++ wsX30 ++ wsX10)
def wsX0_weighGapsBehind : List Cond := .code yX0_weighGapsBehind cX0_weighGapsBehind 3 none :: ([.fieldLink RX0 15 "StemDots$Fits" "stems" "LStemDots$Stems;", .fieldLink RX0 50 "StemDots$Stems" "many" "I", .fieldLink RX0 92 "StemDots$Fits" "room" "I", .fieldLink RX0 43 "StemDots$Fits" "gapCosts" "[J", .methodLink RX0 102 yX0_gapCost, .instanceMethod yX0_gapCost, .selects RX0 yX0_gapCost yX0_gapCost, .initialized RX0, .code yX0_gapCost cX0_gapCost 5 (some .long), .fieldLink RX0 56 "StemDots$Stems" "left" "[I", .fieldLink RX0 63 "StemDots$Stems" "right" "[I", .fieldLink RX0 75 "StemDots$Fits" "workSize" "I", .methodLink RX0 131 Lib.Math.abs.name, .static Lib.Math.abs.name, .initialized "java/lang/Math", .code Lib.Math.abs.name Lib.Math.abs.code 1 (some .int), .fieldLink RX0 9 "StemDots$Fits" "letter" "LStemDots$Letter;", .fieldLink RX0 66 "StemDots$Letter" "rules" "[I", .methodLink RX0 135 yX0_weighed, .instanceMethod yX0_weighed, .selects RX0 yX0_weighed yX0_weighed, .code yX0_weighed cX0_weighed 5 (some .long), .constantLong RX0 139 (1000)] ++ wsX00 ++ wsX30 ++ wsX10)
def wsX0_stemCost : List Cond := .code yX0_stemCost cX0_stemCost 5 (some .long) :: ([.fieldLink RX0 37 "StemDots$Fits" "leftmost" "[I", .fieldLink RX0 34 "StemDots$Fits" "dotsOf" "[I", .fieldLink RX0 15 "StemDots$Fits" "stems" "LStemDots$Stems;", .fieldLink RX0 56 "StemDots$Stems" "left" "[I", .fieldLink RX0 63 "StemDots$Stems" "right" "[I", .fieldLink RX0 75 "StemDots$Fits" "workSize" "I", .methodLink RX0 131 Lib.Math.abs.name, .static Lib.Math.abs.name, .initialized "java/lang/Math", .code Lib.Math.abs.name Lib.Math.abs.code 1 (some .int), .fieldLink RX0 9 "StemDots$Fits" "letter" "LStemDots$Letter;", .fieldLink RX0 66 "StemDots$Letter" "rules" "[I", .methodLink RX0 135 yX0_weighed, .instanceMethod yX0_weighed, .selects RX0 yX0_weighed yX0_weighed, .initialized RX0, .code yX0_weighed cX0_weighed 5 (some .long), .constantLong RX0 139 (1000)] ++ wsX00 ++ wsX30 ++ wsX10)
def wsX0_worstCounts : List Cond := .code yX0_worstCounts cX0_worstCounts 1 (some .boolean) :: ([.fieldLink RX0 9 "StemDots$Fits" "letter" "LStemDots$Letter;", .fieldLink RX0 66 "StemDots$Letter" "rules" "[I"] ++ wsX00 ++ wsX10)
def wsX0_joined : List Cond := .code yX0_joined cX0_joined 5 (some .long) :: ([.methodLink RX0 128 Lib.MathLoose.max_long.x, .static Lib.MathLoose.max_long.x, .initialized "java/lang/Math", .code Lib.MathLoose.max_long.x Lib.MathLoose.max_long.code 4 (some .long), .methodLink RX0 124 yX0_worstCounts, .instanceMethod yX0_worstCounts, .selects RX0 yX0_worstCounts yX0_worstCounts, .initialized RX0, .code yX0_worstCounts cX0_worstCounts 1 (some .boolean), .fieldLink RX0 9 "StemDots$Fits" "letter" "LStemDots$Letter;", .fieldLink RX0 66 "StemDots$Letter" "rules" "[I"] ++ wsX00 ++ wsX10)
def wsX0_restAt_r1 : List Cond := [Cond.fieldLink RX0 15 "StemDots$Fits" "stems" "LStemDots$Stems;", Cond.fieldLink RX0 50 "StemDots$Stems" "many" "I", Cond.fieldLink RX0 43 "StemDots$Fits" "gapCosts" "[J", Cond.fieldLink RX0 40 "StemDots$Fits" "rest" "[J", Cond.fieldLink RX0 92 "StemDots$Fits" "room" "I", Cond.methodLink RX0 112 Lib.MathLoose.min_long.x, Cond.static Lib.MathLoose.min_long.x, Cond.initialized "java/lang/Math", Cond.code Lib.MathLoose.min_long.x Lib.MathLoose.min_long.code 4 (some .long), Cond.methodLink RX0 105 yX0_stemCost, Cond.instanceMethod yX0_stemCost, Cond.selects RX0 yX0_stemCost yX0_stemCost, Cond.initialized RX0, Cond.code yX0_stemCost cX0_stemCost 5 (some .long), Cond.fieldLink RX0 37 "StemDots$Fits" "leftmost" "[I", Cond.fieldLink RX0 34 "StemDots$Fits" "dotsOf" "[I", Cond.fieldLink RX0 56 "StemDots$Stems" "left" "[I", Cond.fieldLink RX0 63 "StemDots$Stems" "right" "[I", Cond.fieldLink RX0 75 "StemDots$Fits" "workSize" "I", Cond.methodLink RX0 131 Lib.Math.abs.name, Cond.static Lib.Math.abs.name, Cond.code Lib.Math.abs.name Lib.Math.abs.code 1 (some .int), Cond.fieldLink RX0 9 "StemDots$Fits" "letter" "LStemDots$Letter;", Cond.fieldLink RX0 66 "StemDots$Letter" "rules" "[I"]
def wsX0_restAt_r2 : List Cond := [Cond.methodLink RX0 135 yX0_weighed, Cond.instanceMethod yX0_weighed, Cond.selects RX0 yX0_weighed yX0_weighed, Cond.code yX0_weighed cX0_weighed 5 (some .long), Cond.constantLong RX0 139 (1000), Cond.methodLink RX0 108 yX0_joined, Cond.instanceMethod yX0_joined, Cond.selects RX0 yX0_joined yX0_joined, Cond.code yX0_joined cX0_joined 5 (some .long), Cond.methodLink RX0 128 Lib.MathLoose.max_long.x, Cond.static Lib.MathLoose.max_long.x, Cond.code Lib.MathLoose.max_long.x Lib.MathLoose.max_long.code 4 (some .long), Cond.methodLink RX0 124 yX0_worstCounts, Cond.instanceMethod yX0_worstCounts, Cond.selects RX0 yX0_worstCounts yX0_worstCounts, Cond.code yX0_worstCounts cX0_worstCounts 1 (some .boolean)]
def wsX0_restAt : List Cond := .code yX0_restAt cX0_restAt 8 (some .long) :: ((wsX0_restAt_r1 ++ wsX0_restAt_r2) ++ wsX00 ++ wsX30 ++ wsX10)
def wsX0_weighRests_r1 : List Cond := [Cond.fieldLink RX0 15 "StemDots$Fits" "stems" "LStemDots$Stems;", Cond.fieldLink RX0 50 "StemDots$Stems" "many" "I", Cond.fieldLink RX0 92 "StemDots$Fits" "room" "I", Cond.fieldLink RX0 40 "StemDots$Fits" "rest" "[J", Cond.methodLink RX0 95 yX0_weighGapsBehind, Cond.instanceMethod yX0_weighGapsBehind, Cond.selects RX0 yX0_weighGapsBehind yX0_weighGapsBehind, Cond.initialized RX0, Cond.code yX0_weighGapsBehind cX0_weighGapsBehind 3 none, Cond.fieldLink RX0 43 "StemDots$Fits" "gapCosts" "[J", Cond.methodLink RX0 102 yX0_gapCost, Cond.instanceMethod yX0_gapCost, Cond.selects RX0 yX0_gapCost yX0_gapCost, Cond.code yX0_gapCost cX0_gapCost 5 (some .long), Cond.fieldLink RX0 56 "StemDots$Stems" "left" "[I", Cond.fieldLink RX0 63 "StemDots$Stems" "right" "[I", Cond.fieldLink RX0 75 "StemDots$Fits" "workSize" "I", Cond.methodLink RX0 131 Lib.Math.abs.name, Cond.static Lib.Math.abs.name, Cond.initialized "java/lang/Math", Cond.code Lib.Math.abs.name Lib.Math.abs.code 1 (some .int), Cond.fieldLink RX0 9 "StemDots$Fits" "letter" "LStemDots$Letter;", Cond.fieldLink RX0 66 "StemDots$Letter" "rules" "[I", Cond.methodLink RX0 135 yX0_weighed]
def wsX0_weighRests_r2 : List Cond := [Cond.instanceMethod yX0_weighed, Cond.selects RX0 yX0_weighed yX0_weighed, Cond.code yX0_weighed cX0_weighed 5 (some .long), Cond.constantLong RX0 139 (1000), Cond.methodLink RX0 98 yX0_restAt, Cond.instanceMethod yX0_restAt, Cond.selects RX0 yX0_restAt yX0_restAt, Cond.code yX0_restAt cX0_restAt 8 (some .long), Cond.methodLink RX0 112 Lib.MathLoose.min_long.x, Cond.static Lib.MathLoose.min_long.x, Cond.code Lib.MathLoose.min_long.x Lib.MathLoose.min_long.code 4 (some .long), Cond.methodLink RX0 105 yX0_stemCost, Cond.instanceMethod yX0_stemCost, Cond.selects RX0 yX0_stemCost yX0_stemCost, Cond.code yX0_stemCost cX0_stemCost 5 (some .long), Cond.fieldLink RX0 37 "StemDots$Fits" "leftmost" "[I", Cond.fieldLink RX0 34 "StemDots$Fits" "dotsOf" "[I", Cond.methodLink RX0 108 yX0_joined, Cond.instanceMethod yX0_joined, Cond.selects RX0 yX0_joined yX0_joined, Cond.code yX0_joined cX0_joined 5 (some .long), Cond.methodLink RX0 128 Lib.MathLoose.max_long.x, Cond.static Lib.MathLoose.max_long.x, Cond.code Lib.MathLoose.max_long.x Lib.MathLoose.max_long.code 4 (some .long)]
def wsX0_weighRests_r3 : List Cond := [Cond.methodLink RX0 124 yX0_worstCounts, Cond.instanceMethod yX0_worstCounts, Cond.selects RX0 yX0_worstCounts yX0_worstCounts, Cond.code yX0_worstCounts cX0_worstCounts 1 (some .boolean)]
def wsX0_weighRests : List Cond := .code yX0_weighRests cX0_weighRests 3 none :: ((wsX0_weighRests_r1 ++ (wsX0_weighRests_r2 ++ wsX0_weighRests_r3)) ++ wsX00 ++ wsX30 ++ wsX10)
def wsX0_leastRest : List Cond := .code yX0_leastRest cX0_leastRest 4 (some .long) :: ([.fieldLink RX0 40 "StemDots$Fits" "rest" "[J", .fieldLink RX0 92 "StemDots$Fits" "room" "I", .methodLink RX0 112 Lib.MathLoose.min_long.x, .static Lib.MathLoose.min_long.x, .initialized "java/lang/Math", .code Lib.MathLoose.min_long.x Lib.MathLoose.min_long.code 4 (some .long)] ++ wsX00)
def wsX0_comesTo_r1 : List Cond := [Cond.fieldLink RX0 40 "StemDots$Fits" "rest" "[J", Cond.methodLink RX0 102 yX0_gapCost, Cond.instanceMethod yX0_gapCost, Cond.selects RX0 yX0_gapCost yX0_gapCost, Cond.initialized RX0, Cond.code yX0_gapCost cX0_gapCost 5 (some .long), Cond.fieldLink RX0 15 "StemDots$Fits" "stems" "LStemDots$Stems;", Cond.fieldLink RX0 56 "StemDots$Stems" "left" "[I", Cond.fieldLink RX0 63 "StemDots$Stems" "right" "[I", Cond.fieldLink RX0 75 "StemDots$Fits" "workSize" "I", Cond.methodLink RX0 131 Lib.Math.abs.name, Cond.static Lib.Math.abs.name, Cond.initialized "java/lang/Math", Cond.code Lib.Math.abs.name Lib.Math.abs.code 1 (some .int), Cond.fieldLink RX0 9 "StemDots$Fits" "letter" "LStemDots$Letter;", Cond.fieldLink RX0 66 "StemDots$Letter" "rules" "[I", Cond.methodLink RX0 135 yX0_weighed, Cond.instanceMethod yX0_weighed, Cond.selects RX0 yX0_weighed yX0_weighed, Cond.code yX0_weighed cX0_weighed 5 (some .long), Cond.constantLong RX0 139 (1000), Cond.methodLink RX0 108 yX0_joined, Cond.instanceMethod yX0_joined, Cond.selects RX0 yX0_joined yX0_joined]
def wsX0_comesTo_r2 : List Cond := [Cond.code yX0_joined cX0_joined 5 (some .long), Cond.methodLink RX0 128 Lib.MathLoose.max_long.x, Cond.static Lib.MathLoose.max_long.x, Cond.code Lib.MathLoose.max_long.x Lib.MathLoose.max_long.code 4 (some .long), Cond.methodLink RX0 124 yX0_worstCounts, Cond.instanceMethod yX0_worstCounts, Cond.selects RX0 yX0_worstCounts yX0_worstCounts, Cond.code yX0_worstCounts cX0_worstCounts 1 (some .boolean)]
def wsX0_comesTo : List Cond := .code yX0_comesTo cX0_comesTo 6 (some .long) :: ((wsX0_comesTo_r1 ++ wsX0_comesTo_r2) ++ wsX00 ++ wsX30 ++ wsX10)
def wsX0_without : List Cond := .code yX0_without cX0_without 5 (some .long) :: ([.methodLink RX0 124 yX0_worstCounts, .instanceMethod yX0_worstCounts, .selects RX0 yX0_worstCounts yX0_worstCounts, .initialized RX0, .code yX0_worstCounts cX0_worstCounts 1 (some .boolean), .fieldLink RX0 9 "StemDots$Fits" "letter" "LStemDots$Letter;", .fieldLink RX0 66 "StemDots$Letter" "rules" "[I"] ++ wsX00 ++ wsX10)
def wsX0_layLeast_r1 : List Cond := [Cond.fieldLink RX0 19 "StemDots$Fits" "least" "[J", Cond.fieldLink RX0 75 "StemDots$Fits" "workSize" "I", Cond.fieldLink RX0 15 "StemDots$Fits" "stems" "LStemDots$Stems;", Cond.fieldLink RX0 50 "StemDots$Stems" "many" "I", Cond.fieldLink RX0 92 "StemDots$Fits" "room" "I", Cond.fieldLink RX0 31 "StemDots$Fits" "leftDots" "[I", Cond.fieldLink RX0 37 "StemDots$Fits" "leftmost" "[I", Cond.methodLink RX0 117 yX0_comesTo, Cond.instanceMethod yX0_comesTo, Cond.selects RX0 yX0_comesTo yX0_comesTo, Cond.initialized RX0, Cond.code yX0_comesTo cX0_comesTo 6 (some .long), Cond.fieldLink RX0 40 "StemDots$Fits" "rest" "[J", Cond.methodLink RX0 102 yX0_gapCost, Cond.instanceMethod yX0_gapCost, Cond.selects RX0 yX0_gapCost yX0_gapCost, Cond.code yX0_gapCost cX0_gapCost 5 (some .long), Cond.fieldLink RX0 56 "StemDots$Stems" "left" "[I", Cond.fieldLink RX0 63 "StemDots$Stems" "right" "[I", Cond.methodLink RX0 131 Lib.Math.abs.name, Cond.static Lib.Math.abs.name, Cond.initialized "java/lang/Math", Cond.code Lib.Math.abs.name Lib.Math.abs.code 1 (some .int), Cond.fieldLink RX0 9 "StemDots$Fits" "letter" "LStemDots$Letter;"]
def wsX0_layLeast_r2 : List Cond := [Cond.fieldLink RX0 66 "StemDots$Letter" "rules" "[I", Cond.methodLink RX0 135 yX0_weighed, Cond.instanceMethod yX0_weighed, Cond.selects RX0 yX0_weighed yX0_weighed, Cond.code yX0_weighed cX0_weighed 5 (some .long), Cond.constantLong RX0 139 (1000), Cond.methodLink RX0 108 yX0_joined, Cond.instanceMethod yX0_joined, Cond.selects RX0 yX0_joined yX0_joined, Cond.code yX0_joined cX0_joined 5 (some .long), Cond.methodLink RX0 128 Lib.MathLoose.max_long.x, Cond.static Lib.MathLoose.max_long.x, Cond.code Lib.MathLoose.max_long.x Lib.MathLoose.max_long.code 4 (some .long), Cond.methodLink RX0 124 yX0_worstCounts, Cond.instanceMethod yX0_worstCounts, Cond.selects RX0 yX0_worstCounts yX0_worstCounts, Cond.code yX0_worstCounts cX0_worstCounts 1 (some .boolean), Cond.methodLink RX0 105 yX0_stemCost, Cond.instanceMethod yX0_stemCost, Cond.selects RX0 yX0_stemCost yX0_stemCost, Cond.code yX0_stemCost cX0_stemCost 5 (some .long), Cond.fieldLink RX0 34 "StemDots$Fits" "dotsOf" "[I", Cond.methodLink RX0 121 yX0_without, Cond.instanceMethod yX0_without]
def wsX0_layLeast_r3 : List Cond := [Cond.selects RX0 yX0_without yX0_without, Cond.code yX0_without cX0_without 5 (some .long)]
def wsX0_layLeast : List Cond := .code yX0_layLeast cX0_layLeast 6 none :: ((wsX0_layLeast_r1 ++ (wsX0_layLeast_r2 ++ wsX0_layLeast_r3)) ++ wsX00 ++ wsX30 ++ wsX10)
def wsX0_workOut_r1 : List Cond := [Cond.fieldLink RX0 75 "StemDots$Fits" "workSize" "I", Cond.fieldLink RX0 23 "StemDots$Fits" "blamed" "[I", Cond.fieldLink RX0 19 "StemDots$Fits" "least" "[J", Cond.fieldLink RX0 15 "StemDots$Fits" "stems" "LStemDots$Stems;", Cond.fieldLink RX0 50 "StemDots$Stems" "many" "I", Cond.methodLink RX0 78 yX0_layLeftmost, Cond.instanceMethod yX0_layLeftmost, Cond.selects RX0 yX0_layLeftmost yX0_layLeftmost, Cond.initialized RX0, Cond.code yX0_layLeftmost cX0_layLeftmost 3 (some .int), Cond.fieldLink RX0 92 "StemDots$Fits" "room" "I", Cond.fieldLink RX0 34 "StemDots$Fits" "dotsOf" "[I", Cond.fieldLink RX0 9 "StemDots$Fits" "letter" "LStemDots$Letter;", Cond.fieldLink RX0 66 "StemDots$Letter" "rules" "[I", Cond.fieldLink RX0 37 "StemDots$Fits" "leftmost" "[I", Cond.methodLink RX0 71 yX3_dotsOfStem, Cond.instanceMethod yX3_dotsOfStem, Cond.selects RX3 yX3_dotsOfStem yX3_dotsOfStem, Cond.initialized RX3, Cond.code yX3_dotsOfStem cX3_dotsOfStem 4 (some .int), Cond.fieldLink RX3 24 "StemDots$Stems" "group" "[I", Cond.methodLink RX3 69 yX3_dotsOfGroup, Cond.instanceMethod yX3_dotsOfGroup, Cond.selects RX3 yX3_dotsOfGroup yX3_dotsOfGroup]
def wsX0_workOut_r2 : List Cond := [Cond.code yX3_dotsOfGroup cX3_dotsOfGroup 5 (some .int), Cond.methodLink RX3 63 Lib.Math.max.name, Cond.static Lib.Math.max.name, Cond.initialized "java/lang/Math", Cond.code Lib.Math.max.name Lib.Math.max.code 2 (some .int), Cond.methodLink RX3 59 yX3_standard, Cond.instanceMethod yX3_standard, Cond.selects RX3 yX3_standard yX3_standard, Cond.code yX3_standard cX3_standard 2 (some .int), Cond.fieldLink RX3 27 "StemDots$Stems" "members" "[I", Cond.fieldLink RX3 33 "StemDots$Stems" "widths" "[I", Cond.methodLink RX0 82 yX0_weighRests, Cond.instanceMethod yX0_weighRests, Cond.selects RX0 yX0_weighRests yX0_weighRests, Cond.code yX0_weighRests cX0_weighRests 3 none, Cond.fieldLink RX0 40 "StemDots$Fits" "rest" "[J", Cond.methodLink RX0 95 yX0_weighGapsBehind, Cond.instanceMethod yX0_weighGapsBehind, Cond.selects RX0 yX0_weighGapsBehind yX0_weighGapsBehind, Cond.code yX0_weighGapsBehind cX0_weighGapsBehind 3 none, Cond.fieldLink RX0 43 "StemDots$Fits" "gapCosts" "[J", Cond.methodLink RX0 102 yX0_gapCost, Cond.instanceMethod yX0_gapCost, Cond.selects RX0 yX0_gapCost yX0_gapCost]
def wsX0_workOut_r3 : List Cond := [Cond.code yX0_gapCost cX0_gapCost 5 (some .long), Cond.fieldLink RX0 56 "StemDots$Stems" "left" "[I", Cond.fieldLink RX0 63 "StemDots$Stems" "right" "[I", Cond.methodLink RX0 131 Lib.Math.abs.name, Cond.static Lib.Math.abs.name, Cond.code Lib.Math.abs.name Lib.Math.abs.code 1 (some .int), Cond.methodLink RX0 135 yX0_weighed, Cond.instanceMethod yX0_weighed, Cond.selects RX0 yX0_weighed yX0_weighed, Cond.code yX0_weighed cX0_weighed 5 (some .long), Cond.constantLong RX0 139 (1000), Cond.methodLink RX0 98 yX0_restAt, Cond.instanceMethod yX0_restAt, Cond.selects RX0 yX0_restAt yX0_restAt, Cond.code yX0_restAt cX0_restAt 8 (some .long), Cond.methodLink RX0 112 Lib.MathLoose.min_long.x, Cond.static Lib.MathLoose.min_long.x, Cond.code Lib.MathLoose.min_long.x Lib.MathLoose.min_long.code 4 (some .long), Cond.methodLink RX0 105 yX0_stemCost, Cond.instanceMethod yX0_stemCost, Cond.selects RX0 yX0_stemCost yX0_stemCost, Cond.code yX0_stemCost cX0_stemCost 5 (some .long), Cond.methodLink RX0 108 yX0_joined, Cond.instanceMethod yX0_joined]
def wsX0_workOut_r4 : List Cond := [Cond.selects RX0 yX0_joined yX0_joined, Cond.code yX0_joined cX0_joined 5 (some .long), Cond.methodLink RX0 128 Lib.MathLoose.max_long.x, Cond.static Lib.MathLoose.max_long.x, Cond.code Lib.MathLoose.max_long.x Lib.MathLoose.max_long.code 4 (some .long), Cond.methodLink RX0 124 yX0_worstCounts, Cond.instanceMethod yX0_worstCounts, Cond.selects RX0 yX0_worstCounts yX0_worstCounts, Cond.code yX0_worstCounts cX0_worstCounts 1 (some .boolean), Cond.methodLink RX0 85 yX0_leastRest, Cond.instanceMethod yX0_leastRest, Cond.selects RX0 yX0_leastRest yX0_leastRest, Cond.code yX0_leastRest cX0_leastRest 4 (some .long), Cond.methodLink RX0 89 yX0_layLeast, Cond.instanceMethod yX0_layLeast, Cond.selects RX0 yX0_layLeast yX0_layLeast, Cond.code yX0_layLeast cX0_layLeast 6 none, Cond.fieldLink RX0 31 "StemDots$Fits" "leftDots" "[I", Cond.methodLink RX0 117 yX0_comesTo, Cond.instanceMethod yX0_comesTo, Cond.selects RX0 yX0_comesTo yX0_comesTo, Cond.code yX0_comesTo cX0_comesTo 6 (some .long), Cond.methodLink RX0 121 yX0_without, Cond.instanceMethod yX0_without]
def wsX0_workOut_r5 : List Cond := [Cond.selects RX0 yX0_without yX0_without, Cond.code yX0_without cX0_without 5 (some .long)]
def wsX0_workOut : List Cond := .code yX0_workOut cX0_workOut 2 none :: ((wsX0_workOut_r1 ++ (wsX0_workOut_r2 ++ (wsX0_workOut_r3 ++ (wsX0_workOut_r4 ++ wsX0_workOut_r5)))) ++ wsX00 ++ wsX30 ++ wsX10)
def wsX0_isAt_r1 : List Cond := [Cond.fieldLink RX0 27 "StemDots$Fits" "known" "[Z", Cond.fieldLink RX0 23 "StemDots$Fits" "blamed" "[I", Cond.methodLink RX0 46 yX0_workOut, Cond.instanceMethod yX0_workOut, Cond.selects RX0 yX0_workOut yX0_workOut, Cond.initialized RX0, Cond.code yX0_workOut cX0_workOut 2 none, Cond.fieldLink RX0 75 "StemDots$Fits" "workSize" "I", Cond.fieldLink RX0 19 "StemDots$Fits" "least" "[J", Cond.fieldLink RX0 15 "StemDots$Fits" "stems" "LStemDots$Stems;", Cond.fieldLink RX0 50 "StemDots$Stems" "many" "I", Cond.methodLink RX0 78 yX0_layLeftmost, Cond.instanceMethod yX0_layLeftmost, Cond.selects RX0 yX0_layLeftmost yX0_layLeftmost, Cond.code yX0_layLeftmost cX0_layLeftmost 3 (some .int), Cond.fieldLink RX0 92 "StemDots$Fits" "room" "I", Cond.fieldLink RX0 34 "StemDots$Fits" "dotsOf" "[I", Cond.fieldLink RX0 9 "StemDots$Fits" "letter" "LStemDots$Letter;", Cond.fieldLink RX0 66 "StemDots$Letter" "rules" "[I", Cond.fieldLink RX0 37 "StemDots$Fits" "leftmost" "[I", Cond.methodLink RX0 71 yX3_dotsOfStem, Cond.instanceMethod yX3_dotsOfStem, Cond.selects RX3 yX3_dotsOfStem yX3_dotsOfStem, Cond.initialized RX3]
def wsX0_isAt_r2 : List Cond := [Cond.code yX3_dotsOfStem cX3_dotsOfStem 4 (some .int), Cond.fieldLink RX3 24 "StemDots$Stems" "group" "[I", Cond.methodLink RX3 69 yX3_dotsOfGroup, Cond.instanceMethod yX3_dotsOfGroup, Cond.selects RX3 yX3_dotsOfGroup yX3_dotsOfGroup, Cond.code yX3_dotsOfGroup cX3_dotsOfGroup 5 (some .int), Cond.methodLink RX3 63 Lib.Math.max.name, Cond.static Lib.Math.max.name, Cond.initialized "java/lang/Math", Cond.code Lib.Math.max.name Lib.Math.max.code 2 (some .int), Cond.methodLink RX3 59 yX3_standard, Cond.instanceMethod yX3_standard, Cond.selects RX3 yX3_standard yX3_standard, Cond.code yX3_standard cX3_standard 2 (some .int), Cond.fieldLink RX3 27 "StemDots$Stems" "members" "[I", Cond.fieldLink RX3 33 "StemDots$Stems" "widths" "[I", Cond.methodLink RX0 82 yX0_weighRests, Cond.instanceMethod yX0_weighRests, Cond.selects RX0 yX0_weighRests yX0_weighRests, Cond.code yX0_weighRests cX0_weighRests 3 none, Cond.fieldLink RX0 40 "StemDots$Fits" "rest" "[J", Cond.methodLink RX0 95 yX0_weighGapsBehind, Cond.instanceMethod yX0_weighGapsBehind, Cond.selects RX0 yX0_weighGapsBehind yX0_weighGapsBehind]
def wsX0_isAt_r3 : List Cond := [Cond.code yX0_weighGapsBehind cX0_weighGapsBehind 3 none, Cond.fieldLink RX0 43 "StemDots$Fits" "gapCosts" "[J", Cond.methodLink RX0 102 yX0_gapCost, Cond.instanceMethod yX0_gapCost, Cond.selects RX0 yX0_gapCost yX0_gapCost, Cond.code yX0_gapCost cX0_gapCost 5 (some .long), Cond.fieldLink RX0 56 "StemDots$Stems" "left" "[I", Cond.fieldLink RX0 63 "StemDots$Stems" "right" "[I", Cond.methodLink RX0 131 Lib.Math.abs.name, Cond.static Lib.Math.abs.name, Cond.code Lib.Math.abs.name Lib.Math.abs.code 1 (some .int), Cond.methodLink RX0 135 yX0_weighed, Cond.instanceMethod yX0_weighed, Cond.selects RX0 yX0_weighed yX0_weighed, Cond.code yX0_weighed cX0_weighed 5 (some .long), Cond.constantLong RX0 139 (1000), Cond.methodLink RX0 98 yX0_restAt, Cond.instanceMethod yX0_restAt, Cond.selects RX0 yX0_restAt yX0_restAt, Cond.code yX0_restAt cX0_restAt 8 (some .long), Cond.methodLink RX0 112 Lib.MathLoose.min_long.x, Cond.static Lib.MathLoose.min_long.x, Cond.code Lib.MathLoose.min_long.x Lib.MathLoose.min_long.code 4 (some .long), Cond.methodLink RX0 105 yX0_stemCost]
def wsX0_isAt_r4 : List Cond := [Cond.instanceMethod yX0_stemCost, Cond.selects RX0 yX0_stemCost yX0_stemCost, Cond.code yX0_stemCost cX0_stemCost 5 (some .long), Cond.methodLink RX0 108 yX0_joined, Cond.instanceMethod yX0_joined, Cond.selects RX0 yX0_joined yX0_joined, Cond.code yX0_joined cX0_joined 5 (some .long), Cond.methodLink RX0 128 Lib.MathLoose.max_long.x, Cond.static Lib.MathLoose.max_long.x, Cond.code Lib.MathLoose.max_long.x Lib.MathLoose.max_long.code 4 (some .long), Cond.methodLink RX0 124 yX0_worstCounts, Cond.instanceMethod yX0_worstCounts, Cond.selects RX0 yX0_worstCounts yX0_worstCounts, Cond.code yX0_worstCounts cX0_worstCounts 1 (some .boolean), Cond.methodLink RX0 85 yX0_leastRest, Cond.instanceMethod yX0_leastRest, Cond.selects RX0 yX0_leastRest yX0_leastRest, Cond.code yX0_leastRest cX0_leastRest 4 (some .long), Cond.methodLink RX0 89 yX0_layLeast, Cond.instanceMethod yX0_layLeast, Cond.selects RX0 yX0_layLeast yX0_layLeast, Cond.code yX0_layLeast cX0_layLeast 6 none, Cond.fieldLink RX0 31 "StemDots$Fits" "leftDots" "[I", Cond.methodLink RX0 117 yX0_comesTo]
def wsX0_isAt_r5 : List Cond := [Cond.instanceMethod yX0_comesTo, Cond.selects RX0 yX0_comesTo yX0_comesTo, Cond.code yX0_comesTo cX0_comesTo 6 (some .long), Cond.methodLink RX0 121 yX0_without, Cond.instanceMethod yX0_without, Cond.selects RX0 yX0_without yX0_without, Cond.code yX0_without cX0_without 5 (some .long)]
def wsX0_isAt : List Cond := .code yX0_isAt cX0_isAt 2 (some .boolean) :: ((wsX0_isAt_r1 ++ (wsX0_isAt_r2 ++ (wsX0_isAt_r3 ++ (wsX0_isAt_r4 ++ wsX0_isAt_r5)))) ++ wsX00 ++ wsX30 ++ wsX10)
def wsX0_leftDot : List Cond := .code yX0_leftDot cX0_leftDot 3 (some .int) :: ([.fieldLink RX0 31 "StemDots$Fits" "leftDots" "[I"] ++ wsX00)
def wsX0_drawn_r1 : List Cond := [Cond.fieldLink RX0 15 "StemDots$Fits" "stems" "LStemDots$Stems;", Cond.fieldLink RX0 50 "StemDots$Stems" "many" "I", Cond.fieldLink RX0 56 "StemDots$Stems" "left" "[I", Cond.fieldLink RX0 63 "StemDots$Stems" "right" "[I", Cond.fieldLink RX0 9 "StemDots$Fits" "letter" "LStemDots$Letter;", Cond.fieldLink RX0 66 "StemDots$Letter" "rules" "[I", Cond.methodLink RX0 59 yX0_leftDot, Cond.instanceMethod yX0_leftDot, Cond.selects RX0 yX0_leftDot yX0_leftDot, Cond.initialized RX0, Cond.code yX0_leftDot cX0_leftDot 3 (some .int), Cond.fieldLink RX0 31 "StemDots$Fits" "leftDots" "[I", Cond.methodLink RX0 71 yX3_dotsOfStem, Cond.instanceMethod yX3_dotsOfStem, Cond.selects RX3 yX3_dotsOfStem yX3_dotsOfStem, Cond.initialized RX3, Cond.code yX3_dotsOfStem cX3_dotsOfStem 4 (some .int), Cond.fieldLink RX3 24 "StemDots$Stems" "group" "[I", Cond.methodLink RX3 69 yX3_dotsOfGroup, Cond.instanceMethod yX3_dotsOfGroup, Cond.selects RX3 yX3_dotsOfGroup yX3_dotsOfGroup, Cond.code yX3_dotsOfGroup cX3_dotsOfGroup 5 (some .int), Cond.methodLink RX3 63 Lib.Math.max.name, Cond.static Lib.Math.max.name]
def wsX0_drawn_r2 : List Cond := [Cond.initialized "java/lang/Math", Cond.code Lib.Math.max.name Lib.Math.max.code 2 (some .int), Cond.methodLink RX3 59 yX3_standard, Cond.instanceMethod yX3_standard, Cond.selects RX3 yX3_standard yX3_standard, Cond.code yX3_standard cX3_standard 2 (some .int), Cond.fieldLink RX3 27 "StemDots$Stems" "members" "[I", Cond.fieldLink RX3 33 "StemDots$Stems" "widths" "[I"]
def wsX0_drawn : List Cond := .code yX0_drawn cX0_drawn 10 (some .int) :: ((wsX0_drawn_r1 ++ wsX0_drawn_r2) ++ wsX00 ++ wsX30 ++ wsX10)
def wsX1_init : List Cond := .code yX1_init cX1_init 1 none :: ([.methodLink RX1 3 objectInit, .instanceMethod objectInit, .code objectInit ⟨#[0xb1]⟩ 1 none, .arrayClass .int, .fieldLink RX1 9 "StemDots$Letter" "up" "[I", .fieldLink RX1 15 "StemDots$Letter" "x" "[I", .fieldLink RX1 18 "StemDots$Letter" "low" "[I", .fieldLink RX1 21 "StemDots$Letter" "high" "[I", .fieldLink RX1 24 "StemDots$Letter" "rules" "[I", .methodLink RX1 30 arraycopyName, .native arraycopyName, .static arraycopyName, .initialized "java/lang/System"] ++ wsX10)
def wsX2_isSign : List Cond := .code yX2_isSign cX2_isSign 3 (some .boolean) :: ([.fieldLink RX2 18 "StemDots$Pad" "signs" "I", .fieldLink RX2 9 "StemDots$Pad" "row" "[I"] ++ wsX20)
def wsX1_add : List Cond := .code yX1_add cX1_add 2 (some .boolean) :: ([.fieldLink RX1 36 "StemDots$Letter" "edges" "I", .fieldLink RX1 9 "StemDots$Letter" "up" "[I", .fieldLink RX1 15 "StemDots$Letter" "x" "[I", .fieldLink RX1 46 "StemDots$Pad" "numbers" "[I", .fieldLink RX1 18 "StemDots$Letter" "low" "[I", .fieldLink RX1 21 "StemDots$Letter" "high" "[I", .instanceMethod yX2_isSign, .initialized RX2, .selects RX2 yX2_isSign yX2_isSign, .code yX2_isSign cX2_isSign 3 (some .boolean), .fieldLink RX2 18 "StemDots$Pad" "signs" "I", .fieldLink RX2 9 "StemDots$Pad" "row" "[I"] ++ wsX10 ++ wsX20)
def wsX1_remove : List Cond := .code yX1_remove cX1_remove 3 none :: ([.fieldLink RX1 36 "StemDots$Letter" "edges" "I", .fieldLink RX1 9 "StemDots$Letter" "up" "[I", .fieldLink RX1 15 "StemDots$Letter" "x" "[I", .fieldLink RX1 18 "StemDots$Letter" "low" "[I", .fieldLink RX1 21 "StemDots$Letter" "high" "[I"] ++ wsX10)
def wsX1_take : List Cond := .code yX1_take cX1_take 2 none :: ([.fieldLink RX1 9 "StemDots$Letter" "up" "[I", .methodLink RX1 30 arraycopyName, .native arraycopyName, .static arraycopyName, .initialized "java/lang/System", .fieldLink RX1 15 "StemDots$Letter" "x" "[I", .fieldLink RX1 18 "StemDots$Letter" "low" "[I", .fieldLink RX1 21 "StemDots$Letter" "high" "[I", .fieldLink RX1 36 "StemDots$Letter" "edges" "I", .fieldLink RX1 24 "StemDots$Letter" "rules" "[I"] ++ wsX10)
def wsX4_isWithin : List Cond := .code yX4_isWithin cX4_isWithin 3 (some .boolean) :: ([])
def wsX1_canBeStem : List Cond := .code yX1_canBeStem cX1_canBeStem 3 (some .boolean) :: ([.fieldLink RX1 9 "StemDots$Letter" "up" "[I", .fieldLink RX1 15 "StemDots$Letter" "x" "[I", .fieldLink RX1 21 "StemDots$Letter" "high" "[I", .methodLink RX1 53 Lib.Math.min.name, .static Lib.Math.min.name, .initialized "java/lang/Math", .code Lib.Math.min.name Lib.Math.min.code 2 (some .int), .fieldLink RX1 18 "StemDots$Letter" "low" "[I", .methodLink RX1 59 Lib.Math.max.name, .static Lib.Math.max.name, .code Lib.Math.max.name Lib.Math.max.code 2 (some .int), .static yX4_isWithin, .initialized RX4, .code yX4_isWithin cX4_isWithin 3 (some .boolean)] ++ wsX10)
def wsX2_init : List Cond := .code yX2_init cX2_init 1 none :: ([.methodLink RX2 3 objectInit, .instanceMethod objectInit, .code objectInit ⟨#[0xb1]⟩ 1 none, .arrayClass .int, .fieldLink RX2 9 "StemDots$Pad" "row" "[I", .fieldLink RX2 15 "StemDots$Pad" "numbers" "[I"] ++ wsX20)
def wsX2_add : List Cond := .code yX2_add cX2_add 2 (some .boolean) :: ([.fieldLink RX2 18 "StemDots$Pad" "signs" "I", .fieldLink RX2 9 "StemDots$Pad" "row" "[I"] ++ wsX20)
def wsX2_clear : List Cond := .code yX2_clear cX2_clear 1 none :: ([.fieldLink RX2 18 "StemDots$Pad" "signs" "I"] ++ wsX20)
def wsX2_isFigure : List Cond := .code yX2_isFigure cX2_isFigure 2 (some .boolean) :: ([.fieldLink RX2 18 "StemDots$Pad" "signs" "I", .fieldLink RX2 9 "StemDots$Pad" "row" "[I", .static yX4_isWithin, .initialized RX4, .code yX4_isWithin cX4_isWithin 3 (some .boolean)] ++ wsX20)
def wsX2_readNumber : List Cond := .code yX2_readNumber cX2_readNumber 5 (some .int) :: ([.fieldLink RX2 9 "StemDots$Pad" "row" "[I", .fieldLink RX2 15 "StemDots$Pad" "numbers" "[I", .methodLink RX2 34 yX2_isFigure, .instanceMethod yX2_isFigure, .selects RX2 yX2_isFigure yX2_isFigure, .initialized RX2, .code yX2_isFigure cX2_isFigure 2 (some .boolean), .fieldLink RX2 18 "StemDots$Pad" "signs" "I", .static yX4_isWithin, .initialized RX4, .code yX4_isWithin cX4_isWithin 3 (some .boolean)] ++ wsX20)
def wsX2_read : List Cond := .code yX2_read cX2_read 4 (some .int) :: ([.fieldLink RX2 30 "StemDots$Pad" "BEHIND_NUMBER" "[C", .fieldLink RX2 18 "StemDots$Pad" "signs" "I", .fieldLink RX2 15 "StemDots$Pad" "numbers" "[I", .methodLink RX2 22 yX2_isSign, .instanceMethod yX2_isSign, .selects RX2 yX2_isSign yX2_isSign, .initialized RX2, .code yX2_isSign cX2_isSign 3 (some .boolean), .fieldLink RX2 9 "StemDots$Pad" "row" "[I", .methodLink RX2 26 yX2_readNumber, .instanceMethod yX2_readNumber, .selects RX2 yX2_readNumber yX2_readNumber, .code yX2_readNumber cX2_readNumber 5 (some .int), .methodLink RX2 34 yX2_isFigure, .instanceMethod yX2_isFigure, .selects RX2 yX2_isFigure yX2_isFigure, .code yX2_isFigure cX2_isFigure 2 (some .boolean), .static yX4_isWithin, .initialized RX4, .code yX4_isWithin cX4_isWithin 3 (some .boolean)] ++ wsX20)
def wsX3_init : List Cond := .code yX3_init cX3_init 1 none :: ([.methodLink RX3 3 objectInit, .instanceMethod objectInit, .code objectInit ⟨#[0xb1]⟩ 1 none, .arrayClass .int, .fieldLink RX3 9 "StemDots$Stems" "left" "[I", .fieldLink RX3 15 "StemDots$Stems" "right" "[I", .fieldLink RX3 18 "StemDots$Stems" "upEdge" "[I", .fieldLink RX3 21 "StemDots$Stems" "downEdge" "[I", .fieldLink RX3 24 "StemDots$Stems" "group" "[I", .fieldLink RX3 27 "StemDots$Stems" "members" "[I", .fieldLink RX3 30 "StemDots$Stems" "leastWidth" "[I", .fieldLink RX3 33 "StemDots$Stems" "widths" "[I", .fieldLink RX3 36 "StemDots$Stems" "byWidth" "[I"] ++ wsX30)
def wsX3_isFree : List Cond := .code yX3_isFree cX3_isFree 4 (some .boolean) :: ([.fieldLink RX3 39 "StemDots$Stems" "many" "I", .fieldLink RX3 9 "StemDots$Stems" "left" "[I", .fieldLink RX3 15 "StemDots$Stems" "right" "[I"] ++ wsX30)
def wsX3_isSooner : List Cond := .code yX3_isSooner cX3_isSooner 6 (some .boolean) :: ([])
def wsX3_insert : List Cond := .code yX3_insert cX3_insert 6 none :: ([.fieldLink RX3 39 "StemDots$Stems" "many" "I", .fieldLink RX3 9 "StemDots$Stems" "left" "[I", .fieldLink RX3 15 "StemDots$Stems" "right" "[I", .fieldLink RX3 18 "StemDots$Stems" "upEdge" "[I", .fieldLink RX3 21 "StemDots$Stems" "downEdge" "[I"] ++ wsX30)
def wsX3_addNarrowest_r1 : List Cond := [Cond.fieldLink RX3 73 "StemDots$Letter" "edges" "I", Cond.fieldLink RX3 80 "StemDots$Letter" "x" "[I", Cond.methodLink RX3 76 yX1_canBeStem, Cond.instanceMethod yX1_canBeStem, Cond.selects RX1 yX1_canBeStem yX1_canBeStem, Cond.initialized RX1, Cond.code yX1_canBeStem cX1_canBeStem 3 (some .boolean), Cond.fieldLink RX1 9 "StemDots$Letter" "up" "[I", Cond.fieldLink RX1 15 "StemDots$Letter" "x" "[I", Cond.fieldLink RX1 21 "StemDots$Letter" "high" "[I", Cond.methodLink RX1 53 Lib.Math.min.name, Cond.static Lib.Math.min.name, Cond.initialized "java/lang/Math", Cond.code Lib.Math.min.name Lib.Math.min.code 2 (some .int), Cond.fieldLink RX1 18 "StemDots$Letter" "low" "[I", Cond.methodLink RX1 59 Lib.Math.max.name, Cond.static Lib.Math.max.name, Cond.code Lib.Math.max.name Lib.Math.max.code 2 (some .int), Cond.static yX4_isWithin, Cond.initialized RX4, Cond.code yX4_isWithin cX4_isWithin 3 (some .boolean), Cond.methodLink RX3 83 yX3_isFree, Cond.instanceMethod yX3_isFree, Cond.selects RX3 yX3_isFree yX3_isFree]
def wsX3_addNarrowest_r2 : List Cond := [Cond.initialized RX3, Cond.code yX3_isFree cX3_isFree 4 (some .boolean), Cond.fieldLink RX3 39 "StemDots$Stems" "many" "I", Cond.fieldLink RX3 9 "StemDots$Stems" "left" "[I", Cond.fieldLink RX3 15 "StemDots$Stems" "right" "[I", Cond.methodLink RX3 86 yX3_isSooner, Cond.static yX3_isSooner, Cond.code yX3_isSooner cX3_isSooner 6 (some .boolean), Cond.methodLink RX3 90 yX3_insert, Cond.instanceMethod yX3_insert, Cond.selects RX3 yX3_insert yX3_insert, Cond.code yX3_insert cX3_insert 6 none, Cond.fieldLink RX3 18 "StemDots$Stems" "upEdge" "[I", Cond.fieldLink RX3 21 "StemDots$Stems" "downEdge" "[I"]
def wsX3_addNarrowest : List Cond := .code yX3_addNarrowest cX3_addNarrowest 6 (some .boolean) :: ((wsX3_addNarrowest_r1 ++ wsX3_addNarrowest_r2) ++ wsX10 ++ wsX30)
def wsX3_width : List Cond := .code yX3_width cX3_width 2 (some .int) :: ([.fieldLink RX3 15 "StemDots$Stems" "right" "[I", .fieldLink RX3 9 "StemDots$Stems" "left" "[I"] ++ wsX30)
def wsX3_sortByWidth : List Cond := .code yX3_sortByWidth cX3_sortByWidth 3 none :: ([.fieldLink RX3 39 "StemDots$Stems" "many" "I", .fieldLink RX3 36 "StemDots$Stems" "byWidth" "[I", .methodLink RX3 94 yX3_width, .instanceMethod yX3_width, .selects RX3 yX3_width yX3_width, .initialized RX3, .code yX3_width cX3_width 2 (some .int), .fieldLink RX3 15 "StemDots$Stems" "right" "[I", .fieldLink RX3 9 "StemDots$Stems" "left" "[I"] ++ wsX30)
def wsX3_makeGroups : List Cond := .code yX3_makeGroups cX3_makeGroups 4 none :: ([.fieldLink RX3 97 "StemDots$Stems" "groups" "I", .fieldLink RX3 39 "StemDots$Stems" "many" "I", .fieldLink RX3 36 "StemDots$Stems" "byWidth" "[I", .fieldLink RX3 30 "StemDots$Stems" "leastWidth" "[I", .fieldLink RX3 27 "StemDots$Stems" "members" "[I", .fieldLink RX3 33 "StemDots$Stems" "widths" "[I", .fieldLink RX3 24 "StemDots$Stems" "group" "[I", .methodLink RX3 94 yX3_width, .instanceMethod yX3_width, .selects RX3 yX3_width yX3_width, .initialized RX3, .code yX3_width cX3_width 2 (some .int), .fieldLink RX3 15 "StemDots$Stems" "right" "[I", .fieldLink RX3 9 "StemDots$Stems" "left" "[I"] ++ wsX30)
def wsX3_find_r1 : List Cond := [Cond.fieldLink RX3 39 "StemDots$Stems" "many" "I", Cond.fieldLink RX3 50 "StemDots$Letter" "rules" "[I", Cond.methodLink RX3 43 yX3_addNarrowest, Cond.instanceMethod yX3_addNarrowest, Cond.selects RX3 yX3_addNarrowest yX3_addNarrowest, Cond.initialized RX3, Cond.code yX3_addNarrowest cX3_addNarrowest 6 (some .boolean), Cond.fieldLink RX3 73 "StemDots$Letter" "edges" "I", Cond.fieldLink RX3 80 "StemDots$Letter" "x" "[I", Cond.methodLink RX3 76 yX1_canBeStem, Cond.instanceMethod yX1_canBeStem, Cond.selects RX1 yX1_canBeStem yX1_canBeStem, Cond.initialized RX1, Cond.code yX1_canBeStem cX1_canBeStem 3 (some .boolean), Cond.fieldLink RX1 9 "StemDots$Letter" "up" "[I", Cond.fieldLink RX1 15 "StemDots$Letter" "x" "[I", Cond.fieldLink RX1 21 "StemDots$Letter" "high" "[I", Cond.methodLink RX1 53 Lib.Math.min.name, Cond.static Lib.Math.min.name, Cond.initialized "java/lang/Math", Cond.code Lib.Math.min.name Lib.Math.min.code 2 (some .int), Cond.fieldLink RX1 18 "StemDots$Letter" "low" "[I", Cond.methodLink RX1 59 Lib.Math.max.name, Cond.static Lib.Math.max.name]
def wsX3_find_r2 : List Cond := [Cond.code Lib.Math.max.name Lib.Math.max.code 2 (some .int), Cond.static yX4_isWithin, Cond.initialized RX4, Cond.code yX4_isWithin cX4_isWithin 3 (some .boolean), Cond.methodLink RX3 83 yX3_isFree, Cond.instanceMethod yX3_isFree, Cond.selects RX3 yX3_isFree yX3_isFree, Cond.code yX3_isFree cX3_isFree 4 (some .boolean), Cond.fieldLink RX3 9 "StemDots$Stems" "left" "[I", Cond.fieldLink RX3 15 "StemDots$Stems" "right" "[I", Cond.methodLink RX3 86 yX3_isSooner, Cond.static yX3_isSooner, Cond.code yX3_isSooner cX3_isSooner 6 (some .boolean), Cond.methodLink RX3 90 yX3_insert, Cond.instanceMethod yX3_insert, Cond.selects RX3 yX3_insert yX3_insert, Cond.code yX3_insert cX3_insert 6 none, Cond.fieldLink RX3 18 "StemDots$Stems" "upEdge" "[I", Cond.fieldLink RX3 21 "StemDots$Stems" "downEdge" "[I", Cond.methodLink RX3 47 yX3_sortByWidth, Cond.instanceMethod yX3_sortByWidth, Cond.selects RX3 yX3_sortByWidth yX3_sortByWidth, Cond.code yX3_sortByWidth cX3_sortByWidth 3 none, Cond.fieldLink RX3 36 "StemDots$Stems" "byWidth" "[I"]
def wsX3_find_r3 : List Cond := [Cond.methodLink RX3 94 yX3_width, Cond.instanceMethod yX3_width, Cond.selects RX3 yX3_width yX3_width, Cond.code yX3_width cX3_width 2 (some .int), Cond.methodLink RX3 55 yX3_makeGroups, Cond.instanceMethod yX3_makeGroups, Cond.selects RX3 yX3_makeGroups yX3_makeGroups, Cond.code yX3_makeGroups cX3_makeGroups 4 none, Cond.fieldLink RX3 97 "StemDots$Stems" "groups" "I", Cond.fieldLink RX3 30 "StemDots$Stems" "leastWidth" "[I", Cond.fieldLink RX3 27 "StemDots$Stems" "members" "[I", Cond.fieldLink RX3 33 "StemDots$Stems" "widths" "[I", Cond.fieldLink RX3 24 "StemDots$Stems" "group" "[I"]
def wsX3_find : List Cond := .code yX3_find cX3_find 4 none :: ((wsX3_find_r1 ++ (wsX3_find_r2 ++ wsX3_find_r3)) ++ wsX30 ++ wsX10)
def wsX3_withEdge : List Cond := .code yX3_withEdge cX3_withEdge 3 (some .int) :: ([.fieldLink RX3 39 "StemDots$Stems" "many" "I", .fieldLink RX3 18 "StemDots$Stems" "upEdge" "[I", .fieldLink RX3 21 "StemDots$Stems" "downEdge" "[I"] ++ wsX30)
def wsX4_init_r1 : List Cond := [Cond.methodLink RX4 1 objectInit, Cond.instanceMethod objectInit, Cond.code objectInit ⟨#[0xb1]⟩ 1 none, Cond.classLink RX4 7 RX2, Cond.instantiable RX2 3, Cond.initialized RX2, Cond.fieldLink RX4 10 "StemDots" "pad" "LStemDots$Pad;", Cond.classLink RX4 16 RX1, Cond.instantiable RX1 6, Cond.initialized RX1, Cond.fieldLink RX4 19 "StemDots" "letter" "LStemDots$Letter;", Cond.fieldLink RX4 23 "StemDots" "images" "[LStemDots$Letter;", Cond.arrayClass .boolean, Cond.fieldLink RX4 27 "StemDots" "kept" "[Z", Cond.classLink RX4 31 RX3, Cond.instantiable RX3 11, Cond.initialized RX3, Cond.fieldLink RX4 34 "StemDots" "stems" "LStemDots$Stems;", Cond.classLink RX4 38 RX0, Cond.instantiable RX0 12, Cond.initialized RX0, Cond.fieldLink RX4 43 "StemDots" "fits" "LStemDots$Fits;", Cond.methodLink RX4 9 yX2_init, Cond.instanceMethod yX2_init]
def wsX4_init_r2 : List Cond := [Cond.code yX2_init cX2_init 1 none, Cond.methodLink RX2 3 objectInit, Cond.arrayClass .int, Cond.fieldLink RX2 9 "StemDots$Pad" "row" "[I", Cond.fieldLink RX2 15 "StemDots$Pad" "numbers" "[I", Cond.methodLink RX4 18 yX1_init, Cond.instanceMethod yX1_init, Cond.code yX1_init cX1_init 1 none, Cond.methodLink RX1 3 objectInit, Cond.fieldLink RX1 9 "StemDots$Letter" "up" "[I", Cond.fieldLink RX1 15 "StemDots$Letter" "x" "[I", Cond.fieldLink RX1 18 "StemDots$Letter" "low" "[I", Cond.fieldLink RX1 21 "StemDots$Letter" "high" "[I", Cond.fieldLink RX1 24 "StemDots$Letter" "rules" "[I", Cond.methodLink RX1 30 arraycopyName, Cond.native arraycopyName, Cond.static arraycopyName, Cond.initialized "java/lang/System", Cond.methodLink RX4 33 yX3_init, Cond.instanceMethod yX3_init, Cond.code yX3_init cX3_init 1 none, Cond.methodLink RX3 3 objectInit, Cond.fieldLink RX3 9 "StemDots$Stems" "left" "[I", Cond.fieldLink RX3 15 "StemDots$Stems" "right" "[I"]
def wsX4_init_r3 : List Cond := [Cond.fieldLink RX3 18 "StemDots$Stems" "upEdge" "[I", Cond.fieldLink RX3 21 "StemDots$Stems" "downEdge" "[I", Cond.fieldLink RX3 24 "StemDots$Stems" "group" "[I", Cond.fieldLink RX3 27 "StemDots$Stems" "members" "[I", Cond.fieldLink RX3 30 "StemDots$Stems" "leastWidth" "[I", Cond.fieldLink RX3 33 "StemDots$Stems" "widths" "[I", Cond.fieldLink RX3 36 "StemDots$Stems" "byWidth" "[I", Cond.methodLink RX4 40 yX0_init, Cond.instanceMethod yX0_init, Cond.code yX0_init cX0_init 3 none, Cond.methodLink RX0 3 objectInit, Cond.fieldLink RX0 9 "StemDots$Fits" "letter" "LStemDots$Letter;", Cond.fieldLink RX0 15 "StemDots$Fits" "stems" "LStemDots$Stems;", Cond.arrayClass .long, Cond.fieldLink RX0 19 "StemDots$Fits" "least" "[J", Cond.fieldLink RX0 23 "StemDots$Fits" "blamed" "[I", Cond.fieldLink RX0 27 "StemDots$Fits" "known" "[Z", Cond.fieldLink RX0 31 "StemDots$Fits" "leftDots" "[I", Cond.fieldLink RX0 34 "StemDots$Fits" "dotsOf" "[I", Cond.fieldLink RX0 37 "StemDots$Fits" "leftmost" "[I", Cond.fieldLink RX0 40 "StemDots$Fits" "rest" "[J", Cond.fieldLink RX0 43 "StemDots$Fits" "gapCosts" "[J"]
def wsX4_init : List Cond := .code yX4_init cX4_init 2 none :: ((wsX4_init_r1 ++ (wsX4_init_r2 ++ wsX4_init_r3)) ++ wsX20 ++ wsX40 ++ wsX10 ++ wsX30 ++ wsX00)
def wsX4_say : List Cond := .code yX4_say cX4_say 2 (some .int) :: ([.fieldLink RX4 10 "StemDots" "pad" "LStemDots$Pad;", .fieldLink RX4 55 "StemDots$Pad" "signs" "I", .methodLink RX4 47 yX4_isWithin, .static yX4_isWithin, .initialized RX4, .code yX4_isWithin cX4_isWithin 3 (some .boolean), .methodLink RX4 51 yX2_add, .instanceMethod yX2_add, .selects RX2 yX2_add yX2_add, .initialized RX2, .code yX2_add cX2_add 2 (some .boolean), .fieldLink RX2 18 "StemDots$Pad" "signs" "I", .fieldLink RX2 9 "StemDots$Pad" "row" "[I"] ++ wsX40 ++ wsX20)
def wsX4_wipe : List Cond := .code yX4_wipe cX4_wipe 2 (some .int) :: ([.fieldLink RX4 10 "StemDots" "pad" "LStemDots$Pad;", .fieldLink RX4 55 "StemDots$Pad" "signs" "I", .methodLink RX4 59 yX2_clear, .instanceMethod yX2_clear, .selects RX2 yX2_clear yX2_clear, .initialized RX2, .code yX2_clear cX2_clear 1 none, .fieldLink RX2 18 "StemDots$Pad" "signs" "I"] ++ wsX40 ++ wsX20)
def wsX4_fault_r1 : List Cond := [Cond.fieldLink RX4 10 "StemDots" "pad" "LStemDots$Pad;", Cond.methodLink RX4 62 yX2_read, Cond.instanceMethod yX2_read, Cond.selects RX2 yX2_read yX2_read, Cond.initialized RX2, Cond.code yX2_read cX2_read 4 (some .int), Cond.fieldLink RX2 30 "StemDots$Pad" "BEHIND_NUMBER" "[C", Cond.fieldLink RX2 18 "StemDots$Pad" "signs" "I", Cond.fieldLink RX2 15 "StemDots$Pad" "numbers" "[I", Cond.methodLink RX2 22 yX2_isSign, Cond.instanceMethod yX2_isSign, Cond.selects RX2 yX2_isSign yX2_isSign, Cond.code yX2_isSign cX2_isSign 3 (some .boolean), Cond.fieldLink RX2 9 "StemDots$Pad" "row" "[I", Cond.methodLink RX2 26 yX2_readNumber, Cond.instanceMethod yX2_readNumber, Cond.selects RX2 yX2_readNumber yX2_readNumber, Cond.code yX2_readNumber cX2_readNumber 5 (some .int), Cond.methodLink RX2 34 yX2_isFigure, Cond.instanceMethod yX2_isFigure, Cond.selects RX2 yX2_isFigure yX2_isFigure, Cond.code yX2_isFigure cX2_isFigure 2 (some .boolean), Cond.static yX4_isWithin, Cond.initialized RX4]
def wsX4_fault_r2 : List Cond := [Cond.code yX4_isWithin cX4_isWithin 3 (some .boolean)]
def wsX4_fault : List Cond := .code yX4_fault cX4_fault 1 (some .int) :: ((wsX4_fault_r1 ++ wsX4_fault_r2) ++ wsX40 ++ wsX20)
def wsX4_renew_r1 : List Cond := [Cond.fieldLink RX4 34 "StemDots" "stems" "LStemDots$Stems;", Cond.fieldLink RX4 19 "StemDots" "letter" "LStemDots$Letter;", Cond.fieldLink RX4 43 "StemDots" "fits" "LStemDots$Fits;", Cond.methodLink RX4 169 yX3_find, Cond.instanceMethod yX3_find, Cond.selects RX3 yX3_find yX3_find, Cond.initialized RX3, Cond.code yX3_find cX3_find 4 none, Cond.fieldLink RX3 39 "StemDots$Stems" "many" "I", Cond.fieldLink RX3 50 "StemDots$Letter" "rules" "[I", Cond.methodLink RX3 43 yX3_addNarrowest, Cond.instanceMethod yX3_addNarrowest, Cond.selects RX3 yX3_addNarrowest yX3_addNarrowest, Cond.code yX3_addNarrowest cX3_addNarrowest 6 (some .boolean), Cond.fieldLink RX3 73 "StemDots$Letter" "edges" "I", Cond.fieldLink RX3 80 "StemDots$Letter" "x" "[I", Cond.methodLink RX3 76 yX1_canBeStem, Cond.instanceMethod yX1_canBeStem, Cond.selects RX1 yX1_canBeStem yX1_canBeStem, Cond.initialized RX1, Cond.code yX1_canBeStem cX1_canBeStem 3 (some .boolean), Cond.fieldLink RX1 9 "StemDots$Letter" "up" "[I", Cond.fieldLink RX1 15 "StemDots$Letter" "x" "[I", Cond.fieldLink RX1 21 "StemDots$Letter" "high" "[I"]
def wsX4_renew_r2 : List Cond := [Cond.methodLink RX1 53 Lib.Math.min.name, Cond.static Lib.Math.min.name, Cond.initialized "java/lang/Math", Cond.code Lib.Math.min.name Lib.Math.min.code 2 (some .int), Cond.fieldLink RX1 18 "StemDots$Letter" "low" "[I", Cond.methodLink RX1 59 Lib.Math.max.name, Cond.static Lib.Math.max.name, Cond.code Lib.Math.max.name Lib.Math.max.code 2 (some .int), Cond.static yX4_isWithin, Cond.initialized RX4, Cond.code yX4_isWithin cX4_isWithin 3 (some .boolean), Cond.methodLink RX3 83 yX3_isFree, Cond.instanceMethod yX3_isFree, Cond.selects RX3 yX3_isFree yX3_isFree, Cond.code yX3_isFree cX3_isFree 4 (some .boolean), Cond.fieldLink RX3 9 "StemDots$Stems" "left" "[I", Cond.fieldLink RX3 15 "StemDots$Stems" "right" "[I", Cond.methodLink RX3 86 yX3_isSooner, Cond.static yX3_isSooner, Cond.code yX3_isSooner cX3_isSooner 6 (some .boolean), Cond.methodLink RX3 90 yX3_insert, Cond.instanceMethod yX3_insert, Cond.selects RX3 yX3_insert yX3_insert, Cond.code yX3_insert cX3_insert 6 none]
def wsX4_renew_r3 : List Cond := [Cond.fieldLink RX3 18 "StemDots$Stems" "upEdge" "[I", Cond.fieldLink RX3 21 "StemDots$Stems" "downEdge" "[I", Cond.methodLink RX3 47 yX3_sortByWidth, Cond.instanceMethod yX3_sortByWidth, Cond.selects RX3 yX3_sortByWidth yX3_sortByWidth, Cond.code yX3_sortByWidth cX3_sortByWidth 3 none, Cond.fieldLink RX3 36 "StemDots$Stems" "byWidth" "[I", Cond.methodLink RX3 94 yX3_width, Cond.instanceMethod yX3_width, Cond.selects RX3 yX3_width yX3_width, Cond.code yX3_width cX3_width 2 (some .int), Cond.methodLink RX3 55 yX3_makeGroups, Cond.instanceMethod yX3_makeGroups, Cond.selects RX3 yX3_makeGroups yX3_makeGroups, Cond.code yX3_makeGroups cX3_makeGroups 4 none, Cond.fieldLink RX3 97 "StemDots$Stems" "groups" "I", Cond.fieldLink RX3 30 "StemDots$Stems" "leastWidth" "[I", Cond.fieldLink RX3 27 "StemDots$Stems" "members" "[I", Cond.fieldLink RX3 33 "StemDots$Stems" "widths" "[I", Cond.fieldLink RX3 24 "StemDots$Stems" "group" "[I", Cond.methodLink RX4 172 yX0_forget, Cond.instanceMethod yX0_forget, Cond.selects RX0 yX0_forget yX0_forget, Cond.initialized RX0]
def wsX4_renew_r4 : List Cond := [Cond.code yX0_forget cX0_forget 2 none, Cond.fieldLink RX0 27 "StemDots$Fits" "known" "[Z"]
def wsX4_renew : List Cond := .code yX4_renew cX4_renew 1 none :: ((wsX4_renew_r1 ++ (wsX4_renew_r2 ++ (wsX4_renew_r3 ++ wsX4_renew_r4))) ++ wsX40 ++ wsX30 ++ wsX10 ++ wsX00)
def wsX4_edge_r1 : List Cond := [Cond.fieldLink RX4 10 "StemDots" "pad" "LStemDots$Pad;", Cond.fieldLink RX4 19 "StemDots" "letter" "LStemDots$Letter;", Cond.fieldLink RX4 72 "StemDots$Letter" "edges" "I", Cond.methodLink RX4 62 yX2_read, Cond.instanceMethod yX2_read, Cond.selects RX2 yX2_read yX2_read, Cond.initialized RX2, Cond.code yX2_read cX2_read 4 (some .int), Cond.fieldLink RX2 30 "StemDots$Pad" "BEHIND_NUMBER" "[C", Cond.fieldLink RX2 18 "StemDots$Pad" "signs" "I", Cond.fieldLink RX2 15 "StemDots$Pad" "numbers" "[I", Cond.methodLink RX2 22 yX2_isSign, Cond.instanceMethod yX2_isSign, Cond.selects RX2 yX2_isSign yX2_isSign, Cond.code yX2_isSign cX2_isSign 3 (some .boolean), Cond.fieldLink RX2 9 "StemDots$Pad" "row" "[I", Cond.methodLink RX2 26 yX2_readNumber, Cond.instanceMethod yX2_readNumber, Cond.selects RX2 yX2_readNumber yX2_readNumber, Cond.code yX2_readNumber cX2_readNumber 5 (some .int), Cond.methodLink RX2 34 yX2_isFigure, Cond.instanceMethod yX2_isFigure, Cond.selects RX2 yX2_isFigure yX2_isFigure, Cond.code yX2_isFigure cX2_isFigure 2 (some .boolean)]
def wsX4_edge_r2 : List Cond := [Cond.static yX4_isWithin, Cond.initialized RX4, Cond.code yX4_isWithin cX4_isWithin 3 (some .boolean), Cond.methodLink RX4 66 yX1_add, Cond.instanceMethod yX1_add, Cond.selects RX1 yX1_add yX1_add, Cond.initialized RX1, Cond.code yX1_add cX1_add 2 (some .boolean), Cond.fieldLink RX1 36 "StemDots$Letter" "edges" "I", Cond.fieldLink RX1 9 "StemDots$Letter" "up" "[I", Cond.fieldLink RX1 15 "StemDots$Letter" "x" "[I", Cond.fieldLink RX1 46 "StemDots$Pad" "numbers" "[I", Cond.fieldLink RX1 18 "StemDots$Letter" "low" "[I", Cond.fieldLink RX1 21 "StemDots$Letter" "high" "[I", Cond.methodLink RX4 59 yX2_clear, Cond.instanceMethod yX2_clear, Cond.selects RX2 yX2_clear yX2_clear, Cond.code yX2_clear cX2_clear 1 none, Cond.methodLink RX4 69 yX4_renew, Cond.instanceMethod yX4_renew, Cond.selects RX4 yX4_renew yX4_renew, Cond.code yX4_renew cX4_renew 1 none, Cond.fieldLink RX4 34 "StemDots" "stems" "LStemDots$Stems;", Cond.fieldLink RX4 43 "StemDots" "fits" "LStemDots$Fits;"]
def wsX4_edge_r3 : List Cond := [Cond.methodLink RX4 169 yX3_find, Cond.instanceMethod yX3_find, Cond.selects RX3 yX3_find yX3_find, Cond.initialized RX3, Cond.code yX3_find cX3_find 4 none, Cond.fieldLink RX3 39 "StemDots$Stems" "many" "I", Cond.fieldLink RX3 50 "StemDots$Letter" "rules" "[I", Cond.methodLink RX3 43 yX3_addNarrowest, Cond.instanceMethod yX3_addNarrowest, Cond.selects RX3 yX3_addNarrowest yX3_addNarrowest, Cond.code yX3_addNarrowest cX3_addNarrowest 6 (some .boolean), Cond.fieldLink RX3 73 "StemDots$Letter" "edges" "I", Cond.fieldLink RX3 80 "StemDots$Letter" "x" "[I", Cond.methodLink RX3 76 yX1_canBeStem, Cond.instanceMethod yX1_canBeStem, Cond.selects RX1 yX1_canBeStem yX1_canBeStem, Cond.code yX1_canBeStem cX1_canBeStem 3 (some .boolean), Cond.methodLink RX1 53 Lib.Math.min.name, Cond.static Lib.Math.min.name, Cond.initialized "java/lang/Math", Cond.code Lib.Math.min.name Lib.Math.min.code 2 (some .int), Cond.methodLink RX1 59 Lib.Math.max.name, Cond.static Lib.Math.max.name, Cond.code Lib.Math.max.name Lib.Math.max.code 2 (some .int)]
def wsX4_edge_r4 : List Cond := [Cond.methodLink RX3 83 yX3_isFree, Cond.instanceMethod yX3_isFree, Cond.selects RX3 yX3_isFree yX3_isFree, Cond.code yX3_isFree cX3_isFree 4 (some .boolean), Cond.fieldLink RX3 9 "StemDots$Stems" "left" "[I", Cond.fieldLink RX3 15 "StemDots$Stems" "right" "[I", Cond.methodLink RX3 86 yX3_isSooner, Cond.static yX3_isSooner, Cond.code yX3_isSooner cX3_isSooner 6 (some .boolean), Cond.methodLink RX3 90 yX3_insert, Cond.instanceMethod yX3_insert, Cond.selects RX3 yX3_insert yX3_insert, Cond.code yX3_insert cX3_insert 6 none, Cond.fieldLink RX3 18 "StemDots$Stems" "upEdge" "[I", Cond.fieldLink RX3 21 "StemDots$Stems" "downEdge" "[I", Cond.methodLink RX3 47 yX3_sortByWidth, Cond.instanceMethod yX3_sortByWidth, Cond.selects RX3 yX3_sortByWidth yX3_sortByWidth, Cond.code yX3_sortByWidth cX3_sortByWidth 3 none, Cond.fieldLink RX3 36 "StemDots$Stems" "byWidth" "[I", Cond.methodLink RX3 94 yX3_width, Cond.instanceMethod yX3_width, Cond.selects RX3 yX3_width yX3_width, Cond.code yX3_width cX3_width 2 (some .int)]
def wsX4_edge_r5 : List Cond := [Cond.methodLink RX3 55 yX3_makeGroups, Cond.instanceMethod yX3_makeGroups, Cond.selects RX3 yX3_makeGroups yX3_makeGroups, Cond.code yX3_makeGroups cX3_makeGroups 4 none, Cond.fieldLink RX3 97 "StemDots$Stems" "groups" "I", Cond.fieldLink RX3 30 "StemDots$Stems" "leastWidth" "[I", Cond.fieldLink RX3 27 "StemDots$Stems" "members" "[I", Cond.fieldLink RX3 33 "StemDots$Stems" "widths" "[I", Cond.fieldLink RX3 24 "StemDots$Stems" "group" "[I", Cond.methodLink RX4 172 yX0_forget, Cond.instanceMethod yX0_forget, Cond.selects RX0 yX0_forget yX0_forget, Cond.initialized RX0, Cond.code yX0_forget cX0_forget 2 none, Cond.fieldLink RX0 27 "StemDots$Fits" "known" "[Z"]
def wsX4_edge : List Cond := .code yX4_edge cX4_edge 1 (some .int) :: ((wsX4_edge_r1 ++ (wsX4_edge_r2 ++ (wsX4_edge_r3 ++ (wsX4_edge_r4 ++ wsX4_edge_r5)))) ++ wsX40 ++ wsX10 ++ wsX20 ++ wsX30 ++ wsX00)
def wsX4_erase_r1 : List Cond := [Cond.fieldLink RX4 19 "StemDots" "letter" "LStemDots$Letter;", Cond.fieldLink RX4 72 "StemDots$Letter" "edges" "I", Cond.methodLink RX4 47 yX4_isWithin, Cond.static yX4_isWithin, Cond.initialized RX4, Cond.code yX4_isWithin cX4_isWithin 3 (some .boolean), Cond.methodLink RX4 75 yX1_remove, Cond.instanceMethod yX1_remove, Cond.selects RX1 yX1_remove yX1_remove, Cond.initialized RX1, Cond.code yX1_remove cX1_remove 3 none, Cond.fieldLink RX1 36 "StemDots$Letter" "edges" "I", Cond.fieldLink RX1 9 "StemDots$Letter" "up" "[I", Cond.fieldLink RX1 15 "StemDots$Letter" "x" "[I", Cond.fieldLink RX1 18 "StemDots$Letter" "low" "[I", Cond.fieldLink RX1 21 "StemDots$Letter" "high" "[I", Cond.methodLink RX4 69 yX4_renew, Cond.instanceMethod yX4_renew, Cond.selects RX4 yX4_renew yX4_renew, Cond.code yX4_renew cX4_renew 1 none, Cond.fieldLink RX4 34 "StemDots" "stems" "LStemDots$Stems;", Cond.fieldLink RX4 43 "StemDots" "fits" "LStemDots$Fits;", Cond.methodLink RX4 169 yX3_find, Cond.instanceMethod yX3_find]
def wsX4_erase_r2 : List Cond := [Cond.selects RX3 yX3_find yX3_find, Cond.initialized RX3, Cond.code yX3_find cX3_find 4 none, Cond.fieldLink RX3 39 "StemDots$Stems" "many" "I", Cond.fieldLink RX3 50 "StemDots$Letter" "rules" "[I", Cond.methodLink RX3 43 yX3_addNarrowest, Cond.instanceMethod yX3_addNarrowest, Cond.selects RX3 yX3_addNarrowest yX3_addNarrowest, Cond.code yX3_addNarrowest cX3_addNarrowest 6 (some .boolean), Cond.fieldLink RX3 73 "StemDots$Letter" "edges" "I", Cond.fieldLink RX3 80 "StemDots$Letter" "x" "[I", Cond.methodLink RX3 76 yX1_canBeStem, Cond.instanceMethod yX1_canBeStem, Cond.selects RX1 yX1_canBeStem yX1_canBeStem, Cond.code yX1_canBeStem cX1_canBeStem 3 (some .boolean), Cond.methodLink RX1 53 Lib.Math.min.name, Cond.static Lib.Math.min.name, Cond.initialized "java/lang/Math", Cond.code Lib.Math.min.name Lib.Math.min.code 2 (some .int), Cond.methodLink RX1 59 Lib.Math.max.name, Cond.static Lib.Math.max.name, Cond.code Lib.Math.max.name Lib.Math.max.code 2 (some .int), Cond.methodLink RX3 83 yX3_isFree, Cond.instanceMethod yX3_isFree]
def wsX4_erase_r3 : List Cond := [Cond.selects RX3 yX3_isFree yX3_isFree, Cond.code yX3_isFree cX3_isFree 4 (some .boolean), Cond.fieldLink RX3 9 "StemDots$Stems" "left" "[I", Cond.fieldLink RX3 15 "StemDots$Stems" "right" "[I", Cond.methodLink RX3 86 yX3_isSooner, Cond.static yX3_isSooner, Cond.code yX3_isSooner cX3_isSooner 6 (some .boolean), Cond.methodLink RX3 90 yX3_insert, Cond.instanceMethod yX3_insert, Cond.selects RX3 yX3_insert yX3_insert, Cond.code yX3_insert cX3_insert 6 none, Cond.fieldLink RX3 18 "StemDots$Stems" "upEdge" "[I", Cond.fieldLink RX3 21 "StemDots$Stems" "downEdge" "[I", Cond.methodLink RX3 47 yX3_sortByWidth, Cond.instanceMethod yX3_sortByWidth, Cond.selects RX3 yX3_sortByWidth yX3_sortByWidth, Cond.code yX3_sortByWidth cX3_sortByWidth 3 none, Cond.fieldLink RX3 36 "StemDots$Stems" "byWidth" "[I", Cond.methodLink RX3 94 yX3_width, Cond.instanceMethod yX3_width, Cond.selects RX3 yX3_width yX3_width, Cond.code yX3_width cX3_width 2 (some .int), Cond.methodLink RX3 55 yX3_makeGroups, Cond.instanceMethod yX3_makeGroups]
def wsX4_erase_r4 : List Cond := [Cond.selects RX3 yX3_makeGroups yX3_makeGroups, Cond.code yX3_makeGroups cX3_makeGroups 4 none, Cond.fieldLink RX3 97 "StemDots$Stems" "groups" "I", Cond.fieldLink RX3 30 "StemDots$Stems" "leastWidth" "[I", Cond.fieldLink RX3 27 "StemDots$Stems" "members" "[I", Cond.fieldLink RX3 33 "StemDots$Stems" "widths" "[I", Cond.fieldLink RX3 24 "StemDots$Stems" "group" "[I", Cond.methodLink RX4 172 yX0_forget, Cond.instanceMethod yX0_forget, Cond.selects RX0 yX0_forget yX0_forget, Cond.initialized RX0, Cond.code yX0_forget cX0_forget 2 none, Cond.fieldLink RX0 27 "StemDots$Fits" "known" "[Z"]
def wsX4_erase : List Cond := .code yX4_erase cX4_erase 2 (some .int) :: ((wsX4_erase_r1 ++ (wsX4_erase_r2 ++ (wsX4_erase_r3 ++ wsX4_erase_r4))) ++ wsX40 ++ wsX10 ++ wsX30 ++ wsX00)
def wsX4_told : List Cond := .code yX4_told cX4_told 3 (some .int) :: ([.fieldLink RX4 19 "StemDots" "letter" "LStemDots$Letter;", .fieldLink RX4 72 "StemDots$Letter" "edges" "I", .fieldLink RX4 79 "StemDots$Letter" "up" "[I", .fieldLink RX4 83 "StemDots$Letter" "x" "[I", .fieldLink RX4 86 "StemDots$Letter" "low" "[I", .fieldLink RX4 89 "StemDots$Letter" "high" "[I", .fieldLink RX4 34 "StemDots" "stems" "LStemDots$Stems;", .methodLink RX4 47 yX4_isWithin, .static yX4_isWithin, .initialized RX4, .code yX4_isWithin cX4_isWithin 3 (some .boolean), .methodLink RX4 92 yX3_withEdge, .instanceMethod yX3_withEdge, .selects RX3 yX3_withEdge yX3_withEdge, .initialized RX3, .code yX3_withEdge cX3_withEdge 3 (some .int), .fieldLink RX3 39 "StemDots$Stems" "many" "I", .fieldLink RX3 18 "StemDots$Stems" "upEdge" "[I", .fieldLink RX3 21 "StemDots$Stems" "downEdge" "[I"] ++ wsX40 ++ wsX10 ++ wsX30)
def wsX4_rule_r1 : List Cond := [Cond.fieldLink RX4 96 "StemDots" "MOST_OF_RULE" "[I", Cond.fieldLink RX4 19 "StemDots" "letter" "LStemDots$Letter;", Cond.fieldLink RX4 99 "StemDots$Letter" "rules" "[I", Cond.methodLink RX4 47 yX4_isWithin, Cond.static yX4_isWithin, Cond.initialized RX4, Cond.code yX4_isWithin cX4_isWithin 3 (some .boolean), Cond.methodLink RX4 69 yX4_renew, Cond.instanceMethod yX4_renew, Cond.selects RX4 yX4_renew yX4_renew, Cond.code yX4_renew cX4_renew 1 none, Cond.fieldLink RX4 34 "StemDots" "stems" "LStemDots$Stems;", Cond.fieldLink RX4 43 "StemDots" "fits" "LStemDots$Fits;", Cond.methodLink RX4 169 yX3_find, Cond.instanceMethod yX3_find, Cond.selects RX3 yX3_find yX3_find, Cond.initialized RX3, Cond.code yX3_find cX3_find 4 none, Cond.fieldLink RX3 39 "StemDots$Stems" "many" "I", Cond.fieldLink RX3 50 "StemDots$Letter" "rules" "[I", Cond.methodLink RX3 43 yX3_addNarrowest, Cond.instanceMethod yX3_addNarrowest, Cond.selects RX3 yX3_addNarrowest yX3_addNarrowest, Cond.code yX3_addNarrowest cX3_addNarrowest 6 (some .boolean)]
def wsX4_rule_r2 : List Cond := [Cond.fieldLink RX3 73 "StemDots$Letter" "edges" "I", Cond.fieldLink RX3 80 "StemDots$Letter" "x" "[I", Cond.methodLink RX3 76 yX1_canBeStem, Cond.instanceMethod yX1_canBeStem, Cond.selects RX1 yX1_canBeStem yX1_canBeStem, Cond.initialized RX1, Cond.code yX1_canBeStem cX1_canBeStem 3 (some .boolean), Cond.fieldLink RX1 9 "StemDots$Letter" "up" "[I", Cond.fieldLink RX1 15 "StemDots$Letter" "x" "[I", Cond.fieldLink RX1 21 "StemDots$Letter" "high" "[I", Cond.methodLink RX1 53 Lib.Math.min.name, Cond.static Lib.Math.min.name, Cond.initialized "java/lang/Math", Cond.code Lib.Math.min.name Lib.Math.min.code 2 (some .int), Cond.fieldLink RX1 18 "StemDots$Letter" "low" "[I", Cond.methodLink RX1 59 Lib.Math.max.name, Cond.static Lib.Math.max.name, Cond.code Lib.Math.max.name Lib.Math.max.code 2 (some .int), Cond.methodLink RX3 83 yX3_isFree, Cond.instanceMethod yX3_isFree, Cond.selects RX3 yX3_isFree yX3_isFree, Cond.code yX3_isFree cX3_isFree 4 (some .boolean), Cond.fieldLink RX3 9 "StemDots$Stems" "left" "[I", Cond.fieldLink RX3 15 "StemDots$Stems" "right" "[I"]
def wsX4_rule_r3 : List Cond := [Cond.methodLink RX3 86 yX3_isSooner, Cond.static yX3_isSooner, Cond.code yX3_isSooner cX3_isSooner 6 (some .boolean), Cond.methodLink RX3 90 yX3_insert, Cond.instanceMethod yX3_insert, Cond.selects RX3 yX3_insert yX3_insert, Cond.code yX3_insert cX3_insert 6 none, Cond.fieldLink RX3 18 "StemDots$Stems" "upEdge" "[I", Cond.fieldLink RX3 21 "StemDots$Stems" "downEdge" "[I", Cond.methodLink RX3 47 yX3_sortByWidth, Cond.instanceMethod yX3_sortByWidth, Cond.selects RX3 yX3_sortByWidth yX3_sortByWidth, Cond.code yX3_sortByWidth cX3_sortByWidth 3 none, Cond.fieldLink RX3 36 "StemDots$Stems" "byWidth" "[I", Cond.methodLink RX3 94 yX3_width, Cond.instanceMethod yX3_width, Cond.selects RX3 yX3_width yX3_width, Cond.code yX3_width cX3_width 2 (some .int), Cond.methodLink RX3 55 yX3_makeGroups, Cond.instanceMethod yX3_makeGroups, Cond.selects RX3 yX3_makeGroups yX3_makeGroups, Cond.code yX3_makeGroups cX3_makeGroups 4 none, Cond.fieldLink RX3 97 "StemDots$Stems" "groups" "I", Cond.fieldLink RX3 30 "StemDots$Stems" "leastWidth" "[I"]
def wsX4_rule_r4 : List Cond := [Cond.fieldLink RX3 27 "StemDots$Stems" "members" "[I", Cond.fieldLink RX3 33 "StemDots$Stems" "widths" "[I", Cond.fieldLink RX3 24 "StemDots$Stems" "group" "[I", Cond.methodLink RX4 172 yX0_forget, Cond.instanceMethod yX0_forget, Cond.selects RX0 yX0_forget yX0_forget, Cond.initialized RX0, Cond.code yX0_forget cX0_forget 2 none, Cond.fieldLink RX0 27 "StemDots$Fits" "known" "[Z"]
def wsX4_rule : List Cond := .code yX4_rule cX4_rule 4 (some .int) :: ((wsX4_rule_r1 ++ (wsX4_rule_r2 ++ (wsX4_rule_r3 ++ wsX4_rule_r4))) ++ wsX40 ++ wsX10 ++ wsX30 ++ wsX00)
def wsX4_stem : List Cond := .code yX4_stem cX4_stem 3 (some .int) :: ([.fieldLink RX4 34 "StemDots" "stems" "LStemDots$Stems;", .fieldLink RX4 102 "StemDots$Stems" "many" "I", .fieldLink RX4 105 "StemDots$Stems" "left" "[I", .fieldLink RX4 108 "StemDots$Stems" "right" "[I", .fieldLink RX4 111 "StemDots$Stems" "upEdge" "[I", .fieldLink RX4 114 "StemDots$Stems" "downEdge" "[I", .fieldLink RX4 117 "StemDots$Stems" "group" "[I", .methodLink RX4 47 yX4_isWithin, .static yX4_isWithin, .initialized RX4, .code yX4_isWithin cX4_isWithin 3 (some .boolean)] ++ wsX40 ++ wsX30)
def wsX4_kind : List Cond := .code yX4_kind cX4_kind 3 (some .int) :: ([.fieldLink RX4 34 "StemDots" "stems" "LStemDots$Stems;", .fieldLink RX4 120 "StemDots$Stems" "groups" "I", .fieldLink RX4 123 "StemDots$Stems" "members" "[I", .fieldLink RX4 126 "StemDots$Stems" "leastWidth" "[I", .methodLink RX4 47 yX4_isWithin, .static yX4_isWithin, .initialized RX4, .code yX4_isWithin cX4_isWithin 3 (some .boolean), .methodLink RX4 129 yX3_standard, .instanceMethod yX3_standard, .selects RX3 yX3_standard yX3_standard, .initialized RX3, .code yX3_standard cX3_standard 2 (some .int), .fieldLink RX3 27 "StemDots$Stems" "members" "[I", .fieldLink RX3 33 "StemDots$Stems" "widths" "[I"] ++ wsX40 ++ wsX30)
def wsX4_isSize : List Cond := .code yX4_isSize cX4_isSize 1 (some .boolean) :: ([.methodLink RX4 47 yX4_isWithin, .static yX4_isWithin, .initialized RX4, .code yX4_isWithin cX4_isWithin 3 (some .boolean)])
def wsX4_dots_r1 : List Cond := [Cond.fieldLink RX4 34 "StemDots" "stems" "LStemDots$Stems;", Cond.fieldLink RX4 120 "StemDots$Stems" "groups" "I", Cond.fieldLink RX4 19 "StemDots" "letter" "LStemDots$Letter;", Cond.fieldLink RX4 99 "StemDots$Letter" "rules" "[I", Cond.methodLink RX4 47 yX4_isWithin, Cond.static yX4_isWithin, Cond.initialized RX4, Cond.code yX4_isWithin cX4_isWithin 3 (some .boolean), Cond.methodLink RX4 132 yX4_isSize, Cond.static yX4_isSize, Cond.code yX4_isSize cX4_isSize 1 (some .boolean), Cond.methodLink RX4 135 yX3_dotsOfGroup, Cond.instanceMethod yX3_dotsOfGroup, Cond.selects RX3 yX3_dotsOfGroup yX3_dotsOfGroup, Cond.initialized RX3, Cond.code yX3_dotsOfGroup cX3_dotsOfGroup 5 (some .int), Cond.methodLink RX3 63 Lib.Math.max.name, Cond.static Lib.Math.max.name, Cond.initialized "java/lang/Math", Cond.code Lib.Math.max.name Lib.Math.max.code 2 (some .int), Cond.methodLink RX3 59 yX3_standard, Cond.instanceMethod yX3_standard, Cond.selects RX3 yX3_standard yX3_standard, Cond.code yX3_standard cX3_standard 2 (some .int)]
def wsX4_dots_r2 : List Cond := [Cond.fieldLink RX3 27 "StemDots$Stems" "members" "[I", Cond.fieldLink RX3 33 "StemDots$Stems" "widths" "[I"]
def wsX4_dots : List Cond := .code yX4_dots cX4_dots 3 (some .int) :: ((wsX4_dots_r1 ++ wsX4_dots_r2) ++ wsX40 ++ wsX30 ++ wsX10)
def wsX4_grows : List Cond := .code yX4_grows cX4_grows 4 (some .int) :: ([.fieldLink RX4 34 "StemDots" "stems" "LStemDots$Stems;", .fieldLink RX4 120 "StemDots$Stems" "groups" "I", .fieldLink RX4 19 "StemDots" "letter" "LStemDots$Letter;", .fieldLink RX4 99 "StemDots$Letter" "rules" "[I", .methodLink RX4 47 yX4_isWithin, .static yX4_isWithin, .initialized RX4, .code yX4_isWithin cX4_isWithin 3 (some .boolean), .methodLink RX4 135 yX3_dotsOfGroup, .instanceMethod yX3_dotsOfGroup, .selects RX3 yX3_dotsOfGroup yX3_dotsOfGroup, .initialized RX3, .code yX3_dotsOfGroup cX3_dotsOfGroup 5 (some .int), .methodLink RX3 63 Lib.Math.max.name, .static Lib.Math.max.name, .initialized "java/lang/Math", .code Lib.Math.max.name Lib.Math.max.code 2 (some .int), .methodLink RX3 59 yX3_standard, .instanceMethod yX3_standard, .selects RX3 yX3_standard yX3_standard, .code yX3_standard cX3_standard 2 (some .int), .fieldLink RX3 27 "StemDots$Stems" "members" "[I", .fieldLink RX3 33 "StemDots$Stems" "widths" "[I"] ++ wsX40 ++ wsX30 ++ wsX10)
def wsX4_fit_r1 : List Cond := [Cond.fieldLink RX4 34 "StemDots" "stems" "LStemDots$Stems;", Cond.fieldLink RX4 102 "StemDots$Stems" "many" "I", Cond.fieldLink RX4 43 "StemDots" "fits" "LStemDots$Fits;", Cond.methodLink RX4 47 yX4_isWithin, Cond.static yX4_isWithin, Cond.initialized RX4, Cond.code yX4_isWithin cX4_isWithin 3 (some .boolean), Cond.methodLink RX4 132 yX4_isSize, Cond.static yX4_isSize, Cond.code yX4_isSize cX4_isSize 1 (some .boolean), Cond.methodLink RX4 139 yX0_isAt, Cond.instanceMethod yX0_isAt, Cond.selects RX0 yX0_isAt yX0_isAt, Cond.initialized RX0, Cond.code yX0_isAt cX0_isAt 2 (some .boolean), Cond.fieldLink RX0 27 "StemDots$Fits" "known" "[Z", Cond.fieldLink RX0 23 "StemDots$Fits" "blamed" "[I", Cond.methodLink RX0 46 yX0_workOut, Cond.instanceMethod yX0_workOut, Cond.selects RX0 yX0_workOut yX0_workOut, Cond.code yX0_workOut cX0_workOut 2 none, Cond.fieldLink RX0 75 "StemDots$Fits" "workSize" "I", Cond.fieldLink RX0 19 "StemDots$Fits" "least" "[J", Cond.fieldLink RX0 15 "StemDots$Fits" "stems" "LStemDots$Stems;"]
def wsX4_fit_r2 : List Cond := [Cond.fieldLink RX0 50 "StemDots$Stems" "many" "I", Cond.methodLink RX0 78 yX0_layLeftmost, Cond.instanceMethod yX0_layLeftmost, Cond.selects RX0 yX0_layLeftmost yX0_layLeftmost, Cond.code yX0_layLeftmost cX0_layLeftmost 3 (some .int), Cond.fieldLink RX0 92 "StemDots$Fits" "room" "I", Cond.fieldLink RX0 34 "StemDots$Fits" "dotsOf" "[I", Cond.fieldLink RX0 9 "StemDots$Fits" "letter" "LStemDots$Letter;", Cond.fieldLink RX0 66 "StemDots$Letter" "rules" "[I", Cond.fieldLink RX0 37 "StemDots$Fits" "leftmost" "[I", Cond.methodLink RX0 71 yX3_dotsOfStem, Cond.instanceMethod yX3_dotsOfStem, Cond.selects RX3 yX3_dotsOfStem yX3_dotsOfStem, Cond.initialized RX3, Cond.code yX3_dotsOfStem cX3_dotsOfStem 4 (some .int), Cond.fieldLink RX3 24 "StemDots$Stems" "group" "[I", Cond.methodLink RX3 69 yX3_dotsOfGroup, Cond.instanceMethod yX3_dotsOfGroup, Cond.selects RX3 yX3_dotsOfGroup yX3_dotsOfGroup, Cond.code yX3_dotsOfGroup cX3_dotsOfGroup 5 (some .int), Cond.methodLink RX3 63 Lib.Math.max.name, Cond.static Lib.Math.max.name, Cond.initialized "java/lang/Math", Cond.code Lib.Math.max.name Lib.Math.max.code 2 (some .int)]
def wsX4_fit_r3 : List Cond := [Cond.methodLink RX3 59 yX3_standard, Cond.instanceMethod yX3_standard, Cond.selects RX3 yX3_standard yX3_standard, Cond.code yX3_standard cX3_standard 2 (some .int), Cond.fieldLink RX3 27 "StemDots$Stems" "members" "[I", Cond.fieldLink RX3 33 "StemDots$Stems" "widths" "[I", Cond.methodLink RX0 82 yX0_weighRests, Cond.instanceMethod yX0_weighRests, Cond.selects RX0 yX0_weighRests yX0_weighRests, Cond.code yX0_weighRests cX0_weighRests 3 none, Cond.fieldLink RX0 40 "StemDots$Fits" "rest" "[J", Cond.methodLink RX0 95 yX0_weighGapsBehind, Cond.instanceMethod yX0_weighGapsBehind, Cond.selects RX0 yX0_weighGapsBehind yX0_weighGapsBehind, Cond.code yX0_weighGapsBehind cX0_weighGapsBehind 3 none, Cond.fieldLink RX0 43 "StemDots$Fits" "gapCosts" "[J", Cond.methodLink RX0 102 yX0_gapCost, Cond.instanceMethod yX0_gapCost, Cond.selects RX0 yX0_gapCost yX0_gapCost, Cond.code yX0_gapCost cX0_gapCost 5 (some .long), Cond.fieldLink RX0 56 "StemDots$Stems" "left" "[I", Cond.fieldLink RX0 63 "StemDots$Stems" "right" "[I", Cond.methodLink RX0 131 Lib.Math.abs.name, Cond.static Lib.Math.abs.name]
def wsX4_fit_r4 : List Cond := [Cond.code Lib.Math.abs.name Lib.Math.abs.code 1 (some .int), Cond.methodLink RX0 135 yX0_weighed, Cond.instanceMethod yX0_weighed, Cond.selects RX0 yX0_weighed yX0_weighed, Cond.code yX0_weighed cX0_weighed 5 (some .long), Cond.constantLong RX0 139 (1000), Cond.methodLink RX0 98 yX0_restAt, Cond.instanceMethod yX0_restAt, Cond.selects RX0 yX0_restAt yX0_restAt, Cond.code yX0_restAt cX0_restAt 8 (some .long), Cond.methodLink RX0 112 Lib.MathLoose.min_long.x, Cond.static Lib.MathLoose.min_long.x, Cond.code Lib.MathLoose.min_long.x Lib.MathLoose.min_long.code 4 (some .long), Cond.methodLink RX0 105 yX0_stemCost, Cond.instanceMethod yX0_stemCost, Cond.selects RX0 yX0_stemCost yX0_stemCost, Cond.code yX0_stemCost cX0_stemCost 5 (some .long), Cond.methodLink RX0 108 yX0_joined, Cond.instanceMethod yX0_joined, Cond.selects RX0 yX0_joined yX0_joined, Cond.code yX0_joined cX0_joined 5 (some .long), Cond.methodLink RX0 128 Lib.MathLoose.max_long.x, Cond.static Lib.MathLoose.max_long.x, Cond.code Lib.MathLoose.max_long.x Lib.MathLoose.max_long.code 4 (some .long)]
def wsX4_fit_r5 : List Cond := [Cond.methodLink RX0 124 yX0_worstCounts, Cond.instanceMethod yX0_worstCounts, Cond.selects RX0 yX0_worstCounts yX0_worstCounts, Cond.code yX0_worstCounts cX0_worstCounts 1 (some .boolean), Cond.methodLink RX0 85 yX0_leastRest, Cond.instanceMethod yX0_leastRest, Cond.selects RX0 yX0_leastRest yX0_leastRest, Cond.code yX0_leastRest cX0_leastRest 4 (some .long), Cond.methodLink RX0 89 yX0_layLeast, Cond.instanceMethod yX0_layLeast, Cond.selects RX0 yX0_layLeast yX0_layLeast, Cond.code yX0_layLeast cX0_layLeast 6 none, Cond.fieldLink RX0 31 "StemDots$Fits" "leftDots" "[I", Cond.methodLink RX0 117 yX0_comesTo, Cond.instanceMethod yX0_comesTo, Cond.selects RX0 yX0_comesTo yX0_comesTo, Cond.code yX0_comesTo cX0_comesTo 6 (some .long), Cond.methodLink RX0 121 yX0_without, Cond.instanceMethod yX0_without, Cond.selects RX0 yX0_without yX0_without, Cond.code yX0_without cX0_without 5 (some .long), Cond.methodLink RX4 142 yX0_leftDot, Cond.instanceMethod yX0_leftDot, Cond.selects RX0 yX0_leftDot yX0_leftDot]
def wsX4_fit_r6 : List Cond := [Cond.code yX0_leftDot cX0_leftDot 3 (some .int)]
def wsX4_fit : List Cond := .code yX4_fit cX4_fit 3 (some .int) :: ((wsX4_fit_r1 ++ (wsX4_fit_r2 ++ (wsX4_fit_r3 ++ (wsX4_fit_r4 ++ (wsX4_fit_r5 ++ wsX4_fit_r6))))) ++ wsX40 ++ wsX30 ++ wsX00 ++ wsX10)
def wsX4_distortion_r1 : List Cond := [Cond.constantLong RX4 146 (-2), Cond.fieldLink RX4 43 "StemDots" "fits" "LStemDots$Fits;", Cond.fieldLink RX4 148 "StemDots$Fits" "least" "[J", Cond.constantLong RX4 152 (-3), Cond.methodLink RX4 132 yX4_isSize, Cond.static yX4_isSize, Cond.initialized RX4, Cond.code yX4_isSize cX4_isSize 1 (some .boolean), Cond.methodLink RX4 47 yX4_isWithin, Cond.static yX4_isWithin, Cond.code yX4_isWithin cX4_isWithin 3 (some .boolean), Cond.methodLink RX4 139 yX0_isAt, Cond.instanceMethod yX0_isAt, Cond.selects RX0 yX0_isAt yX0_isAt, Cond.initialized RX0, Cond.code yX0_isAt cX0_isAt 2 (some .boolean), Cond.fieldLink RX0 27 "StemDots$Fits" "known" "[Z", Cond.fieldLink RX0 23 "StemDots$Fits" "blamed" "[I", Cond.methodLink RX0 46 yX0_workOut, Cond.instanceMethod yX0_workOut, Cond.selects RX0 yX0_workOut yX0_workOut, Cond.code yX0_workOut cX0_workOut 2 none, Cond.fieldLink RX0 75 "StemDots$Fits" "workSize" "I", Cond.fieldLink RX0 19 "StemDots$Fits" "least" "[J"]
def wsX4_distortion_r2 : List Cond := [Cond.fieldLink RX0 15 "StemDots$Fits" "stems" "LStemDots$Stems;", Cond.fieldLink RX0 50 "StemDots$Stems" "many" "I", Cond.methodLink RX0 78 yX0_layLeftmost, Cond.instanceMethod yX0_layLeftmost, Cond.selects RX0 yX0_layLeftmost yX0_layLeftmost, Cond.code yX0_layLeftmost cX0_layLeftmost 3 (some .int), Cond.fieldLink RX0 92 "StemDots$Fits" "room" "I", Cond.fieldLink RX0 34 "StemDots$Fits" "dotsOf" "[I", Cond.fieldLink RX0 9 "StemDots$Fits" "letter" "LStemDots$Letter;", Cond.fieldLink RX0 66 "StemDots$Letter" "rules" "[I", Cond.fieldLink RX0 37 "StemDots$Fits" "leftmost" "[I", Cond.methodLink RX0 71 yX3_dotsOfStem, Cond.instanceMethod yX3_dotsOfStem, Cond.selects RX3 yX3_dotsOfStem yX3_dotsOfStem, Cond.initialized RX3, Cond.code yX3_dotsOfStem cX3_dotsOfStem 4 (some .int), Cond.fieldLink RX3 24 "StemDots$Stems" "group" "[I", Cond.methodLink RX3 69 yX3_dotsOfGroup, Cond.instanceMethod yX3_dotsOfGroup, Cond.selects RX3 yX3_dotsOfGroup yX3_dotsOfGroup, Cond.code yX3_dotsOfGroup cX3_dotsOfGroup 5 (some .int), Cond.methodLink RX3 63 Lib.Math.max.name, Cond.static Lib.Math.max.name, Cond.initialized "java/lang/Math"]
def wsX4_distortion_r3 : List Cond := [Cond.code Lib.Math.max.name Lib.Math.max.code 2 (some .int), Cond.methodLink RX3 59 yX3_standard, Cond.instanceMethod yX3_standard, Cond.selects RX3 yX3_standard yX3_standard, Cond.code yX3_standard cX3_standard 2 (some .int), Cond.fieldLink RX3 27 "StemDots$Stems" "members" "[I", Cond.fieldLink RX3 33 "StemDots$Stems" "widths" "[I", Cond.methodLink RX0 82 yX0_weighRests, Cond.instanceMethod yX0_weighRests, Cond.selects RX0 yX0_weighRests yX0_weighRests, Cond.code yX0_weighRests cX0_weighRests 3 none, Cond.fieldLink RX0 40 "StemDots$Fits" "rest" "[J", Cond.methodLink RX0 95 yX0_weighGapsBehind, Cond.instanceMethod yX0_weighGapsBehind, Cond.selects RX0 yX0_weighGapsBehind yX0_weighGapsBehind, Cond.code yX0_weighGapsBehind cX0_weighGapsBehind 3 none, Cond.fieldLink RX0 43 "StemDots$Fits" "gapCosts" "[J", Cond.methodLink RX0 102 yX0_gapCost, Cond.instanceMethod yX0_gapCost, Cond.selects RX0 yX0_gapCost yX0_gapCost, Cond.code yX0_gapCost cX0_gapCost 5 (some .long), Cond.fieldLink RX0 56 "StemDots$Stems" "left" "[I", Cond.fieldLink RX0 63 "StemDots$Stems" "right" "[I", Cond.methodLink RX0 131 Lib.Math.abs.name]
def wsX4_distortion_r4 : List Cond := [Cond.static Lib.Math.abs.name, Cond.code Lib.Math.abs.name Lib.Math.abs.code 1 (some .int), Cond.methodLink RX0 135 yX0_weighed, Cond.instanceMethod yX0_weighed, Cond.selects RX0 yX0_weighed yX0_weighed, Cond.code yX0_weighed cX0_weighed 5 (some .long), Cond.constantLong RX0 139 (1000), Cond.methodLink RX0 98 yX0_restAt, Cond.instanceMethod yX0_restAt, Cond.selects RX0 yX0_restAt yX0_restAt, Cond.code yX0_restAt cX0_restAt 8 (some .long), Cond.methodLink RX0 112 Lib.MathLoose.min_long.x, Cond.static Lib.MathLoose.min_long.x, Cond.code Lib.MathLoose.min_long.x Lib.MathLoose.min_long.code 4 (some .long), Cond.methodLink RX0 105 yX0_stemCost, Cond.instanceMethod yX0_stemCost, Cond.selects RX0 yX0_stemCost yX0_stemCost, Cond.code yX0_stemCost cX0_stemCost 5 (some .long), Cond.methodLink RX0 108 yX0_joined, Cond.instanceMethod yX0_joined, Cond.selects RX0 yX0_joined yX0_joined, Cond.code yX0_joined cX0_joined 5 (some .long), Cond.methodLink RX0 128 Lib.MathLoose.max_long.x, Cond.static Lib.MathLoose.max_long.x]
def wsX4_distortion_r5 : List Cond := [Cond.code Lib.MathLoose.max_long.x Lib.MathLoose.max_long.code 4 (some .long), Cond.methodLink RX0 124 yX0_worstCounts, Cond.instanceMethod yX0_worstCounts, Cond.selects RX0 yX0_worstCounts yX0_worstCounts, Cond.code yX0_worstCounts cX0_worstCounts 1 (some .boolean), Cond.methodLink RX0 85 yX0_leastRest, Cond.instanceMethod yX0_leastRest, Cond.selects RX0 yX0_leastRest yX0_leastRest, Cond.code yX0_leastRest cX0_leastRest 4 (some .long), Cond.methodLink RX0 89 yX0_layLeast, Cond.instanceMethod yX0_layLeast, Cond.selects RX0 yX0_layLeast yX0_layLeast, Cond.code yX0_layLeast cX0_layLeast 6 none, Cond.fieldLink RX0 31 "StemDots$Fits" "leftDots" "[I", Cond.methodLink RX0 117 yX0_comesTo, Cond.instanceMethod yX0_comesTo, Cond.selects RX0 yX0_comesTo yX0_comesTo, Cond.code yX0_comesTo cX0_comesTo 6 (some .long), Cond.methodLink RX0 121 yX0_without, Cond.instanceMethod yX0_without, Cond.selects RX0 yX0_without yX0_without, Cond.code yX0_without cX0_without 5 (some .long)]
def wsX4_distortion : List Cond := .code yX4_distortion cX4_distortion 2 (some .long) :: ((wsX4_distortion_r1 ++ (wsX4_distortion_r2 ++ (wsX4_distortion_r3 ++ (wsX4_distortion_r4 ++ wsX4_distortion_r5)))) ++ wsX40 ++ wsX00 ++ wsX30 ++ wsX10)
def wsX4_why_r1 : List Cond := [Cond.fieldLink RX4 43 "StemDots" "fits" "LStemDots$Fits;", Cond.fieldLink RX4 154 "StemDots$Fits" "blamed" "[I", Cond.fieldLink RX4 34 "StemDots" "stems" "LStemDots$Stems;", Cond.fieldLink RX4 19 "StemDots" "letter" "LStemDots$Letter;", Cond.fieldLink RX4 99 "StemDots$Letter" "rules" "[I", Cond.methodLink RX4 132 yX4_isSize, Cond.static yX4_isSize, Cond.initialized RX4, Cond.code yX4_isSize cX4_isSize 1 (some .boolean), Cond.methodLink RX4 47 yX4_isWithin, Cond.static yX4_isWithin, Cond.code yX4_isWithin cX4_isWithin 3 (some .boolean), Cond.methodLink RX4 139 yX0_isAt, Cond.instanceMethod yX0_isAt, Cond.selects RX0 yX0_isAt yX0_isAt, Cond.initialized RX0, Cond.code yX0_isAt cX0_isAt 2 (some .boolean), Cond.fieldLink RX0 27 "StemDots$Fits" "known" "[Z", Cond.fieldLink RX0 23 "StemDots$Fits" "blamed" "[I", Cond.methodLink RX0 46 yX0_workOut, Cond.instanceMethod yX0_workOut, Cond.selects RX0 yX0_workOut yX0_workOut, Cond.code yX0_workOut cX0_workOut 2 none, Cond.fieldLink RX0 75 "StemDots$Fits" "workSize" "I"]
def wsX4_why_r2 : List Cond := [Cond.fieldLink RX0 19 "StemDots$Fits" "least" "[J", Cond.fieldLink RX0 15 "StemDots$Fits" "stems" "LStemDots$Stems;", Cond.fieldLink RX0 50 "StemDots$Stems" "many" "I", Cond.methodLink RX0 78 yX0_layLeftmost, Cond.instanceMethod yX0_layLeftmost, Cond.selects RX0 yX0_layLeftmost yX0_layLeftmost, Cond.code yX0_layLeftmost cX0_layLeftmost 3 (some .int), Cond.fieldLink RX0 92 "StemDots$Fits" "room" "I", Cond.fieldLink RX0 34 "StemDots$Fits" "dotsOf" "[I", Cond.fieldLink RX0 9 "StemDots$Fits" "letter" "LStemDots$Letter;", Cond.fieldLink RX0 66 "StemDots$Letter" "rules" "[I", Cond.fieldLink RX0 37 "StemDots$Fits" "leftmost" "[I", Cond.methodLink RX0 71 yX3_dotsOfStem, Cond.instanceMethod yX3_dotsOfStem, Cond.selects RX3 yX3_dotsOfStem yX3_dotsOfStem, Cond.initialized RX3, Cond.code yX3_dotsOfStem cX3_dotsOfStem 4 (some .int), Cond.fieldLink RX3 24 "StemDots$Stems" "group" "[I", Cond.methodLink RX3 69 yX3_dotsOfGroup, Cond.instanceMethod yX3_dotsOfGroup, Cond.selects RX3 yX3_dotsOfGroup yX3_dotsOfGroup, Cond.code yX3_dotsOfGroup cX3_dotsOfGroup 5 (some .int), Cond.methodLink RX3 63 Lib.Math.max.name, Cond.static Lib.Math.max.name]
def wsX4_why_r3 : List Cond := [Cond.initialized "java/lang/Math", Cond.code Lib.Math.max.name Lib.Math.max.code 2 (some .int), Cond.methodLink RX3 59 yX3_standard, Cond.instanceMethod yX3_standard, Cond.selects RX3 yX3_standard yX3_standard, Cond.code yX3_standard cX3_standard 2 (some .int), Cond.fieldLink RX3 27 "StemDots$Stems" "members" "[I", Cond.fieldLink RX3 33 "StemDots$Stems" "widths" "[I", Cond.methodLink RX0 82 yX0_weighRests, Cond.instanceMethod yX0_weighRests, Cond.selects RX0 yX0_weighRests yX0_weighRests, Cond.code yX0_weighRests cX0_weighRests 3 none, Cond.fieldLink RX0 40 "StemDots$Fits" "rest" "[J", Cond.methodLink RX0 95 yX0_weighGapsBehind, Cond.instanceMethod yX0_weighGapsBehind, Cond.selects RX0 yX0_weighGapsBehind yX0_weighGapsBehind, Cond.code yX0_weighGapsBehind cX0_weighGapsBehind 3 none, Cond.fieldLink RX0 43 "StemDots$Fits" "gapCosts" "[J", Cond.methodLink RX0 102 yX0_gapCost, Cond.instanceMethod yX0_gapCost, Cond.selects RX0 yX0_gapCost yX0_gapCost, Cond.code yX0_gapCost cX0_gapCost 5 (some .long), Cond.fieldLink RX0 56 "StemDots$Stems" "left" "[I", Cond.fieldLink RX0 63 "StemDots$Stems" "right" "[I"]
def wsX4_why_r4 : List Cond := [Cond.methodLink RX0 131 Lib.Math.abs.name, Cond.static Lib.Math.abs.name, Cond.code Lib.Math.abs.name Lib.Math.abs.code 1 (some .int), Cond.methodLink RX0 135 yX0_weighed, Cond.instanceMethod yX0_weighed, Cond.selects RX0 yX0_weighed yX0_weighed, Cond.code yX0_weighed cX0_weighed 5 (some .long), Cond.constantLong RX0 139 (1000), Cond.methodLink RX0 98 yX0_restAt, Cond.instanceMethod yX0_restAt, Cond.selects RX0 yX0_restAt yX0_restAt, Cond.code yX0_restAt cX0_restAt 8 (some .long), Cond.methodLink RX0 112 Lib.MathLoose.min_long.x, Cond.static Lib.MathLoose.min_long.x, Cond.code Lib.MathLoose.min_long.x Lib.MathLoose.min_long.code 4 (some .long), Cond.methodLink RX0 105 yX0_stemCost, Cond.instanceMethod yX0_stemCost, Cond.selects RX0 yX0_stemCost yX0_stemCost, Cond.code yX0_stemCost cX0_stemCost 5 (some .long), Cond.methodLink RX0 108 yX0_joined, Cond.instanceMethod yX0_joined, Cond.selects RX0 yX0_joined yX0_joined, Cond.code yX0_joined cX0_joined 5 (some .long), Cond.methodLink RX0 128 Lib.MathLoose.max_long.x]
def wsX4_why_r5 : List Cond := [Cond.static Lib.MathLoose.max_long.x, Cond.code Lib.MathLoose.max_long.x Lib.MathLoose.max_long.code 4 (some .long), Cond.methodLink RX0 124 yX0_worstCounts, Cond.instanceMethod yX0_worstCounts, Cond.selects RX0 yX0_worstCounts yX0_worstCounts, Cond.code yX0_worstCounts cX0_worstCounts 1 (some .boolean), Cond.methodLink RX0 85 yX0_leastRest, Cond.instanceMethod yX0_leastRest, Cond.selects RX0 yX0_leastRest yX0_leastRest, Cond.code yX0_leastRest cX0_leastRest 4 (some .long), Cond.methodLink RX0 89 yX0_layLeast, Cond.instanceMethod yX0_layLeast, Cond.selects RX0 yX0_layLeast yX0_layLeast, Cond.code yX0_layLeast cX0_layLeast 6 none, Cond.fieldLink RX0 31 "StemDots$Fits" "leftDots" "[I", Cond.methodLink RX0 117 yX0_comesTo, Cond.instanceMethod yX0_comesTo, Cond.selects RX0 yX0_comesTo yX0_comesTo, Cond.code yX0_comesTo cX0_comesTo 6 (some .long), Cond.methodLink RX0 121 yX0_without, Cond.instanceMethod yX0_without, Cond.selects RX0 yX0_without yX0_without, Cond.code yX0_without cX0_without 5 (some .long), Cond.methodLink RX4 157 yX3_dotsOfStem]
def wsX4_why : List Cond := .code yX4_why cX4_why 4 (some .int) :: ((wsX4_why_r1 ++ (wsX4_why_r2 ++ (wsX4_why_r3 ++ (wsX4_why_r4 ++ wsX4_why_r5)))) ++ wsX40 ++ wsX00 ++ wsX10 ++ wsX30)
def wsX4_best_r1 : List Cond := [Cond.fieldLink RX4 43 "StemDots" "fits" "LStemDots$Fits;", Cond.fieldLink RX4 148 "StemDots$Fits" "least" "[J", Cond.methodLink RX4 132 yX4_isSize, Cond.static yX4_isSize, Cond.initialized RX4, Cond.code yX4_isSize cX4_isSize 1 (some .boolean), Cond.methodLink RX4 47 yX4_isWithin, Cond.static yX4_isWithin, Cond.code yX4_isWithin cX4_isWithin 3 (some .boolean), Cond.methodLink RX4 139 yX0_isAt, Cond.instanceMethod yX0_isAt, Cond.selects RX0 yX0_isAt yX0_isAt, Cond.initialized RX0, Cond.code yX0_isAt cX0_isAt 2 (some .boolean), Cond.fieldLink RX0 27 "StemDots$Fits" "known" "[Z", Cond.fieldLink RX0 23 "StemDots$Fits" "blamed" "[I", Cond.methodLink RX0 46 yX0_workOut, Cond.instanceMethod yX0_workOut, Cond.selects RX0 yX0_workOut yX0_workOut, Cond.code yX0_workOut cX0_workOut 2 none, Cond.fieldLink RX0 75 "StemDots$Fits" "workSize" "I", Cond.fieldLink RX0 19 "StemDots$Fits" "least" "[J", Cond.fieldLink RX0 15 "StemDots$Fits" "stems" "LStemDots$Stems;", Cond.fieldLink RX0 50 "StemDots$Stems" "many" "I"]
def wsX4_best_r2 : List Cond := [Cond.methodLink RX0 78 yX0_layLeftmost, Cond.instanceMethod yX0_layLeftmost, Cond.selects RX0 yX0_layLeftmost yX0_layLeftmost, Cond.code yX0_layLeftmost cX0_layLeftmost 3 (some .int), Cond.fieldLink RX0 92 "StemDots$Fits" "room" "I", Cond.fieldLink RX0 34 "StemDots$Fits" "dotsOf" "[I", Cond.fieldLink RX0 9 "StemDots$Fits" "letter" "LStemDots$Letter;", Cond.fieldLink RX0 66 "StemDots$Letter" "rules" "[I", Cond.fieldLink RX0 37 "StemDots$Fits" "leftmost" "[I", Cond.methodLink RX0 71 yX3_dotsOfStem, Cond.instanceMethod yX3_dotsOfStem, Cond.selects RX3 yX3_dotsOfStem yX3_dotsOfStem, Cond.initialized RX3, Cond.code yX3_dotsOfStem cX3_dotsOfStem 4 (some .int), Cond.fieldLink RX3 24 "StemDots$Stems" "group" "[I", Cond.methodLink RX3 69 yX3_dotsOfGroup, Cond.instanceMethod yX3_dotsOfGroup, Cond.selects RX3 yX3_dotsOfGroup yX3_dotsOfGroup, Cond.code yX3_dotsOfGroup cX3_dotsOfGroup 5 (some .int), Cond.methodLink RX3 63 Lib.Math.max.name, Cond.static Lib.Math.max.name, Cond.initialized "java/lang/Math", Cond.code Lib.Math.max.name Lib.Math.max.code 2 (some .int), Cond.methodLink RX3 59 yX3_standard]
def wsX4_best_r3 : List Cond := [Cond.instanceMethod yX3_standard, Cond.selects RX3 yX3_standard yX3_standard, Cond.code yX3_standard cX3_standard 2 (some .int), Cond.fieldLink RX3 27 "StemDots$Stems" "members" "[I", Cond.fieldLink RX3 33 "StemDots$Stems" "widths" "[I", Cond.methodLink RX0 82 yX0_weighRests, Cond.instanceMethod yX0_weighRests, Cond.selects RX0 yX0_weighRests yX0_weighRests, Cond.code yX0_weighRests cX0_weighRests 3 none, Cond.fieldLink RX0 40 "StemDots$Fits" "rest" "[J", Cond.methodLink RX0 95 yX0_weighGapsBehind, Cond.instanceMethod yX0_weighGapsBehind, Cond.selects RX0 yX0_weighGapsBehind yX0_weighGapsBehind, Cond.code yX0_weighGapsBehind cX0_weighGapsBehind 3 none, Cond.fieldLink RX0 43 "StemDots$Fits" "gapCosts" "[J", Cond.methodLink RX0 102 yX0_gapCost, Cond.instanceMethod yX0_gapCost, Cond.selects RX0 yX0_gapCost yX0_gapCost, Cond.code yX0_gapCost cX0_gapCost 5 (some .long), Cond.fieldLink RX0 56 "StemDots$Stems" "left" "[I", Cond.fieldLink RX0 63 "StemDots$Stems" "right" "[I", Cond.methodLink RX0 131 Lib.Math.abs.name, Cond.static Lib.Math.abs.name, Cond.code Lib.Math.abs.name Lib.Math.abs.code 1 (some .int)]
def wsX4_best_r4 : List Cond := [Cond.methodLink RX0 135 yX0_weighed, Cond.instanceMethod yX0_weighed, Cond.selects RX0 yX0_weighed yX0_weighed, Cond.code yX0_weighed cX0_weighed 5 (some .long), Cond.constantLong RX0 139 (1000), Cond.methodLink RX0 98 yX0_restAt, Cond.instanceMethod yX0_restAt, Cond.selects RX0 yX0_restAt yX0_restAt, Cond.code yX0_restAt cX0_restAt 8 (some .long), Cond.methodLink RX0 112 Lib.MathLoose.min_long.x, Cond.static Lib.MathLoose.min_long.x, Cond.code Lib.MathLoose.min_long.x Lib.MathLoose.min_long.code 4 (some .long), Cond.methodLink RX0 105 yX0_stemCost, Cond.instanceMethod yX0_stemCost, Cond.selects RX0 yX0_stemCost yX0_stemCost, Cond.code yX0_stemCost cX0_stemCost 5 (some .long), Cond.methodLink RX0 108 yX0_joined, Cond.instanceMethod yX0_joined, Cond.selects RX0 yX0_joined yX0_joined, Cond.code yX0_joined cX0_joined 5 (some .long), Cond.methodLink RX0 128 Lib.MathLoose.max_long.x, Cond.static Lib.MathLoose.max_long.x, Cond.code Lib.MathLoose.max_long.x Lib.MathLoose.max_long.code 4 (some .long), Cond.methodLink RX0 124 yX0_worstCounts]
def wsX4_best_r5 : List Cond := [Cond.instanceMethod yX0_worstCounts, Cond.selects RX0 yX0_worstCounts yX0_worstCounts, Cond.code yX0_worstCounts cX0_worstCounts 1 (some .boolean), Cond.methodLink RX0 85 yX0_leastRest, Cond.instanceMethod yX0_leastRest, Cond.selects RX0 yX0_leastRest yX0_leastRest, Cond.code yX0_leastRest cX0_leastRest 4 (some .long), Cond.methodLink RX0 89 yX0_layLeast, Cond.instanceMethod yX0_layLeast, Cond.selects RX0 yX0_layLeast yX0_layLeast, Cond.code yX0_layLeast cX0_layLeast 6 none, Cond.fieldLink RX0 31 "StemDots$Fits" "leftDots" "[I", Cond.methodLink RX0 117 yX0_comesTo, Cond.instanceMethod yX0_comesTo, Cond.selects RX0 yX0_comesTo yX0_comesTo, Cond.code yX0_comesTo cX0_comesTo 6 (some .long), Cond.methodLink RX0 121 yX0_without, Cond.instanceMethod yX0_without, Cond.selects RX0 yX0_without yX0_without, Cond.code yX0_without cX0_without 5 (some .long)]
def wsX4_best : List Cond := .code yX4_best cX4_best 8 (some .int) :: ((wsX4_best_r1 ++ (wsX4_best_r2 ++ (wsX4_best_r3 ++ (wsX4_best_r4 ++ wsX4_best_r5)))) ++ wsX40 ++ wsX00 ++ wsX30 ++ wsX10)
def wsX4_place_r1 : List Cond := [Cond.constant RX4 160 (-10000002), Cond.fieldLink RX4 43 "StemDots" "fits" "LStemDots$Fits;", Cond.constant RX4 164 (-10000003), Cond.methodLink RX4 132 yX4_isSize, Cond.static yX4_isSize, Cond.initialized RX4, Cond.code yX4_isSize cX4_isSize 1 (some .boolean), Cond.methodLink RX4 47 yX4_isWithin, Cond.static yX4_isWithin, Cond.code yX4_isWithin cX4_isWithin 3 (some .boolean), Cond.methodLink RX4 139 yX0_isAt, Cond.instanceMethod yX0_isAt, Cond.selects RX0 yX0_isAt yX0_isAt, Cond.initialized RX0, Cond.code yX0_isAt cX0_isAt 2 (some .boolean), Cond.fieldLink RX0 27 "StemDots$Fits" "known" "[Z", Cond.fieldLink RX0 23 "StemDots$Fits" "blamed" "[I", Cond.methodLink RX0 46 yX0_workOut, Cond.instanceMethod yX0_workOut, Cond.selects RX0 yX0_workOut yX0_workOut, Cond.code yX0_workOut cX0_workOut 2 none, Cond.fieldLink RX0 75 "StemDots$Fits" "workSize" "I", Cond.fieldLink RX0 19 "StemDots$Fits" "least" "[J", Cond.fieldLink RX0 15 "StemDots$Fits" "stems" "LStemDots$Stems;"]
def wsX4_place_r2 : List Cond := [Cond.fieldLink RX0 50 "StemDots$Stems" "many" "I", Cond.methodLink RX0 78 yX0_layLeftmost, Cond.instanceMethod yX0_layLeftmost, Cond.selects RX0 yX0_layLeftmost yX0_layLeftmost, Cond.code yX0_layLeftmost cX0_layLeftmost 3 (some .int), Cond.fieldLink RX0 92 "StemDots$Fits" "room" "I", Cond.fieldLink RX0 34 "StemDots$Fits" "dotsOf" "[I", Cond.fieldLink RX0 9 "StemDots$Fits" "letter" "LStemDots$Letter;", Cond.fieldLink RX0 66 "StemDots$Letter" "rules" "[I", Cond.fieldLink RX0 37 "StemDots$Fits" "leftmost" "[I", Cond.methodLink RX0 71 yX3_dotsOfStem, Cond.instanceMethod yX3_dotsOfStem, Cond.selects RX3 yX3_dotsOfStem yX3_dotsOfStem, Cond.initialized RX3, Cond.code yX3_dotsOfStem cX3_dotsOfStem 4 (some .int), Cond.fieldLink RX3 24 "StemDots$Stems" "group" "[I", Cond.methodLink RX3 69 yX3_dotsOfGroup, Cond.instanceMethod yX3_dotsOfGroup, Cond.selects RX3 yX3_dotsOfGroup yX3_dotsOfGroup, Cond.code yX3_dotsOfGroup cX3_dotsOfGroup 5 (some .int), Cond.methodLink RX3 63 Lib.Math.max.name, Cond.static Lib.Math.max.name, Cond.initialized "java/lang/Math", Cond.code Lib.Math.max.name Lib.Math.max.code 2 (some .int)]
def wsX4_place_r3 : List Cond := [Cond.methodLink RX3 59 yX3_standard, Cond.instanceMethod yX3_standard, Cond.selects RX3 yX3_standard yX3_standard, Cond.code yX3_standard cX3_standard 2 (some .int), Cond.fieldLink RX3 27 "StemDots$Stems" "members" "[I", Cond.fieldLink RX3 33 "StemDots$Stems" "widths" "[I", Cond.methodLink RX0 82 yX0_weighRests, Cond.instanceMethod yX0_weighRests, Cond.selects RX0 yX0_weighRests yX0_weighRests, Cond.code yX0_weighRests cX0_weighRests 3 none, Cond.fieldLink RX0 40 "StemDots$Fits" "rest" "[J", Cond.methodLink RX0 95 yX0_weighGapsBehind, Cond.instanceMethod yX0_weighGapsBehind, Cond.selects RX0 yX0_weighGapsBehind yX0_weighGapsBehind, Cond.code yX0_weighGapsBehind cX0_weighGapsBehind 3 none, Cond.fieldLink RX0 43 "StemDots$Fits" "gapCosts" "[J", Cond.methodLink RX0 102 yX0_gapCost, Cond.instanceMethod yX0_gapCost, Cond.selects RX0 yX0_gapCost yX0_gapCost, Cond.code yX0_gapCost cX0_gapCost 5 (some .long), Cond.fieldLink RX0 56 "StemDots$Stems" "left" "[I", Cond.fieldLink RX0 63 "StemDots$Stems" "right" "[I", Cond.methodLink RX0 131 Lib.Math.abs.name, Cond.static Lib.Math.abs.name]
def wsX4_place_r4 : List Cond := [Cond.code Lib.Math.abs.name Lib.Math.abs.code 1 (some .int), Cond.methodLink RX0 135 yX0_weighed, Cond.instanceMethod yX0_weighed, Cond.selects RX0 yX0_weighed yX0_weighed, Cond.code yX0_weighed cX0_weighed 5 (some .long), Cond.constantLong RX0 139 (1000), Cond.methodLink RX0 98 yX0_restAt, Cond.instanceMethod yX0_restAt, Cond.selects RX0 yX0_restAt yX0_restAt, Cond.code yX0_restAt cX0_restAt 8 (some .long), Cond.methodLink RX0 112 Lib.MathLoose.min_long.x, Cond.static Lib.MathLoose.min_long.x, Cond.code Lib.MathLoose.min_long.x Lib.MathLoose.min_long.code 4 (some .long), Cond.methodLink RX0 105 yX0_stemCost, Cond.instanceMethod yX0_stemCost, Cond.selects RX0 yX0_stemCost yX0_stemCost, Cond.code yX0_stemCost cX0_stemCost 5 (some .long), Cond.methodLink RX0 108 yX0_joined, Cond.instanceMethod yX0_joined, Cond.selects RX0 yX0_joined yX0_joined, Cond.code yX0_joined cX0_joined 5 (some .long), Cond.methodLink RX0 128 Lib.MathLoose.max_long.x, Cond.static Lib.MathLoose.max_long.x, Cond.code Lib.MathLoose.max_long.x Lib.MathLoose.max_long.code 4 (some .long)]
def wsX4_place_r5 : List Cond := [Cond.methodLink RX0 124 yX0_worstCounts, Cond.instanceMethod yX0_worstCounts, Cond.selects RX0 yX0_worstCounts yX0_worstCounts, Cond.code yX0_worstCounts cX0_worstCounts 1 (some .boolean), Cond.methodLink RX0 85 yX0_leastRest, Cond.instanceMethod yX0_leastRest, Cond.selects RX0 yX0_leastRest yX0_leastRest, Cond.code yX0_leastRest cX0_leastRest 4 (some .long), Cond.methodLink RX0 89 yX0_layLeast, Cond.instanceMethod yX0_layLeast, Cond.selects RX0 yX0_layLeast yX0_layLeast, Cond.code yX0_layLeast cX0_layLeast 6 none, Cond.fieldLink RX0 31 "StemDots$Fits" "leftDots" "[I", Cond.methodLink RX0 117 yX0_comesTo, Cond.instanceMethod yX0_comesTo, Cond.selects RX0 yX0_comesTo yX0_comesTo, Cond.code yX0_comesTo cX0_comesTo 6 (some .long), Cond.methodLink RX0 121 yX0_without, Cond.instanceMethod yX0_without, Cond.selects RX0 yX0_without yX0_without, Cond.code yX0_without cX0_without 5 (some .long), Cond.methodLink RX4 161 yX0_drawn, Cond.instanceMethod yX0_drawn, Cond.selects RX0 yX0_drawn yX0_drawn]
def wsX4_place_r6 : List Cond := [Cond.code yX0_drawn cX0_drawn 10 (some .int), Cond.methodLink RX0 59 yX0_leftDot, Cond.instanceMethod yX0_leftDot, Cond.selects RX0 yX0_leftDot yX0_leftDot, Cond.code yX0_leftDot cX0_leftDot 3 (some .int)]
def wsX4_place : List Cond := .code yX4_place cX4_place 3 (some .int) :: ((wsX4_place_r1 ++ (wsX4_place_r2 ++ (wsX4_place_r3 ++ (wsX4_place_r4 ++ (wsX4_place_r5 ++ wsX4_place_r6))))) ++ wsX40 ++ wsX00 ++ wsX30 ++ wsX10)
def wsX4_image : List Cond := .code yX4_image cX4_image 2 (some .int) :: ([.fieldLink RX4 23 "StemDots" "images" "[LStemDots$Letter;", .fieldLink RX4 19 "StemDots" "letter" "LStemDots$Letter;", .fieldLink RX4 27 "StemDots" "kept" "[Z", .methodLink RX4 47 yX4_isWithin, .static yX4_isWithin, .initialized RX4, .code yX4_isWithin cX4_isWithin 3 (some .boolean), .methodLink RX4 165 yX1_take, .instanceMethod yX1_take, .selects RX1 yX1_take yX1_take, .initialized RX1, .code yX1_take cX1_take 2 none, .fieldLink RX1 9 "StemDots$Letter" "up" "[I", .methodLink RX1 30 arraycopyName, .native arraycopyName, .static arraycopyName, .initialized "java/lang/System", .fieldLink RX1 15 "StemDots$Letter" "x" "[I", .fieldLink RX1 18 "StemDots$Letter" "low" "[I", .fieldLink RX1 21 "StemDots$Letter" "high" "[I", .fieldLink RX1 36 "StemDots$Letter" "edges" "I", .fieldLink RX1 24 "StemDots$Letter" "rules" "[I"] ++ wsX40 ++ wsX10)
def wsX4_restore_r1 : List Cond := [Cond.fieldLink RX4 27 "StemDots" "kept" "[Z", Cond.fieldLink RX4 19 "StemDots" "letter" "LStemDots$Letter;", Cond.fieldLink RX4 23 "StemDots" "images" "[LStemDots$Letter;", Cond.methodLink RX4 47 yX4_isWithin, Cond.static yX4_isWithin, Cond.initialized RX4, Cond.code yX4_isWithin cX4_isWithin 3 (some .boolean), Cond.methodLink RX4 165 yX1_take, Cond.instanceMethod yX1_take, Cond.selects RX1 yX1_take yX1_take, Cond.initialized RX1, Cond.code yX1_take cX1_take 2 none, Cond.fieldLink RX1 9 "StemDots$Letter" "up" "[I", Cond.methodLink RX1 30 arraycopyName, Cond.native arraycopyName, Cond.static arraycopyName, Cond.initialized "java/lang/System", Cond.fieldLink RX1 15 "StemDots$Letter" "x" "[I", Cond.fieldLink RX1 18 "StemDots$Letter" "low" "[I", Cond.fieldLink RX1 21 "StemDots$Letter" "high" "[I", Cond.fieldLink RX1 36 "StemDots$Letter" "edges" "I", Cond.fieldLink RX1 24 "StemDots$Letter" "rules" "[I", Cond.methodLink RX4 69 yX4_renew, Cond.instanceMethod yX4_renew]
def wsX4_restore_r2 : List Cond := [Cond.selects RX4 yX4_renew yX4_renew, Cond.code yX4_renew cX4_renew 1 none, Cond.fieldLink RX4 34 "StemDots" "stems" "LStemDots$Stems;", Cond.fieldLink RX4 43 "StemDots" "fits" "LStemDots$Fits;", Cond.methodLink RX4 169 yX3_find, Cond.instanceMethod yX3_find, Cond.selects RX3 yX3_find yX3_find, Cond.initialized RX3, Cond.code yX3_find cX3_find 4 none, Cond.fieldLink RX3 39 "StemDots$Stems" "many" "I", Cond.fieldLink RX3 50 "StemDots$Letter" "rules" "[I", Cond.methodLink RX3 43 yX3_addNarrowest, Cond.instanceMethod yX3_addNarrowest, Cond.selects RX3 yX3_addNarrowest yX3_addNarrowest, Cond.code yX3_addNarrowest cX3_addNarrowest 6 (some .boolean), Cond.fieldLink RX3 73 "StemDots$Letter" "edges" "I", Cond.fieldLink RX3 80 "StemDots$Letter" "x" "[I", Cond.methodLink RX3 76 yX1_canBeStem, Cond.instanceMethod yX1_canBeStem, Cond.selects RX1 yX1_canBeStem yX1_canBeStem, Cond.code yX1_canBeStem cX1_canBeStem 3 (some .boolean), Cond.methodLink RX1 53 Lib.Math.min.name, Cond.static Lib.Math.min.name, Cond.initialized "java/lang/Math"]
def wsX4_restore_r3 : List Cond := [Cond.code Lib.Math.min.name Lib.Math.min.code 2 (some .int), Cond.methodLink RX1 59 Lib.Math.max.name, Cond.static Lib.Math.max.name, Cond.code Lib.Math.max.name Lib.Math.max.code 2 (some .int), Cond.methodLink RX3 83 yX3_isFree, Cond.instanceMethod yX3_isFree, Cond.selects RX3 yX3_isFree yX3_isFree, Cond.code yX3_isFree cX3_isFree 4 (some .boolean), Cond.fieldLink RX3 9 "StemDots$Stems" "left" "[I", Cond.fieldLink RX3 15 "StemDots$Stems" "right" "[I", Cond.methodLink RX3 86 yX3_isSooner, Cond.static yX3_isSooner, Cond.code yX3_isSooner cX3_isSooner 6 (some .boolean), Cond.methodLink RX3 90 yX3_insert, Cond.instanceMethod yX3_insert, Cond.selects RX3 yX3_insert yX3_insert, Cond.code yX3_insert cX3_insert 6 none, Cond.fieldLink RX3 18 "StemDots$Stems" "upEdge" "[I", Cond.fieldLink RX3 21 "StemDots$Stems" "downEdge" "[I", Cond.methodLink RX3 47 yX3_sortByWidth, Cond.instanceMethod yX3_sortByWidth, Cond.selects RX3 yX3_sortByWidth yX3_sortByWidth, Cond.code yX3_sortByWidth cX3_sortByWidth 3 none, Cond.fieldLink RX3 36 "StemDots$Stems" "byWidth" "[I"]
def wsX4_restore_r4 : List Cond := [Cond.methodLink RX3 94 yX3_width, Cond.instanceMethod yX3_width, Cond.selects RX3 yX3_width yX3_width, Cond.code yX3_width cX3_width 2 (some .int), Cond.methodLink RX3 55 yX3_makeGroups, Cond.instanceMethod yX3_makeGroups, Cond.selects RX3 yX3_makeGroups yX3_makeGroups, Cond.code yX3_makeGroups cX3_makeGroups 4 none, Cond.fieldLink RX3 97 "StemDots$Stems" "groups" "I", Cond.fieldLink RX3 30 "StemDots$Stems" "leastWidth" "[I", Cond.fieldLink RX3 27 "StemDots$Stems" "members" "[I", Cond.fieldLink RX3 33 "StemDots$Stems" "widths" "[I", Cond.fieldLink RX3 24 "StemDots$Stems" "group" "[I", Cond.methodLink RX4 172 yX0_forget, Cond.instanceMethod yX0_forget, Cond.selects RX0 yX0_forget yX0_forget, Cond.initialized RX0, Cond.code yX0_forget cX0_forget 2 none, Cond.fieldLink RX0 27 "StemDots$Fits" "known" "[Z"]
def wsX4_restore : List Cond := .code yX4_restore cX4_restore 2 (some .int) :: ((wsX4_restore_r1 ++ (wsX4_restore_r2 ++ (wsX4_restore_r3 ++ wsX4_restore_r4))) ++ wsX40 ++ wsX10 ++ wsX30 ++ wsX00)
def wsX4_count : List Cond := .code yX4_count cX4_count 2 (some .int) :: ([.fieldLink RX4 10 "StemDots" "pad" "LStemDots$Pad;", .fieldLink RX4 55 "StemDots$Pad" "signs" "I", .fieldLink RX4 19 "StemDots" "letter" "LStemDots$Letter;", .fieldLink RX4 72 "StemDots$Letter" "edges" "I", .fieldLink RX4 34 "StemDots" "stems" "LStemDots$Stems;", .fieldLink RX4 102 "StemDots$Stems" "many" "I", .fieldLink RX4 120 "StemDots$Stems" "groups" "I", .fieldLink RX4 99 "StemDots$Letter" "rules" "[I", .methodLink RX4 47 yX4_isWithin, .static yX4_isWithin, .initialized RX4, .code yX4_isWithin cX4_isWithin 3 (some .boolean)] ++ wsX40 ++ wsX20 ++ wsX10 ++ wsX30)
def wsX5_init : List Cond := .code yX5_init cX5_init 1 none :: ([.methodLink RX5 1 objectInit, .instanceMethod objectInit, .code objectInit ⟨#[0xb1]⟩ 1 none, .arrayClass .int, .fieldLink RX5 7 "StemDotsModel" "edges" "[I", .fieldLink RX5 13 "StemDotsModel" "rules" "[I", .fieldLink RX5 16 "StemDotsModel" "pad" "[I", .fieldLink RX5 19 "StemDotsModel" "read" "[I", .fieldLink RX5 22 "StemDotsModel" "left" "[I", .fieldLink RX5 25 "StemDotsModel" "right" "[I", .fieldLink RX5 28 "StemDotsModel" "ups" "[I", .fieldLink RX5 31 "StemDotsModel" "downs" "[I", .fieldLink RX5 34 "StemDotsModel" "kinds" "[I", .fieldLink RX5 37 "StemDotsModel" "stemOf" "[I", .fieldLink RX5 40 "StemDotsModel" "count" "[I", .fieldLink RX5 43 "StemDotsModel" "least" "[I", .fieldLink RX5 46 "StemDotsModel" "sum" "[I", .arrayClass .long, .fieldLink RX5 49 "StemDotsModel" "from" "[J", .fieldLink RX5 53 "StemDotsModel" "dot" "[I", .fieldLink RX5 56 "StemDotsModel" "wide" "[I", .fieldLink RX5 59 "StemDotsModel" "image" "[I", .arrayClass .boolean, .fieldLink RX5 62 "StemDotsModel" "isKept" "[Z"] ++ wsX50)
def wsX5_in : List Cond := .code yX5_in cX5_in 3 (some .boolean) :: ([])
def wsX5_isFigure : List Cond := .code yX5_isFigure cX5_isFigure 1 (some .boolean) :: ([.methodLink RX5 66 yX5_in, .static yX5_in, .initialized RX5, .code yX5_in cX5_in 3 (some .boolean)])
def wsX5_say : List Cond := .code yX5_say cX5_say 2 (some .int) :: ([.fieldLink RX5 70 "StemDotsModel" "signs" "I", .fieldLink RX5 16 "StemDotsModel" "pad" "[I", .methodLink RX5 66 yX5_in, .static yX5_in, .initialized RX5, .code yX5_in cX5_in 3 (some .boolean)] ++ wsX50)
def wsX5_wipe : List Cond := .code yX5_wipe cX5_wipe 2 (some .int) :: ([.fieldLink RX5 70 "StemDotsModel" "signs" "I"] ++ wsX50)
def wsX5_faultOf : List Cond := .code yX5_faultOf cX5_faultOf 4 (some .int) :: ([.fieldLink RX5 70 "StemDotsModel" "signs" "I", .fieldLink RX5 16 "StemDotsModel" "pad" "[I", .fieldLink RX5 19 "StemDotsModel" "read" "[I", .methodLink RX5 74 yX5_isFigure, .static yX5_isFigure, .initialized RX5, .code yX5_isFigure cX5_isFigure 1 (some .boolean), .methodLink RX5 66 yX5_in, .static yX5_in, .code yX5_in cX5_in 3 (some .boolean)] ++ wsX50)
def wsX5_fault : List Cond := .code yX5_fault cX5_fault 1 (some .int) :: ([.methodLink RX5 78 yX5_faultOf, .instanceMethod yX5_faultOf, .selects RX5 yX5_faultOf yX5_faultOf, .initialized RX5, .code yX5_faultOf cX5_faultOf 4 (some .int), .fieldLink RX5 70 "StemDotsModel" "signs" "I", .fieldLink RX5 16 "StemDotsModel" "pad" "[I", .fieldLink RX5 19 "StemDotsModel" "read" "[I", .methodLink RX5 74 yX5_isFigure, .static yX5_isFigure, .code yX5_isFigure cX5_isFigure 1 (some .boolean), .methodLink RX5 66 yX5_in, .static yX5_in, .code yX5_in cX5_in 3 (some .boolean)] ++ wsX50)
def wsX5_edge : List Cond := .code yX5_edge cX5_edge 2 (some .int) :: ([.fieldLink RX5 82 "StemDotsModel" "many" "I", .fieldLink RX5 7 "StemDotsModel" "edges" "[I", .fieldLink RX5 19 "StemDotsModel" "read" "[I", .fieldLink RX5 70 "StemDotsModel" "signs" "I", .methodLink RX5 78 yX5_faultOf, .instanceMethod yX5_faultOf, .selects RX5 yX5_faultOf yX5_faultOf, .initialized RX5, .code yX5_faultOf cX5_faultOf 4 (some .int), .fieldLink RX5 16 "StemDotsModel" "pad" "[I", .methodLink RX5 74 yX5_isFigure, .static yX5_isFigure, .code yX5_isFigure cX5_isFigure 1 (some .boolean), .methodLink RX5 66 yX5_in, .static yX5_in, .code yX5_in cX5_in 3 (some .boolean)] ++ wsX50)
def wsX5_erase : List Cond := .code yX5_erase cX5_erase 3 (some .int) :: ([.fieldLink RX5 82 "StemDotsModel" "many" "I", .fieldLink RX5 7 "StemDotsModel" "edges" "[I", .methodLink RX5 66 yX5_in, .static yX5_in, .initialized RX5, .code yX5_in cX5_in 3 (some .boolean)] ++ wsX50)
def wsX5_rule : List Cond := .code yX5_rule cX5_rule 4 (some .int) :: ([.fieldLink RX5 13 "StemDotsModel" "rules" "[I", .methodLink RX5 66 yX5_in, .static yX5_in, .initialized RX5, .code yX5_in cX5_in 3 (some .boolean)] ++ wsX50)
def wsX5_x : List Cond := .code yX5_x cX5_x 2 (some .int) :: ([.fieldLink RX5 7 "StemDotsModel" "edges" "[I"] ++ wsX50)
def wsX5_canBe : List Cond := .code yX5_canBe cX5_canBe 6 (some .boolean) :: ([.fieldLink RX5 7 "StemDotsModel" "edges" "[I", .methodLink RX5 85 yX5_x, .instanceMethod yX5_x, .selects RX5 yX5_x yX5_x, .initialized RX5, .code yX5_x cX5_x 2 (some .int)] ++ wsX50)
def wsX5_isFree : List Cond := .code yX5_isFree cX5_isFree 5 (some .boolean) :: ([.fieldLink RX5 89 "StemDotsModel" "stems" "I", .fieldLink RX5 28 "StemDotsModel" "ups" "[I", .fieldLink RX5 31 "StemDotsModel" "downs" "[I", .fieldLink RX5 22 "StemDotsModel" "left" "[I", .fieldLink RX5 25 "StemDotsModel" "right" "[I", .methodLink RX5 85 yX5_x, .instanceMethod yX5_x, .selects RX5 yX5_x yX5_x, .initialized RX5, .code yX5_x cX5_x 2 (some .int), .fieldLink RX5 7 "StemDotsModel" "edges" "[I"] ++ wsX50)
def wsX5_width : List Cond := .code yX5_width cX5_width 2 (some .int) :: ([.fieldLink RX5 25 "StemDotsModel" "right" "[I", .fieldLink RX5 22 "StemDotsModel" "left" "[I"] ++ wsX50)
def wsX5_layKinds : List Cond := .code yX5_layKinds cX5_layKinds 4 none :: ([.fieldLink RX5 102 "StemDotsModel" "classes" "I", .fieldLink RX5 89 "StemDotsModel" "stems" "I", .fieldLink RX5 34 "StemDotsModel" "kinds" "[I", .fieldLink RX5 43 "StemDotsModel" "least" "[I", .fieldLink RX5 13 "StemDotsModel" "rules" "[I", .fieldLink RX5 40 "StemDotsModel" "count" "[I", .fieldLink RX5 46 "StemDotsModel" "sum" "[I", .methodLink RX5 105 yX5_width, .instanceMethod yX5_width, .selects RX5 yX5_width yX5_width, .initialized RX5, .code yX5_width cX5_width 2 (some .int), .fieldLink RX5 25 "StemDotsModel" "right" "[I", .fieldLink RX5 22 "StemDotsModel" "left" "[I"] ++ wsX50)
def wsX5_layStems_r1 : List Cond := [Cond.fieldLink RX5 89 "StemDotsModel" "stems" "I", Cond.fieldLink RX5 82 "StemDotsModel" "many" "I", Cond.fieldLink RX5 22 "StemDotsModel" "left" "[I", Cond.fieldLink RX5 25 "StemDotsModel" "right" "[I", Cond.fieldLink RX5 28 "StemDotsModel" "ups" "[I", Cond.fieldLink RX5 31 "StemDotsModel" "downs" "[I", Cond.fieldLink RX5 37 "StemDotsModel" "stemOf" "[I", Cond.methodLink RX5 92 yX5_canBe, Cond.instanceMethod yX5_canBe, Cond.selects RX5 yX5_canBe yX5_canBe, Cond.initialized RX5, Cond.code yX5_canBe cX5_canBe 6 (some .boolean), Cond.fieldLink RX5 7 "StemDotsModel" "edges" "[I", Cond.methodLink RX5 85 yX5_x, Cond.instanceMethod yX5_x, Cond.selects RX5 yX5_x yX5_x, Cond.code yX5_x cX5_x 2 (some .int), Cond.methodLink RX5 96 yX5_isFree, Cond.instanceMethod yX5_isFree, Cond.selects RX5 yX5_isFree yX5_isFree, Cond.code yX5_isFree cX5_isFree 5 (some .boolean), Cond.methodLink RX5 99 yX5_layKinds, Cond.instanceMethod yX5_layKinds, Cond.selects RX5 yX5_layKinds yX5_layKinds]
def wsX5_layStems_r2 : List Cond := [Cond.code yX5_layKinds cX5_layKinds 4 none, Cond.fieldLink RX5 102 "StemDotsModel" "classes" "I", Cond.fieldLink RX5 34 "StemDotsModel" "kinds" "[I", Cond.fieldLink RX5 43 "StemDotsModel" "least" "[I", Cond.fieldLink RX5 13 "StemDotsModel" "rules" "[I", Cond.fieldLink RX5 40 "StemDotsModel" "count" "[I", Cond.fieldLink RX5 46 "StemDotsModel" "sum" "[I", Cond.methodLink RX5 105 yX5_width, Cond.instanceMethod yX5_width, Cond.selects RX5 yX5_width yX5_width, Cond.code yX5_width cX5_width 2 (some .int)]
def wsX5_layStems : List Cond := .code yX5_layStems cX5_layStems 8 none :: ((wsX5_layStems_r1 ++ wsX5_layStems_r2) ++ wsX50)
def wsX5_told_r1 : List Cond := [Cond.fieldLink RX5 82 "StemDotsModel" "many" "I", Cond.fieldLink RX5 7 "StemDotsModel" "edges" "[I", Cond.fieldLink RX5 37 "StemDotsModel" "stemOf" "[I", Cond.methodLink RX5 66 yX5_in, Cond.static yX5_in, Cond.initialized RX5, Cond.code yX5_in cX5_in 3 (some .boolean), Cond.methodLink RX5 108 yX5_layStems, Cond.instanceMethod yX5_layStems, Cond.selects RX5 yX5_layStems yX5_layStems, Cond.code yX5_layStems cX5_layStems 8 none, Cond.fieldLink RX5 89 "StemDotsModel" "stems" "I", Cond.fieldLink RX5 22 "StemDotsModel" "left" "[I", Cond.fieldLink RX5 25 "StemDotsModel" "right" "[I", Cond.fieldLink RX5 28 "StemDotsModel" "ups" "[I", Cond.fieldLink RX5 31 "StemDotsModel" "downs" "[I", Cond.methodLink RX5 92 yX5_canBe, Cond.instanceMethod yX5_canBe, Cond.selects RX5 yX5_canBe yX5_canBe, Cond.code yX5_canBe cX5_canBe 6 (some .boolean), Cond.methodLink RX5 85 yX5_x, Cond.instanceMethod yX5_x, Cond.selects RX5 yX5_x yX5_x, Cond.code yX5_x cX5_x 2 (some .int)]
def wsX5_told_r2 : List Cond := [Cond.methodLink RX5 96 yX5_isFree, Cond.instanceMethod yX5_isFree, Cond.selects RX5 yX5_isFree yX5_isFree, Cond.code yX5_isFree cX5_isFree 5 (some .boolean), Cond.methodLink RX5 99 yX5_layKinds, Cond.instanceMethod yX5_layKinds, Cond.selects RX5 yX5_layKinds yX5_layKinds, Cond.code yX5_layKinds cX5_layKinds 4 none, Cond.fieldLink RX5 102 "StemDotsModel" "classes" "I", Cond.fieldLink RX5 34 "StemDotsModel" "kinds" "[I", Cond.fieldLink RX5 43 "StemDotsModel" "least" "[I", Cond.fieldLink RX5 13 "StemDotsModel" "rules" "[I", Cond.fieldLink RX5 40 "StemDotsModel" "count" "[I", Cond.fieldLink RX5 46 "StemDotsModel" "sum" "[I", Cond.methodLink RX5 105 yX5_width, Cond.instanceMethod yX5_width, Cond.selects RX5 yX5_width yX5_width, Cond.code yX5_width cX5_width 2 (some .int)]
def wsX5_told : List Cond := .code yX5_told cX5_told 3 (some .int) :: ((wsX5_told_r1 ++ wsX5_told_r2) ++ wsX50)
def wsX5_stem_r1 : List Cond := [Cond.fieldLink RX5 89 "StemDotsModel" "stems" "I", Cond.fieldLink RX5 22 "StemDotsModel" "left" "[I", Cond.fieldLink RX5 25 "StemDotsModel" "right" "[I", Cond.fieldLink RX5 28 "StemDotsModel" "ups" "[I", Cond.fieldLink RX5 31 "StemDotsModel" "downs" "[I", Cond.fieldLink RX5 34 "StemDotsModel" "kinds" "[I", Cond.methodLink RX5 108 yX5_layStems, Cond.instanceMethod yX5_layStems, Cond.selects RX5 yX5_layStems yX5_layStems, Cond.initialized RX5, Cond.code yX5_layStems cX5_layStems 8 none, Cond.fieldLink RX5 82 "StemDotsModel" "many" "I", Cond.fieldLink RX5 37 "StemDotsModel" "stemOf" "[I", Cond.methodLink RX5 92 yX5_canBe, Cond.instanceMethod yX5_canBe, Cond.selects RX5 yX5_canBe yX5_canBe, Cond.code yX5_canBe cX5_canBe 6 (some .boolean), Cond.fieldLink RX5 7 "StemDotsModel" "edges" "[I", Cond.methodLink RX5 85 yX5_x, Cond.instanceMethod yX5_x, Cond.selects RX5 yX5_x yX5_x, Cond.code yX5_x cX5_x 2 (some .int), Cond.methodLink RX5 96 yX5_isFree, Cond.instanceMethod yX5_isFree]
def wsX5_stem_r2 : List Cond := [Cond.selects RX5 yX5_isFree yX5_isFree, Cond.code yX5_isFree cX5_isFree 5 (some .boolean), Cond.methodLink RX5 99 yX5_layKinds, Cond.instanceMethod yX5_layKinds, Cond.selects RX5 yX5_layKinds yX5_layKinds, Cond.code yX5_layKinds cX5_layKinds 4 none, Cond.fieldLink RX5 102 "StemDotsModel" "classes" "I", Cond.fieldLink RX5 43 "StemDotsModel" "least" "[I", Cond.fieldLink RX5 13 "StemDotsModel" "rules" "[I", Cond.fieldLink RX5 40 "StemDotsModel" "count" "[I", Cond.fieldLink RX5 46 "StemDotsModel" "sum" "[I", Cond.methodLink RX5 105 yX5_width, Cond.instanceMethod yX5_width, Cond.selects RX5 yX5_width yX5_width, Cond.code yX5_width cX5_width 2 (some .int), Cond.methodLink RX5 66 yX5_in, Cond.static yX5_in, Cond.code yX5_in cX5_in 3 (some .boolean)]
def wsX5_stem : List Cond := .code yX5_stem cX5_stem 3 (some .int) :: ((wsX5_stem_r1 ++ wsX5_stem_r2) ++ wsX50)
def wsX5_kind_r1 : List Cond := [Cond.fieldLink RX5 102 "StemDotsModel" "classes" "I", Cond.fieldLink RX5 40 "StemDotsModel" "count" "[I", Cond.fieldLink RX5 43 "StemDotsModel" "least" "[I", Cond.fieldLink RX5 46 "StemDotsModel" "sum" "[I", Cond.methodLink RX5 108 yX5_layStems, Cond.instanceMethod yX5_layStems, Cond.selects RX5 yX5_layStems yX5_layStems, Cond.initialized RX5, Cond.code yX5_layStems cX5_layStems 8 none, Cond.fieldLink RX5 89 "StemDotsModel" "stems" "I", Cond.fieldLink RX5 82 "StemDotsModel" "many" "I", Cond.fieldLink RX5 22 "StemDotsModel" "left" "[I", Cond.fieldLink RX5 25 "StemDotsModel" "right" "[I", Cond.fieldLink RX5 28 "StemDotsModel" "ups" "[I", Cond.fieldLink RX5 31 "StemDotsModel" "downs" "[I", Cond.fieldLink RX5 37 "StemDotsModel" "stemOf" "[I", Cond.methodLink RX5 92 yX5_canBe, Cond.instanceMethod yX5_canBe, Cond.selects RX5 yX5_canBe yX5_canBe, Cond.code yX5_canBe cX5_canBe 6 (some .boolean), Cond.fieldLink RX5 7 "StemDotsModel" "edges" "[I", Cond.methodLink RX5 85 yX5_x, Cond.instanceMethod yX5_x, Cond.selects RX5 yX5_x yX5_x]
def wsX5_kind_r2 : List Cond := [Cond.code yX5_x cX5_x 2 (some .int), Cond.methodLink RX5 96 yX5_isFree, Cond.instanceMethod yX5_isFree, Cond.selects RX5 yX5_isFree yX5_isFree, Cond.code yX5_isFree cX5_isFree 5 (some .boolean), Cond.methodLink RX5 99 yX5_layKinds, Cond.instanceMethod yX5_layKinds, Cond.selects RX5 yX5_layKinds yX5_layKinds, Cond.code yX5_layKinds cX5_layKinds 4 none, Cond.fieldLink RX5 34 "StemDotsModel" "kinds" "[I", Cond.fieldLink RX5 13 "StemDotsModel" "rules" "[I", Cond.methodLink RX5 105 yX5_width, Cond.instanceMethod yX5_width, Cond.selects RX5 yX5_width yX5_width, Cond.code yX5_width cX5_width 2 (some .int), Cond.methodLink RX5 66 yX5_in, Cond.static yX5_in, Cond.code yX5_in cX5_in 3 (some .boolean)]
def wsX5_kind : List Cond := .code yX5_kind cX5_kind 3 (some .int) :: ((wsX5_kind_r1 ++ wsX5_kind_r2) ++ wsX50)
def wsX5_dotsOf : List Cond := .code yX5_dotsOf cX5_dotsOf 4 (some .int) :: ([.fieldLink RX5 46 "StemDotsModel" "sum" "[I", .fieldLink RX5 40 "StemDotsModel" "count" "[I", .fieldLink RX5 13 "StemDotsModel" "rules" "[I"] ++ wsX50)
def wsX5_dots_r1 : List Cond := [Cond.fieldLink RX5 102 "StemDotsModel" "classes" "I", Cond.methodLink RX5 108 yX5_layStems, Cond.instanceMethod yX5_layStems, Cond.selects RX5 yX5_layStems yX5_layStems, Cond.initialized RX5, Cond.code yX5_layStems cX5_layStems 8 none, Cond.fieldLink RX5 89 "StemDotsModel" "stems" "I", Cond.fieldLink RX5 82 "StemDotsModel" "many" "I", Cond.fieldLink RX5 22 "StemDotsModel" "left" "[I", Cond.fieldLink RX5 25 "StemDotsModel" "right" "[I", Cond.fieldLink RX5 28 "StemDotsModel" "ups" "[I", Cond.fieldLink RX5 31 "StemDotsModel" "downs" "[I", Cond.fieldLink RX5 37 "StemDotsModel" "stemOf" "[I", Cond.methodLink RX5 92 yX5_canBe, Cond.instanceMethod yX5_canBe, Cond.selects RX5 yX5_canBe yX5_canBe, Cond.code yX5_canBe cX5_canBe 6 (some .boolean), Cond.fieldLink RX5 7 "StemDotsModel" "edges" "[I", Cond.methodLink RX5 85 yX5_x, Cond.instanceMethod yX5_x, Cond.selects RX5 yX5_x yX5_x, Cond.code yX5_x cX5_x 2 (some .int), Cond.methodLink RX5 96 yX5_isFree, Cond.instanceMethod yX5_isFree]
def wsX5_dots_r2 : List Cond := [Cond.selects RX5 yX5_isFree yX5_isFree, Cond.code yX5_isFree cX5_isFree 5 (some .boolean), Cond.methodLink RX5 99 yX5_layKinds, Cond.instanceMethod yX5_layKinds, Cond.selects RX5 yX5_layKinds yX5_layKinds, Cond.code yX5_layKinds cX5_layKinds 4 none, Cond.fieldLink RX5 34 "StemDotsModel" "kinds" "[I", Cond.fieldLink RX5 43 "StemDotsModel" "least" "[I", Cond.fieldLink RX5 13 "StemDotsModel" "rules" "[I", Cond.fieldLink RX5 40 "StemDotsModel" "count" "[I", Cond.fieldLink RX5 46 "StemDotsModel" "sum" "[I", Cond.methodLink RX5 105 yX5_width, Cond.instanceMethod yX5_width, Cond.selects RX5 yX5_width yX5_width, Cond.code yX5_width cX5_width 2 (some .int), Cond.methodLink RX5 66 yX5_in, Cond.static yX5_in, Cond.code yX5_in cX5_in 3 (some .boolean), Cond.methodLink RX5 111 yX5_dotsOf, Cond.instanceMethod yX5_dotsOf, Cond.selects RX5 yX5_dotsOf yX5_dotsOf, Cond.code yX5_dotsOf cX5_dotsOf 4 (some .int)]
def wsX5_dots : List Cond := .code yX5_dots cX5_dots 3 (some .int) :: ((wsX5_dots_r1 ++ wsX5_dots_r2) ++ wsX50)
def wsX5_grows_r1 : List Cond := [Cond.fieldLink RX5 102 "StemDotsModel" "classes" "I", Cond.methodLink RX5 108 yX5_layStems, Cond.instanceMethod yX5_layStems, Cond.selects RX5 yX5_layStems yX5_layStems, Cond.initialized RX5, Cond.code yX5_layStems cX5_layStems 8 none, Cond.fieldLink RX5 89 "StemDotsModel" "stems" "I", Cond.fieldLink RX5 82 "StemDotsModel" "many" "I", Cond.fieldLink RX5 22 "StemDotsModel" "left" "[I", Cond.fieldLink RX5 25 "StemDotsModel" "right" "[I", Cond.fieldLink RX5 28 "StemDotsModel" "ups" "[I", Cond.fieldLink RX5 31 "StemDotsModel" "downs" "[I", Cond.fieldLink RX5 37 "StemDotsModel" "stemOf" "[I", Cond.methodLink RX5 92 yX5_canBe, Cond.instanceMethod yX5_canBe, Cond.selects RX5 yX5_canBe yX5_canBe, Cond.code yX5_canBe cX5_canBe 6 (some .boolean), Cond.fieldLink RX5 7 "StemDotsModel" "edges" "[I", Cond.methodLink RX5 85 yX5_x, Cond.instanceMethod yX5_x, Cond.selects RX5 yX5_x yX5_x, Cond.code yX5_x cX5_x 2 (some .int), Cond.methodLink RX5 96 yX5_isFree, Cond.instanceMethod yX5_isFree]
def wsX5_grows_r2 : List Cond := [Cond.selects RX5 yX5_isFree yX5_isFree, Cond.code yX5_isFree cX5_isFree 5 (some .boolean), Cond.methodLink RX5 99 yX5_layKinds, Cond.instanceMethod yX5_layKinds, Cond.selects RX5 yX5_layKinds yX5_layKinds, Cond.code yX5_layKinds cX5_layKinds 4 none, Cond.fieldLink RX5 34 "StemDotsModel" "kinds" "[I", Cond.fieldLink RX5 43 "StemDotsModel" "least" "[I", Cond.fieldLink RX5 13 "StemDotsModel" "rules" "[I", Cond.fieldLink RX5 40 "StemDotsModel" "count" "[I", Cond.fieldLink RX5 46 "StemDotsModel" "sum" "[I", Cond.methodLink RX5 105 yX5_width, Cond.instanceMethod yX5_width, Cond.selects RX5 yX5_width yX5_width, Cond.code yX5_width cX5_width 2 (some .int), Cond.methodLink RX5 66 yX5_in, Cond.static yX5_in, Cond.code yX5_in cX5_in 3 (some .boolean), Cond.methodLink RX5 111 yX5_dotsOf, Cond.instanceMethod yX5_dotsOf, Cond.selects RX5 yX5_dotsOf yX5_dotsOf, Cond.code yX5_dotsOf cX5_dotsOf 4 (some .int)]
def wsX5_grows : List Cond := .code yX5_grows cX5_grows 4 (some .int) :: ((wsX5_grows_r1 ++ wsX5_grows_r2) ++ wsX50)
def wsX5_counted : List Cond := .code yX5_counted cX5_counted 4 (some .long) :: ([.fieldLink RX5 13 "StemDotsModel" "rules" "[I", .constantLong RX5 115 (1000)] ++ wsX50)
def wsX5_both : List Cond := .code yX5_both cX5_both 5 (some .long) :: ([.fieldLink RX5 13 "StemDotsModel" "rules" "[I"] ++ wsX50)
def wsX5_stemDrift : List Cond := .code yX5_stemDrift cX5_stemDrift 6 (some .long) :: ([.constantLong RX5 115 (1000), .fieldLink RX5 56 "StemDotsModel" "wide" "[I", .fieldLink RX5 22 "StemDotsModel" "left" "[I", .fieldLink RX5 25 "StemDotsModel" "right" "[I", .fieldLink RX5 13 "StemDotsModel" "rules" "[I", .methodLink RX5 117 yX5_counted, .instanceMethod yX5_counted, .selects RX5 yX5_counted yX5_counted, .initialized RX5, .code yX5_counted cX5_counted 4 (some .long)] ++ wsX50)
def wsX5_gapDrift : List Cond := .code yX5_gapDrift cX5_gapDrift 7 (some .long) :: ([.constantLong RX5 115 (1000), .fieldLink RX5 56 "StemDotsModel" "wide" "[I", .fieldLink RX5 22 "StemDotsModel" "left" "[I", .fieldLink RX5 25 "StemDotsModel" "right" "[I", .constantLong RX5 121 (-2), .constantLong RX5 123 (2), .fieldLink RX5 13 "StemDotsModel" "rules" "[I", .methodLink RX5 117 yX5_counted, .instanceMethod yX5_counted, .selects RX5 yX5_counted yX5_counted, .initialized RX5, .code yX5_counted cX5_counted 4 (some .long)] ++ wsX50)
def wsX5_layFit_r1 : List Cond := [Cond.fieldLink RX5 89 "StemDotsModel" "stems" "I", Cond.fieldLink RX5 56 "StemDotsModel" "wide" "[I", Cond.fieldLink RX5 34 "StemDotsModel" "kinds" "[I", Cond.fieldLink RX5 125 "StemDotsModel" "whole" "J", Cond.constantLong RX5 129 (1000000000000000), Cond.fieldLink RX5 49 "StemDotsModel" "from" "[J", Cond.fieldLink RX5 53 "StemDotsModel" "dot" "[I", Cond.methodLink RX5 108 yX5_layStems, Cond.instanceMethod yX5_layStems, Cond.selects RX5 yX5_layStems yX5_layStems, Cond.initialized RX5, Cond.code yX5_layStems cX5_layStems 8 none, Cond.fieldLink RX5 82 "StemDotsModel" "many" "I", Cond.fieldLink RX5 22 "StemDotsModel" "left" "[I", Cond.fieldLink RX5 25 "StemDotsModel" "right" "[I", Cond.fieldLink RX5 28 "StemDotsModel" "ups" "[I", Cond.fieldLink RX5 31 "StemDotsModel" "downs" "[I", Cond.fieldLink RX5 37 "StemDotsModel" "stemOf" "[I", Cond.methodLink RX5 92 yX5_canBe, Cond.instanceMethod yX5_canBe, Cond.selects RX5 yX5_canBe yX5_canBe, Cond.code yX5_canBe cX5_canBe 6 (some .boolean), Cond.fieldLink RX5 7 "StemDotsModel" "edges" "[I", Cond.methodLink RX5 85 yX5_x]
def wsX5_layFit_r2 : List Cond := [Cond.instanceMethod yX5_x, Cond.selects RX5 yX5_x yX5_x, Cond.code yX5_x cX5_x 2 (some .int), Cond.methodLink RX5 96 yX5_isFree, Cond.instanceMethod yX5_isFree, Cond.selects RX5 yX5_isFree yX5_isFree, Cond.code yX5_isFree cX5_isFree 5 (some .boolean), Cond.methodLink RX5 99 yX5_layKinds, Cond.instanceMethod yX5_layKinds, Cond.selects RX5 yX5_layKinds yX5_layKinds, Cond.code yX5_layKinds cX5_layKinds 4 none, Cond.fieldLink RX5 102 "StemDotsModel" "classes" "I", Cond.fieldLink RX5 43 "StemDotsModel" "least" "[I", Cond.fieldLink RX5 13 "StemDotsModel" "rules" "[I", Cond.fieldLink RX5 40 "StemDotsModel" "count" "[I", Cond.fieldLink RX5 46 "StemDotsModel" "sum" "[I", Cond.methodLink RX5 105 yX5_width, Cond.instanceMethod yX5_width, Cond.selects RX5 yX5_width yX5_width, Cond.code yX5_width cX5_width 2 (some .int), Cond.methodLink RX5 111 yX5_dotsOf, Cond.instanceMethod yX5_dotsOf, Cond.selects RX5 yX5_dotsOf yX5_dotsOf, Cond.code yX5_dotsOf cX5_dotsOf 4 (some .int)]
def wsX5_layFit_r3 : List Cond := [Cond.methodLink RX5 131 yX5_gapDrift, Cond.instanceMethod yX5_gapDrift, Cond.selects RX5 yX5_gapDrift yX5_gapDrift, Cond.code yX5_gapDrift cX5_gapDrift 7 (some .long), Cond.constantLong RX5 115 (1000), Cond.constantLong RX5 121 (-2), Cond.constantLong RX5 123 (2), Cond.methodLink RX5 117 yX5_counted, Cond.instanceMethod yX5_counted, Cond.selects RX5 yX5_counted yX5_counted, Cond.code yX5_counted cX5_counted 4 (some .long), Cond.methodLink RX5 135 yX5_both, Cond.instanceMethod yX5_both, Cond.selects RX5 yX5_both yX5_both, Cond.code yX5_both cX5_both 5 (some .long), Cond.methodLink RX5 139 yX5_stemDrift, Cond.instanceMethod yX5_stemDrift, Cond.selects RX5 yX5_stemDrift yX5_stemDrift, Cond.code yX5_stemDrift cX5_stemDrift 6 (some .long)]
def wsX5_layFit : List Cond := .code yX5_layFit cX5_layFit 10 (some .boolean) :: ((wsX5_layFit_r1 ++ (wsX5_layFit_r2 ++ wsX5_layFit_r3)) ++ wsX50)
def wsX5_fit_r1 : List Cond := [Cond.fieldLink RX5 89 "StemDotsModel" "stems" "I", Cond.fieldLink RX5 53 "StemDotsModel" "dot" "[I", Cond.methodLink RX5 108 yX5_layStems, Cond.instanceMethod yX5_layStems, Cond.selects RX5 yX5_layStems yX5_layStems, Cond.initialized RX5, Cond.code yX5_layStems cX5_layStems 8 none, Cond.fieldLink RX5 82 "StemDotsModel" "many" "I", Cond.fieldLink RX5 22 "StemDotsModel" "left" "[I", Cond.fieldLink RX5 25 "StemDotsModel" "right" "[I", Cond.fieldLink RX5 28 "StemDotsModel" "ups" "[I", Cond.fieldLink RX5 31 "StemDotsModel" "downs" "[I", Cond.fieldLink RX5 37 "StemDotsModel" "stemOf" "[I", Cond.methodLink RX5 92 yX5_canBe, Cond.instanceMethod yX5_canBe, Cond.selects RX5 yX5_canBe yX5_canBe, Cond.code yX5_canBe cX5_canBe 6 (some .boolean), Cond.fieldLink RX5 7 "StemDotsModel" "edges" "[I", Cond.methodLink RX5 85 yX5_x, Cond.instanceMethod yX5_x, Cond.selects RX5 yX5_x yX5_x, Cond.code yX5_x cX5_x 2 (some .int), Cond.methodLink RX5 96 yX5_isFree, Cond.instanceMethod yX5_isFree]
def wsX5_fit_r2 : List Cond := [Cond.selects RX5 yX5_isFree yX5_isFree, Cond.code yX5_isFree cX5_isFree 5 (some .boolean), Cond.methodLink RX5 99 yX5_layKinds, Cond.instanceMethod yX5_layKinds, Cond.selects RX5 yX5_layKinds yX5_layKinds, Cond.code yX5_layKinds cX5_layKinds 4 none, Cond.fieldLink RX5 102 "StemDotsModel" "classes" "I", Cond.fieldLink RX5 34 "StemDotsModel" "kinds" "[I", Cond.fieldLink RX5 43 "StemDotsModel" "least" "[I", Cond.fieldLink RX5 13 "StemDotsModel" "rules" "[I", Cond.fieldLink RX5 40 "StemDotsModel" "count" "[I", Cond.fieldLink RX5 46 "StemDotsModel" "sum" "[I", Cond.methodLink RX5 105 yX5_width, Cond.instanceMethod yX5_width, Cond.selects RX5 yX5_width yX5_width, Cond.code yX5_width cX5_width 2 (some .int), Cond.methodLink RX5 66 yX5_in, Cond.static yX5_in, Cond.code yX5_in cX5_in 3 (some .boolean), Cond.methodLink RX5 143 yX5_layFit, Cond.instanceMethod yX5_layFit, Cond.selects RX5 yX5_layFit yX5_layFit, Cond.code yX5_layFit cX5_layFit 10 (some .boolean), Cond.fieldLink RX5 56 "StemDotsModel" "wide" "[I"]
def wsX5_fit_r3 : List Cond := [Cond.fieldLink RX5 125 "StemDotsModel" "whole" "J", Cond.constantLong RX5 129 (1000000000000000), Cond.fieldLink RX5 49 "StemDotsModel" "from" "[J", Cond.methodLink RX5 111 yX5_dotsOf, Cond.instanceMethod yX5_dotsOf, Cond.selects RX5 yX5_dotsOf yX5_dotsOf, Cond.code yX5_dotsOf cX5_dotsOf 4 (some .int), Cond.methodLink RX5 131 yX5_gapDrift, Cond.instanceMethod yX5_gapDrift, Cond.selects RX5 yX5_gapDrift yX5_gapDrift, Cond.code yX5_gapDrift cX5_gapDrift 7 (some .long), Cond.constantLong RX5 115 (1000), Cond.constantLong RX5 121 (-2), Cond.constantLong RX5 123 (2), Cond.methodLink RX5 117 yX5_counted, Cond.instanceMethod yX5_counted, Cond.selects RX5 yX5_counted yX5_counted, Cond.code yX5_counted cX5_counted 4 (some .long), Cond.methodLink RX5 135 yX5_both, Cond.instanceMethod yX5_both, Cond.selects RX5 yX5_both yX5_both, Cond.code yX5_both cX5_both 5 (some .long), Cond.methodLink RX5 139 yX5_stemDrift, Cond.instanceMethod yX5_stemDrift]
def wsX5_fit_r4 : List Cond := [Cond.selects RX5 yX5_stemDrift yX5_stemDrift, Cond.code yX5_stemDrift cX5_stemDrift 6 (some .long)]
def wsX5_fit : List Cond := .code yX5_fit cX5_fit 3 (some .int) :: ((wsX5_fit_r1 ++ (wsX5_fit_r2 ++ (wsX5_fit_r3 ++ wsX5_fit_r4))) ++ wsX50)
def wsX5_distortion_r1 : List Cond := [Cond.constantLong RX5 121 (-2), Cond.fieldLink RX5 125 "StemDotsModel" "whole" "J", Cond.constantLong RX5 146 (-3), Cond.methodLink RX5 66 yX5_in, Cond.static yX5_in, Cond.initialized RX5, Cond.code yX5_in cX5_in 3 (some .boolean), Cond.methodLink RX5 143 yX5_layFit, Cond.instanceMethod yX5_layFit, Cond.selects RX5 yX5_layFit yX5_layFit, Cond.code yX5_layFit cX5_layFit 10 (some .boolean), Cond.fieldLink RX5 89 "StemDotsModel" "stems" "I", Cond.fieldLink RX5 56 "StemDotsModel" "wide" "[I", Cond.fieldLink RX5 34 "StemDotsModel" "kinds" "[I", Cond.constantLong RX5 129 (1000000000000000), Cond.fieldLink RX5 49 "StemDotsModel" "from" "[J", Cond.fieldLink RX5 53 "StemDotsModel" "dot" "[I", Cond.methodLink RX5 108 yX5_layStems, Cond.instanceMethod yX5_layStems, Cond.selects RX5 yX5_layStems yX5_layStems, Cond.code yX5_layStems cX5_layStems 8 none, Cond.fieldLink RX5 82 "StemDotsModel" "many" "I", Cond.fieldLink RX5 22 "StemDotsModel" "left" "[I", Cond.fieldLink RX5 25 "StemDotsModel" "right" "[I"]
def wsX5_distortion_r2 : List Cond := [Cond.fieldLink RX5 28 "StemDotsModel" "ups" "[I", Cond.fieldLink RX5 31 "StemDotsModel" "downs" "[I", Cond.fieldLink RX5 37 "StemDotsModel" "stemOf" "[I", Cond.methodLink RX5 92 yX5_canBe, Cond.instanceMethod yX5_canBe, Cond.selects RX5 yX5_canBe yX5_canBe, Cond.code yX5_canBe cX5_canBe 6 (some .boolean), Cond.fieldLink RX5 7 "StemDotsModel" "edges" "[I", Cond.methodLink RX5 85 yX5_x, Cond.instanceMethod yX5_x, Cond.selects RX5 yX5_x yX5_x, Cond.code yX5_x cX5_x 2 (some .int), Cond.methodLink RX5 96 yX5_isFree, Cond.instanceMethod yX5_isFree, Cond.selects RX5 yX5_isFree yX5_isFree, Cond.code yX5_isFree cX5_isFree 5 (some .boolean), Cond.methodLink RX5 99 yX5_layKinds, Cond.instanceMethod yX5_layKinds, Cond.selects RX5 yX5_layKinds yX5_layKinds, Cond.code yX5_layKinds cX5_layKinds 4 none, Cond.fieldLink RX5 102 "StemDotsModel" "classes" "I", Cond.fieldLink RX5 43 "StemDotsModel" "least" "[I", Cond.fieldLink RX5 13 "StemDotsModel" "rules" "[I", Cond.fieldLink RX5 40 "StemDotsModel" "count" "[I"]
def wsX5_distortion_r3 : List Cond := [Cond.fieldLink RX5 46 "StemDotsModel" "sum" "[I", Cond.methodLink RX5 105 yX5_width, Cond.instanceMethod yX5_width, Cond.selects RX5 yX5_width yX5_width, Cond.code yX5_width cX5_width 2 (some .int), Cond.methodLink RX5 111 yX5_dotsOf, Cond.instanceMethod yX5_dotsOf, Cond.selects RX5 yX5_dotsOf yX5_dotsOf, Cond.code yX5_dotsOf cX5_dotsOf 4 (some .int), Cond.methodLink RX5 131 yX5_gapDrift, Cond.instanceMethod yX5_gapDrift, Cond.selects RX5 yX5_gapDrift yX5_gapDrift, Cond.code yX5_gapDrift cX5_gapDrift 7 (some .long), Cond.constantLong RX5 115 (1000), Cond.constantLong RX5 123 (2), Cond.methodLink RX5 117 yX5_counted, Cond.instanceMethod yX5_counted, Cond.selects RX5 yX5_counted yX5_counted, Cond.code yX5_counted cX5_counted 4 (some .long), Cond.methodLink RX5 135 yX5_both, Cond.instanceMethod yX5_both, Cond.selects RX5 yX5_both yX5_both, Cond.code yX5_both cX5_both 5 (some .long), Cond.methodLink RX5 139 yX5_stemDrift]
def wsX5_distortion_r4 : List Cond := [Cond.instanceMethod yX5_stemDrift, Cond.selects RX5 yX5_stemDrift yX5_stemDrift, Cond.code yX5_stemDrift cX5_stemDrift 6 (some .long)]
def wsX5_distortion : List Cond := .code yX5_distortion cX5_distortion 2 (some .long) :: ((wsX5_distortion_r1 ++ (wsX5_distortion_r2 ++ (wsX5_distortion_r3 ++ wsX5_distortion_r4))) ++ wsX50)
def wsX5_why_r1 : List Cond := [Cond.fieldLink RX5 89 "StemDotsModel" "stems" "I", Cond.fieldLink RX5 34 "StemDotsModel" "kinds" "[I", Cond.methodLink RX5 66 yX5_in, Cond.static yX5_in, Cond.initialized RX5, Cond.code yX5_in cX5_in 3 (some .boolean), Cond.methodLink RX5 108 yX5_layStems, Cond.instanceMethod yX5_layStems, Cond.selects RX5 yX5_layStems yX5_layStems, Cond.code yX5_layStems cX5_layStems 8 none, Cond.fieldLink RX5 82 "StemDotsModel" "many" "I", Cond.fieldLink RX5 22 "StemDotsModel" "left" "[I", Cond.fieldLink RX5 25 "StemDotsModel" "right" "[I", Cond.fieldLink RX5 28 "StemDotsModel" "ups" "[I", Cond.fieldLink RX5 31 "StemDotsModel" "downs" "[I", Cond.fieldLink RX5 37 "StemDotsModel" "stemOf" "[I", Cond.methodLink RX5 92 yX5_canBe, Cond.instanceMethod yX5_canBe, Cond.selects RX5 yX5_canBe yX5_canBe, Cond.code yX5_canBe cX5_canBe 6 (some .boolean), Cond.fieldLink RX5 7 "StemDotsModel" "edges" "[I", Cond.methodLink RX5 85 yX5_x, Cond.instanceMethod yX5_x, Cond.selects RX5 yX5_x yX5_x]
def wsX5_why_r2 : List Cond := [Cond.code yX5_x cX5_x 2 (some .int), Cond.methodLink RX5 96 yX5_isFree, Cond.instanceMethod yX5_isFree, Cond.selects RX5 yX5_isFree yX5_isFree, Cond.code yX5_isFree cX5_isFree 5 (some .boolean), Cond.methodLink RX5 99 yX5_layKinds, Cond.instanceMethod yX5_layKinds, Cond.selects RX5 yX5_layKinds yX5_layKinds, Cond.code yX5_layKinds cX5_layKinds 4 none, Cond.fieldLink RX5 102 "StemDotsModel" "classes" "I", Cond.fieldLink RX5 43 "StemDotsModel" "least" "[I", Cond.fieldLink RX5 13 "StemDotsModel" "rules" "[I", Cond.fieldLink RX5 40 "StemDotsModel" "count" "[I", Cond.fieldLink RX5 46 "StemDotsModel" "sum" "[I", Cond.methodLink RX5 105 yX5_width, Cond.instanceMethod yX5_width, Cond.selects RX5 yX5_width yX5_width, Cond.code yX5_width cX5_width 2 (some .int), Cond.methodLink RX5 111 yX5_dotsOf, Cond.instanceMethod yX5_dotsOf, Cond.selects RX5 yX5_dotsOf yX5_dotsOf, Cond.code yX5_dotsOf cX5_dotsOf 4 (some .int)]
def wsX5_why : List Cond := .code yX5_why cX5_why 6 (some .int) :: ((wsX5_why_r1 ++ wsX5_why_r2) ++ wsX50)
def wsX5_best_r1 : List Cond := [Cond.fieldLink RX5 125 "StemDotsModel" "whole" "J", Cond.methodLink RX5 66 yX5_in, Cond.static yX5_in, Cond.initialized RX5, Cond.code yX5_in cX5_in 3 (some .boolean), Cond.methodLink RX5 143 yX5_layFit, Cond.instanceMethod yX5_layFit, Cond.selects RX5 yX5_layFit yX5_layFit, Cond.code yX5_layFit cX5_layFit 10 (some .boolean), Cond.fieldLink RX5 89 "StemDotsModel" "stems" "I", Cond.fieldLink RX5 56 "StemDotsModel" "wide" "[I", Cond.fieldLink RX5 34 "StemDotsModel" "kinds" "[I", Cond.constantLong RX5 129 (1000000000000000), Cond.fieldLink RX5 49 "StemDotsModel" "from" "[J", Cond.fieldLink RX5 53 "StemDotsModel" "dot" "[I", Cond.methodLink RX5 108 yX5_layStems, Cond.instanceMethod yX5_layStems, Cond.selects RX5 yX5_layStems yX5_layStems, Cond.code yX5_layStems cX5_layStems 8 none, Cond.fieldLink RX5 82 "StemDotsModel" "many" "I", Cond.fieldLink RX5 22 "StemDotsModel" "left" "[I", Cond.fieldLink RX5 25 "StemDotsModel" "right" "[I", Cond.fieldLink RX5 28 "StemDotsModel" "ups" "[I", Cond.fieldLink RX5 31 "StemDotsModel" "downs" "[I"]
def wsX5_best_r2 : List Cond := [Cond.fieldLink RX5 37 "StemDotsModel" "stemOf" "[I", Cond.methodLink RX5 92 yX5_canBe, Cond.instanceMethod yX5_canBe, Cond.selects RX5 yX5_canBe yX5_canBe, Cond.code yX5_canBe cX5_canBe 6 (some .boolean), Cond.fieldLink RX5 7 "StemDotsModel" "edges" "[I", Cond.methodLink RX5 85 yX5_x, Cond.instanceMethod yX5_x, Cond.selects RX5 yX5_x yX5_x, Cond.code yX5_x cX5_x 2 (some .int), Cond.methodLink RX5 96 yX5_isFree, Cond.instanceMethod yX5_isFree, Cond.selects RX5 yX5_isFree yX5_isFree, Cond.code yX5_isFree cX5_isFree 5 (some .boolean), Cond.methodLink RX5 99 yX5_layKinds, Cond.instanceMethod yX5_layKinds, Cond.selects RX5 yX5_layKinds yX5_layKinds, Cond.code yX5_layKinds cX5_layKinds 4 none, Cond.fieldLink RX5 102 "StemDotsModel" "classes" "I", Cond.fieldLink RX5 43 "StemDotsModel" "least" "[I", Cond.fieldLink RX5 13 "StemDotsModel" "rules" "[I", Cond.fieldLink RX5 40 "StemDotsModel" "count" "[I", Cond.fieldLink RX5 46 "StemDotsModel" "sum" "[I", Cond.methodLink RX5 105 yX5_width]
def wsX5_best_r3 : List Cond := [Cond.instanceMethod yX5_width, Cond.selects RX5 yX5_width yX5_width, Cond.code yX5_width cX5_width 2 (some .int), Cond.methodLink RX5 111 yX5_dotsOf, Cond.instanceMethod yX5_dotsOf, Cond.selects RX5 yX5_dotsOf yX5_dotsOf, Cond.code yX5_dotsOf cX5_dotsOf 4 (some .int), Cond.methodLink RX5 131 yX5_gapDrift, Cond.instanceMethod yX5_gapDrift, Cond.selects RX5 yX5_gapDrift yX5_gapDrift, Cond.code yX5_gapDrift cX5_gapDrift 7 (some .long), Cond.constantLong RX5 115 (1000), Cond.constantLong RX5 121 (-2), Cond.constantLong RX5 123 (2), Cond.methodLink RX5 117 yX5_counted, Cond.instanceMethod yX5_counted, Cond.selects RX5 yX5_counted yX5_counted, Cond.code yX5_counted cX5_counted 4 (some .long), Cond.methodLink RX5 135 yX5_both, Cond.instanceMethod yX5_both, Cond.selects RX5 yX5_both yX5_both, Cond.code yX5_both cX5_both 5 (some .long), Cond.methodLink RX5 139 yX5_stemDrift, Cond.instanceMethod yX5_stemDrift]
def wsX5_best_r4 : List Cond := [Cond.selects RX5 yX5_stemDrift yX5_stemDrift, Cond.code yX5_stemDrift cX5_stemDrift 6 (some .long)]
def wsX5_best : List Cond := .code yX5_best cX5_best 6 (some .int) :: ((wsX5_best_r1 ++ (wsX5_best_r2 ++ (wsX5_best_r3 ++ wsX5_best_r4))) ++ wsX50)
def wsX5_place_r1 : List Cond := [Cond.constant RX5 148 (-10000002), Cond.constant RX5 149 (-10000003), Cond.fieldLink RX5 89 "StemDotsModel" "stems" "I", Cond.fieldLink RX5 22 "StemDotsModel" "left" "[I", Cond.fieldLink RX5 53 "StemDotsModel" "dot" "[I", Cond.fieldLink RX5 56 "StemDotsModel" "wide" "[I", Cond.fieldLink RX5 25 "StemDotsModel" "right" "[I", Cond.methodLink RX5 66 yX5_in, Cond.static yX5_in, Cond.initialized RX5, Cond.code yX5_in cX5_in 3 (some .boolean), Cond.methodLink RX5 143 yX5_layFit, Cond.instanceMethod yX5_layFit, Cond.selects RX5 yX5_layFit yX5_layFit, Cond.code yX5_layFit cX5_layFit 10 (some .boolean), Cond.fieldLink RX5 34 "StemDotsModel" "kinds" "[I", Cond.fieldLink RX5 125 "StemDotsModel" "whole" "J", Cond.constantLong RX5 129 (1000000000000000), Cond.fieldLink RX5 49 "StemDotsModel" "from" "[J", Cond.methodLink RX5 108 yX5_layStems, Cond.instanceMethod yX5_layStems, Cond.selects RX5 yX5_layStems yX5_layStems, Cond.code yX5_layStems cX5_layStems 8 none, Cond.fieldLink RX5 82 "StemDotsModel" "many" "I"]
def wsX5_place_r2 : List Cond := [Cond.fieldLink RX5 28 "StemDotsModel" "ups" "[I", Cond.fieldLink RX5 31 "StemDotsModel" "downs" "[I", Cond.fieldLink RX5 37 "StemDotsModel" "stemOf" "[I", Cond.methodLink RX5 92 yX5_canBe, Cond.instanceMethod yX5_canBe, Cond.selects RX5 yX5_canBe yX5_canBe, Cond.code yX5_canBe cX5_canBe 6 (some .boolean), Cond.fieldLink RX5 7 "StemDotsModel" "edges" "[I", Cond.methodLink RX5 85 yX5_x, Cond.instanceMethod yX5_x, Cond.selects RX5 yX5_x yX5_x, Cond.code yX5_x cX5_x 2 (some .int), Cond.methodLink RX5 96 yX5_isFree, Cond.instanceMethod yX5_isFree, Cond.selects RX5 yX5_isFree yX5_isFree, Cond.code yX5_isFree cX5_isFree 5 (some .boolean), Cond.methodLink RX5 99 yX5_layKinds, Cond.instanceMethod yX5_layKinds, Cond.selects RX5 yX5_layKinds yX5_layKinds, Cond.code yX5_layKinds cX5_layKinds 4 none, Cond.fieldLink RX5 102 "StemDotsModel" "classes" "I", Cond.fieldLink RX5 43 "StemDotsModel" "least" "[I", Cond.fieldLink RX5 13 "StemDotsModel" "rules" "[I", Cond.fieldLink RX5 40 "StemDotsModel" "count" "[I"]
def wsX5_place_r3 : List Cond := [Cond.fieldLink RX5 46 "StemDotsModel" "sum" "[I", Cond.methodLink RX5 105 yX5_width, Cond.instanceMethod yX5_width, Cond.selects RX5 yX5_width yX5_width, Cond.code yX5_width cX5_width 2 (some .int), Cond.methodLink RX5 111 yX5_dotsOf, Cond.instanceMethod yX5_dotsOf, Cond.selects RX5 yX5_dotsOf yX5_dotsOf, Cond.code yX5_dotsOf cX5_dotsOf 4 (some .int), Cond.methodLink RX5 131 yX5_gapDrift, Cond.instanceMethod yX5_gapDrift, Cond.selects RX5 yX5_gapDrift yX5_gapDrift, Cond.code yX5_gapDrift cX5_gapDrift 7 (some .long), Cond.constantLong RX5 115 (1000), Cond.constantLong RX5 121 (-2), Cond.constantLong RX5 123 (2), Cond.methodLink RX5 117 yX5_counted, Cond.instanceMethod yX5_counted, Cond.selects RX5 yX5_counted yX5_counted, Cond.code yX5_counted cX5_counted 4 (some .long), Cond.methodLink RX5 135 yX5_both, Cond.instanceMethod yX5_both, Cond.selects RX5 yX5_both yX5_both, Cond.code yX5_both cX5_both 5 (some .long)]
def wsX5_place_r4 : List Cond := [Cond.methodLink RX5 139 yX5_stemDrift, Cond.instanceMethod yX5_stemDrift, Cond.selects RX5 yX5_stemDrift yX5_stemDrift, Cond.code yX5_stemDrift cX5_stemDrift 6 (some .long)]
def wsX5_place : List Cond := .code yX5_place cX5_place 6 (some .int) :: ((wsX5_place_r1 ++ (wsX5_place_r2 ++ (wsX5_place_r3 ++ wsX5_place_r4))) ++ wsX50)
def wsX5_image : List Cond := .code yX5_image cX5_image 3 (some .int) :: ([.fieldLink RX5 59 "StemDotsModel" "image" "[I", .fieldLink RX5 7 "StemDotsModel" "edges" "[I", .fieldLink RX5 13 "StemDotsModel" "rules" "[I", .fieldLink RX5 82 "StemDotsModel" "many" "I", .fieldLink RX5 62 "StemDotsModel" "isKept" "[Z", .methodLink RX5 66 yX5_in, .static yX5_in, .initialized RX5, .code yX5_in cX5_in 3 (some .boolean)] ++ wsX50)
def wsX5_restore : List Cond := .code yX5_restore cX5_restore 3 (some .int) :: ([.fieldLink RX5 62 "StemDotsModel" "isKept" "[Z", .fieldLink RX5 7 "StemDotsModel" "edges" "[I", .fieldLink RX5 59 "StemDotsModel" "image" "[I", .fieldLink RX5 13 "StemDotsModel" "rules" "[I", .fieldLink RX5 82 "StemDotsModel" "many" "I", .methodLink RX5 66 yX5_in, .static yX5_in, .initialized RX5, .code yX5_in cX5_in 3 (some .boolean)] ++ wsX50)
def wsX5_count_r1 : List Cond := [Cond.fieldLink RX5 70 "StemDotsModel" "signs" "I", Cond.fieldLink RX5 82 "StemDotsModel" "many" "I", Cond.fieldLink RX5 89 "StemDotsModel" "stems" "I", Cond.fieldLink RX5 102 "StemDotsModel" "classes" "I", Cond.fieldLink RX5 13 "StemDotsModel" "rules" "[I", Cond.methodLink RX5 108 yX5_layStems, Cond.instanceMethod yX5_layStems, Cond.selects RX5 yX5_layStems yX5_layStems, Cond.initialized RX5, Cond.code yX5_layStems cX5_layStems 8 none, Cond.fieldLink RX5 22 "StemDotsModel" "left" "[I", Cond.fieldLink RX5 25 "StemDotsModel" "right" "[I", Cond.fieldLink RX5 28 "StemDotsModel" "ups" "[I", Cond.fieldLink RX5 31 "StemDotsModel" "downs" "[I", Cond.fieldLink RX5 37 "StemDotsModel" "stemOf" "[I", Cond.methodLink RX5 92 yX5_canBe, Cond.instanceMethod yX5_canBe, Cond.selects RX5 yX5_canBe yX5_canBe, Cond.code yX5_canBe cX5_canBe 6 (some .boolean), Cond.fieldLink RX5 7 "StemDotsModel" "edges" "[I", Cond.methodLink RX5 85 yX5_x, Cond.instanceMethod yX5_x, Cond.selects RX5 yX5_x yX5_x, Cond.code yX5_x cX5_x 2 (some .int)]
def wsX5_count_r2 : List Cond := [Cond.methodLink RX5 96 yX5_isFree, Cond.instanceMethod yX5_isFree, Cond.selects RX5 yX5_isFree yX5_isFree, Cond.code yX5_isFree cX5_isFree 5 (some .boolean), Cond.methodLink RX5 99 yX5_layKinds, Cond.instanceMethod yX5_layKinds, Cond.selects RX5 yX5_layKinds yX5_layKinds, Cond.code yX5_layKinds cX5_layKinds 4 none, Cond.fieldLink RX5 34 "StemDotsModel" "kinds" "[I", Cond.fieldLink RX5 43 "StemDotsModel" "least" "[I", Cond.fieldLink RX5 40 "StemDotsModel" "count" "[I", Cond.fieldLink RX5 46 "StemDotsModel" "sum" "[I", Cond.methodLink RX5 105 yX5_width, Cond.instanceMethod yX5_width, Cond.selects RX5 yX5_width yX5_width, Cond.code yX5_width cX5_width 2 (some .int), Cond.methodLink RX5 66 yX5_in, Cond.static yX5_in, Cond.code yX5_in cX5_in 3 (some .boolean)]
def wsX5_count : List Cond := .code yX5_count cX5_count 2 (some .int) :: ((wsX5_count_r1 ++ wsX5_count_r2) ++ wsX50)
def wsJ9_abs_0f7a4 : List Cond := .code yJ9_abs_0f7a4 cJ9_abs_0f7a4 1 (some .int) :: ([])
def wsJ9_max_7cf53 : List Cond := .code yJ9_max_7cf53 cJ9_max_7cf53 2 (some .int) :: ([])
def wsJ9_max_f86c9 : List Cond := .code yJ9_max_f86c9 cJ9_max_f86c9 4 (some .long) :: ([])
def wsJ9_min_7cf53 : List Cond := .code yJ9_min_7cf53 cJ9_min_7cf53 2 (some .int) :: ([])
def wsJ9_min_f86c9 : List Cond := .code yJ9_min_f86c9 cJ9_min_f86c9 4 (some .long) :: ([])
def wsL_law_r1 : List Cond := [Cond.classLink RL 7 RX4, Cond.instantiable RX4 6, Cond.initialized RX4, Cond.classLink RL 10 RX5, Cond.instantiable RX5 23, Cond.initialized RX5, Cond.methodLink RL 9 yX4_init, Cond.instanceMethod yX4_init, Cond.code yX4_init cX4_init 2 none, Cond.methodLink RX4 1 objectInit, Cond.instanceMethod objectInit, Cond.code objectInit ⟨#[0xb1]⟩ 1 none, Cond.classLink RX4 7 RX2, Cond.instantiable RX2 3, Cond.initialized RX2, Cond.fieldLink RX4 10 "StemDots" "pad" "LStemDots$Pad;", Cond.classLink RX4 16 RX1, Cond.instantiable RX1 6, Cond.initialized RX1, Cond.fieldLink RX4 19 "StemDots" "letter" "LStemDots$Letter;", Cond.fieldLink RX4 23 "StemDots" "images" "[LStemDots$Letter;", Cond.arrayClass .boolean, Cond.fieldLink RX4 27 "StemDots" "kept" "[Z", Cond.classLink RX4 31 RX3]
def wsL_law_r2 : List Cond := [Cond.instantiable RX3 11, Cond.initialized RX3, Cond.fieldLink RX4 34 "StemDots" "stems" "LStemDots$Stems;", Cond.classLink RX4 38 RX0, Cond.instantiable RX0 12, Cond.initialized RX0, Cond.fieldLink RX4 43 "StemDots" "fits" "LStemDots$Fits;", Cond.methodLink RX4 9 yX2_init, Cond.instanceMethod yX2_init, Cond.code yX2_init cX2_init 1 none, Cond.methodLink RX2 3 objectInit, Cond.arrayClass .int, Cond.fieldLink RX2 9 "StemDots$Pad" "row" "[I", Cond.fieldLink RX2 15 "StemDots$Pad" "numbers" "[I", Cond.methodLink RX4 18 yX1_init, Cond.instanceMethod yX1_init, Cond.code yX1_init cX1_init 1 none, Cond.methodLink RX1 3 objectInit, Cond.fieldLink RX1 9 "StemDots$Letter" "up" "[I", Cond.fieldLink RX1 15 "StemDots$Letter" "x" "[I", Cond.fieldLink RX1 18 "StemDots$Letter" "low" "[I", Cond.fieldLink RX1 21 "StemDots$Letter" "high" "[I", Cond.fieldLink RX1 24 "StemDots$Letter" "rules" "[I", Cond.methodLink RX1 30 arraycopyName]
def wsL_law_r3 : List Cond := [Cond.native arraycopyName, Cond.static arraycopyName, Cond.initialized "java/lang/System", Cond.methodLink RX4 33 yX3_init, Cond.instanceMethod yX3_init, Cond.code yX3_init cX3_init 1 none, Cond.methodLink RX3 3 objectInit, Cond.fieldLink RX3 9 "StemDots$Stems" "left" "[I", Cond.fieldLink RX3 15 "StemDots$Stems" "right" "[I", Cond.fieldLink RX3 18 "StemDots$Stems" "upEdge" "[I", Cond.fieldLink RX3 21 "StemDots$Stems" "downEdge" "[I", Cond.fieldLink RX3 24 "StemDots$Stems" "group" "[I", Cond.fieldLink RX3 27 "StemDots$Stems" "members" "[I", Cond.fieldLink RX3 30 "StemDots$Stems" "leastWidth" "[I", Cond.fieldLink RX3 33 "StemDots$Stems" "widths" "[I", Cond.fieldLink RX3 36 "StemDots$Stems" "byWidth" "[I", Cond.methodLink RX4 40 yX0_init, Cond.instanceMethod yX0_init, Cond.code yX0_init cX0_init 3 none, Cond.methodLink RX0 3 objectInit, Cond.fieldLink RX0 9 "StemDots$Fits" "letter" "LStemDots$Letter;", Cond.fieldLink RX0 15 "StemDots$Fits" "stems" "LStemDots$Stems;", Cond.arrayClass .long, Cond.fieldLink RX0 19 "StemDots$Fits" "least" "[J"]
def wsL_law_r4 : List Cond := [Cond.fieldLink RX0 23 "StemDots$Fits" "blamed" "[I", Cond.fieldLink RX0 27 "StemDots$Fits" "known" "[Z", Cond.fieldLink RX0 31 "StemDots$Fits" "leftDots" "[I", Cond.fieldLink RX0 34 "StemDots$Fits" "dotsOf" "[I", Cond.fieldLink RX0 37 "StemDots$Fits" "leftmost" "[I", Cond.fieldLink RX0 40 "StemDots$Fits" "rest" "[J", Cond.fieldLink RX0 43 "StemDots$Fits" "gapCosts" "[J", Cond.methodLink RL 12 yX5_init, Cond.instanceMethod yX5_init, Cond.code yX5_init cX5_init 1 none, Cond.methodLink RX5 1 objectInit, Cond.fieldLink RX5 7 "StemDotsModel" "edges" "[I", Cond.fieldLink RX5 13 "StemDotsModel" "rules" "[I", Cond.fieldLink RX5 16 "StemDotsModel" "pad" "[I", Cond.fieldLink RX5 19 "StemDotsModel" "read" "[I", Cond.fieldLink RX5 22 "StemDotsModel" "left" "[I", Cond.fieldLink RX5 25 "StemDotsModel" "right" "[I", Cond.fieldLink RX5 28 "StemDotsModel" "ups" "[I", Cond.fieldLink RX5 31 "StemDotsModel" "downs" "[I", Cond.fieldLink RX5 34 "StemDotsModel" "kinds" "[I", Cond.fieldLink RX5 37 "StemDotsModel" "stemOf" "[I", Cond.fieldLink RX5 40 "StemDotsModel" "count" "[I", Cond.fieldLink RX5 43 "StemDotsModel" "least" "[I", Cond.fieldLink RX5 46 "StemDotsModel" "sum" "[I"]
def wsL_law_r5 : List Cond := [Cond.fieldLink RX5 49 "StemDotsModel" "from" "[J", Cond.fieldLink RX5 53 "StemDotsModel" "dot" "[I", Cond.fieldLink RX5 56 "StemDotsModel" "wide" "[I", Cond.fieldLink RX5 59 "StemDotsModel" "image" "[I", Cond.fieldLink RX5 62 "StemDotsModel" "isKept" "[Z", Cond.methodLink RL 13 yX4_say, Cond.instanceMethod yX4_say, Cond.selects RX4 yX4_say yX4_say, Cond.code yX4_say cX4_say 2 (some .int), Cond.fieldLink RX4 55 "StemDots$Pad" "signs" "I", Cond.methodLink RX4 47 yX4_isWithin, Cond.static yX4_isWithin, Cond.code yX4_isWithin cX4_isWithin 3 (some .boolean), Cond.methodLink RX4 51 yX2_add, Cond.instanceMethod yX2_add, Cond.selects RX2 yX2_add yX2_add, Cond.code yX2_add cX2_add 2 (some .boolean), Cond.fieldLink RX2 18 "StemDots$Pad" "signs" "I", Cond.methodLink RL 17 yX5_say, Cond.instanceMethod yX5_say, Cond.selects RX5 yX5_say yX5_say, Cond.code yX5_say cX5_say 2 (some .int), Cond.fieldLink RX5 70 "StemDotsModel" "signs" "I", Cond.methodLink RX5 66 yX5_in]
def wsL_law_r6 : List Cond := [Cond.static yX5_in, Cond.code yX5_in cX5_in 3 (some .boolean), Cond.methodLink RL 18 yX4_wipe, Cond.instanceMethod yX4_wipe, Cond.selects RX4 yX4_wipe yX4_wipe, Cond.code yX4_wipe cX4_wipe 2 (some .int), Cond.methodLink RX4 59 yX2_clear, Cond.instanceMethod yX2_clear, Cond.selects RX2 yX2_clear yX2_clear, Cond.code yX2_clear cX2_clear 1 none, Cond.methodLink RL 22 yX5_wipe, Cond.instanceMethod yX5_wipe, Cond.selects RX5 yX5_wipe yX5_wipe, Cond.code yX5_wipe cX5_wipe 2 (some .int), Cond.methodLink RL 23 yX4_fault, Cond.instanceMethod yX4_fault, Cond.selects RX4 yX4_fault yX4_fault, Cond.code yX4_fault cX4_fault 1 (some .int), Cond.methodLink RX4 62 yX2_read, Cond.instanceMethod yX2_read, Cond.selects RX2 yX2_read yX2_read, Cond.code yX2_read cX2_read 4 (some .int), Cond.fieldLink RX2 30 "StemDots$Pad" "BEHIND_NUMBER" "[C", Cond.methodLink RX2 22 yX2_isSign]
def wsL_law_r7 : List Cond := [Cond.instanceMethod yX2_isSign, Cond.selects RX2 yX2_isSign yX2_isSign, Cond.code yX2_isSign cX2_isSign 3 (some .boolean), Cond.methodLink RX2 26 yX2_readNumber, Cond.instanceMethod yX2_readNumber, Cond.selects RX2 yX2_readNumber yX2_readNumber, Cond.code yX2_readNumber cX2_readNumber 5 (some .int), Cond.methodLink RX2 34 yX2_isFigure, Cond.instanceMethod yX2_isFigure, Cond.selects RX2 yX2_isFigure yX2_isFigure, Cond.code yX2_isFigure cX2_isFigure 2 (some .boolean), Cond.methodLink RL 26 yX5_fault, Cond.instanceMethod yX5_fault, Cond.selects RX5 yX5_fault yX5_fault, Cond.code yX5_fault cX5_fault 1 (some .int), Cond.methodLink RX5 78 yX5_faultOf, Cond.instanceMethod yX5_faultOf, Cond.selects RX5 yX5_faultOf yX5_faultOf, Cond.code yX5_faultOf cX5_faultOf 4 (some .int), Cond.methodLink RX5 74 yX5_isFigure, Cond.static yX5_isFigure, Cond.code yX5_isFigure cX5_isFigure 1 (some .boolean), Cond.methodLink RL 27 yX4_edge, Cond.instanceMethod yX4_edge]
def wsL_law_r8 : List Cond := [Cond.selects RX4 yX4_edge yX4_edge, Cond.code yX4_edge cX4_edge 1 (some .int), Cond.fieldLink RX4 72 "StemDots$Letter" "edges" "I", Cond.methodLink RX4 66 yX1_add, Cond.instanceMethod yX1_add, Cond.selects RX1 yX1_add yX1_add, Cond.code yX1_add cX1_add 2 (some .boolean), Cond.fieldLink RX1 36 "StemDots$Letter" "edges" "I", Cond.fieldLink RX1 46 "StemDots$Pad" "numbers" "[I", Cond.methodLink RX4 69 yX4_renew, Cond.instanceMethod yX4_renew, Cond.selects RX4 yX4_renew yX4_renew, Cond.code yX4_renew cX4_renew 1 none, Cond.methodLink RX4 169 yX3_find, Cond.instanceMethod yX3_find, Cond.selects RX3 yX3_find yX3_find, Cond.code yX3_find cX3_find 4 none, Cond.fieldLink RX3 39 "StemDots$Stems" "many" "I", Cond.fieldLink RX3 50 "StemDots$Letter" "rules" "[I", Cond.methodLink RX3 43 yX3_addNarrowest, Cond.instanceMethod yX3_addNarrowest, Cond.selects RX3 yX3_addNarrowest yX3_addNarrowest, Cond.code yX3_addNarrowest cX3_addNarrowest 6 (some .boolean), Cond.fieldLink RX3 73 "StemDots$Letter" "edges" "I"]
def wsL_law_r9 : List Cond := [Cond.fieldLink RX3 80 "StemDots$Letter" "x" "[I", Cond.methodLink RX3 76 yX1_canBeStem, Cond.instanceMethod yX1_canBeStem, Cond.selects RX1 yX1_canBeStem yX1_canBeStem, Cond.code yX1_canBeStem cX1_canBeStem 3 (some .boolean), Cond.methodLink RX1 53 Lib.Math.min.name, Cond.static Lib.Math.min.name, Cond.initialized "java/lang/Math", Cond.code Lib.Math.min.name Lib.Math.min.code 2 (some .int), Cond.methodLink RX1 59 Lib.Math.max.name, Cond.static Lib.Math.max.name, Cond.code Lib.Math.max.name Lib.Math.max.code 2 (some .int), Cond.methodLink RX3 83 yX3_isFree, Cond.instanceMethod yX3_isFree, Cond.selects RX3 yX3_isFree yX3_isFree, Cond.code yX3_isFree cX3_isFree 4 (some .boolean), Cond.methodLink RX3 86 yX3_isSooner, Cond.static yX3_isSooner, Cond.code yX3_isSooner cX3_isSooner 6 (some .boolean), Cond.methodLink RX3 90 yX3_insert, Cond.instanceMethod yX3_insert, Cond.selects RX3 yX3_insert yX3_insert, Cond.code yX3_insert cX3_insert 6 none, Cond.methodLink RX3 47 yX3_sortByWidth]
def wsL_law_r10 : List Cond := [Cond.instanceMethod yX3_sortByWidth, Cond.selects RX3 yX3_sortByWidth yX3_sortByWidth, Cond.code yX3_sortByWidth cX3_sortByWidth 3 none, Cond.methodLink RX3 94 yX3_width, Cond.instanceMethod yX3_width, Cond.selects RX3 yX3_width yX3_width, Cond.code yX3_width cX3_width 2 (some .int), Cond.methodLink RX3 55 yX3_makeGroups, Cond.instanceMethod yX3_makeGroups, Cond.selects RX3 yX3_makeGroups yX3_makeGroups, Cond.code yX3_makeGroups cX3_makeGroups 4 none, Cond.fieldLink RX3 97 "StemDots$Stems" "groups" "I", Cond.methodLink RX4 172 yX0_forget, Cond.instanceMethod yX0_forget, Cond.selects RX0 yX0_forget yX0_forget, Cond.code yX0_forget cX0_forget 2 none, Cond.methodLink RL 30 yX5_edge, Cond.instanceMethod yX5_edge, Cond.selects RX5 yX5_edge yX5_edge, Cond.code yX5_edge cX5_edge 2 (some .int), Cond.fieldLink RX5 82 "StemDotsModel" "many" "I", Cond.methodLink RL 31 yX4_erase, Cond.instanceMethod yX4_erase, Cond.selects RX4 yX4_erase yX4_erase]
def wsL_law_r11 : List Cond := [Cond.code yX4_erase cX4_erase 2 (some .int), Cond.methodLink RX4 75 yX1_remove, Cond.instanceMethod yX1_remove, Cond.selects RX1 yX1_remove yX1_remove, Cond.code yX1_remove cX1_remove 3 none, Cond.methodLink RL 34 yX5_erase, Cond.instanceMethod yX5_erase, Cond.selects RX5 yX5_erase yX5_erase, Cond.code yX5_erase cX5_erase 3 (some .int), Cond.methodLink RL 35 yX4_told, Cond.instanceMethod yX4_told, Cond.selects RX4 yX4_told yX4_told, Cond.code yX4_told cX4_told 3 (some .int), Cond.fieldLink RX4 79 "StemDots$Letter" "up" "[I", Cond.fieldLink RX4 83 "StemDots$Letter" "x" "[I", Cond.fieldLink RX4 86 "StemDots$Letter" "low" "[I", Cond.fieldLink RX4 89 "StemDots$Letter" "high" "[I", Cond.methodLink RX4 92 yX3_withEdge, Cond.instanceMethod yX3_withEdge, Cond.selects RX3 yX3_withEdge yX3_withEdge, Cond.code yX3_withEdge cX3_withEdge 3 (some .int), Cond.methodLink RL 39 yX5_told, Cond.instanceMethod yX5_told, Cond.selects RX5 yX5_told yX5_told]
def wsL_law_r12 : List Cond := [Cond.code yX5_told cX5_told 3 (some .int), Cond.methodLink RX5 108 yX5_layStems, Cond.instanceMethod yX5_layStems, Cond.selects RX5 yX5_layStems yX5_layStems, Cond.code yX5_layStems cX5_layStems 8 none, Cond.fieldLink RX5 89 "StemDotsModel" "stems" "I", Cond.methodLink RX5 92 yX5_canBe, Cond.instanceMethod yX5_canBe, Cond.selects RX5 yX5_canBe yX5_canBe, Cond.code yX5_canBe cX5_canBe 6 (some .boolean), Cond.methodLink RX5 85 yX5_x, Cond.instanceMethod yX5_x, Cond.selects RX5 yX5_x yX5_x, Cond.code yX5_x cX5_x 2 (some .int), Cond.methodLink RX5 96 yX5_isFree, Cond.instanceMethod yX5_isFree, Cond.selects RX5 yX5_isFree yX5_isFree, Cond.code yX5_isFree cX5_isFree 5 (some .boolean), Cond.methodLink RX5 99 yX5_layKinds, Cond.instanceMethod yX5_layKinds, Cond.selects RX5 yX5_layKinds yX5_layKinds, Cond.code yX5_layKinds cX5_layKinds 4 none, Cond.fieldLink RX5 102 "StemDotsModel" "classes" "I", Cond.methodLink RX5 105 yX5_width]
def wsL_law_r13 : List Cond := [Cond.instanceMethod yX5_width, Cond.selects RX5 yX5_width yX5_width, Cond.code yX5_width cX5_width 2 (some .int), Cond.methodLink RL 40 yX4_rule, Cond.instanceMethod yX4_rule, Cond.selects RX4 yX4_rule yX4_rule, Cond.code yX4_rule cX4_rule 4 (some .int), Cond.fieldLink RX4 96 "StemDots" "MOST_OF_RULE" "[I", Cond.fieldLink RX4 99 "StemDots$Letter" "rules" "[I", Cond.methodLink RL 43 yX5_rule, Cond.instanceMethod yX5_rule, Cond.selects RX5 yX5_rule yX5_rule, Cond.code yX5_rule cX5_rule 4 (some .int), Cond.methodLink RL 44 yX4_stem, Cond.instanceMethod yX4_stem, Cond.selects RX4 yX4_stem yX4_stem, Cond.code yX4_stem cX4_stem 3 (some .int), Cond.fieldLink RX4 102 "StemDots$Stems" "many" "I", Cond.fieldLink RX4 105 "StemDots$Stems" "left" "[I", Cond.fieldLink RX4 108 "StemDots$Stems" "right" "[I", Cond.fieldLink RX4 111 "StemDots$Stems" "upEdge" "[I", Cond.fieldLink RX4 114 "StemDots$Stems" "downEdge" "[I", Cond.fieldLink RX4 117 "StemDots$Stems" "group" "[I", Cond.methodLink RL 47 yX5_stem]
def wsL_law_r14 : List Cond := [Cond.instanceMethod yX5_stem, Cond.selects RX5 yX5_stem yX5_stem, Cond.code yX5_stem cX5_stem 3 (some .int), Cond.methodLink RL 48 yX4_kind, Cond.instanceMethod yX4_kind, Cond.selects RX4 yX4_kind yX4_kind, Cond.code yX4_kind cX4_kind 3 (some .int), Cond.fieldLink RX4 120 "StemDots$Stems" "groups" "I", Cond.fieldLink RX4 123 "StemDots$Stems" "members" "[I", Cond.fieldLink RX4 126 "StemDots$Stems" "leastWidth" "[I", Cond.methodLink RX4 129 yX3_standard, Cond.instanceMethod yX3_standard, Cond.selects RX3 yX3_standard yX3_standard, Cond.code yX3_standard cX3_standard 2 (some .int), Cond.methodLink RL 51 yX5_kind, Cond.instanceMethod yX5_kind, Cond.selects RX5 yX5_kind yX5_kind, Cond.code yX5_kind cX5_kind 3 (some .int), Cond.methodLink RL 52 yX4_dots, Cond.instanceMethod yX4_dots, Cond.selects RX4 yX4_dots yX4_dots, Cond.code yX4_dots cX4_dots 3 (some .int), Cond.methodLink RX4 132 yX4_isSize, Cond.static yX4_isSize]
def wsL_law_r15 : List Cond := [Cond.code yX4_isSize cX4_isSize 1 (some .boolean), Cond.methodLink RX4 135 yX3_dotsOfGroup, Cond.instanceMethod yX3_dotsOfGroup, Cond.selects RX3 yX3_dotsOfGroup yX3_dotsOfGroup, Cond.code yX3_dotsOfGroup cX3_dotsOfGroup 5 (some .int), Cond.methodLink RX3 63 Lib.Math.max.name, Cond.methodLink RX3 59 yX3_standard, Cond.methodLink RL 55 yX5_dots, Cond.instanceMethod yX5_dots, Cond.selects RX5 yX5_dots yX5_dots, Cond.code yX5_dots cX5_dots 3 (some .int), Cond.methodLink RX5 111 yX5_dotsOf, Cond.instanceMethod yX5_dotsOf, Cond.selects RX5 yX5_dotsOf yX5_dotsOf, Cond.code yX5_dotsOf cX5_dotsOf 4 (some .int), Cond.methodLink RL 56 yX4_grows, Cond.instanceMethod yX4_grows, Cond.selects RX4 yX4_grows yX4_grows, Cond.code yX4_grows cX4_grows 4 (some .int), Cond.methodLink RL 59 yX5_grows, Cond.instanceMethod yX5_grows, Cond.selects RX5 yX5_grows yX5_grows, Cond.code yX5_grows cX5_grows 4 (some .int), Cond.methodLink RL 60 yX4_fit]
def wsL_law_r16 : List Cond := [Cond.instanceMethod yX4_fit, Cond.selects RX4 yX4_fit yX4_fit, Cond.code yX4_fit cX4_fit 3 (some .int), Cond.methodLink RX4 139 yX0_isAt, Cond.instanceMethod yX0_isAt, Cond.selects RX0 yX0_isAt yX0_isAt, Cond.code yX0_isAt cX0_isAt 2 (some .boolean), Cond.methodLink RX0 46 yX0_workOut, Cond.instanceMethod yX0_workOut, Cond.selects RX0 yX0_workOut yX0_workOut, Cond.code yX0_workOut cX0_workOut 2 none, Cond.fieldLink RX0 75 "StemDots$Fits" "workSize" "I", Cond.fieldLink RX0 50 "StemDots$Stems" "many" "I", Cond.methodLink RX0 78 yX0_layLeftmost, Cond.instanceMethod yX0_layLeftmost, Cond.selects RX0 yX0_layLeftmost yX0_layLeftmost, Cond.code yX0_layLeftmost cX0_layLeftmost 3 (some .int), Cond.fieldLink RX0 92 "StemDots$Fits" "room" "I", Cond.fieldLink RX0 66 "StemDots$Letter" "rules" "[I", Cond.methodLink RX0 71 yX3_dotsOfStem, Cond.instanceMethod yX3_dotsOfStem, Cond.selects RX3 yX3_dotsOfStem yX3_dotsOfStem, Cond.code yX3_dotsOfStem cX3_dotsOfStem 4 (some .int), Cond.methodLink RX3 69 yX3_dotsOfGroup]
def wsL_law_r17 : List Cond := [Cond.methodLink RX0 82 yX0_weighRests, Cond.instanceMethod yX0_weighRests, Cond.selects RX0 yX0_weighRests yX0_weighRests, Cond.code yX0_weighRests cX0_weighRests 3 none, Cond.methodLink RX0 95 yX0_weighGapsBehind, Cond.instanceMethod yX0_weighGapsBehind, Cond.selects RX0 yX0_weighGapsBehind yX0_weighGapsBehind, Cond.code yX0_weighGapsBehind cX0_weighGapsBehind 3 none, Cond.methodLink RX0 102 yX0_gapCost, Cond.instanceMethod yX0_gapCost, Cond.selects RX0 yX0_gapCost yX0_gapCost, Cond.code yX0_gapCost cX0_gapCost 5 (some .long), Cond.fieldLink RX0 56 "StemDots$Stems" "left" "[I", Cond.fieldLink RX0 63 "StemDots$Stems" "right" "[I", Cond.methodLink RX0 131 Lib.Math.abs.name, Cond.static Lib.Math.abs.name, Cond.code Lib.Math.abs.name Lib.Math.abs.code 1 (some .int), Cond.methodLink RX0 135 yX0_weighed, Cond.instanceMethod yX0_weighed, Cond.selects RX0 yX0_weighed yX0_weighed, Cond.code yX0_weighed cX0_weighed 5 (some .long), Cond.constantLong RX0 139 (1000), Cond.methodLink RX0 98 yX0_restAt, Cond.instanceMethod yX0_restAt]
def wsL_law_r18 : List Cond := [Cond.selects RX0 yX0_restAt yX0_restAt, Cond.code yX0_restAt cX0_restAt 8 (some .long), Cond.methodLink RX0 112 Lib.MathLoose.min_long.x, Cond.static Lib.MathLoose.min_long.x, Cond.code Lib.MathLoose.min_long.x Lib.MathLoose.min_long.code 4 (some .long), Cond.methodLink RX0 105 yX0_stemCost, Cond.instanceMethod yX0_stemCost, Cond.selects RX0 yX0_stemCost yX0_stemCost, Cond.code yX0_stemCost cX0_stemCost 5 (some .long), Cond.methodLink RX0 108 yX0_joined, Cond.instanceMethod yX0_joined, Cond.selects RX0 yX0_joined yX0_joined, Cond.code yX0_joined cX0_joined 5 (some .long), Cond.methodLink RX0 128 Lib.MathLoose.max_long.x, Cond.static Lib.MathLoose.max_long.x, Cond.code Lib.MathLoose.max_long.x Lib.MathLoose.max_long.code 4 (some .long), Cond.methodLink RX0 124 yX0_worstCounts, Cond.instanceMethod yX0_worstCounts, Cond.selects RX0 yX0_worstCounts yX0_worstCounts, Cond.code yX0_worstCounts cX0_worstCounts 1 (some .boolean), Cond.methodLink RX0 85 yX0_leastRest, Cond.instanceMethod yX0_leastRest, Cond.selects RX0 yX0_leastRest yX0_leastRest, Cond.code yX0_leastRest cX0_leastRest 4 (some .long)]
def wsL_law_r19 : List Cond := [Cond.methodLink RX0 89 yX0_layLeast, Cond.instanceMethod yX0_layLeast, Cond.selects RX0 yX0_layLeast yX0_layLeast, Cond.code yX0_layLeast cX0_layLeast 6 none, Cond.methodLink RX0 117 yX0_comesTo, Cond.instanceMethod yX0_comesTo, Cond.selects RX0 yX0_comesTo yX0_comesTo, Cond.code yX0_comesTo cX0_comesTo 6 (some .long), Cond.methodLink RX0 121 yX0_without, Cond.instanceMethod yX0_without, Cond.selects RX0 yX0_without yX0_without, Cond.code yX0_without cX0_without 5 (some .long), Cond.methodLink RX4 142 yX0_leftDot, Cond.instanceMethod yX0_leftDot, Cond.selects RX0 yX0_leftDot yX0_leftDot, Cond.code yX0_leftDot cX0_leftDot 3 (some .int), Cond.methodLink RL 63 yX5_fit, Cond.instanceMethod yX5_fit, Cond.selects RX5 yX5_fit yX5_fit, Cond.code yX5_fit cX5_fit 3 (some .int), Cond.methodLink RX5 143 yX5_layFit, Cond.instanceMethod yX5_layFit, Cond.selects RX5 yX5_layFit yX5_layFit, Cond.code yX5_layFit cX5_layFit 10 (some .boolean)]
def wsL_law_r20 : List Cond := [Cond.fieldLink RX5 125 "StemDotsModel" "whole" "J", Cond.constantLong RX5 129 (1000000000000000), Cond.methodLink RX5 131 yX5_gapDrift, Cond.instanceMethod yX5_gapDrift, Cond.selects RX5 yX5_gapDrift yX5_gapDrift, Cond.code yX5_gapDrift cX5_gapDrift 7 (some .long), Cond.constantLong RX5 115 (1000), Cond.constantLong RX5 121 (-2), Cond.constantLong RX5 123 (2), Cond.methodLink RX5 117 yX5_counted, Cond.instanceMethod yX5_counted, Cond.selects RX5 yX5_counted yX5_counted, Cond.code yX5_counted cX5_counted 4 (some .long), Cond.methodLink RX5 135 yX5_both, Cond.instanceMethod yX5_both, Cond.selects RX5 yX5_both yX5_both, Cond.code yX5_both cX5_both 5 (some .long), Cond.methodLink RX5 139 yX5_stemDrift, Cond.instanceMethod yX5_stemDrift, Cond.selects RX5 yX5_stemDrift yX5_stemDrift, Cond.code yX5_stemDrift cX5_stemDrift 6 (some .long), Cond.methodLink RL 64 yX4_distortion, Cond.instanceMethod yX4_distortion, Cond.selects RX4 yX4_distortion yX4_distortion]
def wsL_law_r21 : List Cond := [Cond.code yX4_distortion cX4_distortion 2 (some .long), Cond.constantLong RX4 146 (-2), Cond.fieldLink RX4 148 "StemDots$Fits" "least" "[J", Cond.constantLong RX4 152 (-3), Cond.methodLink RL 68 yX5_distortion, Cond.instanceMethod yX5_distortion, Cond.selects RX5 yX5_distortion yX5_distortion, Cond.code yX5_distortion cX5_distortion 2 (some .long), Cond.constantLong RX5 146 (-3), Cond.methodLink RL 69 yX4_why, Cond.instanceMethod yX4_why, Cond.selects RX4 yX4_why yX4_why, Cond.code yX4_why cX4_why 4 (some .int), Cond.fieldLink RX4 154 "StemDots$Fits" "blamed" "[I", Cond.methodLink RX4 157 yX3_dotsOfStem, Cond.methodLink RL 72 yX5_why, Cond.instanceMethod yX5_why, Cond.selects RX5 yX5_why yX5_why, Cond.code yX5_why cX5_why 6 (some .int), Cond.methodLink RL 73 yX4_best, Cond.instanceMethod yX4_best, Cond.selects RX4 yX4_best yX4_best, Cond.code yX4_best cX4_best 8 (some .int), Cond.methodLink RL 76 yX5_best]
def wsL_law_r22 : List Cond := [Cond.instanceMethod yX5_best, Cond.selects RX5 yX5_best yX5_best, Cond.code yX5_best cX5_best 6 (some .int), Cond.methodLink RL 77 yX4_place, Cond.instanceMethod yX4_place, Cond.selects RX4 yX4_place yX4_place, Cond.code yX4_place cX4_place 3 (some .int), Cond.constant RX4 160 (-10000002), Cond.constant RX4 164 (-10000003), Cond.methodLink RX4 161 yX0_drawn, Cond.instanceMethod yX0_drawn, Cond.selects RX0 yX0_drawn yX0_drawn, Cond.code yX0_drawn cX0_drawn 10 (some .int), Cond.methodLink RX0 59 yX0_leftDot, Cond.methodLink RL 80 yX5_place, Cond.instanceMethod yX5_place, Cond.selects RX5 yX5_place yX5_place, Cond.code yX5_place cX5_place 6 (some .int), Cond.constant RX5 148 (-10000002), Cond.constant RX5 149 (-10000003), Cond.methodLink RL 81 yX4_image, Cond.instanceMethod yX4_image, Cond.selects RX4 yX4_image yX4_image, Cond.code yX4_image cX4_image 2 (some .int)]
def wsL_law_r23 : List Cond := [Cond.methodLink RX4 165 yX1_take, Cond.instanceMethod yX1_take, Cond.selects RX1 yX1_take yX1_take, Cond.code yX1_take cX1_take 2 none, Cond.methodLink RL 84 yX5_image, Cond.instanceMethod yX5_image, Cond.selects RX5 yX5_image yX5_image, Cond.code yX5_image cX5_image 3 (some .int), Cond.methodLink RL 85 yX4_restore, Cond.instanceMethod yX4_restore, Cond.selects RX4 yX4_restore yX4_restore, Cond.code yX4_restore cX4_restore 2 (some .int), Cond.methodLink RL 88 yX5_restore, Cond.instanceMethod yX5_restore, Cond.selects RX5 yX5_restore yX5_restore, Cond.code yX5_restore cX5_restore 3 (some .int), Cond.methodLink RL 89 yX4_count, Cond.instanceMethod yX4_count, Cond.selects RX4 yX4_count yX4_count, Cond.code yX4_count cX4_count 2 (some .int), Cond.methodLink RL 92 yX5_count, Cond.instanceMethod yX5_count, Cond.selects RX5 yX5_count yX5_count, Cond.code yX5_count cX5_count 2 (some .int)]
def wsL_law : List Cond := (wsL_law_r1 ++ (wsL_law_r2 ++ (wsL_law_r3 ++ (wsL_law_r4 ++ (wsL_law_r5 ++ (wsL_law_r6 ++ (wsL_law_r7 ++ (wsL_law_r8 ++ (wsL_law_r9 ++ (wsL_law_r10 ++ (wsL_law_r11 ++ (wsL_law_r12 ++ (wsL_law_r13 ++ (wsL_law_r14 ++ (wsL_law_r15 ++ (wsL_law_r16 ++ (wsL_law_r17 ++ (wsL_law_r18 ++ (wsL_law_r19 ++ (wsL_law_r20 ++ (wsL_law_r21 ++ (wsL_law_r22 ++ wsL_law_r23)))))))))))))))))))))) ++ wsX40 ++ wsX50 ++ wsX20 ++ wsX10 ++ wsX30 ++ wsX00 ++ ([] : List Cond)
end
section
theorem dX0_init_0 : decode cX0_init 0 = .ok (.aload_n 0, 1) := by decide +kernel
theorem dX0_init_1 : decode cX0_init 1 = .ok (.invokespecial 3, 3) := by decide +kernel
theorem dX0_init_4 : decode cX0_init 4 = .ok (.aload_n 0, 1) := by decide +kernel
theorem dX0_init_5 : decode cX0_init 5 = .ok (.aload_n 1, 1) := by decide +kernel
theorem dX0_init_6 : decode cX0_init 6 = .ok (.putfield 9, 3) := by decide +kernel
theorem dX0_init_9 : decode cX0_init 9 = .ok (.aload_n 0, 1) := by decide +kernel
theorem dX0_init_10 : decode cX0_init 10 = .ok (.aload_n 2, 1) := by decide +kernel
theorem dX0_init_11 : decode cX0_init 11 = .ok (.putfield 15, 3) := by decide +kernel
theorem dX0_init_14 : decode cX0_init 14 = .ok (.aload_n 0, 1) := by decide +kernel
theorem dX0_init_15 : decode cX0_init 15 = .ok (.bipush 61, 2) := by decide +kernel
theorem dX0_init_17 : decode cX0_init 17 = .ok (.newarray .long, 2) := by decide +kernel
theorem dX0_init_19 : decode cX0_init 19 = .ok (.putfield 19, 3) := by decide +kernel
theorem dX0_init_22 : decode cX0_init 22 = .ok (.aload_n 0, 1) := by decide +kernel
theorem dX0_init_23 : decode cX0_init 23 = .ok (.bipush 61, 2) := by decide +kernel
theorem dX0_init_25 : decode cX0_init 25 = .ok (.newarray .int, 2) := by decide +kernel
theorem dX0_init_27 : decode cX0_init 27 = .ok (.putfield 23, 3) := by decide +kernel
theorem dX0_init_30 : decode cX0_init 30 = .ok (.aload_n 0, 1) := by decide +kernel
theorem dX0_init_31 : decode cX0_init 31 = .ok (.bipush 61, 2) := by decide +kernel
theorem dX0_init_33 : decode cX0_init 33 = .ok (.newarray .boolean, 2) := by decide +kernel
theorem dX0_init_35 : decode cX0_init 35 = .ok (.putfield 27, 3) := by decide +kernel
theorem dX0_init_38 : decode cX0_init 38 = .ok (.aload_n 0, 1) := by decide +kernel
theorem dX0_init_39 : decode cX0_init 39 = .ok (.sipush 488, 3) := by decide +kernel
theorem dX0_init_42 : decode cX0_init 42 = .ok (.newarray .int, 2) := by decide +kernel
theorem dX0_init_44 : decode cX0_init 44 = .ok (.putfield 31, 3) := by decide +kernel
theorem dX0_init_47 : decode cX0_init 47 = .ok (.aload_n 0, 1) := by decide +kernel
theorem dX0_init_48 : decode cX0_init 48 = .ok (.bipush 8, 2) := by decide +kernel
theorem dX0_init_50 : decode cX0_init 50 = .ok (.newarray .int, 2) := by decide +kernel
theorem dX0_init_52 : decode cX0_init 52 = .ok (.putfield 34, 3) := by decide +kernel
theorem dX0_init_55 : decode cX0_init 55 = .ok (.aload_n 0, 1) := by decide +kernel
theorem dX0_init_56 : decode cX0_init 56 = .ok (.bipush 8, 2) := by decide +kernel
theorem dX0_init_58 : decode cX0_init 58 = .ok (.newarray .int, 2) := by decide +kernel
theorem dX0_init_60 : decode cX0_init 60 = .ok (.putfield 37, 3) := by decide +kernel
theorem dX0_init_63 : decode cX0_init 63 = .ok (.aload_n 0, 1) := by decide +kernel
theorem dX0_init_64 : decode cX0_init 64 = .ok (.sipush 480, 3) := by decide +kernel
theorem dX0_init_67 : decode cX0_init 67 = .ok (.newarray .long, 2) := by decide +kernel
theorem dX0_init_69 : decode cX0_init 69 = .ok (.putfield 40, 3) := by decide +kernel
theorem dX0_init_72 : decode cX0_init 72 = .ok (.aload_n 0, 1) := by decide +kernel
theorem dX0_init_73 : decode cX0_init 73 = .ok (.bipush 60, 2) := by decide +kernel
theorem dX0_init_75 : decode cX0_init 75 = .ok (.newarray .long, 2) := by decide +kernel
theorem dX0_init_77 : decode cX0_init 77 = .ok (.putfield 43, 3) := by decide +kernel
theorem dX0_init_80 : decode cX0_init 80 = .ok (.return_, 1) := by decide +kernel
theorem dX0_forget_0 : decode cX0_forget 0 = .ok (.iconst 0, 1) := by decide +kernel
theorem dX0_forget_1 : decode cX0_forget 1 = .ok (.istore_n 1, 1) := by decide +kernel
theorem dX0_forget_2 : decode cX0_forget 2 = .ok (.iload_n 1, 1) := by decide +kernel
theorem dX0_forget_3 : decode cX0_forget 3 = .ok (.bipush 60, 2) := by decide +kernel
theorem dX0_forget_5 : decode cX0_forget 5 = .ok (.if_icmp .gt 16, 3) := by decide +kernel
theorem dX0_forget_8 : decode cX0_forget 8 = .ok (.aload_n 0, 1) := by decide +kernel
theorem dX0_forget_9 : decode cX0_forget 9 = .ok (.getfield 27, 3) := by decide +kernel
theorem dX0_forget_12 : decode cX0_forget 12 = .ok (.iload_n 1, 1) := by decide +kernel
theorem dX0_forget_13 : decode cX0_forget 13 = .ok (.iconst 0, 1) := by decide +kernel
theorem dX0_forget_14 : decode cX0_forget 14 = .ok (.bastore, 1) := by decide +kernel
theorem dX0_forget_15 : decode cX0_forget 15 = .ok (.iinc 1 1, 3) := by decide +kernel
theorem dX0_forget_18 : decode cX0_forget 18 = .ok (.goto (-16), 3) := by decide +kernel
theorem dX0_forget_21 : decode cX0_forget 21 = .ok (.return_, 1) := by decide +kernel
set_option maxRecDepth 20000 in
theorem ggX0_isAt_X0_workOut : GoodIn wsX0_isAt wsX0_workOut := goodIn_r _ [7, 8, 2, 9, 10, 11, 12, 13, 14, 6, 15, 16, 17, 18, 19, 20, 21, 22, 23, 24, 25, 26, 27, 28, 29, 30, 31, 32, 33, 34, 35, 36, 37, 38, 39, 40, 41, 42, 43, 44, 45, 46, 47, 48, 49, 50, 51, 52, 53, 54, 55, 56, 57, 58, 59, 60, 61, 62, 63, 64, 65, 66, 67, 68, 69, 70, 71, 72, 73, 74, 75, 76, 77, 78, 79, 80, 81, 82, 83, 84, 85, 86, 87, 88, 89, 90, 91, 92, 93, 94, 95, 96, 97, 98, 99, 100, 101, 102, 103, 104, 105, 106, 107, 108, 109, 110, 111, 112, 113, 114, 115, 116, 117, 118, 119, 120, 121, 122, 123, 124, 125, 126, 127, 128, 129, 130, 131, 132] (by decide +kernel) (by decide +kernel)
set_option maxRecDepth 20000 in
theorem gX0_isAt_X0_workOut : GoodIn wsX0_isAt (wsV RX0 46 RX0 yX0_workOut wsX0_workOut) := goodIn_app (goodIn_of _ (by decide +kernel)) ggX0_isAt_X0_workOut
theorem dX0_isAt_0 : decode cX0_isAt 0 = .ok (.aload_n 0, 1) := by decide +kernel
theorem dX0_isAt_1 : decode cX0_isAt 1 = .ok (.getfield 27, 3) := by decide +kernel
theorem dX0_isAt_4 : decode cX0_isAt 4 = .ok (.iload_n 1, 1) := by decide +kernel
theorem dX0_isAt_5 : decode cX0_isAt 5 = .ok (.baload, 1) := by decide +kernel
theorem dX0_isAt_6 : decode cX0_isAt 6 = .ok (.ifCond .ne 15, 3) := by decide +kernel
theorem dX0_isAt_9 : decode cX0_isAt 9 = .ok (.aload_n 0, 1) := by decide +kernel
theorem dX0_isAt_10 : decode cX0_isAt 10 = .ok (.iload_n 1, 1) := by decide +kernel
theorem dX0_isAt_11 : decode cX0_isAt 11 = .ok (.invokevirtual 46, 3) := by decide +kernel
theorem dX0_isAt_14 : decode cX0_isAt 14 = .ok (.aload_n 0, 1) := by decide +kernel
theorem dX0_isAt_15 : decode cX0_isAt 15 = .ok (.getfield 27, 3) := by decide +kernel
theorem dX0_isAt_18 : decode cX0_isAt 18 = .ok (.iload_n 1, 1) := by decide +kernel
theorem dX0_isAt_19 : decode cX0_isAt 19 = .ok (.iconst 1, 1) := by decide +kernel
theorem dX0_isAt_20 : decode cX0_isAt 20 = .ok (.bastore, 1) := by decide +kernel
theorem dX0_isAt_21 : decode cX0_isAt 21 = .ok (.aload_n 0, 1) := by decide +kernel
theorem dX0_isAt_22 : decode cX0_isAt 22 = .ok (.getfield 23, 3) := by decide +kernel
theorem dX0_isAt_25 : decode cX0_isAt 25 = .ok (.iload_n 1, 1) := by decide +kernel
theorem dX0_isAt_26 : decode cX0_isAt 26 = .ok (.iaload, 1) := by decide +kernel
theorem dX0_isAt_27 : decode cX0_isAt 27 = .ok (.bipush (-6), 2) := by decide +kernel
theorem dX0_isAt_29 : decode cX0_isAt 29 = .ok (.if_icmp .ne 7, 3) := by decide +kernel
theorem dX0_isAt_32 : decode cX0_isAt 32 = .ok (.iconst 1, 1) := by decide +kernel
theorem dX0_isAt_33 : decode cX0_isAt 33 = .ok (.goto 4, 3) := by decide +kernel
theorem dX0_isAt_36 : decode cX0_isAt 36 = .ok (.iconst 0, 1) := by decide +kernel
theorem dX0_isAt_37 : decode cX0_isAt 37 = .ok (.ireturn, 1) := by decide +kernel
theorem dX0_leftDot_0 : decode cX0_leftDot 0 = .ok (.aload_n 0, 1) := by decide +kernel
theorem dX0_leftDot_1 : decode cX0_leftDot 1 = .ok (.getfield 31, 3) := by decide +kernel
theorem dX0_leftDot_4 : decode cX0_leftDot 4 = .ok (.iload_n 1, 1) := by decide +kernel
theorem dX0_leftDot_5 : decode cX0_leftDot 5 = .ok (.bipush 8, 2) := by decide +kernel
theorem dX0_leftDot_7 : decode cX0_leftDot 7 = .ok (.imul, 1) := by decide +kernel
theorem dX0_leftDot_8 : decode cX0_leftDot 8 = .ok (.iload_n 2, 1) := by decide +kernel
theorem dX0_leftDot_9 : decode cX0_leftDot 9 = .ok (.iadd, 1) := by decide +kernel
theorem dX0_leftDot_10 : decode cX0_leftDot 10 = .ok (.iaload, 1) := by decide +kernel
theorem dX0_leftDot_11 : decode cX0_leftDot 11 = .ok (.ireturn, 1) := by decide +kernel
set_option maxRecDepth 20000 in
theorem ggX0_drawn_X0_leftDot : GoodIn wsX0_drawn wsX0_leftDot := goodIn_r _ [11, 12, 33, 34, 35, 36, 37, 38, 39, 40, 41, 42, 43, 44] (by decide +kernel) (by decide +kernel)
set_option maxRecDepth 20000 in
theorem gX0_drawn_X0_leftDot : GoodIn wsX0_drawn (wsV RX0 59 RX0 yX0_leftDot wsX0_leftDot) := goodIn_app (goodIn_of _ (by decide +kernel)) ggX0_drawn_X0_leftDot
set_option maxRecDepth 20000 in
theorem ggX0_drawn_X3_dotsOfStem : GoodIn wsX0_drawn wsX3_dotsOfStem := goodIn_r _ [17, 18, 19, 20, 21, 16, 22, 23, 24, 25, 26, 27, 28, 29, 30, 31, 32, 45, 46, 47, 48, 49, 50, 51, 52, 53, 54, 55] (by decide +kernel) (by decide +kernel)
set_option maxRecDepth 20000 in
theorem gX0_drawn_X3_dotsOfStem : GoodIn wsX0_drawn (wsV RX0 71 RX3 yX3_dotsOfStem wsX3_dotsOfStem) := goodIn_app (goodIn_of _ (by decide +kernel)) ggX0_drawn_X3_dotsOfStem
theorem dX0_drawn_0 : decode cX0_drawn 0 = .ok (.aload_n 0, 1) := by decide +kernel
theorem dX0_drawn_1 : decode cX0_drawn 1 = .ok (.getfield 15, 3) := by decide +kernel
theorem dX0_drawn_4 : decode cX0_drawn 4 = .ok (.getfield 50, 3) := by decide +kernel
theorem dX0_drawn_7 : decode cX0_drawn 7 = .ok (.ifCond .ne 7, 3) := by decide +kernel
theorem dX0_drawn_10 : decode cX0_drawn 10 = .ok (.iload_n 2, 1) := by decide +kernel
theorem dX0_drawn_11 : decode cX0_drawn 11 = .ok (.iload_n 1, 1) := by decide +kernel
theorem dX0_drawn_12 : decode cX0_drawn 12 = .ok (.imul, 1) := by decide +kernel
theorem dX0_drawn_13 : decode cX0_drawn 13 = .ok (.ireturn, 1) := by decide +kernel
theorem dX0_drawn_14 : decode cX0_drawn 14 = .ok (.aload_n 0, 1) := by decide +kernel
theorem dX0_drawn_15 : decode cX0_drawn 15 = .ok (.getfield 15, 3) := by decide +kernel
theorem dX0_drawn_18 : decode cX0_drawn 18 = .ok (.getfield 56, 3) := by decide +kernel
theorem dX0_drawn_21 : decode cX0_drawn 21 = .ok (.iconst 0, 1) := by decide +kernel
theorem dX0_drawn_22 : decode cX0_drawn 22 = .ok (.iaload, 1) := by decide +kernel
theorem dX0_drawn_23 : decode cX0_drawn 23 = .ok (.istore_n 3, 1) := by decide +kernel
theorem dX0_drawn_24 : decode cX0_drawn 24 = .ok (.sipush 1000, 3) := by decide +kernel
theorem dX0_drawn_27 : decode cX0_drawn 27 = .ok (.aload_n 0, 1) := by decide +kernel
theorem dX0_drawn_28 : decode cX0_drawn 28 = .ok (.iload_n 1, 1) := by decide +kernel
theorem dX0_drawn_29 : decode cX0_drawn 29 = .ok (.iconst 0, 1) := by decide +kernel
theorem dX0_drawn_30 : decode cX0_drawn 30 = .ok (.invokevirtual 59, 3) := by decide +kernel
theorem dX0_drawn_33 : decode cX0_drawn 33 = .ok (.imul, 1) := by decide +kernel
theorem dX0_drawn_34 : decode cX0_drawn 34 = .ok (.istore 4, 2) := by decide +kernel
theorem dX0_drawn_36 : decode cX0_drawn 36 = .ok (.iload_n 2, 1) := by decide +kernel
theorem dX0_drawn_37 : decode cX0_drawn 37 = .ok (.iload_n 3, 1) := by decide +kernel
theorem dX0_drawn_38 : decode cX0_drawn 38 = .ok (.if_icmp .gt 12, 3) := by decide +kernel
theorem dX0_drawn_41 : decode cX0_drawn 41 = .ok (.iload 4, 2) := by decide +kernel
theorem dX0_drawn_43 : decode cX0_drawn 43 = .ok (.iload_n 3, 1) := by decide +kernel
theorem dX0_drawn_44 : decode cX0_drawn 44 = .ok (.iload_n 2, 1) := by decide +kernel
theorem dX0_drawn_45 : decode cX0_drawn 45 = .ok (.isub, 1) := by decide +kernel
theorem dX0_drawn_46 : decode cX0_drawn 46 = .ok (.iload_n 1, 1) := by decide +kernel
theorem dX0_drawn_47 : decode cX0_drawn 47 = .ok (.imul, 1) := by decide +kernel
theorem dX0_drawn_48 : decode cX0_drawn 48 = .ok (.isub, 1) := by decide +kernel
theorem dX0_drawn_49 : decode cX0_drawn 49 = .ok (.ireturn, 1) := by decide +kernel
theorem dX0_drawn_50 : decode cX0_drawn 50 = .ok (.iconst 1, 1) := by decide +kernel
theorem dX0_drawn_51 : decode cX0_drawn 51 = .ok (.istore 5, 2) := by decide +kernel
theorem dX0_drawn_53 : decode cX0_drawn 53 = .ok (.iload 5, 2) := by decide +kernel
theorem dX0_drawn_55 : decode cX0_drawn 55 = .ok (.iconst 2, 1) := by decide +kernel
theorem dX0_drawn_56 : decode cX0_drawn 56 = .ok (.aload_n 0, 1) := by decide +kernel
theorem dX0_drawn_57 : decode cX0_drawn 57 = .ok (.getfield 15, 3) := by decide +kernel
theorem dX0_drawn_60 : decode cX0_drawn 60 = .ok (.getfield 50, 3) := by decide +kernel
theorem dX0_drawn_63 : decode cX0_drawn 63 = .ok (.imul, 1) := by decide +kernel
theorem dX0_drawn_64 : decode cX0_drawn 64 = .ok (.if_icmp .ge 143, 3) := by decide +kernel
theorem dX0_drawn_67 : decode cX0_drawn 67 = .ok (.iload 5, 2) := by decide +kernel
theorem dX0_drawn_69 : decode cX0_drawn 69 = .ok (.iconst 2, 1) := by decide +kernel
theorem dX0_drawn_70 : decode cX0_drawn 70 = .ok (.idiv, 1) := by decide +kernel
theorem dX0_drawn_71 : decode cX0_drawn 71 = .ok (.istore 6, 2) := by decide +kernel
theorem dX0_drawn_73 : decode cX0_drawn 73 = .ok (.iload 5, 2) := by decide +kernel
theorem dX0_drawn_75 : decode cX0_drawn 75 = .ok (.iconst 2, 1) := by decide +kernel
theorem dX0_drawn_76 : decode cX0_drawn 76 = .ok (.irem, 1) := by decide +kernel
theorem dX0_drawn_77 : decode cX0_drawn 77 = .ok (.iconst 1, 1) := by decide +kernel
theorem dX0_drawn_78 : decode cX0_drawn 78 = .ok (.if_icmp .ne 7, 3) := by decide +kernel
theorem dX0_drawn_81 : decode cX0_drawn 81 = .ok (.iconst 1, 1) := by decide +kernel
theorem dX0_drawn_82 : decode cX0_drawn 82 = .ok (.goto 4, 3) := by decide +kernel
theorem dX0_drawn_85 : decode cX0_drawn 85 = .ok (.iconst 0, 1) := by decide +kernel
theorem dX0_drawn_86 : decode cX0_drawn 86 = .ok (.istore 7, 2) := by decide +kernel
theorem dX0_drawn_88 : decode cX0_drawn 88 = .ok (.iload 7, 2) := by decide +kernel
theorem dX0_drawn_90 : decode cX0_drawn 90 = .ok (.ifCond .eq 16, 3) := by decide +kernel
theorem dX0_drawn_93 : decode cX0_drawn 93 = .ok (.aload_n 0, 1) := by decide +kernel
theorem dX0_drawn_94 : decode cX0_drawn 94 = .ok (.getfield 15, 3) := by decide +kernel
theorem dX0_drawn_97 : decode cX0_drawn 97 = .ok (.getfield 63, 3) := by decide +kernel
theorem dX0_drawn_100 : decode cX0_drawn 100 = .ok (.iload 6, 2) := by decide +kernel
theorem dX0_drawn_102 : decode cX0_drawn 102 = .ok (.iaload, 1) := by decide +kernel
theorem dX0_drawn_103 : decode cX0_drawn 103 = .ok (.goto 13, 3) := by decide +kernel
theorem dX0_drawn_106 : decode cX0_drawn 106 = .ok (.aload_n 0, 1) := by decide +kernel
theorem dX0_drawn_107 : decode cX0_drawn 107 = .ok (.getfield 15, 3) := by decide +kernel
theorem dX0_drawn_110 : decode cX0_drawn 110 = .ok (.getfield 56, 3) := by decide +kernel
theorem dX0_drawn_113 : decode cX0_drawn 113 = .ok (.iload 6, 2) := by decide +kernel
theorem dX0_drawn_115 : decode cX0_drawn 115 = .ok (.iaload, 1) := by decide +kernel
theorem dX0_drawn_116 : decode cX0_drawn 116 = .ok (.istore 8, 2) := by decide +kernel
theorem dX0_drawn_118 : decode cX0_drawn 118 = .ok (.aload_n 0, 1) := by decide +kernel
theorem dX0_drawn_119 : decode cX0_drawn 119 = .ok (.iload_n 1, 1) := by decide +kernel
theorem dX0_drawn_120 : decode cX0_drawn 120 = .ok (.iload 6, 2) := by decide +kernel
theorem dX0_drawn_122 : decode cX0_drawn 122 = .ok (.invokevirtual 59, 3) := by decide +kernel
theorem dX0_drawn_125 : decode cX0_drawn 125 = .ok (.iload 7, 2) := by decide +kernel
theorem dX0_drawn_127 : decode cX0_drawn 127 = .ok (.ifCond .eq 25, 3) := by decide +kernel
theorem dX0_drawn_130 : decode cX0_drawn 130 = .ok (.aload_n 0, 1) := by decide +kernel
theorem dX0_drawn_131 : decode cX0_drawn 131 = .ok (.getfield 15, 3) := by decide +kernel
theorem dX0_drawn_134 : decode cX0_drawn 134 = .ok (.iload 6, 2) := by decide +kernel
theorem dX0_drawn_136 : decode cX0_drawn 136 = .ok (.iload_n 1, 1) := by decide +kernel
theorem dX0_drawn_137 : decode cX0_drawn 137 = .ok (.aload_n 0, 1) := by decide +kernel
theorem dX0_drawn_138 : decode cX0_drawn 138 = .ok (.getfield 9, 3) := by decide +kernel
theorem dX0_drawn_141 : decode cX0_drawn 141 = .ok (.getfield 66, 3) := by decide +kernel
theorem dX0_drawn_144 : decode cX0_drawn 144 = .ok (.iconst 4, 1) := by decide +kernel
theorem dX0_drawn_145 : decode cX0_drawn 145 = .ok (.iaload, 1) := by decide +kernel
theorem dX0_drawn_146 : decode cX0_drawn 146 = .ok (.invokevirtual 71, 3) := by decide +kernel
theorem dX0_drawn_149 : decode cX0_drawn 149 = .ok (.goto 4, 3) := by decide +kernel
theorem dX0_drawn_152 : decode cX0_drawn 152 = .ok (.iconst 0, 1) := by decide +kernel
theorem dX0_drawn_153 : decode cX0_drawn 153 = .ok (.iadd, 1) := by decide +kernel
theorem dX0_drawn_154 : decode cX0_drawn 154 = .ok (.istore 9, 2) := by decide +kernel
theorem dX0_drawn_156 : decode cX0_drawn 156 = .ok (.iload_n 2, 1) := by decide +kernel
theorem dX0_drawn_157 : decode cX0_drawn 157 = .ok (.iload 8, 2) := by decide +kernel
theorem dX0_drawn_159 : decode cX0_drawn 159 = .ok (.if_icmp .gt 31, 3) := by decide +kernel
theorem dX0_drawn_162 : decode cX0_drawn 162 = .ok (.iload 8, 2) := by decide +kernel
theorem dX0_drawn_164 : decode cX0_drawn 164 = .ok (.iload_n 3, 1) := by decide +kernel
theorem dX0_drawn_165 : decode cX0_drawn 165 = .ok (.if_icmp .le 25, 3) := by decide +kernel
theorem dX0_drawn_168 : decode cX0_drawn 168 = .ok (.iload 4, 2) := by decide +kernel
theorem dX0_drawn_170 : decode cX0_drawn 170 = .ok (.iload_n 2, 1) := by decide +kernel
theorem dX0_drawn_171 : decode cX0_drawn 171 = .ok (.iload_n 3, 1) := by decide +kernel
theorem dX0_drawn_172 : decode cX0_drawn 172 = .ok (.isub, 1) := by decide +kernel
theorem dX0_drawn_173 : decode cX0_drawn 173 = .ok (.sipush 1000, 3) := by decide +kernel
theorem dX0_drawn_176 : decode cX0_drawn 176 = .ok (.iload 9, 2) := by decide +kernel
theorem dX0_drawn_178 : decode cX0_drawn 178 = .ok (.imul, 1) := by decide +kernel
theorem dX0_drawn_179 : decode cX0_drawn 179 = .ok (.iload 4, 2) := by decide +kernel
theorem dX0_drawn_181 : decode cX0_drawn 181 = .ok (.isub, 1) := by decide +kernel
theorem dX0_drawn_182 : decode cX0_drawn 182 = .ok (.imul, 1) := by decide +kernel
theorem dX0_drawn_183 : decode cX0_drawn 183 = .ok (.iload 8, 2) := by decide +kernel
theorem dX0_drawn_185 : decode cX0_drawn 185 = .ok (.iload_n 3, 1) := by decide +kernel
theorem dX0_drawn_186 : decode cX0_drawn 186 = .ok (.isub, 1) := by decide +kernel
theorem dX0_drawn_187 : decode cX0_drawn 187 = .ok (.idiv, 1) := by decide +kernel
theorem dX0_drawn_188 : decode cX0_drawn 188 = .ok (.iadd, 1) := by decide +kernel
theorem dX0_drawn_189 : decode cX0_drawn 189 = .ok (.ireturn, 1) := by decide +kernel
theorem dX0_drawn_190 : decode cX0_drawn 190 = .ok (.iload 8, 2) := by decide +kernel
theorem dX0_drawn_192 : decode cX0_drawn 192 = .ok (.istore_n 3, 1) := by decide +kernel
theorem dX0_drawn_193 : decode cX0_drawn 193 = .ok (.sipush 1000, 3) := by decide +kernel
theorem dX0_drawn_196 : decode cX0_drawn 196 = .ok (.iload 9, 2) := by decide +kernel
theorem dX0_drawn_198 : decode cX0_drawn 198 = .ok (.imul, 1) := by decide +kernel
theorem dX0_drawn_199 : decode cX0_drawn 199 = .ok (.istore 4, 2) := by decide +kernel
theorem dX0_drawn_201 : decode cX0_drawn 201 = .ok (.iinc 5 1, 3) := by decide +kernel
theorem dX0_drawn_204 : decode cX0_drawn 204 = .ok (.goto (-151), 3) := by decide +kernel
theorem dX0_drawn_207 : decode cX0_drawn 207 = .ok (.iload 4, 2) := by decide +kernel
theorem dX0_drawn_209 : decode cX0_drawn 209 = .ok (.iload_n 2, 1) := by decide +kernel
theorem dX0_drawn_210 : decode cX0_drawn 210 = .ok (.iload_n 3, 1) := by decide +kernel
theorem dX0_drawn_211 : decode cX0_drawn 211 = .ok (.isub, 1) := by decide +kernel
theorem dX0_drawn_212 : decode cX0_drawn 212 = .ok (.iload_n 1, 1) := by decide +kernel
theorem dX0_drawn_213 : decode cX0_drawn 213 = .ok (.imul, 1) := by decide +kernel
theorem dX0_drawn_214 : decode cX0_drawn 214 = .ok (.iadd, 1) := by decide +kernel
theorem dX0_drawn_215 : decode cX0_drawn 215 = .ok (.ireturn, 1) := by decide +kernel
set_option maxRecDepth 20000 in
theorem ggX0_workOut_X0_layLeftmost : GoodIn wsX0_workOut wsX0_layLeftmost := goodIn_r _ [10, 11, 4, 5, 12, 1, 13, 14, 15, 16, 17, 18, 19, 20, 21, 22, 23, 24, 25, 26, 27, 28, 29, 30, 31, 32, 33, 34, 35, 99, 100, 101, 102, 103, 104, 105, 106, 107, 108, 109, 110, 111, 112, 113, 114, 115, 116, 117, 118, 119, 120, 121, 122, 123, 124, 125, 126, 127] (by decide +kernel) (by decide +kernel)
set_option maxRecDepth 20000 in
theorem gX0_workOut_X0_layLeftmost : GoodIn wsX0_workOut (wsV RX0 78 RX0 yX0_layLeftmost wsX0_layLeftmost) := goodIn_app (goodIn_of _ (by decide +kernel)) ggX0_workOut_X0_layLeftmost
set_option maxRecDepth 20000 in
theorem ggX0_workOut_X0_weighRests : GoodIn wsX0_workOut wsX0_weighRests := goodIn_r _ [39, 4, 5, 11, 40, 41, 42, 43, 9, 44, 45, 46, 47, 48, 49, 50, 51, 1, 52, 53, 28, 54, 13, 14, 55, 56, 57, 58, 59, 60, 61, 62, 63, 64, 65, 66, 67, 68, 69, 70, 15, 12, 71, 72, 73, 74, 75, 76, 77, 78, 79, 80, 81, 99, 100, 101, 102, 103, 104, 105, 106, 107, 108, 109, 110, 111, 112, 113, 114, 115, 116, 117, 118, 119, 120, 121, 122, 123, 124, 125, 126, 127] (by decide +kernel) (by decide +kernel)
set_option maxRecDepth 20000 in
theorem gX0_workOut_X0_weighRests : GoodIn wsX0_workOut (wsV RX0 82 RX0 yX0_weighRests wsX0_weighRests) := goodIn_app (goodIn_of _ (by decide +kernel)) ggX0_workOut_X0_weighRests
set_option maxRecDepth 20000 in
theorem ggX0_workOut_X0_leastRest : GoodIn wsX0_workOut wsX0_leastRest := goodIn_r _ [85, 40, 11, 64, 65, 28, 66, 99, 100, 101, 102, 103, 104, 105, 106, 107, 108, 109, 110] (by decide +kernel) (by decide +kernel)
set_option maxRecDepth 20000 in
theorem gX0_workOut_X0_leastRest : GoodIn wsX0_workOut (wsV RX0 85 RX0 yX0_leastRest wsX0_leastRest) := goodIn_app (goodIn_of _ (by decide +kernel)) ggX0_workOut_X0_leastRest
set_option maxRecDepth 20000 in
theorem ggX0_workOut_X0_layLeast : GoodIn wsX0_workOut wsX0_layLeast := goodIn_r _ [89, 3, 1, 4, 5, 11, 90, 15, 91, 92, 93, 9, 94, 40, 46, 47, 48, 49, 50, 51, 52, 53, 28, 54, 13, 14, 55, 56, 57, 58, 59, 71, 72, 73, 74, 75, 76, 77, 78, 79, 80, 81, 67, 68, 69, 70, 12, 95, 96, 97, 98, 99, 100, 101, 102, 103, 104, 105, 106, 107, 108, 109, 110, 111, 112, 113, 114, 115, 116, 117, 118, 119, 120, 121, 122, 123, 124, 125, 126, 127] (by decide +kernel) (by decide +kernel)
set_option maxRecDepth 20000 in
theorem gX0_workOut_X0_layLeast : GoodIn wsX0_workOut (wsV RX0 89 RX0 yX0_layLeast wsX0_layLeast) := goodIn_app (goodIn_of _ (by decide +kernel)) ggX0_workOut_X0_layLeast
theorem dX0_workOut_0 : decode cX0_workOut 0 = .ok (.aload_n 0, 1) := by decide +kernel
theorem dX0_workOut_1 : decode cX0_workOut 1 = .ok (.iload_n 1, 1) := by decide +kernel
theorem dX0_workOut_2 : decode cX0_workOut 2 = .ok (.putfield 75, 3) := by decide +kernel
theorem dX0_workOut_5 : decode cX0_workOut 5 = .ok (.aload_n 0, 1) := by decide +kernel
theorem dX0_workOut_6 : decode cX0_workOut 6 = .ok (.getfield 23, 3) := by decide +kernel
theorem dX0_workOut_9 : decode cX0_workOut 9 = .ok (.iload_n 1, 1) := by decide +kernel
theorem dX0_workOut_10 : decode cX0_workOut 10 = .ok (.aload_n 0, 1) := by decide +kernel
theorem dX0_workOut_11 : decode cX0_workOut 11 = .ok (.invokevirtual 78, 3) := by decide +kernel
theorem dX0_workOut_14 : decode cX0_workOut 14 = .ok (.iastore, 1) := by decide +kernel
theorem dX0_workOut_15 : decode cX0_workOut 15 = .ok (.aload_n 0, 1) := by decide +kernel
theorem dX0_workOut_16 : decode cX0_workOut 16 = .ok (.getfield 23, 3) := by decide +kernel
theorem dX0_workOut_19 : decode cX0_workOut 19 = .ok (.iload_n 1, 1) := by decide +kernel
theorem dX0_workOut_20 : decode cX0_workOut 20 = .ok (.iaload, 1) := by decide +kernel
theorem dX0_workOut_21 : decode cX0_workOut 21 = .ok (.bipush (-6), 2) := by decide +kernel
theorem dX0_workOut_23 : decode cX0_workOut 23 = .ok (.if_icmp .eq 4, 3) := by decide +kernel
theorem dX0_workOut_26 : decode cX0_workOut 26 = .ok (.return_, 1) := by decide +kernel
theorem dX0_workOut_27 : decode cX0_workOut 27 = .ok (.aload_n 0, 1) := by decide +kernel
theorem dX0_workOut_28 : decode cX0_workOut 28 = .ok (.getfield 19, 3) := by decide +kernel
theorem dX0_workOut_31 : decode cX0_workOut 31 = .ok (.iload_n 1, 1) := by decide +kernel
theorem dX0_workOut_32 : decode cX0_workOut 32 = .ok (.lconst 0, 1) := by decide +kernel
theorem dX0_workOut_33 : decode cX0_workOut 33 = .ok (.lastore, 1) := by decide +kernel
theorem dX0_workOut_34 : decode cX0_workOut 34 = .ok (.aload_n 0, 1) := by decide +kernel
theorem dX0_workOut_35 : decode cX0_workOut 35 = .ok (.getfield 15, 3) := by decide +kernel
theorem dX0_workOut_38 : decode cX0_workOut 38 = .ok (.getfield 50, 3) := by decide +kernel
theorem dX0_workOut_41 : decode cX0_workOut 41 = .ok (.ifCond .le 21, 3) := by decide +kernel
theorem dX0_workOut_44 : decode cX0_workOut 44 = .ok (.aload_n 0, 1) := by decide +kernel
theorem dX0_workOut_45 : decode cX0_workOut 45 = .ok (.invokevirtual 82, 3) := by decide +kernel
theorem dX0_workOut_48 : decode cX0_workOut 48 = .ok (.aload_n 0, 1) := by decide +kernel
theorem dX0_workOut_49 : decode cX0_workOut 49 = .ok (.getfield 19, 3) := by decide +kernel
theorem dX0_workOut_52 : decode cX0_workOut 52 = .ok (.iload_n 1, 1) := by decide +kernel
theorem dX0_workOut_53 : decode cX0_workOut 53 = .ok (.aload_n 0, 1) := by decide +kernel
theorem dX0_workOut_54 : decode cX0_workOut 54 = .ok (.invokevirtual 85, 3) := by decide +kernel
theorem dX0_workOut_57 : decode cX0_workOut 57 = .ok (.lastore, 1) := by decide +kernel
theorem dX0_workOut_58 : decode cX0_workOut 58 = .ok (.aload_n 0, 1) := by decide +kernel
theorem dX0_workOut_59 : decode cX0_workOut 59 = .ok (.invokevirtual 89, 3) := by decide +kernel
theorem dX0_workOut_62 : decode cX0_workOut 62 = .ok (.return_, 1) := by decide +kernel
set_option maxRecDepth 20000 in
theorem ggX0_layLeftmost_X3_dotsOfStem : GoodIn wsX0_layLeftmost wsX3_dotsOfStem := goodIn_r _ [13, 14, 15, 16, 17, 12, 18, 19, 20, 21, 22, 23, 24, 25, 26, 27, 28, 41, 42, 43, 44, 45, 46, 47, 48, 49, 50, 51] (by decide +kernel) (by decide +kernel)
set_option maxRecDepth 20000 in
theorem gX0_layLeftmost_X3_dotsOfStem : GoodIn wsX0_layLeftmost (wsV RX0 71 RX3 yX3_dotsOfStem wsX3_dotsOfStem) := goodIn_app (goodIn_of _ (by decide +kernel)) ggX0_layLeftmost_X3_dotsOfStem
theorem dX0_layLeftmost_0 : decode cX0_layLeftmost 0 = .ok (.iconst 0, 1) := by decide +kernel
theorem dX0_layLeftmost_1 : decode cX0_layLeftmost 1 = .ok (.istore_n 1, 1) := by decide +kernel
theorem dX0_layLeftmost_2 : decode cX0_layLeftmost 2 = .ok (.aload_n 0, 1) := by decide +kernel
theorem dX0_layLeftmost_3 : decode cX0_layLeftmost 3 = .ok (.iconst 0, 1) := by decide +kernel
theorem dX0_layLeftmost_4 : decode cX0_layLeftmost 4 = .ok (.putfield 92, 3) := by decide +kernel
theorem dX0_layLeftmost_7 : decode cX0_layLeftmost 7 = .ok (.iconst 0, 1) := by decide +kernel
theorem dX0_layLeftmost_8 : decode cX0_layLeftmost 8 = .ok (.istore_n 2, 1) := by decide +kernel
theorem dX0_layLeftmost_9 : decode cX0_layLeftmost 9 = .ok (.iload_n 2, 1) := by decide +kernel
theorem dX0_layLeftmost_10 : decode cX0_layLeftmost 10 = .ok (.aload_n 0, 1) := by decide +kernel
theorem dX0_layLeftmost_11 : decode cX0_layLeftmost 11 = .ok (.getfield 15, 3) := by decide +kernel
theorem dX0_layLeftmost_14 : decode cX0_layLeftmost 14 = .ok (.getfield 50, 3) := by decide +kernel
theorem dX0_layLeftmost_17 : decode cX0_layLeftmost 17 = .ok (.if_icmp .ge 80, 3) := by decide +kernel
theorem dX0_layLeftmost_20 : decode cX0_layLeftmost 20 = .ok (.aload_n 0, 1) := by decide +kernel
theorem dX0_layLeftmost_21 : decode cX0_layLeftmost 21 = .ok (.getfield 34, 3) := by decide +kernel
theorem dX0_layLeftmost_24 : decode cX0_layLeftmost 24 = .ok (.iload_n 2, 1) := by decide +kernel
theorem dX0_layLeftmost_25 : decode cX0_layLeftmost 25 = .ok (.aload_n 0, 1) := by decide +kernel
theorem dX0_layLeftmost_26 : decode cX0_layLeftmost 26 = .ok (.getfield 15, 3) := by decide +kernel
theorem dX0_layLeftmost_29 : decode cX0_layLeftmost 29 = .ok (.iload_n 2, 1) := by decide +kernel
theorem dX0_layLeftmost_30 : decode cX0_layLeftmost 30 = .ok (.aload_n 0, 1) := by decide +kernel
theorem dX0_layLeftmost_31 : decode cX0_layLeftmost 31 = .ok (.getfield 75, 3) := by decide +kernel
theorem dX0_layLeftmost_34 : decode cX0_layLeftmost 34 = .ok (.aload_n 0, 1) := by decide +kernel
theorem dX0_layLeftmost_35 : decode cX0_layLeftmost 35 = .ok (.getfield 9, 3) := by decide +kernel
theorem dX0_layLeftmost_38 : decode cX0_layLeftmost 38 = .ok (.getfield 66, 3) := by decide +kernel
theorem dX0_layLeftmost_41 : decode cX0_layLeftmost 41 = .ok (.iconst 4, 1) := by decide +kernel
theorem dX0_layLeftmost_42 : decode cX0_layLeftmost 42 = .ok (.iaload, 1) := by decide +kernel
theorem dX0_layLeftmost_43 : decode cX0_layLeftmost 43 = .ok (.invokevirtual 71, 3) := by decide +kernel
theorem dX0_layLeftmost_46 : decode cX0_layLeftmost 46 = .ok (.iastore, 1) := by decide +kernel
theorem dX0_layLeftmost_47 : decode cX0_layLeftmost 47 = .ok (.aload_n 0, 1) := by decide +kernel
theorem dX0_layLeftmost_48 : decode cX0_layLeftmost 48 = .ok (.getfield 37, 3) := by decide +kernel
theorem dX0_layLeftmost_51 : decode cX0_layLeftmost 51 = .ok (.iload_n 2, 1) := by decide +kernel
theorem dX0_layLeftmost_52 : decode cX0_layLeftmost 52 = .ok (.iload_n 1, 1) := by decide +kernel
theorem dX0_layLeftmost_53 : decode cX0_layLeftmost 53 = .ok (.iastore, 1) := by decide +kernel
theorem dX0_layLeftmost_54 : decode cX0_layLeftmost 54 = .ok (.aload_n 0, 1) := by decide +kernel
theorem dX0_layLeftmost_55 : decode cX0_layLeftmost 55 = .ok (.aload_n 0, 1) := by decide +kernel
theorem dX0_layLeftmost_56 : decode cX0_layLeftmost 56 = .ok (.getfield 75, 3) := by decide +kernel
theorem dX0_layLeftmost_59 : decode cX0_layLeftmost 59 = .ok (.iload_n 1, 1) := by decide +kernel
theorem dX0_layLeftmost_60 : decode cX0_layLeftmost 60 = .ok (.isub, 1) := by decide +kernel
theorem dX0_layLeftmost_61 : decode cX0_layLeftmost 61 = .ok (.aload_n 0, 1) := by decide +kernel
theorem dX0_layLeftmost_62 : decode cX0_layLeftmost 62 = .ok (.getfield 34, 3) := by decide +kernel
theorem dX0_layLeftmost_65 : decode cX0_layLeftmost 65 = .ok (.iload_n 2, 1) := by decide +kernel
theorem dX0_layLeftmost_66 : decode cX0_layLeftmost 66 = .ok (.iaload, 1) := by decide +kernel
theorem dX0_layLeftmost_67 : decode cX0_layLeftmost 67 = .ok (.isub, 1) := by decide +kernel
theorem dX0_layLeftmost_68 : decode cX0_layLeftmost 68 = .ok (.putfield 92, 3) := by decide +kernel
theorem dX0_layLeftmost_71 : decode cX0_layLeftmost 71 = .ok (.aload_n 0, 1) := by decide +kernel
theorem dX0_layLeftmost_72 : decode cX0_layLeftmost 72 = .ok (.getfield 92, 3) := by decide +kernel
theorem dX0_layLeftmost_75 : decode cX0_layLeftmost 75 = .ok (.ifCond .ge 5, 3) := by decide +kernel
theorem dX0_layLeftmost_78 : decode cX0_layLeftmost 78 = .ok (.iload_n 2, 1) := by decide +kernel
theorem dX0_layLeftmost_79 : decode cX0_layLeftmost 79 = .ok (.ireturn, 1) := by decide +kernel
theorem dX0_layLeftmost_80 : decode cX0_layLeftmost 80 = .ok (.iload_n 1, 1) := by decide +kernel
theorem dX0_layLeftmost_81 : decode cX0_layLeftmost 81 = .ok (.aload_n 0, 1) := by decide +kernel
theorem dX0_layLeftmost_82 : decode cX0_layLeftmost 82 = .ok (.getfield 34, 3) := by decide +kernel
theorem dX0_layLeftmost_85 : decode cX0_layLeftmost 85 = .ok (.iload_n 2, 1) := by decide +kernel
theorem dX0_layLeftmost_86 : decode cX0_layLeftmost 86 = .ok (.iaload, 1) := by decide +kernel
theorem dX0_layLeftmost_87 : decode cX0_layLeftmost 87 = .ok (.iconst 1, 1) := by decide +kernel
theorem dX0_layLeftmost_88 : decode cX0_layLeftmost 88 = .ok (.iadd, 1) := by decide +kernel
theorem dX0_layLeftmost_89 : decode cX0_layLeftmost 89 = .ok (.iadd, 1) := by decide +kernel
theorem dX0_layLeftmost_90 : decode cX0_layLeftmost 90 = .ok (.istore_n 1, 1) := by decide +kernel
theorem dX0_layLeftmost_91 : decode cX0_layLeftmost 91 = .ok (.iinc 2 1, 3) := by decide +kernel
theorem dX0_layLeftmost_94 : decode cX0_layLeftmost 94 = .ok (.goto (-85), 3) := by decide +kernel
theorem dX0_layLeftmost_97 : decode cX0_layLeftmost 97 = .ok (.bipush (-6), 2) := by decide +kernel
theorem dX0_layLeftmost_99 : decode cX0_layLeftmost 99 = .ok (.ireturn, 1) := by decide +kernel
set_option maxRecDepth 20000 in
theorem ggX0_weighRests_X0_weighGapsBehind : GoodIn wsX0_weighRests wsX0_weighGapsBehind := goodIn_r _ [9, 1, 2, 3, 10, 11, 12, 13, 8, 14, 15, 16, 17, 18, 19, 20, 21, 22, 23, 24, 25, 26, 27, 28, 53, 54, 55, 56, 57, 58, 59, 60, 61, 62, 63, 64, 65, 66, 67, 68, 69, 70, 71, 72, 73, 74, 75, 76, 77, 78, 79, 80, 81] (by decide +kernel) (by decide +kernel)
set_option maxRecDepth 20000 in
theorem gX0_weighRests_X0_weighGapsBehind : GoodIn wsX0_weighRests (wsV RX0 95 RX0 yX0_weighGapsBehind wsX0_weighGapsBehind) := goodIn_app (goodIn_of _ (by decide +kernel)) ggX0_weighRests_X0_weighGapsBehind
set_option maxRecDepth 20000 in
theorem ggX0_weighRests_X0_restAt : GoodIn wsX0_weighRests wsX0_restAt := goodIn_r _ [32, 1, 2, 10, 4, 3, 33, 34, 20, 35, 36, 37, 38, 8, 39, 40, 41, 15, 16, 17, 18, 19, 21, 22, 23, 24, 25, 26, 27, 28, 42, 43, 44, 45, 46, 47, 48, 49, 50, 51, 52, 53, 54, 55, 56, 57, 58, 59, 60, 61, 62, 63, 64, 65, 66, 67, 68, 69, 70, 71, 72, 73, 74, 75, 76, 77, 78, 79, 80, 81] (by decide +kernel) (by decide +kernel)
set_option maxRecDepth 20000 in
theorem gX0_weighRests_X0_restAt : GoodIn wsX0_weighRests (wsV RX0 98 RX0 yX0_restAt wsX0_restAt) := goodIn_app (goodIn_of _ (by decide +kernel)) ggX0_weighRests_X0_restAt
theorem dX0_weighRests_0 : decode cX0_weighRests 0 = .ok (.aload_n 0, 1) := by decide +kernel
theorem dX0_weighRests_1 : decode cX0_weighRests 1 = .ok (.getfield 15, 3) := by decide +kernel
theorem dX0_weighRests_4 : decode cX0_weighRests 4 = .ok (.getfield 50, 3) := by decide +kernel
theorem dX0_weighRests_7 : decode cX0_weighRests 7 = .ok (.iconst 1, 1) := by decide +kernel
theorem dX0_weighRests_8 : decode cX0_weighRests 8 = .ok (.isub, 1) := by decide +kernel
theorem dX0_weighRests_9 : decode cX0_weighRests 9 = .ok (.istore_n 1, 1) := by decide +kernel
theorem dX0_weighRests_10 : decode cX0_weighRests 10 = .ok (.iload_n 1, 1) := by decide +kernel
theorem dX0_weighRests_11 : decode cX0_weighRests 11 = .ok (.ifCond .lt 53, 3) := by decide +kernel
theorem dX0_weighRests_14 : decode cX0_weighRests 14 = .ok (.aload_n 0, 1) := by decide +kernel
theorem dX0_weighRests_15 : decode cX0_weighRests 15 = .ok (.iload_n 1, 1) := by decide +kernel
theorem dX0_weighRests_16 : decode cX0_weighRests 16 = .ok (.invokevirtual 95, 3) := by decide +kernel
theorem dX0_weighRests_19 : decode cX0_weighRests 19 = .ok (.iconst 0, 1) := by decide +kernel
theorem dX0_weighRests_20 : decode cX0_weighRests 20 = .ok (.istore_n 2, 1) := by decide +kernel
theorem dX0_weighRests_21 : decode cX0_weighRests 21 = .ok (.iload_n 2, 1) := by decide +kernel
theorem dX0_weighRests_22 : decode cX0_weighRests 22 = .ok (.aload_n 0, 1) := by decide +kernel
theorem dX0_weighRests_23 : decode cX0_weighRests 23 = .ok (.getfield 92, 3) := by decide +kernel
theorem dX0_weighRests_26 : decode cX0_weighRests 26 = .ok (.if_icmp .gt 32, 3) := by decide +kernel
theorem dX0_weighRests_29 : decode cX0_weighRests 29 = .ok (.iload_n 2, 1) := by decide +kernel
theorem dX0_weighRests_30 : decode cX0_weighRests 30 = .ok (.bipush 60, 2) := by decide +kernel
theorem dX0_weighRests_32 : decode cX0_weighRests 32 = .ok (.if_icmp .ge 26, 3) := by decide +kernel
theorem dX0_weighRests_35 : decode cX0_weighRests 35 = .ok (.aload_n 0, 1) := by decide +kernel
theorem dX0_weighRests_36 : decode cX0_weighRests 36 = .ok (.getfield 40, 3) := by decide +kernel
theorem dX0_weighRests_39 : decode cX0_weighRests 39 = .ok (.iload_n 1, 1) := by decide +kernel
theorem dX0_weighRests_40 : decode cX0_weighRests 40 = .ok (.bipush 60, 2) := by decide +kernel
theorem dX0_weighRests_42 : decode cX0_weighRests 42 = .ok (.imul, 1) := by decide +kernel
theorem dX0_weighRests_43 : decode cX0_weighRests 43 = .ok (.iload_n 2, 1) := by decide +kernel
theorem dX0_weighRests_44 : decode cX0_weighRests 44 = .ok (.iadd, 1) := by decide +kernel
theorem dX0_weighRests_45 : decode cX0_weighRests 45 = .ok (.aload_n 0, 1) := by decide +kernel
theorem dX0_weighRests_46 : decode cX0_weighRests 46 = .ok (.iload_n 1, 1) := by decide +kernel
theorem dX0_weighRests_47 : decode cX0_weighRests 47 = .ok (.iload_n 2, 1) := by decide +kernel
theorem dX0_weighRests_48 : decode cX0_weighRests 48 = .ok (.invokevirtual 98, 3) := by decide +kernel
theorem dX0_weighRests_51 : decode cX0_weighRests 51 = .ok (.lastore, 1) := by decide +kernel
theorem dX0_weighRests_52 : decode cX0_weighRests 52 = .ok (.iinc 2 1, 3) := by decide +kernel
theorem dX0_weighRests_55 : decode cX0_weighRests 55 = .ok (.goto (-34), 3) := by decide +kernel
theorem dX0_weighRests_58 : decode cX0_weighRests 58 = .ok (.iinc 1 (-1), 3) := by decide +kernel
theorem dX0_weighRests_61 : decode cX0_weighRests 61 = .ok (.goto (-51), 3) := by decide +kernel
theorem dX0_weighRests_64 : decode cX0_weighRests 64 = .ok (.return_, 1) := by decide +kernel
set_option maxRecDepth 20000 in
theorem ggX0_weighGapsBehind_X0_gapCost : GoodIn wsX0_weighGapsBehind wsX0_gapCost := goodIn_r _ [9, 1, 10, 11, 12, 13, 14, 15, 16, 17, 18, 19, 20, 21, 8, 22, 23, 24, 25, 26, 27, 28, 29, 30, 31, 32, 33, 34, 35, 36, 37, 38, 39, 40, 41, 42, 43, 44, 45, 46, 47, 48, 49, 50, 51, 52] (by decide +kernel) (by decide +kernel)
set_option maxRecDepth 20000 in
theorem gX0_weighGapsBehind_X0_gapCost : GoodIn wsX0_weighGapsBehind (wsV RX0 102 RX0 yX0_gapCost wsX0_gapCost) := goodIn_app (goodIn_of _ (by decide +kernel)) ggX0_weighGapsBehind_X0_gapCost
theorem dX0_weighGapsBehind_0 : decode cX0_weighGapsBehind 0 = .ok (.iconst 0, 1) := by decide +kernel
theorem dX0_weighGapsBehind_1 : decode cX0_weighGapsBehind 1 = .ok (.istore_n 2, 1) := by decide +kernel
theorem dX0_weighGapsBehind_2 : decode cX0_weighGapsBehind 2 = .ok (.iload_n 1, 1) := by decide +kernel
theorem dX0_weighGapsBehind_3 : decode cX0_weighGapsBehind 3 = .ok (.iconst 1, 1) := by decide +kernel
theorem dX0_weighGapsBehind_4 : decode cX0_weighGapsBehind 4 = .ok (.iadd, 1) := by decide +kernel
theorem dX0_weighGapsBehind_5 : decode cX0_weighGapsBehind 5 = .ok (.aload_n 0, 1) := by decide +kernel
theorem dX0_weighGapsBehind_6 : decode cX0_weighGapsBehind 6 = .ok (.getfield 15, 3) := by decide +kernel
theorem dX0_weighGapsBehind_9 : decode cX0_weighGapsBehind 9 = .ok (.getfield 50, 3) := by decide +kernel
theorem dX0_weighGapsBehind_12 : decode cX0_weighGapsBehind 12 = .ok (.if_icmp .ge 35, 3) := by decide +kernel
theorem dX0_weighGapsBehind_15 : decode cX0_weighGapsBehind 15 = .ok (.iload_n 2, 1) := by decide +kernel
theorem dX0_weighGapsBehind_16 : decode cX0_weighGapsBehind 16 = .ok (.aload_n 0, 1) := by decide +kernel
theorem dX0_weighGapsBehind_17 : decode cX0_weighGapsBehind 17 = .ok (.getfield 92, 3) := by decide +kernel
theorem dX0_weighGapsBehind_20 : decode cX0_weighGapsBehind 20 = .ok (.if_icmp .gt 27, 3) := by decide +kernel
theorem dX0_weighGapsBehind_23 : decode cX0_weighGapsBehind 23 = .ok (.iload_n 2, 1) := by decide +kernel
theorem dX0_weighGapsBehind_24 : decode cX0_weighGapsBehind 24 = .ok (.bipush 60, 2) := by decide +kernel
theorem dX0_weighGapsBehind_26 : decode cX0_weighGapsBehind 26 = .ok (.if_icmp .ge 21, 3) := by decide +kernel
theorem dX0_weighGapsBehind_29 : decode cX0_weighGapsBehind 29 = .ok (.aload_n 0, 1) := by decide +kernel
theorem dX0_weighGapsBehind_30 : decode cX0_weighGapsBehind 30 = .ok (.getfield 43, 3) := by decide +kernel
theorem dX0_weighGapsBehind_33 : decode cX0_weighGapsBehind 33 = .ok (.iload_n 2, 1) := by decide +kernel
theorem dX0_weighGapsBehind_34 : decode cX0_weighGapsBehind 34 = .ok (.aload_n 0, 1) := by decide +kernel
theorem dX0_weighGapsBehind_35 : decode cX0_weighGapsBehind 35 = .ok (.iload_n 1, 1) := by decide +kernel
theorem dX0_weighGapsBehind_36 : decode cX0_weighGapsBehind 36 = .ok (.iload_n 2, 1) := by decide +kernel
theorem dX0_weighGapsBehind_37 : decode cX0_weighGapsBehind 37 = .ok (.invokevirtual 102, 3) := by decide +kernel
theorem dX0_weighGapsBehind_40 : decode cX0_weighGapsBehind 40 = .ok (.lastore, 1) := by decide +kernel
theorem dX0_weighGapsBehind_41 : decode cX0_weighGapsBehind 41 = .ok (.iinc 2 1, 3) := by decide +kernel
theorem dX0_weighGapsBehind_44 : decode cX0_weighGapsBehind 44 = .ok (.goto (-42), 3) := by decide +kernel
theorem dX0_weighGapsBehind_47 : decode cX0_weighGapsBehind 47 = .ok (.return_, 1) := by decide +kernel
set_option maxRecDepth 20000 in
theorem ggX0_restAt_X0_stemCost : GoodIn wsX0_restAt wsX0_stemCost := goodIn_r _ [14, 15, 16, 1, 17, 18, 19, 20, 21, 8, 22, 23, 24, 25, 26, 27, 13, 28, 29, 41, 42, 43, 44, 45, 46, 47, 48, 49, 50, 51, 52, 53, 54, 55, 56, 57, 58, 59, 60, 61, 62, 63, 64, 65, 66, 67, 68, 69] (by decide +kernel) (by decide +kernel)
set_option maxRecDepth 20000 in
theorem gX0_restAt_X0_stemCost : GoodIn wsX0_restAt (wsV RX0 105 RX0 yX0_stemCost wsX0_stemCost) := goodIn_app (goodIn_of _ (by decide +kernel)) ggX0_restAt_X0_stemCost
set_option maxRecDepth 20000 in
theorem ggX0_restAt_X0_joined : GoodIn wsX0_restAt wsX0_joined := goodIn_r _ [33, 34, 35, 8, 36, 37, 38, 39, 13, 40, 23, 24, 41, 42, 43, 44, 45, 46, 47, 48, 49, 50, 51, 52, 64, 65, 66, 67, 68, 69] (by decide +kernel) (by decide +kernel)
set_option maxRecDepth 20000 in
theorem gX0_restAt_X0_joined : GoodIn wsX0_restAt (wsV RX0 108 RX0 yX0_joined wsX0_joined) := goodIn_app (goodIn_of _ (by decide +kernel)) ggX0_restAt_X0_joined
theorem dX0_restAt_0 : decode cX0_restAt 0 = .ok (.aload_n 0, 1) := by decide +kernel
theorem dX0_restAt_1 : decode cX0_restAt 1 = .ok (.iload_n 1, 1) := by decide +kernel
theorem dX0_restAt_2 : decode cX0_restAt 2 = .ok (.iload_n 2, 1) := by decide +kernel
theorem dX0_restAt_3 : decode cX0_restAt 3 = .ok (.invokevirtual 105, 3) := by decide +kernel
theorem dX0_restAt_6 : decode cX0_restAt 6 = .ok (.lstore_n 3, 1) := by decide +kernel
theorem dX0_restAt_7 : decode cX0_restAt 7 = .ok (.iload_n 1, 1) := by decide +kernel
theorem dX0_restAt_8 : decode cX0_restAt 8 = .ok (.iconst 1, 1) := by decide +kernel
theorem dX0_restAt_9 : decode cX0_restAt 9 = .ok (.iadd, 1) := by decide +kernel
theorem dX0_restAt_10 : decode cX0_restAt 10 = .ok (.aload_n 0, 1) := by decide +kernel
theorem dX0_restAt_11 : decode cX0_restAt 11 = .ok (.getfield 15, 3) := by decide +kernel
theorem dX0_restAt_14 : decode cX0_restAt 14 = .ok (.getfield 50, 3) := by decide +kernel
theorem dX0_restAt_17 : decode cX0_restAt 17 = .ok (.if_icmp .lt 5, 3) := by decide +kernel
theorem dX0_restAt_20 : decode cX0_restAt 20 = .ok (.lload_n 3, 1) := by decide +kernel
theorem dX0_restAt_21 : decode cX0_restAt 21 = .ok (.lreturn, 1) := by decide +kernel
theorem dX0_restAt_22 : decode cX0_restAt 22 = .ok (.aload_n 0, 1) := by decide +kernel
theorem dX0_restAt_23 : decode cX0_restAt 23 = .ok (.aload_n 0, 1) := by decide +kernel
theorem dX0_restAt_24 : decode cX0_restAt 24 = .ok (.getfield 43, 3) := by decide +kernel
theorem dX0_restAt_27 : decode cX0_restAt 27 = .ok (.iconst 0, 1) := by decide +kernel
theorem dX0_restAt_28 : decode cX0_restAt 28 = .ok (.laload, 1) := by decide +kernel
theorem dX0_restAt_29 : decode cX0_restAt 29 = .ok (.aload_n 0, 1) := by decide +kernel
theorem dX0_restAt_30 : decode cX0_restAt 30 = .ok (.getfield 40, 3) := by decide +kernel
theorem dX0_restAt_33 : decode cX0_restAt 33 = .ok (.iload_n 1, 1) := by decide +kernel
theorem dX0_restAt_34 : decode cX0_restAt 34 = .ok (.iconst 1, 1) := by decide +kernel
theorem dX0_restAt_35 : decode cX0_restAt 35 = .ok (.iadd, 1) := by decide +kernel
theorem dX0_restAt_36 : decode cX0_restAt 36 = .ok (.bipush 60, 2) := by decide +kernel
theorem dX0_restAt_38 : decode cX0_restAt 38 = .ok (.imul, 1) := by decide +kernel
theorem dX0_restAt_39 : decode cX0_restAt 39 = .ok (.iload_n 2, 1) := by decide +kernel
theorem dX0_restAt_40 : decode cX0_restAt 40 = .ok (.iadd, 1) := by decide +kernel
theorem dX0_restAt_41 : decode cX0_restAt 41 = .ok (.laload, 1) := by decide +kernel
theorem dX0_restAt_42 : decode cX0_restAt 42 = .ok (.invokevirtual 108, 3) := by decide +kernel
theorem dX0_restAt_45 : decode cX0_restAt 45 = .ok (.lstore 5, 2) := by decide +kernel
theorem dX0_restAt_47 : decode cX0_restAt 47 = .ok (.iload_n 2, 1) := by decide +kernel
theorem dX0_restAt_48 : decode cX0_restAt 48 = .ok (.iconst 1, 1) := by decide +kernel
theorem dX0_restAt_49 : decode cX0_restAt 49 = .ok (.iadd, 1) := by decide +kernel
theorem dX0_restAt_50 : decode cX0_restAt 50 = .ok (.istore 7, 2) := by decide +kernel
theorem dX0_restAt_52 : decode cX0_restAt 52 = .ok (.iload 7, 2) := by decide +kernel
theorem dX0_restAt_54 : decode cX0_restAt 54 = .ok (.aload_n 0, 1) := by decide +kernel
theorem dX0_restAt_55 : decode cX0_restAt 55 = .ok (.getfield 92, 3) := by decide +kernel
theorem dX0_restAt_58 : decode cX0_restAt 58 = .ok (.if_icmp .gt 50, 3) := by decide +kernel
theorem dX0_restAt_61 : decode cX0_restAt 61 = .ok (.iload 7, 2) := by decide +kernel
theorem dX0_restAt_63 : decode cX0_restAt 63 = .ok (.bipush 60, 2) := by decide +kernel
theorem dX0_restAt_65 : decode cX0_restAt 65 = .ok (.if_icmp .ge 43, 3) := by decide +kernel
theorem dX0_restAt_68 : decode cX0_restAt 68 = .ok (.lload 5, 2) := by decide +kernel
theorem dX0_restAt_70 : decode cX0_restAt 70 = .ok (.aload_n 0, 1) := by decide +kernel
theorem dX0_restAt_71 : decode cX0_restAt 71 = .ok (.aload_n 0, 1) := by decide +kernel
theorem dX0_restAt_72 : decode cX0_restAt 72 = .ok (.getfield 43, 3) := by decide +kernel
theorem dX0_restAt_75 : decode cX0_restAt 75 = .ok (.iload 7, 2) := by decide +kernel
theorem dX0_restAt_77 : decode cX0_restAt 77 = .ok (.iload_n 2, 1) := by decide +kernel
theorem dX0_restAt_78 : decode cX0_restAt 78 = .ok (.isub, 1) := by decide +kernel
theorem dX0_restAt_79 : decode cX0_restAt 79 = .ok (.laload, 1) := by decide +kernel
theorem dX0_restAt_80 : decode cX0_restAt 80 = .ok (.aload_n 0, 1) := by decide +kernel
theorem dX0_restAt_81 : decode cX0_restAt 81 = .ok (.getfield 40, 3) := by decide +kernel
theorem dX0_restAt_84 : decode cX0_restAt 84 = .ok (.iload_n 1, 1) := by decide +kernel
theorem dX0_restAt_85 : decode cX0_restAt 85 = .ok (.iconst 1, 1) := by decide +kernel
theorem dX0_restAt_86 : decode cX0_restAt 86 = .ok (.iadd, 1) := by decide +kernel
theorem dX0_restAt_87 : decode cX0_restAt 87 = .ok (.bipush 60, 2) := by decide +kernel
theorem dX0_restAt_89 : decode cX0_restAt 89 = .ok (.imul, 1) := by decide +kernel
theorem dX0_restAt_90 : decode cX0_restAt 90 = .ok (.iload 7, 2) := by decide +kernel
theorem dX0_restAt_92 : decode cX0_restAt 92 = .ok (.iadd, 1) := by decide +kernel
theorem dX0_restAt_93 : decode cX0_restAt 93 = .ok (.laload, 1) := by decide +kernel
theorem dX0_restAt_94 : decode cX0_restAt 94 = .ok (.invokevirtual 108, 3) := by decide +kernel
theorem dX0_restAt_97 : decode cX0_restAt 97 = .ok (.invokestatic 112, 3) := by decide +kernel
theorem dX0_restAt_100 : decode cX0_restAt 100 = .ok (.lstore 5, 2) := by decide +kernel
theorem dX0_restAt_102 : decode cX0_restAt 102 = .ok (.iinc 7 1, 3) := by decide +kernel
theorem dX0_restAt_105 : decode cX0_restAt 105 = .ok (.goto (-53), 3) := by decide +kernel
theorem dX0_restAt_108 : decode cX0_restAt 108 = .ok (.aload_n 0, 1) := by decide +kernel
theorem dX0_restAt_109 : decode cX0_restAt 109 = .ok (.lload_n 3, 1) := by decide +kernel
theorem dX0_restAt_110 : decode cX0_restAt 110 = .ok (.lload 5, 2) := by decide +kernel
theorem dX0_restAt_112 : decode cX0_restAt 112 = .ok (.invokevirtual 108, 3) := by decide +kernel
theorem dX0_restAt_115 : decode cX0_restAt 115 = .ok (.lreturn, 1) := by decide +kernel
theorem dX0_leastRest_0 : decode cX0_leastRest 0 = .ok (.aload_n 0, 1) := by decide +kernel
theorem dX0_leastRest_1 : decode cX0_leastRest 1 = .ok (.getfield 40, 3) := by decide +kernel
theorem dX0_leastRest_4 : decode cX0_leastRest 4 = .ok (.iconst 0, 1) := by decide +kernel
theorem dX0_leastRest_5 : decode cX0_leastRest 5 = .ok (.laload, 1) := by decide +kernel
theorem dX0_leastRest_6 : decode cX0_leastRest 6 = .ok (.lstore_n 1, 1) := by decide +kernel
theorem dX0_leastRest_7 : decode cX0_leastRest 7 = .ok (.iconst 1, 1) := by decide +kernel
theorem dX0_leastRest_8 : decode cX0_leastRest 8 = .ok (.istore_n 3, 1) := by decide +kernel
theorem dX0_leastRest_9 : decode cX0_leastRest 9 = .ok (.iload_n 3, 1) := by decide +kernel
theorem dX0_leastRest_10 : decode cX0_leastRest 10 = .ok (.aload_n 0, 1) := by decide +kernel
theorem dX0_leastRest_11 : decode cX0_leastRest 11 = .ok (.getfield 92, 3) := by decide +kernel
theorem dX0_leastRest_14 : decode cX0_leastRest 14 = .ok (.if_icmp .gt 26, 3) := by decide +kernel
theorem dX0_leastRest_17 : decode cX0_leastRest 17 = .ok (.iload_n 3, 1) := by decide +kernel
theorem dX0_leastRest_18 : decode cX0_leastRest 18 = .ok (.bipush 60, 2) := by decide +kernel
theorem dX0_leastRest_20 : decode cX0_leastRest 20 = .ok (.if_icmp .ge 20, 3) := by decide +kernel
theorem dX0_leastRest_23 : decode cX0_leastRest 23 = .ok (.lload_n 1, 1) := by decide +kernel
theorem dX0_leastRest_24 : decode cX0_leastRest 24 = .ok (.aload_n 0, 1) := by decide +kernel
theorem dX0_leastRest_25 : decode cX0_leastRest 25 = .ok (.getfield 40, 3) := by decide +kernel
theorem dX0_leastRest_28 : decode cX0_leastRest 28 = .ok (.iload_n 3, 1) := by decide +kernel
theorem dX0_leastRest_29 : decode cX0_leastRest 29 = .ok (.laload, 1) := by decide +kernel
theorem dX0_leastRest_30 : decode cX0_leastRest 30 = .ok (.invokestatic 112, 3) := by decide +kernel
theorem dX0_leastRest_33 : decode cX0_leastRest 33 = .ok (.lstore_n 1, 1) := by decide +kernel
theorem dX0_leastRest_34 : decode cX0_leastRest 34 = .ok (.iinc 3 1, 3) := by decide +kernel
theorem dX0_leastRest_37 : decode cX0_leastRest 37 = .ok (.goto (-28), 3) := by decide +kernel
theorem dX0_leastRest_40 : decode cX0_leastRest 40 = .ok (.lload_n 1, 1) := by decide +kernel
theorem dX0_leastRest_41 : decode cX0_leastRest 41 = .ok (.lreturn, 1) := by decide +kernel
set_option maxRecDepth 20000 in
theorem ggX0_layLeast_X0_comesTo : GoodIn wsX0_layLeast wsX0_comesTo := goodIn_r _ [12, 13, 14, 15, 16, 11, 17, 3, 18, 19, 2, 20, 21, 22, 23, 24, 25, 26, 27, 28, 29, 30, 31, 32, 33, 34, 35, 36, 37, 38, 39, 40, 41, 51, 52, 53, 54, 55, 56, 57, 58, 59, 60, 61, 62, 63, 64, 65, 66, 67, 68, 69, 70, 71, 72, 73, 74, 75, 76, 77, 78, 79] (by decide +kernel) (by decide +kernel)
set_option maxRecDepth 20000 in
theorem gX0_layLeast_X0_comesTo : GoodIn wsX0_layLeast (wsV RX0 117 RX0 yX0_comesTo wsX0_comesTo) := goodIn_app (goodIn_of _ (by decide +kernel)) ggX0_layLeast_X0_comesTo
set_option maxRecDepth 20000 in
theorem ggX0_layLeast_X0_stemCost : GoodIn wsX0_layLeast wsX0_stemCost := goodIn_r _ [45, 7, 46, 3, 18, 19, 2, 20, 21, 22, 23, 24, 25, 26, 27, 28, 11, 29, 30, 51, 52, 53, 54, 55, 56, 57, 58, 59, 60, 61, 62, 63, 64, 65, 66, 67, 68, 69, 70, 71, 72, 73, 74, 75, 76, 77, 78, 79] (by decide +kernel) (by decide +kernel)
set_option maxRecDepth 20000 in
theorem gX0_layLeast_X0_stemCost : GoodIn wsX0_layLeast (wsV RX0 105 RX0 yX0_stemCost wsX0_stemCost) := goodIn_app (goodIn_of _ (by decide +kernel)) ggX0_layLeast_X0_stemCost
set_option maxRecDepth 20000 in
theorem ggX0_layLeast_X0_without : GoodIn wsX0_layLeast wsX0_without := goodIn_r _ [50, 38, 39, 40, 11, 41, 24, 25, 51, 52, 53, 54, 55, 56, 57, 58, 59, 60, 61, 62, 74, 75, 76, 77, 78, 79] (by decide +kernel) (by decide +kernel)
set_option maxRecDepth 20000 in
theorem gX0_layLeast_X0_without : GoodIn wsX0_layLeast (wsV RX0 121 RX0 yX0_without wsX0_without) := goodIn_app (goodIn_of _ (by decide +kernel)) ggX0_layLeast_X0_without
set_option maxRecDepth 20000 in
theorem ggX0_layLeast_X0_gapCost : GoodIn wsX0_layLeast wsX0_gapCost := goodIn_r _ [17, 3, 18, 19, 2, 20, 21, 22, 23, 24, 25, 26, 27, 28, 11, 29, 30, 51, 52, 53, 54, 55, 56, 57, 58, 59, 60, 61, 62, 63, 64, 65, 66, 67, 68, 69, 70, 71, 72, 73, 74, 75, 76, 77, 78, 79] (by decide +kernel) (by decide +kernel)
set_option maxRecDepth 20000 in
theorem gX0_layLeast_X0_gapCost : GoodIn wsX0_layLeast (wsV RX0 102 RX0 yX0_gapCost wsX0_gapCost) := goodIn_app (goodIn_of _ (by decide +kernel)) ggX0_layLeast_X0_gapCost
theorem dX0_layLeast_0 : decode cX0_layLeast 0 = .ok (.aload_n 0, 1) := by decide +kernel
theorem dX0_layLeast_1 : decode cX0_layLeast 1 = .ok (.getfield 19, 3) := by decide +kernel
theorem dX0_layLeast_4 : decode cX0_layLeast 4 = .ok (.aload_n 0, 1) := by decide +kernel
theorem dX0_layLeast_5 : decode cX0_layLeast 5 = .ok (.getfield 75, 3) := by decide +kernel
theorem dX0_layLeast_8 : decode cX0_layLeast 8 = .ok (.laload, 1) := by decide +kernel
theorem dX0_layLeast_9 : decode cX0_layLeast 9 = .ok (.lstore_n 1, 1) := by decide +kernel
theorem dX0_layLeast_10 : decode cX0_layLeast 10 = .ok (.iconst 0, 1) := by decide +kernel
theorem dX0_layLeast_11 : decode cX0_layLeast 11 = .ok (.istore_n 3, 1) := by decide +kernel
theorem dX0_layLeast_12 : decode cX0_layLeast 12 = .ok (.iconst 0, 1) := by decide +kernel
theorem dX0_layLeast_13 : decode cX0_layLeast 13 = .ok (.istore 4, 2) := by decide +kernel
theorem dX0_layLeast_15 : decode cX0_layLeast 15 = .ok (.iload 4, 2) := by decide +kernel
theorem dX0_layLeast_17 : decode cX0_layLeast 17 = .ok (.aload_n 0, 1) := by decide +kernel
theorem dX0_layLeast_18 : decode cX0_layLeast 18 = .ok (.getfield 15, 3) := by decide +kernel
theorem dX0_layLeast_21 : decode cX0_layLeast 21 = .ok (.getfield 50, 3) := by decide +kernel
theorem dX0_layLeast_24 : decode cX0_layLeast 24 = .ok (.if_icmp .ge 108, 3) := by decide +kernel
theorem dX0_layLeast_27 : decode cX0_layLeast 27 = .ok (.iload_n 3, 1) := by decide +kernel
theorem dX0_layLeast_28 : decode cX0_layLeast 28 = .ok (.istore 5, 2) := by decide +kernel
theorem dX0_layLeast_30 : decode cX0_layLeast 30 = .ok (.iload_n 3, 1) := by decide +kernel
theorem dX0_layLeast_31 : decode cX0_layLeast 31 = .ok (.aload_n 0, 1) := by decide +kernel
theorem dX0_layLeast_32 : decode cX0_layLeast 32 = .ok (.getfield 92, 3) := by decide +kernel
theorem dX0_layLeast_35 : decode cX0_layLeast 35 = .ok (.if_icmp .ge 31, 3) := by decide +kernel
theorem dX0_layLeast_38 : decode cX0_layLeast 38 = .ok (.iload_n 3, 1) := by decide +kernel
theorem dX0_layLeast_39 : decode cX0_layLeast 39 = .ok (.iconst 1, 1) := by decide +kernel
theorem dX0_layLeast_40 : decode cX0_layLeast 40 = .ok (.iadd, 1) := by decide +kernel
theorem dX0_layLeast_41 : decode cX0_layLeast 41 = .ok (.bipush 60, 2) := by decide +kernel
theorem dX0_layLeast_43 : decode cX0_layLeast 43 = .ok (.if_icmp .ge 23, 3) := by decide +kernel
theorem dX0_layLeast_46 : decode cX0_layLeast 46 = .ok (.aload_n 0, 1) := by decide +kernel
theorem dX0_layLeast_47 : decode cX0_layLeast 47 = .ok (.iload 4, 2) := by decide +kernel
theorem dX0_layLeast_49 : decode cX0_layLeast 49 = .ok (.iload 5, 2) := by decide +kernel
theorem dX0_layLeast_51 : decode cX0_layLeast 51 = .ok (.iload_n 3, 1) := by decide +kernel
theorem dX0_layLeast_52 : decode cX0_layLeast 52 = .ok (.invokevirtual 117, 3) := by decide +kernel
theorem dX0_layLeast_55 : decode cX0_layLeast 55 = .ok (.lload_n 1, 1) := by decide +kernel
theorem dX0_layLeast_56 : decode cX0_layLeast 56 = .ok (.lcmp, 1) := by decide +kernel
theorem dX0_layLeast_57 : decode cX0_layLeast 57 = .ok (.ifCond .le 9, 3) := by decide +kernel
theorem dX0_layLeast_60 : decode cX0_layLeast 60 = .ok (.iinc 3 1, 3) := by decide +kernel
theorem dX0_layLeast_63 : decode cX0_layLeast 63 = .ok (.goto (-33), 3) := by decide +kernel
theorem dX0_layLeast_66 : decode cX0_layLeast 66 = .ok (.aload_n 0, 1) := by decide +kernel
theorem dX0_layLeast_67 : decode cX0_layLeast 67 = .ok (.getfield 31, 3) := by decide +kernel
theorem dX0_layLeast_70 : decode cX0_layLeast 70 = .ok (.aload_n 0, 1) := by decide +kernel
theorem dX0_layLeast_71 : decode cX0_layLeast 71 = .ok (.getfield 75, 3) := by decide +kernel
theorem dX0_layLeast_74 : decode cX0_layLeast 74 = .ok (.bipush 8, 2) := by decide +kernel
theorem dX0_layLeast_76 : decode cX0_layLeast 76 = .ok (.imul, 1) := by decide +kernel
theorem dX0_layLeast_77 : decode cX0_layLeast 77 = .ok (.iload 4, 2) := by decide +kernel
theorem dX0_layLeast_79 : decode cX0_layLeast 79 = .ok (.iadd, 1) := by decide +kernel
theorem dX0_layLeast_80 : decode cX0_layLeast 80 = .ok (.aload_n 0, 1) := by decide +kernel
theorem dX0_layLeast_81 : decode cX0_layLeast 81 = .ok (.getfield 37, 3) := by decide +kernel
theorem dX0_layLeast_84 : decode cX0_layLeast 84 = .ok (.iload 4, 2) := by decide +kernel
theorem dX0_layLeast_86 : decode cX0_layLeast 86 = .ok (.iaload, 1) := by decide +kernel
theorem dX0_layLeast_87 : decode cX0_layLeast 87 = .ok (.iload_n 3, 1) := by decide +kernel
theorem dX0_layLeast_88 : decode cX0_layLeast 88 = .ok (.iadd, 1) := by decide +kernel
theorem dX0_layLeast_89 : decode cX0_layLeast 89 = .ok (.iastore, 1) := by decide +kernel
theorem dX0_layLeast_90 : decode cX0_layLeast 90 = .ok (.aload_n 0, 1) := by decide +kernel
theorem dX0_layLeast_91 : decode cX0_layLeast 91 = .ok (.lload_n 1, 1) := by decide +kernel
theorem dX0_layLeast_92 : decode cX0_layLeast 92 = .ok (.aload_n 0, 1) := by decide +kernel
theorem dX0_layLeast_93 : decode cX0_layLeast 93 = .ok (.iload 4, 2) := by decide +kernel
theorem dX0_layLeast_95 : decode cX0_layLeast 95 = .ok (.iload_n 3, 1) := by decide +kernel
theorem dX0_layLeast_96 : decode cX0_layLeast 96 = .ok (.invokevirtual 105, 3) := by decide +kernel
theorem dX0_layLeast_99 : decode cX0_layLeast 99 = .ok (.invokevirtual 121, 3) := by decide +kernel
theorem dX0_layLeast_102 : decode cX0_layLeast 102 = .ok (.lstore_n 1, 1) := by decide +kernel
theorem dX0_layLeast_103 : decode cX0_layLeast 103 = .ok (.iload 4, 2) := by decide +kernel
theorem dX0_layLeast_105 : decode cX0_layLeast 105 = .ok (.ifCond .le 21, 3) := by decide +kernel
theorem dX0_layLeast_108 : decode cX0_layLeast 108 = .ok (.aload_n 0, 1) := by decide +kernel
theorem dX0_layLeast_109 : decode cX0_layLeast 109 = .ok (.lload_n 1, 1) := by decide +kernel
theorem dX0_layLeast_110 : decode cX0_layLeast 110 = .ok (.aload_n 0, 1) := by decide +kernel
theorem dX0_layLeast_111 : decode cX0_layLeast 111 = .ok (.iload 4, 2) := by decide +kernel
theorem dX0_layLeast_113 : decode cX0_layLeast 113 = .ok (.iconst 1, 1) := by decide +kernel
theorem dX0_layLeast_114 : decode cX0_layLeast 114 = .ok (.isub, 1) := by decide +kernel
theorem dX0_layLeast_115 : decode cX0_layLeast 115 = .ok (.iload_n 3, 1) := by decide +kernel
theorem dX0_layLeast_116 : decode cX0_layLeast 116 = .ok (.iload 5, 2) := by decide +kernel
theorem dX0_layLeast_118 : decode cX0_layLeast 118 = .ok (.isub, 1) := by decide +kernel
theorem dX0_layLeast_119 : decode cX0_layLeast 119 = .ok (.invokevirtual 102, 3) := by decide +kernel
theorem dX0_layLeast_122 : decode cX0_layLeast 122 = .ok (.invokevirtual 121, 3) := by decide +kernel
theorem dX0_layLeast_125 : decode cX0_layLeast 125 = .ok (.lstore_n 1, 1) := by decide +kernel
theorem dX0_layLeast_126 : decode cX0_layLeast 126 = .ok (.iinc 4 1, 3) := by decide +kernel
theorem dX0_layLeast_129 : decode cX0_layLeast 129 = .ok (.goto (-114), 3) := by decide +kernel
theorem dX0_layLeast_132 : decode cX0_layLeast 132 = .ok (.return_, 1) := by decide +kernel
set_option maxRecDepth 20000 in
theorem ggX0_comesTo_X0_gapCost : GoodIn wsX0_comesTo wsX0_gapCost := goodIn_r _ [6, 7, 8, 9, 10, 11, 12, 13, 14, 15, 16, 17, 18, 19, 5, 20, 21, 33, 34, 35, 36, 37, 38, 39, 40, 41, 42, 43, 44, 45, 46, 47, 48, 49, 50, 51, 52, 53, 54, 55, 56, 57, 58, 59, 60, 61] (by decide +kernel) (by decide +kernel)
set_option maxRecDepth 20000 in
theorem gX0_comesTo_X0_gapCost : GoodIn wsX0_comesTo (wsV RX0 102 RX0 yX0_gapCost wsX0_gapCost) := goodIn_app (goodIn_of _ (by decide +kernel)) ggX0_comesTo_X0_gapCost
set_option maxRecDepth 20000 in
theorem ggX0_comesTo_X0_joined : GoodIn wsX0_comesTo wsX0_joined := goodIn_r _ [25, 26, 27, 13, 28, 29, 30, 31, 5, 32, 15, 16, 33, 34, 35, 36, 37, 38, 39, 40, 41, 42, 43, 44, 56, 57, 58, 59, 60, 61] (by decide +kernel) (by decide +kernel)
set_option maxRecDepth 20000 in
theorem gX0_comesTo_X0_joined : GoodIn wsX0_comesTo (wsV RX0 108 RX0 yX0_joined wsX0_joined) := goodIn_app (goodIn_of _ (by decide +kernel)) ggX0_comesTo_X0_joined
theorem dX0_comesTo_0 : decode cX0_comesTo 0 = .ok (.aload_n 0, 1) := by decide +kernel
theorem dX0_comesTo_1 : decode cX0_comesTo 1 = .ok (.getfield 40, 3) := by decide +kernel
theorem dX0_comesTo_4 : decode cX0_comesTo 4 = .ok (.iload_n 1, 1) := by decide +kernel
theorem dX0_comesTo_5 : decode cX0_comesTo 5 = .ok (.bipush 60, 2) := by decide +kernel
theorem dX0_comesTo_7 : decode cX0_comesTo 7 = .ok (.imul, 1) := by decide +kernel
theorem dX0_comesTo_8 : decode cX0_comesTo 8 = .ok (.iload_n 3, 1) := by decide +kernel
theorem dX0_comesTo_9 : decode cX0_comesTo 9 = .ok (.iadd, 1) := by decide +kernel
theorem dX0_comesTo_10 : decode cX0_comesTo 10 = .ok (.laload, 1) := by decide +kernel
theorem dX0_comesTo_11 : decode cX0_comesTo 11 = .ok (.lstore 4, 2) := by decide +kernel
theorem dX0_comesTo_13 : decode cX0_comesTo 13 = .ok (.iload_n 1, 1) := by decide +kernel
theorem dX0_comesTo_14 : decode cX0_comesTo 14 = .ok (.ifCond .ne 8, 3) := by decide +kernel
theorem dX0_comesTo_17 : decode cX0_comesTo 17 = .ok (.lload 4, 2) := by decide +kernel
theorem dX0_comesTo_19 : decode cX0_comesTo 19 = .ok (.goto 19, 3) := by decide +kernel
theorem dX0_comesTo_22 : decode cX0_comesTo 22 = .ok (.aload_n 0, 1) := by decide +kernel
theorem dX0_comesTo_23 : decode cX0_comesTo 23 = .ok (.aload_n 0, 1) := by decide +kernel
theorem dX0_comesTo_24 : decode cX0_comesTo 24 = .ok (.iload_n 1, 1) := by decide +kernel
theorem dX0_comesTo_25 : decode cX0_comesTo 25 = .ok (.iconst 1, 1) := by decide +kernel
theorem dX0_comesTo_26 : decode cX0_comesTo 26 = .ok (.isub, 1) := by decide +kernel
theorem dX0_comesTo_27 : decode cX0_comesTo 27 = .ok (.iload_n 3, 1) := by decide +kernel
theorem dX0_comesTo_28 : decode cX0_comesTo 28 = .ok (.iload_n 2, 1) := by decide +kernel
theorem dX0_comesTo_29 : decode cX0_comesTo 29 = .ok (.isub, 1) := by decide +kernel
theorem dX0_comesTo_30 : decode cX0_comesTo 30 = .ok (.invokevirtual 102, 3) := by decide +kernel
theorem dX0_comesTo_33 : decode cX0_comesTo 33 = .ok (.lload 4, 2) := by decide +kernel
theorem dX0_comesTo_35 : decode cX0_comesTo 35 = .ok (.invokevirtual 108, 3) := by decide +kernel
theorem dX0_comesTo_38 : decode cX0_comesTo 38 = .ok (.lreturn, 1) := by decide +kernel
theorem dX0_worstCounts_0 : decode cX0_worstCounts 0 = .ok (.aload_n 0, 1) := by decide +kernel
theorem dX0_worstCounts_1 : decode cX0_worstCounts 1 = .ok (.getfield 9, 3) := by decide +kernel
theorem dX0_worstCounts_4 : decode cX0_worstCounts 4 = .ok (.getfield 66, 3) := by decide +kernel
theorem dX0_worstCounts_7 : decode cX0_worstCounts 7 = .ok (.iconst 3, 1) := by decide +kernel
theorem dX0_worstCounts_8 : decode cX0_worstCounts 8 = .ok (.iaload, 1) := by decide +kernel
theorem dX0_worstCounts_9 : decode cX0_worstCounts 9 = .ok (.iconst 2, 1) := by decide +kernel
theorem dX0_worstCounts_10 : decode cX0_worstCounts 10 = .ok (.if_icmp .lt 7, 3) := by decide +kernel
theorem dX0_worstCounts_13 : decode cX0_worstCounts 13 = .ok (.iconst 1, 1) := by decide +kernel
theorem dX0_worstCounts_14 : decode cX0_worstCounts 14 = .ok (.goto 4, 3) := by decide +kernel
theorem dX0_worstCounts_17 : decode cX0_worstCounts 17 = .ok (.iconst 0, 1) := by decide +kernel
theorem dX0_worstCounts_18 : decode cX0_worstCounts 18 = .ok (.ireturn, 1) := by decide +kernel
set_option maxRecDepth 20000 in
theorem ggX0_joined_X0_worstCounts : GoodIn wsX0_joined wsX0_worstCounts := goodIn_r _ [9, 10, 11, 12, 13, 14, 15, 16, 17, 18, 19, 20, 21, 22, 23, 24, 25, 26, 27, 28, 29] (by decide +kernel) (by decide +kernel)
set_option maxRecDepth 20000 in
theorem gX0_joined_X0_worstCounts : GoodIn wsX0_joined (wsV RX0 124 RX0 yX0_worstCounts wsX0_worstCounts) := goodIn_app (goodIn_of _ (by decide +kernel)) ggX0_joined_X0_worstCounts
theorem dX0_joined_0 : decode cX0_joined 0 = .ok (.aload_n 0, 1) := by decide +kernel
theorem dX0_joined_1 : decode cX0_joined 1 = .ok (.invokevirtual 124, 3) := by decide +kernel
theorem dX0_joined_4 : decode cX0_joined 4 = .ok (.ifCond .eq 11, 3) := by decide +kernel
theorem dX0_joined_7 : decode cX0_joined 7 = .ok (.lload_n 1, 1) := by decide +kernel
theorem dX0_joined_8 : decode cX0_joined 8 = .ok (.lload_n 3, 1) := by decide +kernel
theorem dX0_joined_9 : decode cX0_joined 9 = .ok (.invokestatic 128, 3) := by decide +kernel
theorem dX0_joined_12 : decode cX0_joined 12 = .ok (.goto 6, 3) := by decide +kernel
theorem dX0_joined_15 : decode cX0_joined 15 = .ok (.lload_n 1, 1) := by decide +kernel
theorem dX0_joined_16 : decode cX0_joined 16 = .ok (.lload_n 3, 1) := by decide +kernel
theorem dX0_joined_17 : decode cX0_joined 17 = .ok (.ladd, 1) := by decide +kernel
theorem dX0_joined_18 : decode cX0_joined 18 = .ok (.lreturn, 1) := by decide +kernel
set_option maxRecDepth 20000 in
theorem ggX0_without_X0_worstCounts : GoodIn wsX0_without wsX0_worstCounts := goodIn_r _ [5, 6, 7, 8, 9, 10, 11, 12, 13, 14, 15, 16, 17, 18, 19, 20, 21, 22, 23, 24, 25] (by decide +kernel) (by decide +kernel)
set_option maxRecDepth 20000 in
theorem gX0_without_X0_worstCounts : GoodIn wsX0_without (wsV RX0 124 RX0 yX0_worstCounts wsX0_worstCounts) := goodIn_app (goodIn_of _ (by decide +kernel)) ggX0_without_X0_worstCounts
theorem dX0_without_0 : decode cX0_without 0 = .ok (.aload_n 0, 1) := by decide +kernel
theorem dX0_without_1 : decode cX0_without 1 = .ok (.invokevirtual 124, 3) := by decide +kernel
theorem dX0_without_4 : decode cX0_without 4 = .ok (.ifCond .eq 7, 3) := by decide +kernel
theorem dX0_without_7 : decode cX0_without 7 = .ok (.lload_n 1, 1) := by decide +kernel
theorem dX0_without_8 : decode cX0_without 8 = .ok (.goto 6, 3) := by decide +kernel
theorem dX0_without_11 : decode cX0_without 11 = .ok (.lload_n 1, 1) := by decide +kernel
theorem dX0_without_12 : decode cX0_without 12 = .ok (.lload_n 3, 1) := by decide +kernel
theorem dX0_without_13 : decode cX0_without 13 = .ok (.lsub, 1) := by decide +kernel
theorem dX0_without_14 : decode cX0_without 14 = .ok (.lreturn, 1) := by decide +kernel
set_option maxRecDepth 20000 in
theorem ggX0_stemCost_X0_weighed : GoodIn wsX0_stemCost wsX0_weighed := goodIn_r _ [17, 11, 12, 18, 19, 20, 21, 22, 23, 24, 25, 26, 27, 28, 29, 30, 42, 43, 44, 45, 46, 47] (by decide +kernel) (by decide +kernel)
set_option maxRecDepth 20000 in
theorem gX0_stemCost_X0_weighed : GoodIn wsX0_stemCost (wsV RX0 135 RX0 yX0_weighed wsX0_weighed) := goodIn_app (goodIn_of _ (by decide +kernel)) ggX0_stemCost_X0_weighed
theorem dX0_stemCost_0 : decode cX0_stemCost 0 = .ok (.iconst 2, 1) := by decide +kernel
theorem dX0_stemCost_1 : decode cX0_stemCost 1 = .ok (.aload_n 0, 1) := by decide +kernel
theorem dX0_stemCost_2 : decode cX0_stemCost 2 = .ok (.getfield 37, 3) := by decide +kernel
theorem dX0_stemCost_5 : decode cX0_stemCost 5 = .ok (.iload_n 1, 1) := by decide +kernel
theorem dX0_stemCost_6 : decode cX0_stemCost 6 = .ok (.iaload, 1) := by decide +kernel
theorem dX0_stemCost_7 : decode cX0_stemCost 7 = .ok (.iload_n 2, 1) := by decide +kernel
theorem dX0_stemCost_8 : decode cX0_stemCost 8 = .ok (.iadd, 1) := by decide +kernel
theorem dX0_stemCost_9 : decode cX0_stemCost 9 = .ok (.imul, 1) := by decide +kernel
theorem dX0_stemCost_10 : decode cX0_stemCost 10 = .ok (.aload_n 0, 1) := by decide +kernel
theorem dX0_stemCost_11 : decode cX0_stemCost 11 = .ok (.getfield 34, 3) := by decide +kernel
theorem dX0_stemCost_14 : decode cX0_stemCost 14 = .ok (.iload_n 1, 1) := by decide +kernel
theorem dX0_stemCost_15 : decode cX0_stemCost 15 = .ok (.iaload, 1) := by decide +kernel
theorem dX0_stemCost_16 : decode cX0_stemCost 16 = .ok (.iadd, 1) := by decide +kernel
theorem dX0_stemCost_17 : decode cX0_stemCost 17 = .ok (.istore_n 3, 1) := by decide +kernel
theorem dX0_stemCost_18 : decode cX0_stemCost 18 = .ok (.iload_n 3, 1) := by decide +kernel
theorem dX0_stemCost_19 : decode cX0_stemCost 19 = .ok (.sipush 1000, 3) := by decide +kernel
theorem dX0_stemCost_22 : decode cX0_stemCost 22 = .ok (.imul, 1) := by decide +kernel
theorem dX0_stemCost_23 : decode cX0_stemCost 23 = .ok (.aload_n 0, 1) := by decide +kernel
theorem dX0_stemCost_24 : decode cX0_stemCost 24 = .ok (.getfield 15, 3) := by decide +kernel
theorem dX0_stemCost_27 : decode cX0_stemCost 27 = .ok (.getfield 56, 3) := by decide +kernel
theorem dX0_stemCost_30 : decode cX0_stemCost 30 = .ok (.iload_n 1, 1) := by decide +kernel
theorem dX0_stemCost_31 : decode cX0_stemCost 31 = .ok (.iaload, 1) := by decide +kernel
theorem dX0_stemCost_32 : decode cX0_stemCost 32 = .ok (.aload_n 0, 1) := by decide +kernel
theorem dX0_stemCost_33 : decode cX0_stemCost 33 = .ok (.getfield 15, 3) := by decide +kernel
theorem dX0_stemCost_36 : decode cX0_stemCost 36 = .ok (.getfield 63, 3) := by decide +kernel
theorem dX0_stemCost_39 : decode cX0_stemCost 39 = .ok (.iload_n 1, 1) := by decide +kernel
theorem dX0_stemCost_40 : decode cX0_stemCost 40 = .ok (.iaload, 1) := by decide +kernel
theorem dX0_stemCost_41 : decode cX0_stemCost 41 = .ok (.iadd, 1) := by decide +kernel
theorem dX0_stemCost_42 : decode cX0_stemCost 42 = .ok (.aload_n 0, 1) := by decide +kernel
theorem dX0_stemCost_43 : decode cX0_stemCost 43 = .ok (.getfield 75, 3) := by decide +kernel
theorem dX0_stemCost_46 : decode cX0_stemCost 46 = .ok (.imul, 1) := by decide +kernel
theorem dX0_stemCost_47 : decode cX0_stemCost 47 = .ok (.isub, 1) := by decide +kernel
theorem dX0_stemCost_48 : decode cX0_stemCost 48 = .ok (.invokestatic 131, 3) := by decide +kernel
theorem dX0_stemCost_51 : decode cX0_stemCost 51 = .ok (.istore 4, 2) := by decide +kernel
theorem dX0_stemCost_53 : decode cX0_stemCost 53 = .ok (.aload_n 0, 1) := by decide +kernel
theorem dX0_stemCost_54 : decode cX0_stemCost 54 = .ok (.iload 4, 2) := by decide +kernel
theorem dX0_stemCost_56 : decode cX0_stemCost 56 = .ok (.i2l, 1) := by decide +kernel
theorem dX0_stemCost_57 : decode cX0_stemCost 57 = .ok (.aload_n 0, 1) := by decide +kernel
theorem dX0_stemCost_58 : decode cX0_stemCost 58 = .ok (.getfield 9, 3) := by decide +kernel
theorem dX0_stemCost_61 : decode cX0_stemCost 61 = .ok (.getfield 66, 3) := by decide +kernel
theorem dX0_stemCost_64 : decode cX0_stemCost 64 = .ok (.iconst 1, 1) := by decide +kernel
theorem dX0_stemCost_65 : decode cX0_stemCost 65 = .ok (.iaload, 1) := by decide +kernel
theorem dX0_stemCost_66 : decode cX0_stemCost 66 = .ok (.invokevirtual 135, 3) := by decide +kernel
theorem dX0_stemCost_69 : decode cX0_stemCost 69 = .ok (.lreturn, 1) := by decide +kernel
set_option maxRecDepth 20000 in
theorem ggX0_gapCost_X0_weighed : GoodIn wsX0_gapCost wsX0_weighed := goodIn_r _ [15, 9, 10, 16, 17, 18, 19, 20, 21, 22, 23, 24, 25, 26, 27, 28, 40, 41, 42, 43, 44, 45] (by decide +kernel) (by decide +kernel)
set_option maxRecDepth 20000 in
theorem gX0_gapCost_X0_weighed : GoodIn wsX0_gapCost (wsV RX0 135 RX0 yX0_weighed wsX0_weighed) := goodIn_app (goodIn_of _ (by decide +kernel)) ggX0_gapCost_X0_weighed
theorem dX0_gapCost_0 : decode cX0_gapCost 0 = .ok (.aload_n 0, 1) := by decide +kernel
theorem dX0_gapCost_1 : decode cX0_gapCost 1 = .ok (.getfield 15, 3) := by decide +kernel
theorem dX0_gapCost_4 : decode cX0_gapCost 4 = .ok (.getfield 56, 3) := by decide +kernel
theorem dX0_gapCost_7 : decode cX0_gapCost 7 = .ok (.iload_n 1, 1) := by decide +kernel
theorem dX0_gapCost_8 : decode cX0_gapCost 8 = .ok (.iconst 1, 1) := by decide +kernel
theorem dX0_gapCost_9 : decode cX0_gapCost 9 = .ok (.iadd, 1) := by decide +kernel
theorem dX0_gapCost_10 : decode cX0_gapCost 10 = .ok (.iaload, 1) := by decide +kernel
theorem dX0_gapCost_11 : decode cX0_gapCost 11 = .ok (.aload_n 0, 1) := by decide +kernel
theorem dX0_gapCost_12 : decode cX0_gapCost 12 = .ok (.getfield 15, 3) := by decide +kernel
theorem dX0_gapCost_15 : decode cX0_gapCost 15 = .ok (.getfield 63, 3) := by decide +kernel
theorem dX0_gapCost_18 : decode cX0_gapCost 18 = .ok (.iload_n 1, 1) := by decide +kernel
theorem dX0_gapCost_19 : decode cX0_gapCost 19 = .ok (.iaload, 1) := by decide +kernel
theorem dX0_gapCost_20 : decode cX0_gapCost 20 = .ok (.isub, 1) := by decide +kernel
theorem dX0_gapCost_21 : decode cX0_gapCost 21 = .ok (.istore_n 3, 1) := by decide +kernel
theorem dX0_gapCost_22 : decode cX0_gapCost 22 = .ok (.iconst 2, 1) := by decide +kernel
theorem dX0_gapCost_23 : decode cX0_gapCost 23 = .ok (.iconst 1, 1) := by decide +kernel
theorem dX0_gapCost_24 : decode cX0_gapCost 24 = .ok (.iload_n 2, 1) := by decide +kernel
theorem dX0_gapCost_25 : decode cX0_gapCost 25 = .ok (.iadd, 1) := by decide +kernel
theorem dX0_gapCost_26 : decode cX0_gapCost 26 = .ok (.sipush 1000, 3) := by decide +kernel
theorem dX0_gapCost_29 : decode cX0_gapCost 29 = .ok (.imul, 1) := by decide +kernel
theorem dX0_gapCost_30 : decode cX0_gapCost 30 = .ok (.iload_n 3, 1) := by decide +kernel
theorem dX0_gapCost_31 : decode cX0_gapCost 31 = .ok (.aload_n 0, 1) := by decide +kernel
theorem dX0_gapCost_32 : decode cX0_gapCost 32 = .ok (.getfield 75, 3) := by decide +kernel
theorem dX0_gapCost_35 : decode cX0_gapCost 35 = .ok (.imul, 1) := by decide +kernel
theorem dX0_gapCost_36 : decode cX0_gapCost 36 = .ok (.isub, 1) := by decide +kernel
theorem dX0_gapCost_37 : decode cX0_gapCost 37 = .ok (.invokestatic 131, 3) := by decide +kernel
theorem dX0_gapCost_40 : decode cX0_gapCost 40 = .ok (.imul, 1) := by decide +kernel
theorem dX0_gapCost_41 : decode cX0_gapCost 41 = .ok (.istore 4, 2) := by decide +kernel
theorem dX0_gapCost_43 : decode cX0_gapCost 43 = .ok (.aload_n 0, 1) := by decide +kernel
theorem dX0_gapCost_44 : decode cX0_gapCost 44 = .ok (.iload 4, 2) := by decide +kernel
theorem dX0_gapCost_46 : decode cX0_gapCost 46 = .ok (.i2l, 1) := by decide +kernel
theorem dX0_gapCost_47 : decode cX0_gapCost 47 = .ok (.aload_n 0, 1) := by decide +kernel
theorem dX0_gapCost_48 : decode cX0_gapCost 48 = .ok (.getfield 9, 3) := by decide +kernel
theorem dX0_gapCost_51 : decode cX0_gapCost 51 = .ok (.getfield 66, 3) := by decide +kernel
theorem dX0_gapCost_54 : decode cX0_gapCost 54 = .ok (.iconst 2, 1) := by decide +kernel
theorem dX0_gapCost_55 : decode cX0_gapCost 55 = .ok (.iaload, 1) := by decide +kernel
theorem dX0_gapCost_56 : decode cX0_gapCost 56 = .ok (.invokevirtual 135, 3) := by decide +kernel
theorem dX0_gapCost_59 : decode cX0_gapCost 59 = .ok (.lreturn, 1) := by decide +kernel
theorem dX0_weighed_0 : decode cX0_weighed 0 = .ok (.aload_n 0, 1) := by decide +kernel
theorem dX0_weighed_1 : decode cX0_weighed 1 = .ok (.getfield 9, 3) := by decide +kernel
theorem dX0_weighed_4 : decode cX0_weighed 4 = .ok (.getfield 66, 3) := by decide +kernel
theorem dX0_weighed_7 : decode cX0_weighed 7 = .ok (.iconst 3, 1) := by decide +kernel
theorem dX0_weighed_8 : decode cX0_weighed 8 = .ok (.iaload, 1) := by decide +kernel
theorem dX0_weighed_9 : decode cX0_weighed 9 = .ok (.iconst 2, 1) := by decide +kernel
theorem dX0_weighed_10 : decode cX0_weighed 10 = .ok (.irem, 1) := by decide +kernel
theorem dX0_weighed_11 : decode cX0_weighed 11 = .ok (.iconst 1, 1) := by decide +kernel
theorem dX0_weighed_12 : decode cX0_weighed 12 = .ok (.if_icmp .ne 7, 3) := by decide +kernel
theorem dX0_weighed_15 : decode cX0_weighed 15 = .ok (.iconst 1, 1) := by decide +kernel
theorem dX0_weighed_16 : decode cX0_weighed 16 = .ok (.goto 4, 3) := by decide +kernel
theorem dX0_weighed_19 : decode cX0_weighed 19 = .ok (.iconst 0, 1) := by decide +kernel
theorem dX0_weighed_20 : decode cX0_weighed 20 = .ok (.istore 4, 2) := by decide +kernel
theorem dX0_weighed_22 : decode cX0_weighed 22 = .ok (.iload 4, 2) := by decide +kernel
theorem dX0_weighed_24 : decode cX0_weighed 24 = .ok (.ifCond .eq 13, 3) := by decide +kernel
theorem dX0_weighed_27 : decode cX0_weighed 27 = .ok (.lload_n 1, 1) := by decide +kernel
theorem dX0_weighed_28 : decode cX0_weighed 28 = .ok (.lload_n 1, 1) := by decide +kernel
theorem dX0_weighed_29 : decode cX0_weighed 29 = .ok (.lmul, 1) := by decide +kernel
theorem dX0_weighed_30 : decode cX0_weighed 30 = .ok (.ldc2_w 139, 3) := by decide +kernel
theorem dX0_weighed_33 : decode cX0_weighed 33 = .ok (.ldiv, 1) := by decide +kernel
theorem dX0_weighed_34 : decode cX0_weighed 34 = .ok (.goto 4, 3) := by decide +kernel
theorem dX0_weighed_37 : decode cX0_weighed 37 = .ok (.lload_n 1, 1) := by decide +kernel
theorem dX0_weighed_38 : decode cX0_weighed 38 = .ok (.iload_n 3, 1) := by decide +kernel
theorem dX0_weighed_39 : decode cX0_weighed 39 = .ok (.i2l, 1) := by decide +kernel
theorem dX0_weighed_40 : decode cX0_weighed 40 = .ok (.lmul, 1) := by decide +kernel
theorem dX0_weighed_41 : decode cX0_weighed 41 = .ok (.lreturn, 1) := by decide +kernel
theorem dX1_init_0 : decode cX1_init 0 = .ok (.aload_n 0, 1) := by decide +kernel
theorem dX1_init_1 : decode cX1_init 1 = .ok (.invokespecial 3, 3) := by decide +kernel
theorem dX1_init_4 : decode cX1_init 4 = .ok (.aload_n 0, 1) := by decide +kernel
theorem dX1_init_5 : decode cX1_init 5 = .ok (.bipush 16, 2) := by decide +kernel
theorem dX1_init_7 : decode cX1_init 7 = .ok (.newarray .int, 2) := by decide +kernel
theorem dX1_init_9 : decode cX1_init 9 = .ok (.putfield 9, 3) := by decide +kernel
theorem dX1_init_12 : decode cX1_init 12 = .ok (.aload_n 0, 1) := by decide +kernel
theorem dX1_init_13 : decode cX1_init 13 = .ok (.bipush 16, 2) := by decide +kernel
theorem dX1_init_15 : decode cX1_init 15 = .ok (.newarray .int, 2) := by decide +kernel
theorem dX1_init_17 : decode cX1_init 17 = .ok (.putfield 15, 3) := by decide +kernel
theorem dX1_init_20 : decode cX1_init 20 = .ok (.aload_n 0, 1) := by decide +kernel
theorem dX1_init_21 : decode cX1_init 21 = .ok (.bipush 16, 2) := by decide +kernel
theorem dX1_init_23 : decode cX1_init 23 = .ok (.newarray .int, 2) := by decide +kernel
theorem dX1_init_25 : decode cX1_init 25 = .ok (.putfield 18, 3) := by decide +kernel
theorem dX1_init_28 : decode cX1_init 28 = .ok (.aload_n 0, 1) := by decide +kernel
theorem dX1_init_29 : decode cX1_init 29 = .ok (.bipush 16, 2) := by decide +kernel
theorem dX1_init_31 : decode cX1_init 31 = .ok (.newarray .int, 2) := by decide +kernel
theorem dX1_init_33 : decode cX1_init 33 = .ok (.putfield 21, 3) := by decide +kernel
theorem dX1_init_36 : decode cX1_init 36 = .ok (.aload_n 0, 1) := by decide +kernel
theorem dX1_init_37 : decode cX1_init 37 = .ok (.iconst 5, 1) := by decide +kernel
theorem dX1_init_38 : decode cX1_init 38 = .ok (.newarray .int, 2) := by decide +kernel
theorem dX1_init_40 : decode cX1_init 40 = .ok (.putfield 24, 3) := by decide +kernel
theorem dX1_init_43 : decode cX1_init 43 = .ok (.getstatic 27, 3) := by decide +kernel
theorem dX1_init_46 : decode cX1_init 46 = .ok (.iconst 0, 1) := by decide +kernel
theorem dX1_init_47 : decode cX1_init 47 = .ok (.aload_n 0, 1) := by decide +kernel
theorem dX1_init_48 : decode cX1_init 48 = .ok (.getfield 24, 3) := by decide +kernel
theorem dX1_init_51 : decode cX1_init 51 = .ok (.iconst 0, 1) := by decide +kernel
theorem dX1_init_52 : decode cX1_init 52 = .ok (.iconst 5, 1) := by decide +kernel
theorem dX1_init_53 : decode cX1_init 53 = .ok (.invokestatic 30, 3) := by decide +kernel
theorem dX1_init_56 : decode cX1_init 56 = .ok (.return_, 1) := by decide +kernel
set_option maxRecDepth 20000 in
theorem ggX1_add_X2_isSign : GoodIn wsX1_add wsX2_isSign := goodIn_r _ [10, 11, 12, 19, 20, 21] (by decide +kernel) (by decide +kernel)
set_option maxRecDepth 20000 in
theorem gX1_add_X2_isSign_n40 : GoodIn wsX1_add (wsX2_isSign) := ggX1_add_X2_isSign
theorem dX1_add_0 : decode cX1_add 0 = .ok (.aload_n 0, 1) := by decide +kernel
theorem dX1_add_1 : decode cX1_add 1 = .ok (.getfield 36, 3) := by decide +kernel
theorem dX1_add_4 : decode cX1_add 4 = .ok (.bipush 16, 2) := by decide +kernel
theorem dX1_add_6 : decode cX1_add 6 = .ok (.if_icmp .lt 5, 3) := by decide +kernel
theorem dX1_add_9 : decode cX1_add 9 = .ok (.iconst 0, 1) := by decide +kernel
theorem dX1_add_10 : decode cX1_add 10 = .ok (.ireturn, 1) := by decide +kernel
theorem dX1_add_11 : decode cX1_add 11 = .ok (.aload_n 0, 1) := by decide +kernel
theorem dX1_add_12 : decode cX1_add 12 = .ok (.getfield 9, 3) := by decide +kernel
theorem dX1_add_15 : decode cX1_add 15 = .ok (.aload_n 0, 1) := by decide +kernel
theorem dX1_add_16 : decode cX1_add 16 = .ok (.getfield 36, 3) := by decide +kernel
theorem dX1_add_19 : decode cX1_add 19 = .ok (.aload_n 1, 1) := by decide +kernel
theorem dX1_add_20 : decode cX1_add 20 = .ok (.iconst 0, 1) := by decide +kernel
theorem dX1_add_21 : decode cX1_add 21 = .ok (.bipush 117, 2) := by decide +kernel
theorem dX1_add_23 : decode cX1_add 23 = .ok (.invokevirtual 40, 3) := by decide +kernel
theorem dX1_add_26 : decode cX1_add 26 = .ok (.ifCond .eq 7, 3) := by decide +kernel
theorem dX1_add_29 : decode cX1_add 29 = .ok (.iconst 1, 1) := by decide +kernel
theorem dX1_add_30 : decode cX1_add 30 = .ok (.goto 4, 3) := by decide +kernel
theorem dX1_add_33 : decode cX1_add 33 = .ok (.iconst 0, 1) := by decide +kernel
theorem dX1_add_34 : decode cX1_add 34 = .ok (.iastore, 1) := by decide +kernel
theorem dX1_add_35 : decode cX1_add 35 = .ok (.aload_n 0, 1) := by decide +kernel
theorem dX1_add_36 : decode cX1_add 36 = .ok (.getfield 15, 3) := by decide +kernel
theorem dX1_add_39 : decode cX1_add 39 = .ok (.aload_n 0, 1) := by decide +kernel
theorem dX1_add_40 : decode cX1_add 40 = .ok (.getfield 36, 3) := by decide +kernel
theorem dX1_add_43 : decode cX1_add 43 = .ok (.aload_n 1, 1) := by decide +kernel
theorem dX1_add_44 : decode cX1_add 44 = .ok (.getfield 46, 3) := by decide +kernel
theorem dX1_add_47 : decode cX1_add 47 = .ok (.iconst 0, 1) := by decide +kernel
theorem dX1_add_48 : decode cX1_add 48 = .ok (.iaload, 1) := by decide +kernel
theorem dX1_add_49 : decode cX1_add 49 = .ok (.iastore, 1) := by decide +kernel
theorem dX1_add_50 : decode cX1_add 50 = .ok (.aload_n 0, 1) := by decide +kernel
theorem dX1_add_51 : decode cX1_add 51 = .ok (.getfield 18, 3) := by decide +kernel
theorem dX1_add_54 : decode cX1_add 54 = .ok (.aload_n 0, 1) := by decide +kernel
theorem dX1_add_55 : decode cX1_add 55 = .ok (.getfield 36, 3) := by decide +kernel
theorem dX1_add_58 : decode cX1_add 58 = .ok (.aload_n 1, 1) := by decide +kernel
theorem dX1_add_59 : decode cX1_add 59 = .ok (.getfield 46, 3) := by decide +kernel
theorem dX1_add_62 : decode cX1_add 62 = .ok (.iconst 1, 1) := by decide +kernel
theorem dX1_add_63 : decode cX1_add 63 = .ok (.iaload, 1) := by decide +kernel
theorem dX1_add_64 : decode cX1_add 64 = .ok (.iastore, 1) := by decide +kernel
theorem dX1_add_65 : decode cX1_add 65 = .ok (.aload_n 0, 1) := by decide +kernel
theorem dX1_add_66 : decode cX1_add 66 = .ok (.getfield 21, 3) := by decide +kernel
theorem dX1_add_69 : decode cX1_add 69 = .ok (.aload_n 0, 1) := by decide +kernel
theorem dX1_add_70 : decode cX1_add 70 = .ok (.getfield 36, 3) := by decide +kernel
theorem dX1_add_73 : decode cX1_add 73 = .ok (.aload_n 1, 1) := by decide +kernel
theorem dX1_add_74 : decode cX1_add 74 = .ok (.getfield 46, 3) := by decide +kernel
theorem dX1_add_77 : decode cX1_add 77 = .ok (.iconst 2, 1) := by decide +kernel
theorem dX1_add_78 : decode cX1_add 78 = .ok (.iaload, 1) := by decide +kernel
theorem dX1_add_79 : decode cX1_add 79 = .ok (.iastore, 1) := by decide +kernel
theorem dX1_add_80 : decode cX1_add 80 = .ok (.aload_n 0, 1) := by decide +kernel
theorem dX1_add_81 : decode cX1_add 81 = .ok (.dup, 1) := by decide +kernel
theorem dX1_add_82 : decode cX1_add 82 = .ok (.getfield 36, 3) := by decide +kernel
theorem dX1_add_85 : decode cX1_add 85 = .ok (.iconst 1, 1) := by decide +kernel
theorem dX1_add_86 : decode cX1_add 86 = .ok (.iadd, 1) := by decide +kernel
theorem dX1_add_87 : decode cX1_add 87 = .ok (.putfield 36, 3) := by decide +kernel
theorem dX1_add_90 : decode cX1_add 90 = .ok (.iconst 1, 1) := by decide +kernel
theorem dX1_add_91 : decode cX1_add 91 = .ok (.ireturn, 1) := by decide +kernel
theorem dX1_remove_0 : decode cX1_remove 0 = .ok (.iload_n 1, 1) := by decide +kernel
theorem dX1_remove_1 : decode cX1_remove 1 = .ok (.istore_n 2, 1) := by decide +kernel
theorem dX1_remove_2 : decode cX1_remove 2 = .ok (.iload_n 2, 1) := by decide +kernel
theorem dX1_remove_3 : decode cX1_remove 3 = .ok (.iconst 1, 1) := by decide +kernel
theorem dX1_remove_4 : decode cX1_remove 4 = .ok (.iadd, 1) := by decide +kernel
theorem dX1_remove_5 : decode cX1_remove 5 = .ok (.aload_n 0, 1) := by decide +kernel
theorem dX1_remove_6 : decode cX1_remove 6 = .ok (.getfield 36, 3) := by decide +kernel
theorem dX1_remove_9 : decode cX1_remove 9 = .ok (.if_icmp .ge 65, 3) := by decide +kernel
theorem dX1_remove_12 : decode cX1_remove 12 = .ok (.aload_n 0, 1) := by decide +kernel
theorem dX1_remove_13 : decode cX1_remove 13 = .ok (.getfield 9, 3) := by decide +kernel
theorem dX1_remove_16 : decode cX1_remove 16 = .ok (.iload_n 2, 1) := by decide +kernel
theorem dX1_remove_17 : decode cX1_remove 17 = .ok (.aload_n 0, 1) := by decide +kernel
theorem dX1_remove_18 : decode cX1_remove 18 = .ok (.getfield 9, 3) := by decide +kernel
theorem dX1_remove_21 : decode cX1_remove 21 = .ok (.iload_n 2, 1) := by decide +kernel
theorem dX1_remove_22 : decode cX1_remove 22 = .ok (.iconst 1, 1) := by decide +kernel
theorem dX1_remove_23 : decode cX1_remove 23 = .ok (.iadd, 1) := by decide +kernel
theorem dX1_remove_24 : decode cX1_remove 24 = .ok (.iaload, 1) := by decide +kernel
theorem dX1_remove_25 : decode cX1_remove 25 = .ok (.iastore, 1) := by decide +kernel
theorem dX1_remove_26 : decode cX1_remove 26 = .ok (.aload_n 0, 1) := by decide +kernel
theorem dX1_remove_27 : decode cX1_remove 27 = .ok (.getfield 15, 3) := by decide +kernel
theorem dX1_remove_30 : decode cX1_remove 30 = .ok (.iload_n 2, 1) := by decide +kernel
theorem dX1_remove_31 : decode cX1_remove 31 = .ok (.aload_n 0, 1) := by decide +kernel
theorem dX1_remove_32 : decode cX1_remove 32 = .ok (.getfield 15, 3) := by decide +kernel
theorem dX1_remove_35 : decode cX1_remove 35 = .ok (.iload_n 2, 1) := by decide +kernel
theorem dX1_remove_36 : decode cX1_remove 36 = .ok (.iconst 1, 1) := by decide +kernel
theorem dX1_remove_37 : decode cX1_remove 37 = .ok (.iadd, 1) := by decide +kernel
theorem dX1_remove_38 : decode cX1_remove 38 = .ok (.iaload, 1) := by decide +kernel
theorem dX1_remove_39 : decode cX1_remove 39 = .ok (.iastore, 1) := by decide +kernel
theorem dX1_remove_40 : decode cX1_remove 40 = .ok (.aload_n 0, 1) := by decide +kernel
theorem dX1_remove_41 : decode cX1_remove 41 = .ok (.getfield 18, 3) := by decide +kernel
theorem dX1_remove_44 : decode cX1_remove 44 = .ok (.iload_n 2, 1) := by decide +kernel
theorem dX1_remove_45 : decode cX1_remove 45 = .ok (.aload_n 0, 1) := by decide +kernel
theorem dX1_remove_46 : decode cX1_remove 46 = .ok (.getfield 18, 3) := by decide +kernel
theorem dX1_remove_49 : decode cX1_remove 49 = .ok (.iload_n 2, 1) := by decide +kernel
theorem dX1_remove_50 : decode cX1_remove 50 = .ok (.iconst 1, 1) := by decide +kernel
theorem dX1_remove_51 : decode cX1_remove 51 = .ok (.iadd, 1) := by decide +kernel
theorem dX1_remove_52 : decode cX1_remove 52 = .ok (.iaload, 1) := by decide +kernel
theorem dX1_remove_53 : decode cX1_remove 53 = .ok (.iastore, 1) := by decide +kernel
theorem dX1_remove_54 : decode cX1_remove 54 = .ok (.aload_n 0, 1) := by decide +kernel
theorem dX1_remove_55 : decode cX1_remove 55 = .ok (.getfield 21, 3) := by decide +kernel
theorem dX1_remove_58 : decode cX1_remove 58 = .ok (.iload_n 2, 1) := by decide +kernel
theorem dX1_remove_59 : decode cX1_remove 59 = .ok (.aload_n 0, 1) := by decide +kernel
theorem dX1_remove_60 : decode cX1_remove 60 = .ok (.getfield 21, 3) := by decide +kernel
theorem dX1_remove_63 : decode cX1_remove 63 = .ok (.iload_n 2, 1) := by decide +kernel
theorem dX1_remove_64 : decode cX1_remove 64 = .ok (.iconst 1, 1) := by decide +kernel
theorem dX1_remove_65 : decode cX1_remove 65 = .ok (.iadd, 1) := by decide +kernel
theorem dX1_remove_66 : decode cX1_remove 66 = .ok (.iaload, 1) := by decide +kernel
theorem dX1_remove_67 : decode cX1_remove 67 = .ok (.iastore, 1) := by decide +kernel
theorem dX1_remove_68 : decode cX1_remove 68 = .ok (.iinc 2 1, 3) := by decide +kernel
theorem dX1_remove_71 : decode cX1_remove 71 = .ok (.goto (-69), 3) := by decide +kernel
theorem dX1_remove_74 : decode cX1_remove 74 = .ok (.aload_n 0, 1) := by decide +kernel
theorem dX1_remove_75 : decode cX1_remove 75 = .ok (.dup, 1) := by decide +kernel
theorem dX1_remove_76 : decode cX1_remove 76 = .ok (.getfield 36, 3) := by decide +kernel
theorem dX1_remove_79 : decode cX1_remove 79 = .ok (.iconst 1, 1) := by decide +kernel
theorem dX1_remove_80 : decode cX1_remove 80 = .ok (.isub, 1) := by decide +kernel
theorem dX1_remove_81 : decode cX1_remove 81 = .ok (.putfield 36, 3) := by decide +kernel
theorem dX1_remove_84 : decode cX1_remove 84 = .ok (.return_, 1) := by decide +kernel
theorem dX1_take_0 : decode cX1_take 0 = .ok (.aload_n 1, 1) := by decide +kernel
theorem dX1_take_1 : decode cX1_take 1 = .ok (.getfield 9, 3) := by decide +kernel
theorem dX1_take_4 : decode cX1_take 4 = .ok (.iconst 0, 1) := by decide +kernel
theorem dX1_take_5 : decode cX1_take 5 = .ok (.aload_n 0, 1) := by decide +kernel
theorem dX1_take_6 : decode cX1_take 6 = .ok (.getfield 9, 3) := by decide +kernel
theorem dX1_take_9 : decode cX1_take 9 = .ok (.iconst 0, 1) := by decide +kernel
theorem dX1_take_10 : decode cX1_take 10 = .ok (.bipush 16, 2) := by decide +kernel
theorem dX1_take_12 : decode cX1_take 12 = .ok (.invokestatic 30, 3) := by decide +kernel
theorem dX1_take_15 : decode cX1_take 15 = .ok (.aload_n 1, 1) := by decide +kernel
theorem dX1_take_16 : decode cX1_take 16 = .ok (.getfield 15, 3) := by decide +kernel
theorem dX1_take_19 : decode cX1_take 19 = .ok (.iconst 0, 1) := by decide +kernel
theorem dX1_take_20 : decode cX1_take 20 = .ok (.aload_n 0, 1) := by decide +kernel
theorem dX1_take_21 : decode cX1_take 21 = .ok (.getfield 15, 3) := by decide +kernel
theorem dX1_take_24 : decode cX1_take 24 = .ok (.iconst 0, 1) := by decide +kernel
theorem dX1_take_25 : decode cX1_take 25 = .ok (.bipush 16, 2) := by decide +kernel
theorem dX1_take_27 : decode cX1_take 27 = .ok (.invokestatic 30, 3) := by decide +kernel
theorem dX1_take_30 : decode cX1_take 30 = .ok (.aload_n 1, 1) := by decide +kernel
theorem dX1_take_31 : decode cX1_take 31 = .ok (.getfield 18, 3) := by decide +kernel
theorem dX1_take_34 : decode cX1_take 34 = .ok (.iconst 0, 1) := by decide +kernel
theorem dX1_take_35 : decode cX1_take 35 = .ok (.aload_n 0, 1) := by decide +kernel
theorem dX1_take_36 : decode cX1_take 36 = .ok (.getfield 18, 3) := by decide +kernel
theorem dX1_take_39 : decode cX1_take 39 = .ok (.iconst 0, 1) := by decide +kernel
theorem dX1_take_40 : decode cX1_take 40 = .ok (.bipush 16, 2) := by decide +kernel
theorem dX1_take_42 : decode cX1_take 42 = .ok (.invokestatic 30, 3) := by decide +kernel
theorem dX1_take_45 : decode cX1_take 45 = .ok (.aload_n 1, 1) := by decide +kernel
theorem dX1_take_46 : decode cX1_take 46 = .ok (.getfield 21, 3) := by decide +kernel
theorem dX1_take_49 : decode cX1_take 49 = .ok (.iconst 0, 1) := by decide +kernel
theorem dX1_take_50 : decode cX1_take 50 = .ok (.aload_n 0, 1) := by decide +kernel
theorem dX1_take_51 : decode cX1_take 51 = .ok (.getfield 21, 3) := by decide +kernel
theorem dX1_take_54 : decode cX1_take 54 = .ok (.iconst 0, 1) := by decide +kernel
theorem dX1_take_55 : decode cX1_take 55 = .ok (.bipush 16, 2) := by decide +kernel
theorem dX1_take_57 : decode cX1_take 57 = .ok (.invokestatic 30, 3) := by decide +kernel
theorem dX1_take_60 : decode cX1_take 60 = .ok (.aload_n 0, 1) := by decide +kernel
theorem dX1_take_61 : decode cX1_take 61 = .ok (.aload_n 1, 1) := by decide +kernel
theorem dX1_take_62 : decode cX1_take 62 = .ok (.getfield 36, 3) := by decide +kernel
theorem dX1_take_65 : decode cX1_take 65 = .ok (.putfield 36, 3) := by decide +kernel
theorem dX1_take_68 : decode cX1_take 68 = .ok (.aload_n 1, 1) := by decide +kernel
theorem dX1_take_69 : decode cX1_take 69 = .ok (.getfield 24, 3) := by decide +kernel
theorem dX1_take_72 : decode cX1_take 72 = .ok (.iconst 0, 1) := by decide +kernel
theorem dX1_take_73 : decode cX1_take 73 = .ok (.aload_n 0, 1) := by decide +kernel
theorem dX1_take_74 : decode cX1_take 74 = .ok (.getfield 24, 3) := by decide +kernel
theorem dX1_take_77 : decode cX1_take 77 = .ok (.iconst 0, 1) := by decide +kernel
theorem dX1_take_78 : decode cX1_take 78 = .ok (.iconst 5, 1) := by decide +kernel
theorem dX1_take_79 : decode cX1_take 79 = .ok (.invokestatic 30, 3) := by decide +kernel
theorem dX1_take_82 : decode cX1_take 82 = .ok (.return_, 1) := by decide +kernel
set_option maxRecDepth 20000 in
theorem ggX1_canBeStem_X4_isWithin : GoodIn wsX1_canBeStem wsX4_isWithin := goodIn_r _ [14] (by decide +kernel) (by decide +kernel)
set_option maxRecDepth 20000 in
theorem gX1_canBeStem_X4_isWithin_n49 : GoodIn wsX1_canBeStem (wsX4_isWithin) := ggX1_canBeStem_X4_isWithin
theorem dX1_canBeStem_0 : decode cX1_canBeStem 0 = .ok (.aload_n 0, 1) := by decide +kernel
theorem dX1_canBeStem_1 : decode cX1_canBeStem 1 = .ok (.getfield 9, 3) := by decide +kernel
theorem dX1_canBeStem_4 : decode cX1_canBeStem 4 = .ok (.iload_n 1, 1) := by decide +kernel
theorem dX1_canBeStem_5 : decode cX1_canBeStem 5 = .ok (.iaload, 1) := by decide +kernel
theorem dX1_canBeStem_6 : decode cX1_canBeStem 6 = .ok (.iconst 1, 1) := by decide +kernel
theorem dX1_canBeStem_7 : decode cX1_canBeStem 7 = .ok (.if_icmp .ne 72, 3) := by decide +kernel
theorem dX1_canBeStem_10 : decode cX1_canBeStem 10 = .ok (.aload_n 0, 1) := by decide +kernel
theorem dX1_canBeStem_11 : decode cX1_canBeStem 11 = .ok (.getfield 9, 3) := by decide +kernel
theorem dX1_canBeStem_14 : decode cX1_canBeStem 14 = .ok (.iload_n 2, 1) := by decide +kernel
theorem dX1_canBeStem_15 : decode cX1_canBeStem 15 = .ok (.iaload, 1) := by decide +kernel
theorem dX1_canBeStem_16 : decode cX1_canBeStem 16 = .ok (.ifCond .ne 63, 3) := by decide +kernel
theorem dX1_canBeStem_19 : decode cX1_canBeStem 19 = .ok (.aload_n 0, 1) := by decide +kernel
theorem dX1_canBeStem_20 : decode cX1_canBeStem 20 = .ok (.getfield 15, 3) := by decide +kernel
theorem dX1_canBeStem_23 : decode cX1_canBeStem 23 = .ok (.iload_n 2, 1) := by decide +kernel
theorem dX1_canBeStem_24 : decode cX1_canBeStem 24 = .ok (.iaload, 1) := by decide +kernel
theorem dX1_canBeStem_25 : decode cX1_canBeStem 25 = .ok (.aload_n 0, 1) := by decide +kernel
theorem dX1_canBeStem_26 : decode cX1_canBeStem 26 = .ok (.getfield 15, 3) := by decide +kernel
theorem dX1_canBeStem_29 : decode cX1_canBeStem 29 = .ok (.iload_n 1, 1) := by decide +kernel
theorem dX1_canBeStem_30 : decode cX1_canBeStem 30 = .ok (.iaload, 1) := by decide +kernel
theorem dX1_canBeStem_31 : decode cX1_canBeStem 31 = .ok (.isub, 1) := by decide +kernel
theorem dX1_canBeStem_32 : decode cX1_canBeStem 32 = .ok (.iconst 1, 1) := by decide +kernel
theorem dX1_canBeStem_33 : decode cX1_canBeStem 33 = .ok (.sipush 300, 3) := by decide +kernel
theorem dX1_canBeStem_36 : decode cX1_canBeStem 36 = .ok (.invokestatic 49, 3) := by decide +kernel
theorem dX1_canBeStem_39 : decode cX1_canBeStem 39 = .ok (.ifCond .eq 40, 3) := by decide +kernel
theorem dX1_canBeStem_42 : decode cX1_canBeStem 42 = .ok (.aload_n 0, 1) := by decide +kernel
theorem dX1_canBeStem_43 : decode cX1_canBeStem 43 = .ok (.getfield 21, 3) := by decide +kernel
theorem dX1_canBeStem_46 : decode cX1_canBeStem 46 = .ok (.iload_n 1, 1) := by decide +kernel
theorem dX1_canBeStem_47 : decode cX1_canBeStem 47 = .ok (.iaload, 1) := by decide +kernel
theorem dX1_canBeStem_48 : decode cX1_canBeStem 48 = .ok (.aload_n 0, 1) := by decide +kernel
theorem dX1_canBeStem_49 : decode cX1_canBeStem 49 = .ok (.getfield 21, 3) := by decide +kernel
theorem dX1_canBeStem_52 : decode cX1_canBeStem 52 = .ok (.iload_n 2, 1) := by decide +kernel
theorem dX1_canBeStem_53 : decode cX1_canBeStem 53 = .ok (.iaload, 1) := by decide +kernel
theorem dX1_canBeStem_54 : decode cX1_canBeStem 54 = .ok (.invokestatic 53, 3) := by decide +kernel
theorem dX1_canBeStem_57 : decode cX1_canBeStem 57 = .ok (.aload_n 0, 1) := by decide +kernel
theorem dX1_canBeStem_58 : decode cX1_canBeStem 58 = .ok (.getfield 18, 3) := by decide +kernel
theorem dX1_canBeStem_61 : decode cX1_canBeStem 61 = .ok (.iload_n 1, 1) := by decide +kernel
theorem dX1_canBeStem_62 : decode cX1_canBeStem 62 = .ok (.iaload, 1) := by decide +kernel
theorem dX1_canBeStem_63 : decode cX1_canBeStem 63 = .ok (.aload_n 0, 1) := by decide +kernel
theorem dX1_canBeStem_64 : decode cX1_canBeStem 64 = .ok (.getfield 18, 3) := by decide +kernel
theorem dX1_canBeStem_67 : decode cX1_canBeStem 67 = .ok (.iload_n 2, 1) := by decide +kernel
theorem dX1_canBeStem_68 : decode cX1_canBeStem 68 = .ok (.iaload, 1) := by decide +kernel
theorem dX1_canBeStem_69 : decode cX1_canBeStem 69 = .ok (.invokestatic 59, 3) := by decide +kernel
theorem dX1_canBeStem_72 : decode cX1_canBeStem 72 = .ok (.if_icmp .le 7, 3) := by decide +kernel
theorem dX1_canBeStem_75 : decode cX1_canBeStem 75 = .ok (.iconst 1, 1) := by decide +kernel
theorem dX1_canBeStem_76 : decode cX1_canBeStem 76 = .ok (.goto 4, 3) := by decide +kernel
theorem dX1_canBeStem_79 : decode cX1_canBeStem 79 = .ok (.iconst 0, 1) := by decide +kernel
theorem dX1_canBeStem_80 : decode cX1_canBeStem 80 = .ok (.ireturn, 1) := by decide +kernel
theorem dX2_init_0 : decode cX2_init 0 = .ok (.aload_n 0, 1) := by decide +kernel
theorem dX2_init_1 : decode cX2_init 1 = .ok (.invokespecial 3, 3) := by decide +kernel
theorem dX2_init_4 : decode cX2_init 4 = .ok (.aload_n 0, 1) := by decide +kernel
theorem dX2_init_5 : decode cX2_init 5 = .ok (.bipush 30, 2) := by decide +kernel
theorem dX2_init_7 : decode cX2_init 7 = .ok (.newarray .int, 2) := by decide +kernel
theorem dX2_init_9 : decode cX2_init 9 = .ok (.putfield 9, 3) := by decide +kernel
theorem dX2_init_12 : decode cX2_init 12 = .ok (.aload_n 0, 1) := by decide +kernel
theorem dX2_init_13 : decode cX2_init 13 = .ok (.iconst 3, 1) := by decide +kernel
theorem dX2_init_14 : decode cX2_init 14 = .ok (.newarray .int, 2) := by decide +kernel
theorem dX2_init_16 : decode cX2_init 16 = .ok (.putfield 15, 3) := by decide +kernel
theorem dX2_init_19 : decode cX2_init 19 = .ok (.return_, 1) := by decide +kernel
theorem dX2_add_0 : decode cX2_add 0 = .ok (.aload_n 0, 1) := by decide +kernel
theorem dX2_add_1 : decode cX2_add 1 = .ok (.getfield 18, 3) := by decide +kernel
theorem dX2_add_4 : decode cX2_add 4 = .ok (.bipush 30, 2) := by decide +kernel
theorem dX2_add_6 : decode cX2_add 6 = .ok (.if_icmp .lt 5, 3) := by decide +kernel
theorem dX2_add_9 : decode cX2_add 9 = .ok (.iconst 0, 1) := by decide +kernel
theorem dX2_add_10 : decode cX2_add 10 = .ok (.ireturn, 1) := by decide +kernel
theorem dX2_add_11 : decode cX2_add 11 = .ok (.aload_n 0, 1) := by decide +kernel
theorem dX2_add_12 : decode cX2_add 12 = .ok (.getfield 9, 3) := by decide +kernel
theorem dX2_add_15 : decode cX2_add 15 = .ok (.aload_n 0, 1) := by decide +kernel
theorem dX2_add_16 : decode cX2_add 16 = .ok (.getfield 18, 3) := by decide +kernel
theorem dX2_add_19 : decode cX2_add 19 = .ok (.iload_n 1, 1) := by decide +kernel
theorem dX2_add_20 : decode cX2_add 20 = .ok (.iastore, 1) := by decide +kernel
theorem dX2_add_21 : decode cX2_add 21 = .ok (.aload_n 0, 1) := by decide +kernel
theorem dX2_add_22 : decode cX2_add 22 = .ok (.dup, 1) := by decide +kernel
theorem dX2_add_23 : decode cX2_add 23 = .ok (.getfield 18, 3) := by decide +kernel
theorem dX2_add_26 : decode cX2_add 26 = .ok (.iconst 1, 1) := by decide +kernel
theorem dX2_add_27 : decode cX2_add 27 = .ok (.iadd, 1) := by decide +kernel
theorem dX2_add_28 : decode cX2_add 28 = .ok (.putfield 18, 3) := by decide +kernel
theorem dX2_add_31 : decode cX2_add 31 = .ok (.iconst 1, 1) := by decide +kernel
theorem dX2_add_32 : decode cX2_add 32 = .ok (.ireturn, 1) := by decide +kernel
theorem dX2_clear_0 : decode cX2_clear 0 = .ok (.aload_n 0, 1) := by decide +kernel
theorem dX2_clear_1 : decode cX2_clear 1 = .ok (.iconst 0, 1) := by decide +kernel
theorem dX2_clear_2 : decode cX2_clear 2 = .ok (.putfield 18, 3) := by decide +kernel
theorem dX2_clear_5 : decode cX2_clear 5 = .ok (.return_, 1) := by decide +kernel
set_option maxRecDepth 20000 in
theorem ggX2_read_X2_isSign : GoodIn wsX2_read wsX2_isSign := goodIn_r _ [8, 2, 9, 21, 22, 23] (by decide +kernel) (by decide +kernel)
set_option maxRecDepth 20000 in
theorem gX2_read_X2_isSign : GoodIn wsX2_read (wsV RX2 22 RX2 yX2_isSign wsX2_isSign) := goodIn_app (goodIn_of _ (by decide +kernel)) ggX2_read_X2_isSign
set_option maxRecDepth 20000 in
theorem ggX2_read_X2_readNumber : GoodIn wsX2_read wsX2_readNumber := goodIn_r _ [13, 9, 3, 14, 15, 16, 7, 17, 2, 18, 19, 20, 21, 22, 23] (by decide +kernel) (by decide +kernel)
set_option maxRecDepth 20000 in
theorem gX2_read_X2_readNumber : GoodIn wsX2_read (wsV RX2 26 RX2 yX2_readNumber wsX2_readNumber) := goodIn_app (goodIn_of _ (by decide +kernel)) ggX2_read_X2_readNumber
theorem dX2_read_0 : decode cX2_read 0 = .ok (.aload_n 0, 1) := by decide +kernel
theorem dX2_read_1 : decode cX2_read 1 = .ok (.iconst 0, 1) := by decide +kernel
theorem dX2_read_2 : decode cX2_read 2 = .ok (.bipush 117, 2) := by decide +kernel
theorem dX2_read_4 : decode cX2_read 4 = .ok (.invokevirtual 22, 3) := by decide +kernel
theorem dX2_read_7 : decode cX2_read 7 = .ok (.ifCond .ne 15, 3) := by decide +kernel
theorem dX2_read_10 : decode cX2_read 10 = .ok (.aload_n 0, 1) := by decide +kernel
theorem dX2_read_11 : decode cX2_read 11 = .ok (.iconst 0, 1) := by decide +kernel
theorem dX2_read_12 : decode cX2_read 12 = .ok (.bipush 100, 2) := by decide +kernel
theorem dX2_read_14 : decode cX2_read 14 = .ok (.invokevirtual 22, 3) := by decide +kernel
theorem dX2_read_17 : decode cX2_read 17 = .ok (.ifCond .ne 5, 3) := by decide +kernel
theorem dX2_read_20 : decode cX2_read 20 = .ok (.iconst 0, 1) := by decide +kernel
theorem dX2_read_21 : decode cX2_read 21 = .ok (.ireturn, 1) := by decide +kernel
theorem dX2_read_22 : decode cX2_read 22 = .ok (.iconst 1, 1) := by decide +kernel
theorem dX2_read_23 : decode cX2_read 23 = .ok (.istore_n 1, 1) := by decide +kernel
theorem dX2_read_24 : decode cX2_read 24 = .ok (.iconst 0, 1) := by decide +kernel
theorem dX2_read_25 : decode cX2_read 25 = .ok (.istore_n 2, 1) := by decide +kernel
theorem dX2_read_26 : decode cX2_read 26 = .ok (.iload_n 2, 1) := by decide +kernel
theorem dX2_read_27 : decode cX2_read 27 = .ok (.iconst 3, 1) := by decide +kernel
theorem dX2_read_28 : decode cX2_read 28 = .ok (.if_icmp .ge 52, 3) := by decide +kernel
theorem dX2_read_31 : decode cX2_read 31 = .ok (.aload_n 0, 1) := by decide +kernel
theorem dX2_read_32 : decode cX2_read 32 = .ok (.iload_n 2, 1) := by decide +kernel
theorem dX2_read_33 : decode cX2_read 33 = .ok (.iload_n 1, 1) := by decide +kernel
theorem dX2_read_34 : decode cX2_read 34 = .ok (.invokevirtual 26, 3) := by decide +kernel
theorem dX2_read_37 : decode cX2_read 37 = .ok (.istore_n 3, 1) := by decide +kernel
theorem dX2_read_38 : decode cX2_read 38 = .ok (.iload_n 1, 1) := by decide +kernel
theorem dX2_read_39 : decode cX2_read 39 = .ok (.iload_n 3, 1) := by decide +kernel
theorem dX2_read_40 : decode cX2_read 40 = .ok (.iadd, 1) := by decide +kernel
theorem dX2_read_41 : decode cX2_read 41 = .ok (.istore_n 1, 1) := by decide +kernel
theorem dX2_read_42 : decode cX2_read 42 = .ok (.iload_n 3, 1) := by decide +kernel
theorem dX2_read_43 : decode cX2_read 43 = .ok (.ifCond .ne 5, 3) := by decide +kernel
theorem dX2_read_46 : decode cX2_read 46 = .ok (.iload_n 1, 1) := by decide +kernel
theorem dX2_read_47 : decode cX2_read 47 = .ok (.ireturn, 1) := by decide +kernel
theorem dX2_read_48 : decode cX2_read 48 = .ok (.iload_n 2, 1) := by decide +kernel
theorem dX2_read_49 : decode cX2_read 49 = .ok (.getstatic 30, 3) := by decide +kernel
theorem dX2_read_52 : decode cX2_read 52 = .ok (.arraylength, 1) := by decide +kernel
theorem dX2_read_53 : decode cX2_read 53 = .ok (.if_icmp .ge 21, 3) := by decide +kernel
theorem dX2_read_56 : decode cX2_read 56 = .ok (.aload_n 0, 1) := by decide +kernel
theorem dX2_read_57 : decode cX2_read 57 = .ok (.iload_n 1, 1) := by decide +kernel
theorem dX2_read_58 : decode cX2_read 58 = .ok (.getstatic 30, 3) := by decide +kernel
theorem dX2_read_61 : decode cX2_read 61 = .ok (.iload_n 2, 1) := by decide +kernel
theorem dX2_read_62 : decode cX2_read 62 = .ok (.caload, 1) := by decide +kernel
theorem dX2_read_63 : decode cX2_read 63 = .ok (.invokevirtual 22, 3) := by decide +kernel
theorem dX2_read_66 : decode cX2_read 66 = .ok (.ifCond .ne 5, 3) := by decide +kernel
theorem dX2_read_69 : decode cX2_read 69 = .ok (.iload_n 1, 1) := by decide +kernel
theorem dX2_read_70 : decode cX2_read 70 = .ok (.ireturn, 1) := by decide +kernel
theorem dX2_read_71 : decode cX2_read 71 = .ok (.iinc 1 1, 3) := by decide +kernel
theorem dX2_read_74 : decode cX2_read 74 = .ok (.iinc 2 1, 3) := by decide +kernel
theorem dX2_read_77 : decode cX2_read 77 = .ok (.goto (-51), 3) := by decide +kernel
theorem dX2_read_80 : decode cX2_read 80 = .ok (.iload_n 1, 1) := by decide +kernel
theorem dX2_read_81 : decode cX2_read 81 = .ok (.aload_n 0, 1) := by decide +kernel
theorem dX2_read_82 : decode cX2_read 82 = .ok (.getfield 18, 3) := by decide +kernel
theorem dX2_read_85 : decode cX2_read 85 = .ok (.if_icmp .ge 5, 3) := by decide +kernel
theorem dX2_read_88 : decode cX2_read 88 = .ok (.iload_n 1, 1) := by decide +kernel
theorem dX2_read_89 : decode cX2_read 89 = .ok (.ireturn, 1) := by decide +kernel
theorem dX2_read_90 : decode cX2_read 90 = .ok (.aload_n 0, 1) := by decide +kernel
theorem dX2_read_91 : decode cX2_read 91 = .ok (.getfield 15, 3) := by decide +kernel
theorem dX2_read_94 : decode cX2_read 94 = .ok (.iconst 2, 1) := by decide +kernel
theorem dX2_read_95 : decode cX2_read 95 = .ok (.iaload, 1) := by decide +kernel
theorem dX2_read_96 : decode cX2_read 96 = .ok (.aload_n 0, 1) := by decide +kernel
theorem dX2_read_97 : decode cX2_read 97 = .ok (.getfield 15, 3) := by decide +kernel
theorem dX2_read_100 : decode cX2_read 100 = .ok (.iconst 1, 1) := by decide +kernel
theorem dX2_read_101 : decode cX2_read 101 = .ok (.iaload, 1) := by decide +kernel
theorem dX2_read_102 : decode cX2_read 102 = .ok (.if_icmp .le 8, 3) := by decide +kernel
theorem dX2_read_105 : decode cX2_read 105 = .ok (.bipush (-6), 2) := by decide +kernel
theorem dX2_read_107 : decode cX2_read 107 = .ok (.goto 7, 3) := by decide +kernel
theorem dX2_read_110 : decode cX2_read 110 = .ok (.aload_n 0, 1) := by decide +kernel
theorem dX2_read_111 : decode cX2_read 111 = .ok (.getfield 18, 3) := by decide +kernel
theorem dX2_read_114 : decode cX2_read 114 = .ok (.ireturn, 1) := by decide +kernel
theorem dX2_isSign_0 : decode cX2_isSign 0 = .ok (.iload_n 1, 1) := by decide +kernel
theorem dX2_isSign_1 : decode cX2_isSign 1 = .ok (.ifCond .lt 25, 3) := by decide +kernel
theorem dX2_isSign_4 : decode cX2_isSign 4 = .ok (.iload_n 1, 1) := by decide +kernel
theorem dX2_isSign_5 : decode cX2_isSign 5 = .ok (.aload_n 0, 1) := by decide +kernel
theorem dX2_isSign_6 : decode cX2_isSign 6 = .ok (.getfield 18, 3) := by decide +kernel
theorem dX2_isSign_9 : decode cX2_isSign 9 = .ok (.if_icmp .ge 17, 3) := by decide +kernel
theorem dX2_isSign_12 : decode cX2_isSign 12 = .ok (.aload_n 0, 1) := by decide +kernel
theorem dX2_isSign_13 : decode cX2_isSign 13 = .ok (.getfield 9, 3) := by decide +kernel
theorem dX2_isSign_16 : decode cX2_isSign 16 = .ok (.iload_n 1, 1) := by decide +kernel
theorem dX2_isSign_17 : decode cX2_isSign 17 = .ok (.iaload, 1) := by decide +kernel
theorem dX2_isSign_18 : decode cX2_isSign 18 = .ok (.iload_n 2, 1) := by decide +kernel
theorem dX2_isSign_19 : decode cX2_isSign 19 = .ok (.if_icmp .ne 7, 3) := by decide +kernel
theorem dX2_isSign_22 : decode cX2_isSign 22 = .ok (.iconst 1, 1) := by decide +kernel
theorem dX2_isSign_23 : decode cX2_isSign 23 = .ok (.goto 4, 3) := by decide +kernel
theorem dX2_isSign_26 : decode cX2_isSign 26 = .ok (.iconst 0, 1) := by decide +kernel
theorem dX2_isSign_27 : decode cX2_isSign 27 = .ok (.ireturn, 1) := by decide +kernel
set_option maxRecDepth 20000 in
theorem ggX2_readNumber_X2_isFigure : GoodIn wsX2_readNumber wsX2_isFigure := goodIn_r _ [7, 8, 1, 9, 10, 11, 12, 13, 14] (by decide +kernel) (by decide +kernel)
set_option maxRecDepth 20000 in
theorem gX2_readNumber_X2_isFigure : GoodIn wsX2_readNumber (wsV RX2 34 RX2 yX2_isFigure wsX2_isFigure) := goodIn_app (goodIn_of _ (by decide +kernel)) ggX2_readNumber_X2_isFigure
theorem dX2_readNumber_0 : decode cX2_readNumber 0 = .ok (.iconst 0, 1) := by decide +kernel
theorem dX2_readNumber_1 : decode cX2_readNumber 1 = .ok (.istore_n 3, 1) := by decide +kernel
theorem dX2_readNumber_2 : decode cX2_readNumber 2 = .ok (.iconst 0, 1) := by decide +kernel
theorem dX2_readNumber_3 : decode cX2_readNumber 3 = .ok (.istore 4, 2) := by decide +kernel
theorem dX2_readNumber_5 : decode cX2_readNumber 5 = .ok (.iload_n 3, 1) := by decide +kernel
theorem dX2_readNumber_6 : decode cX2_readNumber 6 = .ok (.iconst 3, 1) := by decide +kernel
theorem dX2_readNumber_7 : decode cX2_readNumber 7 = .ok (.if_icmp .ge 38, 3) := by decide +kernel
theorem dX2_readNumber_10 : decode cX2_readNumber 10 = .ok (.aload_n 0, 1) := by decide +kernel
theorem dX2_readNumber_11 : decode cX2_readNumber 11 = .ok (.iload_n 2, 1) := by decide +kernel
theorem dX2_readNumber_12 : decode cX2_readNumber 12 = .ok (.iload_n 3, 1) := by decide +kernel
theorem dX2_readNumber_13 : decode cX2_readNumber 13 = .ok (.iadd, 1) := by decide +kernel
theorem dX2_readNumber_14 : decode cX2_readNumber 14 = .ok (.invokevirtual 34, 3) := by decide +kernel
theorem dX2_readNumber_17 : decode cX2_readNumber 17 = .ok (.ifCond .eq 28, 3) := by decide +kernel
theorem dX2_readNumber_20 : decode cX2_readNumber 20 = .ok (.bipush 10, 2) := by decide +kernel
theorem dX2_readNumber_22 : decode cX2_readNumber 22 = .ok (.iload 4, 2) := by decide +kernel
theorem dX2_readNumber_24 : decode cX2_readNumber 24 = .ok (.imul, 1) := by decide +kernel
theorem dX2_readNumber_25 : decode cX2_readNumber 25 = .ok (.aload_n 0, 1) := by decide +kernel
theorem dX2_readNumber_26 : decode cX2_readNumber 26 = .ok (.getfield 9, 3) := by decide +kernel
theorem dX2_readNumber_29 : decode cX2_readNumber 29 = .ok (.iload_n 2, 1) := by decide +kernel
theorem dX2_readNumber_30 : decode cX2_readNumber 30 = .ok (.iload_n 3, 1) := by decide +kernel
theorem dX2_readNumber_31 : decode cX2_readNumber 31 = .ok (.iadd, 1) := by decide +kernel
theorem dX2_readNumber_32 : decode cX2_readNumber 32 = .ok (.iaload, 1) := by decide +kernel
theorem dX2_readNumber_33 : decode cX2_readNumber 33 = .ok (.iadd, 1) := by decide +kernel
theorem dX2_readNumber_34 : decode cX2_readNumber 34 = .ok (.bipush 48, 2) := by decide +kernel
theorem dX2_readNumber_36 : decode cX2_readNumber 36 = .ok (.isub, 1) := by decide +kernel
theorem dX2_readNumber_37 : decode cX2_readNumber 37 = .ok (.istore 4, 2) := by decide +kernel
theorem dX2_readNumber_39 : decode cX2_readNumber 39 = .ok (.iinc 3 1, 3) := by decide +kernel
theorem dX2_readNumber_42 : decode cX2_readNumber 42 = .ok (.goto (-37), 3) := by decide +kernel
theorem dX2_readNumber_45 : decode cX2_readNumber 45 = .ok (.aload_n 0, 1) := by decide +kernel
theorem dX2_readNumber_46 : decode cX2_readNumber 46 = .ok (.getfield 15, 3) := by decide +kernel
theorem dX2_readNumber_49 : decode cX2_readNumber 49 = .ok (.iload_n 1, 1) := by decide +kernel
theorem dX2_readNumber_50 : decode cX2_readNumber 50 = .ok (.iload 4, 2) := by decide +kernel
theorem dX2_readNumber_52 : decode cX2_readNumber 52 = .ok (.iastore, 1) := by decide +kernel
theorem dX2_readNumber_53 : decode cX2_readNumber 53 = .ok (.iload_n 3, 1) := by decide +kernel
theorem dX2_readNumber_54 : decode cX2_readNumber 54 = .ok (.ireturn, 1) := by decide +kernel
set_option maxRecDepth 20000 in
theorem ggX2_isFigure_X4_isWithin : GoodIn wsX2_isFigure wsX4_isWithin := goodIn_r _ [5] (by decide +kernel) (by decide +kernel)
set_option maxRecDepth 20000 in
theorem gX2_isFigure_X4_isWithin_n38 : GoodIn wsX2_isFigure (wsX4_isWithin) := ggX2_isFigure_X4_isWithin
theorem dX2_isFigure_0 : decode cX2_isFigure 0 = .ok (.iload_n 1, 1) := by decide +kernel
theorem dX2_isFigure_1 : decode cX2_isFigure 1 = .ok (.ifCond .lt 31, 3) := by decide +kernel
theorem dX2_isFigure_4 : decode cX2_isFigure 4 = .ok (.iload_n 1, 1) := by decide +kernel
theorem dX2_isFigure_5 : decode cX2_isFigure 5 = .ok (.aload_n 0, 1) := by decide +kernel
theorem dX2_isFigure_6 : decode cX2_isFigure 6 = .ok (.getfield 18, 3) := by decide +kernel
theorem dX2_isFigure_9 : decode cX2_isFigure 9 = .ok (.if_icmp .ge 23, 3) := by decide +kernel
theorem dX2_isFigure_12 : decode cX2_isFigure 12 = .ok (.aload_n 0, 1) := by decide +kernel
theorem dX2_isFigure_13 : decode cX2_isFigure 13 = .ok (.getfield 9, 3) := by decide +kernel
theorem dX2_isFigure_16 : decode cX2_isFigure 16 = .ok (.iload_n 1, 1) := by decide +kernel
theorem dX2_isFigure_17 : decode cX2_isFigure 17 = .ok (.iaload, 1) := by decide +kernel
theorem dX2_isFigure_18 : decode cX2_isFigure 18 = .ok (.bipush 48, 2) := by decide +kernel
theorem dX2_isFigure_20 : decode cX2_isFigure 20 = .ok (.bipush 57, 2) := by decide +kernel
theorem dX2_isFigure_22 : decode cX2_isFigure 22 = .ok (.invokestatic 38, 3) := by decide +kernel
theorem dX2_isFigure_25 : decode cX2_isFigure 25 = .ok (.ifCond .eq 7, 3) := by decide +kernel
theorem dX2_isFigure_28 : decode cX2_isFigure 28 = .ok (.iconst 1, 1) := by decide +kernel
theorem dX2_isFigure_29 : decode cX2_isFigure 29 = .ok (.goto 4, 3) := by decide +kernel
theorem dX2_isFigure_32 : decode cX2_isFigure 32 = .ok (.iconst 0, 1) := by decide +kernel
theorem dX2_isFigure_33 : decode cX2_isFigure 33 = .ok (.ireturn, 1) := by decide +kernel
end
section
theorem dX3_init_0 : decode cX3_init 0 = .ok (.aload_n 0, 1) := by decide +kernel
theorem dX3_init_1 : decode cX3_init 1 = .ok (.invokespecial 3, 3) := by decide +kernel
theorem dX3_init_4 : decode cX3_init 4 = .ok (.aload_n 0, 1) := by decide +kernel
theorem dX3_init_5 : decode cX3_init 5 = .ok (.bipush 8, 2) := by decide +kernel
theorem dX3_init_7 : decode cX3_init 7 = .ok (.newarray .int, 2) := by decide +kernel
theorem dX3_init_9 : decode cX3_init 9 = .ok (.putfield 9, 3) := by decide +kernel
theorem dX3_init_12 : decode cX3_init 12 = .ok (.aload_n 0, 1) := by decide +kernel
theorem dX3_init_13 : decode cX3_init 13 = .ok (.bipush 8, 2) := by decide +kernel
theorem dX3_init_15 : decode cX3_init 15 = .ok (.newarray .int, 2) := by decide +kernel
theorem dX3_init_17 : decode cX3_init 17 = .ok (.putfield 15, 3) := by decide +kernel
theorem dX3_init_20 : decode cX3_init 20 = .ok (.aload_n 0, 1) := by decide +kernel
theorem dX3_init_21 : decode cX3_init 21 = .ok (.bipush 8, 2) := by decide +kernel
theorem dX3_init_23 : decode cX3_init 23 = .ok (.newarray .int, 2) := by decide +kernel
theorem dX3_init_25 : decode cX3_init 25 = .ok (.putfield 18, 3) := by decide +kernel
theorem dX3_init_28 : decode cX3_init 28 = .ok (.aload_n 0, 1) := by decide +kernel
theorem dX3_init_29 : decode cX3_init 29 = .ok (.bipush 8, 2) := by decide +kernel
theorem dX3_init_31 : decode cX3_init 31 = .ok (.newarray .int, 2) := by decide +kernel
theorem dX3_init_33 : decode cX3_init 33 = .ok (.putfield 21, 3) := by decide +kernel
theorem dX3_init_36 : decode cX3_init 36 = .ok (.aload_n 0, 1) := by decide +kernel
theorem dX3_init_37 : decode cX3_init 37 = .ok (.bipush 8, 2) := by decide +kernel
theorem dX3_init_39 : decode cX3_init 39 = .ok (.newarray .int, 2) := by decide +kernel
theorem dX3_init_41 : decode cX3_init 41 = .ok (.putfield 24, 3) := by decide +kernel
theorem dX3_init_44 : decode cX3_init 44 = .ok (.aload_n 0, 1) := by decide +kernel
theorem dX3_init_45 : decode cX3_init 45 = .ok (.bipush 8, 2) := by decide +kernel
theorem dX3_init_47 : decode cX3_init 47 = .ok (.newarray .int, 2) := by decide +kernel
theorem dX3_init_49 : decode cX3_init 49 = .ok (.putfield 27, 3) := by decide +kernel
theorem dX3_init_52 : decode cX3_init 52 = .ok (.aload_n 0, 1) := by decide +kernel
theorem dX3_init_53 : decode cX3_init 53 = .ok (.bipush 8, 2) := by decide +kernel
theorem dX3_init_55 : decode cX3_init 55 = .ok (.newarray .int, 2) := by decide +kernel
theorem dX3_init_57 : decode cX3_init 57 = .ok (.putfield 30, 3) := by decide +kernel
theorem dX3_init_60 : decode cX3_init 60 = .ok (.aload_n 0, 1) := by decide +kernel
theorem dX3_init_61 : decode cX3_init 61 = .ok (.bipush 8, 2) := by decide +kernel
theorem dX3_init_63 : decode cX3_init 63 = .ok (.newarray .int, 2) := by decide +kernel
theorem dX3_init_65 : decode cX3_init 65 = .ok (.putfield 33, 3) := by decide +kernel
theorem dX3_init_68 : decode cX3_init 68 = .ok (.aload_n 0, 1) := by decide +kernel
theorem dX3_init_69 : decode cX3_init 69 = .ok (.bipush 8, 2) := by decide +kernel
theorem dX3_init_71 : decode cX3_init 71 = .ok (.newarray .int, 2) := by decide +kernel
theorem dX3_init_73 : decode cX3_init 73 = .ok (.putfield 36, 3) := by decide +kernel
theorem dX3_init_76 : decode cX3_init 76 = .ok (.return_, 1) := by decide +kernel
set_option maxRecDepth 20000 in
theorem ggX3_find_X3_addNarrowest : GoodIn wsX3_find wsX3_addNarrowest := goodIn_r _ [7, 8, 9, 10, 11, 12, 13, 14, 15, 16, 17, 18, 19, 20, 21, 22, 23, 24, 25, 26, 27, 28, 29, 30, 31, 6, 32, 1, 33, 34, 35, 36, 37, 38, 39, 40, 41, 42, 43, 73, 74, 75, 76, 77, 78, 62, 63, 64, 65, 66, 67, 68, 69, 70, 71, 72] (by decide +kernel) (by decide +kernel)
set_option maxRecDepth 20000 in
theorem gX3_find_X3_addNarrowest : GoodIn wsX3_find (wsV RX3 43 RX3 yX3_addNarrowest wsX3_addNarrowest) := goodIn_app (goodIn_of _ (by decide +kernel)) ggX3_find_X3_addNarrowest
set_option maxRecDepth 20000 in
theorem ggX3_find_X3_sortByWidth : GoodIn wsX3_find wsX3_sortByWidth := goodIn_r _ [47, 1, 48, 49, 50, 51, 6, 52, 34, 33, 62, 63, 64, 65, 66, 67, 68, 69, 70, 71, 72] (by decide +kernel) (by decide +kernel)
set_option maxRecDepth 20000 in
theorem gX3_find_X3_sortByWidth : GoodIn wsX3_find (wsV RX3 47 RX3 yX3_sortByWidth wsX3_sortByWidth) := goodIn_app (goodIn_of _ (by decide +kernel)) ggX3_find_X3_sortByWidth
set_option maxRecDepth 20000 in
theorem ggX3_find_X3_makeGroups : GoodIn wsX3_find wsX3_makeGroups := goodIn_r _ [56, 57, 1, 48, 58, 59, 60, 61, 49, 50, 51, 6, 52, 34, 33, 62, 63, 64, 65, 66, 67, 68, 69, 70, 71, 72] (by decide +kernel) (by decide +kernel)
set_option maxRecDepth 20000 in
theorem gX3_find_X3_makeGroups : GoodIn wsX3_find (wsV RX3 55 RX3 yX3_makeGroups wsX3_makeGroups) := goodIn_app (goodIn_of _ (by decide +kernel)) ggX3_find_X3_makeGroups
theorem dX3_find_0 : decode cX3_find 0 = .ok (.aload_n 0, 1) := by decide +kernel
theorem dX3_find_1 : decode cX3_find 1 = .ok (.iconst 0, 1) := by decide +kernel
theorem dX3_find_2 : decode cX3_find 2 = .ok (.putfield 39, 3) := by decide +kernel
theorem dX3_find_5 : decode cX3_find 5 = .ok (.iconst 1, 1) := by decide +kernel
theorem dX3_find_6 : decode cX3_find 6 = .ok (.istore_n 2, 1) := by decide +kernel
theorem dX3_find_7 : decode cX3_find 7 = .ok (.iconst 0, 1) := by decide +kernel
theorem dX3_find_8 : decode cX3_find 8 = .ok (.istore_n 3, 1) := by decide +kernel
theorem dX3_find_9 : decode cX3_find 9 = .ok (.iload_n 2, 1) := by decide +kernel
theorem dX3_find_10 : decode cX3_find 10 = .ok (.ifCond .eq 21, 3) := by decide +kernel
theorem dX3_find_13 : decode cX3_find 13 = .ok (.iload_n 3, 1) := by decide +kernel
theorem dX3_find_14 : decode cX3_find 14 = .ok (.bipush 8, 2) := by decide +kernel
theorem dX3_find_16 : decode cX3_find 16 = .ok (.if_icmp .ge 15, 3) := by decide +kernel
theorem dX3_find_19 : decode cX3_find 19 = .ok (.aload_n 0, 1) := by decide +kernel
theorem dX3_find_20 : decode cX3_find 20 = .ok (.aload_n 1, 1) := by decide +kernel
theorem dX3_find_21 : decode cX3_find 21 = .ok (.invokevirtual 43, 3) := by decide +kernel
theorem dX3_find_24 : decode cX3_find 24 = .ok (.istore_n 2, 1) := by decide +kernel
theorem dX3_find_25 : decode cX3_find 25 = .ok (.iinc 3 1, 3) := by decide +kernel
theorem dX3_find_28 : decode cX3_find 28 = .ok (.goto (-19), 3) := by decide +kernel
theorem dX3_find_31 : decode cX3_find 31 = .ok (.aload_n 0, 1) := by decide +kernel
theorem dX3_find_32 : decode cX3_find 32 = .ok (.invokevirtual 47, 3) := by decide +kernel
theorem dX3_find_35 : decode cX3_find 35 = .ok (.aload_n 0, 1) := by decide +kernel
theorem dX3_find_36 : decode cX3_find 36 = .ok (.aload_n 1, 1) := by decide +kernel
theorem dX3_find_37 : decode cX3_find 37 = .ok (.getfield 50, 3) := by decide +kernel
theorem dX3_find_40 : decode cX3_find 40 = .ok (.iconst 0, 1) := by decide +kernel
theorem dX3_find_41 : decode cX3_find 41 = .ok (.iaload, 1) := by decide +kernel
theorem dX3_find_42 : decode cX3_find 42 = .ok (.invokevirtual 55, 3) := by decide +kernel
theorem dX3_find_45 : decode cX3_find 45 = .ok (.return_, 1) := by decide +kernel
theorem dX3_withEdge_0 : decode cX3_withEdge 0 = .ok (.iconst 0, 1) := by decide +kernel
theorem dX3_withEdge_1 : decode cX3_withEdge 1 = .ok (.istore_n 2, 1) := by decide +kernel
theorem dX3_withEdge_2 : decode cX3_withEdge 2 = .ok (.iload_n 2, 1) := by decide +kernel
theorem dX3_withEdge_3 : decode cX3_withEdge 3 = .ok (.aload_n 0, 1) := by decide +kernel
theorem dX3_withEdge_4 : decode cX3_withEdge 4 = .ok (.getfield 39, 3) := by decide +kernel
theorem dX3_withEdge_7 : decode cX3_withEdge 7 = .ok (.if_icmp .ge 31, 3) := by decide +kernel
theorem dX3_withEdge_10 : decode cX3_withEdge 10 = .ok (.aload_n 0, 1) := by decide +kernel
theorem dX3_withEdge_11 : decode cX3_withEdge 11 = .ok (.getfield 18, 3) := by decide +kernel
theorem dX3_withEdge_14 : decode cX3_withEdge 14 = .ok (.iload_n 2, 1) := by decide +kernel
theorem dX3_withEdge_15 : decode cX3_withEdge 15 = .ok (.iaload, 1) := by decide +kernel
theorem dX3_withEdge_16 : decode cX3_withEdge 16 = .ok (.iload_n 1, 1) := by decide +kernel
theorem dX3_withEdge_17 : decode cX3_withEdge 17 = .ok (.if_icmp .eq 13, 3) := by decide +kernel
theorem dX3_withEdge_20 : decode cX3_withEdge 20 = .ok (.aload_n 0, 1) := by decide +kernel
theorem dX3_withEdge_21 : decode cX3_withEdge 21 = .ok (.getfield 21, 3) := by decide +kernel
theorem dX3_withEdge_24 : decode cX3_withEdge 24 = .ok (.iload_n 2, 1) := by decide +kernel
theorem dX3_withEdge_25 : decode cX3_withEdge 25 = .ok (.iaload, 1) := by decide +kernel
theorem dX3_withEdge_26 : decode cX3_withEdge 26 = .ok (.iload_n 1, 1) := by decide +kernel
theorem dX3_withEdge_27 : decode cX3_withEdge 27 = .ok (.if_icmp .ne 5, 3) := by decide +kernel
theorem dX3_withEdge_30 : decode cX3_withEdge 30 = .ok (.iload_n 2, 1) := by decide +kernel
theorem dX3_withEdge_31 : decode cX3_withEdge 31 = .ok (.ireturn, 1) := by decide +kernel
theorem dX3_withEdge_32 : decode cX3_withEdge 32 = .ok (.iinc 2 1, 3) := by decide +kernel
theorem dX3_withEdge_35 : decode cX3_withEdge 35 = .ok (.goto (-33), 3) := by decide +kernel
theorem dX3_withEdge_38 : decode cX3_withEdge 38 = .ok (.bipush (-6), 2) := by decide +kernel
theorem dX3_withEdge_40 : decode cX3_withEdge 40 = .ok (.ireturn, 1) := by decide +kernel
theorem dX3_standard_0 : decode cX3_standard 0 = .ok (.aload_n 0, 1) := by decide +kernel
theorem dX3_standard_1 : decode cX3_standard 1 = .ok (.getfield 27, 3) := by decide +kernel
theorem dX3_standard_4 : decode cX3_standard 4 = .ok (.iload_n 1, 1) := by decide +kernel
theorem dX3_standard_5 : decode cX3_standard 5 = .ok (.iaload, 1) := by decide +kernel
theorem dX3_standard_6 : decode cX3_standard 6 = .ok (.ifCond .le 19, 3) := by decide +kernel
theorem dX3_standard_9 : decode cX3_standard 9 = .ok (.aload_n 0, 1) := by decide +kernel
theorem dX3_standard_10 : decode cX3_standard 10 = .ok (.getfield 33, 3) := by decide +kernel
theorem dX3_standard_13 : decode cX3_standard 13 = .ok (.iload_n 1, 1) := by decide +kernel
theorem dX3_standard_14 : decode cX3_standard 14 = .ok (.iaload, 1) := by decide +kernel
theorem dX3_standard_15 : decode cX3_standard 15 = .ok (.aload_n 0, 1) := by decide +kernel
theorem dX3_standard_16 : decode cX3_standard 16 = .ok (.getfield 27, 3) := by decide +kernel
theorem dX3_standard_19 : decode cX3_standard 19 = .ok (.iload_n 1, 1) := by decide +kernel
theorem dX3_standard_20 : decode cX3_standard 20 = .ok (.iaload, 1) := by decide +kernel
theorem dX3_standard_21 : decode cX3_standard 21 = .ok (.idiv, 1) := by decide +kernel
theorem dX3_standard_22 : decode cX3_standard 22 = .ok (.goto 4, 3) := by decide +kernel
theorem dX3_standard_25 : decode cX3_standard 25 = .ok (.iconst 0, 1) := by decide +kernel
theorem dX3_standard_26 : decode cX3_standard 26 = .ok (.ireturn, 1) := by decide +kernel
set_option maxRecDepth 20000 in
theorem ggX3_dotsOfGroup_X3_standard : GoodIn wsX3_dotsOfGroup wsX3_standard := goodIn_r _ [9, 10, 11, 12, 13, 14, 15, 16, 17, 18, 19, 20, 21, 22] (by decide +kernel) (by decide +kernel)
set_option maxRecDepth 20000 in
theorem gX3_dotsOfGroup_X3_standard : GoodIn wsX3_dotsOfGroup (wsV RX3 59 RX3 yX3_standard wsX3_standard) := goodIn_app (goodIn_of _ (by decide +kernel)) ggX3_dotsOfGroup_X3_standard
theorem dX3_dotsOfGroup_0 : decode cX3_dotsOfGroup 0 = .ok (.aload_n 0, 1) := by decide +kernel
theorem dX3_dotsOfGroup_1 : decode cX3_dotsOfGroup 1 = .ok (.iload_n 1, 1) := by decide +kernel
theorem dX3_dotsOfGroup_2 : decode cX3_dotsOfGroup 2 = .ok (.invokevirtual 59, 3) := by decide +kernel
theorem dX3_dotsOfGroup_5 : decode cX3_dotsOfGroup 5 = .ok (.iload_n 2, 1) := by decide +kernel
theorem dX3_dotsOfGroup_6 : decode cX3_dotsOfGroup 6 = .ok (.imul, 1) := by decide +kernel
theorem dX3_dotsOfGroup_7 : decode cX3_dotsOfGroup 7 = .ok (.sipush 500, 3) := by decide +kernel
theorem dX3_dotsOfGroup_10 : decode cX3_dotsOfGroup 10 = .ok (.iadd, 1) := by decide +kernel
theorem dX3_dotsOfGroup_11 : decode cX3_dotsOfGroup 11 = .ok (.sipush 1000, 3) := by decide +kernel
theorem dX3_dotsOfGroup_14 : decode cX3_dotsOfGroup 14 = .ok (.idiv, 1) := by decide +kernel
theorem dX3_dotsOfGroup_15 : decode cX3_dotsOfGroup 15 = .ok (.istore 4, 2) := by decide +kernel
theorem dX3_dotsOfGroup_17 : decode cX3_dotsOfGroup 17 = .ok (.iconst 1, 1) := by decide +kernel
theorem dX3_dotsOfGroup_18 : decode cX3_dotsOfGroup 18 = .ok (.iload 4, 2) := by decide +kernel
theorem dX3_dotsOfGroup_20 : decode cX3_dotsOfGroup 20 = .ok (.invokestatic 63, 3) := by decide +kernel
theorem dX3_dotsOfGroup_23 : decode cX3_dotsOfGroup 23 = .ok (.iload_n 3, 1) := by decide +kernel
theorem dX3_dotsOfGroup_24 : decode cX3_dotsOfGroup 24 = .ok (.iadd, 1) := by decide +kernel
theorem dX3_dotsOfGroup_25 : decode cX3_dotsOfGroup 25 = .ok (.ireturn, 1) := by decide +kernel
set_option maxRecDepth 20000 in
theorem ggX3_dotsOfStem_X3_dotsOfGroup : GoodIn wsX3_dotsOfStem wsX3_dotsOfGroup := goodIn_r _ [6, 7, 8, 9, 10, 11, 12, 13, 5, 14, 15, 16, 17, 18, 19, 20, 21, 22, 23, 24, 25, 26, 27] (by decide +kernel) (by decide +kernel)
set_option maxRecDepth 20000 in
theorem gX3_dotsOfStem_X3_dotsOfGroup : GoodIn wsX3_dotsOfStem (wsV RX3 69 RX3 yX3_dotsOfGroup wsX3_dotsOfGroup) := goodIn_app (goodIn_of _ (by decide +kernel)) ggX3_dotsOfStem_X3_dotsOfGroup
theorem dX3_dotsOfStem_0 : decode cX3_dotsOfStem 0 = .ok (.aload_n 0, 1) := by decide +kernel
theorem dX3_dotsOfStem_1 : decode cX3_dotsOfStem 1 = .ok (.aload_n 0, 1) := by decide +kernel
theorem dX3_dotsOfStem_2 : decode cX3_dotsOfStem 2 = .ok (.getfield 24, 3) := by decide +kernel
theorem dX3_dotsOfStem_5 : decode cX3_dotsOfStem 5 = .ok (.iload_n 1, 1) := by decide +kernel
theorem dX3_dotsOfStem_6 : decode cX3_dotsOfStem 6 = .ok (.iaload, 1) := by decide +kernel
theorem dX3_dotsOfStem_7 : decode cX3_dotsOfStem 7 = .ok (.iload_n 2, 1) := by decide +kernel
theorem dX3_dotsOfStem_8 : decode cX3_dotsOfStem 8 = .ok (.iload_n 3, 1) := by decide +kernel
theorem dX3_dotsOfStem_9 : decode cX3_dotsOfStem 9 = .ok (.invokevirtual 69, 3) := by decide +kernel
theorem dX3_dotsOfStem_12 : decode cX3_dotsOfStem 12 = .ok (.ireturn, 1) := by decide +kernel
theorem dX3_width_0 : decode cX3_width 0 = .ok (.aload_n 0, 1) := by decide +kernel
theorem dX3_width_1 : decode cX3_width 1 = .ok (.getfield 15, 3) := by decide +kernel
theorem dX3_width_4 : decode cX3_width 4 = .ok (.iload_n 1, 1) := by decide +kernel
theorem dX3_width_5 : decode cX3_width 5 = .ok (.iaload, 1) := by decide +kernel
theorem dX3_width_6 : decode cX3_width 6 = .ok (.aload_n 0, 1) := by decide +kernel
theorem dX3_width_7 : decode cX3_width 7 = .ok (.getfield 9, 3) := by decide +kernel
theorem dX3_width_10 : decode cX3_width 10 = .ok (.iload_n 1, 1) := by decide +kernel
theorem dX3_width_11 : decode cX3_width 11 = .ok (.iaload, 1) := by decide +kernel
theorem dX3_width_12 : decode cX3_width 12 = .ok (.isub, 1) := by decide +kernel
theorem dX3_width_13 : decode cX3_width 13 = .ok (.ireturn, 1) := by decide +kernel
set_option maxRecDepth 20000 in
theorem ggX3_addNarrowest_X1_canBeStem : GoodIn wsX3_addNarrowest wsX1_canBeStem := goodIn_r _ [7, 8, 9, 10, 11, 12, 13, 14, 15, 16, 17, 18, 19, 20, 21, 39, 40, 41, 42, 43, 44] (by decide +kernel) (by decide +kernel)
set_option maxRecDepth 20000 in
theorem gX3_addNarrowest_X1_canBeStem : GoodIn wsX3_addNarrowest (wsV RX3 76 RX1 yX1_canBeStem wsX1_canBeStem) := goodIn_app (goodIn_of _ (by decide +kernel)) ggX3_addNarrowest_X1_canBeStem
set_option maxRecDepth 20000 in
theorem ggX3_addNarrowest_X3_isFree : GoodIn wsX3_addNarrowest wsX3_isFree := goodIn_r _ [26, 27, 28, 29, 45, 46, 47, 48, 49, 50, 51, 52, 53, 54, 55] (by decide +kernel) (by decide +kernel)
set_option maxRecDepth 20000 in
theorem gX3_addNarrowest_X3_isFree : GoodIn wsX3_addNarrowest (wsV RX3 83 RX3 yX3_isFree wsX3_isFree) := goodIn_app (goodIn_of _ (by decide +kernel)) ggX3_addNarrowest_X3_isFree
set_option maxRecDepth 20000 in
theorem ggX3_addNarrowest_X3_isSooner : GoodIn wsX3_addNarrowest wsX3_isSooner := goodIn_r _ [32] (by decide +kernel) (by decide +kernel)
set_option maxRecDepth 20000 in
theorem gX3_addNarrowest_X3_isSooner : GoodIn wsX3_addNarrowest (va_wsS RX3 86 yX3_isSooner wsX3_isSooner) := goodIn_app (goodIn_of _ (by decide +kernel)) ggX3_addNarrowest_X3_isSooner
set_option maxRecDepth 20000 in
theorem ggX3_addNarrowest_X3_insert : GoodIn wsX3_addNarrowest wsX3_insert := goodIn_r _ [36, 27, 28, 29, 37, 38, 45, 46, 47, 48, 49, 50, 51, 52, 53, 54, 55] (by decide +kernel) (by decide +kernel)
set_option maxRecDepth 20000 in
theorem gX3_addNarrowest_X3_insert : GoodIn wsX3_addNarrowest (wsV RX3 90 RX3 yX3_insert wsX3_insert) := goodIn_app (goodIn_of _ (by decide +kernel)) ggX3_addNarrowest_X3_insert
theorem dX3_addNarrowest_0 : decode cX3_addNarrowest 0 = .ok (.bipush (-6), 2) := by decide +kernel
theorem dX3_addNarrowest_2 : decode cX3_addNarrowest 2 = .ok (.istore_n 2, 1) := by decide +kernel
theorem dX3_addNarrowest_3 : decode cX3_addNarrowest 3 = .ok (.bipush (-6), 2) := by decide +kernel
theorem dX3_addNarrowest_5 : decode cX3_addNarrowest 5 = .ok (.istore_n 3, 1) := by decide +kernel
theorem dX3_addNarrowest_6 : decode cX3_addNarrowest 6 = .ok (.iconst 0, 1) := by decide +kernel
theorem dX3_addNarrowest_7 : decode cX3_addNarrowest 7 = .ok (.istore 4, 2) := by decide +kernel
theorem dX3_addNarrowest_9 : decode cX3_addNarrowest 9 = .ok (.iload 4, 2) := by decide +kernel
theorem dX3_addNarrowest_11 : decode cX3_addNarrowest 11 = .ok (.aload_n 1, 1) := by decide +kernel
theorem dX3_addNarrowest_12 : decode cX3_addNarrowest 12 = .ok (.getfield 73, 3) := by decide +kernel
theorem dX3_addNarrowest_15 : decode cX3_addNarrowest 15 = .ok (.if_icmp .ge 106, 3) := by decide +kernel
theorem dX3_addNarrowest_18 : decode cX3_addNarrowest 18 = .ok (.iconst 0, 1) := by decide +kernel
theorem dX3_addNarrowest_19 : decode cX3_addNarrowest 19 = .ok (.istore 5, 2) := by decide +kernel
theorem dX3_addNarrowest_21 : decode cX3_addNarrowest 21 = .ok (.iload 5, 2) := by decide +kernel
theorem dX3_addNarrowest_23 : decode cX3_addNarrowest 23 = .ok (.aload_n 1, 1) := by decide +kernel
theorem dX3_addNarrowest_24 : decode cX3_addNarrowest 24 = .ok (.getfield 73, 3) := by decide +kernel
theorem dX3_addNarrowest_27 : decode cX3_addNarrowest 27 = .ok (.if_icmp .ge 88, 3) := by decide +kernel
theorem dX3_addNarrowest_30 : decode cX3_addNarrowest 30 = .ok (.aload_n 1, 1) := by decide +kernel
theorem dX3_addNarrowest_31 : decode cX3_addNarrowest 31 = .ok (.iload 4, 2) := by decide +kernel
theorem dX3_addNarrowest_33 : decode cX3_addNarrowest 33 = .ok (.iload 5, 2) := by decide +kernel
theorem dX3_addNarrowest_35 : decode cX3_addNarrowest 35 = .ok (.invokevirtual 76, 3) := by decide +kernel
theorem dX3_addNarrowest_38 : decode cX3_addNarrowest 38 = .ok (.ifCond .eq 71, 3) := by decide +kernel
theorem dX3_addNarrowest_41 : decode cX3_addNarrowest 41 = .ok (.aload_n 0, 1) := by decide +kernel
theorem dX3_addNarrowest_42 : decode cX3_addNarrowest 42 = .ok (.aload_n 1, 1) := by decide +kernel
theorem dX3_addNarrowest_43 : decode cX3_addNarrowest 43 = .ok (.getfield 80, 3) := by decide +kernel
theorem dX3_addNarrowest_46 : decode cX3_addNarrowest 46 = .ok (.iload 4, 2) := by decide +kernel
theorem dX3_addNarrowest_48 : decode cX3_addNarrowest 48 = .ok (.iaload, 1) := by decide +kernel
theorem dX3_addNarrowest_49 : decode cX3_addNarrowest 49 = .ok (.aload_n 1, 1) := by decide +kernel
theorem dX3_addNarrowest_50 : decode cX3_addNarrowest 50 = .ok (.getfield 80, 3) := by decide +kernel
theorem dX3_addNarrowest_53 : decode cX3_addNarrowest 53 = .ok (.iload 5, 2) := by decide +kernel
theorem dX3_addNarrowest_55 : decode cX3_addNarrowest 55 = .ok (.iaload, 1) := by decide +kernel
theorem dX3_addNarrowest_56 : decode cX3_addNarrowest 56 = .ok (.invokevirtual 83, 3) := by decide +kernel
theorem dX3_addNarrowest_59 : decode cX3_addNarrowest 59 = .ok (.ifCond .ne 6, 3) := by decide +kernel
theorem dX3_addNarrowest_62 : decode cX3_addNarrowest 62 = .ok (.goto 47, 3) := by decide +kernel
theorem dX3_addNarrowest_65 : decode cX3_addNarrowest 65 = .ok (.iload_n 2, 1) := by decide +kernel
theorem dX3_addNarrowest_66 : decode cX3_addNarrowest 66 = .ok (.bipush (-6), 2) := by decide +kernel
theorem dX3_addNarrowest_68 : decode cX3_addNarrowest 68 = .ok (.if_icmp .eq 35, 3) := by decide +kernel
theorem dX3_addNarrowest_71 : decode cX3_addNarrowest 71 = .ok (.aload_n 1, 1) := by decide +kernel
theorem dX3_addNarrowest_72 : decode cX3_addNarrowest 72 = .ok (.getfield 80, 3) := by decide +kernel
theorem dX3_addNarrowest_75 : decode cX3_addNarrowest 75 = .ok (.iload 4, 2) := by decide +kernel
theorem dX3_addNarrowest_77 : decode cX3_addNarrowest 77 = .ok (.iaload, 1) := by decide +kernel
theorem dX3_addNarrowest_78 : decode cX3_addNarrowest 78 = .ok (.aload_n 1, 1) := by decide +kernel
theorem dX3_addNarrowest_79 : decode cX3_addNarrowest 79 = .ok (.getfield 80, 3) := by decide +kernel
theorem dX3_addNarrowest_82 : decode cX3_addNarrowest 82 = .ok (.iload 5, 2) := by decide +kernel
theorem dX3_addNarrowest_84 : decode cX3_addNarrowest 84 = .ok (.iaload, 1) := by decide +kernel
theorem dX3_addNarrowest_85 : decode cX3_addNarrowest 85 = .ok (.aload_n 1, 1) := by decide +kernel
theorem dX3_addNarrowest_86 : decode cX3_addNarrowest 86 = .ok (.getfield 80, 3) := by decide +kernel
theorem dX3_addNarrowest_89 : decode cX3_addNarrowest 89 = .ok (.iload_n 2, 1) := by decide +kernel
theorem dX3_addNarrowest_90 : decode cX3_addNarrowest 90 = .ok (.iaload, 1) := by decide +kernel
theorem dX3_addNarrowest_91 : decode cX3_addNarrowest 91 = .ok (.aload_n 1, 1) := by decide +kernel
theorem dX3_addNarrowest_92 : decode cX3_addNarrowest 92 = .ok (.getfield 80, 3) := by decide +kernel
theorem dX3_addNarrowest_95 : decode cX3_addNarrowest 95 = .ok (.iload_n 3, 1) := by decide +kernel
theorem dX3_addNarrowest_96 : decode cX3_addNarrowest 96 = .ok (.iaload, 1) := by decide +kernel
theorem dX3_addNarrowest_97 : decode cX3_addNarrowest 97 = .ok (.invokestatic 86, 3) := by decide +kernel
theorem dX3_addNarrowest_100 : decode cX3_addNarrowest 100 = .ok (.ifCond .eq 9, 3) := by decide +kernel
theorem dX3_addNarrowest_103 : decode cX3_addNarrowest 103 = .ok (.iload 4, 2) := by decide +kernel
theorem dX3_addNarrowest_105 : decode cX3_addNarrowest 105 = .ok (.istore_n 2, 1) := by decide +kernel
theorem dX3_addNarrowest_106 : decode cX3_addNarrowest 106 = .ok (.iload 5, 2) := by decide +kernel
theorem dX3_addNarrowest_108 : decode cX3_addNarrowest 108 = .ok (.istore_n 3, 1) := by decide +kernel
theorem dX3_addNarrowest_109 : decode cX3_addNarrowest 109 = .ok (.iinc 5 1, 3) := by decide +kernel
theorem dX3_addNarrowest_112 : decode cX3_addNarrowest 112 = .ok (.goto (-91), 3) := by decide +kernel
theorem dX3_addNarrowest_115 : decode cX3_addNarrowest 115 = .ok (.iinc 4 1, 3) := by decide +kernel
theorem dX3_addNarrowest_118 : decode cX3_addNarrowest 118 = .ok (.goto (-109), 3) := by decide +kernel
theorem dX3_addNarrowest_121 : decode cX3_addNarrowest 121 = .ok (.iload_n 2, 1) := by decide +kernel
theorem dX3_addNarrowest_122 : decode cX3_addNarrowest 122 = .ok (.bipush (-6), 2) := by decide +kernel
theorem dX3_addNarrowest_124 : decode cX3_addNarrowest 124 = .ok (.if_icmp .ne 5, 3) := by decide +kernel
theorem dX3_addNarrowest_127 : decode cX3_addNarrowest 127 = .ok (.iconst 0, 1) := by decide +kernel
theorem dX3_addNarrowest_128 : decode cX3_addNarrowest 128 = .ok (.ireturn, 1) := by decide +kernel
theorem dX3_addNarrowest_129 : decode cX3_addNarrowest 129 = .ok (.aload_n 0, 1) := by decide +kernel
theorem dX3_addNarrowest_130 : decode cX3_addNarrowest 130 = .ok (.iload_n 2, 1) := by decide +kernel
theorem dX3_addNarrowest_131 : decode cX3_addNarrowest 131 = .ok (.iload_n 3, 1) := by decide +kernel
theorem dX3_addNarrowest_132 : decode cX3_addNarrowest 132 = .ok (.aload_n 1, 1) := by decide +kernel
theorem dX3_addNarrowest_133 : decode cX3_addNarrowest 133 = .ok (.getfield 80, 3) := by decide +kernel
theorem dX3_addNarrowest_136 : decode cX3_addNarrowest 136 = .ok (.iload_n 2, 1) := by decide +kernel
theorem dX3_addNarrowest_137 : decode cX3_addNarrowest 137 = .ok (.iaload, 1) := by decide +kernel
theorem dX3_addNarrowest_138 : decode cX3_addNarrowest 138 = .ok (.aload_n 1, 1) := by decide +kernel
theorem dX3_addNarrowest_139 : decode cX3_addNarrowest 139 = .ok (.getfield 80, 3) := by decide +kernel
theorem dX3_addNarrowest_142 : decode cX3_addNarrowest 142 = .ok (.iload_n 3, 1) := by decide +kernel
theorem dX3_addNarrowest_143 : decode cX3_addNarrowest 143 = .ok (.iaload, 1) := by decide +kernel
theorem dX3_addNarrowest_144 : decode cX3_addNarrowest 144 = .ok (.invokevirtual 90, 3) := by decide +kernel
theorem dX3_addNarrowest_147 : decode cX3_addNarrowest 147 = .ok (.iconst 1, 1) := by decide +kernel
theorem dX3_addNarrowest_148 : decode cX3_addNarrowest 148 = .ok (.ireturn, 1) := by decide +kernel
theorem dX3_isFree_0 : decode cX3_isFree 0 = .ok (.iconst 0, 1) := by decide +kernel
theorem dX3_isFree_1 : decode cX3_isFree 1 = .ok (.istore_n 3, 1) := by decide +kernel
theorem dX3_isFree_2 : decode cX3_isFree 2 = .ok (.iload_n 3, 1) := by decide +kernel
theorem dX3_isFree_3 : decode cX3_isFree 3 = .ok (.aload_n 0, 1) := by decide +kernel
theorem dX3_isFree_4 : decode cX3_isFree 4 = .ok (.getfield 39, 3) := by decide +kernel
theorem dX3_isFree_7 : decode cX3_isFree 7 = .ok (.if_icmp .ge 31, 3) := by decide +kernel
theorem dX3_isFree_10 : decode cX3_isFree 10 = .ok (.iload_n 2, 1) := by decide +kernel
theorem dX3_isFree_11 : decode cX3_isFree 11 = .ok (.aload_n 0, 1) := by decide +kernel
theorem dX3_isFree_12 : decode cX3_isFree 12 = .ok (.getfield 9, 3) := by decide +kernel
theorem dX3_isFree_15 : decode cX3_isFree 15 = .ok (.iload_n 3, 1) := by decide +kernel
theorem dX3_isFree_16 : decode cX3_isFree 16 = .ok (.iaload, 1) := by decide +kernel
theorem dX3_isFree_17 : decode cX3_isFree 17 = .ok (.if_icmp .lt 15, 3) := by decide +kernel
theorem dX3_isFree_20 : decode cX3_isFree 20 = .ok (.aload_n 0, 1) := by decide +kernel
theorem dX3_isFree_21 : decode cX3_isFree 21 = .ok (.getfield 15, 3) := by decide +kernel
theorem dX3_isFree_24 : decode cX3_isFree 24 = .ok (.iload_n 3, 1) := by decide +kernel
theorem dX3_isFree_25 : decode cX3_isFree 25 = .ok (.iaload, 1) := by decide +kernel
theorem dX3_isFree_26 : decode cX3_isFree 26 = .ok (.iload_n 1, 1) := by decide +kernel
theorem dX3_isFree_27 : decode cX3_isFree 27 = .ok (.if_icmp .lt 5, 3) := by decide +kernel
theorem dX3_isFree_30 : decode cX3_isFree 30 = .ok (.iconst 0, 1) := by decide +kernel
theorem dX3_isFree_31 : decode cX3_isFree 31 = .ok (.ireturn, 1) := by decide +kernel
theorem dX3_isFree_32 : decode cX3_isFree 32 = .ok (.iinc 3 1, 3) := by decide +kernel
theorem dX3_isFree_35 : decode cX3_isFree 35 = .ok (.goto (-33), 3) := by decide +kernel
theorem dX3_isFree_38 : decode cX3_isFree 38 = .ok (.iconst 1, 1) := by decide +kernel
theorem dX3_isFree_39 : decode cX3_isFree 39 = .ok (.ireturn, 1) := by decide +kernel
theorem dX3_isSooner_0 : decode cX3_isSooner 0 = .ok (.iload_n 1, 1) := by decide +kernel
theorem dX3_isSooner_1 : decode cX3_isSooner 1 = .ok (.iload_n 0, 1) := by decide +kernel
theorem dX3_isSooner_2 : decode cX3_isSooner 2 = .ok (.isub, 1) := by decide +kernel
theorem dX3_isSooner_3 : decode cX3_isSooner 3 = .ok (.istore 4, 2) := by decide +kernel
theorem dX3_isSooner_5 : decode cX3_isSooner 5 = .ok (.iload_n 3, 1) := by decide +kernel
theorem dX3_isSooner_6 : decode cX3_isSooner 6 = .ok (.iload_n 2, 1) := by decide +kernel
theorem dX3_isSooner_7 : decode cX3_isSooner 7 = .ok (.isub, 1) := by decide +kernel
theorem dX3_isSooner_8 : decode cX3_isSooner 8 = .ok (.istore 5, 2) := by decide +kernel
theorem dX3_isSooner_10 : decode cX3_isSooner 10 = .ok (.iload 4, 2) := by decide +kernel
theorem dX3_isSooner_12 : decode cX3_isSooner 12 = .ok (.iload 5, 2) := by decide +kernel
theorem dX3_isSooner_14 : decode cX3_isSooner 14 = .ok (.if_icmp .lt 15, 3) := by decide +kernel
theorem dX3_isSooner_17 : decode cX3_isSooner 17 = .ok (.iload 4, 2) := by decide +kernel
theorem dX3_isSooner_19 : decode cX3_isSooner 19 = .ok (.iload 5, 2) := by decide +kernel
theorem dX3_isSooner_21 : decode cX3_isSooner 21 = .ok (.if_icmp .ne 12, 3) := by decide +kernel
theorem dX3_isSooner_24 : decode cX3_isSooner 24 = .ok (.iload_n 0, 1) := by decide +kernel
theorem dX3_isSooner_25 : decode cX3_isSooner 25 = .ok (.iload_n 2, 1) := by decide +kernel
theorem dX3_isSooner_26 : decode cX3_isSooner 26 = .ok (.if_icmp .ge 7, 3) := by decide +kernel
theorem dX3_isSooner_29 : decode cX3_isSooner 29 = .ok (.iconst 1, 1) := by decide +kernel
theorem dX3_isSooner_30 : decode cX3_isSooner 30 = .ok (.goto 4, 3) := by decide +kernel
theorem dX3_isSooner_33 : decode cX3_isSooner 33 = .ok (.iconst 0, 1) := by decide +kernel
theorem dX3_isSooner_34 : decode cX3_isSooner 34 = .ok (.ireturn, 1) := by decide +kernel
theorem dX3_insert_0 : decode cX3_insert 0 = .ok (.aload_n 0, 1) := by decide +kernel
theorem dX3_insert_1 : decode cX3_insert 1 = .ok (.getfield 39, 3) := by decide +kernel
theorem dX3_insert_4 : decode cX3_insert 4 = .ok (.bipush 8, 2) := by decide +kernel
theorem dX3_insert_6 : decode cX3_insert 6 = .ok (.if_icmp .lt 4, 3) := by decide +kernel
theorem dX3_insert_9 : decode cX3_insert 9 = .ok (.return_, 1) := by decide +kernel
theorem dX3_insert_10 : decode cX3_insert 10 = .ok (.aload_n 0, 1) := by decide +kernel
theorem dX3_insert_11 : decode cX3_insert 11 = .ok (.getfield 39, 3) := by decide +kernel
theorem dX3_insert_14 : decode cX3_insert 14 = .ok (.istore 5, 2) := by decide +kernel
theorem dX3_insert_16 : decode cX3_insert 16 = .ok (.iload 5, 2) := by decide +kernel
theorem dX3_insert_18 : decode cX3_insert 18 = .ok (.ifCond .le 86, 3) := by decide +kernel
theorem dX3_insert_21 : decode cX3_insert 21 = .ok (.aload_n 0, 1) := by decide +kernel
theorem dX3_insert_22 : decode cX3_insert 22 = .ok (.getfield 9, 3) := by decide +kernel
theorem dX3_insert_25 : decode cX3_insert 25 = .ok (.iload 5, 2) := by decide +kernel
theorem dX3_insert_27 : decode cX3_insert 27 = .ok (.iconst 1, 1) := by decide +kernel
theorem dX3_insert_28 : decode cX3_insert 28 = .ok (.isub, 1) := by decide +kernel
theorem dX3_insert_29 : decode cX3_insert 29 = .ok (.iaload, 1) := by decide +kernel
theorem dX3_insert_30 : decode cX3_insert 30 = .ok (.iload_n 3, 1) := by decide +kernel
theorem dX3_insert_31 : decode cX3_insert 31 = .ok (.if_icmp .le 73, 3) := by decide +kernel
theorem dX3_insert_34 : decode cX3_insert 34 = .ok (.aload_n 0, 1) := by decide +kernel
theorem dX3_insert_35 : decode cX3_insert 35 = .ok (.getfield 9, 3) := by decide +kernel
theorem dX3_insert_38 : decode cX3_insert 38 = .ok (.iload 5, 2) := by decide +kernel
theorem dX3_insert_40 : decode cX3_insert 40 = .ok (.aload_n 0, 1) := by decide +kernel
theorem dX3_insert_41 : decode cX3_insert 41 = .ok (.getfield 9, 3) := by decide +kernel
theorem dX3_insert_44 : decode cX3_insert 44 = .ok (.iload 5, 2) := by decide +kernel
theorem dX3_insert_46 : decode cX3_insert 46 = .ok (.iconst 1, 1) := by decide +kernel
theorem dX3_insert_47 : decode cX3_insert 47 = .ok (.isub, 1) := by decide +kernel
theorem dX3_insert_48 : decode cX3_insert 48 = .ok (.iaload, 1) := by decide +kernel
theorem dX3_insert_49 : decode cX3_insert 49 = .ok (.iastore, 1) := by decide +kernel
theorem dX3_insert_50 : decode cX3_insert 50 = .ok (.aload_n 0, 1) := by decide +kernel
theorem dX3_insert_51 : decode cX3_insert 51 = .ok (.getfield 15, 3) := by decide +kernel
theorem dX3_insert_54 : decode cX3_insert 54 = .ok (.iload 5, 2) := by decide +kernel
theorem dX3_insert_56 : decode cX3_insert 56 = .ok (.aload_n 0, 1) := by decide +kernel
theorem dX3_insert_57 : decode cX3_insert 57 = .ok (.getfield 15, 3) := by decide +kernel
theorem dX3_insert_60 : decode cX3_insert 60 = .ok (.iload 5, 2) := by decide +kernel
theorem dX3_insert_62 : decode cX3_insert 62 = .ok (.iconst 1, 1) := by decide +kernel
theorem dX3_insert_63 : decode cX3_insert 63 = .ok (.isub, 1) := by decide +kernel
theorem dX3_insert_64 : decode cX3_insert 64 = .ok (.iaload, 1) := by decide +kernel
theorem dX3_insert_65 : decode cX3_insert 65 = .ok (.iastore, 1) := by decide +kernel
theorem dX3_insert_66 : decode cX3_insert 66 = .ok (.aload_n 0, 1) := by decide +kernel
theorem dX3_insert_67 : decode cX3_insert 67 = .ok (.getfield 18, 3) := by decide +kernel
theorem dX3_insert_70 : decode cX3_insert 70 = .ok (.iload 5, 2) := by decide +kernel
theorem dX3_insert_72 : decode cX3_insert 72 = .ok (.aload_n 0, 1) := by decide +kernel
theorem dX3_insert_73 : decode cX3_insert 73 = .ok (.getfield 18, 3) := by decide +kernel
theorem dX3_insert_76 : decode cX3_insert 76 = .ok (.iload 5, 2) := by decide +kernel
theorem dX3_insert_78 : decode cX3_insert 78 = .ok (.iconst 1, 1) := by decide +kernel
theorem dX3_insert_79 : decode cX3_insert 79 = .ok (.isub, 1) := by decide +kernel
theorem dX3_insert_80 : decode cX3_insert 80 = .ok (.iaload, 1) := by decide +kernel
theorem dX3_insert_81 : decode cX3_insert 81 = .ok (.iastore, 1) := by decide +kernel
theorem dX3_insert_82 : decode cX3_insert 82 = .ok (.aload_n 0, 1) := by decide +kernel
theorem dX3_insert_83 : decode cX3_insert 83 = .ok (.getfield 21, 3) := by decide +kernel
theorem dX3_insert_86 : decode cX3_insert 86 = .ok (.iload 5, 2) := by decide +kernel
theorem dX3_insert_88 : decode cX3_insert 88 = .ok (.aload_n 0, 1) := by decide +kernel
theorem dX3_insert_89 : decode cX3_insert 89 = .ok (.getfield 21, 3) := by decide +kernel
theorem dX3_insert_92 : decode cX3_insert 92 = .ok (.iload 5, 2) := by decide +kernel
theorem dX3_insert_94 : decode cX3_insert 94 = .ok (.iconst 1, 1) := by decide +kernel
theorem dX3_insert_95 : decode cX3_insert 95 = .ok (.isub, 1) := by decide +kernel
theorem dX3_insert_96 : decode cX3_insert 96 = .ok (.iaload, 1) := by decide +kernel
theorem dX3_insert_97 : decode cX3_insert 97 = .ok (.iastore, 1) := by decide +kernel
theorem dX3_insert_98 : decode cX3_insert 98 = .ok (.iinc 5 (-1), 3) := by decide +kernel
theorem dX3_insert_101 : decode cX3_insert 101 = .ok (.goto (-85), 3) := by decide +kernel
theorem dX3_insert_104 : decode cX3_insert 104 = .ok (.aload_n 0, 1) := by decide +kernel
theorem dX3_insert_105 : decode cX3_insert 105 = .ok (.getfield 9, 3) := by decide +kernel
theorem dX3_insert_108 : decode cX3_insert 108 = .ok (.iload 5, 2) := by decide +kernel
theorem dX3_insert_110 : decode cX3_insert 110 = .ok (.iload_n 3, 1) := by decide +kernel
theorem dX3_insert_111 : decode cX3_insert 111 = .ok (.iastore, 1) := by decide +kernel
theorem dX3_insert_112 : decode cX3_insert 112 = .ok (.aload_n 0, 1) := by decide +kernel
theorem dX3_insert_113 : decode cX3_insert 113 = .ok (.getfield 15, 3) := by decide +kernel
theorem dX3_insert_116 : decode cX3_insert 116 = .ok (.iload 5, 2) := by decide +kernel
theorem dX3_insert_118 : decode cX3_insert 118 = .ok (.iload 4, 2) := by decide +kernel
theorem dX3_insert_120 : decode cX3_insert 120 = .ok (.iastore, 1) := by decide +kernel
theorem dX3_insert_121 : decode cX3_insert 121 = .ok (.aload_n 0, 1) := by decide +kernel
theorem dX3_insert_122 : decode cX3_insert 122 = .ok (.getfield 18, 3) := by decide +kernel
theorem dX3_insert_125 : decode cX3_insert 125 = .ok (.iload 5, 2) := by decide +kernel
theorem dX3_insert_127 : decode cX3_insert 127 = .ok (.iload_n 1, 1) := by decide +kernel
theorem dX3_insert_128 : decode cX3_insert 128 = .ok (.iastore, 1) := by decide +kernel
theorem dX3_insert_129 : decode cX3_insert 129 = .ok (.aload_n 0, 1) := by decide +kernel
theorem dX3_insert_130 : decode cX3_insert 130 = .ok (.getfield 21, 3) := by decide +kernel
theorem dX3_insert_133 : decode cX3_insert 133 = .ok (.iload 5, 2) := by decide +kernel
theorem dX3_insert_135 : decode cX3_insert 135 = .ok (.iload_n 2, 1) := by decide +kernel
theorem dX3_insert_136 : decode cX3_insert 136 = .ok (.iastore, 1) := by decide +kernel
theorem dX3_insert_137 : decode cX3_insert 137 = .ok (.aload_n 0, 1) := by decide +kernel
theorem dX3_insert_138 : decode cX3_insert 138 = .ok (.dup, 1) := by decide +kernel
theorem dX3_insert_139 : decode cX3_insert 139 = .ok (.getfield 39, 3) := by decide +kernel
theorem dX3_insert_142 : decode cX3_insert 142 = .ok (.iconst 1, 1) := by decide +kernel
theorem dX3_insert_143 : decode cX3_insert 143 = .ok (.iadd, 1) := by decide +kernel
theorem dX3_insert_144 : decode cX3_insert 144 = .ok (.putfield 39, 3) := by decide +kernel
theorem dX3_insert_147 : decode cX3_insert 147 = .ok (.return_, 1) := by decide +kernel
set_option maxRecDepth 20000 in
theorem ggX3_sortByWidth_X3_width : GoodIn wsX3_sortByWidth wsX3_width := goodIn_r _ [7, 8, 9, 10, 11, 12, 13, 14, 15, 16, 17, 18, 19, 20] (by decide +kernel) (by decide +kernel)
set_option maxRecDepth 20000 in
theorem gX3_sortByWidth_X3_width : GoodIn wsX3_sortByWidth (wsV RX3 94 RX3 yX3_width wsX3_width) := goodIn_app (goodIn_of _ (by decide +kernel)) ggX3_sortByWidth_X3_width
theorem dX3_sortByWidth_0 : decode cX3_sortByWidth 0 = .ok (.iconst 0, 1) := by decide +kernel
theorem dX3_sortByWidth_1 : decode cX3_sortByWidth 1 = .ok (.istore_n 1, 1) := by decide +kernel
theorem dX3_sortByWidth_2 : decode cX3_sortByWidth 2 = .ok (.iload_n 1, 1) := by decide +kernel
theorem dX3_sortByWidth_3 : decode cX3_sortByWidth 3 = .ok (.aload_n 0, 1) := by decide +kernel
theorem dX3_sortByWidth_4 : decode cX3_sortByWidth 4 = .ok (.getfield 39, 3) := by decide +kernel
theorem dX3_sortByWidth_7 : decode cX3_sortByWidth 7 = .ok (.if_icmp .ge 62, 3) := by decide +kernel
theorem dX3_sortByWidth_10 : decode cX3_sortByWidth 10 = .ok (.iload_n 1, 1) := by decide +kernel
theorem dX3_sortByWidth_11 : decode cX3_sortByWidth 11 = .ok (.istore_n 2, 1) := by decide +kernel
theorem dX3_sortByWidth_12 : decode cX3_sortByWidth 12 = .ok (.iload_n 2, 1) := by decide +kernel
theorem dX3_sortByWidth_13 : decode cX3_sortByWidth 13 = .ok (.ifCond .le 43, 3) := by decide +kernel
theorem dX3_sortByWidth_16 : decode cX3_sortByWidth 16 = .ok (.aload_n 0, 1) := by decide +kernel
theorem dX3_sortByWidth_17 : decode cX3_sortByWidth 17 = .ok (.aload_n 0, 1) := by decide +kernel
theorem dX3_sortByWidth_18 : decode cX3_sortByWidth 18 = .ok (.getfield 36, 3) := by decide +kernel
theorem dX3_sortByWidth_21 : decode cX3_sortByWidth 21 = .ok (.iload_n 2, 1) := by decide +kernel
theorem dX3_sortByWidth_22 : decode cX3_sortByWidth 22 = .ok (.iconst 1, 1) := by decide +kernel
theorem dX3_sortByWidth_23 : decode cX3_sortByWidth 23 = .ok (.isub, 1) := by decide +kernel
theorem dX3_sortByWidth_24 : decode cX3_sortByWidth 24 = .ok (.iaload, 1) := by decide +kernel
theorem dX3_sortByWidth_25 : decode cX3_sortByWidth 25 = .ok (.invokevirtual 94, 3) := by decide +kernel
theorem dX3_sortByWidth_28 : decode cX3_sortByWidth 28 = .ok (.aload_n 0, 1) := by decide +kernel
theorem dX3_sortByWidth_29 : decode cX3_sortByWidth 29 = .ok (.iload_n 1, 1) := by decide +kernel
theorem dX3_sortByWidth_30 : decode cX3_sortByWidth 30 = .ok (.invokevirtual 94, 3) := by decide +kernel
theorem dX3_sortByWidth_33 : decode cX3_sortByWidth 33 = .ok (.if_icmp .le 23, 3) := by decide +kernel
theorem dX3_sortByWidth_36 : decode cX3_sortByWidth 36 = .ok (.aload_n 0, 1) := by decide +kernel
theorem dX3_sortByWidth_37 : decode cX3_sortByWidth 37 = .ok (.getfield 36, 3) := by decide +kernel
theorem dX3_sortByWidth_40 : decode cX3_sortByWidth 40 = .ok (.iload_n 2, 1) := by decide +kernel
theorem dX3_sortByWidth_41 : decode cX3_sortByWidth 41 = .ok (.aload_n 0, 1) := by decide +kernel
theorem dX3_sortByWidth_42 : decode cX3_sortByWidth 42 = .ok (.getfield 36, 3) := by decide +kernel
theorem dX3_sortByWidth_45 : decode cX3_sortByWidth 45 = .ok (.iload_n 2, 1) := by decide +kernel
theorem dX3_sortByWidth_46 : decode cX3_sortByWidth 46 = .ok (.iconst 1, 1) := by decide +kernel
theorem dX3_sortByWidth_47 : decode cX3_sortByWidth 47 = .ok (.isub, 1) := by decide +kernel
theorem dX3_sortByWidth_48 : decode cX3_sortByWidth 48 = .ok (.iaload, 1) := by decide +kernel
theorem dX3_sortByWidth_49 : decode cX3_sortByWidth 49 = .ok (.iastore, 1) := by decide +kernel
theorem dX3_sortByWidth_50 : decode cX3_sortByWidth 50 = .ok (.iinc 2 (-1), 3) := by decide +kernel
theorem dX3_sortByWidth_53 : decode cX3_sortByWidth 53 = .ok (.goto (-41), 3) := by decide +kernel
theorem dX3_sortByWidth_56 : decode cX3_sortByWidth 56 = .ok (.aload_n 0, 1) := by decide +kernel
theorem dX3_sortByWidth_57 : decode cX3_sortByWidth 57 = .ok (.getfield 36, 3) := by decide +kernel
theorem dX3_sortByWidth_60 : decode cX3_sortByWidth 60 = .ok (.iload_n 2, 1) := by decide +kernel
theorem dX3_sortByWidth_61 : decode cX3_sortByWidth 61 = .ok (.iload_n 1, 1) := by decide +kernel
theorem dX3_sortByWidth_62 : decode cX3_sortByWidth 62 = .ok (.iastore, 1) := by decide +kernel
theorem dX3_sortByWidth_63 : decode cX3_sortByWidth 63 = .ok (.iinc 1 1, 3) := by decide +kernel
theorem dX3_sortByWidth_66 : decode cX3_sortByWidth 66 = .ok (.goto (-64), 3) := by decide +kernel
theorem dX3_sortByWidth_69 : decode cX3_sortByWidth 69 = .ok (.return_, 1) := by decide +kernel
set_option maxRecDepth 20000 in
theorem ggX3_makeGroups_X3_width : GoodIn wsX3_makeGroups wsX3_width := goodIn_r _ [12, 13, 14, 15, 16, 17, 18, 19, 20, 21, 22, 23, 24, 25] (by decide +kernel) (by decide +kernel)
set_option maxRecDepth 20000 in
theorem gX3_makeGroups_X3_width : GoodIn wsX3_makeGroups (wsV RX3 94 RX3 yX3_width wsX3_width) := goodIn_app (goodIn_of _ (by decide +kernel)) ggX3_makeGroups_X3_width
theorem dX3_makeGroups_0 : decode cX3_makeGroups 0 = .ok (.aload_n 0, 1) := by decide +kernel
theorem dX3_makeGroups_1 : decode cX3_makeGroups 1 = .ok (.iconst 0, 1) := by decide +kernel
theorem dX3_makeGroups_2 : decode cX3_makeGroups 2 = .ok (.putfield 97, 3) := by decide +kernel
theorem dX3_makeGroups_5 : decode cX3_makeGroups 5 = .ok (.iconst 0, 1) := by decide +kernel
theorem dX3_makeGroups_6 : decode cX3_makeGroups 6 = .ok (.istore_n 2, 1) := by decide +kernel
theorem dX3_makeGroups_7 : decode cX3_makeGroups 7 = .ok (.iload_n 2, 1) := by decide +kernel
theorem dX3_makeGroups_8 : decode cX3_makeGroups 8 = .ok (.aload_n 0, 1) := by decide +kernel
theorem dX3_makeGroups_9 : decode cX3_makeGroups 9 = .ok (.getfield 39, 3) := by decide +kernel
theorem dX3_makeGroups_12 : decode cX3_makeGroups 12 = .ok (.if_icmp .ge 134, 3) := by decide +kernel
theorem dX3_makeGroups_15 : decode cX3_makeGroups 15 = .ok (.aload_n 0, 1) := by decide +kernel
theorem dX3_makeGroups_16 : decode cX3_makeGroups 16 = .ok (.getfield 36, 3) := by decide +kernel
theorem dX3_makeGroups_19 : decode cX3_makeGroups 19 = .ok (.iload_n 2, 1) := by decide +kernel
theorem dX3_makeGroups_20 : decode cX3_makeGroups 20 = .ok (.iaload, 1) := by decide +kernel
theorem dX3_makeGroups_21 : decode cX3_makeGroups 21 = .ok (.istore_n 3, 1) := by decide +kernel
theorem dX3_makeGroups_22 : decode cX3_makeGroups 22 = .ok (.aload_n 0, 1) := by decide +kernel
theorem dX3_makeGroups_23 : decode cX3_makeGroups 23 = .ok (.getfield 97, 3) := by decide +kernel
theorem dX3_makeGroups_26 : decode cX3_makeGroups 26 = .ok (.ifCond .eq 24, 3) := by decide +kernel
theorem dX3_makeGroups_29 : decode cX3_makeGroups 29 = .ok (.aload_n 0, 1) := by decide +kernel
theorem dX3_makeGroups_30 : decode cX3_makeGroups 30 = .ok (.iload_n 3, 1) := by decide +kernel
theorem dX3_makeGroups_31 : decode cX3_makeGroups 31 = .ok (.invokevirtual 94, 3) := by decide +kernel
theorem dX3_makeGroups_34 : decode cX3_makeGroups 34 = .ok (.aload_n 0, 1) := by decide +kernel
theorem dX3_makeGroups_35 : decode cX3_makeGroups 35 = .ok (.getfield 30, 3) := by decide +kernel
theorem dX3_makeGroups_38 : decode cX3_makeGroups 38 = .ok (.aload_n 0, 1) := by decide +kernel
theorem dX3_makeGroups_39 : decode cX3_makeGroups 39 = .ok (.getfield 97, 3) := by decide +kernel
theorem dX3_makeGroups_42 : decode cX3_makeGroups 42 = .ok (.iconst 1, 1) := by decide +kernel
theorem dX3_makeGroups_43 : decode cX3_makeGroups 43 = .ok (.isub, 1) := by decide +kernel
theorem dX3_makeGroups_44 : decode cX3_makeGroups 44 = .ok (.iaload, 1) := by decide +kernel
theorem dX3_makeGroups_45 : decode cX3_makeGroups 45 = .ok (.isub, 1) := by decide +kernel
theorem dX3_makeGroups_46 : decode cX3_makeGroups 46 = .ok (.iload_n 1, 1) := by decide +kernel
theorem dX3_makeGroups_47 : decode cX3_makeGroups 47 = .ok (.if_icmp .le 47, 3) := by decide +kernel
theorem dX3_makeGroups_50 : decode cX3_makeGroups 50 = .ok (.aload_n 0, 1) := by decide +kernel
theorem dX3_makeGroups_51 : decode cX3_makeGroups 51 = .ok (.getfield 27, 3) := by decide +kernel
theorem dX3_makeGroups_54 : decode cX3_makeGroups 54 = .ok (.aload_n 0, 1) := by decide +kernel
theorem dX3_makeGroups_55 : decode cX3_makeGroups 55 = .ok (.getfield 97, 3) := by decide +kernel
theorem dX3_makeGroups_58 : decode cX3_makeGroups 58 = .ok (.iconst 0, 1) := by decide +kernel
theorem dX3_makeGroups_59 : decode cX3_makeGroups 59 = .ok (.iastore, 1) := by decide +kernel
theorem dX3_makeGroups_60 : decode cX3_makeGroups 60 = .ok (.aload_n 0, 1) := by decide +kernel
theorem dX3_makeGroups_61 : decode cX3_makeGroups 61 = .ok (.getfield 30, 3) := by decide +kernel
theorem dX3_makeGroups_64 : decode cX3_makeGroups 64 = .ok (.aload_n 0, 1) := by decide +kernel
theorem dX3_makeGroups_65 : decode cX3_makeGroups 65 = .ok (.getfield 97, 3) := by decide +kernel
theorem dX3_makeGroups_68 : decode cX3_makeGroups 68 = .ok (.aload_n 0, 1) := by decide +kernel
theorem dX3_makeGroups_69 : decode cX3_makeGroups 69 = .ok (.iload_n 3, 1) := by decide +kernel
theorem dX3_makeGroups_70 : decode cX3_makeGroups 70 = .ok (.invokevirtual 94, 3) := by decide +kernel
theorem dX3_makeGroups_73 : decode cX3_makeGroups 73 = .ok (.iastore, 1) := by decide +kernel
theorem dX3_makeGroups_74 : decode cX3_makeGroups 74 = .ok (.aload_n 0, 1) := by decide +kernel
theorem dX3_makeGroups_75 : decode cX3_makeGroups 75 = .ok (.getfield 33, 3) := by decide +kernel
theorem dX3_makeGroups_78 : decode cX3_makeGroups 78 = .ok (.aload_n 0, 1) := by decide +kernel
theorem dX3_makeGroups_79 : decode cX3_makeGroups 79 = .ok (.getfield 97, 3) := by decide +kernel
theorem dX3_makeGroups_82 : decode cX3_makeGroups 82 = .ok (.iconst 0, 1) := by decide +kernel
theorem dX3_makeGroups_83 : decode cX3_makeGroups 83 = .ok (.iastore, 1) := by decide +kernel
theorem dX3_makeGroups_84 : decode cX3_makeGroups 84 = .ok (.aload_n 0, 1) := by decide +kernel
theorem dX3_makeGroups_85 : decode cX3_makeGroups 85 = .ok (.dup, 1) := by decide +kernel
theorem dX3_makeGroups_86 : decode cX3_makeGroups 86 = .ok (.getfield 97, 3) := by decide +kernel
theorem dX3_makeGroups_89 : decode cX3_makeGroups 89 = .ok (.iconst 1, 1) := by decide +kernel
theorem dX3_makeGroups_90 : decode cX3_makeGroups 90 = .ok (.iadd, 1) := by decide +kernel
theorem dX3_makeGroups_91 : decode cX3_makeGroups 91 = .ok (.putfield 97, 3) := by decide +kernel
theorem dX3_makeGroups_94 : decode cX3_makeGroups 94 = .ok (.aload_n 0, 1) := by decide +kernel
theorem dX3_makeGroups_95 : decode cX3_makeGroups 95 = .ok (.getfield 24, 3) := by decide +kernel
theorem dX3_makeGroups_98 : decode cX3_makeGroups 98 = .ok (.iload_n 3, 1) := by decide +kernel
theorem dX3_makeGroups_99 : decode cX3_makeGroups 99 = .ok (.aload_n 0, 1) := by decide +kernel
theorem dX3_makeGroups_100 : decode cX3_makeGroups 100 = .ok (.getfield 97, 3) := by decide +kernel
theorem dX3_makeGroups_103 : decode cX3_makeGroups 103 = .ok (.iconst 1, 1) := by decide +kernel
theorem dX3_makeGroups_104 : decode cX3_makeGroups 104 = .ok (.isub, 1) := by decide +kernel
theorem dX3_makeGroups_105 : decode cX3_makeGroups 105 = .ok (.iastore, 1) := by decide +kernel
theorem dX3_makeGroups_106 : decode cX3_makeGroups 106 = .ok (.aload_n 0, 1) := by decide +kernel
theorem dX3_makeGroups_107 : decode cX3_makeGroups 107 = .ok (.getfield 27, 3) := by decide +kernel
theorem dX3_makeGroups_110 : decode cX3_makeGroups 110 = .ok (.aload_n 0, 1) := by decide +kernel
theorem dX3_makeGroups_111 : decode cX3_makeGroups 111 = .ok (.getfield 97, 3) := by decide +kernel
theorem dX3_makeGroups_114 : decode cX3_makeGroups 114 = .ok (.iconst 1, 1) := by decide +kernel
theorem dX3_makeGroups_115 : decode cX3_makeGroups 115 = .ok (.isub, 1) := by decide +kernel
theorem dX3_makeGroups_116 : decode cX3_makeGroups 116 = .ok (.dup2, 1) := by decide +kernel
theorem dX3_makeGroups_117 : decode cX3_makeGroups 117 = .ok (.iaload, 1) := by decide +kernel
theorem dX3_makeGroups_118 : decode cX3_makeGroups 118 = .ok (.iconst 1, 1) := by decide +kernel
theorem dX3_makeGroups_119 : decode cX3_makeGroups 119 = .ok (.iadd, 1) := by decide +kernel
theorem dX3_makeGroups_120 : decode cX3_makeGroups 120 = .ok (.iastore, 1) := by decide +kernel
theorem dX3_makeGroups_121 : decode cX3_makeGroups 121 = .ok (.aload_n 0, 1) := by decide +kernel
theorem dX3_makeGroups_122 : decode cX3_makeGroups 122 = .ok (.getfield 33, 3) := by decide +kernel
theorem dX3_makeGroups_125 : decode cX3_makeGroups 125 = .ok (.aload_n 0, 1) := by decide +kernel
theorem dX3_makeGroups_126 : decode cX3_makeGroups 126 = .ok (.getfield 97, 3) := by decide +kernel
theorem dX3_makeGroups_129 : decode cX3_makeGroups 129 = .ok (.iconst 1, 1) := by decide +kernel
theorem dX3_makeGroups_130 : decode cX3_makeGroups 130 = .ok (.isub, 1) := by decide +kernel
theorem dX3_makeGroups_131 : decode cX3_makeGroups 131 = .ok (.dup2, 1) := by decide +kernel
theorem dX3_makeGroups_132 : decode cX3_makeGroups 132 = .ok (.iaload, 1) := by decide +kernel
theorem dX3_makeGroups_133 : decode cX3_makeGroups 133 = .ok (.aload_n 0, 1) := by decide +kernel
theorem dX3_makeGroups_134 : decode cX3_makeGroups 134 = .ok (.iload_n 3, 1) := by decide +kernel
theorem dX3_makeGroups_135 : decode cX3_makeGroups 135 = .ok (.invokevirtual 94, 3) := by decide +kernel
theorem dX3_makeGroups_138 : decode cX3_makeGroups 138 = .ok (.iadd, 1) := by decide +kernel
theorem dX3_makeGroups_139 : decode cX3_makeGroups 139 = .ok (.iastore, 1) := by decide +kernel
theorem dX3_makeGroups_140 : decode cX3_makeGroups 140 = .ok (.iinc 2 1, 3) := by decide +kernel
theorem dX3_makeGroups_143 : decode cX3_makeGroups 143 = .ok (.goto (-136), 3) := by decide +kernel
theorem dX3_makeGroups_146 : decode cX3_makeGroups 146 = .ok (.return_, 1) := by decide +kernel
set_option maxRecDepth 20000 in
theorem ggX4_init_X2_init : GoodIn wsX4_init wsX2_init := goodIn_r _ [25, 26, 2, 3, 27, 28, 29, 71, 72, 73] (by decide +kernel) (by decide +kernel)
set_option maxRecDepth 20000 in
theorem gX4_init_X2_init : GoodIn wsX4_init (wsX2_init) := ggX4_init_X2_init
set_option maxRecDepth 20000 in
theorem ggX4_init_X1_init : GoodIn wsX4_init wsX1_init := goodIn_r _ [32, 33, 2, 3, 27, 34, 35, 36, 37, 38, 39, 40, 41, 42, 80, 81, 82, 83, 84, 85] (by decide +kernel) (by decide +kernel)
set_option maxRecDepth 20000 in
theorem gX4_init_X1_init : GoodIn wsX4_init (wsX1_init) := ggX4_init_X1_init
set_option maxRecDepth 20000 in
theorem ggX4_init_X3_init : GoodIn wsX4_init wsX3_init := goodIn_r _ [45, 46, 2, 3, 27, 47, 48, 49, 50, 51, 52, 53, 54, 55, 86, 87, 88, 89, 90, 91, 92, 93, 94, 95, 96] (by decide +kernel) (by decide +kernel)
set_option maxRecDepth 20000 in
theorem gX4_init_X3_init : GoodIn wsX4_init (wsX3_init) := ggX4_init_X3_init
set_option maxRecDepth 20000 in
theorem ggX4_init_X0_init : GoodIn wsX4_init wsX0_init := goodIn_r _ [58, 59, 2, 3, 60, 61, 62, 63, 27, 64, 13, 65, 66, 67, 68, 69, 70, 97, 98, 99, 100, 101, 102, 103, 104, 105, 106, 107, 108] (by decide +kernel) (by decide +kernel)
set_option maxRecDepth 20000 in
theorem gX4_init_X0_init : GoodIn wsX4_init (wsX0_init) := ggX4_init_X0_init
theorem dX4_init_0 : decode cX4_init 0 = .ok (.aload_n 0, 1) := by decide +kernel
theorem dX4_init_1 : decode cX4_init 1 = .ok (.invokespecial 1, 3) := by decide +kernel
theorem dX4_init_4 : decode cX4_init 4 = .ok (.aload_n 0, 1) := by decide +kernel
theorem dX4_init_5 : decode cX4_init 5 = .ok (.new 7, 3) := by decide +kernel
theorem dX4_init_8 : decode cX4_init 8 = .ok (.dup, 1) := by decide +kernel
theorem dX4_init_9 : decode cX4_init 9 = .ok (.invokespecial 9, 3) := by decide +kernel
theorem dX4_init_12 : decode cX4_init 12 = .ok (.putfield 10, 3) := by decide +kernel
theorem dX4_init_15 : decode cX4_init 15 = .ok (.aload_n 0, 1) := by decide +kernel
theorem dX4_init_16 : decode cX4_init 16 = .ok (.new 16, 3) := by decide +kernel
theorem dX4_init_19 : decode cX4_init 19 = .ok (.dup, 1) := by decide +kernel
theorem dX4_init_20 : decode cX4_init 20 = .ok (.invokespecial 18, 3) := by decide +kernel
theorem dX4_init_23 : decode cX4_init 23 = .ok (.putfield 19, 3) := by decide +kernel
theorem dX4_init_26 : decode cX4_init 26 = .ok (.aload_n 0, 1) := by decide +kernel
theorem dX4_init_27 : decode cX4_init 27 = .ok (.iconst 2, 1) := by decide +kernel
theorem dX4_init_28 : decode cX4_init 28 = .ok (.anewarray 16, 3) := by decide +kernel
theorem dX4_init_31 : decode cX4_init 31 = .ok (.putfield 23, 3) := by decide +kernel
theorem dX4_init_34 : decode cX4_init 34 = .ok (.iconst 0, 1) := by decide +kernel
theorem dX4_init_35 : decode cX4_init 35 = .ok (.istore_n 1, 1) := by decide +kernel
theorem dX4_init_36 : decode cX4_init 36 = .ok (.iload_n 1, 1) := by decide +kernel
theorem dX4_init_37 : decode cX4_init 37 = .ok (.iconst 2, 1) := by decide +kernel
theorem dX4_init_38 : decode cX4_init 38 = .ok (.if_icmp .ge 22, 3) := by decide +kernel
theorem dX4_init_41 : decode cX4_init 41 = .ok (.aload_n 0, 1) := by decide +kernel
theorem dX4_init_42 : decode cX4_init 42 = .ok (.getfield 23, 3) := by decide +kernel
theorem dX4_init_45 : decode cX4_init 45 = .ok (.iload_n 1, 1) := by decide +kernel
theorem dX4_init_46 : decode cX4_init 46 = .ok (.new 16, 3) := by decide +kernel
theorem dX4_init_49 : decode cX4_init 49 = .ok (.dup, 1) := by decide +kernel
theorem dX4_init_50 : decode cX4_init 50 = .ok (.invokespecial 18, 3) := by decide +kernel
theorem dX4_init_53 : decode cX4_init 53 = .ok (.aastore, 1) := by decide +kernel
theorem dX4_init_54 : decode cX4_init 54 = .ok (.iinc 1 1, 3) := by decide +kernel
theorem dX4_init_57 : decode cX4_init 57 = .ok (.goto (-21), 3) := by decide +kernel
theorem dX4_init_60 : decode cX4_init 60 = .ok (.aload_n 0, 1) := by decide +kernel
theorem dX4_init_61 : decode cX4_init 61 = .ok (.iconst 2, 1) := by decide +kernel
theorem dX4_init_62 : decode cX4_init 62 = .ok (.newarray .boolean, 2) := by decide +kernel
theorem dX4_init_64 : decode cX4_init 64 = .ok (.putfield 27, 3) := by decide +kernel
theorem dX4_init_67 : decode cX4_init 67 = .ok (.aload_n 0, 1) := by decide +kernel
theorem dX4_init_68 : decode cX4_init 68 = .ok (.new 31, 3) := by decide +kernel
theorem dX4_init_71 : decode cX4_init 71 = .ok (.dup, 1) := by decide +kernel
theorem dX4_init_72 : decode cX4_init 72 = .ok (.invokespecial 33, 3) := by decide +kernel
theorem dX4_init_75 : decode cX4_init 75 = .ok (.putfield 34, 3) := by decide +kernel
theorem dX4_init_78 : decode cX4_init 78 = .ok (.aload_n 0, 1) := by decide +kernel
theorem dX4_init_79 : decode cX4_init 79 = .ok (.new 38, 3) := by decide +kernel
theorem dX4_init_82 : decode cX4_init 82 = .ok (.dup, 1) := by decide +kernel
theorem dX4_init_83 : decode cX4_init 83 = .ok (.aload_n 0, 1) := by decide +kernel
theorem dX4_init_84 : decode cX4_init 84 = .ok (.getfield 19, 3) := by decide +kernel
theorem dX4_init_87 : decode cX4_init 87 = .ok (.aload_n 0, 1) := by decide +kernel
theorem dX4_init_88 : decode cX4_init 88 = .ok (.getfield 34, 3) := by decide +kernel
theorem dX4_init_91 : decode cX4_init 91 = .ok (.invokespecial 40, 3) := by decide +kernel
theorem dX4_init_94 : decode cX4_init 94 = .ok (.putfield 43, 3) := by decide +kernel
theorem dX4_init_97 : decode cX4_init 97 = .ok (.return_, 1) := by decide +kernel
set_option maxRecDepth 20000 in
theorem ggX4_say_X4_isWithin : GoodIn wsX4_say wsX4_isWithin := goodIn_r _ [6] (by decide +kernel) (by decide +kernel)
set_option maxRecDepth 20000 in
theorem gX4_say_X4_isWithin : GoodIn wsX4_say (va_wsS RX4 47 yX4_isWithin wsX4_isWithin) := goodIn_app (goodIn_of _ (by decide +kernel)) ggX4_say_X4_isWithin
set_option maxRecDepth 20000 in
theorem ggX4_say_X2_add : GoodIn wsX4_say wsX2_add := goodIn_r _ [11, 12, 13, 20, 21, 22] (by decide +kernel) (by decide +kernel)
set_option maxRecDepth 20000 in
theorem gX4_say_X2_add : GoodIn wsX4_say (wsV RX4 51 RX2 yX2_add wsX2_add) := goodIn_app (goodIn_of _ (by decide +kernel)) ggX4_say_X2_add
theorem dX4_say_0 : decode cX4_say 0 = .ok (.iload_n 1, 1) := by decide +kernel
theorem dX4_say_1 : decode cX4_say 1 = .ok (.bipush 33, 2) := by decide +kernel
theorem dX4_say_3 : decode cX4_say 3 = .ok (.bipush 126, 2) := by decide +kernel
theorem dX4_say_5 : decode cX4_say 5 = .ok (.invokestatic 47, 3) := by decide +kernel
theorem dX4_say_8 : decode cX4_say 8 = .ok (.ifCond .ne 6, 3) := by decide +kernel
theorem dX4_say_11 : decode cX4_say 11 = .ok (.bipush (-2), 2) := by decide +kernel
theorem dX4_say_13 : decode cX4_say 13 = .ok (.ireturn, 1) := by decide +kernel
theorem dX4_say_14 : decode cX4_say 14 = .ok (.aload_n 0, 1) := by decide +kernel
theorem dX4_say_15 : decode cX4_say 15 = .ok (.getfield 10, 3) := by decide +kernel
theorem dX4_say_18 : decode cX4_say 18 = .ok (.iload_n 1, 1) := by decide +kernel
theorem dX4_say_19 : decode cX4_say 19 = .ok (.invokevirtual 51, 3) := by decide +kernel
theorem dX4_say_22 : decode cX4_say 22 = .ok (.ifCond .eq 13, 3) := by decide +kernel
theorem dX4_say_25 : decode cX4_say 25 = .ok (.aload_n 0, 1) := by decide +kernel
theorem dX4_say_26 : decode cX4_say 26 = .ok (.getfield 10, 3) := by decide +kernel
theorem dX4_say_29 : decode cX4_say 29 = .ok (.getfield 55, 3) := by decide +kernel
theorem dX4_say_32 : decode cX4_say 32 = .ok (.goto 5, 3) := by decide +kernel
theorem dX4_say_35 : decode cX4_say 35 = .ok (.bipush (-4), 2) := by decide +kernel
theorem dX4_say_37 : decode cX4_say 37 = .ok (.ireturn, 1) := by decide +kernel
set_option maxRecDepth 20000 in
theorem ggX4_wipe_X2_clear : GoodIn wsX4_wipe wsX2_clear := goodIn_r _ [7, 8, 15, 16, 17] (by decide +kernel) (by decide +kernel)
set_option maxRecDepth 20000 in
theorem gX4_wipe_X2_clear : GoodIn wsX4_wipe (wsV RX4 59 RX2 yX2_clear wsX2_clear) := goodIn_app (goodIn_of _ (by decide +kernel)) ggX4_wipe_X2_clear
theorem dX4_wipe_0 : decode cX4_wipe 0 = .ok (.aload_n 0, 1) := by decide +kernel
theorem dX4_wipe_1 : decode cX4_wipe 1 = .ok (.getfield 10, 3) := by decide +kernel
theorem dX4_wipe_4 : decode cX4_wipe 4 = .ok (.getfield 55, 3) := by decide +kernel
theorem dX4_wipe_7 : decode cX4_wipe 7 = .ok (.istore_n 1, 1) := by decide +kernel
theorem dX4_wipe_8 : decode cX4_wipe 8 = .ok (.aload_n 0, 1) := by decide +kernel
theorem dX4_wipe_9 : decode cX4_wipe 9 = .ok (.getfield 10, 3) := by decide +kernel
theorem dX4_wipe_12 : decode cX4_wipe 12 = .ok (.invokevirtual 59, 3) := by decide +kernel
theorem dX4_wipe_15 : decode cX4_wipe 15 = .ok (.iload_n 1, 1) := by decide +kernel
theorem dX4_wipe_16 : decode cX4_wipe 16 = .ok (.ireturn, 1) := by decide +kernel
set_option maxRecDepth 20000 in
theorem ggX4_fault_X2_read : GoodIn wsX4_fault wsX2_read := goodIn_r _ [6, 7, 8, 9, 10, 11, 12, 5, 13, 14, 15, 16, 17, 18, 19, 20, 21, 22, 23, 24, 25, 32, 33, 34] (by decide +kernel) (by decide +kernel)
set_option maxRecDepth 20000 in
theorem gX4_fault_X2_read : GoodIn wsX4_fault (wsV RX4 62 RX2 yX2_read wsX2_read) := goodIn_app (goodIn_of _ (by decide +kernel)) ggX4_fault_X2_read
theorem dX4_fault_0 : decode cX4_fault 0 = .ok (.aload_n 0, 1) := by decide +kernel
theorem dX4_fault_1 : decode cX4_fault 1 = .ok (.getfield 10, 3) := by decide +kernel
theorem dX4_fault_4 : decode cX4_fault 4 = .ok (.invokevirtual 62, 3) := by decide +kernel
theorem dX4_fault_7 : decode cX4_fault 7 = .ok (.ireturn, 1) := by decide +kernel
set_option maxRecDepth 20000 in
theorem ggX4_edge_X2_read : GoodIn wsX4_edge wsX2_read := goodIn_r _ [8, 9, 10, 11, 12, 13, 14, 7, 15, 16, 17, 18, 19, 20, 21, 22, 23, 24, 25, 26, 27, 124, 125, 126] (by decide +kernel) (by decide +kernel)
set_option maxRecDepth 20000 in
theorem gX4_edge_X2_read : GoodIn wsX4_edge (wsV RX4 62 RX2 yX2_read wsX2_read) := goodIn_app (goodIn_of _ (by decide +kernel)) ggX4_edge_X2_read
set_option maxRecDepth 20000 in
theorem ggX4_edge_X1_add : GoodIn wsX4_edge wsX1_add := goodIn_r _ [32, 33, 34, 35, 36, 37, 38, 13, 7, 14, 15, 10, 16, 118, 119, 120, 121, 122, 123, 124, 125, 126] (by decide +kernel) (by decide +kernel)
set_option maxRecDepth 20000 in
theorem gX4_edge_X1_add : GoodIn wsX4_edge (wsV RX4 66 RX1 yX1_add wsX1_add) := goodIn_app (goodIn_of _ (by decide +kernel)) ggX4_edge_X1_add
set_option maxRecDepth 20000 in
theorem ggX4_edge_X2_clear : GoodIn wsX4_edge wsX2_clear := goodIn_r _ [42, 10, 124, 125, 126] (by decide +kernel) (by decide +kernel)
set_option maxRecDepth 20000 in
theorem gX4_edge_X2_clear : GoodIn wsX4_edge (wsV RX4 59 RX2 yX2_clear wsX2_clear) := goodIn_app (goodIn_of _ (by decide +kernel)) ggX4_edge_X2_clear
set_option maxRecDepth 20000 in
theorem ggX4_edge_X4_renew : GoodIn wsX4_edge wsX4_renew := goodIn_r _ [46, 47, 2, 48, 49, 50, 51, 52, 53, 54, 55, 56, 57, 58, 59, 60, 61, 62, 63, 64, 31, 65, 34, 35, 38, 66, 67, 68, 69, 37, 70, 71, 72, 25, 26, 27, 73, 74, 75, 76, 77, 78, 79, 80, 81, 82, 83, 84, 85, 86, 87, 88, 89, 90, 91, 92, 93, 94, 95, 96, 97, 98, 99, 100, 101, 102, 103, 104, 105, 106, 107, 108, 109, 110, 111, 112, 113, 114, 115, 116, 117, 127, 128, 129, 130, 131, 132, 133, 134, 135, 136, 137, 118, 119, 120, 121, 122, 123, 138, 139, 140, 141, 142, 143, 144, 145, 146, 147, 148, 149] (by decide +kernel) (by decide +kernel)
set_option maxRecDepth 20000 in
theorem gX4_edge_X4_renew : GoodIn wsX4_edge (wsV RX4 69 RX4 yX4_renew wsX4_renew) := goodIn_app (goodIn_of _ (by decide +kernel)) ggX4_edge_X4_renew
theorem dX4_edge_0 : decode cX4_edge 0 = .ok (.aload_n 0, 1) := by decide +kernel
theorem dX4_edge_1 : decode cX4_edge 1 = .ok (.getfield 10, 3) := by decide +kernel
theorem dX4_edge_4 : decode cX4_edge 4 = .ok (.invokevirtual 62, 3) := by decide +kernel
theorem dX4_edge_7 : decode cX4_edge 7 = .ok (.bipush (-6), 2) := by decide +kernel
theorem dX4_edge_9 : decode cX4_edge 9 = .ok (.if_icmp .eq 6, 3) := by decide +kernel
theorem dX4_edge_12 : decode cX4_edge 12 = .ok (.bipush (-5), 2) := by decide +kernel
theorem dX4_edge_14 : decode cX4_edge 14 = .ok (.ireturn, 1) := by decide +kernel
theorem dX4_edge_15 : decode cX4_edge 15 = .ok (.aload_n 0, 1) := by decide +kernel
theorem dX4_edge_16 : decode cX4_edge 16 = .ok (.getfield 19, 3) := by decide +kernel
theorem dX4_edge_19 : decode cX4_edge 19 = .ok (.aload_n 0, 1) := by decide +kernel
theorem dX4_edge_20 : decode cX4_edge 20 = .ok (.getfield 10, 3) := by decide +kernel
theorem dX4_edge_23 : decode cX4_edge 23 = .ok (.invokevirtual 66, 3) := by decide +kernel
theorem dX4_edge_26 : decode cX4_edge 26 = .ok (.ifCond .ne 6, 3) := by decide +kernel
theorem dX4_edge_29 : decode cX4_edge 29 = .ok (.bipush (-4), 2) := by decide +kernel
theorem dX4_edge_31 : decode cX4_edge 31 = .ok (.ireturn, 1) := by decide +kernel
theorem dX4_edge_32 : decode cX4_edge 32 = .ok (.aload_n 0, 1) := by decide +kernel
theorem dX4_edge_33 : decode cX4_edge 33 = .ok (.getfield 10, 3) := by decide +kernel
theorem dX4_edge_36 : decode cX4_edge 36 = .ok (.invokevirtual 59, 3) := by decide +kernel
theorem dX4_edge_39 : decode cX4_edge 39 = .ok (.aload_n 0, 1) := by decide +kernel
theorem dX4_edge_40 : decode cX4_edge 40 = .ok (.invokevirtual 69, 3) := by decide +kernel
theorem dX4_edge_43 : decode cX4_edge 43 = .ok (.aload_n 0, 1) := by decide +kernel
theorem dX4_edge_44 : decode cX4_edge 44 = .ok (.getfield 19, 3) := by decide +kernel
theorem dX4_edge_47 : decode cX4_edge 47 = .ok (.getfield 72, 3) := by decide +kernel
theorem dX4_edge_50 : decode cX4_edge 50 = .ok (.ireturn, 1) := by decide +kernel
set_option maxRecDepth 20000 in
theorem ggX4_erase_X4_isWithin : GoodIn wsX4_erase wsX4_isWithin := goodIn_r _ [6] (by decide +kernel) (by decide +kernel)
set_option maxRecDepth 20000 in
theorem gX4_erase_X4_isWithin : GoodIn wsX4_erase (va_wsS RX4 47 yX4_isWithin wsX4_isWithin) := goodIn_app (goodIn_of _ (by decide +kernel)) ggX4_erase_X4_isWithin
set_option maxRecDepth 20000 in
theorem ggX4_erase_X1_remove : GoodIn wsX4_erase wsX1_remove := goodIn_r _ [11, 12, 13, 14, 15, 16, 92, 93, 94, 95, 96, 97] (by decide +kernel) (by decide +kernel)
set_option maxRecDepth 20000 in
theorem gX4_erase_X1_remove : GoodIn wsX4_erase (wsV RX4 75 RX1 yX1_remove wsX1_remove) := goodIn_app (goodIn_of _ (by decide +kernel)) ggX4_erase_X1_remove
set_option maxRecDepth 20000 in
theorem ggX4_erase_X4_renew : GoodIn wsX4_erase wsX4_renew := goodIn_r _ [20, 21, 1, 22, 23, 24, 25, 26, 27, 28, 29, 30, 31, 32, 33, 34, 35, 36, 37, 38, 10, 39, 13, 14, 16, 40, 41, 42, 43, 15, 44, 45, 46, 4, 5, 6, 47, 48, 49, 50, 51, 52, 53, 54, 55, 56, 57, 58, 59, 60, 61, 62, 63, 64, 65, 66, 67, 68, 69, 70, 71, 72, 73, 74, 75, 76, 77, 78, 79, 80, 81, 82, 83, 84, 85, 86, 87, 88, 89, 90, 91, 98, 99, 100, 101, 102, 103, 104, 105, 106, 107, 108, 92, 93, 94, 95, 96, 97, 109, 110, 111, 112, 113, 114, 115, 116, 117, 118, 119, 120] (by decide +kernel) (by decide +kernel)
set_option maxRecDepth 20000 in
theorem gX4_erase_X4_renew : GoodIn wsX4_erase (wsV RX4 69 RX4 yX4_renew wsX4_renew) := goodIn_app (goodIn_of _ (by decide +kernel)) ggX4_erase_X4_renew
theorem dX4_erase_0 : decode cX4_erase 0 = .ok (.iload_n 1, 1) := by decide +kernel
theorem dX4_erase_1 : decode cX4_erase 1 = .ok (.iconst 0, 1) := by decide +kernel
theorem dX4_erase_2 : decode cX4_erase 2 = .ok (.aload_n 0, 1) := by decide +kernel
theorem dX4_erase_3 : decode cX4_erase 3 = .ok (.getfield 19, 3) := by decide +kernel
theorem dX4_erase_6 : decode cX4_erase 6 = .ok (.getfield 72, 3) := by decide +kernel
theorem dX4_erase_9 : decode cX4_erase 9 = .ok (.iconst 1, 1) := by decide +kernel
theorem dX4_erase_10 : decode cX4_erase 10 = .ok (.isub, 1) := by decide +kernel
theorem dX4_erase_11 : decode cX4_erase 11 = .ok (.invokestatic 47, 3) := by decide +kernel
theorem dX4_erase_14 : decode cX4_erase 14 = .ok (.ifCond .ne 5, 3) := by decide +kernel
theorem dX4_erase_17 : decode cX4_erase 17 = .ok (.iconst (-1), 1) := by decide +kernel
theorem dX4_erase_18 : decode cX4_erase 18 = .ok (.ireturn, 1) := by decide +kernel
theorem dX4_erase_19 : decode cX4_erase 19 = .ok (.aload_n 0, 1) := by decide +kernel
theorem dX4_erase_20 : decode cX4_erase 20 = .ok (.getfield 19, 3) := by decide +kernel
theorem dX4_erase_23 : decode cX4_erase 23 = .ok (.iload_n 1, 1) := by decide +kernel
theorem dX4_erase_24 : decode cX4_erase 24 = .ok (.invokevirtual 75, 3) := by decide +kernel
theorem dX4_erase_27 : decode cX4_erase 27 = .ok (.aload_n 0, 1) := by decide +kernel
theorem dX4_erase_28 : decode cX4_erase 28 = .ok (.invokevirtual 69, 3) := by decide +kernel
theorem dX4_erase_31 : decode cX4_erase 31 = .ok (.aload_n 0, 1) := by decide +kernel
theorem dX4_erase_32 : decode cX4_erase 32 = .ok (.getfield 19, 3) := by decide +kernel
theorem dX4_erase_35 : decode cX4_erase 35 = .ok (.getfield 72, 3) := by decide +kernel
theorem dX4_erase_38 : decode cX4_erase 38 = .ok (.ireturn, 1) := by decide +kernel
set_option maxRecDepth 20000 in
theorem ggX4_told_X4_isWithin : GoodIn wsX4_told wsX4_isWithin := goodIn_r _ [11] (by decide +kernel) (by decide +kernel)
set_option maxRecDepth 20000 in
theorem gX4_told_X4_isWithin : GoodIn wsX4_told (va_wsS RX4 47 yX4_isWithin wsX4_isWithin) := goodIn_app (goodIn_of _ (by decide +kernel)) ggX4_told_X4_isWithin
set_option maxRecDepth 20000 in
theorem ggX4_told_X3_withEdge : GoodIn wsX4_told wsX3_withEdge := goodIn_r _ [16, 17, 18, 19, 32, 33, 34, 35, 36, 37, 38, 39, 40, 41, 42] (by decide +kernel) (by decide +kernel)
set_option maxRecDepth 20000 in
theorem gX4_told_X3_withEdge : GoodIn wsX4_told (wsV RX4 92 RX3 yX3_withEdge wsX3_withEdge) := goodIn_app (goodIn_of _ (by decide +kernel)) ggX4_told_X3_withEdge
theorem dX4_told_0 : decode cX4_told 0 = .ok (.iload_n 1, 1) := by decide +kernel
theorem dX4_told_1 : decode cX4_told 1 = .ok (.iconst 0, 1) := by decide +kernel
theorem dX4_told_2 : decode cX4_told 2 = .ok (.aload_n 0, 1) := by decide +kernel
theorem dX4_told_3 : decode cX4_told 3 = .ok (.getfield 19, 3) := by decide +kernel
theorem dX4_told_6 : decode cX4_told 6 = .ok (.getfield 72, 3) := by decide +kernel
theorem dX4_told_9 : decode cX4_told 9 = .ok (.iconst 1, 1) := by decide +kernel
theorem dX4_told_10 : decode cX4_told 10 = .ok (.isub, 1) := by decide +kernel
theorem dX4_told_11 : decode cX4_told 11 = .ok (.invokestatic 47, 3) := by decide +kernel
theorem dX4_told_14 : decode cX4_told 14 = .ok (.ifCond .ne 5, 3) := by decide +kernel
theorem dX4_told_17 : decode cX4_told 17 = .ok (.iconst (-1), 1) := by decide +kernel
theorem dX4_told_18 : decode cX4_told 18 = .ok (.ireturn, 1) := by decide +kernel
theorem dX4_told_19 : decode cX4_told 19 = .ok (.iload_n 2, 1) := by decide +kernel
theorem dX4_told_20 : decode cX4_told 20 = .ok (.tableswitch 85 0 4 #[36, 46, 56, 66, 76], 36) := by decide +kernel
theorem dX4_told_56 : decode cX4_told 56 = .ok (.aload_n 0, 1) := by decide +kernel
theorem dX4_told_57 : decode cX4_told 57 = .ok (.getfield 19, 3) := by decide +kernel
theorem dX4_told_60 : decode cX4_told 60 = .ok (.getfield 79, 3) := by decide +kernel
theorem dX4_told_63 : decode cX4_told 63 = .ok (.iload_n 1, 1) := by decide +kernel
theorem dX4_told_64 : decode cX4_told 64 = .ok (.iaload, 1) := by decide +kernel
theorem dX4_told_65 : decode cX4_told 65 = .ok (.ireturn, 1) := by decide +kernel
theorem dX4_told_66 : decode cX4_told 66 = .ok (.aload_n 0, 1) := by decide +kernel
theorem dX4_told_67 : decode cX4_told 67 = .ok (.getfield 19, 3) := by decide +kernel
theorem dX4_told_70 : decode cX4_told 70 = .ok (.getfield 83, 3) := by decide +kernel
theorem dX4_told_73 : decode cX4_told 73 = .ok (.iload_n 1, 1) := by decide +kernel
theorem dX4_told_74 : decode cX4_told 74 = .ok (.iaload, 1) := by decide +kernel
theorem dX4_told_75 : decode cX4_told 75 = .ok (.ireturn, 1) := by decide +kernel
theorem dX4_told_76 : decode cX4_told 76 = .ok (.aload_n 0, 1) := by decide +kernel
theorem dX4_told_77 : decode cX4_told 77 = .ok (.getfield 19, 3) := by decide +kernel
theorem dX4_told_80 : decode cX4_told 80 = .ok (.getfield 86, 3) := by decide +kernel
theorem dX4_told_83 : decode cX4_told 83 = .ok (.iload_n 1, 1) := by decide +kernel
theorem dX4_told_84 : decode cX4_told 84 = .ok (.iaload, 1) := by decide +kernel
theorem dX4_told_85 : decode cX4_told 85 = .ok (.ireturn, 1) := by decide +kernel
theorem dX4_told_86 : decode cX4_told 86 = .ok (.aload_n 0, 1) := by decide +kernel
theorem dX4_told_87 : decode cX4_told 87 = .ok (.getfield 19, 3) := by decide +kernel
theorem dX4_told_90 : decode cX4_told 90 = .ok (.getfield 89, 3) := by decide +kernel
theorem dX4_told_93 : decode cX4_told 93 = .ok (.iload_n 1, 1) := by decide +kernel
theorem dX4_told_94 : decode cX4_told 94 = .ok (.iaload, 1) := by decide +kernel
theorem dX4_told_95 : decode cX4_told 95 = .ok (.ireturn, 1) := by decide +kernel
theorem dX4_told_96 : decode cX4_told 96 = .ok (.aload_n 0, 1) := by decide +kernel
theorem dX4_told_97 : decode cX4_told 97 = .ok (.getfield 34, 3) := by decide +kernel
theorem dX4_told_100 : decode cX4_told 100 = .ok (.iload_n 1, 1) := by decide +kernel
theorem dX4_told_101 : decode cX4_told 101 = .ok (.invokevirtual 92, 3) := by decide +kernel
theorem dX4_told_104 : decode cX4_told 104 = .ok (.ireturn, 1) := by decide +kernel
theorem dX4_told_105 : decode cX4_told 105 = .ok (.bipush (-2), 2) := by decide +kernel
theorem dX4_told_107 : decode cX4_told 107 = .ok (.ireturn, 1) := by decide +kernel
set_option maxRecDepth 20000 in
theorem ggX4_rule_X4_isWithin : GoodIn wsX4_rule wsX4_isWithin := goodIn_r _ [7] (by decide +kernel) (by decide +kernel)
set_option maxRecDepth 20000 in
theorem gX4_rule_X4_isWithin : GoodIn wsX4_rule (va_wsS RX4 47 yX4_isWithin wsX4_isWithin) := goodIn_app (goodIn_of _ (by decide +kernel)) ggX4_rule_X4_isWithin
set_option maxRecDepth 20000 in
theorem ggX4_rule_X4_renew : GoodIn wsX4_rule wsX4_renew := goodIn_r _ [11, 12, 2, 13, 14, 15, 16, 17, 18, 19, 20, 21, 22, 23, 24, 25, 26, 27, 28, 29, 30, 31, 32, 33, 34, 35, 36, 37, 38, 39, 40, 41, 42, 5, 6, 7, 43, 44, 45, 46, 47, 48, 49, 50, 51, 52, 53, 54, 55, 56, 57, 58, 59, 60, 61, 62, 63, 64, 65, 66, 67, 68, 69, 70, 71, 72, 73, 74, 75, 76, 77, 78, 79, 80, 81, 82, 83, 84, 85, 86, 87, 94, 95, 96, 97, 98, 99, 100, 101, 102, 103, 104, 88, 89, 90, 91, 92, 93, 105, 106, 107, 108, 109, 110, 111, 112, 113, 114, 115, 116] (by decide +kernel) (by decide +kernel)
set_option maxRecDepth 20000 in
theorem gX4_rule_X4_renew : GoodIn wsX4_rule (wsV RX4 69 RX4 yX4_renew wsX4_renew) := goodIn_app (goodIn_of _ (by decide +kernel)) ggX4_rule_X4_renew
theorem dX4_rule_0 : decode cX4_rule 0 = .ok (.iload_n 1, 1) := by decide +kernel
theorem dX4_rule_1 : decode cX4_rule 1 = .ok (.iconst 0, 1) := by decide +kernel
theorem dX4_rule_2 : decode cX4_rule 2 = .ok (.iconst 4, 1) := by decide +kernel
theorem dX4_rule_3 : decode cX4_rule 3 = .ok (.invokestatic 47, 3) := by decide +kernel
theorem dX4_rule_6 : decode cX4_rule 6 = .ok (.ifCond .eq 16, 3) := by decide +kernel
theorem dX4_rule_9 : decode cX4_rule 9 = .ok (.iload_n 2, 1) := by decide +kernel
theorem dX4_rule_10 : decode cX4_rule 10 = .ok (.iconst 0, 1) := by decide +kernel
theorem dX4_rule_11 : decode cX4_rule 11 = .ok (.getstatic 96, 3) := by decide +kernel
theorem dX4_rule_14 : decode cX4_rule 14 = .ok (.iload_n 1, 1) := by decide +kernel
theorem dX4_rule_15 : decode cX4_rule 15 = .ok (.iaload, 1) := by decide +kernel
theorem dX4_rule_16 : decode cX4_rule 16 = .ok (.invokestatic 47, 3) := by decide +kernel
theorem dX4_rule_19 : decode cX4_rule 19 = .ok (.ifCond .ne 6, 3) := by decide +kernel
theorem dX4_rule_22 : decode cX4_rule 22 = .ok (.bipush (-2), 2) := by decide +kernel
theorem dX4_rule_24 : decode cX4_rule 24 = .ok (.ireturn, 1) := by decide +kernel
theorem dX4_rule_25 : decode cX4_rule 25 = .ok (.aload_n 0, 1) := by decide +kernel
theorem dX4_rule_26 : decode cX4_rule 26 = .ok (.getfield 19, 3) := by decide +kernel
theorem dX4_rule_29 : decode cX4_rule 29 = .ok (.getfield 99, 3) := by decide +kernel
theorem dX4_rule_32 : decode cX4_rule 32 = .ok (.iload_n 1, 1) := by decide +kernel
theorem dX4_rule_33 : decode cX4_rule 33 = .ok (.iaload, 1) := by decide +kernel
theorem dX4_rule_34 : decode cX4_rule 34 = .ok (.istore_n 3, 1) := by decide +kernel
theorem dX4_rule_35 : decode cX4_rule 35 = .ok (.aload_n 0, 1) := by decide +kernel
theorem dX4_rule_36 : decode cX4_rule 36 = .ok (.getfield 19, 3) := by decide +kernel
theorem dX4_rule_39 : decode cX4_rule 39 = .ok (.getfield 99, 3) := by decide +kernel
theorem dX4_rule_42 : decode cX4_rule 42 = .ok (.iload_n 1, 1) := by decide +kernel
theorem dX4_rule_43 : decode cX4_rule 43 = .ok (.iload_n 2, 1) := by decide +kernel
theorem dX4_rule_44 : decode cX4_rule 44 = .ok (.iastore, 1) := by decide +kernel
theorem dX4_rule_45 : decode cX4_rule 45 = .ok (.aload_n 0, 1) := by decide +kernel
theorem dX4_rule_46 : decode cX4_rule 46 = .ok (.invokevirtual 69, 3) := by decide +kernel
theorem dX4_rule_49 : decode cX4_rule 49 = .ok (.iload_n 3, 1) := by decide +kernel
theorem dX4_rule_50 : decode cX4_rule 50 = .ok (.ireturn, 1) := by decide +kernel
set_option maxRecDepth 20000 in
theorem ggX4_stem_X4_isWithin : GoodIn wsX4_stem wsX4_isWithin := goodIn_r _ [11] (by decide +kernel) (by decide +kernel)
set_option maxRecDepth 20000 in
theorem gX4_stem_X4_isWithin : GoodIn wsX4_stem (va_wsS RX4 47 yX4_isWithin wsX4_isWithin) := goodIn_app (goodIn_of _ (by decide +kernel)) ggX4_stem_X4_isWithin
theorem dX4_stem_0 : decode cX4_stem 0 = .ok (.iload_n 1, 1) := by decide +kernel
theorem dX4_stem_1 : decode cX4_stem 1 = .ok (.iconst 0, 1) := by decide +kernel
theorem dX4_stem_2 : decode cX4_stem 2 = .ok (.aload_n 0, 1) := by decide +kernel
theorem dX4_stem_3 : decode cX4_stem 3 = .ok (.getfield 34, 3) := by decide +kernel
theorem dX4_stem_6 : decode cX4_stem 6 = .ok (.getfield 102, 3) := by decide +kernel
theorem dX4_stem_9 : decode cX4_stem 9 = .ok (.iconst 1, 1) := by decide +kernel
theorem dX4_stem_10 : decode cX4_stem 10 = .ok (.isub, 1) := by decide +kernel
theorem dX4_stem_11 : decode cX4_stem 11 = .ok (.invokestatic 47, 3) := by decide +kernel
theorem dX4_stem_14 : decode cX4_stem 14 = .ok (.ifCond .ne 5, 3) := by decide +kernel
theorem dX4_stem_17 : decode cX4_stem 17 = .ok (.iconst (-1), 1) := by decide +kernel
theorem dX4_stem_18 : decode cX4_stem 18 = .ok (.ireturn, 1) := by decide +kernel
theorem dX4_stem_19 : decode cX4_stem 19 = .ok (.iload_n 2, 1) := by decide +kernel
theorem dX4_stem_20 : decode cX4_stem 20 = .ok (.tableswitch 86 0 4 #[36, 46, 56, 66, 76], 36) := by decide +kernel
theorem dX4_stem_56 : decode cX4_stem 56 = .ok (.aload_n 0, 1) := by decide +kernel
theorem dX4_stem_57 : decode cX4_stem 57 = .ok (.getfield 34, 3) := by decide +kernel
theorem dX4_stem_60 : decode cX4_stem 60 = .ok (.getfield 105, 3) := by decide +kernel
theorem dX4_stem_63 : decode cX4_stem 63 = .ok (.iload_n 1, 1) := by decide +kernel
theorem dX4_stem_64 : decode cX4_stem 64 = .ok (.iaload, 1) := by decide +kernel
theorem dX4_stem_65 : decode cX4_stem 65 = .ok (.ireturn, 1) := by decide +kernel
theorem dX4_stem_66 : decode cX4_stem 66 = .ok (.aload_n 0, 1) := by decide +kernel
theorem dX4_stem_67 : decode cX4_stem 67 = .ok (.getfield 34, 3) := by decide +kernel
theorem dX4_stem_70 : decode cX4_stem 70 = .ok (.getfield 108, 3) := by decide +kernel
theorem dX4_stem_73 : decode cX4_stem 73 = .ok (.iload_n 1, 1) := by decide +kernel
theorem dX4_stem_74 : decode cX4_stem 74 = .ok (.iaload, 1) := by decide +kernel
theorem dX4_stem_75 : decode cX4_stem 75 = .ok (.ireturn, 1) := by decide +kernel
theorem dX4_stem_76 : decode cX4_stem 76 = .ok (.aload_n 0, 1) := by decide +kernel
theorem dX4_stem_77 : decode cX4_stem 77 = .ok (.getfield 34, 3) := by decide +kernel
theorem dX4_stem_80 : decode cX4_stem 80 = .ok (.getfield 111, 3) := by decide +kernel
theorem dX4_stem_83 : decode cX4_stem 83 = .ok (.iload_n 1, 1) := by decide +kernel
theorem dX4_stem_84 : decode cX4_stem 84 = .ok (.iaload, 1) := by decide +kernel
theorem dX4_stem_85 : decode cX4_stem 85 = .ok (.ireturn, 1) := by decide +kernel
theorem dX4_stem_86 : decode cX4_stem 86 = .ok (.aload_n 0, 1) := by decide +kernel
theorem dX4_stem_87 : decode cX4_stem 87 = .ok (.getfield 34, 3) := by decide +kernel
theorem dX4_stem_90 : decode cX4_stem 90 = .ok (.getfield 114, 3) := by decide +kernel
theorem dX4_stem_93 : decode cX4_stem 93 = .ok (.iload_n 1, 1) := by decide +kernel
theorem dX4_stem_94 : decode cX4_stem 94 = .ok (.iaload, 1) := by decide +kernel
theorem dX4_stem_95 : decode cX4_stem 95 = .ok (.ireturn, 1) := by decide +kernel
theorem dX4_stem_96 : decode cX4_stem 96 = .ok (.aload_n 0, 1) := by decide +kernel
theorem dX4_stem_97 : decode cX4_stem 97 = .ok (.getfield 34, 3) := by decide +kernel
theorem dX4_stem_100 : decode cX4_stem 100 = .ok (.getfield 117, 3) := by decide +kernel
theorem dX4_stem_103 : decode cX4_stem 103 = .ok (.iload_n 1, 1) := by decide +kernel
theorem dX4_stem_104 : decode cX4_stem 104 = .ok (.iaload, 1) := by decide +kernel
theorem dX4_stem_105 : decode cX4_stem 105 = .ok (.ireturn, 1) := by decide +kernel
theorem dX4_stem_106 : decode cX4_stem 106 = .ok (.bipush (-2), 2) := by decide +kernel
theorem dX4_stem_108 : decode cX4_stem 108 = .ok (.ireturn, 1) := by decide +kernel
set_option maxRecDepth 20000 in
theorem ggX4_kind_X4_isWithin : GoodIn wsX4_kind wsX4_isWithin := goodIn_r _ [8] (by decide +kernel) (by decide +kernel)
set_option maxRecDepth 20000 in
theorem gX4_kind_X4_isWithin : GoodIn wsX4_kind (va_wsS RX4 47 yX4_isWithin wsX4_isWithin) := goodIn_app (goodIn_of _ (by decide +kernel)) ggX4_kind_X4_isWithin
set_option maxRecDepth 20000 in
theorem ggX4_kind_X3_standard : GoodIn wsX4_kind wsX3_standard := goodIn_r _ [13, 14, 15, 22, 23, 24, 25, 26, 27, 28, 29, 30, 31, 32] (by decide +kernel) (by decide +kernel)
set_option maxRecDepth 20000 in
theorem gX4_kind_X3_standard : GoodIn wsX4_kind (wsV RX4 129 RX3 yX3_standard wsX3_standard) := goodIn_app (goodIn_of _ (by decide +kernel)) ggX4_kind_X3_standard
theorem dX4_kind_0 : decode cX4_kind 0 = .ok (.iload_n 1, 1) := by decide +kernel
theorem dX4_kind_1 : decode cX4_kind 1 = .ok (.iconst 0, 1) := by decide +kernel
theorem dX4_kind_2 : decode cX4_kind 2 = .ok (.aload_n 0, 1) := by decide +kernel
theorem dX4_kind_3 : decode cX4_kind 3 = .ok (.getfield 34, 3) := by decide +kernel
theorem dX4_kind_6 : decode cX4_kind 6 = .ok (.getfield 120, 3) := by decide +kernel
theorem dX4_kind_9 : decode cX4_kind 9 = .ok (.iconst 1, 1) := by decide +kernel
theorem dX4_kind_10 : decode cX4_kind 10 = .ok (.isub, 1) := by decide +kernel
theorem dX4_kind_11 : decode cX4_kind 11 = .ok (.invokestatic 47, 3) := by decide +kernel
theorem dX4_kind_14 : decode cX4_kind 14 = .ok (.ifCond .ne 5, 3) := by decide +kernel
theorem dX4_kind_17 : decode cX4_kind 17 = .ok (.iconst (-1), 1) := by decide +kernel
theorem dX4_kind_18 : decode cX4_kind 18 = .ok (.ireturn, 1) := by decide +kernel
theorem dX4_kind_19 : decode cX4_kind 19 = .ok (.iload_n 2, 1) := by decide +kernel
theorem dX4_kind_20 : decode cX4_kind 20 = .ok (.tableswitch 57 0 2 #[28, 38, 48], 28) := by decide +kernel
theorem dX4_kind_48 : decode cX4_kind 48 = .ok (.aload_n 0, 1) := by decide +kernel
theorem dX4_kind_49 : decode cX4_kind 49 = .ok (.getfield 34, 3) := by decide +kernel
theorem dX4_kind_52 : decode cX4_kind 52 = .ok (.getfield 123, 3) := by decide +kernel
theorem dX4_kind_55 : decode cX4_kind 55 = .ok (.iload_n 1, 1) := by decide +kernel
theorem dX4_kind_56 : decode cX4_kind 56 = .ok (.iaload, 1) := by decide +kernel
theorem dX4_kind_57 : decode cX4_kind 57 = .ok (.ireturn, 1) := by decide +kernel
theorem dX4_kind_58 : decode cX4_kind 58 = .ok (.aload_n 0, 1) := by decide +kernel
theorem dX4_kind_59 : decode cX4_kind 59 = .ok (.getfield 34, 3) := by decide +kernel
theorem dX4_kind_62 : decode cX4_kind 62 = .ok (.getfield 126, 3) := by decide +kernel
theorem dX4_kind_65 : decode cX4_kind 65 = .ok (.iload_n 1, 1) := by decide +kernel
theorem dX4_kind_66 : decode cX4_kind 66 = .ok (.iaload, 1) := by decide +kernel
theorem dX4_kind_67 : decode cX4_kind 67 = .ok (.ireturn, 1) := by decide +kernel
theorem dX4_kind_68 : decode cX4_kind 68 = .ok (.aload_n 0, 1) := by decide +kernel
theorem dX4_kind_69 : decode cX4_kind 69 = .ok (.getfield 34, 3) := by decide +kernel
theorem dX4_kind_72 : decode cX4_kind 72 = .ok (.iload_n 1, 1) := by decide +kernel
theorem dX4_kind_73 : decode cX4_kind 73 = .ok (.invokevirtual 129, 3) := by decide +kernel
theorem dX4_kind_76 : decode cX4_kind 76 = .ok (.ireturn, 1) := by decide +kernel
theorem dX4_kind_77 : decode cX4_kind 77 = .ok (.bipush (-2), 2) := by decide +kernel
theorem dX4_kind_79 : decode cX4_kind 79 = .ok (.ireturn, 1) := by decide +kernel
set_option maxRecDepth 20000 in
theorem ggX4_dots_X4_isWithin : GoodIn wsX4_dots wsX4_isWithin := goodIn_r _ [8] (by decide +kernel) (by decide +kernel)
set_option maxRecDepth 20000 in
theorem gX4_dots_X4_isWithin : GoodIn wsX4_dots (va_wsS RX4 47 yX4_isWithin wsX4_isWithin) := goodIn_app (goodIn_of _ (by decide +kernel)) ggX4_dots_X4_isWithin
set_option maxRecDepth 20000 in
theorem ggX4_dots_X4_isSize : GoodIn wsX4_dots wsX4_isSize := goodIn_r _ [11, 5, 6, 7, 8] (by decide +kernel) (by decide +kernel)
set_option maxRecDepth 20000 in
theorem gX4_dots_X4_isSize : GoodIn wsX4_dots (va_wsS RX4 132 yX4_isSize wsX4_isSize) := goodIn_app (goodIn_of _ (by decide +kernel)) ggX4_dots_X4_isSize
set_option maxRecDepth 20000 in
theorem ggX4_dots_X3_dotsOfGroup : GoodIn wsX4_dots wsX3_dotsOfGroup := goodIn_r _ [16, 17, 18, 19, 20, 21, 22, 23, 15, 24, 25, 26, 33, 34, 35, 36, 37, 38, 39, 40, 41, 42, 43] (by decide +kernel) (by decide +kernel)
set_option maxRecDepth 20000 in
theorem gX4_dots_X3_dotsOfGroup : GoodIn wsX4_dots (wsV RX4 135 RX3 yX3_dotsOfGroup wsX3_dotsOfGroup) := goodIn_app (goodIn_of _ (by decide +kernel)) ggX4_dots_X3_dotsOfGroup
theorem dX4_dots_0 : decode cX4_dots 0 = .ok (.iload_n 1, 1) := by decide +kernel
theorem dX4_dots_1 : decode cX4_dots 1 = .ok (.iconst 0, 1) := by decide +kernel
theorem dX4_dots_2 : decode cX4_dots 2 = .ok (.aload_n 0, 1) := by decide +kernel
theorem dX4_dots_3 : decode cX4_dots 3 = .ok (.getfield 34, 3) := by decide +kernel
theorem dX4_dots_6 : decode cX4_dots 6 = .ok (.getfield 120, 3) := by decide +kernel
theorem dX4_dots_9 : decode cX4_dots 9 = .ok (.iconst 1, 1) := by decide +kernel
theorem dX4_dots_10 : decode cX4_dots 10 = .ok (.isub, 1) := by decide +kernel
theorem dX4_dots_11 : decode cX4_dots 11 = .ok (.invokestatic 47, 3) := by decide +kernel
theorem dX4_dots_14 : decode cX4_dots 14 = .ok (.ifCond .ne 5, 3) := by decide +kernel
theorem dX4_dots_17 : decode cX4_dots 17 = .ok (.iconst (-1), 1) := by decide +kernel
theorem dX4_dots_18 : decode cX4_dots 18 = .ok (.ireturn, 1) := by decide +kernel
theorem dX4_dots_19 : decode cX4_dots 19 = .ok (.iload_n 2, 1) := by decide +kernel
theorem dX4_dots_20 : decode cX4_dots 20 = .ok (.invokestatic 132, 3) := by decide +kernel
theorem dX4_dots_23 : decode cX4_dots 23 = .ok (.ifCond .ne 6, 3) := by decide +kernel
theorem dX4_dots_26 : decode cX4_dots 26 = .ok (.bipush (-2), 2) := by decide +kernel
theorem dX4_dots_28 : decode cX4_dots 28 = .ok (.ireturn, 1) := by decide +kernel
theorem dX4_dots_29 : decode cX4_dots 29 = .ok (.aload_n 0, 1) := by decide +kernel
theorem dX4_dots_30 : decode cX4_dots 30 = .ok (.getfield 34, 3) := by decide +kernel
theorem dX4_dots_33 : decode cX4_dots 33 = .ok (.iload_n 1, 1) := by decide +kernel
theorem dX4_dots_34 : decode cX4_dots 34 = .ok (.iload_n 2, 1) := by decide +kernel
theorem dX4_dots_35 : decode cX4_dots 35 = .ok (.aload_n 0, 1) := by decide +kernel
theorem dX4_dots_36 : decode cX4_dots 36 = .ok (.getfield 19, 3) := by decide +kernel
theorem dX4_dots_39 : decode cX4_dots 39 = .ok (.getfield 99, 3) := by decide +kernel
theorem dX4_dots_42 : decode cX4_dots 42 = .ok (.iconst 4, 1) := by decide +kernel
theorem dX4_dots_43 : decode cX4_dots 43 = .ok (.iaload, 1) := by decide +kernel
theorem dX4_dots_44 : decode cX4_dots 44 = .ok (.invokevirtual 135, 3) := by decide +kernel
theorem dX4_dots_47 : decode cX4_dots 47 = .ok (.ireturn, 1) := by decide +kernel
set_option maxRecDepth 20000 in
theorem ggX4_grows_X4_isWithin : GoodIn wsX4_grows wsX4_isWithin := goodIn_r _ [8] (by decide +kernel) (by decide +kernel)
set_option maxRecDepth 20000 in
theorem gX4_grows_X4_isWithin : GoodIn wsX4_grows (va_wsS RX4 47 yX4_isWithin wsX4_isWithin) := goodIn_app (goodIn_of _ (by decide +kernel)) ggX4_grows_X4_isWithin
set_option maxRecDepth 20000 in
theorem ggX4_grows_X3_dotsOfGroup : GoodIn wsX4_grows wsX3_dotsOfGroup := goodIn_r _ [13, 14, 15, 16, 17, 18, 19, 20, 12, 21, 22, 23, 30, 31, 32, 33, 34, 35, 36, 37, 38, 39, 40] (by decide +kernel) (by decide +kernel)
set_option maxRecDepth 20000 in
theorem gX4_grows_X3_dotsOfGroup : GoodIn wsX4_grows (wsV RX4 135 RX3 yX3_dotsOfGroup wsX3_dotsOfGroup) := goodIn_app (goodIn_of _ (by decide +kernel)) ggX4_grows_X3_dotsOfGroup
theorem dX4_grows_0 : decode cX4_grows 0 = .ok (.iload_n 1, 1) := by decide +kernel
theorem dX4_grows_1 : decode cX4_grows 1 = .ok (.iconst 0, 1) := by decide +kernel
theorem dX4_grows_2 : decode cX4_grows 2 = .ok (.aload_n 0, 1) := by decide +kernel
theorem dX4_grows_3 : decode cX4_grows 3 = .ok (.getfield 34, 3) := by decide +kernel
theorem dX4_grows_6 : decode cX4_grows 6 = .ok (.getfield 120, 3) := by decide +kernel
theorem dX4_grows_9 : decode cX4_grows 9 = .ok (.iconst 1, 1) := by decide +kernel
theorem dX4_grows_10 : decode cX4_grows 10 = .ok (.isub, 1) := by decide +kernel
theorem dX4_grows_11 : decode cX4_grows 11 = .ok (.invokestatic 47, 3) := by decide +kernel
theorem dX4_grows_14 : decode cX4_grows 14 = .ok (.ifCond .ne 5, 3) := by decide +kernel
theorem dX4_grows_17 : decode cX4_grows 17 = .ok (.iconst (-1), 1) := by decide +kernel
theorem dX4_grows_18 : decode cX4_grows 18 = .ok (.ireturn, 1) := by decide +kernel
theorem dX4_grows_19 : decode cX4_grows 19 = .ok (.iload_n 2, 1) := by decide +kernel
theorem dX4_grows_20 : decode cX4_grows 20 = .ok (.iconst 1, 1) := by decide +kernel
theorem dX4_grows_21 : decode cX4_grows 21 = .ok (.bipush 60, 2) := by decide +kernel
theorem dX4_grows_23 : decode cX4_grows 23 = .ok (.invokestatic 47, 3) := by decide +kernel
theorem dX4_grows_26 : decode cX4_grows 26 = .ok (.ifCond .ne 6, 3) := by decide +kernel
theorem dX4_grows_29 : decode cX4_grows 29 = .ok (.bipush (-2), 2) := by decide +kernel
theorem dX4_grows_31 : decode cX4_grows 31 = .ok (.ireturn, 1) := by decide +kernel
theorem dX4_grows_32 : decode cX4_grows 32 = .ok (.iconst 1, 1) := by decide +kernel
theorem dX4_grows_33 : decode cX4_grows 33 = .ok (.istore_n 3, 1) := by decide +kernel
theorem dX4_grows_34 : decode cX4_grows 34 = .ok (.iload_n 3, 1) := by decide +kernel
theorem dX4_grows_35 : decode cX4_grows 35 = .ok (.bipush 60, 2) := by decide +kernel
theorem dX4_grows_37 : decode cX4_grows 37 = .ok (.if_icmp .gt 33, 3) := by decide +kernel
theorem dX4_grows_40 : decode cX4_grows 40 = .ok (.aload_n 0, 1) := by decide +kernel
theorem dX4_grows_41 : decode cX4_grows 41 = .ok (.getfield 34, 3) := by decide +kernel
theorem dX4_grows_44 : decode cX4_grows 44 = .ok (.iload_n 1, 1) := by decide +kernel
theorem dX4_grows_45 : decode cX4_grows 45 = .ok (.iload_n 3, 1) := by decide +kernel
theorem dX4_grows_46 : decode cX4_grows 46 = .ok (.aload_n 0, 1) := by decide +kernel
theorem dX4_grows_47 : decode cX4_grows 47 = .ok (.getfield 19, 3) := by decide +kernel
theorem dX4_grows_50 : decode cX4_grows 50 = .ok (.getfield 99, 3) := by decide +kernel
theorem dX4_grows_53 : decode cX4_grows 53 = .ok (.iconst 4, 1) := by decide +kernel
theorem dX4_grows_54 : decode cX4_grows 54 = .ok (.iaload, 1) := by decide +kernel
theorem dX4_grows_55 : decode cX4_grows 55 = .ok (.invokevirtual 135, 3) := by decide +kernel
theorem dX4_grows_58 : decode cX4_grows 58 = .ok (.iload_n 2, 1) := by decide +kernel
theorem dX4_grows_59 : decode cX4_grows 59 = .ok (.if_icmp .lt 5, 3) := by decide +kernel
theorem dX4_grows_62 : decode cX4_grows 62 = .ok (.iload_n 3, 1) := by decide +kernel
theorem dX4_grows_63 : decode cX4_grows 63 = .ok (.ireturn, 1) := by decide +kernel
theorem dX4_grows_64 : decode cX4_grows 64 = .ok (.iinc 3 1, 3) := by decide +kernel
theorem dX4_grows_67 : decode cX4_grows 67 = .ok (.goto (-33), 3) := by decide +kernel
theorem dX4_grows_70 : decode cX4_grows 70 = .ok (.bipush (-6), 2) := by decide +kernel
theorem dX4_grows_72 : decode cX4_grows 72 = .ok (.ireturn, 1) := by decide +kernel
set_option maxRecDepth 20000 in
theorem ggX4_fit_X4_isWithin : GoodIn wsX4_fit wsX4_isWithin := goodIn_r _ [7] (by decide +kernel) (by decide +kernel)
set_option maxRecDepth 20000 in
theorem gX4_fit_X4_isWithin : GoodIn wsX4_fit (va_wsS RX4 47 yX4_isWithin wsX4_isWithin) := goodIn_app (goodIn_of _ (by decide +kernel)) ggX4_fit_X4_isWithin
set_option maxRecDepth 20000 in
theorem ggX4_fit_X4_isSize : GoodIn wsX4_fit wsX4_isSize := goodIn_r _ [10, 4, 5, 6, 7] (by decide +kernel) (by decide +kernel)
set_option maxRecDepth 20000 in
theorem gX4_fit_X4_isSize : GoodIn wsX4_fit (va_wsS RX4 132 yX4_isSize wsX4_isSize) := goodIn_app (goodIn_of _ (by decide +kernel)) ggX4_fit_X4_isSize
set_option maxRecDepth 20000 in
theorem ggX4_fit_X0_isAt : GoodIn wsX4_fit wsX0_isAt := goodIn_r _ [15, 16, 17, 18, 19, 20, 14, 21, 22, 23, 24, 25, 26, 27, 28, 29, 30, 31, 32, 33, 34, 35, 36, 37, 38, 39, 40, 41, 42, 43, 44, 45, 46, 47, 48, 49, 50, 51, 52, 53, 54, 55, 56, 57, 58, 59, 60, 61, 62, 63, 64, 65, 66, 67, 68, 69, 70, 71, 72, 73, 74, 75, 76, 77, 78, 79, 80, 81, 82, 83, 84, 85, 86, 87, 88, 89, 90, 91, 92, 93, 94, 95, 96, 97, 98, 99, 100, 101, 102, 103, 104, 105, 106, 107, 108, 109, 110, 111, 112, 113, 114, 115, 116, 117, 139, 140, 141, 142, 143, 144, 145, 146, 147, 148, 149, 150, 128, 129, 130, 131, 132, 133, 134, 135, 136, 137, 138, 151, 152, 153, 154, 155, 156] (by decide +kernel) (by decide +kernel)
set_option maxRecDepth 20000 in
theorem gX4_fit_X0_isAt : GoodIn wsX4_fit (wsV RX4 139 RX0 yX0_isAt wsX0_isAt) := goodIn_app (goodIn_of _ (by decide +kernel)) ggX4_fit_X0_isAt
set_option maxRecDepth 20000 in
theorem ggX4_fit_X0_leftDot : GoodIn wsX4_fit wsX0_leftDot := goodIn_r _ [121, 109, 139, 140, 141, 142, 143, 144, 145, 146, 147, 148, 149, 150] (by decide +kernel) (by decide +kernel)
set_option maxRecDepth 20000 in
theorem gX4_fit_X0_leftDot : GoodIn wsX4_fit (wsV RX4 142 RX0 yX0_leftDot wsX0_leftDot) := goodIn_app (goodIn_of _ (by decide +kernel)) ggX4_fit_X0_leftDot
theorem dX4_fit_0 : decode cX4_fit 0 = .ok (.iload_n 2, 1) := by decide +kernel
theorem dX4_fit_1 : decode cX4_fit 1 = .ok (.iconst 0, 1) := by decide +kernel
theorem dX4_fit_2 : decode cX4_fit 2 = .ok (.aload_n 0, 1) := by decide +kernel
theorem dX4_fit_3 : decode cX4_fit 3 = .ok (.getfield 34, 3) := by decide +kernel
theorem dX4_fit_6 : decode cX4_fit 6 = .ok (.getfield 102, 3) := by decide +kernel
theorem dX4_fit_9 : decode cX4_fit 9 = .ok (.iconst 1, 1) := by decide +kernel
theorem dX4_fit_10 : decode cX4_fit 10 = .ok (.isub, 1) := by decide +kernel
theorem dX4_fit_11 : decode cX4_fit 11 = .ok (.invokestatic 47, 3) := by decide +kernel
theorem dX4_fit_14 : decode cX4_fit 14 = .ok (.ifCond .ne 5, 3) := by decide +kernel
theorem dX4_fit_17 : decode cX4_fit 17 = .ok (.iconst (-1), 1) := by decide +kernel
theorem dX4_fit_18 : decode cX4_fit 18 = .ok (.ireturn, 1) := by decide +kernel
theorem dX4_fit_19 : decode cX4_fit 19 = .ok (.iload_n 1, 1) := by decide +kernel
theorem dX4_fit_20 : decode cX4_fit 20 = .ok (.invokestatic 132, 3) := by decide +kernel
theorem dX4_fit_23 : decode cX4_fit 23 = .ok (.ifCond .ne 6, 3) := by decide +kernel
theorem dX4_fit_26 : decode cX4_fit 26 = .ok (.bipush (-2), 2) := by decide +kernel
theorem dX4_fit_28 : decode cX4_fit 28 = .ok (.ireturn, 1) := by decide +kernel
theorem dX4_fit_29 : decode cX4_fit 29 = .ok (.aload_n 0, 1) := by decide +kernel
theorem dX4_fit_30 : decode cX4_fit 30 = .ok (.getfield 43, 3) := by decide +kernel
theorem dX4_fit_33 : decode cX4_fit 33 = .ok (.iload_n 1, 1) := by decide +kernel
theorem dX4_fit_34 : decode cX4_fit 34 = .ok (.invokevirtual 139, 3) := by decide +kernel
theorem dX4_fit_37 : decode cX4_fit 37 = .ok (.ifCond .eq 15, 3) := by decide +kernel
theorem dX4_fit_40 : decode cX4_fit 40 = .ok (.aload_n 0, 1) := by decide +kernel
theorem dX4_fit_41 : decode cX4_fit 41 = .ok (.getfield 43, 3) := by decide +kernel
theorem dX4_fit_44 : decode cX4_fit 44 = .ok (.iload_n 1, 1) := by decide +kernel
theorem dX4_fit_45 : decode cX4_fit 45 = .ok (.iload_n 2, 1) := by decide +kernel
theorem dX4_fit_46 : decode cX4_fit 46 = .ok (.invokevirtual 142, 3) := by decide +kernel
theorem dX4_fit_49 : decode cX4_fit 49 = .ok (.goto 5, 3) := by decide +kernel
theorem dX4_fit_52 : decode cX4_fit 52 = .ok (.bipush (-3), 2) := by decide +kernel
theorem dX4_fit_54 : decode cX4_fit 54 = .ok (.ireturn, 1) := by decide +kernel
set_option maxRecDepth 20000 in
theorem ggX4_distortion_X4_isSize : GoodIn wsX4_distortion wsX4_isSize := goodIn_r _ [8, 9, 10, 7, 11] (by decide +kernel) (by decide +kernel)
set_option maxRecDepth 20000 in
theorem gX4_distortion_X4_isSize : GoodIn wsX4_distortion (va_wsS RX4 132 yX4_isSize wsX4_isSize) := goodIn_app (goodIn_of _ (by decide +kernel)) ggX4_distortion_X4_isSize
set_option maxRecDepth 20000 in
theorem ggX4_distortion_X0_isAt : GoodIn wsX4_distortion wsX0_isAt := goodIn_r _ [16, 17, 18, 19, 20, 21, 15, 22, 23, 24, 25, 26, 27, 28, 29, 30, 31, 32, 33, 34, 35, 36, 37, 38, 39, 40, 41, 42, 43, 44, 45, 46, 47, 48, 49, 50, 51, 52, 53, 54, 55, 56, 57, 58, 59, 60, 61, 62, 63, 64, 65, 66, 67, 68, 69, 70, 71, 72, 73, 74, 75, 76, 77, 78, 79, 80, 81, 82, 83, 84, 85, 86, 87, 88, 89, 90, 91, 92, 93, 94, 95, 96, 97, 98, 99, 100, 101, 102, 103, 104, 105, 106, 107, 108, 109, 110, 111, 112, 113, 114, 115, 116, 117, 118, 125, 126, 127, 128, 129, 130, 131, 132, 133, 134, 135, 136, 137, 138, 139, 140, 141, 142, 143, 144, 145, 146, 147, 148, 149, 150, 151, 152, 153] (by decide +kernel) (by decide +kernel)
set_option maxRecDepth 20000 in
theorem gX4_distortion_X0_isAt : GoodIn wsX4_distortion (wsV RX4 139 RX0 yX0_isAt wsX0_isAt) := goodIn_app (goodIn_of _ (by decide +kernel)) ggX4_distortion_X0_isAt
theorem dX4_distortion_0 : decode cX4_distortion 0 = .ok (.iload_n 1, 1) := by decide +kernel
theorem dX4_distortion_1 : decode cX4_distortion 1 = .ok (.invokestatic 132, 3) := by decide +kernel
theorem dX4_distortion_4 : decode cX4_distortion 4 = .ok (.ifCond .ne 7, 3) := by decide +kernel
theorem dX4_distortion_7 : decode cX4_distortion 7 = .ok (.ldc2_w 146, 3) := by decide +kernel
theorem dX4_distortion_10 : decode cX4_distortion 10 = .ok (.lreturn, 1) := by decide +kernel
theorem dX4_distortion_11 : decode cX4_distortion 11 = .ok (.aload_n 0, 1) := by decide +kernel
theorem dX4_distortion_12 : decode cX4_distortion 12 = .ok (.getfield 43, 3) := by decide +kernel
theorem dX4_distortion_15 : decode cX4_distortion 15 = .ok (.iload_n 1, 1) := by decide +kernel
theorem dX4_distortion_16 : decode cX4_distortion 16 = .ok (.invokevirtual 139, 3) := by decide +kernel
theorem dX4_distortion_19 : decode cX4_distortion 19 = .ok (.ifCond .eq 15, 3) := by decide +kernel
theorem dX4_distortion_22 : decode cX4_distortion 22 = .ok (.aload_n 0, 1) := by decide +kernel
theorem dX4_distortion_23 : decode cX4_distortion 23 = .ok (.getfield 43, 3) := by decide +kernel
theorem dX4_distortion_26 : decode cX4_distortion 26 = .ok (.getfield 148, 3) := by decide +kernel
theorem dX4_distortion_29 : decode cX4_distortion 29 = .ok (.iload_n 1, 1) := by decide +kernel
theorem dX4_distortion_30 : decode cX4_distortion 30 = .ok (.laload, 1) := by decide +kernel
theorem dX4_distortion_31 : decode cX4_distortion 31 = .ok (.goto 6, 3) := by decide +kernel
theorem dX4_distortion_34 : decode cX4_distortion 34 = .ok (.ldc2_w 152, 3) := by decide +kernel
theorem dX4_distortion_37 : decode cX4_distortion 37 = .ok (.lreturn, 1) := by decide +kernel
set_option maxRecDepth 20000 in
theorem ggX4_why_X4_isSize : GoodIn wsX4_why wsX4_isSize := goodIn_r _ [9, 10, 11, 8, 12] (by decide +kernel) (by decide +kernel)
set_option maxRecDepth 20000 in
theorem gX4_why_X4_isSize : GoodIn wsX4_why (va_wsS RX4 132 yX4_isSize wsX4_isSize) := goodIn_app (goodIn_of _ (by decide +kernel)) ggX4_why_X4_isSize
set_option maxRecDepth 20000 in
theorem ggX4_why_X4_isWithin : GoodIn wsX4_why wsX4_isWithin := goodIn_r _ [12] (by decide +kernel) (by decide +kernel)
set_option maxRecDepth 20000 in
theorem gX4_why_X4_isWithin : GoodIn wsX4_why (va_wsS RX4 47 yX4_isWithin wsX4_isWithin) := goodIn_app (goodIn_of _ (by decide +kernel)) ggX4_why_X4_isWithin
set_option maxRecDepth 20000 in
theorem ggX4_why_X0_isAt : GoodIn wsX4_why wsX0_isAt := goodIn_r _ [17, 18, 19, 20, 21, 22, 16, 23, 24, 25, 26, 27, 28, 29, 30, 31, 32, 33, 34, 35, 36, 37, 38, 39, 40, 41, 42, 43, 44, 45, 46, 47, 48, 49, 50, 51, 52, 53, 54, 55, 56, 57, 58, 59, 60, 61, 62, 63, 64, 65, 66, 67, 68, 69, 70, 71, 72, 73, 74, 75, 76, 77, 78, 79, 80, 81, 82, 83, 84, 85, 86, 87, 88, 89, 90, 91, 92, 93, 94, 95, 96, 97, 98, 99, 100, 101, 102, 103, 104, 105, 106, 107, 108, 109, 110, 111, 112, 113, 114, 115, 116, 117, 118, 119, 127, 128, 129, 130, 131, 132, 133, 134, 135, 136, 137, 138, 145, 146, 147, 148, 149, 150, 151, 152, 153, 154, 155, 139, 140, 141, 142, 143, 144] (by decide +kernel) (by decide +kernel)
set_option maxRecDepth 20000 in
theorem gX4_why_X0_isAt : GoodIn wsX4_why (wsV RX4 139 RX0 yX0_isAt wsX0_isAt) := goodIn_app (goodIn_of _ (by decide +kernel)) ggX4_why_X0_isAt
set_option maxRecDepth 20000 in
theorem ggX4_why_X3_dotsOfStem : GoodIn wsX4_why wsX3_dotsOfStem := goodIn_r _ [41, 42, 43, 44, 45, 40, 46, 47, 48, 49, 50, 51, 52, 53, 54, 55, 56, 145, 146, 147, 148, 149, 150, 151, 152, 153, 154, 155] (by decide +kernel) (by decide +kernel)
set_option maxRecDepth 20000 in
theorem gX4_why_X3_dotsOfStem : GoodIn wsX4_why (wsV RX4 157 RX3 yX3_dotsOfStem wsX3_dotsOfStem) := goodIn_app (goodIn_of _ (by decide +kernel)) ggX4_why_X3_dotsOfStem
theorem dX4_why_0 : decode cX4_why 0 = .ok (.iload_n 1, 1) := by decide +kernel
theorem dX4_why_1 : decode cX4_why 1 = .ok (.invokestatic 132, 3) := by decide +kernel
theorem dX4_why_4 : decode cX4_why 4 = .ok (.ifCond .eq 12, 3) := by decide +kernel
theorem dX4_why_7 : decode cX4_why 7 = .ok (.iload_n 2, 1) := by decide +kernel
theorem dX4_why_8 : decode cX4_why 8 = .ok (.iconst 0, 1) := by decide +kernel
theorem dX4_why_9 : decode cX4_why 9 = .ok (.iconst 1, 1) := by decide +kernel
theorem dX4_why_10 : decode cX4_why 10 = .ok (.invokestatic 47, 3) := by decide +kernel
theorem dX4_why_13 : decode cX4_why 13 = .ok (.ifCond .ne 6, 3) := by decide +kernel
theorem dX4_why_16 : decode cX4_why 16 = .ok (.bipush (-2), 2) := by decide +kernel
theorem dX4_why_18 : decode cX4_why 18 = .ok (.ireturn, 1) := by decide +kernel
theorem dX4_why_19 : decode cX4_why 19 = .ok (.aload_n 0, 1) := by decide +kernel
theorem dX4_why_20 : decode cX4_why 20 = .ok (.getfield 43, 3) := by decide +kernel
theorem dX4_why_23 : decode cX4_why 23 = .ok (.iload_n 1, 1) := by decide +kernel
theorem dX4_why_24 : decode cX4_why 24 = .ok (.invokevirtual 139, 3) := by decide +kernel
theorem dX4_why_27 : decode cX4_why 27 = .ok (.ifCond .eq 14, 3) := by decide +kernel
theorem dX4_why_30 : decode cX4_why 30 = .ok (.iload_n 2, 1) := by decide +kernel
theorem dX4_why_31 : decode cX4_why 31 = .ok (.ifCond .ne 7, 3) := by decide +kernel
theorem dX4_why_34 : decode cX4_why 34 = .ok (.iconst 0, 1) := by decide +kernel
theorem dX4_why_35 : decode cX4_why 35 = .ok (.goto 5, 3) := by decide +kernel
theorem dX4_why_38 : decode cX4_why 38 = .ok (.bipush (-6), 2) := by decide +kernel
theorem dX4_why_40 : decode cX4_why 40 = .ok (.ireturn, 1) := by decide +kernel
theorem dX4_why_41 : decode cX4_why 41 = .ok (.aload_n 0, 1) := by decide +kernel
theorem dX4_why_42 : decode cX4_why 42 = .ok (.getfield 43, 3) := by decide +kernel
theorem dX4_why_45 : decode cX4_why 45 = .ok (.getfield 154, 3) := by decide +kernel
theorem dX4_why_48 : decode cX4_why 48 = .ok (.iload_n 1, 1) := by decide +kernel
theorem dX4_why_49 : decode cX4_why 49 = .ok (.iaload, 1) := by decide +kernel
theorem dX4_why_50 : decode cX4_why 50 = .ok (.istore_n 3, 1) := by decide +kernel
theorem dX4_why_51 : decode cX4_why 51 = .ok (.iload_n 2, 1) := by decide +kernel
theorem dX4_why_52 : decode cX4_why 52 = .ok (.iconst 1, 1) := by decide +kernel
theorem dX4_why_53 : decode cX4_why 53 = .ok (.if_icmp .ne 5, 3) := by decide +kernel
theorem dX4_why_56 : decode cX4_why 56 = .ok (.iload_n 3, 1) := by decide +kernel
theorem dX4_why_57 : decode cX4_why 57 = .ok (.ireturn, 1) := by decide +kernel
theorem dX4_why_58 : decode cX4_why 58 = .ok (.aload_n 0, 1) := by decide +kernel
theorem dX4_why_59 : decode cX4_why 59 = .ok (.getfield 34, 3) := by decide +kernel
theorem dX4_why_62 : decode cX4_why 62 = .ok (.iload_n 3, 1) := by decide +kernel
theorem dX4_why_63 : decode cX4_why 63 = .ok (.iload_n 1, 1) := by decide +kernel
theorem dX4_why_64 : decode cX4_why 64 = .ok (.aload_n 0, 1) := by decide +kernel
theorem dX4_why_65 : decode cX4_why 65 = .ok (.getfield 19, 3) := by decide +kernel
theorem dX4_why_68 : decode cX4_why 68 = .ok (.getfield 99, 3) := by decide +kernel
theorem dX4_why_71 : decode cX4_why 71 = .ok (.iconst 4, 1) := by decide +kernel
theorem dX4_why_72 : decode cX4_why 72 = .ok (.iaload, 1) := by decide +kernel
theorem dX4_why_73 : decode cX4_why 73 = .ok (.invokevirtual 157, 3) := by decide +kernel
theorem dX4_why_76 : decode cX4_why 76 = .ok (.iload_n 1, 1) := by decide +kernel
theorem dX4_why_77 : decode cX4_why 77 = .ok (.if_icmp .le 7, 3) := by decide +kernel
theorem dX4_why_80 : decode cX4_why 80 = .ok (.iconst 1, 1) := by decide +kernel
theorem dX4_why_81 : decode cX4_why 81 = .ok (.goto 4, 3) := by decide +kernel
theorem dX4_why_84 : decode cX4_why 84 = .ok (.iconst 2, 1) := by decide +kernel
theorem dX4_why_85 : decode cX4_why 85 = .ok (.ireturn, 1) := by decide +kernel
set_option maxRecDepth 20000 in
theorem ggX4_best_X4_isSize : GoodIn wsX4_best wsX4_isSize := goodIn_r _ [6, 7, 8, 5, 9] (by decide +kernel) (by decide +kernel)
set_option maxRecDepth 20000 in
theorem gX4_best_X4_isSize : GoodIn wsX4_best (va_wsS RX4 132 yX4_isSize wsX4_isSize) := goodIn_app (goodIn_of _ (by decide +kernel)) ggX4_best_X4_isSize
set_option maxRecDepth 20000 in
theorem ggX4_best_X0_isAt : GoodIn wsX4_best wsX0_isAt := goodIn_r _ [14, 15, 16, 17, 18, 19, 13, 20, 21, 22, 23, 24, 25, 26, 27, 28, 29, 30, 31, 32, 33, 34, 35, 36, 37, 38, 39, 40, 41, 42, 43, 44, 45, 46, 47, 48, 49, 50, 51, 52, 53, 54, 55, 56, 57, 58, 59, 60, 61, 62, 63, 64, 65, 66, 67, 68, 69, 70, 71, 72, 73, 74, 75, 76, 77, 78, 79, 80, 81, 82, 83, 84, 85, 86, 87, 88, 89, 90, 91, 92, 93, 94, 95, 96, 97, 98, 99, 100, 101, 102, 103, 104, 105, 106, 107, 108, 109, 110, 111, 112, 113, 114, 115, 116, 123, 124, 125, 126, 127, 128, 129, 130, 131, 132, 133, 134, 135, 136, 137, 138, 139, 140, 141, 142, 143, 144, 145, 146, 147, 148, 149, 150, 151] (by decide +kernel) (by decide +kernel)
set_option maxRecDepth 20000 in
theorem gX4_best_X0_isAt : GoodIn wsX4_best (wsV RX4 139 RX0 yX0_isAt wsX0_isAt) := goodIn_app (goodIn_of _ (by decide +kernel)) ggX4_best_X0_isAt
theorem dX4_best_0 : decode cX4_best 0 = .ok (.iload_n 1, 1) := by decide +kernel
theorem dX4_best_1 : decode cX4_best 1 = .ok (.invokestatic 132, 3) := by decide +kernel
theorem dX4_best_4 : decode cX4_best 4 = .ok (.ifCond .ne 6, 3) := by decide +kernel
theorem dX4_best_7 : decode cX4_best 7 = .ok (.bipush (-2), 2) := by decide +kernel
theorem dX4_best_9 : decode cX4_best 9 = .ok (.ireturn, 1) := by decide +kernel
theorem dX4_best_10 : decode cX4_best 10 = .ok (.bipush (-6), 2) := by decide +kernel
theorem dX4_best_12 : decode cX4_best 12 = .ok (.istore_n 2, 1) := by decide +kernel
theorem dX4_best_13 : decode cX4_best 13 = .ok (.lconst 0, 1) := by decide +kernel
theorem dX4_best_14 : decode cX4_best 14 = .ok (.lstore_n 3, 1) := by decide +kernel
theorem dX4_best_15 : decode cX4_best 15 = .ok (.iconst 1, 1) := by decide +kernel
theorem dX4_best_16 : decode cX4_best 16 = .ok (.istore 5, 2) := by decide +kernel
theorem dX4_best_18 : decode cX4_best 18 = .ok (.iload 5, 2) := by decide +kernel
theorem dX4_best_20 : decode cX4_best 20 = .ok (.iload_n 1, 1) := by decide +kernel
theorem dX4_best_21 : decode cX4_best 21 = .ok (.if_icmp .gt 62, 3) := by decide +kernel
theorem dX4_best_24 : decode cX4_best 24 = .ok (.aload_n 0, 1) := by decide +kernel
theorem dX4_best_25 : decode cX4_best 25 = .ok (.getfield 43, 3) := by decide +kernel
theorem dX4_best_28 : decode cX4_best 28 = .ok (.iload 5, 2) := by decide +kernel
theorem dX4_best_30 : decode cX4_best 30 = .ok (.invokevirtual 139, 3) := by decide +kernel
theorem dX4_best_33 : decode cX4_best 33 = .ok (.ifCond .ne 6, 3) := by decide +kernel
theorem dX4_best_36 : decode cX4_best 36 = .ok (.goto 41, 3) := by decide +kernel
theorem dX4_best_39 : decode cX4_best 39 = .ok (.aload_n 0, 1) := by decide +kernel
theorem dX4_best_40 : decode cX4_best 40 = .ok (.getfield 43, 3) := by decide +kernel
theorem dX4_best_43 : decode cX4_best 43 = .ok (.getfield 148, 3) := by decide +kernel
theorem dX4_best_46 : decode cX4_best 46 = .ok (.iload 5, 2) := by decide +kernel
theorem dX4_best_48 : decode cX4_best 48 = .ok (.laload, 1) := by decide +kernel
theorem dX4_best_49 : decode cX4_best 49 = .ok (.lstore 6, 2) := by decide +kernel
theorem dX4_best_51 : decode cX4_best 51 = .ok (.iload_n 2, 1) := by decide +kernel
theorem dX4_best_52 : decode cX4_best 52 = .ok (.bipush (-6), 2) := by decide +kernel
theorem dX4_best_54 : decode cX4_best 54 = .ok (.if_icmp .eq 17, 3) := by decide +kernel
theorem dX4_best_57 : decode cX4_best 57 = .ok (.lload 6, 2) := by decide +kernel
theorem dX4_best_59 : decode cX4_best 59 = .ok (.iload_n 2, 1) := by decide +kernel
theorem dX4_best_60 : decode cX4_best 60 = .ok (.i2l, 1) := by decide +kernel
theorem dX4_best_61 : decode cX4_best 61 = .ok (.lmul, 1) := by decide +kernel
theorem dX4_best_62 : decode cX4_best 62 = .ok (.lload_n 3, 1) := by decide +kernel
theorem dX4_best_63 : decode cX4_best 63 = .ok (.iload 5, 2) := by decide +kernel
theorem dX4_best_65 : decode cX4_best 65 = .ok (.i2l, 1) := by decide +kernel
theorem dX4_best_66 : decode cX4_best 66 = .ok (.lmul, 1) := by decide +kernel
theorem dX4_best_67 : decode cX4_best 67 = .ok (.lcmp, 1) := by decide +kernel
theorem dX4_best_68 : decode cX4_best 68 = .ok (.ifCond .gt 9, 3) := by decide +kernel
theorem dX4_best_71 : decode cX4_best 71 = .ok (.iload 5, 2) := by decide +kernel
theorem dX4_best_73 : decode cX4_best 73 = .ok (.istore_n 2, 1) := by decide +kernel
theorem dX4_best_74 : decode cX4_best 74 = .ok (.lload 6, 2) := by decide +kernel
theorem dX4_best_76 : decode cX4_best 76 = .ok (.lstore_n 3, 1) := by decide +kernel
theorem dX4_best_77 : decode cX4_best 77 = .ok (.iinc 5 1, 3) := by decide +kernel
theorem dX4_best_80 : decode cX4_best 80 = .ok (.goto (-62), 3) := by decide +kernel
theorem dX4_best_83 : decode cX4_best 83 = .ok (.iload_n 2, 1) := by decide +kernel
theorem dX4_best_84 : decode cX4_best 84 = .ok (.ireturn, 1) := by decide +kernel
set_option maxRecDepth 20000 in
theorem ggX4_place_X4_isSize : GoodIn wsX4_place wsX4_isSize := goodIn_r _ [7, 8, 9, 6, 10] (by decide +kernel) (by decide +kernel)
set_option maxRecDepth 20000 in
theorem gX4_place_X4_isSize : GoodIn wsX4_place (va_wsS RX4 132 yX4_isSize wsX4_isSize) := goodIn_app (goodIn_of _ (by decide +kernel)) ggX4_place_X4_isSize
set_option maxRecDepth 20000 in
theorem ggX4_place_X4_isWithin : GoodIn wsX4_place wsX4_isWithin := goodIn_r _ [10] (by decide +kernel) (by decide +kernel)
set_option maxRecDepth 20000 in
theorem gX4_place_X4_isWithin : GoodIn wsX4_place (va_wsS RX4 47 yX4_isWithin wsX4_isWithin) := goodIn_app (goodIn_of _ (by decide +kernel)) ggX4_place_X4_isWithin
set_option maxRecDepth 20000 in
theorem ggX4_place_X0_isAt : GoodIn wsX4_place wsX0_isAt := goodIn_r _ [15, 16, 17, 18, 19, 20, 14, 21, 22, 23, 24, 25, 26, 27, 28, 29, 30, 31, 32, 33, 34, 35, 36, 37, 38, 39, 40, 41, 42, 43, 44, 45, 46, 47, 48, 49, 50, 51, 52, 53, 54, 55, 56, 57, 58, 59, 60, 61, 62, 63, 64, 65, 66, 67, 68, 69, 70, 71, 72, 73, 74, 75, 76, 77, 78, 79, 80, 81, 82, 83, 84, 85, 86, 87, 88, 89, 90, 91, 92, 93, 94, 95, 96, 97, 98, 99, 100, 101, 102, 103, 104, 105, 106, 107, 108, 109, 110, 111, 112, 113, 114, 115, 116, 117, 132, 133, 134, 135, 136, 137, 138, 139, 140, 141, 142, 143, 144, 145, 146, 147, 148, 149, 150, 151, 152, 153, 154, 155, 156, 157, 158, 159, 160] (by decide +kernel) (by decide +kernel)
set_option maxRecDepth 20000 in
theorem gX4_place_X0_isAt : GoodIn wsX4_place (wsV RX4 139 RX0 yX0_isAt wsX0_isAt) := goodIn_app (goodIn_of _ (by decide +kernel)) ggX4_place_X0_isAt
set_option maxRecDepth 20000 in
theorem ggX4_place_X0_drawn : GoodIn wsX4_place wsX0_drawn := goodIn_r _ [121, 24, 25, 69, 70, 32, 33, 122, 123, 124, 14, 125, 109, 35, 36, 37, 38, 39, 40, 41, 42, 43, 44, 45, 46, 47, 48, 49, 50, 51, 52, 53, 54, 132, 133, 134, 135, 136, 137, 138, 139, 140, 141, 142, 143, 144, 145, 146, 147, 148, 149, 150, 151, 152, 153, 154, 155, 156, 157, 158, 159, 160] (by decide +kernel) (by decide +kernel)
set_option maxRecDepth 20000 in
theorem gX4_place_X0_drawn : GoodIn wsX4_place (wsV RX4 161 RX0 yX0_drawn wsX0_drawn) := goodIn_app (goodIn_of _ (by decide +kernel)) ggX4_place_X0_drawn
theorem dX4_place_0 : decode cX4_place 0 = .ok (.iload_n 1, 1) := by decide +kernel
theorem dX4_place_1 : decode cX4_place 1 = .ok (.invokestatic 132, 3) := by decide +kernel
theorem dX4_place_4 : decode cX4_place 4 = .ok (.ifCond .eq 14, 3) := by decide +kernel
theorem dX4_place_7 : decode cX4_place 7 = .ok (.iload_n 2, 1) := by decide +kernel
theorem dX4_place_8 : decode cX4_place 8 = .ok (.iconst 0, 1) := by decide +kernel
theorem dX4_place_9 : decode cX4_place 9 = .ok (.sipush 999, 3) := by decide +kernel
theorem dX4_place_12 : decode cX4_place 12 = .ok (.invokestatic 47, 3) := by decide +kernel
theorem dX4_place_15 : decode cX4_place 15 = .ok (.ifCond .ne 6, 3) := by decide +kernel
theorem dX4_place_18 : decode cX4_place 18 = .ok (.ldc 160, 2) := by decide +kernel
theorem dX4_place_20 : decode cX4_place 20 = .ok (.ireturn, 1) := by decide +kernel
theorem dX4_place_21 : decode cX4_place 21 = .ok (.aload_n 0, 1) := by decide +kernel
theorem dX4_place_22 : decode cX4_place 22 = .ok (.getfield 43, 3) := by decide +kernel
theorem dX4_place_25 : decode cX4_place 25 = .ok (.iload_n 1, 1) := by decide +kernel
theorem dX4_place_26 : decode cX4_place 26 = .ok (.invokevirtual 139, 3) := by decide +kernel
theorem dX4_place_29 : decode cX4_place 29 = .ok (.ifCond .eq 15, 3) := by decide +kernel
theorem dX4_place_32 : decode cX4_place 32 = .ok (.aload_n 0, 1) := by decide +kernel
theorem dX4_place_33 : decode cX4_place 33 = .ok (.getfield 43, 3) := by decide +kernel
theorem dX4_place_36 : decode cX4_place 36 = .ok (.iload_n 1, 1) := by decide +kernel
theorem dX4_place_37 : decode cX4_place 37 = .ok (.iload_n 2, 1) := by decide +kernel
theorem dX4_place_38 : decode cX4_place 38 = .ok (.invokevirtual 161, 3) := by decide +kernel
theorem dX4_place_41 : decode cX4_place 41 = .ok (.goto 5, 3) := by decide +kernel
theorem dX4_place_44 : decode cX4_place 44 = .ok (.ldc 164, 2) := by decide +kernel
theorem dX4_place_46 : decode cX4_place 46 = .ok (.ireturn, 1) := by decide +kernel
set_option maxRecDepth 20000 in
theorem ggX4_image_X4_isWithin : GoodIn wsX4_image wsX4_isWithin := goodIn_r _ [7] (by decide +kernel) (by decide +kernel)
set_option maxRecDepth 20000 in
theorem gX4_image_X4_isWithin : GoodIn wsX4_image (va_wsS RX4 47 yX4_isWithin wsX4_isWithin) := goodIn_app (goodIn_of _ (by decide +kernel)) ggX4_image_X4_isWithin
set_option maxRecDepth 20000 in
theorem ggX4_image_X1_take : GoodIn wsX4_image wsX1_take := goodIn_r _ [12, 13, 14, 15, 16, 17, 18, 19, 20, 21, 22, 29, 30, 31, 32, 33, 34] (by decide +kernel) (by decide +kernel)
set_option maxRecDepth 20000 in
theorem gX4_image_X1_take : GoodIn wsX4_image (wsV RX4 165 RX1 yX1_take wsX1_take) := goodIn_app (goodIn_of _ (by decide +kernel)) ggX4_image_X1_take
theorem dX4_image_0 : decode cX4_image 0 = .ok (.iload_n 1, 1) := by decide +kernel
theorem dX4_image_1 : decode cX4_image 1 = .ok (.iconst 0, 1) := by decide +kernel
theorem dX4_image_2 : decode cX4_image 2 = .ok (.iconst 1, 1) := by decide +kernel
theorem dX4_image_3 : decode cX4_image 3 = .ok (.invokestatic 47, 3) := by decide +kernel
theorem dX4_image_6 : decode cX4_image 6 = .ok (.ifCond .ne 6, 3) := by decide +kernel
theorem dX4_image_9 : decode cX4_image 9 = .ok (.bipush (-2), 2) := by decide +kernel
theorem dX4_image_11 : decode cX4_image 11 = .ok (.ireturn, 1) := by decide +kernel
theorem dX4_image_12 : decode cX4_image 12 = .ok (.aload_n 0, 1) := by decide +kernel
theorem dX4_image_13 : decode cX4_image 13 = .ok (.getfield 23, 3) := by decide +kernel
theorem dX4_image_16 : decode cX4_image 16 = .ok (.iload_n 1, 1) := by decide +kernel
theorem dX4_image_17 : decode cX4_image 17 = .ok (.aaload, 1) := by decide +kernel
theorem dX4_image_18 : decode cX4_image 18 = .ok (.aload_n 0, 1) := by decide +kernel
theorem dX4_image_19 : decode cX4_image 19 = .ok (.getfield 19, 3) := by decide +kernel
theorem dX4_image_22 : decode cX4_image 22 = .ok (.invokevirtual 165, 3) := by decide +kernel
theorem dX4_image_25 : decode cX4_image 25 = .ok (.aload_n 0, 1) := by decide +kernel
theorem dX4_image_26 : decode cX4_image 26 = .ok (.getfield 27, 3) := by decide +kernel
theorem dX4_image_29 : decode cX4_image 29 = .ok (.iload_n 1, 1) := by decide +kernel
theorem dX4_image_30 : decode cX4_image 30 = .ok (.iconst 1, 1) := by decide +kernel
theorem dX4_image_31 : decode cX4_image 31 = .ok (.bastore, 1) := by decide +kernel
theorem dX4_image_32 : decode cX4_image 32 = .ok (.iconst 1, 1) := by decide +kernel
theorem dX4_image_33 : decode cX4_image 33 = .ok (.ireturn, 1) := by decide +kernel
set_option maxRecDepth 20000 in
theorem ggX4_restore_X4_isWithin : GoodIn wsX4_restore wsX4_isWithin := goodIn_r _ [7] (by decide +kernel) (by decide +kernel)
set_option maxRecDepth 20000 in
theorem gX4_restore_X4_isWithin : GoodIn wsX4_restore (va_wsS RX4 47 yX4_isWithin wsX4_isWithin) := goodIn_app (goodIn_of _ (by decide +kernel)) ggX4_restore_X4_isWithin
set_option maxRecDepth 20000 in
theorem ggX4_restore_X1_take : GoodIn wsX4_restore wsX1_take := goodIn_r _ [12, 13, 14, 15, 16, 17, 18, 19, 20, 21, 22, 98, 99, 100, 101, 102, 103] (by decide +kernel) (by decide +kernel)
set_option maxRecDepth 20000 in
theorem gX4_restore_X1_take : GoodIn wsX4_restore (wsV RX4 165 RX1 yX1_take wsX1_take) := goodIn_app (goodIn_of _ (by decide +kernel)) ggX4_restore_X1_take
set_option maxRecDepth 20000 in
theorem ggX4_restore_X4_renew : GoodIn wsX4_restore wsX4_renew := goodIn_r _ [26, 27, 2, 28, 29, 30, 31, 32, 33, 34, 35, 36, 37, 38, 39, 40, 41, 42, 43, 44, 11, 45, 13, 18, 20, 46, 47, 48, 49, 19, 50, 51, 52, 5, 6, 7, 53, 54, 55, 56, 57, 58, 59, 60, 61, 62, 63, 64, 65, 66, 67, 68, 69, 70, 71, 72, 73, 74, 75, 76, 77, 78, 79, 80, 81, 82, 83, 84, 85, 86, 87, 88, 89, 90, 91, 92, 93, 94, 95, 96, 97, 104, 105, 106, 107, 108, 109, 110, 111, 112, 113, 114, 98, 99, 100, 101, 102, 103, 115, 116, 117, 118, 119, 120, 121, 122, 123, 124, 125, 126] (by decide +kernel) (by decide +kernel)
set_option maxRecDepth 20000 in
theorem gX4_restore_X4_renew : GoodIn wsX4_restore (wsV RX4 69 RX4 yX4_renew wsX4_renew) := goodIn_app (goodIn_of _ (by decide +kernel)) ggX4_restore_X4_renew
theorem dX4_restore_0 : decode cX4_restore 0 = .ok (.iload_n 1, 1) := by decide +kernel
theorem dX4_restore_1 : decode cX4_restore 1 = .ok (.iconst 0, 1) := by decide +kernel
theorem dX4_restore_2 : decode cX4_restore 2 = .ok (.iconst 1, 1) := by decide +kernel
theorem dX4_restore_3 : decode cX4_restore 3 = .ok (.invokestatic 47, 3) := by decide +kernel
theorem dX4_restore_6 : decode cX4_restore 6 = .ok (.ifCond .ne 6, 3) := by decide +kernel
theorem dX4_restore_9 : decode cX4_restore 9 = .ok (.bipush (-2), 2) := by decide +kernel
theorem dX4_restore_11 : decode cX4_restore 11 = .ok (.ireturn, 1) := by decide +kernel
theorem dX4_restore_12 : decode cX4_restore 12 = .ok (.aload_n 0, 1) := by decide +kernel
theorem dX4_restore_13 : decode cX4_restore 13 = .ok (.getfield 27, 3) := by decide +kernel
theorem dX4_restore_16 : decode cX4_restore 16 = .ok (.iload_n 1, 1) := by decide +kernel
theorem dX4_restore_17 : decode cX4_restore 17 = .ok (.baload, 1) := by decide +kernel
theorem dX4_restore_18 : decode cX4_restore 18 = .ok (.ifCond .ne 6, 3) := by decide +kernel
theorem dX4_restore_21 : decode cX4_restore 21 = .ok (.bipush (-3), 2) := by decide +kernel
theorem dX4_restore_23 : decode cX4_restore 23 = .ok (.ireturn, 1) := by decide +kernel
theorem dX4_restore_24 : decode cX4_restore 24 = .ok (.aload_n 0, 1) := by decide +kernel
theorem dX4_restore_25 : decode cX4_restore 25 = .ok (.getfield 19, 3) := by decide +kernel
theorem dX4_restore_28 : decode cX4_restore 28 = .ok (.aload_n 0, 1) := by decide +kernel
theorem dX4_restore_29 : decode cX4_restore 29 = .ok (.getfield 23, 3) := by decide +kernel
theorem dX4_restore_32 : decode cX4_restore 32 = .ok (.iload_n 1, 1) := by decide +kernel
theorem dX4_restore_33 : decode cX4_restore 33 = .ok (.aaload, 1) := by decide +kernel
theorem dX4_restore_34 : decode cX4_restore 34 = .ok (.invokevirtual 165, 3) := by decide +kernel
theorem dX4_restore_37 : decode cX4_restore 37 = .ok (.aload_n 0, 1) := by decide +kernel
theorem dX4_restore_38 : decode cX4_restore 38 = .ok (.invokevirtual 69, 3) := by decide +kernel
theorem dX4_restore_41 : decode cX4_restore 41 = .ok (.iconst 1, 1) := by decide +kernel
theorem dX4_restore_42 : decode cX4_restore 42 = .ok (.ireturn, 1) := by decide +kernel
set_option maxRecDepth 20000 in
theorem ggX4_count_X4_isWithin : GoodIn wsX4_count wsX4_isWithin := goodIn_r _ [12] (by decide +kernel) (by decide +kernel)
set_option maxRecDepth 20000 in
theorem gX4_count_X4_isWithin : GoodIn wsX4_count (va_wsS RX4 47 yX4_isWithin wsX4_isWithin) := goodIn_app (goodIn_of _ (by decide +kernel)) ggX4_count_X4_isWithin
theorem dX4_count_0 : decode cX4_count 0 = .ok (.iload_n 1, 1) := by decide +kernel
theorem dX4_count_1 : decode cX4_count 1 = .ok (.tableswitch 63 0 3 #[31, 39, 47, 55], 31) := by decide +kernel
theorem dX4_count_32 : decode cX4_count 32 = .ok (.aload_n 0, 1) := by decide +kernel
theorem dX4_count_33 : decode cX4_count 33 = .ok (.getfield 10, 3) := by decide +kernel
theorem dX4_count_36 : decode cX4_count 36 = .ok (.getfield 55, 3) := by decide +kernel
theorem dX4_count_39 : decode cX4_count 39 = .ok (.ireturn, 1) := by decide +kernel
theorem dX4_count_40 : decode cX4_count 40 = .ok (.aload_n 0, 1) := by decide +kernel
theorem dX4_count_41 : decode cX4_count 41 = .ok (.getfield 19, 3) := by decide +kernel
theorem dX4_count_44 : decode cX4_count 44 = .ok (.getfield 72, 3) := by decide +kernel
theorem dX4_count_47 : decode cX4_count 47 = .ok (.ireturn, 1) := by decide +kernel
theorem dX4_count_48 : decode cX4_count 48 = .ok (.aload_n 0, 1) := by decide +kernel
theorem dX4_count_49 : decode cX4_count 49 = .ok (.getfield 34, 3) := by decide +kernel
theorem dX4_count_52 : decode cX4_count 52 = .ok (.getfield 102, 3) := by decide +kernel
theorem dX4_count_55 : decode cX4_count 55 = .ok (.ireturn, 1) := by decide +kernel
theorem dX4_count_56 : decode cX4_count 56 = .ok (.aload_n 0, 1) := by decide +kernel
theorem dX4_count_57 : decode cX4_count 57 = .ok (.getfield 34, 3) := by decide +kernel
theorem dX4_count_60 : decode cX4_count 60 = .ok (.getfield 120, 3) := by decide +kernel
theorem dX4_count_63 : decode cX4_count 63 = .ok (.ireturn, 1) := by decide +kernel
theorem dX4_count_64 : decode cX4_count 64 = .ok (.iload_n 1, 1) := by decide +kernel
theorem dX4_count_65 : decode cX4_count 65 = .ok (.iconst 4, 1) := by decide +kernel
theorem dX4_count_66 : decode cX4_count 66 = .ok (.bipush 8, 2) := by decide +kernel
theorem dX4_count_68 : decode cX4_count 68 = .ok (.invokestatic 47, 3) := by decide +kernel
theorem dX4_count_71 : decode cX4_count 71 = .ok (.ifCond .eq 17, 3) := by decide +kernel
theorem dX4_count_74 : decode cX4_count 74 = .ok (.aload_n 0, 1) := by decide +kernel
theorem dX4_count_75 : decode cX4_count 75 = .ok (.getfield 19, 3) := by decide +kernel
theorem dX4_count_78 : decode cX4_count 78 = .ok (.getfield 99, 3) := by decide +kernel
theorem dX4_count_81 : decode cX4_count 81 = .ok (.iload_n 1, 1) := by decide +kernel
theorem dX4_count_82 : decode cX4_count 82 = .ok (.iconst 4, 1) := by decide +kernel
theorem dX4_count_83 : decode cX4_count 83 = .ok (.isub, 1) := by decide +kernel
theorem dX4_count_84 : decode cX4_count 84 = .ok (.iaload, 1) := by decide +kernel
theorem dX4_count_85 : decode cX4_count 85 = .ok (.goto 5, 3) := by decide +kernel
theorem dX4_count_88 : decode cX4_count 88 = .ok (.bipush (-2), 2) := by decide +kernel
theorem dX4_count_90 : decode cX4_count 90 = .ok (.ireturn, 1) := by decide +kernel
set_option maxRecDepth 20000 in
theorem ggX4_renew_X3_find : GoodIn wsX4_renew wsX3_find := goodIn_r _ [8, 9, 10, 11, 12, 13, 7, 14, 15, 16, 17, 18, 19, 20, 21, 22, 23, 24, 25, 26, 27, 28, 29, 30, 31, 32, 33, 34, 35, 36, 37, 38, 39, 40, 41, 42, 43, 44, 45, 46, 47, 48, 49, 50, 51, 52, 53, 54, 55, 56, 57, 58, 59, 60, 61, 62, 63, 64, 65, 66, 67, 68, 81, 82, 83, 84, 85, 86, 87, 88, 89, 90, 91, 92, 93, 94, 95, 96, 97] (by decide +kernel) (by decide +kernel)
set_option maxRecDepth 20000 in
theorem gX4_renew_X3_find : GoodIn wsX4_renew (wsV RX4 169 RX3 yX3_find wsX3_find) := goodIn_app (goodIn_of _ (by decide +kernel)) ggX4_renew_X3_find
set_option maxRecDepth 20000 in
theorem ggX4_renew_X0_forget : GoodIn wsX4_renew wsX0_forget := goodIn_r _ [73, 74, 98, 99, 100, 101, 102, 103, 104, 105, 106, 107, 108, 109] (by decide +kernel) (by decide +kernel)
set_option maxRecDepth 20000 in
theorem gX4_renew_X0_forget : GoodIn wsX4_renew (wsV RX4 172 RX0 yX0_forget wsX0_forget) := goodIn_app (goodIn_of _ (by decide +kernel)) ggX4_renew_X0_forget
theorem dX4_renew_0 : decode cX4_renew 0 = .ok (.aload_n 0, 1) := by decide +kernel
theorem dX4_renew_1 : decode cX4_renew 1 = .ok (.getfield 34, 3) := by decide +kernel
theorem dX4_renew_4 : decode cX4_renew 4 = .ok (.aload_n 0, 1) := by decide +kernel
theorem dX4_renew_5 : decode cX4_renew 5 = .ok (.getfield 19, 3) := by decide +kernel
theorem dX4_renew_8 : decode cX4_renew 8 = .ok (.invokevirtual 169, 3) := by decide +kernel
theorem dX4_renew_11 : decode cX4_renew 11 = .ok (.aload_n 0, 1) := by decide +kernel
theorem dX4_renew_12 : decode cX4_renew 12 = .ok (.getfield 43, 3) := by decide +kernel
theorem dX4_renew_15 : decode cX4_renew 15 = .ok (.invokevirtual 172, 3) := by decide +kernel
theorem dX4_renew_18 : decode cX4_renew 18 = .ok (.return_, 1) := by decide +kernel
theorem dX4_isWithin_0 : decode cX4_isWithin 0 = .ok (.iload_n 0, 1) := by decide +kernel
theorem dX4_isWithin_1 : decode cX4_isWithin 1 = .ok (.iload_n 1, 1) := by decide +kernel
theorem dX4_isWithin_2 : decode cX4_isWithin 2 = .ok (.if_icmp .lt 12, 3) := by decide +kernel
theorem dX4_isWithin_5 : decode cX4_isWithin 5 = .ok (.iload_n 0, 1) := by decide +kernel
theorem dX4_isWithin_6 : decode cX4_isWithin 6 = .ok (.iload_n 2, 1) := by decide +kernel
theorem dX4_isWithin_7 : decode cX4_isWithin 7 = .ok (.if_icmp .gt 7, 3) := by decide +kernel
theorem dX4_isWithin_10 : decode cX4_isWithin 10 = .ok (.iconst 1, 1) := by decide +kernel
theorem dX4_isWithin_11 : decode cX4_isWithin 11 = .ok (.goto 4, 3) := by decide +kernel
theorem dX4_isWithin_14 : decode cX4_isWithin 14 = .ok (.iconst 0, 1) := by decide +kernel
theorem dX4_isWithin_15 : decode cX4_isWithin 15 = .ok (.ireturn, 1) := by decide +kernel
set_option maxRecDepth 20000 in
theorem ggX4_isSize_X4_isWithin : GoodIn wsX4_isSize wsX4_isWithin := goodIn_r _ [4] (by decide +kernel) (by decide +kernel)
set_option maxRecDepth 20000 in
theorem gX4_isSize_X4_isWithin : GoodIn wsX4_isSize (va_wsS RX4 47 yX4_isWithin wsX4_isWithin) := goodIn_app (goodIn_of _ (by decide +kernel)) ggX4_isSize_X4_isWithin
theorem dX4_isSize_0 : decode cX4_isSize 0 = .ok (.iload_n 0, 1) := by decide +kernel
theorem dX4_isSize_1 : decode cX4_isSize 1 = .ok (.iconst 1, 1) := by decide +kernel
theorem dX4_isSize_2 : decode cX4_isSize 2 = .ok (.bipush 60, 2) := by decide +kernel
theorem dX4_isSize_4 : decode cX4_isSize 4 = .ok (.invokestatic 47, 3) := by decide +kernel
theorem dX4_isSize_7 : decode cX4_isSize 7 = .ok (.ireturn, 1) := by decide +kernel
end
section
theorem dX5_init_0 : decode cX5_init 0 = .ok (.aload_n 0, 1) := by decide +kernel
theorem dX5_init_1 : decode cX5_init 1 = .ok (.invokespecial 1, 3) := by decide +kernel
theorem dX5_init_4 : decode cX5_init 4 = .ok (.aload_n 0, 1) := by decide +kernel
theorem dX5_init_5 : decode cX5_init 5 = .ok (.bipush 64, 2) := by decide +kernel
theorem dX5_init_7 : decode cX5_init 7 = .ok (.newarray .int, 2) := by decide +kernel
theorem dX5_init_9 : decode cX5_init 9 = .ok (.putfield 7, 3) := by decide +kernel
theorem dX5_init_12 : decode cX5_init 12 = .ok (.aload_n 0, 1) := by decide +kernel
theorem dX5_init_13 : decode cX5_init 13 = .ok (.iconst 5, 1) := by decide +kernel
theorem dX5_init_14 : decode cX5_init 14 = .ok (.newarray .int, 2) := by decide +kernel
theorem dX5_init_16 : decode cX5_init 16 = .ok (.putfield 13, 3) := by decide +kernel
theorem dX5_init_19 : decode cX5_init 19 = .ok (.aload_n 0, 1) := by decide +kernel
theorem dX5_init_20 : decode cX5_init 20 = .ok (.bipush 30, 2) := by decide +kernel
theorem dX5_init_22 : decode cX5_init 22 = .ok (.newarray .int, 2) := by decide +kernel
theorem dX5_init_24 : decode cX5_init 24 = .ok (.putfield 16, 3) := by decide +kernel
theorem dX5_init_27 : decode cX5_init 27 = .ok (.aload_n 0, 1) := by decide +kernel
theorem dX5_init_28 : decode cX5_init 28 = .ok (.iconst 4, 1) := by decide +kernel
theorem dX5_init_29 : decode cX5_init 29 = .ok (.newarray .int, 2) := by decide +kernel
theorem dX5_init_31 : decode cX5_init 31 = .ok (.putfield 19, 3) := by decide +kernel
theorem dX5_init_34 : decode cX5_init 34 = .ok (.aload_n 0, 1) := by decide +kernel
theorem dX5_init_35 : decode cX5_init 35 = .ok (.bipush 8, 2) := by decide +kernel
theorem dX5_init_37 : decode cX5_init 37 = .ok (.newarray .int, 2) := by decide +kernel
theorem dX5_init_39 : decode cX5_init 39 = .ok (.putfield 22, 3) := by decide +kernel
theorem dX5_init_42 : decode cX5_init 42 = .ok (.aload_n 0, 1) := by decide +kernel
theorem dX5_init_43 : decode cX5_init 43 = .ok (.bipush 8, 2) := by decide +kernel
theorem dX5_init_45 : decode cX5_init 45 = .ok (.newarray .int, 2) := by decide +kernel
theorem dX5_init_47 : decode cX5_init 47 = .ok (.putfield 25, 3) := by decide +kernel
theorem dX5_init_50 : decode cX5_init 50 = .ok (.aload_n 0, 1) := by decide +kernel
theorem dX5_init_51 : decode cX5_init 51 = .ok (.bipush 8, 2) := by decide +kernel
theorem dX5_init_53 : decode cX5_init 53 = .ok (.newarray .int, 2) := by decide +kernel
theorem dX5_init_55 : decode cX5_init 55 = .ok (.putfield 28, 3) := by decide +kernel
theorem dX5_init_58 : decode cX5_init 58 = .ok (.aload_n 0, 1) := by decide +kernel
theorem dX5_init_59 : decode cX5_init 59 = .ok (.bipush 8, 2) := by decide +kernel
theorem dX5_init_61 : decode cX5_init 61 = .ok (.newarray .int, 2) := by decide +kernel
theorem dX5_init_63 : decode cX5_init 63 = .ok (.putfield 31, 3) := by decide +kernel
theorem dX5_init_66 : decode cX5_init 66 = .ok (.aload_n 0, 1) := by decide +kernel
theorem dX5_init_67 : decode cX5_init 67 = .ok (.bipush 8, 2) := by decide +kernel
theorem dX5_init_69 : decode cX5_init 69 = .ok (.newarray .int, 2) := by decide +kernel
theorem dX5_init_71 : decode cX5_init 71 = .ok (.putfield 34, 3) := by decide +kernel
theorem dX5_init_74 : decode cX5_init 74 = .ok (.aload_n 0, 1) := by decide +kernel
theorem dX5_init_75 : decode cX5_init 75 = .ok (.bipush 16, 2) := by decide +kernel
theorem dX5_init_77 : decode cX5_init 77 = .ok (.newarray .int, 2) := by decide +kernel
theorem dX5_init_79 : decode cX5_init 79 = .ok (.putfield 37, 3) := by decide +kernel
theorem dX5_init_82 : decode cX5_init 82 = .ok (.aload_n 0, 1) := by decide +kernel
theorem dX5_init_83 : decode cX5_init 83 = .ok (.bipush 8, 2) := by decide +kernel
theorem dX5_init_85 : decode cX5_init 85 = .ok (.newarray .int, 2) := by decide +kernel
theorem dX5_init_87 : decode cX5_init 87 = .ok (.putfield 40, 3) := by decide +kernel
theorem dX5_init_90 : decode cX5_init 90 = .ok (.aload_n 0, 1) := by decide +kernel
theorem dX5_init_91 : decode cX5_init 91 = .ok (.bipush 8, 2) := by decide +kernel
theorem dX5_init_93 : decode cX5_init 93 = .ok (.newarray .int, 2) := by decide +kernel
theorem dX5_init_95 : decode cX5_init 95 = .ok (.putfield 43, 3) := by decide +kernel
theorem dX5_init_98 : decode cX5_init 98 = .ok (.aload_n 0, 1) := by decide +kernel
theorem dX5_init_99 : decode cX5_init 99 = .ok (.bipush 8, 2) := by decide +kernel
theorem dX5_init_101 : decode cX5_init 101 = .ok (.newarray .int, 2) := by decide +kernel
theorem dX5_init_103 : decode cX5_init 103 = .ok (.putfield 46, 3) := by decide +kernel
theorem dX5_init_106 : decode cX5_init 106 = .ok (.aload_n 0, 1) := by decide +kernel
theorem dX5_init_107 : decode cX5_init 107 = .ok (.sipush 488, 3) := by decide +kernel
theorem dX5_init_110 : decode cX5_init 110 = .ok (.newarray .long, 2) := by decide +kernel
theorem dX5_init_112 : decode cX5_init 112 = .ok (.putfield 49, 3) := by decide +kernel
theorem dX5_init_115 : decode cX5_init 115 = .ok (.aload_n 0, 1) := by decide +kernel
theorem dX5_init_116 : decode cX5_init 116 = .ok (.bipush 8, 2) := by decide +kernel
theorem dX5_init_118 : decode cX5_init 118 = .ok (.newarray .int, 2) := by decide +kernel
theorem dX5_init_120 : decode cX5_init 120 = .ok (.putfield 53, 3) := by decide +kernel
theorem dX5_init_123 : decode cX5_init 123 = .ok (.aload_n 0, 1) := by decide +kernel
theorem dX5_init_124 : decode cX5_init 124 = .ok (.bipush 8, 2) := by decide +kernel
theorem dX5_init_126 : decode cX5_init 126 = .ok (.newarray .int, 2) := by decide +kernel
theorem dX5_init_128 : decode cX5_init 128 = .ok (.putfield 56, 3) := by decide +kernel
theorem dX5_init_131 : decode cX5_init 131 = .ok (.aload_n 0, 1) := by decide +kernel
theorem dX5_init_132 : decode cX5_init 132 = .ok (.sipush 140, 3) := by decide +kernel
theorem dX5_init_135 : decode cX5_init 135 = .ok (.newarray .int, 2) := by decide +kernel
theorem dX5_init_137 : decode cX5_init 137 = .ok (.putfield 59, 3) := by decide +kernel
theorem dX5_init_140 : decode cX5_init 140 = .ok (.aload_n 0, 1) := by decide +kernel
theorem dX5_init_141 : decode cX5_init 141 = .ok (.iconst 2, 1) := by decide +kernel
theorem dX5_init_142 : decode cX5_init 142 = .ok (.newarray .boolean, 2) := by decide +kernel
theorem dX5_init_144 : decode cX5_init 144 = .ok (.putfield 62, 3) := by decide +kernel
theorem dX5_init_147 : decode cX5_init 147 = .ok (.aload_n 0, 1) := by decide +kernel
theorem dX5_init_148 : decode cX5_init 148 = .ok (.getfield 13, 3) := by decide +kernel
theorem dX5_init_151 : decode cX5_init 151 = .ok (.iconst 0, 1) := by decide +kernel
theorem dX5_init_152 : decode cX5_init 152 = .ok (.bipush 20, 2) := by decide +kernel
theorem dX5_init_154 : decode cX5_init 154 = .ok (.iastore, 1) := by decide +kernel
theorem dX5_init_155 : decode cX5_init 155 = .ok (.aload_n 0, 1) := by decide +kernel
theorem dX5_init_156 : decode cX5_init 156 = .ok (.getfield 13, 3) := by decide +kernel
theorem dX5_init_159 : decode cX5_init 159 = .ok (.iconst 1, 1) := by decide +kernel
theorem dX5_init_160 : decode cX5_init 160 = .ok (.iconst 1, 1) := by decide +kernel
theorem dX5_init_161 : decode cX5_init 161 = .ok (.iastore, 1) := by decide +kernel
theorem dX5_init_162 : decode cX5_init 162 = .ok (.aload_n 0, 1) := by decide +kernel
theorem dX5_init_163 : decode cX5_init 163 = .ok (.getfield 13, 3) := by decide +kernel
theorem dX5_init_166 : decode cX5_init 166 = .ok (.iconst 2, 1) := by decide +kernel
theorem dX5_init_167 : decode cX5_init 167 = .ok (.iconst 1, 1) := by decide +kernel
theorem dX5_init_168 : decode cX5_init 168 = .ok (.iastore, 1) := by decide +kernel
theorem dX5_init_169 : decode cX5_init 169 = .ok (.return_, 1) := by decide +kernel
theorem dX5_in_0 : decode cX5_in 0 = .ok (.iload_n 0, 1) := by decide +kernel
theorem dX5_in_1 : decode cX5_in 1 = .ok (.iload_n 1, 1) := by decide +kernel
theorem dX5_in_2 : decode cX5_in 2 = .ok (.if_icmp .lt 12, 3) := by decide +kernel
theorem dX5_in_5 : decode cX5_in 5 = .ok (.iload_n 0, 1) := by decide +kernel
theorem dX5_in_6 : decode cX5_in 6 = .ok (.iload_n 2, 1) := by decide +kernel
theorem dX5_in_7 : decode cX5_in 7 = .ok (.if_icmp .gt 7, 3) := by decide +kernel
theorem dX5_in_10 : decode cX5_in 10 = .ok (.iconst 1, 1) := by decide +kernel
theorem dX5_in_11 : decode cX5_in 11 = .ok (.goto 4, 3) := by decide +kernel
theorem dX5_in_14 : decode cX5_in 14 = .ok (.iconst 0, 1) := by decide +kernel
theorem dX5_in_15 : decode cX5_in 15 = .ok (.ireturn, 1) := by decide +kernel
set_option maxRecDepth 20000 in
theorem ggX5_isFigure_X5_in : GoodIn wsX5_isFigure wsX5_in := goodIn_r _ [4] (by decide +kernel) (by decide +kernel)
set_option maxRecDepth 20000 in
theorem gX5_isFigure_X5_in : GoodIn wsX5_isFigure (va_wsS RX5 66 yX5_in wsX5_in) := goodIn_app (goodIn_of _ (by decide +kernel)) ggX5_isFigure_X5_in
theorem dX5_isFigure_0 : decode cX5_isFigure 0 = .ok (.iload_n 0, 1) := by decide +kernel
theorem dX5_isFigure_1 : decode cX5_isFigure 1 = .ok (.bipush 48, 2) := by decide +kernel
theorem dX5_isFigure_3 : decode cX5_isFigure 3 = .ok (.bipush 57, 2) := by decide +kernel
theorem dX5_isFigure_5 : decode cX5_isFigure 5 = .ok (.invokestatic 66, 3) := by decide +kernel
theorem dX5_isFigure_8 : decode cX5_isFigure 8 = .ok (.ireturn, 1) := by decide +kernel
set_option maxRecDepth 20000 in
theorem ggX5_say_X5_in : GoodIn wsX5_say wsX5_in := goodIn_r _ [6] (by decide +kernel) (by decide +kernel)
set_option maxRecDepth 20000 in
theorem gX5_say_X5_in : GoodIn wsX5_say (va_wsS RX5 66 yX5_in wsX5_in) := goodIn_app (goodIn_of _ (by decide +kernel)) ggX5_say_X5_in
theorem dX5_say_0 : decode cX5_say 0 = .ok (.iload_n 1, 1) := by decide +kernel
theorem dX5_say_1 : decode cX5_say 1 = .ok (.bipush 33, 2) := by decide +kernel
theorem dX5_say_3 : decode cX5_say 3 = .ok (.bipush 126, 2) := by decide +kernel
theorem dX5_say_5 : decode cX5_say 5 = .ok (.invokestatic 66, 3) := by decide +kernel
theorem dX5_say_8 : decode cX5_say 8 = .ok (.ifCond .ne 6, 3) := by decide +kernel
theorem dX5_say_11 : decode cX5_say 11 = .ok (.bipush (-2), 2) := by decide +kernel
theorem dX5_say_13 : decode cX5_say 13 = .ok (.ireturn, 1) := by decide +kernel
theorem dX5_say_14 : decode cX5_say 14 = .ok (.aload_n 0, 1) := by decide +kernel
theorem dX5_say_15 : decode cX5_say 15 = .ok (.getfield 70, 3) := by decide +kernel
theorem dX5_say_18 : decode cX5_say 18 = .ok (.bipush 30, 2) := by decide +kernel
theorem dX5_say_20 : decode cX5_say 20 = .ok (.if_icmp .ne 6, 3) := by decide +kernel
theorem dX5_say_23 : decode cX5_say 23 = .ok (.bipush (-4), 2) := by decide +kernel
theorem dX5_say_25 : decode cX5_say 25 = .ok (.ireturn, 1) := by decide +kernel
theorem dX5_say_26 : decode cX5_say 26 = .ok (.aload_n 0, 1) := by decide +kernel
theorem dX5_say_27 : decode cX5_say 27 = .ok (.getfield 16, 3) := by decide +kernel
theorem dX5_say_30 : decode cX5_say 30 = .ok (.aload_n 0, 1) := by decide +kernel
theorem dX5_say_31 : decode cX5_say 31 = .ok (.getfield 70, 3) := by decide +kernel
theorem dX5_say_34 : decode cX5_say 34 = .ok (.iload_n 1, 1) := by decide +kernel
theorem dX5_say_35 : decode cX5_say 35 = .ok (.iastore, 1) := by decide +kernel
theorem dX5_say_36 : decode cX5_say 36 = .ok (.aload_n 0, 1) := by decide +kernel
theorem dX5_say_37 : decode cX5_say 37 = .ok (.dup, 1) := by decide +kernel
theorem dX5_say_38 : decode cX5_say 38 = .ok (.getfield 70, 3) := by decide +kernel
theorem dX5_say_41 : decode cX5_say 41 = .ok (.iconst 1, 1) := by decide +kernel
theorem dX5_say_42 : decode cX5_say 42 = .ok (.iadd, 1) := by decide +kernel
theorem dX5_say_43 : decode cX5_say 43 = .ok (.putfield 70, 3) := by decide +kernel
theorem dX5_say_46 : decode cX5_say 46 = .ok (.aload_n 0, 1) := by decide +kernel
theorem dX5_say_47 : decode cX5_say 47 = .ok (.getfield 70, 3) := by decide +kernel
theorem dX5_say_50 : decode cX5_say 50 = .ok (.ireturn, 1) := by decide +kernel
theorem dX5_wipe_0 : decode cX5_wipe 0 = .ok (.aload_n 0, 1) := by decide +kernel
theorem dX5_wipe_1 : decode cX5_wipe 1 = .ok (.getfield 70, 3) := by decide +kernel
theorem dX5_wipe_4 : decode cX5_wipe 4 = .ok (.istore_n 1, 1) := by decide +kernel
theorem dX5_wipe_5 : decode cX5_wipe 5 = .ok (.aload_n 0, 1) := by decide +kernel
theorem dX5_wipe_6 : decode cX5_wipe 6 = .ok (.iconst 0, 1) := by decide +kernel
theorem dX5_wipe_7 : decode cX5_wipe 7 = .ok (.putfield 70, 3) := by decide +kernel
theorem dX5_wipe_10 : decode cX5_wipe 10 = .ok (.iload_n 1, 1) := by decide +kernel
theorem dX5_wipe_11 : decode cX5_wipe 11 = .ok (.ireturn, 1) := by decide +kernel
set_option maxRecDepth 20000 in
theorem ggX5_faultOf_X5_isFigure : GoodIn wsX5_faultOf wsX5_isFigure := goodIn_r _ [7, 8, 9, 6, 10] (by decide +kernel) (by decide +kernel)
set_option maxRecDepth 20000 in
theorem gX5_faultOf_X5_isFigure : GoodIn wsX5_faultOf (va_wsS RX5 74 yX5_isFigure wsX5_isFigure) := goodIn_app (goodIn_of _ (by decide +kernel)) ggX5_faultOf_X5_isFigure
theorem dX5_faultOf_0 : decode cX5_faultOf 0 = .ok (.aload_n 0, 1) := by decide +kernel
theorem dX5_faultOf_1 : decode cX5_faultOf 1 = .ok (.getfield 70, 3) := by decide +kernel
theorem dX5_faultOf_4 : decode cX5_faultOf 4 = .ok (.ifCond .eq 25, 3) := by decide +kernel
theorem dX5_faultOf_7 : decode cX5_faultOf 7 = .ok (.aload_n 0, 1) := by decide +kernel
theorem dX5_faultOf_8 : decode cX5_faultOf 8 = .ok (.getfield 16, 3) := by decide +kernel
theorem dX5_faultOf_11 : decode cX5_faultOf 11 = .ok (.iconst 0, 1) := by decide +kernel
theorem dX5_faultOf_12 : decode cX5_faultOf 12 = .ok (.iaload, 1) := by decide +kernel
theorem dX5_faultOf_13 : decode cX5_faultOf 13 = .ok (.bipush 117, 2) := by decide +kernel
theorem dX5_faultOf_15 : decode cX5_faultOf 15 = .ok (.if_icmp .eq 16, 3) := by decide +kernel
theorem dX5_faultOf_18 : decode cX5_faultOf 18 = .ok (.aload_n 0, 1) := by decide +kernel
theorem dX5_faultOf_19 : decode cX5_faultOf 19 = .ok (.getfield 16, 3) := by decide +kernel
theorem dX5_faultOf_22 : decode cX5_faultOf 22 = .ok (.iconst 0, 1) := by decide +kernel
theorem dX5_faultOf_23 : decode cX5_faultOf 23 = .ok (.iaload, 1) := by decide +kernel
theorem dX5_faultOf_24 : decode cX5_faultOf 24 = .ok (.bipush 100, 2) := by decide +kernel
theorem dX5_faultOf_26 : decode cX5_faultOf 26 = .ok (.if_icmp .eq 5, 3) := by decide +kernel
theorem dX5_faultOf_29 : decode cX5_faultOf 29 = .ok (.iconst 0, 1) := by decide +kernel
theorem dX5_faultOf_30 : decode cX5_faultOf 30 = .ok (.ireturn, 1) := by decide +kernel
theorem dX5_faultOf_31 : decode cX5_faultOf 31 = .ok (.aload_n 0, 1) := by decide +kernel
theorem dX5_faultOf_32 : decode cX5_faultOf 32 = .ok (.getfield 19, 3) := by decide +kernel
theorem dX5_faultOf_35 : decode cX5_faultOf 35 = .ok (.iconst 0, 1) := by decide +kernel
theorem dX5_faultOf_36 : decode cX5_faultOf 36 = .ok (.aload_n 0, 1) := by decide +kernel
theorem dX5_faultOf_37 : decode cX5_faultOf 37 = .ok (.getfield 16, 3) := by decide +kernel
theorem dX5_faultOf_40 : decode cX5_faultOf 40 = .ok (.iconst 0, 1) := by decide +kernel
theorem dX5_faultOf_41 : decode cX5_faultOf 41 = .ok (.iaload, 1) := by decide +kernel
theorem dX5_faultOf_42 : decode cX5_faultOf 42 = .ok (.bipush 117, 2) := by decide +kernel
theorem dX5_faultOf_44 : decode cX5_faultOf 44 = .ok (.if_icmp .ne 7, 3) := by decide +kernel
theorem dX5_faultOf_47 : decode cX5_faultOf 47 = .ok (.iconst 1, 1) := by decide +kernel
theorem dX5_faultOf_48 : decode cX5_faultOf 48 = .ok (.goto 4, 3) := by decide +kernel
theorem dX5_faultOf_51 : decode cX5_faultOf 51 = .ok (.iconst 0, 1) := by decide +kernel
theorem dX5_faultOf_52 : decode cX5_faultOf 52 = .ok (.iastore, 1) := by decide +kernel
theorem dX5_faultOf_53 : decode cX5_faultOf 53 = .ok (.iconst 1, 1) := by decide +kernel
theorem dX5_faultOf_54 : decode cX5_faultOf 54 = .ok (.istore_n 1, 1) := by decide +kernel
theorem dX5_faultOf_55 : decode cX5_faultOf 55 = .ok (.iconst 1, 1) := by decide +kernel
theorem dX5_faultOf_56 : decode cX5_faultOf 56 = .ok (.istore_n 2, 1) := by decide +kernel
theorem dX5_faultOf_57 : decode cX5_faultOf 57 = .ok (.iload_n 2, 1) := by decide +kernel
theorem dX5_faultOf_58 : decode cX5_faultOf 58 = .ok (.iconst 4, 1) := by decide +kernel
theorem dX5_faultOf_59 : decode cX5_faultOf 59 = .ok (.if_icmp .ge 138, 3) := by decide +kernel
theorem dX5_faultOf_62 : decode cX5_faultOf 62 = .ok (.iload_n 1, 1) := by decide +kernel
theorem dX5_faultOf_63 : decode cX5_faultOf 63 = .ok (.aload_n 0, 1) := by decide +kernel
theorem dX5_faultOf_64 : decode cX5_faultOf 64 = .ok (.getfield 70, 3) := by decide +kernel
theorem dX5_faultOf_67 : decode cX5_faultOf 67 = .ok (.if_icmp .eq 15, 3) := by decide +kernel
theorem dX5_faultOf_70 : decode cX5_faultOf 70 = .ok (.aload_n 0, 1) := by decide +kernel
theorem dX5_faultOf_71 : decode cX5_faultOf 71 = .ok (.getfield 16, 3) := by decide +kernel
theorem dX5_faultOf_74 : decode cX5_faultOf 74 = .ok (.iload_n 1, 1) := by decide +kernel
theorem dX5_faultOf_75 : decode cX5_faultOf 75 = .ok (.iaload, 1) := by decide +kernel
theorem dX5_faultOf_76 : decode cX5_faultOf 76 = .ok (.invokestatic 74, 3) := by decide +kernel
theorem dX5_faultOf_79 : decode cX5_faultOf 79 = .ok (.ifCond .ne 5, 3) := by decide +kernel
theorem dX5_faultOf_82 : decode cX5_faultOf 82 = .ok (.iload_n 1, 1) := by decide +kernel
theorem dX5_faultOf_83 : decode cX5_faultOf 83 = .ok (.ireturn, 1) := by decide +kernel
theorem dX5_faultOf_84 : decode cX5_faultOf 84 = .ok (.aload_n 0, 1) := by decide +kernel
theorem dX5_faultOf_85 : decode cX5_faultOf 85 = .ok (.getfield 19, 3) := by decide +kernel
theorem dX5_faultOf_88 : decode cX5_faultOf 88 = .ok (.iload_n 2, 1) := by decide +kernel
theorem dX5_faultOf_89 : decode cX5_faultOf 89 = .ok (.iconst 0, 1) := by decide +kernel
theorem dX5_faultOf_90 : decode cX5_faultOf 90 = .ok (.iastore, 1) := by decide +kernel
theorem dX5_faultOf_91 : decode cX5_faultOf 91 = .ok (.iconst 0, 1) := by decide +kernel
theorem dX5_faultOf_92 : decode cX5_faultOf 92 = .ok (.istore_n 3, 1) := by decide +kernel
theorem dX5_faultOf_93 : decode cX5_faultOf 93 = .ok (.iload_n 3, 1) := by decide +kernel
theorem dX5_faultOf_94 : decode cX5_faultOf 94 = .ok (.iconst 3, 1) := by decide +kernel
theorem dX5_faultOf_95 : decode cX5_faultOf 95 = .ok (.if_icmp .ge 57, 3) := by decide +kernel
theorem dX5_faultOf_98 : decode cX5_faultOf 98 = .ok (.iload_n 1, 1) := by decide +kernel
theorem dX5_faultOf_99 : decode cX5_faultOf 99 = .ok (.aload_n 0, 1) := by decide +kernel
theorem dX5_faultOf_100 : decode cX5_faultOf 100 = .ok (.getfield 70, 3) := by decide +kernel
theorem dX5_faultOf_103 : decode cX5_faultOf 103 = .ok (.if_icmp .ge 49, 3) := by decide +kernel
theorem dX5_faultOf_106 : decode cX5_faultOf 106 = .ok (.aload_n 0, 1) := by decide +kernel
theorem dX5_faultOf_107 : decode cX5_faultOf 107 = .ok (.getfield 16, 3) := by decide +kernel
theorem dX5_faultOf_110 : decode cX5_faultOf 110 = .ok (.iload_n 1, 1) := by decide +kernel
theorem dX5_faultOf_111 : decode cX5_faultOf 111 = .ok (.iaload, 1) := by decide +kernel
theorem dX5_faultOf_112 : decode cX5_faultOf 112 = .ok (.invokestatic 74, 3) := by decide +kernel
theorem dX5_faultOf_115 : decode cX5_faultOf 115 = .ok (.ifCond .eq 37, 3) := by decide +kernel
theorem dX5_faultOf_118 : decode cX5_faultOf 118 = .ok (.aload_n 0, 1) := by decide +kernel
theorem dX5_faultOf_119 : decode cX5_faultOf 119 = .ok (.getfield 19, 3) := by decide +kernel
theorem dX5_faultOf_122 : decode cX5_faultOf 122 = .ok (.iload_n 2, 1) := by decide +kernel
theorem dX5_faultOf_123 : decode cX5_faultOf 123 = .ok (.bipush 10, 2) := by decide +kernel
theorem dX5_faultOf_125 : decode cX5_faultOf 125 = .ok (.aload_n 0, 1) := by decide +kernel
theorem dX5_faultOf_126 : decode cX5_faultOf 126 = .ok (.getfield 19, 3) := by decide +kernel
theorem dX5_faultOf_129 : decode cX5_faultOf 129 = .ok (.iload_n 2, 1) := by decide +kernel
theorem dX5_faultOf_130 : decode cX5_faultOf 130 = .ok (.iaload, 1) := by decide +kernel
theorem dX5_faultOf_131 : decode cX5_faultOf 131 = .ok (.imul, 1) := by decide +kernel
theorem dX5_faultOf_132 : decode cX5_faultOf 132 = .ok (.aload_n 0, 1) := by decide +kernel
theorem dX5_faultOf_133 : decode cX5_faultOf 133 = .ok (.getfield 16, 3) := by decide +kernel
theorem dX5_faultOf_136 : decode cX5_faultOf 136 = .ok (.iload_n 1, 1) := by decide +kernel
theorem dX5_faultOf_137 : decode cX5_faultOf 137 = .ok (.iaload, 1) := by decide +kernel
theorem dX5_faultOf_138 : decode cX5_faultOf 138 = .ok (.iadd, 1) := by decide +kernel
theorem dX5_faultOf_139 : decode cX5_faultOf 139 = .ok (.bipush 48, 2) := by decide +kernel
theorem dX5_faultOf_141 : decode cX5_faultOf 141 = .ok (.isub, 1) := by decide +kernel
theorem dX5_faultOf_142 : decode cX5_faultOf 142 = .ok (.iastore, 1) := by decide +kernel
theorem dX5_faultOf_143 : decode cX5_faultOf 143 = .ok (.iinc 1 1, 3) := by decide +kernel
theorem dX5_faultOf_146 : decode cX5_faultOf 146 = .ok (.iinc 3 1, 3) := by decide +kernel
theorem dX5_faultOf_149 : decode cX5_faultOf 149 = .ok (.goto (-56), 3) := by decide +kernel
theorem dX5_faultOf_152 : decode cX5_faultOf 152 = .ok (.iload_n 2, 1) := by decide +kernel
theorem dX5_faultOf_153 : decode cX5_faultOf 153 = .ok (.iconst 3, 1) := by decide +kernel
theorem dX5_faultOf_154 : decode cX5_faultOf 154 = .ok (.if_icmp .ge 37, 3) := by decide +kernel
theorem dX5_faultOf_157 : decode cX5_faultOf 157 = .ok (.iload_n 1, 1) := by decide +kernel
theorem dX5_faultOf_158 : decode cX5_faultOf 158 = .ok (.aload_n 0, 1) := by decide +kernel
theorem dX5_faultOf_159 : decode cX5_faultOf 159 = .ok (.getfield 70, 3) := by decide +kernel
theorem dX5_faultOf_162 : decode cX5_faultOf 162 = .ok (.if_icmp .eq 24, 3) := by decide +kernel
theorem dX5_faultOf_165 : decode cX5_faultOf 165 = .ok (.aload_n 0, 1) := by decide +kernel
theorem dX5_faultOf_166 : decode cX5_faultOf 166 = .ok (.getfield 16, 3) := by decide +kernel
theorem dX5_faultOf_169 : decode cX5_faultOf 169 = .ok (.iload_n 1, 1) := by decide +kernel
theorem dX5_faultOf_170 : decode cX5_faultOf 170 = .ok (.iaload, 1) := by decide +kernel
theorem dX5_faultOf_171 : decode cX5_faultOf 171 = .ok (.iload_n 2, 1) := by decide +kernel
theorem dX5_faultOf_172 : decode cX5_faultOf 172 = .ok (.iconst 1, 1) := by decide +kernel
theorem dX5_faultOf_173 : decode cX5_faultOf 173 = .ok (.if_icmp .ne 8, 3) := by decide +kernel
theorem dX5_faultOf_176 : decode cX5_faultOf 176 = .ok (.bipush 44, 2) := by decide +kernel
theorem dX5_faultOf_178 : decode cX5_faultOf 178 = .ok (.goto 5, 3) := by decide +kernel
theorem dX5_faultOf_181 : decode cX5_faultOf 181 = .ok (.bipush 45, 2) := by decide +kernel
theorem dX5_faultOf_183 : decode cX5_faultOf 183 = .ok (.if_icmp .eq 5, 3) := by decide +kernel
theorem dX5_faultOf_186 : decode cX5_faultOf 186 = .ok (.iload_n 1, 1) := by decide +kernel
theorem dX5_faultOf_187 : decode cX5_faultOf 187 = .ok (.ireturn, 1) := by decide +kernel
theorem dX5_faultOf_188 : decode cX5_faultOf 188 = .ok (.iinc 1 1, 3) := by decide +kernel
theorem dX5_faultOf_191 : decode cX5_faultOf 191 = .ok (.iinc 2 1, 3) := by decide +kernel
theorem dX5_faultOf_194 : decode cX5_faultOf 194 = .ok (.goto (-137), 3) := by decide +kernel
theorem dX5_faultOf_197 : decode cX5_faultOf 197 = .ok (.iload_n 1, 1) := by decide +kernel
theorem dX5_faultOf_198 : decode cX5_faultOf 198 = .ok (.aload_n 0, 1) := by decide +kernel
theorem dX5_faultOf_199 : decode cX5_faultOf 199 = .ok (.getfield 70, 3) := by decide +kernel
theorem dX5_faultOf_202 : decode cX5_faultOf 202 = .ok (.if_icmp .ge 7, 3) := by decide +kernel
theorem dX5_faultOf_205 : decode cX5_faultOf 205 = .ok (.iload_n 1, 1) := by decide +kernel
theorem dX5_faultOf_206 : decode cX5_faultOf 206 = .ok (.goto 27, 3) := by decide +kernel
theorem dX5_faultOf_209 : decode cX5_faultOf 209 = .ok (.aload_n 0, 1) := by decide +kernel
theorem dX5_faultOf_210 : decode cX5_faultOf 210 = .ok (.getfield 19, 3) := by decide +kernel
theorem dX5_faultOf_213 : decode cX5_faultOf 213 = .ok (.iconst 2, 1) := by decide +kernel
theorem dX5_faultOf_214 : decode cX5_faultOf 214 = .ok (.iaload, 1) := by decide +kernel
theorem dX5_faultOf_215 : decode cX5_faultOf 215 = .ok (.aload_n 0, 1) := by decide +kernel
theorem dX5_faultOf_216 : decode cX5_faultOf 216 = .ok (.getfield 19, 3) := by decide +kernel
theorem dX5_faultOf_219 : decode cX5_faultOf 219 = .ok (.iconst 3, 1) := by decide +kernel
theorem dX5_faultOf_220 : decode cX5_faultOf 220 = .ok (.iaload, 1) := by decide +kernel
theorem dX5_faultOf_221 : decode cX5_faultOf 221 = .ok (.if_icmp .lt 10, 3) := by decide +kernel
theorem dX5_faultOf_224 : decode cX5_faultOf 224 = .ok (.aload_n 0, 1) := by decide +kernel
theorem dX5_faultOf_225 : decode cX5_faultOf 225 = .ok (.getfield 70, 3) := by decide +kernel
theorem dX5_faultOf_228 : decode cX5_faultOf 228 = .ok (.goto 5, 3) := by decide +kernel
theorem dX5_faultOf_231 : decode cX5_faultOf 231 = .ok (.bipush (-6), 2) := by decide +kernel
theorem dX5_faultOf_233 : decode cX5_faultOf 233 = .ok (.ireturn, 1) := by decide +kernel
set_option maxRecDepth 20000 in
theorem ggX5_fault_X5_faultOf : GoodIn wsX5_fault wsX5_faultOf := goodIn_r _ [5, 6, 7, 8, 9, 10, 4, 11, 12, 13, 14, 15, 16, 17, 18, 19, 20, 21, 22, 23, 24, 25, 26, 27, 28, 29, 30, 31, 32, 33, 34, 35, 36, 37] (by decide +kernel) (by decide +kernel)
set_option maxRecDepth 20000 in
theorem gX5_fault_X5_faultOf : GoodIn wsX5_fault (wsV RX5 78 RX5 yX5_faultOf wsX5_faultOf) := goodIn_app (goodIn_of _ (by decide +kernel)) ggX5_fault_X5_faultOf
theorem dX5_fault_0 : decode cX5_fault 0 = .ok (.aload_n 0, 1) := by decide +kernel
theorem dX5_fault_1 : decode cX5_fault 1 = .ok (.invokevirtual 78, 3) := by decide +kernel
theorem dX5_fault_4 : decode cX5_fault 4 = .ok (.ireturn, 1) := by decide +kernel
set_option maxRecDepth 20000 in
theorem ggX5_edge_X5_faultOf : GoodIn wsX5_edge wsX5_faultOf := goodIn_r _ [9, 4, 10, 3, 11, 12, 8, 13, 14, 15, 16, 17, 18, 19, 20, 21, 22, 23, 24, 25, 26, 27, 28, 29, 30, 31, 32, 33, 34, 35, 36, 37, 38, 39] (by decide +kernel) (by decide +kernel)
set_option maxRecDepth 20000 in
theorem gX5_edge_X5_faultOf : GoodIn wsX5_edge (wsV RX5 78 RX5 yX5_faultOf wsX5_faultOf) := goodIn_app (goodIn_of _ (by decide +kernel)) ggX5_edge_X5_faultOf
theorem dX5_edge_0 : decode cX5_edge 0 = .ok (.aload_n 0, 1) := by decide +kernel
theorem dX5_edge_1 : decode cX5_edge 1 = .ok (.invokevirtual 78, 3) := by decide +kernel
theorem dX5_edge_4 : decode cX5_edge 4 = .ok (.ifCond .lt 6, 3) := by decide +kernel
theorem dX5_edge_7 : decode cX5_edge 7 = .ok (.bipush (-5), 2) := by decide +kernel
theorem dX5_edge_9 : decode cX5_edge 9 = .ok (.ireturn, 1) := by decide +kernel
theorem dX5_edge_10 : decode cX5_edge 10 = .ok (.aload_n 0, 1) := by decide +kernel
theorem dX5_edge_11 : decode cX5_edge 11 = .ok (.getfield 82, 3) := by decide +kernel
theorem dX5_edge_14 : decode cX5_edge 14 = .ok (.bipush 16, 2) := by decide +kernel
theorem dX5_edge_16 : decode cX5_edge 16 = .ok (.if_icmp .ne 6, 3) := by decide +kernel
theorem dX5_edge_19 : decode cX5_edge 19 = .ok (.bipush (-4), 2) := by decide +kernel
theorem dX5_edge_21 : decode cX5_edge 21 = .ok (.ireturn, 1) := by decide +kernel
theorem dX5_edge_22 : decode cX5_edge 22 = .ok (.iconst 0, 1) := by decide +kernel
theorem dX5_edge_23 : decode cX5_edge 23 = .ok (.istore_n 1, 1) := by decide +kernel
theorem dX5_edge_24 : decode cX5_edge 24 = .ok (.iload_n 1, 1) := by decide +kernel
theorem dX5_edge_25 : decode cX5_edge 25 = .ok (.iconst 4, 1) := by decide +kernel
theorem dX5_edge_26 : decode cX5_edge 26 = .ok (.if_icmp .ge 28, 3) := by decide +kernel
theorem dX5_edge_29 : decode cX5_edge 29 = .ok (.aload_n 0, 1) := by decide +kernel
theorem dX5_edge_30 : decode cX5_edge 30 = .ok (.getfield 7, 3) := by decide +kernel
theorem dX5_edge_33 : decode cX5_edge 33 = .ok (.iconst 4, 1) := by decide +kernel
theorem dX5_edge_34 : decode cX5_edge 34 = .ok (.aload_n 0, 1) := by decide +kernel
theorem dX5_edge_35 : decode cX5_edge 35 = .ok (.getfield 82, 3) := by decide +kernel
theorem dX5_edge_38 : decode cX5_edge 38 = .ok (.imul, 1) := by decide +kernel
theorem dX5_edge_39 : decode cX5_edge 39 = .ok (.iload_n 1, 1) := by decide +kernel
theorem dX5_edge_40 : decode cX5_edge 40 = .ok (.iadd, 1) := by decide +kernel
theorem dX5_edge_41 : decode cX5_edge 41 = .ok (.aload_n 0, 1) := by decide +kernel
theorem dX5_edge_42 : decode cX5_edge 42 = .ok (.getfield 19, 3) := by decide +kernel
theorem dX5_edge_45 : decode cX5_edge 45 = .ok (.iload_n 1, 1) := by decide +kernel
theorem dX5_edge_46 : decode cX5_edge 46 = .ok (.iaload, 1) := by decide +kernel
theorem dX5_edge_47 : decode cX5_edge 47 = .ok (.iastore, 1) := by decide +kernel
theorem dX5_edge_48 : decode cX5_edge 48 = .ok (.iinc 1 1, 3) := by decide +kernel
theorem dX5_edge_51 : decode cX5_edge 51 = .ok (.goto (-27), 3) := by decide +kernel
theorem dX5_edge_54 : decode cX5_edge 54 = .ok (.aload_n 0, 1) := by decide +kernel
theorem dX5_edge_55 : decode cX5_edge 55 = .ok (.dup, 1) := by decide +kernel
theorem dX5_edge_56 : decode cX5_edge 56 = .ok (.getfield 82, 3) := by decide +kernel
theorem dX5_edge_59 : decode cX5_edge 59 = .ok (.iconst 1, 1) := by decide +kernel
theorem dX5_edge_60 : decode cX5_edge 60 = .ok (.iadd, 1) := by decide +kernel
theorem dX5_edge_61 : decode cX5_edge 61 = .ok (.putfield 82, 3) := by decide +kernel
theorem dX5_edge_64 : decode cX5_edge 64 = .ok (.aload_n 0, 1) := by decide +kernel
theorem dX5_edge_65 : decode cX5_edge 65 = .ok (.iconst 0, 1) := by decide +kernel
theorem dX5_edge_66 : decode cX5_edge 66 = .ok (.putfield 70, 3) := by decide +kernel
theorem dX5_edge_69 : decode cX5_edge 69 = .ok (.aload_n 0, 1) := by decide +kernel
theorem dX5_edge_70 : decode cX5_edge 70 = .ok (.getfield 82, 3) := by decide +kernel
theorem dX5_edge_73 : decode cX5_edge 73 = .ok (.ireturn, 1) := by decide +kernel
set_option maxRecDepth 20000 in
theorem ggX5_erase_X5_in : GoodIn wsX5_erase wsX5_in := goodIn_r _ [6] (by decide +kernel) (by decide +kernel)
set_option maxRecDepth 20000 in
theorem gX5_erase_X5_in : GoodIn wsX5_erase (va_wsS RX5 66 yX5_in wsX5_in) := goodIn_app (goodIn_of _ (by decide +kernel)) ggX5_erase_X5_in
theorem dX5_erase_0 : decode cX5_erase 0 = .ok (.iload_n 1, 1) := by decide +kernel
theorem dX5_erase_1 : decode cX5_erase 1 = .ok (.iconst 0, 1) := by decide +kernel
theorem dX5_erase_2 : decode cX5_erase 2 = .ok (.aload_n 0, 1) := by decide +kernel
theorem dX5_erase_3 : decode cX5_erase 3 = .ok (.getfield 82, 3) := by decide +kernel
theorem dX5_erase_6 : decode cX5_erase 6 = .ok (.iconst 1, 1) := by decide +kernel
theorem dX5_erase_7 : decode cX5_erase 7 = .ok (.isub, 1) := by decide +kernel
theorem dX5_erase_8 : decode cX5_erase 8 = .ok (.invokestatic 66, 3) := by decide +kernel
theorem dX5_erase_11 : decode cX5_erase 11 = .ok (.ifCond .ne 5, 3) := by decide +kernel
theorem dX5_erase_14 : decode cX5_erase 14 = .ok (.iconst (-1), 1) := by decide +kernel
theorem dX5_erase_15 : decode cX5_erase 15 = .ok (.ireturn, 1) := by decide +kernel
theorem dX5_erase_16 : decode cX5_erase 16 = .ok (.aload_n 0, 1) := by decide +kernel
theorem dX5_erase_17 : decode cX5_erase 17 = .ok (.dup, 1) := by decide +kernel
theorem dX5_erase_18 : decode cX5_erase 18 = .ok (.getfield 82, 3) := by decide +kernel
theorem dX5_erase_21 : decode cX5_erase 21 = .ok (.iconst 1, 1) := by decide +kernel
theorem dX5_erase_22 : decode cX5_erase 22 = .ok (.isub, 1) := by decide +kernel
theorem dX5_erase_23 : decode cX5_erase 23 = .ok (.putfield 82, 3) := by decide +kernel
theorem dX5_erase_26 : decode cX5_erase 26 = .ok (.iconst 4, 1) := by decide +kernel
theorem dX5_erase_27 : decode cX5_erase 27 = .ok (.iload_n 1, 1) := by decide +kernel
theorem dX5_erase_28 : decode cX5_erase 28 = .ok (.imul, 1) := by decide +kernel
theorem dX5_erase_29 : decode cX5_erase 29 = .ok (.istore_n 2, 1) := by decide +kernel
theorem dX5_erase_30 : decode cX5_erase 30 = .ok (.iload_n 2, 1) := by decide +kernel
theorem dX5_erase_31 : decode cX5_erase 31 = .ok (.iconst 4, 1) := by decide +kernel
theorem dX5_erase_32 : decode cX5_erase 32 = .ok (.aload_n 0, 1) := by decide +kernel
theorem dX5_erase_33 : decode cX5_erase 33 = .ok (.getfield 82, 3) := by decide +kernel
theorem dX5_erase_36 : decode cX5_erase 36 = .ok (.imul, 1) := by decide +kernel
theorem dX5_erase_37 : decode cX5_erase 37 = .ok (.if_icmp .ge 23, 3) := by decide +kernel
theorem dX5_erase_40 : decode cX5_erase 40 = .ok (.aload_n 0, 1) := by decide +kernel
theorem dX5_erase_41 : decode cX5_erase 41 = .ok (.getfield 7, 3) := by decide +kernel
theorem dX5_erase_44 : decode cX5_erase 44 = .ok (.iload_n 2, 1) := by decide +kernel
theorem dX5_erase_45 : decode cX5_erase 45 = .ok (.aload_n 0, 1) := by decide +kernel
theorem dX5_erase_46 : decode cX5_erase 46 = .ok (.getfield 7, 3) := by decide +kernel
theorem dX5_erase_49 : decode cX5_erase 49 = .ok (.iload_n 2, 1) := by decide +kernel
theorem dX5_erase_50 : decode cX5_erase 50 = .ok (.iconst 4, 1) := by decide +kernel
theorem dX5_erase_51 : decode cX5_erase 51 = .ok (.iadd, 1) := by decide +kernel
theorem dX5_erase_52 : decode cX5_erase 52 = .ok (.iaload, 1) := by decide +kernel
theorem dX5_erase_53 : decode cX5_erase 53 = .ok (.iastore, 1) := by decide +kernel
theorem dX5_erase_54 : decode cX5_erase 54 = .ok (.iinc 2 1, 3) := by decide +kernel
theorem dX5_erase_57 : decode cX5_erase 57 = .ok (.goto (-27), 3) := by decide +kernel
theorem dX5_erase_60 : decode cX5_erase 60 = .ok (.aload_n 0, 1) := by decide +kernel
theorem dX5_erase_61 : decode cX5_erase 61 = .ok (.getfield 82, 3) := by decide +kernel
theorem dX5_erase_64 : decode cX5_erase 64 = .ok (.ireturn, 1) := by decide +kernel
set_option maxRecDepth 20000 in
theorem ggX5_rule_X5_in : GoodIn wsX5_rule wsX5_in := goodIn_r _ [5] (by decide +kernel) (by decide +kernel)
set_option maxRecDepth 20000 in
theorem gX5_rule_X5_in : GoodIn wsX5_rule (va_wsS RX5 66 yX5_in wsX5_in) := goodIn_app (goodIn_of _ (by decide +kernel)) ggX5_rule_X5_in
theorem dX5_rule_0 : decode cX5_rule 0 = .ok (.iload_n 1, 1) := by decide +kernel
theorem dX5_rule_1 : decode cX5_rule 1 = .ok (.iconst 0, 1) := by decide +kernel
theorem dX5_rule_2 : decode cX5_rule 2 = .ok (.iconst 4, 1) := by decide +kernel
theorem dX5_rule_3 : decode cX5_rule 3 = .ok (.invokestatic 66, 3) := by decide +kernel
theorem dX5_rule_6 : decode cX5_rule 6 = .ok (.ifCond .eq 31, 3) := by decide +kernel
theorem dX5_rule_9 : decode cX5_rule 9 = .ok (.iload_n 2, 1) := by decide +kernel
theorem dX5_rule_10 : decode cX5_rule 10 = .ok (.iconst 0, 1) := by decide +kernel
theorem dX5_rule_11 : decode cX5_rule 11 = .ok (.iload_n 1, 1) := by decide +kernel
theorem dX5_rule_12 : decode cX5_rule 12 = .ok (.ifCond .ne 8, 3) := by decide +kernel
theorem dX5_rule_15 : decode cX5_rule 15 = .ok (.bipush 99, 2) := by decide +kernel
theorem dX5_rule_17 : decode cX5_rule 17 = .ok (.goto 14, 3) := by decide +kernel
theorem dX5_rule_20 : decode cX5_rule 20 = .ok (.iload_n 1, 1) := by decide +kernel
theorem dX5_rule_21 : decode cX5_rule 21 = .ok (.iconst 3, 1) := by decide +kernel
theorem dX5_rule_22 : decode cX5_rule 22 = .ok (.if_icmp .ge 8, 3) := by decide +kernel
theorem dX5_rule_25 : decode cX5_rule 25 = .ok (.bipush 9, 2) := by decide +kernel
theorem dX5_rule_27 : decode cX5_rule 27 = .ok (.goto 4, 3) := by decide +kernel
theorem dX5_rule_30 : decode cX5_rule 30 = .ok (.iconst 3, 1) := by decide +kernel
theorem dX5_rule_31 : decode cX5_rule 31 = .ok (.invokestatic 66, 3) := by decide +kernel
theorem dX5_rule_34 : decode cX5_rule 34 = .ok (.ifCond .ne 6, 3) := by decide +kernel
theorem dX5_rule_37 : decode cX5_rule 37 = .ok (.bipush (-2), 2) := by decide +kernel
theorem dX5_rule_39 : decode cX5_rule 39 = .ok (.ireturn, 1) := by decide +kernel
theorem dX5_rule_40 : decode cX5_rule 40 = .ok (.aload_n 0, 1) := by decide +kernel
theorem dX5_rule_41 : decode cX5_rule 41 = .ok (.getfield 13, 3) := by decide +kernel
theorem dX5_rule_44 : decode cX5_rule 44 = .ok (.iload_n 1, 1) := by decide +kernel
theorem dX5_rule_45 : decode cX5_rule 45 = .ok (.iaload, 1) := by decide +kernel
theorem dX5_rule_46 : decode cX5_rule 46 = .ok (.istore_n 3, 1) := by decide +kernel
theorem dX5_rule_47 : decode cX5_rule 47 = .ok (.aload_n 0, 1) := by decide +kernel
theorem dX5_rule_48 : decode cX5_rule 48 = .ok (.getfield 13, 3) := by decide +kernel
theorem dX5_rule_51 : decode cX5_rule 51 = .ok (.iload_n 1, 1) := by decide +kernel
theorem dX5_rule_52 : decode cX5_rule 52 = .ok (.iload_n 2, 1) := by decide +kernel
theorem dX5_rule_53 : decode cX5_rule 53 = .ok (.iastore, 1) := by decide +kernel
theorem dX5_rule_54 : decode cX5_rule 54 = .ok (.iload_n 3, 1) := by decide +kernel
theorem dX5_rule_55 : decode cX5_rule 55 = .ok (.ireturn, 1) := by decide +kernel
theorem dX5_x_0 : decode cX5_x 0 = .ok (.aload_n 0, 1) := by decide +kernel
theorem dX5_x_1 : decode cX5_x 1 = .ok (.getfield 7, 3) := by decide +kernel
theorem dX5_x_4 : decode cX5_x 4 = .ok (.iconst 4, 1) := by decide +kernel
theorem dX5_x_5 : decode cX5_x 5 = .ok (.iload_n 1, 1) := by decide +kernel
theorem dX5_x_6 : decode cX5_x 6 = .ok (.imul, 1) := by decide +kernel
theorem dX5_x_7 : decode cX5_x 7 = .ok (.iconst 1, 1) := by decide +kernel
theorem dX5_x_8 : decode cX5_x 8 = .ok (.iadd, 1) := by decide +kernel
theorem dX5_x_9 : decode cX5_x 9 = .ok (.iaload, 1) := by decide +kernel
theorem dX5_x_10 : decode cX5_x 10 = .ok (.ireturn, 1) := by decide +kernel
set_option maxRecDepth 20000 in
theorem ggX5_canBe_X5_x : GoodIn wsX5_canBe wsX5_x := goodIn_r _ [6, 1, 7, 8, 9, 10, 11, 12, 13, 14, 15, 16, 17, 18, 19, 20, 21, 22, 23, 24, 25, 26, 27, 28, 29] (by decide +kernel) (by decide +kernel)
set_option maxRecDepth 20000 in
theorem gX5_canBe_X5_x : GoodIn wsX5_canBe (wsV RX5 85 RX5 yX5_x wsX5_x) := goodIn_app (goodIn_of _ (by decide +kernel)) ggX5_canBe_X5_x
theorem dX5_canBe_0 : decode cX5_canBe 0 = .ok (.aload_n 0, 1) := by decide +kernel
theorem dX5_canBe_1 : decode cX5_canBe 1 = .ok (.getfield 7, 3) := by decide +kernel
theorem dX5_canBe_4 : decode cX5_canBe 4 = .ok (.iconst 4, 1) := by decide +kernel
theorem dX5_canBe_5 : decode cX5_canBe 5 = .ok (.iload_n 1, 1) := by decide +kernel
theorem dX5_canBe_6 : decode cX5_canBe 6 = .ok (.imul, 1) := by decide +kernel
theorem dX5_canBe_7 : decode cX5_canBe 7 = .ok (.iaload, 1) := by decide +kernel
theorem dX5_canBe_8 : decode cX5_canBe 8 = .ok (.iconst 1, 1) := by decide +kernel
theorem dX5_canBe_9 : decode cX5_canBe 9 = .ok (.if_icmp .ne 48, 3) := by decide +kernel
theorem dX5_canBe_12 : decode cX5_canBe 12 = .ok (.aload_n 0, 1) := by decide +kernel
theorem dX5_canBe_13 : decode cX5_canBe 13 = .ok (.getfield 7, 3) := by decide +kernel
theorem dX5_canBe_16 : decode cX5_canBe 16 = .ok (.iconst 4, 1) := by decide +kernel
theorem dX5_canBe_17 : decode cX5_canBe 17 = .ok (.iload_n 2, 1) := by decide +kernel
theorem dX5_canBe_18 : decode cX5_canBe 18 = .ok (.imul, 1) := by decide +kernel
theorem dX5_canBe_19 : decode cX5_canBe 19 = .ok (.iaload, 1) := by decide +kernel
theorem dX5_canBe_20 : decode cX5_canBe 20 = .ok (.ifCond .ne 37, 3) := by decide +kernel
theorem dX5_canBe_23 : decode cX5_canBe 23 = .ok (.aload_n 0, 1) := by decide +kernel
theorem dX5_canBe_24 : decode cX5_canBe 24 = .ok (.iload_n 1, 1) := by decide +kernel
theorem dX5_canBe_25 : decode cX5_canBe 25 = .ok (.invokevirtual 85, 3) := by decide +kernel
theorem dX5_canBe_28 : decode cX5_canBe 28 = .ok (.aload_n 0, 1) := by decide +kernel
theorem dX5_canBe_29 : decode cX5_canBe 29 = .ok (.iload_n 2, 1) := by decide +kernel
theorem dX5_canBe_30 : decode cX5_canBe 30 = .ok (.invokevirtual 85, 3) := by decide +kernel
theorem dX5_canBe_33 : decode cX5_canBe 33 = .ok (.if_icmp .ge 24, 3) := by decide +kernel
theorem dX5_canBe_36 : decode cX5_canBe 36 = .ok (.aload_n 0, 1) := by decide +kernel
theorem dX5_canBe_37 : decode cX5_canBe 37 = .ok (.iload_n 2, 1) := by decide +kernel
theorem dX5_canBe_38 : decode cX5_canBe 38 = .ok (.invokevirtual 85, 3) := by decide +kernel
theorem dX5_canBe_41 : decode cX5_canBe 41 = .ok (.aload_n 0, 1) := by decide +kernel
theorem dX5_canBe_42 : decode cX5_canBe 42 = .ok (.iload_n 1, 1) := by decide +kernel
theorem dX5_canBe_43 : decode cX5_canBe 43 = .ok (.invokevirtual 85, 3) := by decide +kernel
theorem dX5_canBe_46 : decode cX5_canBe 46 = .ok (.isub, 1) := by decide +kernel
theorem dX5_canBe_47 : decode cX5_canBe 47 = .ok (.sipush 300, 3) := by decide +kernel
theorem dX5_canBe_50 : decode cX5_canBe 50 = .ok (.if_icmp .gt 7, 3) := by decide +kernel
theorem dX5_canBe_53 : decode cX5_canBe 53 = .ok (.iconst 1, 1) := by decide +kernel
theorem dX5_canBe_54 : decode cX5_canBe 54 = .ok (.goto 4, 3) := by decide +kernel
theorem dX5_canBe_57 : decode cX5_canBe 57 = .ok (.iconst 0, 1) := by decide +kernel
theorem dX5_canBe_58 : decode cX5_canBe 58 = .ok (.istore_n 3, 1) := by decide +kernel
theorem dX5_canBe_59 : decode cX5_canBe 59 = .ok (.aload_n 0, 1) := by decide +kernel
theorem dX5_canBe_60 : decode cX5_canBe 60 = .ok (.getfield 7, 3) := by decide +kernel
theorem dX5_canBe_63 : decode cX5_canBe 63 = .ok (.iconst 4, 1) := by decide +kernel
theorem dX5_canBe_64 : decode cX5_canBe 64 = .ok (.iload_n 1, 1) := by decide +kernel
theorem dX5_canBe_65 : decode cX5_canBe 65 = .ok (.imul, 1) := by decide +kernel
theorem dX5_canBe_66 : decode cX5_canBe 66 = .ok (.iconst 2, 1) := by decide +kernel
theorem dX5_canBe_67 : decode cX5_canBe 67 = .ok (.iadd, 1) := by decide +kernel
theorem dX5_canBe_68 : decode cX5_canBe 68 = .ok (.iaload, 1) := by decide +kernel
theorem dX5_canBe_69 : decode cX5_canBe 69 = .ok (.aload_n 0, 1) := by decide +kernel
theorem dX5_canBe_70 : decode cX5_canBe 70 = .ok (.getfield 7, 3) := by decide +kernel
theorem dX5_canBe_73 : decode cX5_canBe 73 = .ok (.iconst 4, 1) := by decide +kernel
theorem dX5_canBe_74 : decode cX5_canBe 74 = .ok (.iload_n 2, 1) := by decide +kernel
theorem dX5_canBe_75 : decode cX5_canBe 75 = .ok (.imul, 1) := by decide +kernel
theorem dX5_canBe_76 : decode cX5_canBe 76 = .ok (.iconst 2, 1) := by decide +kernel
theorem dX5_canBe_77 : decode cX5_canBe 77 = .ok (.iadd, 1) := by decide +kernel
theorem dX5_canBe_78 : decode cX5_canBe 78 = .ok (.iaload, 1) := by decide +kernel
theorem dX5_canBe_79 : decode cX5_canBe 79 = .ok (.if_icmp .le 16, 3) := by decide +kernel
theorem dX5_canBe_82 : decode cX5_canBe 82 = .ok (.aload_n 0, 1) := by decide +kernel
theorem dX5_canBe_83 : decode cX5_canBe 83 = .ok (.getfield 7, 3) := by decide +kernel
theorem dX5_canBe_86 : decode cX5_canBe 86 = .ok (.iconst 4, 1) := by decide +kernel
theorem dX5_canBe_87 : decode cX5_canBe 87 = .ok (.iload_n 1, 1) := by decide +kernel
theorem dX5_canBe_88 : decode cX5_canBe 88 = .ok (.imul, 1) := by decide +kernel
theorem dX5_canBe_89 : decode cX5_canBe 89 = .ok (.iconst 2, 1) := by decide +kernel
theorem dX5_canBe_90 : decode cX5_canBe 90 = .ok (.iadd, 1) := by decide +kernel
theorem dX5_canBe_91 : decode cX5_canBe 91 = .ok (.iaload, 1) := by decide +kernel
theorem dX5_canBe_92 : decode cX5_canBe 92 = .ok (.goto 13, 3) := by decide +kernel
theorem dX5_canBe_95 : decode cX5_canBe 95 = .ok (.aload_n 0, 1) := by decide +kernel
theorem dX5_canBe_96 : decode cX5_canBe 96 = .ok (.getfield 7, 3) := by decide +kernel
theorem dX5_canBe_99 : decode cX5_canBe 99 = .ok (.iconst 4, 1) := by decide +kernel
theorem dX5_canBe_100 : decode cX5_canBe 100 = .ok (.iload_n 2, 1) := by decide +kernel
theorem dX5_canBe_101 : decode cX5_canBe 101 = .ok (.imul, 1) := by decide +kernel
theorem dX5_canBe_102 : decode cX5_canBe 102 = .ok (.iconst 2, 1) := by decide +kernel
theorem dX5_canBe_103 : decode cX5_canBe 103 = .ok (.iadd, 1) := by decide +kernel
theorem dX5_canBe_104 : decode cX5_canBe 104 = .ok (.iaload, 1) := by decide +kernel
theorem dX5_canBe_105 : decode cX5_canBe 105 = .ok (.istore 4, 2) := by decide +kernel
theorem dX5_canBe_107 : decode cX5_canBe 107 = .ok (.aload_n 0, 1) := by decide +kernel
theorem dX5_canBe_108 : decode cX5_canBe 108 = .ok (.getfield 7, 3) := by decide +kernel
theorem dX5_canBe_111 : decode cX5_canBe 111 = .ok (.iconst 4, 1) := by decide +kernel
theorem dX5_canBe_112 : decode cX5_canBe 112 = .ok (.iload_n 1, 1) := by decide +kernel
theorem dX5_canBe_113 : decode cX5_canBe 113 = .ok (.imul, 1) := by decide +kernel
theorem dX5_canBe_114 : decode cX5_canBe 114 = .ok (.iconst 3, 1) := by decide +kernel
theorem dX5_canBe_115 : decode cX5_canBe 115 = .ok (.iadd, 1) := by decide +kernel
theorem dX5_canBe_116 : decode cX5_canBe 116 = .ok (.iaload, 1) := by decide +kernel
theorem dX5_canBe_117 : decode cX5_canBe 117 = .ok (.aload_n 0, 1) := by decide +kernel
theorem dX5_canBe_118 : decode cX5_canBe 118 = .ok (.getfield 7, 3) := by decide +kernel
theorem dX5_canBe_121 : decode cX5_canBe 121 = .ok (.iconst 4, 1) := by decide +kernel
theorem dX5_canBe_122 : decode cX5_canBe 122 = .ok (.iload_n 2, 1) := by decide +kernel
theorem dX5_canBe_123 : decode cX5_canBe 123 = .ok (.imul, 1) := by decide +kernel
theorem dX5_canBe_124 : decode cX5_canBe 124 = .ok (.iconst 3, 1) := by decide +kernel
theorem dX5_canBe_125 : decode cX5_canBe 125 = .ok (.iadd, 1) := by decide +kernel
theorem dX5_canBe_126 : decode cX5_canBe 126 = .ok (.iaload, 1) := by decide +kernel
theorem dX5_canBe_127 : decode cX5_canBe 127 = .ok (.if_icmp .ge 16, 3) := by decide +kernel
theorem dX5_canBe_130 : decode cX5_canBe 130 = .ok (.aload_n 0, 1) := by decide +kernel
theorem dX5_canBe_131 : decode cX5_canBe 131 = .ok (.getfield 7, 3) := by decide +kernel
theorem dX5_canBe_134 : decode cX5_canBe 134 = .ok (.iconst 4, 1) := by decide +kernel
theorem dX5_canBe_135 : decode cX5_canBe 135 = .ok (.iload_n 1, 1) := by decide +kernel
theorem dX5_canBe_136 : decode cX5_canBe 136 = .ok (.imul, 1) := by decide +kernel
theorem dX5_canBe_137 : decode cX5_canBe 137 = .ok (.iconst 3, 1) := by decide +kernel
theorem dX5_canBe_138 : decode cX5_canBe 138 = .ok (.iadd, 1) := by decide +kernel
theorem dX5_canBe_139 : decode cX5_canBe 139 = .ok (.iaload, 1) := by decide +kernel
theorem dX5_canBe_140 : decode cX5_canBe 140 = .ok (.goto 13, 3) := by decide +kernel
theorem dX5_canBe_143 : decode cX5_canBe 143 = .ok (.aload_n 0, 1) := by decide +kernel
theorem dX5_canBe_144 : decode cX5_canBe 144 = .ok (.getfield 7, 3) := by decide +kernel
theorem dX5_canBe_147 : decode cX5_canBe 147 = .ok (.iconst 4, 1) := by decide +kernel
theorem dX5_canBe_148 : decode cX5_canBe 148 = .ok (.iload_n 2, 1) := by decide +kernel
theorem dX5_canBe_149 : decode cX5_canBe 149 = .ok (.imul, 1) := by decide +kernel
theorem dX5_canBe_150 : decode cX5_canBe 150 = .ok (.iconst 3, 1) := by decide +kernel
theorem dX5_canBe_151 : decode cX5_canBe 151 = .ok (.iadd, 1) := by decide +kernel
theorem dX5_canBe_152 : decode cX5_canBe 152 = .ok (.iaload, 1) := by decide +kernel
theorem dX5_canBe_153 : decode cX5_canBe 153 = .ok (.istore 5, 2) := by decide +kernel
theorem dX5_canBe_155 : decode cX5_canBe 155 = .ok (.iload_n 3, 1) := by decide +kernel
theorem dX5_canBe_156 : decode cX5_canBe 156 = .ok (.ifCond .eq 14, 3) := by decide +kernel
theorem dX5_canBe_159 : decode cX5_canBe 159 = .ok (.iload 5, 2) := by decide +kernel
theorem dX5_canBe_161 : decode cX5_canBe 161 = .ok (.iload 4, 2) := by decide +kernel
theorem dX5_canBe_163 : decode cX5_canBe 163 = .ok (.if_icmp .le 7, 3) := by decide +kernel
theorem dX5_canBe_166 : decode cX5_canBe 166 = .ok (.iconst 1, 1) := by decide +kernel
theorem dX5_canBe_167 : decode cX5_canBe 167 = .ok (.goto 4, 3) := by decide +kernel
theorem dX5_canBe_170 : decode cX5_canBe 170 = .ok (.iconst 0, 1) := by decide +kernel
theorem dX5_canBe_171 : decode cX5_canBe 171 = .ok (.ireturn, 1) := by decide +kernel
set_option maxRecDepth 20000 in
theorem ggX5_isFree_X5_x : GoodIn wsX5_isFree wsX5_x := goodIn_r _ [10, 11, 12, 13, 14, 15, 16, 17, 18, 19, 20, 21, 22, 23, 24, 25, 26, 27, 28, 29, 30, 31, 32, 33, 34] (by decide +kernel) (by decide +kernel)
set_option maxRecDepth 20000 in
theorem gX5_isFree_X5_x : GoodIn wsX5_isFree (wsV RX5 85 RX5 yX5_x wsX5_x) := goodIn_app (goodIn_of _ (by decide +kernel)) ggX5_isFree_X5_x
theorem dX5_isFree_0 : decode cX5_isFree 0 = .ok (.iconst 1, 1) := by decide +kernel
theorem dX5_isFree_1 : decode cX5_isFree 1 = .ok (.istore_n 3, 1) := by decide +kernel
theorem dX5_isFree_2 : decode cX5_isFree 2 = .ok (.iconst 0, 1) := by decide +kernel
theorem dX5_isFree_3 : decode cX5_isFree 3 = .ok (.istore 4, 2) := by decide +kernel
theorem dX5_isFree_5 : decode cX5_isFree 5 = .ok (.iload 4, 2) := by decide +kernel
theorem dX5_isFree_7 : decode cX5_isFree 7 = .ok (.aload_n 0, 1) := by decide +kernel
theorem dX5_isFree_8 : decode cX5_isFree 8 = .ok (.getfield 89, 3) := by decide +kernel
theorem dX5_isFree_11 : decode cX5_isFree 11 = .ok (.if_icmp .ge 71, 3) := by decide +kernel
theorem dX5_isFree_14 : decode cX5_isFree 14 = .ok (.iload_n 3, 1) := by decide +kernel
theorem dX5_isFree_15 : decode cX5_isFree 15 = .ok (.ifCond .eq 59, 3) := by decide +kernel
theorem dX5_isFree_18 : decode cX5_isFree 18 = .ok (.aload_n 0, 1) := by decide +kernel
theorem dX5_isFree_19 : decode cX5_isFree 19 = .ok (.getfield 28, 3) := by decide +kernel
theorem dX5_isFree_22 : decode cX5_isFree 22 = .ok (.iload 4, 2) := by decide +kernel
theorem dX5_isFree_24 : decode cX5_isFree 24 = .ok (.iaload, 1) := by decide +kernel
theorem dX5_isFree_25 : decode cX5_isFree 25 = .ok (.iload_n 1, 1) := by decide +kernel
theorem dX5_isFree_26 : decode cX5_isFree 26 = .ok (.if_icmp .eq 48, 3) := by decide +kernel
theorem dX5_isFree_29 : decode cX5_isFree 29 = .ok (.aload_n 0, 1) := by decide +kernel
theorem dX5_isFree_30 : decode cX5_isFree 30 = .ok (.getfield 31, 3) := by decide +kernel
theorem dX5_isFree_33 : decode cX5_isFree 33 = .ok (.iload 4, 2) := by decide +kernel
theorem dX5_isFree_35 : decode cX5_isFree 35 = .ok (.iaload, 1) := by decide +kernel
theorem dX5_isFree_36 : decode cX5_isFree 36 = .ok (.iload_n 2, 1) := by decide +kernel
theorem dX5_isFree_37 : decode cX5_isFree 37 = .ok (.if_icmp .eq 37, 3) := by decide +kernel
theorem dX5_isFree_40 : decode cX5_isFree 40 = .ok (.aload_n 0, 1) := by decide +kernel
theorem dX5_isFree_41 : decode cX5_isFree 41 = .ok (.iload_n 2, 1) := by decide +kernel
theorem dX5_isFree_42 : decode cX5_isFree 42 = .ok (.invokevirtual 85, 3) := by decide +kernel
theorem dX5_isFree_45 : decode cX5_isFree 45 = .ok (.aload_n 0, 1) := by decide +kernel
theorem dX5_isFree_46 : decode cX5_isFree 46 = .ok (.getfield 22, 3) := by decide +kernel
theorem dX5_isFree_49 : decode cX5_isFree 49 = .ok (.iload 4, 2) := by decide +kernel
theorem dX5_isFree_51 : decode cX5_isFree 51 = .ok (.iaload, 1) := by decide +kernel
theorem dX5_isFree_52 : decode cX5_isFree 52 = .ok (.if_icmp .lt 18, 3) := by decide +kernel
theorem dX5_isFree_55 : decode cX5_isFree 55 = .ok (.aload_n 0, 1) := by decide +kernel
theorem dX5_isFree_56 : decode cX5_isFree 56 = .ok (.getfield 25, 3) := by decide +kernel
theorem dX5_isFree_59 : decode cX5_isFree 59 = .ok (.iload 4, 2) := by decide +kernel
theorem dX5_isFree_61 : decode cX5_isFree 61 = .ok (.iaload, 1) := by decide +kernel
theorem dX5_isFree_62 : decode cX5_isFree 62 = .ok (.aload_n 0, 1) := by decide +kernel
theorem dX5_isFree_63 : decode cX5_isFree 63 = .ok (.iload_n 1, 1) := by decide +kernel
theorem dX5_isFree_64 : decode cX5_isFree 64 = .ok (.invokevirtual 85, 3) := by decide +kernel
theorem dX5_isFree_67 : decode cX5_isFree 67 = .ok (.if_icmp .ge 7, 3) := by decide +kernel
theorem dX5_isFree_70 : decode cX5_isFree 70 = .ok (.iconst 1, 1) := by decide +kernel
theorem dX5_isFree_71 : decode cX5_isFree 71 = .ok (.goto 4, 3) := by decide +kernel
theorem dX5_isFree_74 : decode cX5_isFree 74 = .ok (.iconst 0, 1) := by decide +kernel
theorem dX5_isFree_75 : decode cX5_isFree 75 = .ok (.istore_n 3, 1) := by decide +kernel
theorem dX5_isFree_76 : decode cX5_isFree 76 = .ok (.iinc 4 1, 3) := by decide +kernel
theorem dX5_isFree_79 : decode cX5_isFree 79 = .ok (.goto (-74), 3) := by decide +kernel
theorem dX5_isFree_82 : decode cX5_isFree 82 = .ok (.iload_n 3, 1) := by decide +kernel
theorem dX5_isFree_83 : decode cX5_isFree 83 = .ok (.ireturn, 1) := by decide +kernel
set_option maxRecDepth 20000 in
theorem ggX5_layStems_X5_canBe : GoodIn wsX5_layStems wsX5_canBe := goodIn_r _ [12, 13, 14, 15, 16, 11, 17, 36, 37, 38, 39, 40, 41, 42, 43, 44, 45, 46, 47, 48, 49, 50, 51, 52, 53, 54, 55, 56, 57, 58] (by decide +kernel) (by decide +kernel)
set_option maxRecDepth 20000 in
theorem gX5_layStems_X5_canBe : GoodIn wsX5_layStems (wsV RX5 92 RX5 yX5_canBe wsX5_canBe) := goodIn_app (goodIn_of _ (by decide +kernel)) ggX5_layStems_X5_canBe
set_option maxRecDepth 20000 in
theorem ggX5_layStems_X5_isFree : GoodIn wsX5_layStems wsX5_isFree := goodIn_r _ [21, 1, 5, 6, 3, 4, 14, 15, 16, 11, 17, 13, 36, 37, 38, 39, 40, 41, 42, 43, 44, 45, 46, 47, 48, 49, 50, 51, 52, 53, 54, 55, 56, 57, 58] (by decide +kernel) (by decide +kernel)
set_option maxRecDepth 20000 in
theorem gX5_layStems_X5_isFree : GoodIn wsX5_layStems (wsV RX5 96 RX5 yX5_isFree wsX5_isFree) := goodIn_app (goodIn_of _ (by decide +kernel)) ggX5_layStems_X5_isFree
set_option maxRecDepth 20000 in
theorem ggX5_layStems_X5_x : GoodIn wsX5_layStems wsX5_x := goodIn_r _ [17, 13, 36, 37, 38, 39, 40, 41, 42, 43, 44, 45, 46, 47, 48, 49, 50, 51, 52, 53, 54, 55, 56, 57, 58] (by decide +kernel) (by decide +kernel)
set_option maxRecDepth 20000 in
theorem gX5_layStems_X5_x : GoodIn wsX5_layStems (wsV RX5 85 RX5 yX5_x wsX5_x) := goodIn_app (goodIn_of _ (by decide +kernel)) ggX5_layStems_X5_x
set_option maxRecDepth 20000 in
theorem ggX5_layStems_X5_layKinds : GoodIn wsX5_layStems wsX5_layKinds := goodIn_r _ [25, 26, 1, 27, 28, 29, 30, 31, 32, 33, 34, 11, 35, 4, 3, 36, 37, 38, 39, 40, 41, 42, 43, 44, 45, 46, 47, 48, 49, 50, 51, 52, 53, 54, 55, 56, 57, 58] (by decide +kernel) (by decide +kernel)
set_option maxRecDepth 20000 in
theorem gX5_layStems_X5_layKinds : GoodIn wsX5_layStems (wsV RX5 99 RX5 yX5_layKinds wsX5_layKinds) := goodIn_app (goodIn_of _ (by decide +kernel)) ggX5_layStems_X5_layKinds
theorem dX5_layStems_0 : decode cX5_layStems 0 = .ok (.aload_n 0, 1) := by decide +kernel
theorem dX5_layStems_1 : decode cX5_layStems 1 = .ok (.iconst 0, 1) := by decide +kernel
theorem dX5_layStems_2 : decode cX5_layStems 2 = .ok (.putfield 89, 3) := by decide +kernel
theorem dX5_layStems_5 : decode cX5_layStems 5 = .ok (.iconst 1, 1) := by decide +kernel
theorem dX5_layStems_6 : decode cX5_layStems 6 = .ok (.istore_n 1, 1) := by decide +kernel
theorem dX5_layStems_7 : decode cX5_layStems 7 = .ok (.iload_n 1, 1) := by decide +kernel
theorem dX5_layStems_8 : decode cX5_layStems 8 = .ok (.ifCond .eq 328, 3) := by decide +kernel
theorem dX5_layStems_11 : decode cX5_layStems 11 = .ok (.bipush (-6), 2) := by decide +kernel
theorem dX5_layStems_13 : decode cX5_layStems 13 = .ok (.istore_n 2, 1) := by decide +kernel
theorem dX5_layStems_14 : decode cX5_layStems 14 = .ok (.bipush (-6), 2) := by decide +kernel
theorem dX5_layStems_16 : decode cX5_layStems 16 = .ok (.istore_n 3, 1) := by decide +kernel
theorem dX5_layStems_17 : decode cX5_layStems 17 = .ok (.iconst 0, 1) := by decide +kernel
theorem dX5_layStems_18 : decode cX5_layStems 18 = .ok (.istore 4, 2) := by decide +kernel
theorem dX5_layStems_20 : decode cX5_layStems 20 = .ok (.iload 4, 2) := by decide +kernel
theorem dX5_layStems_22 : decode cX5_layStems 22 = .ok (.aload_n 0, 1) := by decide +kernel
theorem dX5_layStems_23 : decode cX5_layStems 23 = .ok (.getfield 82, 3) := by decide +kernel
theorem dX5_layStems_26 : decode cX5_layStems 26 = .ok (.if_icmp .ge 145, 3) := by decide +kernel
theorem dX5_layStems_29 : decode cX5_layStems 29 = .ok (.iconst 0, 1) := by decide +kernel
theorem dX5_layStems_30 : decode cX5_layStems 30 = .ok (.istore 5, 2) := by decide +kernel
theorem dX5_layStems_32 : decode cX5_layStems 32 = .ok (.iload 5, 2) := by decide +kernel
theorem dX5_layStems_34 : decode cX5_layStems 34 = .ok (.aload_n 0, 1) := by decide +kernel
theorem dX5_layStems_35 : decode cX5_layStems 35 = .ok (.getfield 82, 3) := by decide +kernel
theorem dX5_layStems_38 : decode cX5_layStems 38 = .ok (.if_icmp .ge 127, 3) := by decide +kernel
theorem dX5_layStems_41 : decode cX5_layStems 41 = .ok (.aload_n 0, 1) := by decide +kernel
theorem dX5_layStems_42 : decode cX5_layStems 42 = .ok (.iload 4, 2) := by decide +kernel
theorem dX5_layStems_44 : decode cX5_layStems 44 = .ok (.iload 5, 2) := by decide +kernel
theorem dX5_layStems_46 : decode cX5_layStems 46 = .ok (.invokevirtual 92, 3) := by decide +kernel
theorem dX5_layStems_49 : decode cX5_layStems 49 = .ok (.ifCond .eq 110, 3) := by decide +kernel
theorem dX5_layStems_52 : decode cX5_layStems 52 = .ok (.aload_n 0, 1) := by decide +kernel
theorem dX5_layStems_53 : decode cX5_layStems 53 = .ok (.iload 4, 2) := by decide +kernel
theorem dX5_layStems_55 : decode cX5_layStems 55 = .ok (.iload 5, 2) := by decide +kernel
theorem dX5_layStems_57 : decode cX5_layStems 57 = .ok (.invokevirtual 96, 3) := by decide +kernel
theorem dX5_layStems_60 : decode cX5_layStems 60 = .ok (.ifCond .eq 99, 3) := by decide +kernel
theorem dX5_layStems_63 : decode cX5_layStems 63 = .ok (.aload_n 0, 1) := by decide +kernel
theorem dX5_layStems_64 : decode cX5_layStems 64 = .ok (.iload 5, 2) := by decide +kernel
theorem dX5_layStems_66 : decode cX5_layStems 66 = .ok (.invokevirtual 85, 3) := by decide +kernel
theorem dX5_layStems_69 : decode cX5_layStems 69 = .ok (.aload_n 0, 1) := by decide +kernel
theorem dX5_layStems_70 : decode cX5_layStems 70 = .ok (.iload 4, 2) := by decide +kernel
theorem dX5_layStems_72 : decode cX5_layStems 72 = .ok (.invokevirtual 85, 3) := by decide +kernel
theorem dX5_layStems_75 : decode cX5_layStems 75 = .ok (.isub, 1) := by decide +kernel
theorem dX5_layStems_76 : decode cX5_layStems 76 = .ok (.istore 6, 2) := by decide +kernel
theorem dX5_layStems_78 : decode cX5_layStems 78 = .ok (.iload_n 2, 1) := by decide +kernel
theorem dX5_layStems_79 : decode cX5_layStems 79 = .ok (.ifCond .lt 49, 3) := by decide +kernel
theorem dX5_layStems_82 : decode cX5_layStems 82 = .ok (.iload 6, 2) := by decide +kernel
theorem dX5_layStems_84 : decode cX5_layStems 84 = .ok (.aload_n 0, 1) := by decide +kernel
theorem dX5_layStems_85 : decode cX5_layStems 85 = .ok (.iload_n 3, 1) := by decide +kernel
theorem dX5_layStems_86 : decode cX5_layStems 86 = .ok (.invokevirtual 85, 3) := by decide +kernel
theorem dX5_layStems_89 : decode cX5_layStems 89 = .ok (.aload_n 0, 1) := by decide +kernel
theorem dX5_layStems_90 : decode cX5_layStems 90 = .ok (.iload_n 2, 1) := by decide +kernel
theorem dX5_layStems_91 : decode cX5_layStems 91 = .ok (.invokevirtual 85, 3) := by decide +kernel
theorem dX5_layStems_94 : decode cX5_layStems 94 = .ok (.isub, 1) := by decide +kernel
theorem dX5_layStems_95 : decode cX5_layStems 95 = .ok (.if_icmp .lt 33, 3) := by decide +kernel
theorem dX5_layStems_98 : decode cX5_layStems 98 = .ok (.iload 6, 2) := by decide +kernel
theorem dX5_layStems_100 : decode cX5_layStems 100 = .ok (.aload_n 0, 1) := by decide +kernel
theorem dX5_layStems_101 : decode cX5_layStems 101 = .ok (.iload_n 3, 1) := by decide +kernel
theorem dX5_layStems_102 : decode cX5_layStems 102 = .ok (.invokevirtual 85, 3) := by decide +kernel
theorem dX5_layStems_105 : decode cX5_layStems 105 = .ok (.aload_n 0, 1) := by decide +kernel
theorem dX5_layStems_106 : decode cX5_layStems 106 = .ok (.iload_n 2, 1) := by decide +kernel
theorem dX5_layStems_107 : decode cX5_layStems 107 = .ok (.invokevirtual 85, 3) := by decide +kernel
theorem dX5_layStems_110 : decode cX5_layStems 110 = .ok (.isub, 1) := by decide +kernel
theorem dX5_layStems_111 : decode cX5_layStems 111 = .ok (.if_icmp .ne 21, 3) := by decide +kernel
theorem dX5_layStems_114 : decode cX5_layStems 114 = .ok (.aload_n 0, 1) := by decide +kernel
theorem dX5_layStems_115 : decode cX5_layStems 115 = .ok (.iload 4, 2) := by decide +kernel
theorem dX5_layStems_117 : decode cX5_layStems 117 = .ok (.invokevirtual 85, 3) := by decide +kernel
theorem dX5_layStems_120 : decode cX5_layStems 120 = .ok (.aload_n 0, 1) := by decide +kernel
theorem dX5_layStems_121 : decode cX5_layStems 121 = .ok (.iload_n 2, 1) := by decide +kernel
theorem dX5_layStems_122 : decode cX5_layStems 122 = .ok (.invokevirtual 85, 3) := by decide +kernel
theorem dX5_layStems_125 : decode cX5_layStems 125 = .ok (.if_icmp .ge 7, 3) := by decide +kernel
theorem dX5_layStems_128 : decode cX5_layStems 128 = .ok (.iconst 1, 1) := by decide +kernel
theorem dX5_layStems_129 : decode cX5_layStems 129 = .ok (.goto 4, 3) := by decide +kernel
theorem dX5_layStems_132 : decode cX5_layStems 132 = .ok (.iconst 0, 1) := by decide +kernel
theorem dX5_layStems_133 : decode cX5_layStems 133 = .ok (.istore 7, 2) := by decide +kernel
theorem dX5_layStems_135 : decode cX5_layStems 135 = .ok (.iload 7, 2) := by decide +kernel
theorem dX5_layStems_137 : decode cX5_layStems 137 = .ok (.ifCond .eq 8, 3) := by decide +kernel
theorem dX5_layStems_140 : decode cX5_layStems 140 = .ok (.iload 4, 2) := by decide +kernel
theorem dX5_layStems_142 : decode cX5_layStems 142 = .ok (.goto 4, 3) := by decide +kernel
theorem dX5_layStems_145 : decode cX5_layStems 145 = .ok (.iload_n 2, 1) := by decide +kernel
theorem dX5_layStems_146 : decode cX5_layStems 146 = .ok (.istore_n 2, 1) := by decide +kernel
theorem dX5_layStems_147 : decode cX5_layStems 147 = .ok (.iload 7, 2) := by decide +kernel
theorem dX5_layStems_149 : decode cX5_layStems 149 = .ok (.ifCond .eq 8, 3) := by decide +kernel
theorem dX5_layStems_152 : decode cX5_layStems 152 = .ok (.iload 5, 2) := by decide +kernel
theorem dX5_layStems_154 : decode cX5_layStems 154 = .ok (.goto 4, 3) := by decide +kernel
theorem dX5_layStems_157 : decode cX5_layStems 157 = .ok (.iload_n 3, 1) := by decide +kernel
theorem dX5_layStems_158 : decode cX5_layStems 158 = .ok (.istore_n 3, 1) := by decide +kernel
theorem dX5_layStems_159 : decode cX5_layStems 159 = .ok (.iinc 5 1, 3) := by decide +kernel
theorem dX5_layStems_162 : decode cX5_layStems 162 = .ok (.goto (-130), 3) := by decide +kernel
theorem dX5_layStems_165 : decode cX5_layStems 165 = .ok (.iinc 4 1, 3) := by decide +kernel
theorem dX5_layStems_168 : decode cX5_layStems 168 = .ok (.goto (-148), 3) := by decide +kernel
theorem dX5_layStems_171 : decode cX5_layStems 171 = .ok (.iload_n 2, 1) := by decide +kernel
theorem dX5_layStems_172 : decode cX5_layStems 172 = .ok (.ifCond .lt 7, 3) := by decide +kernel
theorem dX5_layStems_175 : decode cX5_layStems 175 = .ok (.iconst 1, 1) := by decide +kernel
theorem dX5_layStems_176 : decode cX5_layStems 176 = .ok (.goto 4, 3) := by decide +kernel
theorem dX5_layStems_179 : decode cX5_layStems 179 = .ok (.iconst 0, 1) := by decide +kernel
theorem dX5_layStems_180 : decode cX5_layStems 180 = .ok (.istore_n 1, 1) := by decide +kernel
theorem dX5_layStems_181 : decode cX5_layStems 181 = .ok (.iload_n 1, 1) := by decide +kernel
theorem dX5_layStems_182 : decode cX5_layStems 182 = .ok (.ifCond .eq 151, 3) := by decide +kernel
theorem dX5_layStems_185 : decode cX5_layStems 185 = .ok (.aload_n 0, 1) := by decide +kernel
theorem dX5_layStems_186 : decode cX5_layStems 186 = .ok (.getfield 89, 3) := by decide +kernel
theorem dX5_layStems_189 : decode cX5_layStems 189 = .ok (.istore 4, 2) := by decide +kernel
theorem dX5_layStems_191 : decode cX5_layStems 191 = .ok (.iload 4, 2) := by decide +kernel
theorem dX5_layStems_193 : decode cX5_layStems 193 = .ok (.ifCond .le 90, 3) := by decide +kernel
theorem dX5_layStems_196 : decode cX5_layStems 196 = .ok (.aload_n 0, 1) := by decide +kernel
theorem dX5_layStems_197 : decode cX5_layStems 197 = .ok (.getfield 22, 3) := by decide +kernel
theorem dX5_layStems_200 : decode cX5_layStems 200 = .ok (.iload 4, 2) := by decide +kernel
theorem dX5_layStems_202 : decode cX5_layStems 202 = .ok (.iconst 1, 1) := by decide +kernel
theorem dX5_layStems_203 : decode cX5_layStems 203 = .ok (.isub, 1) := by decide +kernel
theorem dX5_layStems_204 : decode cX5_layStems 204 = .ok (.iaload, 1) := by decide +kernel
theorem dX5_layStems_205 : decode cX5_layStems 205 = .ok (.aload_n 0, 1) := by decide +kernel
theorem dX5_layStems_206 : decode cX5_layStems 206 = .ok (.iload_n 2, 1) := by decide +kernel
theorem dX5_layStems_207 : decode cX5_layStems 207 = .ok (.invokevirtual 85, 3) := by decide +kernel
theorem dX5_layStems_210 : decode cX5_layStems 210 = .ok (.if_icmp .le 73, 3) := by decide +kernel
theorem dX5_layStems_213 : decode cX5_layStems 213 = .ok (.aload_n 0, 1) := by decide +kernel
theorem dX5_layStems_214 : decode cX5_layStems 214 = .ok (.getfield 22, 3) := by decide +kernel
theorem dX5_layStems_217 : decode cX5_layStems 217 = .ok (.iload 4, 2) := by decide +kernel
theorem dX5_layStems_219 : decode cX5_layStems 219 = .ok (.aload_n 0, 1) := by decide +kernel
theorem dX5_layStems_220 : decode cX5_layStems 220 = .ok (.getfield 22, 3) := by decide +kernel
theorem dX5_layStems_223 : decode cX5_layStems 223 = .ok (.iload 4, 2) := by decide +kernel
theorem dX5_layStems_225 : decode cX5_layStems 225 = .ok (.iconst 1, 1) := by decide +kernel
theorem dX5_layStems_226 : decode cX5_layStems 226 = .ok (.isub, 1) := by decide +kernel
theorem dX5_layStems_227 : decode cX5_layStems 227 = .ok (.iaload, 1) := by decide +kernel
theorem dX5_layStems_228 : decode cX5_layStems 228 = .ok (.iastore, 1) := by decide +kernel
theorem dX5_layStems_229 : decode cX5_layStems 229 = .ok (.aload_n 0, 1) := by decide +kernel
theorem dX5_layStems_230 : decode cX5_layStems 230 = .ok (.getfield 25, 3) := by decide +kernel
theorem dX5_layStems_233 : decode cX5_layStems 233 = .ok (.iload 4, 2) := by decide +kernel
theorem dX5_layStems_235 : decode cX5_layStems 235 = .ok (.aload_n 0, 1) := by decide +kernel
theorem dX5_layStems_236 : decode cX5_layStems 236 = .ok (.getfield 25, 3) := by decide +kernel
theorem dX5_layStems_239 : decode cX5_layStems 239 = .ok (.iload 4, 2) := by decide +kernel
theorem dX5_layStems_241 : decode cX5_layStems 241 = .ok (.iconst 1, 1) := by decide +kernel
theorem dX5_layStems_242 : decode cX5_layStems 242 = .ok (.isub, 1) := by decide +kernel
theorem dX5_layStems_243 : decode cX5_layStems 243 = .ok (.iaload, 1) := by decide +kernel
theorem dX5_layStems_244 : decode cX5_layStems 244 = .ok (.iastore, 1) := by decide +kernel
theorem dX5_layStems_245 : decode cX5_layStems 245 = .ok (.aload_n 0, 1) := by decide +kernel
theorem dX5_layStems_246 : decode cX5_layStems 246 = .ok (.getfield 28, 3) := by decide +kernel
theorem dX5_layStems_249 : decode cX5_layStems 249 = .ok (.iload 4, 2) := by decide +kernel
theorem dX5_layStems_251 : decode cX5_layStems 251 = .ok (.aload_n 0, 1) := by decide +kernel
theorem dX5_layStems_252 : decode cX5_layStems 252 = .ok (.getfield 28, 3) := by decide +kernel
theorem dX5_layStems_255 : decode cX5_layStems 255 = .ok (.iload 4, 2) := by decide +kernel
theorem dX5_layStems_257 : decode cX5_layStems 257 = .ok (.iconst 1, 1) := by decide +kernel
theorem dX5_layStems_258 : decode cX5_layStems 258 = .ok (.isub, 1) := by decide +kernel
theorem dX5_layStems_259 : decode cX5_layStems 259 = .ok (.iaload, 1) := by decide +kernel
theorem dX5_layStems_260 : decode cX5_layStems 260 = .ok (.iastore, 1) := by decide +kernel
theorem dX5_layStems_261 : decode cX5_layStems 261 = .ok (.aload_n 0, 1) := by decide +kernel
theorem dX5_layStems_262 : decode cX5_layStems 262 = .ok (.getfield 31, 3) := by decide +kernel
theorem dX5_layStems_265 : decode cX5_layStems 265 = .ok (.iload 4, 2) := by decide +kernel
theorem dX5_layStems_267 : decode cX5_layStems 267 = .ok (.aload_n 0, 1) := by decide +kernel
theorem dX5_layStems_268 : decode cX5_layStems 268 = .ok (.getfield 31, 3) := by decide +kernel
theorem dX5_layStems_271 : decode cX5_layStems 271 = .ok (.iload 4, 2) := by decide +kernel
theorem dX5_layStems_273 : decode cX5_layStems 273 = .ok (.iconst 1, 1) := by decide +kernel
theorem dX5_layStems_274 : decode cX5_layStems 274 = .ok (.isub, 1) := by decide +kernel
theorem dX5_layStems_275 : decode cX5_layStems 275 = .ok (.iaload, 1) := by decide +kernel
theorem dX5_layStems_276 : decode cX5_layStems 276 = .ok (.iastore, 1) := by decide +kernel
theorem dX5_layStems_277 : decode cX5_layStems 277 = .ok (.iinc 4 (-1), 3) := by decide +kernel
theorem dX5_layStems_280 : decode cX5_layStems 280 = .ok (.goto (-89), 3) := by decide +kernel
theorem dX5_layStems_283 : decode cX5_layStems 283 = .ok (.aload_n 0, 1) := by decide +kernel
theorem dX5_layStems_284 : decode cX5_layStems 284 = .ok (.getfield 22, 3) := by decide +kernel
theorem dX5_layStems_287 : decode cX5_layStems 287 = .ok (.iload 4, 2) := by decide +kernel
theorem dX5_layStems_289 : decode cX5_layStems 289 = .ok (.aload_n 0, 1) := by decide +kernel
theorem dX5_layStems_290 : decode cX5_layStems 290 = .ok (.iload_n 2, 1) := by decide +kernel
theorem dX5_layStems_291 : decode cX5_layStems 291 = .ok (.invokevirtual 85, 3) := by decide +kernel
theorem dX5_layStems_294 : decode cX5_layStems 294 = .ok (.iastore, 1) := by decide +kernel
theorem dX5_layStems_295 : decode cX5_layStems 295 = .ok (.aload_n 0, 1) := by decide +kernel
theorem dX5_layStems_296 : decode cX5_layStems 296 = .ok (.getfield 25, 3) := by decide +kernel
theorem dX5_layStems_299 : decode cX5_layStems 299 = .ok (.iload 4, 2) := by decide +kernel
theorem dX5_layStems_301 : decode cX5_layStems 301 = .ok (.aload_n 0, 1) := by decide +kernel
theorem dX5_layStems_302 : decode cX5_layStems 302 = .ok (.iload_n 3, 1) := by decide +kernel
theorem dX5_layStems_303 : decode cX5_layStems 303 = .ok (.invokevirtual 85, 3) := by decide +kernel
theorem dX5_layStems_306 : decode cX5_layStems 306 = .ok (.iastore, 1) := by decide +kernel
theorem dX5_layStems_307 : decode cX5_layStems 307 = .ok (.aload_n 0, 1) := by decide +kernel
theorem dX5_layStems_308 : decode cX5_layStems 308 = .ok (.getfield 28, 3) := by decide +kernel
theorem dX5_layStems_311 : decode cX5_layStems 311 = .ok (.iload 4, 2) := by decide +kernel
theorem dX5_layStems_313 : decode cX5_layStems 313 = .ok (.iload_n 2, 1) := by decide +kernel
theorem dX5_layStems_314 : decode cX5_layStems 314 = .ok (.iastore, 1) := by decide +kernel
theorem dX5_layStems_315 : decode cX5_layStems 315 = .ok (.aload_n 0, 1) := by decide +kernel
theorem dX5_layStems_316 : decode cX5_layStems 316 = .ok (.getfield 31, 3) := by decide +kernel
theorem dX5_layStems_319 : decode cX5_layStems 319 = .ok (.iload 4, 2) := by decide +kernel
theorem dX5_layStems_321 : decode cX5_layStems 321 = .ok (.iload_n 3, 1) := by decide +kernel
theorem dX5_layStems_322 : decode cX5_layStems 322 = .ok (.iastore, 1) := by decide +kernel
theorem dX5_layStems_323 : decode cX5_layStems 323 = .ok (.aload_n 0, 1) := by decide +kernel
theorem dX5_layStems_324 : decode cX5_layStems 324 = .ok (.dup, 1) := by decide +kernel
theorem dX5_layStems_325 : decode cX5_layStems 325 = .ok (.getfield 89, 3) := by decide +kernel
theorem dX5_layStems_328 : decode cX5_layStems 328 = .ok (.iconst 1, 1) := by decide +kernel
theorem dX5_layStems_329 : decode cX5_layStems 329 = .ok (.iadd, 1) := by decide +kernel
theorem dX5_layStems_330 : decode cX5_layStems 330 = .ok (.putfield 89, 3) := by decide +kernel
theorem dX5_layStems_333 : decode cX5_layStems 333 = .ok (.goto (-326), 3) := by decide +kernel
theorem dX5_layStems_336 : decode cX5_layStems 336 = .ok (.iconst 0, 1) := by decide +kernel
theorem dX5_layStems_337 : decode cX5_layStems 337 = .ok (.istore_n 2, 1) := by decide +kernel
theorem dX5_layStems_338 : decode cX5_layStems 338 = .ok (.iload_n 2, 1) := by decide +kernel
theorem dX5_layStems_339 : decode cX5_layStems 339 = .ok (.bipush 16, 2) := by decide +kernel
theorem dX5_layStems_341 : decode cX5_layStems 341 = .ok (.if_icmp .ge 17, 3) := by decide +kernel
theorem dX5_layStems_344 : decode cX5_layStems 344 = .ok (.aload_n 0, 1) := by decide +kernel
theorem dX5_layStems_345 : decode cX5_layStems 345 = .ok (.getfield 37, 3) := by decide +kernel
theorem dX5_layStems_348 : decode cX5_layStems 348 = .ok (.iload_n 2, 1) := by decide +kernel
theorem dX5_layStems_349 : decode cX5_layStems 349 = .ok (.bipush (-6), 2) := by decide +kernel
theorem dX5_layStems_351 : decode cX5_layStems 351 = .ok (.iastore, 1) := by decide +kernel
theorem dX5_layStems_352 : decode cX5_layStems 352 = .ok (.iinc 2 1, 3) := by decide +kernel
theorem dX5_layStems_355 : decode cX5_layStems 355 = .ok (.goto (-17), 3) := by decide +kernel
theorem dX5_layStems_358 : decode cX5_layStems 358 = .ok (.iconst 0, 1) := by decide +kernel
theorem dX5_layStems_359 : decode cX5_layStems 359 = .ok (.istore_n 2, 1) := by decide +kernel
theorem dX5_layStems_360 : decode cX5_layStems 360 = .ok (.iload_n 2, 1) := by decide +kernel
theorem dX5_layStems_361 : decode cX5_layStems 361 = .ok (.aload_n 0, 1) := by decide +kernel
theorem dX5_layStems_362 : decode cX5_layStems 362 = .ok (.getfield 89, 3) := by decide +kernel
theorem dX5_layStems_365 : decode cX5_layStems 365 = .ok (.if_icmp .ge 33, 3) := by decide +kernel
theorem dX5_layStems_368 : decode cX5_layStems 368 = .ok (.aload_n 0, 1) := by decide +kernel
theorem dX5_layStems_369 : decode cX5_layStems 369 = .ok (.getfield 37, 3) := by decide +kernel
theorem dX5_layStems_372 : decode cX5_layStems 372 = .ok (.aload_n 0, 1) := by decide +kernel
theorem dX5_layStems_373 : decode cX5_layStems 373 = .ok (.getfield 28, 3) := by decide +kernel
theorem dX5_layStems_376 : decode cX5_layStems 376 = .ok (.iload_n 2, 1) := by decide +kernel
theorem dX5_layStems_377 : decode cX5_layStems 377 = .ok (.iaload, 1) := by decide +kernel
theorem dX5_layStems_378 : decode cX5_layStems 378 = .ok (.iload_n 2, 1) := by decide +kernel
theorem dX5_layStems_379 : decode cX5_layStems 379 = .ok (.iastore, 1) := by decide +kernel
theorem dX5_layStems_380 : decode cX5_layStems 380 = .ok (.aload_n 0, 1) := by decide +kernel
theorem dX5_layStems_381 : decode cX5_layStems 381 = .ok (.getfield 37, 3) := by decide +kernel
theorem dX5_layStems_384 : decode cX5_layStems 384 = .ok (.aload_n 0, 1) := by decide +kernel
theorem dX5_layStems_385 : decode cX5_layStems 385 = .ok (.getfield 31, 3) := by decide +kernel
theorem dX5_layStems_388 : decode cX5_layStems 388 = .ok (.iload_n 2, 1) := by decide +kernel
theorem dX5_layStems_389 : decode cX5_layStems 389 = .ok (.iaload, 1) := by decide +kernel
theorem dX5_layStems_390 : decode cX5_layStems 390 = .ok (.iload_n 2, 1) := by decide +kernel
theorem dX5_layStems_391 : decode cX5_layStems 391 = .ok (.iastore, 1) := by decide +kernel
theorem dX5_layStems_392 : decode cX5_layStems 392 = .ok (.iinc 2 1, 3) := by decide +kernel
theorem dX5_layStems_395 : decode cX5_layStems 395 = .ok (.goto (-35), 3) := by decide +kernel
theorem dX5_layStems_398 : decode cX5_layStems 398 = .ok (.aload_n 0, 1) := by decide +kernel
theorem dX5_layStems_399 : decode cX5_layStems 399 = .ok (.invokevirtual 99, 3) := by decide +kernel
theorem dX5_layStems_402 : decode cX5_layStems 402 = .ok (.return_, 1) := by decide +kernel
theorem dX5_width_0 : decode cX5_width 0 = .ok (.aload_n 0, 1) := by decide +kernel
theorem dX5_width_1 : decode cX5_width 1 = .ok (.getfield 25, 3) := by decide +kernel
theorem dX5_width_4 : decode cX5_width 4 = .ok (.iload_n 1, 1) := by decide +kernel
theorem dX5_width_5 : decode cX5_width 5 = .ok (.iaload, 1) := by decide +kernel
theorem dX5_width_6 : decode cX5_width 6 = .ok (.aload_n 0, 1) := by decide +kernel
theorem dX5_width_7 : decode cX5_width 7 = .ok (.getfield 22, 3) := by decide +kernel
theorem dX5_width_10 : decode cX5_width 10 = .ok (.iload_n 1, 1) := by decide +kernel
theorem dX5_width_11 : decode cX5_width 11 = .ok (.iaload, 1) := by decide +kernel
theorem dX5_width_12 : decode cX5_width 12 = .ok (.isub, 1) := by decide +kernel
theorem dX5_width_13 : decode cX5_width 13 = .ok (.ireturn, 1) := by decide +kernel
set_option maxRecDepth 20000 in
theorem ggX5_layKinds_X5_width : GoodIn wsX5_layKinds wsX5_width := goodIn_r _ [12, 13, 14, 15, 16, 17, 18, 19, 20, 21, 22, 23, 24, 25, 26, 27, 28, 29, 30, 31, 32, 33, 34, 35, 36, 37] (by decide +kernel) (by decide +kernel)
set_option maxRecDepth 20000 in
theorem gX5_layKinds_X5_width : GoodIn wsX5_layKinds (wsV RX5 105 RX5 yX5_width wsX5_width) := goodIn_app (goodIn_of _ (by decide +kernel)) ggX5_layKinds_X5_width
theorem dX5_layKinds_0 : decode cX5_layKinds 0 = .ok (.aload_n 0, 1) := by decide +kernel
theorem dX5_layKinds_1 : decode cX5_layKinds 1 = .ok (.iconst 0, 1) := by decide +kernel
theorem dX5_layKinds_2 : decode cX5_layKinds 2 = .ok (.putfield 102, 3) := by decide +kernel
theorem dX5_layKinds_5 : decode cX5_layKinds 5 = .ok (.iconst 0, 1) := by decide +kernel
theorem dX5_layKinds_6 : decode cX5_layKinds 6 = .ok (.istore_n 1, 1) := by decide +kernel
theorem dX5_layKinds_7 : decode cX5_layKinds 7 = .ok (.iload_n 1, 1) := by decide +kernel
theorem dX5_layKinds_8 : decode cX5_layKinds 8 = .ok (.aload_n 0, 1) := by decide +kernel
theorem dX5_layKinds_9 : decode cX5_layKinds 9 = .ok (.getfield 89, 3) := by decide +kernel
theorem dX5_layKinds_12 : decode cX5_layKinds 12 = .ok (.if_icmp .ge 17, 3) := by decide +kernel
theorem dX5_layKinds_15 : decode cX5_layKinds 15 = .ok (.aload_n 0, 1) := by decide +kernel
theorem dX5_layKinds_16 : decode cX5_layKinds 16 = .ok (.getfield 34, 3) := by decide +kernel
theorem dX5_layKinds_19 : decode cX5_layKinds 19 = .ok (.iload_n 1, 1) := by decide +kernel
theorem dX5_layKinds_20 : decode cX5_layKinds 20 = .ok (.bipush (-6), 2) := by decide +kernel
theorem dX5_layKinds_22 : decode cX5_layKinds 22 = .ok (.iastore, 1) := by decide +kernel
theorem dX5_layKinds_23 : decode cX5_layKinds 23 = .ok (.iinc 1 1, 3) := by decide +kernel
theorem dX5_layKinds_26 : decode cX5_layKinds 26 = .ok (.goto (-19), 3) := by decide +kernel
theorem dX5_layKinds_29 : decode cX5_layKinds 29 = .ok (.iconst 0, 1) := by decide +kernel
theorem dX5_layKinds_30 : decode cX5_layKinds 30 = .ok (.istore_n 1, 1) := by decide +kernel
theorem dX5_layKinds_31 : decode cX5_layKinds 31 = .ok (.iload_n 1, 1) := by decide +kernel
theorem dX5_layKinds_32 : decode cX5_layKinds 32 = .ok (.aload_n 0, 1) := by decide +kernel
theorem dX5_layKinds_33 : decode cX5_layKinds 33 = .ok (.getfield 89, 3) := by decide +kernel
theorem dX5_layKinds_36 : decode cX5_layKinds 36 = .ok (.if_icmp .ge 183, 3) := by decide +kernel
theorem dX5_layKinds_39 : decode cX5_layKinds 39 = .ok (.bipush (-6), 2) := by decide +kernel
theorem dX5_layKinds_41 : decode cX5_layKinds 41 = .ok (.istore_n 2, 1) := by decide +kernel
theorem dX5_layKinds_42 : decode cX5_layKinds 42 = .ok (.iconst 0, 1) := by decide +kernel
theorem dX5_layKinds_43 : decode cX5_layKinds 43 = .ok (.istore_n 3, 1) := by decide +kernel
theorem dX5_layKinds_44 : decode cX5_layKinds 44 = .ok (.iload_n 3, 1) := by decide +kernel
theorem dX5_layKinds_45 : decode cX5_layKinds 45 = .ok (.aload_n 0, 1) := by decide +kernel
theorem dX5_layKinds_46 : decode cX5_layKinds 46 = .ok (.getfield 89, 3) := by decide +kernel
theorem dX5_layKinds_49 : decode cX5_layKinds 49 = .ok (.if_icmp .ge 41, 3) := by decide +kernel
theorem dX5_layKinds_52 : decode cX5_layKinds 52 = .ok (.aload_n 0, 1) := by decide +kernel
theorem dX5_layKinds_53 : decode cX5_layKinds 53 = .ok (.getfield 34, 3) := by decide +kernel
theorem dX5_layKinds_56 : decode cX5_layKinds 56 = .ok (.iload_n 3, 1) := by decide +kernel
theorem dX5_layKinds_57 : decode cX5_layKinds 57 = .ok (.iaload, 1) := by decide +kernel
theorem dX5_layKinds_58 : decode cX5_layKinds 58 = .ok (.ifCond .ge 24, 3) := by decide +kernel
theorem dX5_layKinds_61 : decode cX5_layKinds 61 = .ok (.iload_n 2, 1) := by decide +kernel
theorem dX5_layKinds_62 : decode cX5_layKinds 62 = .ok (.ifCond .lt 16, 3) := by decide +kernel
theorem dX5_layKinds_65 : decode cX5_layKinds 65 = .ok (.aload_n 0, 1) := by decide +kernel
theorem dX5_layKinds_66 : decode cX5_layKinds 66 = .ok (.iload_n 3, 1) := by decide +kernel
theorem dX5_layKinds_67 : decode cX5_layKinds 67 = .ok (.invokevirtual 105, 3) := by decide +kernel
theorem dX5_layKinds_70 : decode cX5_layKinds 70 = .ok (.aload_n 0, 1) := by decide +kernel
theorem dX5_layKinds_71 : decode cX5_layKinds 71 = .ok (.iload_n 2, 1) := by decide +kernel
theorem dX5_layKinds_72 : decode cX5_layKinds 72 = .ok (.invokevirtual 105, 3) := by decide +kernel
theorem dX5_layKinds_75 : decode cX5_layKinds 75 = .ok (.if_icmp .ge 7, 3) := by decide +kernel
theorem dX5_layKinds_78 : decode cX5_layKinds 78 = .ok (.iload_n 3, 1) := by decide +kernel
theorem dX5_layKinds_79 : decode cX5_layKinds 79 = .ok (.goto 4, 3) := by decide +kernel
theorem dX5_layKinds_82 : decode cX5_layKinds 82 = .ok (.iload_n 2, 1) := by decide +kernel
theorem dX5_layKinds_83 : decode cX5_layKinds 83 = .ok (.istore_n 2, 1) := by decide +kernel
theorem dX5_layKinds_84 : decode cX5_layKinds 84 = .ok (.iinc 3 1, 3) := by decide +kernel
theorem dX5_layKinds_87 : decode cX5_layKinds 87 = .ok (.goto (-43), 3) := by decide +kernel
theorem dX5_layKinds_90 : decode cX5_layKinds 90 = .ok (.aload_n 0, 1) := by decide +kernel
theorem dX5_layKinds_91 : decode cX5_layKinds 91 = .ok (.getfield 102, 3) := by decide +kernel
theorem dX5_layKinds_94 : decode cX5_layKinds 94 = .ok (.ifCond .eq 29, 3) := by decide +kernel
theorem dX5_layKinds_97 : decode cX5_layKinds 97 = .ok (.aload_n 0, 1) := by decide +kernel
theorem dX5_layKinds_98 : decode cX5_layKinds 98 = .ok (.iload_n 2, 1) := by decide +kernel
theorem dX5_layKinds_99 : decode cX5_layKinds 99 = .ok (.invokevirtual 105, 3) := by decide +kernel
theorem dX5_layKinds_102 : decode cX5_layKinds 102 = .ok (.aload_n 0, 1) := by decide +kernel
theorem dX5_layKinds_103 : decode cX5_layKinds 103 = .ok (.getfield 43, 3) := by decide +kernel
theorem dX5_layKinds_106 : decode cX5_layKinds 106 = .ok (.aload_n 0, 1) := by decide +kernel
theorem dX5_layKinds_107 : decode cX5_layKinds 107 = .ok (.getfield 102, 3) := by decide +kernel
theorem dX5_layKinds_110 : decode cX5_layKinds 110 = .ok (.iconst 1, 1) := by decide +kernel
theorem dX5_layKinds_111 : decode cX5_layKinds 111 = .ok (.isub, 1) := by decide +kernel
theorem dX5_layKinds_112 : decode cX5_layKinds 112 = .ok (.iaload, 1) := by decide +kernel
theorem dX5_layKinds_113 : decode cX5_layKinds 113 = .ok (.isub, 1) := by decide +kernel
theorem dX5_layKinds_114 : decode cX5_layKinds 114 = .ok (.aload_n 0, 1) := by decide +kernel
theorem dX5_layKinds_115 : decode cX5_layKinds 115 = .ok (.getfield 13, 3) := by decide +kernel
theorem dX5_layKinds_118 : decode cX5_layKinds 118 = .ok (.iconst 0, 1) := by decide +kernel
theorem dX5_layKinds_119 : decode cX5_layKinds 119 = .ok (.iaload, 1) := by decide +kernel
theorem dX5_layKinds_120 : decode cX5_layKinds 120 = .ok (.if_icmp .le 47, 3) := by decide +kernel
theorem dX5_layKinds_123 : decode cX5_layKinds 123 = .ok (.aload_n 0, 1) := by decide +kernel
theorem dX5_layKinds_124 : decode cX5_layKinds 124 = .ok (.getfield 43, 3) := by decide +kernel
theorem dX5_layKinds_127 : decode cX5_layKinds 127 = .ok (.aload_n 0, 1) := by decide +kernel
theorem dX5_layKinds_128 : decode cX5_layKinds 128 = .ok (.getfield 102, 3) := by decide +kernel
theorem dX5_layKinds_131 : decode cX5_layKinds 131 = .ok (.aload_n 0, 1) := by decide +kernel
theorem dX5_layKinds_132 : decode cX5_layKinds 132 = .ok (.iload_n 2, 1) := by decide +kernel
theorem dX5_layKinds_133 : decode cX5_layKinds 133 = .ok (.invokevirtual 105, 3) := by decide +kernel
theorem dX5_layKinds_136 : decode cX5_layKinds 136 = .ok (.iastore, 1) := by decide +kernel
theorem dX5_layKinds_137 : decode cX5_layKinds 137 = .ok (.aload_n 0, 1) := by decide +kernel
theorem dX5_layKinds_138 : decode cX5_layKinds 138 = .ok (.getfield 40, 3) := by decide +kernel
theorem dX5_layKinds_141 : decode cX5_layKinds 141 = .ok (.aload_n 0, 1) := by decide +kernel
theorem dX5_layKinds_142 : decode cX5_layKinds 142 = .ok (.getfield 102, 3) := by decide +kernel
theorem dX5_layKinds_145 : decode cX5_layKinds 145 = .ok (.iconst 0, 1) := by decide +kernel
theorem dX5_layKinds_146 : decode cX5_layKinds 146 = .ok (.iastore, 1) := by decide +kernel
theorem dX5_layKinds_147 : decode cX5_layKinds 147 = .ok (.aload_n 0, 1) := by decide +kernel
theorem dX5_layKinds_148 : decode cX5_layKinds 148 = .ok (.getfield 46, 3) := by decide +kernel
theorem dX5_layKinds_151 : decode cX5_layKinds 151 = .ok (.aload_n 0, 1) := by decide +kernel
theorem dX5_layKinds_152 : decode cX5_layKinds 152 = .ok (.getfield 102, 3) := by decide +kernel
theorem dX5_layKinds_155 : decode cX5_layKinds 155 = .ok (.iconst 0, 1) := by decide +kernel
theorem dX5_layKinds_156 : decode cX5_layKinds 156 = .ok (.iastore, 1) := by decide +kernel
theorem dX5_layKinds_157 : decode cX5_layKinds 157 = .ok (.aload_n 0, 1) := by decide +kernel
theorem dX5_layKinds_158 : decode cX5_layKinds 158 = .ok (.dup, 1) := by decide +kernel
theorem dX5_layKinds_159 : decode cX5_layKinds 159 = .ok (.getfield 102, 3) := by decide +kernel
theorem dX5_layKinds_162 : decode cX5_layKinds 162 = .ok (.iconst 1, 1) := by decide +kernel
theorem dX5_layKinds_163 : decode cX5_layKinds 163 = .ok (.iadd, 1) := by decide +kernel
theorem dX5_layKinds_164 : decode cX5_layKinds 164 = .ok (.putfield 102, 3) := by decide +kernel
theorem dX5_layKinds_167 : decode cX5_layKinds 167 = .ok (.aload_n 0, 1) := by decide +kernel
theorem dX5_layKinds_168 : decode cX5_layKinds 168 = .ok (.getfield 34, 3) := by decide +kernel
theorem dX5_layKinds_171 : decode cX5_layKinds 171 = .ok (.iload_n 2, 1) := by decide +kernel
theorem dX5_layKinds_172 : decode cX5_layKinds 172 = .ok (.aload_n 0, 1) := by decide +kernel
theorem dX5_layKinds_173 : decode cX5_layKinds 173 = .ok (.getfield 102, 3) := by decide +kernel
theorem dX5_layKinds_176 : decode cX5_layKinds 176 = .ok (.iconst 1, 1) := by decide +kernel
theorem dX5_layKinds_177 : decode cX5_layKinds 177 = .ok (.isub, 1) := by decide +kernel
theorem dX5_layKinds_178 : decode cX5_layKinds 178 = .ok (.iastore, 1) := by decide +kernel
theorem dX5_layKinds_179 : decode cX5_layKinds 179 = .ok (.aload_n 0, 1) := by decide +kernel
theorem dX5_layKinds_180 : decode cX5_layKinds 180 = .ok (.getfield 40, 3) := by decide +kernel
theorem dX5_layKinds_183 : decode cX5_layKinds 183 = .ok (.aload_n 0, 1) := by decide +kernel
theorem dX5_layKinds_184 : decode cX5_layKinds 184 = .ok (.getfield 102, 3) := by decide +kernel
theorem dX5_layKinds_187 : decode cX5_layKinds 187 = .ok (.iconst 1, 1) := by decide +kernel
theorem dX5_layKinds_188 : decode cX5_layKinds 188 = .ok (.isub, 1) := by decide +kernel
theorem dX5_layKinds_189 : decode cX5_layKinds 189 = .ok (.dup2, 1) := by decide +kernel
theorem dX5_layKinds_190 : decode cX5_layKinds 190 = .ok (.iaload, 1) := by decide +kernel
theorem dX5_layKinds_191 : decode cX5_layKinds 191 = .ok (.iconst 1, 1) := by decide +kernel
theorem dX5_layKinds_192 : decode cX5_layKinds 192 = .ok (.iadd, 1) := by decide +kernel
theorem dX5_layKinds_193 : decode cX5_layKinds 193 = .ok (.iastore, 1) := by decide +kernel
theorem dX5_layKinds_194 : decode cX5_layKinds 194 = .ok (.aload_n 0, 1) := by decide +kernel
theorem dX5_layKinds_195 : decode cX5_layKinds 195 = .ok (.getfield 46, 3) := by decide +kernel
theorem dX5_layKinds_198 : decode cX5_layKinds 198 = .ok (.aload_n 0, 1) := by decide +kernel
theorem dX5_layKinds_199 : decode cX5_layKinds 199 = .ok (.getfield 102, 3) := by decide +kernel
theorem dX5_layKinds_202 : decode cX5_layKinds 202 = .ok (.iconst 1, 1) := by decide +kernel
theorem dX5_layKinds_203 : decode cX5_layKinds 203 = .ok (.isub, 1) := by decide +kernel
theorem dX5_layKinds_204 : decode cX5_layKinds 204 = .ok (.dup2, 1) := by decide +kernel
theorem dX5_layKinds_205 : decode cX5_layKinds 205 = .ok (.iaload, 1) := by decide +kernel
theorem dX5_layKinds_206 : decode cX5_layKinds 206 = .ok (.aload_n 0, 1) := by decide +kernel
theorem dX5_layKinds_207 : decode cX5_layKinds 207 = .ok (.iload_n 2, 1) := by decide +kernel
theorem dX5_layKinds_208 : decode cX5_layKinds 208 = .ok (.invokevirtual 105, 3) := by decide +kernel
theorem dX5_layKinds_211 : decode cX5_layKinds 211 = .ok (.iadd, 1) := by decide +kernel
theorem dX5_layKinds_212 : decode cX5_layKinds 212 = .ok (.iastore, 1) := by decide +kernel
theorem dX5_layKinds_213 : decode cX5_layKinds 213 = .ok (.iinc 1 1, 3) := by decide +kernel
theorem dX5_layKinds_216 : decode cX5_layKinds 216 = .ok (.goto (-185), 3) := by decide +kernel
theorem dX5_layKinds_219 : decode cX5_layKinds 219 = .ok (.return_, 1) := by decide +kernel
set_option maxRecDepth 20000 in
theorem ggX5_told_X5_in : GoodIn wsX5_told wsX5_in := goodIn_r _ [7] (by decide +kernel) (by decide +kernel)
set_option maxRecDepth 20000 in
theorem gX5_told_X5_in : GoodIn wsX5_told (va_wsS RX5 66 yX5_in wsX5_in) := goodIn_app (goodIn_of _ (by decide +kernel)) ggX5_told_X5_in
set_option maxRecDepth 20000 in
theorem ggX5_told_X5_layStems : GoodIn wsX5_told wsX5_layStems := goodIn_r _ [11, 12, 1, 13, 14, 15, 16, 3, 17, 18, 19, 6, 20, 2, 21, 22, 23, 24, 25, 26, 27, 28, 29, 30, 31, 32, 33, 34, 35, 36, 37, 38, 39, 40, 41, 42, 43, 44, 45, 46, 47, 48, 49, 50, 51, 52, 53, 54, 55, 56, 57, 58, 59, 60, 61, 62, 63, 64, 65] (by decide +kernel) (by decide +kernel)
set_option maxRecDepth 20000 in
theorem gX5_told_X5_layStems : GoodIn wsX5_told (wsV RX5 108 RX5 yX5_layStems wsX5_layStems) := goodIn_app (goodIn_of _ (by decide +kernel)) ggX5_told_X5_layStems
theorem dX5_told_0 : decode cX5_told 0 = .ok (.iload_n 1, 1) := by decide +kernel
theorem dX5_told_1 : decode cX5_told 1 = .ok (.iconst 0, 1) := by decide +kernel
theorem dX5_told_2 : decode cX5_told 2 = .ok (.aload_n 0, 1) := by decide +kernel
theorem dX5_told_3 : decode cX5_told 3 = .ok (.getfield 82, 3) := by decide +kernel
theorem dX5_told_6 : decode cX5_told 6 = .ok (.iconst 1, 1) := by decide +kernel
theorem dX5_told_7 : decode cX5_told 7 = .ok (.isub, 1) := by decide +kernel
theorem dX5_told_8 : decode cX5_told 8 = .ok (.invokestatic 66, 3) := by decide +kernel
theorem dX5_told_11 : decode cX5_told 11 = .ok (.ifCond .ne 5, 3) := by decide +kernel
theorem dX5_told_14 : decode cX5_told 14 = .ok (.iconst (-1), 1) := by decide +kernel
theorem dX5_told_15 : decode cX5_told 15 = .ok (.ireturn, 1) := by decide +kernel
theorem dX5_told_16 : decode cX5_told 16 = .ok (.iload_n 2, 1) := by decide +kernel
theorem dX5_told_17 : decode cX5_told 17 = .ok (.iconst 0, 1) := by decide +kernel
theorem dX5_told_18 : decode cX5_told 18 = .ok (.iconst 4, 1) := by decide +kernel
theorem dX5_told_19 : decode cX5_told 19 = .ok (.invokestatic 66, 3) := by decide +kernel
theorem dX5_told_22 : decode cX5_told 22 = .ok (.ifCond .ne 6, 3) := by decide +kernel
theorem dX5_told_25 : decode cX5_told 25 = .ok (.bipush (-2), 2) := by decide +kernel
theorem dX5_told_27 : decode cX5_told 27 = .ok (.ireturn, 1) := by decide +kernel
theorem dX5_told_28 : decode cX5_told 28 = .ok (.aload_n 0, 1) := by decide +kernel
theorem dX5_told_29 : decode cX5_told 29 = .ok (.invokevirtual 108, 3) := by decide +kernel
theorem dX5_told_32 : decode cX5_told 32 = .ok (.iload_n 2, 1) := by decide +kernel
theorem dX5_told_33 : decode cX5_told 33 = .ok (.iconst 4, 1) := by decide +kernel
theorem dX5_told_34 : decode cX5_told 34 = .ok (.if_icmp .ge 16, 3) := by decide +kernel
theorem dX5_told_37 : decode cX5_told 37 = .ok (.aload_n 0, 1) := by decide +kernel
theorem dX5_told_38 : decode cX5_told 38 = .ok (.getfield 7, 3) := by decide +kernel
theorem dX5_told_41 : decode cX5_told 41 = .ok (.iconst 4, 1) := by decide +kernel
theorem dX5_told_42 : decode cX5_told 42 = .ok (.iload_n 1, 1) := by decide +kernel
theorem dX5_told_43 : decode cX5_told 43 = .ok (.imul, 1) := by decide +kernel
theorem dX5_told_44 : decode cX5_told 44 = .ok (.iload_n 2, 1) := by decide +kernel
theorem dX5_told_45 : decode cX5_told 45 = .ok (.iadd, 1) := by decide +kernel
theorem dX5_told_46 : decode cX5_told 46 = .ok (.iaload, 1) := by decide +kernel
theorem dX5_told_47 : decode cX5_told 47 = .ok (.goto 9, 3) := by decide +kernel
theorem dX5_told_50 : decode cX5_told 50 = .ok (.aload_n 0, 1) := by decide +kernel
theorem dX5_told_51 : decode cX5_told 51 = .ok (.getfield 37, 3) := by decide +kernel
theorem dX5_told_54 : decode cX5_told 54 = .ok (.iload_n 1, 1) := by decide +kernel
theorem dX5_told_55 : decode cX5_told 55 = .ok (.iaload, 1) := by decide +kernel
theorem dX5_told_56 : decode cX5_told 56 = .ok (.ireturn, 1) := by decide +kernel
set_option maxRecDepth 20000 in
theorem ggX5_stem_X5_layStems : GoodIn wsX5_stem wsX5_layStems := goodIn_r _ [11, 1, 12, 2, 3, 4, 5, 13, 14, 15, 16, 10, 17, 18, 19, 20, 21, 22, 23, 24, 25, 26, 27, 28, 29, 30, 31, 6, 32, 33, 34, 35, 36, 37, 38, 39, 43, 44, 45, 46, 47, 48, 49, 50, 51, 52, 53, 54, 55, 56, 57, 58, 59, 60, 61, 62, 63, 64, 65] (by decide +kernel) (by decide +kernel)
set_option maxRecDepth 20000 in
theorem gX5_stem_X5_layStems : GoodIn wsX5_stem (wsV RX5 108 RX5 yX5_layStems wsX5_layStems) := goodIn_app (goodIn_of _ (by decide +kernel)) ggX5_stem_X5_layStems
set_option maxRecDepth 20000 in
theorem ggX5_stem_X5_in : GoodIn wsX5_stem wsX5_in := goodIn_r _ [42] (by decide +kernel) (by decide +kernel)
set_option maxRecDepth 20000 in
theorem gX5_stem_X5_in : GoodIn wsX5_stem (va_wsS RX5 66 yX5_in wsX5_in) := goodIn_app (goodIn_of _ (by decide +kernel)) ggX5_stem_X5_in
theorem dX5_stem_0 : decode cX5_stem 0 = .ok (.aload_n 0, 1) := by decide +kernel
theorem dX5_stem_1 : decode cX5_stem 1 = .ok (.invokevirtual 108, 3) := by decide +kernel
theorem dX5_stem_4 : decode cX5_stem 4 = .ok (.iload_n 1, 1) := by decide +kernel
theorem dX5_stem_5 : decode cX5_stem 5 = .ok (.iconst 0, 1) := by decide +kernel
theorem dX5_stem_6 : decode cX5_stem 6 = .ok (.aload_n 0, 1) := by decide +kernel
theorem dX5_stem_7 : decode cX5_stem 7 = .ok (.getfield 89, 3) := by decide +kernel
theorem dX5_stem_10 : decode cX5_stem 10 = .ok (.iconst 1, 1) := by decide +kernel
theorem dX5_stem_11 : decode cX5_stem 11 = .ok (.isub, 1) := by decide +kernel
theorem dX5_stem_12 : decode cX5_stem 12 = .ok (.invokestatic 66, 3) := by decide +kernel
theorem dX5_stem_15 : decode cX5_stem 15 = .ok (.ifCond .ne 5, 3) := by decide +kernel
theorem dX5_stem_18 : decode cX5_stem 18 = .ok (.iconst (-1), 1) := by decide +kernel
theorem dX5_stem_19 : decode cX5_stem 19 = .ok (.ireturn, 1) := by decide +kernel
theorem dX5_stem_20 : decode cX5_stem 20 = .ok (.iload_n 2, 1) := by decide +kernel
theorem dX5_stem_21 : decode cX5_stem 21 = .ok (.tableswitch 59 0 3 #[31, 38, 45, 52], 31) := by decide +kernel
theorem dX5_stem_52 : decode cX5_stem 52 = .ok (.aload_n 0, 1) := by decide +kernel
theorem dX5_stem_53 : decode cX5_stem 53 = .ok (.getfield 22, 3) := by decide +kernel
theorem dX5_stem_56 : decode cX5_stem 56 = .ok (.iload_n 1, 1) := by decide +kernel
theorem dX5_stem_57 : decode cX5_stem 57 = .ok (.iaload, 1) := by decide +kernel
theorem dX5_stem_58 : decode cX5_stem 58 = .ok (.ireturn, 1) := by decide +kernel
theorem dX5_stem_59 : decode cX5_stem 59 = .ok (.aload_n 0, 1) := by decide +kernel
theorem dX5_stem_60 : decode cX5_stem 60 = .ok (.getfield 25, 3) := by decide +kernel
theorem dX5_stem_63 : decode cX5_stem 63 = .ok (.iload_n 1, 1) := by decide +kernel
theorem dX5_stem_64 : decode cX5_stem 64 = .ok (.iaload, 1) := by decide +kernel
theorem dX5_stem_65 : decode cX5_stem 65 = .ok (.ireturn, 1) := by decide +kernel
theorem dX5_stem_66 : decode cX5_stem 66 = .ok (.aload_n 0, 1) := by decide +kernel
theorem dX5_stem_67 : decode cX5_stem 67 = .ok (.getfield 28, 3) := by decide +kernel
theorem dX5_stem_70 : decode cX5_stem 70 = .ok (.iload_n 1, 1) := by decide +kernel
theorem dX5_stem_71 : decode cX5_stem 71 = .ok (.iaload, 1) := by decide +kernel
theorem dX5_stem_72 : decode cX5_stem 72 = .ok (.ireturn, 1) := by decide +kernel
theorem dX5_stem_73 : decode cX5_stem 73 = .ok (.aload_n 0, 1) := by decide +kernel
theorem dX5_stem_74 : decode cX5_stem 74 = .ok (.getfield 31, 3) := by decide +kernel
theorem dX5_stem_77 : decode cX5_stem 77 = .ok (.iload_n 1, 1) := by decide +kernel
theorem dX5_stem_78 : decode cX5_stem 78 = .ok (.iaload, 1) := by decide +kernel
theorem dX5_stem_79 : decode cX5_stem 79 = .ok (.ireturn, 1) := by decide +kernel
theorem dX5_stem_80 : decode cX5_stem 80 = .ok (.iload_n 2, 1) := by decide +kernel
theorem dX5_stem_81 : decode cX5_stem 81 = .ok (.iconst 4, 1) := by decide +kernel
theorem dX5_stem_82 : decode cX5_stem 82 = .ok (.if_icmp .ne 12, 3) := by decide +kernel
theorem dX5_stem_85 : decode cX5_stem 85 = .ok (.aload_n 0, 1) := by decide +kernel
theorem dX5_stem_86 : decode cX5_stem 86 = .ok (.getfield 34, 3) := by decide +kernel
theorem dX5_stem_89 : decode cX5_stem 89 = .ok (.iload_n 1, 1) := by decide +kernel
theorem dX5_stem_90 : decode cX5_stem 90 = .ok (.iaload, 1) := by decide +kernel
theorem dX5_stem_91 : decode cX5_stem 91 = .ok (.goto 5, 3) := by decide +kernel
theorem dX5_stem_94 : decode cX5_stem 94 = .ok (.bipush (-2), 2) := by decide +kernel
theorem dX5_stem_96 : decode cX5_stem 96 = .ok (.ireturn, 1) := by decide +kernel
set_option maxRecDepth 20000 in
theorem ggX5_kind_X5_layStems : GoodIn wsX5_kind wsX5_layStems := goodIn_r _ [9, 10, 11, 12, 13, 14, 15, 16, 17, 18, 19, 8, 20, 21, 22, 23, 24, 25, 26, 27, 28, 29, 30, 31, 32, 33, 1, 34, 3, 35, 2, 4, 36, 37, 38, 39, 43, 44, 45, 46, 47, 48, 49, 50, 51, 52, 53, 54, 55, 56, 57, 58, 59, 60, 61, 62, 63, 64, 65] (by decide +kernel) (by decide +kernel)
set_option maxRecDepth 20000 in
theorem gX5_kind_X5_layStems : GoodIn wsX5_kind (wsV RX5 108 RX5 yX5_layStems wsX5_layStems) := goodIn_app (goodIn_of _ (by decide +kernel)) ggX5_kind_X5_layStems
set_option maxRecDepth 20000 in
theorem ggX5_kind_X5_in : GoodIn wsX5_kind wsX5_in := goodIn_r _ [42] (by decide +kernel) (by decide +kernel)
set_option maxRecDepth 20000 in
theorem gX5_kind_X5_in : GoodIn wsX5_kind (va_wsS RX5 66 yX5_in wsX5_in) := goodIn_app (goodIn_of _ (by decide +kernel)) ggX5_kind_X5_in
theorem dX5_kind_0 : decode cX5_kind 0 = .ok (.aload_n 0, 1) := by decide +kernel
theorem dX5_kind_1 : decode cX5_kind 1 = .ok (.invokevirtual 108, 3) := by decide +kernel
theorem dX5_kind_4 : decode cX5_kind 4 = .ok (.iload_n 1, 1) := by decide +kernel
theorem dX5_kind_5 : decode cX5_kind 5 = .ok (.iconst 0, 1) := by decide +kernel
theorem dX5_kind_6 : decode cX5_kind 6 = .ok (.aload_n 0, 1) := by decide +kernel
theorem dX5_kind_7 : decode cX5_kind 7 = .ok (.getfield 102, 3) := by decide +kernel
theorem dX5_kind_10 : decode cX5_kind 10 = .ok (.iconst 1, 1) := by decide +kernel
theorem dX5_kind_11 : decode cX5_kind 11 = .ok (.isub, 1) := by decide +kernel
theorem dX5_kind_12 : decode cX5_kind 12 = .ok (.invokestatic 66, 3) := by decide +kernel
theorem dX5_kind_15 : decode cX5_kind 15 = .ok (.ifCond .ne 5, 3) := by decide +kernel
theorem dX5_kind_18 : decode cX5_kind 18 = .ok (.iconst (-1), 1) := by decide +kernel
theorem dX5_kind_19 : decode cX5_kind 19 = .ok (.ireturn, 1) := by decide +kernel
theorem dX5_kind_20 : decode cX5_kind 20 = .ok (.iload_n 2, 1) := by decide +kernel
theorem dX5_kind_21 : decode cX5_kind 21 = .ok (.ifCond .ne 12, 3) := by decide +kernel
theorem dX5_kind_24 : decode cX5_kind 24 = .ok (.aload_n 0, 1) := by decide +kernel
theorem dX5_kind_25 : decode cX5_kind 25 = .ok (.getfield 40, 3) := by decide +kernel
theorem dX5_kind_28 : decode cX5_kind 28 = .ok (.iload_n 1, 1) := by decide +kernel
theorem dX5_kind_29 : decode cX5_kind 29 = .ok (.iaload, 1) := by decide +kernel
theorem dX5_kind_30 : decode cX5_kind 30 = .ok (.goto 40, 3) := by decide +kernel
theorem dX5_kind_33 : decode cX5_kind 33 = .ok (.iload_n 2, 1) := by decide +kernel
theorem dX5_kind_34 : decode cX5_kind 34 = .ok (.iconst 1, 1) := by decide +kernel
theorem dX5_kind_35 : decode cX5_kind 35 = .ok (.if_icmp .ne 12, 3) := by decide +kernel
theorem dX5_kind_38 : decode cX5_kind 38 = .ok (.aload_n 0, 1) := by decide +kernel
theorem dX5_kind_39 : decode cX5_kind 39 = .ok (.getfield 43, 3) := by decide +kernel
theorem dX5_kind_42 : decode cX5_kind 42 = .ok (.iload_n 1, 1) := by decide +kernel
theorem dX5_kind_43 : decode cX5_kind 43 = .ok (.iaload, 1) := by decide +kernel
theorem dX5_kind_44 : decode cX5_kind 44 = .ok (.goto 26, 3) := by decide +kernel
theorem dX5_kind_47 : decode cX5_kind 47 = .ok (.iload_n 2, 1) := by decide +kernel
theorem dX5_kind_48 : decode cX5_kind 48 = .ok (.iconst 2, 1) := by decide +kernel
theorem dX5_kind_49 : decode cX5_kind 49 = .ok (.if_icmp .ne 19, 3) := by decide +kernel
theorem dX5_kind_52 : decode cX5_kind 52 = .ok (.aload_n 0, 1) := by decide +kernel
theorem dX5_kind_53 : decode cX5_kind 53 = .ok (.getfield 46, 3) := by decide +kernel
theorem dX5_kind_56 : decode cX5_kind 56 = .ok (.iload_n 1, 1) := by decide +kernel
theorem dX5_kind_57 : decode cX5_kind 57 = .ok (.iaload, 1) := by decide +kernel
theorem dX5_kind_58 : decode cX5_kind 58 = .ok (.aload_n 0, 1) := by decide +kernel
theorem dX5_kind_59 : decode cX5_kind 59 = .ok (.getfield 40, 3) := by decide +kernel
theorem dX5_kind_62 : decode cX5_kind 62 = .ok (.iload_n 1, 1) := by decide +kernel
theorem dX5_kind_63 : decode cX5_kind 63 = .ok (.iaload, 1) := by decide +kernel
theorem dX5_kind_64 : decode cX5_kind 64 = .ok (.idiv, 1) := by decide +kernel
theorem dX5_kind_65 : decode cX5_kind 65 = .ok (.goto 5, 3) := by decide +kernel
theorem dX5_kind_68 : decode cX5_kind 68 = .ok (.bipush (-2), 2) := by decide +kernel
theorem dX5_kind_70 : decode cX5_kind 70 = .ok (.ireturn, 1) := by decide +kernel
theorem dX5_dotsOf_0 : decode cX5_dotsOf 0 = .ok (.iconst 2, 1) := by decide +kernel
theorem dX5_dotsOf_1 : decode cX5_dotsOf 1 = .ok (.aload_n 0, 1) := by decide +kernel
theorem dX5_dotsOf_2 : decode cX5_dotsOf 2 = .ok (.getfield 46, 3) := by decide +kernel
theorem dX5_dotsOf_5 : decode cX5_dotsOf 5 = .ok (.iload_n 1, 1) := by decide +kernel
theorem dX5_dotsOf_6 : decode cX5_dotsOf 6 = .ok (.iaload, 1) := by decide +kernel
theorem dX5_dotsOf_7 : decode cX5_dotsOf 7 = .ok (.aload_n 0, 1) := by decide +kernel
theorem dX5_dotsOf_8 : decode cX5_dotsOf 8 = .ok (.getfield 40, 3) := by decide +kernel
theorem dX5_dotsOf_11 : decode cX5_dotsOf 11 = .ok (.iload_n 1, 1) := by decide +kernel
theorem dX5_dotsOf_12 : decode cX5_dotsOf 12 = .ok (.iaload, 1) := by decide +kernel
theorem dX5_dotsOf_13 : decode cX5_dotsOf 13 = .ok (.idiv, 1) := by decide +kernel
theorem dX5_dotsOf_14 : decode cX5_dotsOf 14 = .ok (.imul, 1) := by decide +kernel
theorem dX5_dotsOf_15 : decode cX5_dotsOf 15 = .ok (.iload_n 2, 1) := by decide +kernel
theorem dX5_dotsOf_16 : decode cX5_dotsOf 16 = .ok (.imul, 1) := by decide +kernel
theorem dX5_dotsOf_17 : decode cX5_dotsOf 17 = .ok (.sipush 1000, 3) := by decide +kernel
theorem dX5_dotsOf_20 : decode cX5_dotsOf 20 = .ok (.iadd, 1) := by decide +kernel
theorem dX5_dotsOf_21 : decode cX5_dotsOf 21 = .ok (.sipush 2000, 3) := by decide +kernel
theorem dX5_dotsOf_24 : decode cX5_dotsOf 24 = .ok (.idiv, 1) := by decide +kernel
theorem dX5_dotsOf_25 : decode cX5_dotsOf 25 = .ok (.istore_n 3, 1) := by decide +kernel
theorem dX5_dotsOf_26 : decode cX5_dotsOf 26 = .ok (.iload_n 3, 1) := by decide +kernel
theorem dX5_dotsOf_27 : decode cX5_dotsOf 27 = .ok (.iconst 1, 1) := by decide +kernel
theorem dX5_dotsOf_28 : decode cX5_dotsOf 28 = .ok (.if_icmp .ge 7, 3) := by decide +kernel
end
section
/-! ===== numbers: every int of the machine is read as an Int ===== -/
def iI (z : Int) : Int32 := Int32.ofInt z
def lI (z : Int) : Int64 := Int64.ofInt z
theorem iI_toInt {z : Int} (h : -2147483648 ≤ z ∧ z < 2147483648) : (iI z).toInt = z := Int32.toInt_ofInt_of_le (by omega) (by omega)
theorem lI_toInt {z : Int} (h : -9223372036854775808 ≤ z ∧ z < 9223372036854775808) : (lI z).toInt = z := Int64.toInt_ofInt_of_le (by omega) (by omega)
theorem iI_of (x : Int32) : ∃ z : Int, x = iI z ∧ -2147483648 ≤ z ∧ z < 2147483648 := by
  have h1 := Int32.le_toInt x
  have h2 := Int32.toInt_lt x
  exact ⟨x.toInt, (Int32.ofInt_toInt x).symm, by omega, by omega⟩
theorem iI_add (a b : Int) : iI a + iI b = iI (a + b) := (Int32.ofInt_add a b).symm
theorem iI_sub (a b : Int) : iI a - iI b = iI (a - b) := (Int32.ofInt_sub a b).symm
theorem iI_mul (a b : Int) : iI a * iI b = iI (a * b) := (Int32.ofInt_mul a b).symm
theorem lI_add (a b : Int) : lI a + lI b = lI (a + b) := (Int64.ofInt_add a b).symm
theorem lI_sub (a b : Int) : lI a - lI b = lI (a - b) := (Int64.ofInt_sub a b).symm
theorem lI_mul (a b : Int) : lI a * lI b = lI (a * b) := (Int64.ofInt_mul a b).symm
theorem lI_neg (a : Int) : -lI a = lI (-a) := (Int64.ofInt_neg a).symm
theorem iI_lt {a b : Int} (ha : -2147483648 ≤ a ∧ a < 2147483648) (hb : -2147483648 ≤ b ∧ b < 2147483648) : iI a < iI b ↔ a < b := by
  rw [Int32.lt_iff_toInt_lt, iI_toInt ha, iI_toInt hb]
theorem iI_le {a b : Int} (ha : -2147483648 ≤ a ∧ a < 2147483648) (hb : -2147483648 ≤ b ∧ b < 2147483648) : iI a ≤ iI b ↔ a ≤ b := by
  rw [Int32.le_iff_toInt_le, iI_toInt ha, iI_toInt hb]
theorem iI_eq {a b : Int} (ha : -2147483648 ≤ a ∧ a < 2147483648) (hb : -2147483648 ≤ b ∧ b < 2147483648) : iI a = iI b ↔ a = b := by
  rw [← Int32.toInt_inj, iI_toInt ha, iI_toInt hb]
theorem lI_lt {a b : Int} (ha : -9223372036854775808 ≤ a ∧ a < 9223372036854775808) (hb : -9223372036854775808 ≤ b ∧ b < 9223372036854775808) : lI a < lI b ↔ a < b := by
  rw [Int64.lt_iff_toInt_lt, lI_toInt ha, lI_toInt hb]
theorem lI_eq {a b : Int} (ha : -9223372036854775808 ≤ a ∧ a < 9223372036854775808) (hb : -9223372036854775808 ≤ b ∧ b < 9223372036854775808) : lI a = lI b ↔ a = b := by
  rw [← Int64.toInt_inj, lI_toInt ha, lI_toInt hb]
theorem iI_0 : iI 0 = 0 := rfl
theorem iI_div {a b : Int} (ha : -2147483648 ≤ a ∧ a < 2147483648) (hb : -2147483648 ≤ b ∧ b < 2147483648) : iI a / iI b = iI (a.tdiv b) :=
  (Int32.ofInt_tdiv (by show (-2147483648 : Int) ≤ a; omega) (by show a ≤ (2147483647 : Int); omega) (by show (-2147483648 : Int) ≤ b; omega) (by show b ≤ (2147483647 : Int); omega)).symm
theorem lI_div {a b : Int} (ha : -9223372036854775808 ≤ a ∧ a < 9223372036854775808) (hb : -9223372036854775808 ≤ b ∧ b < 9223372036854775808) : lI a / lI b = lI (a.tdiv b) :=
  (Int64.ofInt_tdiv (by show (-9223372036854775808 : Int) ≤ a; omega) (by show a ≤ (9223372036854775807 : Int); omega) (by show (-9223372036854775808 : Int) ≤ b; omega) (by show b ≤ (9223372036854775807 : Int); omega)).symm
theorem iI_rem {a b : Int} (ha : -2147483648 ≤ a ∧ a < 2147483648) (hb : -2147483648 ≤ b ∧ b < 2147483648) : iI a - iI a / iI b * iI b = iI (a.tmod b) := by
  rw [iI_div ha hb, iI_mul, iI_sub]
  congr 1
  have := Int.tmod_def a b
  rw [this, Int.mul_comm]
theorem iI_l {a : Int} (ha : -2147483648 ≤ a ∧ a < 2147483648) : (iI a).toInt64 = lI a := by
  apply Int64.toInt_inj.mp
  rw [Int32.toInt_toInt64, iI_toInt ha, lI_toInt (by omega)]
theorem iI_clamp {z : Int} (h : 0 ≤ z ∧ z < 2147483648) : (((iI z).toNatClampNeg : Nat) : Int) = z := by
  show (((iI z).toInt.toNat : Nat) : Int) = z
  rw [iI_toInt (by omega)]
  omega
theorem iI_in {z : Int} {n : Nat} (h : 0 ≤ z ∧ z < n) (hn : n < 2147483648) : vp_in (iI z) n := by
  rw [vp_in_iff, iI_toInt (by omega)]
  exact h
/-- three ways of a comparison of longs -/
def cmpz (a b : Int) : Int := if b < a then 1 else if a = b then 0 else -1
theorem cmpz_gt {a b : Int} : 0 < cmpz a b ↔ b < a := by
  unfold cmpz; split
  · simp; omega
  · split <;> simp <;> omega
theorem cmpz_lt {a b : Int} : cmpz a b < 0 ↔ a < b := by
  unfold cmpz; split
  · simp; omega
  · split <;> simp <;> omega
theorem cmpz_eq {a b : Int} : cmpz a b = 0 ↔ a = b := by
  unfold cmpz; split
  · simp; omega
  · split <;> simp <;> omega
theorem cmpz_R (a b : Int) : -2147483648 ≤ cmpz a b ∧ cmpz a b < 2147483648 := by
  unfold cmpz; split
  · simp
  · split <;> simp
theorem lg_cmpz {a b : Int} (ha : -9223372036854775808 ≤ a ∧ a < 9223372036854775808) (hb : -9223372036854775808 ≤ b ∧ b < 9223372036854775808) : lg_cmp (lI a) (lI b) = iI (cmpz a b) := by
  unfold lg_cmp cmpz
  simp only [lI_lt hb ha, lI_eq ha hb]
  split
  · rfl
  · split <;> rfl
/-! ===== the memory of a system: cells by number, places by Int ===== -/
abbrev Mem : Type := Nat → Int → Int
def up (M : Mem) (k : Nat) (j z : Int) : Mem := fun k' j' => if k' = k then (if j' = j then z else M k' j') else M k' j'
theorem up_s (M : Mem) (k : Nat) (j z : Int) : up M k j z k j = z := by simp [up]
theorem up_n {M : Mem} {k k' : Nat} {j z : Int} (h : k' ≠ k) : up M k j z k' = M k' := by funext i; simp [up, h]
theorem up_o {M : Mem} {k : Nat} {j j' z : Int} (h : j' ≠ j) : up M k j z k j' = M k j' := by simp [up, h]
theorem up_if (M : Mem) (k : Nat) (j z j' : Int) : up M k j z k j' = if j' = j then z else M k j' := by simp [up]
/-- a kind of cell: (0, n, _) n ints, (1, n, _) n longs, (2, n, _) n booleans, (3, n, cells) references, (4 + class, _, fields); a field: 0 an int, 1 a long, 2 + the cell that it refers to -/
abbrev Kd : Type := Nat × Nat × List Nat
def fV (a : Nat → Nat) (f : Int → Int) (i : Nat) : Nat → Value
  | 0 => .int (iI (f i))
  | 1 => .long (lI (f i))
  | q + 2 => .ref (a q)
def cE (T : Nat → ClassId) (a : Nat → Nat) (f : Int → Int) : Kd → va_E
  | (0, n, _) => .inl (T 0, n, .inl (fun j => iI (f j)))
  | (1, n, _) => .inl (T 1, n, .inr (.inl (fun j => lI (f j))))
  | (2, n, _) => .inl (T 2, n, .inl (fun j => iI (f j)))
  | (3, n, rs) => .inl (T 3, n, .inr (.inr (.inr (.inr (fun j => (rs[j]?).map a)))))
  | (c + 4, _, fs) => .inr (c, fs.zipIdx.map (fun p => fV a f p.2 p.1))
def wld (T : Nat → ClassId) (a : Nat → Nat) (L : List Kd) (M : Mem) : va_W := L.zipIdx.map (fun p => (a p.2, cE T a (M p.2) p.1))
def tysT (T : Nat → ClassId) : List (ClassId × FieldType) := [(T 0, .int), (T 1, .long), (T 2, .boolean), (T 3, .object "StemDots$Letter")]
theorem wld_at {T : Nat → ClassId} {a : Nat → Nat} {L : List Kd} {M : Mem} {k : Nat} {kd : Kd} (h : L[k]? = some kd) : (wld T a L M)[k]? = some (a k, cE T a (M k) kd) := by
  unfold wld
  rw [List.getElem?_map, List.getElem?_zipIdx, h]
  simp
theorem wld_len {T : Nat → ClassId} {a : Nat → Nat} {L : List Kd} {M : Mem} : (wld T a L M).length = L.length := by simp [wld]
theorem wld_inv {T : Nat → ClassId} {a : Nat → Nat} {L : List Kd} {M : Mem} {k : Nat} {q : Nat × va_E} (h : (wld T a L M)[k]? = some q) : ∃ kd, L[k]? = some kd ∧ q = (a k, cE T a (M k) kd) := by
  unfold wld at h
  rw [List.getElem?_map, List.getElem?_zipIdx] at h
  cases hk : L[k]? with
  | none => rw [hk] at h; simp at h
  | some kd => rw [hk] at h; simp at h; exact ⟨kd, rfl, h.symm⟩
theorem wld_D {T T' : Nat → ClassId} {a : Nat → Nat} {L : List Kd} {M M' : Mem} {A : Nat → Prop} (h : va_D A (wld T a L M)) : va_D A (wld T' a L M') := by
  refine ⟨fun i j p q hp hq e => ?_, fun k q hq => ?_⟩
  · obtain ⟨kd, h1, rfl⟩ := wld_inv hp
    obtain ⟨kd', h2, rfl⟩ := wld_inv hq
    exact h.1 i j _ _ (wld_at h1) (wld_at h2) e
  · obtain ⟨kd, h1, rfl⟩ := wld_inv hq
    exact h.2 k (a k, cE T a (M k) kd) (wld_at h1)
theorem wld_A {T T' : Nat → ClassId} {a : Nat → Nat} {L : List Kd} {M M' : Mem} {sz sz' q : Nat} (h : va_A (wld T a L M) sz q) (hs : sz' ≤ sz) : va_A (wld T' a L M') sz' q := by
  rcases h with ⟨k, e, h⟩ | h
  · obtain ⟨kd, h1, h2⟩ := wld_inv h
    rw [show q = a k from congrArg Prod.fst h2]
    exact Or.inl ⟨k, _, wld_at h1⟩
  · exact Or.inr (Nat.le_trans hs h)
theorem wld_ext {T : Nat → ClassId} {a : Nat → Nat} {L : List Kd} {w : va_W} {M : Mem} (hl : w.length = L.length) (h : ∀ (k : Nat) (kd : Kd), L[k]? = some kd → w[k]? = some (a k, cE T a (M k) kd)) : w = wld T a L M := by
  apply List.ext_getElem?
  intro k
  cases hk : L[k]? with
  | none =>
    have h1 : L.length ≤ k := by simpa using hk
    rw [List.getElem?_eq_none (by omega), List.getElem?_eq_none (by rw [wld_len]; exact h1)]
  | some kd => rw [h k kd hk, wld_at hk]
theorem wld_set {T : Nat → ClassId} {a : Nat → Nat} {L : List Kd} {M M' : Mem} {k : Nat} {kd : Kd} {e : va_E} (h : L[k]? = some kd) (he : cE T a (M' k) kd = e) (ho : ∀ j, j ≠ k → M' j = M j) : (wld T a L M).set k (a k, e) = wld T a L M' := by
  apply wld_ext
  · simp [wld_len]
  · intro j kd' hj
    by_cases hjk : j = k
    · subst hjk
      have : kd' = kd := Option.some.inj (hj.symm.trans h)
      subst this
      have hlt : j < (wld T a L M).length := by rw [wld_len]; exact (List.getElem?_eq_some_iff.mp hj).1
      rw [List.getElem?_set_self hlt, he]
    · rw [List.getElem?_set_ne (fun q => hjk q.symm), wld_at hj, ho j hjk]
/-! ===== locals by place ===== -/
def asL (lv : List (Option Value)) : List (Nat × Value) := lv.zipIdx.filterMap (fun p => p.1.map (fun v => (p.2, v)))
def lh (ls : Array Slot) (nL : Nat) (lv : List (Option Value)) : Prop := lv_has ls nL (asL lv)
theorem asL_mem {lv : List (Option Value)} {i : Nat} {v : Value} : (i, v) ∈ asL lv ↔ lv[i]? = some (some v) := by
  unfold asL
  rw [List.mem_filterMap]
  constructor
  · rintro ⟨⟨x, j⟩, hm, hx⟩
    cases x with
    | none => cases hx
    | some w =>
      simp at hx
      obtain ⟨rfl, rfl⟩ := hx
      have := List.mem_zipIdx_iff_getElem?.mp hm
      simpa using this
  · intro h
    exact ⟨(some v, i), List.mem_zipIdx_iff_getElem?.mpr (by simpa using h), rfl⟩
theorem lh_at {ls : Array Slot} {nL : Nat} {lv : List (Option Value)} (h : lh ls nL lv) {i : Nat} {v : Value} (hi : lv[i]? = some (some v)) : ls[i]? = some (.val v) := h.2.2 (i, v) (asL_mem.mpr hi)
def st1 (lv : List (Option Value)) (i : Nat) (v : Value) : List (Option Value) := lv.zipIdx.map (fun p => if p.2 = i then some v else if p.2 + 1 = i then (match p.1 with | some w => (if w.category = 2 then none else some w) | none => none) else p.1)
def st2 (lv : List (Option Value)) (i : Nat) (v : Value) : List (Option Value) := lv.zipIdx.map (fun p => if p.2 = i then some v else if p.2 = i + 1 then none else if p.2 + 1 = i then (match p.1 with | some w => (if w.category = 2 then none else some w) | none => none) else p.1)
theorem lh_st1 {ls : Array Slot} {nL : Nat} {lv : List (Option Value)} {i : Nat} {v : Value} (h : lv_has ls nL ((i, v) :: (asL lv).filter (fun q => !(q.1 == i) && !(q.1 + 1 == i && q.2.category == 2)))) : lh ls nL (st1 lv i v) := by
  refine ⟨h.1, h.2.1, fun q hq => ?_⟩
  obtain ⟨j, w⟩ := q
  have h1 := asL_mem.mp hq
  unfold st1 at h1
  rw [List.getElem?_map, List.getElem?_zipIdx] at h1
  apply h.2.2
  cases hx : lv[j]? with
  | none => rw [hx] at h1; simp at h1
  | some x =>
    rw [hx] at h1
    simp only [Option.map_some, Nat.zero_add, Option.some.injEq] at h1
    by_cases hj : j = i
    · subst hj
      simp at h1
      subst h1
      exact List.mem_cons_self
    · rw [if_neg hj] at h1
      apply List.mem_cons_of_mem
      rw [List.mem_filter]
      by_cases hj1 : j + 1 = i
      · rw [if_pos hj1] at h1
        cases x with
        | none => cases h1
        | some y =>
          simp only at h1
          split at h1
          · cases h1
          · rename_i hc
            cases h1
            exact ⟨asL_mem.mpr hx, by simp [hj, hc]⟩
      · rw [if_neg hj1] at h1
        subst h1
        exact ⟨asL_mem.mpr hx, by simp [hj, hj1]⟩
theorem lh_st2 {ls : Array Slot} {nL : Nat} {lv : List (Option Value)} {i : Nat} {v : Value} (h : lv_has ls nL ((i, v) :: (asL lv).filter (fun q => !(q.1 == i) && (!(q.1 == i + 1) && !(q.1 + 1 == i && q.2.category == 2))))) : lh ls nL (st2 lv i v) := by
  refine ⟨h.1, h.2.1, fun q hq => ?_⟩
  obtain ⟨j, w⟩ := q
  have h1 := asL_mem.mp hq
  unfold st2 at h1
  rw [List.getElem?_map, List.getElem?_zipIdx] at h1
  apply h.2.2
  cases hx : lv[j]? with
  | none => rw [hx] at h1; simp at h1
  | some x =>
    rw [hx] at h1
    simp only [Option.map_some, Nat.zero_add, Option.some.injEq] at h1
    by_cases hj : j = i
    · subst hj
      simp at h1
      subst h1
      exact List.mem_cons_self
    · rw [if_neg hj] at h1
      apply List.mem_cons_of_mem
      rw [List.mem_filter]
      by_cases hj2 : j = i + 1
      · rw [if_pos hj2] at h1; cases h1
      · rw [if_neg hj2] at h1
        by_cases hj1 : j + 1 = i
        · rw [if_pos hj1] at h1
          cases x with
          | none => cases h1
          | some y =>
            simp only at h1
            split at h1
            · cases h1
            · rename_i hc
              cases h1
              exact ⟨asL_mem.mpr hx, by simp [hj, hj2, hc]⟩
        · rw [if_neg hj1] at h1
          subst h1
          exact ⟨asL_mem.mpr hx, by simp [hj, hj2, hj1]⟩
theorem lh_weak {ls : Array Slot} {nL : Nat} {lv lv' : List (Option Value)} (h : lh ls nL lv) (hs : ∀ (i : Nat) (v : Value), lv'[i]? = some (some v) → lv[i]? = some (some v)) : lh ls nL lv' :=
  ⟨h.1, h.2.1, fun q hq => h.2.2 q (by obtain ⟨i, v⟩ := q; exact asL_mem.mpr (hs i v (asL_mem.mp hq)))⟩
end
section
abbrev vwCl : List vw_C := [(RX0, TX0, 12), (RX1, TX1, 6), (RX2, TX2, 3), (RX3, TX3, 11), (RX4, TX4, 6), (RX5, TX5, 23)]
/-! ===== the judgement: from here on, whatever heap holds the world, the machine comes to Q ===== -/
def GG (p : Program) (l : Launch) (e : Env) (R : Room) (s : State) (m : MethodId) (args : Array Value) (below : List Frame) (meth : Method) (c : Code) (Q : State → Prop) (D : va_G) (A : Nat → Prop) (nL : Nat) (ws : va_W) (pc : Nat) (lv : List (Option Value)) (st : List Value) : Prop :=
  ∀ (H : Heap) (locs : List Loc) (ls : Array Slot), va_P D vwCl ws H → va_D A ws → va_S A s.heap H locs → lh ls nL lv → W p l e R s m args below meth c H locs 0 0 Q (F0 m pc ls st)
section ROWS
variable {p : Program} {l : Launch} {e : Env} {R : Room} {s : State} {m : MethodId} {args : Array Value} {below : List Frame} {meth : Method} {c : Code} {Q : State → Prop}
variable {D : va_G} {A : Nat → Prop} {nL : Nat} {ws : va_W} {pc pc' tgt : Nat} {lv lv' : List (Option Value)} {st : List Value} {cc : ByteArray} {Ts : List Cond} {own : String} {T : Nat → ClassId} {a : Nat → Nat} {L : List Kd} {M : Mem}
theorem g_iconst (F : CallFix p m c cc nL s args Ts own) {n : Int} (hdg : decode cc pc = .ok (.iconst n, 1)) (hp : pc + 1 = pc') (k : GG p l e R s m args below meth c Q D A nL ws pc' lv (.int (iI n) :: st)) : GG p l e R s m args below meth c Q D A nL ws pc lv st := by
  subst hp; exact fun H locs ls hP hD hS hl => lv_iconst F.1 F.2.1 hdg rfl (k H locs ls hP hD hS hl)
theorem g_bipush (F : CallFix p m c cc nL s args Ts own) {n : Int} (hdg : decode cc pc = .ok (.bipush n, 2)) (hp : pc + 2 = pc') (hv : (Int8.ofInt n).toInt32 = iI n) (k : GG p l e R s m args below meth c Q D A nL ws pc' lv (.int (iI n) :: st)) : GG p l e R s m args below meth c Q D A nL ws pc lv st := by
  subst hp; exact fun H locs ls hP hD hS hl => lv_bipush F.1 F.2.1 hdg hv (k H locs ls hP hD hS hl)
theorem g_sipush (F : CallFix p m c cc nL s args Ts own) {n : Int} (hdg : decode cc pc = .ok (.sipush n, 3)) (hp : pc + 3 = pc') (hv : (Int16.ofInt n).toInt32 = iI n) (k : GG p l e R s m args below meth c Q D A nL ws pc' lv (.int (iI n) :: st)) : GG p l e R s m args below meth c Q D A nL ws pc lv st := by
  subst hp; exact fun H locs ls hP hD hS hl => lv_sipush F.1 F.2.1 hdg hv (k H locs ls hP hD hS hl)
theorem g_lconst (F : CallFix p m c cc nL s args Ts own) {n : Fin 2} {z : Int} (hdg : decode cc pc = .ok (.lconst n, 1)) (hp : pc + 1 = pc') (hv : Int64.ofNat (n : Nat) = lI z) (k : GG p l e R s m args below meth c Q D A nL ws pc' lv (.long (lI z) :: st)) : GG p l e R s m args below meth c Q D A nL ws pc lv st := by
  subst hp; exact fun H locs ls hP hD hS hl => lv_lconst F.1 F.2.1 hdg hv (k H locs ls hP hD hS hl)
theorem g_ldc (F : CallFix p m c cc nL s args Ts own) {idx : Nat} {v : Int32} {z : Int} (hdg : decode cc pc = .ok (.ldc idx, 2)) (hp : pc + 2 = pc') (hw : Jvm.Cond.constant own idx v ∈ Ts) (hv : v = iI z) (k : GG p l e R s m args below meth c Q D A nL ws pc' lv (.int (iI z) :: st)) : GG p l e R s m args below meth c Q D A nL ws pc lv st := by
  subst hp; subst hv; exact fun H locs ls hP hD hS hl => lv_ldc F.1 F.2.1 F.2.2.2.1 (F.2.2.2.2 _ hw) hdg (k H locs ls hP hD hS hl)
theorem g_ldc2 (F : CallFix p m c cc nL s args Ts own) {idx : Nat} {v : Int64} {z : Int} (hdg : decode cc pc = .ok (.ldc2_w idx, 3)) (hp : pc + 3 = pc') (hw : Jvm.Cond.constantLong own idx v ∈ Ts) (hv : v = lI z) (k : GG p l e R s m args below meth c Q D A nL ws pc' lv (.long (lI z) :: st)) : GG p l e R s m args below meth c Q D A nL ws pc lv st := by
  subst hp; subst hv; exact fun H locs ls hP hD hS hl => lv_ldc2 F.1 F.2.1 F.2.2.2.1 (F.2.2.2.2 _ hw) hdg (k H locs ls hP hD hS hl)
theorem g_iload_n (F : CallFix p m c cc nL s args Ts own) {j : Fin 4} {x : Int32} (hdg : decode cc pc = .ok (.iload_n j, 1)) (hp : pc + 1 = pc') (hl : lv[(j : Nat)]? = some (some (.int x))) (k : GG p l e R s m args below meth c Q D A nL ws pc' lv (.int x :: st)) : GG p l e R s m args below meth c Q D A nL ws pc lv st := by
  subst hp; exact fun H locs ls hP hD hS h => lv_iload_n F.1 F.2.1 hdg rfl (lh_at h hl) (k H locs ls hP hD hS h)
theorem g_iload (F : CallFix p m c cc nL s args Ts own) {j : Nat} {x : Int32} (hdg : decode cc pc = .ok (.iload j, 2)) (hp : pc + 2 = pc') (hl : lv[j]? = some (some (.int x))) (k : GG p l e R s m args below meth c Q D A nL ws pc' lv (.int x :: st)) : GG p l e R s m args below meth c Q D A nL ws pc lv st := by
  subst hp; exact fun H locs ls hP hD hS h => lv_iload F.1 F.2.1 hdg (lh_at h hl) (k H locs ls hP hD hS h)
theorem g_lload_n (F : CallFix p m c cc nL s args Ts own) {j : Fin 4} {x : Int64} (hdg : decode cc pc = .ok (.lload_n j, 1)) (hp : pc + 1 = pc') (hl : lv[(j : Nat)]? = some (some (.long x))) (k : GG p l e R s m args below meth c Q D A nL ws pc' lv (.long x :: st)) : GG p l e R s m args below meth c Q D A nL ws pc lv st := by
  subst hp; exact fun H locs ls hP hD hS h => lv_lload_n F.1 F.2.1 hdg rfl (lh_at h hl) (k H locs ls hP hD hS h)
theorem g_lload (F : CallFix p m c cc nL s args Ts own) {j : Nat} {x : Int64} (hdg : decode cc pc = .ok (.lload j, 2)) (hp : pc + 2 = pc') (hl : lv[j]? = some (some (.long x))) (k : GG p l e R s m args below meth c Q D A nL ws pc' lv (.long x :: st)) : GG p l e R s m args below meth c Q D A nL ws pc lv st := by
  subst hp; exact fun H locs ls hP hD hS h => lv_lload F.1 F.2.1 hdg (lh_at h hl) (k H locs ls hP hD hS h)
theorem g_aload_n (F : CallFix p m c cc nL s args Ts own) {j : Fin 4} {x : Nat} (hdg : decode cc pc = .ok (.aload_n j, 1)) (hp : pc + 1 = pc') (hl : lv[(j : Nat)]? = some (some (.ref x))) (k : GG p l e R s m args below meth c Q D A nL ws pc' lv (.ref x :: st)) : GG p l e R s m args below meth c Q D A nL ws pc lv st := by
  subst hp; exact fun H locs ls hP hD hS h => lv_aload_n F.1 F.2.1 hdg rfl (lh_at h hl) (k H locs ls hP hD hS h)
theorem g_aload (F : CallFix p m c cc nL s args Ts own) {j : Nat} {x : Nat} (hdg : decode cc pc = .ok (.aload j, 2)) (hp : pc + 2 = pc') (hl : lv[j]? = some (some (.ref x))) (k : GG p l e R s m args below meth c Q D A nL ws pc' lv (.ref x :: st)) : GG p l e R s m args below meth c Q D A nL ws pc lv st := by
  subst hp; exact fun H locs ls hP hD hS h => lv_aload F.1 F.2.1 hdg (lh_at h hl) (k H locs ls hP hD hS h)
theorem g_istore_n (F : CallFix p m c cc nL s args Ts own) {j : Fin 4} {x : Int32} (hdg : decode cc pc = .ok (.istore_n j, 1)) (hp : pc + 1 = pc') (hj : (j : Nat) < nL) (hl : st1 lv (j : Nat) (.int x) = lv') (k : GG p l e R s m args below meth c Q D A nL ws pc' lv' st) : GG p l e R s m args below meth c Q D A nL ws pc lv (.int x :: st) := by
  subst hp; subst hl; exact fun H locs ls hP hD hS h => lv_istore_n F.1 F.2.1 hdg rfl h hj rfl (fun ls' h' => k H locs ls' hP hD hS (lh_st1 h'))
theorem g_istore (F : CallFix p m c cc nL s args Ts own) {j : Nat} {x : Int32} (hdg : decode cc pc = .ok (.istore j, 2)) (hp : pc + 2 = pc') (hj : j < nL) (hl : st1 lv j (.int x) = lv') (k : GG p l e R s m args below meth c Q D A nL ws pc' lv' st) : GG p l e R s m args below meth c Q D A nL ws pc lv (.int x :: st) := by
  subst hp; subst hl; exact fun H locs ls hP hD hS h => lv_istore F.1 F.2.1 hdg h hj rfl (fun ls' h' => k H locs ls' hP hD hS (lh_st1 h'))
theorem g_lstore_n (F : CallFix p m c cc nL s args Ts own) {j : Fin 4} {x : Int64} (hdg : decode cc pc = .ok (.lstore_n j, 1)) (hp : pc + 1 = pc') (hj : (j : Nat) + 1 < nL) (hl : st2 lv (j : Nat) (.long x) = lv') (k : GG p l e R s m args below meth c Q D A nL ws pc' lv' st) : GG p l e R s m args below meth c Q D A nL ws pc lv (.long x :: st) := by
  subst hp; subst hl; exact fun H locs ls hP hD hS h => lv_lstore_n F.1 F.2.1 hdg rfl h hj rfl (fun ls' h' => k H locs ls' hP hD hS (lh_st2 h'))
theorem g_lstore (F : CallFix p m c cc nL s args Ts own) {j : Nat} {x : Int64} (hdg : decode cc pc = .ok (.lstore j, 2)) (hp : pc + 2 = pc') (hj : j + 1 < nL) (hl : st2 lv j (.long x) = lv') (k : GG p l e R s m args below meth c Q D A nL ws pc' lv' st) : GG p l e R s m args below meth c Q D A nL ws pc lv (.long x :: st) := by
  subst hp; subst hl; exact fun H locs ls hP hD hS h => lv_lstore F.1 F.2.1 hdg h hj rfl (fun ls' h' => k H locs ls' hP hD hS (lh_st2 h'))
theorem g_astore_n (F : CallFix p m c cc nL s args Ts own) {j : Fin 4} {x : Nat} (hdg : decode cc pc = .ok (.astore_n j, 1)) (hp : pc + 1 = pc') (hj : (j : Nat) < nL) (hl : st1 lv (j : Nat) (.ref x) = lv') (k : GG p l e R s m args below meth c Q D A nL ws pc' lv' st) : GG p l e R s m args below meth c Q D A nL ws pc lv (.ref x :: st) := by
  subst hp; subst hl; exact fun H locs ls hP hD hS h => lv_astore_n F.1 F.2.1 hdg rfl h hj rfl (fun ls' h' => k H locs ls' hP hD hS (lh_st1 h'))
theorem g_iinc (F : CallFix p m c cc nL s args Ts own) {j : Nat} {n z : Int} (hdg : decode cc pc = .ok (.iinc j n, 3)) (hp : pc + 3 = pc') (hx : lv[j]? = some (some (.int (iI z)))) (hj : j < nL) (hl : st1 lv j (.int (iI (z + n))) = lv') (k : GG p l e R s m args below meth c Q D A nL ws pc' lv' st) : GG p l e R s m args below meth c Q D A nL ws pc lv st := by
  subst hp; subst hl
  intro H locs ls hP hD hS h
  obtain ⟨i, hi⟩ := List.getElem?_of_mem (asL_mem.mpr hx)
  exact lv_iinc F.1 F.2.1 hdg h hi (iI_add z n) hj rfl (fun ls' h' => k H locs ls' hP hD hS (lh_st1 h'))
theorem g_lvw (lv' : List (Option Value)) (hs : ∀ (i : Nat) (v : Value), lv'[i]? = some (some v) → lv[i]? = some (some v)) (k : GG p l e R s m args below meth c Q D A nL ws pc lv' st) : GG p l e R s m args below meth c Q D A nL ws pc lv st :=
  fun H locs ls hP hD hS h => k H locs ls hP hD hS (lh_weak h hs)
theorem g_iadd (F : CallFix p m c cc nL s args Ts own) {x y : Int} (hdg : decode cc pc = .ok (.iadd, 1)) (hp : pc + 1 = pc') (k : GG p l e R s m args below meth c Q D A nL ws pc' lv (.int (iI (x + y)) :: st)) : GG p l e R s m args below meth c Q D A nL ws pc lv (.int (iI y) :: .int (iI x) :: st) := by
  subst hp; exact fun H locs ls hP hD hS h => lv_iadd F.1 F.2.1 hdg (by rw [iI_add]; exact k H locs ls hP hD hS h)
theorem g_isub (F : CallFix p m c cc nL s args Ts own) {x y : Int} (hdg : decode cc pc = .ok (.isub, 1)) (hp : pc + 1 = pc') (k : GG p l e R s m args below meth c Q D A nL ws pc' lv (.int (iI (x - y)) :: st)) : GG p l e R s m args below meth c Q D A nL ws pc lv (.int (iI y) :: .int (iI x) :: st) := by
  subst hp; exact fun H locs ls hP hD hS h => lv_isub F.1 F.2.1 hdg (by rw [iI_sub]; exact k H locs ls hP hD hS h)
theorem g_imul (F : CallFix p m c cc nL s args Ts own) {x y : Int} (hdg : decode cc pc = .ok (.imul, 1)) (hp : pc + 1 = pc') (k : GG p l e R s m args below meth c Q D A nL ws pc' lv (.int (iI (x * y)) :: st)) : GG p l e R s m args below meth c Q D A nL ws pc lv (.int (iI y) :: .int (iI x) :: st) := by
  subst hp; exact fun H locs ls hP hD hS h => lv_imul F.1 F.2.1 hdg (by rw [iI_mul]; exact k H locs ls hP hD hS h)
theorem g_idiv (F : CallFix p m c cc nL s args Ts own) {x y : Int} (hdg : decode cc pc = .ok (.idiv, 1)) (hp : pc + 1 = pc') (hx : -2147483648 ≤ x ∧ x < 2147483648) (hy : -2147483648 ≤ y ∧ y < 2147483648) (h0 : y ≠ 0) (k : GG p l e R s m args below meth c Q D A nL ws pc' lv (.int (iI (x.tdiv y)) :: st)) : GG p l e R s m args below meth c Q D A nL ws pc lv (.int (iI y) :: .int (iI x) :: st) := by
  subst hp; exact fun H locs ls hP hD hS h => lv_idiv F.1 F.2.1 hdg (by rw [← iI_0, iI_eq hy (by omega)]; exact h0) (by rw [iI_div hx hy]; exact k H locs ls hP hD hS h)
theorem g_irem (F : CallFix p m c cc nL s args Ts own) {x y : Int} (hdg : decode cc pc = .ok (.irem, 1)) (hp : pc + 1 = pc') (hx : -2147483648 ≤ x ∧ x < 2147483648) (hy : -2147483648 ≤ y ∧ y < 2147483648) (h0 : y ≠ 0) (k : GG p l e R s m args below meth c Q D A nL ws pc' lv (.int (iI (x.tmod y)) :: st)) : GG p l e R s m args below meth c Q D A nL ws pc lv (.int (iI y) :: .int (iI x) :: st) := by
  subst hp; exact fun H locs ls hP hD hS h => lv_irem F.1 F.2.1 hdg (by rw [← iI_0, iI_eq hy (by omega)]; exact h0) (by rw [iI_rem hx hy]; exact k H locs ls hP hD hS h)
theorem g_i2l (F : CallFix p m c cc nL s args Ts own) {x : Int} (hdg : decode cc pc = .ok (.i2l, 1)) (hp : pc + 1 = pc') (hx : -2147483648 ≤ x ∧ x < 2147483648) (k : GG p l e R s m args below meth c Q D A nL ws pc' lv (.long (lI x) :: st)) : GG p l e R s m args below meth c Q D A nL ws pc lv (.int (iI x) :: st) := by
  subst hp; exact fun H locs ls hP hD hS h => lv_i2l F.1 F.2.1 hdg (iI_l hx) (k H locs ls hP hD hS h)
theorem g_ladd (F : CallFix p m c cc nL s args Ts own) {x y : Int} (hdg : decode cc pc = .ok (.ladd, 1)) (hp : pc + 1 = pc') (k : GG p l e R s m args below meth c Q D A nL ws pc' lv (.long (lI (x + y)) :: st)) : GG p l e R s m args below meth c Q D A nL ws pc lv (.long (lI y) :: .long (lI x) :: st) := by
  subst hp; exact fun H locs ls hP hD hS h => lv_ladd F.1 F.2.1 hdg (by rw [lI_add]; exact k H locs ls hP hD hS h)
theorem g_lsub (F : CallFix p m c cc nL s args Ts own) {x y : Int} (hdg : decode cc pc = .ok (.lsub, 1)) (hp : pc + 1 = pc') (k : GG p l e R s m args below meth c Q D A nL ws pc' lv (.long (lI (x - y)) :: st)) : GG p l e R s m args below meth c Q D A nL ws pc lv (.long (lI y) :: .long (lI x) :: st) := by
  subst hp; exact fun H locs ls hP hD hS h => lv_lsub F.1 F.2.1 hdg (by rw [lI_sub]; exact k H locs ls hP hD hS h)
theorem g_lmul (F : CallFix p m c cc nL s args Ts own) {x y : Int} (hdg : decode cc pc = .ok (.lmul, 1)) (hp : pc + 1 = pc') (k : GG p l e R s m args below meth c Q D A nL ws pc' lv (.long (lI (x * y)) :: st)) : GG p l e R s m args below meth c Q D A nL ws pc lv (.long (lI y) :: .long (lI x) :: st) := by
  subst hp; exact fun H locs ls hP hD hS h => lv_lmul F.1 F.2.1 hdg (by rw [lI_mul]; exact k H locs ls hP hD hS h)
theorem g_lneg (F : CallFix p m c cc nL s args Ts own) {x : Int} (hdg : decode cc pc = .ok (.lneg, 1)) (hp : pc + 1 = pc') (k : GG p l e R s m args below meth c Q D A nL ws pc' lv (.long (lI (-x)) :: st)) : GG p l e R s m args below meth c Q D A nL ws pc lv (.long (lI x) :: st) := by
  subst hp; exact fun H locs ls hP hD hS h => lv_lneg F.1 F.2.1 hdg (by rw [lI_neg]; exact k H locs ls hP hD hS h)
theorem g_ldiv (F : CallFix p m c cc nL s args Ts own) {x y : Int} (hdg : decode cc pc = .ok (.ldiv, 1)) (hp : pc + 1 = pc') (hx : -9223372036854775808 ≤ x ∧ x < 9223372036854775808) (hy : -9223372036854775808 ≤ y ∧ y < 9223372036854775808) (h0 : y ≠ 0) (k : GG p l e R s m args below meth c Q D A nL ws pc' lv (.long (lI (x.tdiv y)) :: st)) : GG p l e R s m args below meth c Q D A nL ws pc lv (.long (lI y) :: .long (lI x) :: st) := by
  subst hp; exact fun H locs ls hP hD hS h => lv_ldiv F.1 F.2.1 hdg (by rw [show (0 : Int64) = lI 0 from rfl, lI_eq hy (by omega)]; exact h0) (by rw [lI_div hx hy]; exact k H locs ls hP hD hS h)
theorem g_lcmp (F : CallFix p m c cc nL s args Ts own) {x y : Int} (hdg : decode cc pc = .ok (.lcmp, 1)) (hp : pc + 1 = pc') (hx : -9223372036854775808 ≤ x ∧ x < 9223372036854775808) (hy : -9223372036854775808 ≤ y ∧ y < 9223372036854775808) (k : GG p l e R s m args below meth c Q D A nL ws pc' lv (.int (iI (cmpz x y)) :: st)) : GG p l e R s m args below meth c Q D A nL ws pc lv (.long (lI y) :: .long (lI x) :: st) := by
  subst hp; exact fun H locs ls hP hD hS h => W.lcmp F.1 F.2.1 hdg (by rw [lg_cmpz hx hy]; exact k H locs ls hP hD hS h)
theorem g_dup (F : CallFix p m c cc nL s args Ts own) {v : Value} (hdg : decode cc pc = .ok (.dup, 1)) (hp : pc + 1 = pc') (hv : v.category = 1) (k : GG p l e R s m args below meth c Q D A nL ws pc' lv (v :: v :: st)) : GG p l e R s m args below meth c Q D A nL ws pc lv (v :: st) := by
  subst hp; exact fun H locs ls hP hD hS h => lv_dup F.1 F.2.1 hdg hv (k H locs ls hP hD hS h)
theorem g_dup2 (F : CallFix p m c cc nL s args Ts own) {v w : Value} (hdg : decode cc pc = .ok (.dup2, 1)) (hp : pc + 1 = pc') (hv : v.category = 1) (hw : w.category = 1) (k : GG p l e R s m args below meth c Q D A nL ws pc' lv (v :: w :: v :: w :: st)) : GG p l e R s m args below meth c Q D A nL ws pc lv (v :: w :: st) := by
  subst hp; exact fun H locs ls hP hD hS h => lv_dup2_11 F.1 F.2.1 hdg hv hw (k H locs ls hP hD hS h)
theorem g_goto (F : CallFix p m c cc nL s args Ts own) {off : Int} (hdg : decode cc pc = .ok (.goto off, 3)) (ht : (pc : Int) + off = (tgt : Int)) (k : GG p l e R s m args below meth c Q D A nL ws tgt lv st) : GG p l e R s m args below meth c Q D A nL ws pc lv st :=
  fun H locs ls hP hD hS h => lv_goto F.1 F.2.1 hdg ht (k H locs ls hP hD hS h)
theorem g_vw {st' : List Value} (h : st' = st) (k : GG p l e R s m args below meth c Q D A nL ws pc lv st') : GG p l e R s m args below meth c Q D A nL ws pc lv st := h ▸ k
theorem g_icmp_lt (F : CallFix p m c cc nL s args Ts own) {x y off : Int} (hdg : decode cc pc = .ok (.if_icmp .lt off, 3)) (hp : pc + 3 = pc') (ht : (pc : Int) + off = (tgt : Int)) (hx : -2147483648 ≤ x ∧ x < 2147483648) (hy : -2147483648 ≤ y ∧ y < 2147483648) (kt : x < y → GG p l e R s m args below meth c Q D A nL ws tgt lv st) (kf : y ≤ x → GG p l e R s m args below meth c Q D A nL ws pc' lv st) : GG p l e R s m args below meth c Q D A nL ws pc lv (.int (iI y) :: .int (iI x) :: st) := by
  subst hp
  exact fun H locs ls hP hD hS h => lv_icmp_lt F.1 F.2.1 hdg ht (fun h1 => kt ((iI_lt hx hy).mp h1) H locs ls hP hD hS h) (fun h1 => kf (Int.not_lt.mp (fun q => h1 ((iI_lt hx hy).mpr q))) H locs ls hP hD hS h)
theorem g_if_lt (F : CallFix p m c cc nL s args Ts own) {x off : Int} (hdg : decode cc pc = .ok (.ifCond .lt off, 3)) (hp : pc + 3 = pc') (ht : (pc : Int) + off = (tgt : Int)) (hx : -2147483648 ≤ x ∧ x < 2147483648) (kt : x < 0 → GG p l e R s m args below meth c Q D A nL ws tgt lv st) (kf : 0 ≤ x → GG p l e R s m args below meth c Q D A nL ws pc' lv st) : GG p l e R s m args below meth c Q D A nL ws pc lv (.int (iI x) :: st) := by
  subst hp
  have hy : -2147483648 ≤ (0 : Int) ∧ (0 : Int) < 2147483648 := by omega
  intro H locs ls hP hD hS h
  refine lv_if_lt F.1 F.2.1 hdg ht (fun h1 => kt ?_ H locs ls hP hD hS h) (fun h1 => kf ?_ H locs ls hP hD hS h)
  · rw [← iI_0] at h1
    exact (iI_lt hx hy).mp h1
  · rw [← iI_0] at h1
    exact Int.not_lt.mp (fun q => h1 ((iI_lt hx hy).mpr q))
theorem g_icmp_ge (F : CallFix p m c cc nL s args Ts own) {x y off : Int} (hdg : decode cc pc = .ok (.if_icmp .ge off, 3)) (hp : pc + 3 = pc') (ht : (pc : Int) + off = (tgt : Int)) (hx : -2147483648 ≤ x ∧ x < 2147483648) (hy : -2147483648 ≤ y ∧ y < 2147483648) (kt : y ≤ x → GG p l e R s m args below meth c Q D A nL ws tgt lv st) (kf : x < y → GG p l e R s m args below meth c Q D A nL ws pc' lv st) : GG p l e R s m args below meth c Q D A nL ws pc lv (.int (iI y) :: .int (iI x) :: st) := by
  subst hp
  exact fun H locs ls hP hD hS h => lv_icmp_ge F.1 F.2.1 hdg ht (fun h1 => kt ((iI_le hy hx).mp h1) H locs ls hP hD hS h) (fun h1 => kf (Int.not_le.mp (fun q => h1 ((iI_le hy hx).mpr q))) H locs ls hP hD hS h)
theorem g_if_ge (F : CallFix p m c cc nL s args Ts own) {x off : Int} (hdg : decode cc pc = .ok (.ifCond .ge off, 3)) (hp : pc + 3 = pc') (ht : (pc : Int) + off = (tgt : Int)) (hx : -2147483648 ≤ x ∧ x < 2147483648) (kt : 0 ≤ x → GG p l e R s m args below meth c Q D A nL ws tgt lv st) (kf : x < 0 → GG p l e R s m args below meth c Q D A nL ws pc' lv st) : GG p l e R s m args below meth c Q D A nL ws pc lv (.int (iI x) :: st) := by
  subst hp
  have hy : -2147483648 ≤ (0 : Int) ∧ (0 : Int) < 2147483648 := by omega
  intro H locs ls hP hD hS h
  refine lv_if_ge F.1 F.2.1 hdg ht (fun h1 => kt ?_ H locs ls hP hD hS h) (fun h1 => kf ?_ H locs ls hP hD hS h)
  · rw [← iI_0] at h1
    exact (iI_le hy hx).mp h1
  · rw [← iI_0] at h1
    exact Int.not_le.mp (fun q => h1 ((iI_le hy hx).mpr q))
theorem g_icmp_gt (F : CallFix p m c cc nL s args Ts own) {x y off : Int} (hdg : decode cc pc = .ok (.if_icmp .gt off, 3)) (hp : pc + 3 = pc') (ht : (pc : Int) + off = (tgt : Int)) (hx : -2147483648 ≤ x ∧ x < 2147483648) (hy : -2147483648 ≤ y ∧ y < 2147483648) (kt : y < x → GG p l e R s m args below meth c Q D A nL ws tgt lv st) (kf : x ≤ y → GG p l e R s m args below meth c Q D A nL ws pc' lv st) : GG p l e R s m args below meth c Q D A nL ws pc lv (.int (iI y) :: .int (iI x) :: st) := by
  subst hp
  exact fun H locs ls hP hD hS h => lv_icmp_gt F.1 F.2.1 hdg ht (fun h1 => kt ((iI_lt hy hx).mp h1) H locs ls hP hD hS h) (fun h1 => kf (Int.not_lt.mp (fun q => h1 ((iI_lt hy hx).mpr q))) H locs ls hP hD hS h)
theorem g_if_gt (F : CallFix p m c cc nL s args Ts own) {x off : Int} (hdg : decode cc pc = .ok (.ifCond .gt off, 3)) (hp : pc + 3 = pc') (ht : (pc : Int) + off = (tgt : Int)) (hx : -2147483648 ≤ x ∧ x < 2147483648) (kt : 0 < x → GG p l e R s m args below meth c Q D A nL ws tgt lv st) (kf : x ≤ 0 → GG p l e R s m args below meth c Q D A nL ws pc' lv st) : GG p l e R s m args below meth c Q D A nL ws pc lv (.int (iI x) :: st) := by
  subst hp
  have hy : -2147483648 ≤ (0 : Int) ∧ (0 : Int) < 2147483648 := by omega
  intro H locs ls hP hD hS h
  refine lv_if_gt F.1 F.2.1 hdg ht (fun h1 => kt ?_ H locs ls hP hD hS h) (fun h1 => kf ?_ H locs ls hP hD hS h)
  · rw [← iI_0] at h1
    exact (iI_lt hy hx).mp h1
  · rw [← iI_0] at h1
    exact Int.not_lt.mp (fun q => h1 ((iI_lt hy hx).mpr q))
theorem g_icmp_le (F : CallFix p m c cc nL s args Ts own) {x y off : Int} (hdg : decode cc pc = .ok (.if_icmp .le off, 3)) (hp : pc + 3 = pc') (ht : (pc : Int) + off = (tgt : Int)) (hx : -2147483648 ≤ x ∧ x < 2147483648) (hy : -2147483648 ≤ y ∧ y < 2147483648) (kt : x ≤ y → GG p l e R s m args below meth c Q D A nL ws tgt lv st) (kf : y < x → GG p l e R s m args below meth c Q D A nL ws pc' lv st) : GG p l e R s m args below meth c Q D A nL ws pc lv (.int (iI y) :: .int (iI x) :: st) := by
  subst hp
  exact fun H locs ls hP hD hS h => lv_icmp_le F.1 F.2.1 hdg ht (fun h1 => kt ((iI_le hx hy).mp h1) H locs ls hP hD hS h) (fun h1 => kf (Int.not_le.mp (fun q => h1 ((iI_le hx hy).mpr q))) H locs ls hP hD hS h)
theorem g_if_le (F : CallFix p m c cc nL s args Ts own) {x off : Int} (hdg : decode cc pc = .ok (.ifCond .le off, 3)) (hp : pc + 3 = pc') (ht : (pc : Int) + off = (tgt : Int)) (hx : -2147483648 ≤ x ∧ x < 2147483648) (kt : x ≤ 0 → GG p l e R s m args below meth c Q D A nL ws tgt lv st) (kf : 0 < x → GG p l e R s m args below meth c Q D A nL ws pc' lv st) : GG p l e R s m args below meth c Q D A nL ws pc lv (.int (iI x) :: st) := by
  subst hp
  have hy : -2147483648 ≤ (0 : Int) ∧ (0 : Int) < 2147483648 := by omega
  intro H locs ls hP hD hS h
  refine lv_if_le F.1 F.2.1 hdg ht (fun h1 => kt ?_ H locs ls hP hD hS h) (fun h1 => kf ?_ H locs ls hP hD hS h)
  · rw [← iI_0] at h1
    exact (iI_le hx hy).mp h1
  · rw [← iI_0] at h1
    exact Int.not_le.mp (fun q => h1 ((iI_le hx hy).mpr q))
theorem g_icmp_eq (F : CallFix p m c cc nL s args Ts own) {x y off : Int} (hdg : decode cc pc = .ok (.if_icmp .eq off, 3)) (hp : pc + 3 = pc') (ht : (pc : Int) + off = (tgt : Int)) (hx : -2147483648 ≤ x ∧ x < 2147483648) (hy : -2147483648 ≤ y ∧ y < 2147483648) (kt : x = y → GG p l e R s m args below meth c Q D A nL ws tgt lv st) (kf : x ≠ y → GG p l e R s m args below meth c Q D A nL ws pc' lv st) : GG p l e R s m args below meth c Q D A nL ws pc lv (.int (iI y) :: .int (iI x) :: st) := by
  subst hp
  exact fun H locs ls hP hD hS h => lv_icmp_eq F.1 F.2.1 hdg ht (fun h1 => kt ((iI_eq hx hy).mp h1) H locs ls hP hD hS h) (fun h1 => kf (fun q => h1 ((iI_eq hx hy).mpr q)) H locs ls hP hD hS h)
theorem g_if_eq (F : CallFix p m c cc nL s args Ts own) {x off : Int} (hdg : decode cc pc = .ok (.ifCond .eq off, 3)) (hp : pc + 3 = pc') (ht : (pc : Int) + off = (tgt : Int)) (hx : -2147483648 ≤ x ∧ x < 2147483648) (kt : x = 0 → GG p l e R s m args below meth c Q D A nL ws tgt lv st) (kf : x ≠ 0 → GG p l e R s m args below meth c Q D A nL ws pc' lv st) : GG p l e R s m args below meth c Q D A nL ws pc lv (.int (iI x) :: st) := by
  subst hp
  have hy : -2147483648 ≤ (0 : Int) ∧ (0 : Int) < 2147483648 := by omega
  intro H locs ls hP hD hS h
  refine lv_if_eq F.1 F.2.1 hdg ht (fun h1 => kt ?_ H locs ls hP hD hS h) (fun h1 => kf ?_ H locs ls hP hD hS h)
  · rw [← iI_0] at h1
    exact (iI_eq hx hy).mp h1
  · rw [← iI_0] at h1
    exact fun q => h1 ((iI_eq hx hy).mpr q)
theorem g_icmp_ne (F : CallFix p m c cc nL s args Ts own) {x y off : Int} (hdg : decode cc pc = .ok (.if_icmp .ne off, 3)) (hp : pc + 3 = pc') (ht : (pc : Int) + off = (tgt : Int)) (hx : -2147483648 ≤ x ∧ x < 2147483648) (hy : -2147483648 ≤ y ∧ y < 2147483648) (kt : x ≠ y → GG p l e R s m args below meth c Q D A nL ws tgt lv st) (kf : x = y → GG p l e R s m args below meth c Q D A nL ws pc' lv st) : GG p l e R s m args below meth c Q D A nL ws pc lv (.int (iI y) :: .int (iI x) :: st) := by
  subst hp
  exact fun H locs ls hP hD hS h => lv_icmp_ne F.1 F.2.1 hdg ht (fun h1 => kt (fun q => h1 ((iI_eq hx hy).mpr q)) H locs ls hP hD hS h) (fun h1 => kf ((iI_eq hx hy).mp h1) H locs ls hP hD hS h)
theorem g_if_ne (F : CallFix p m c cc nL s args Ts own) {x off : Int} (hdg : decode cc pc = .ok (.ifCond .ne off, 3)) (hp : pc + 3 = pc') (ht : (pc : Int) + off = (tgt : Int)) (hx : -2147483648 ≤ x ∧ x < 2147483648) (kt : x ≠ 0 → GG p l e R s m args below meth c Q D A nL ws tgt lv st) (kf : x = 0 → GG p l e R s m args below meth c Q D A nL ws pc' lv st) : GG p l e R s m args below meth c Q D A nL ws pc lv (.int (iI x) :: st) := by
  subst hp
  have hy : -2147483648 ≤ (0 : Int) ∧ (0 : Int) < 2147483648 := by omega
  intro H locs ls hP hD hS h
  refine lv_if_ne F.1 F.2.1 hdg ht (fun h1 => kt ?_ H locs ls hP hD hS h) (fun h1 => kf ?_ H locs ls hP hD hS h)
  · rw [← iI_0] at h1
    exact fun q => h1 ((iI_eq hx hy).mpr q)
  · rw [← iI_0] at h1
    exact (iI_eq hx hy).mp h1
end ROWS
end
section
/-! ===== rows of the memory ===== -/
theorem cE_I {T : Nat → ClassId} {a : Nat → Nat} {f : Int → Int} {n : Nat} {r : List Nat} : cE T a f (0, n, r) = .inl (T 0, n, .inl (fun j => iI (f j))) := rfl
theorem cE_O {T : Nat → ClassId} {a : Nat → Nat} {f : Int → Int} {ci n : Nat} {fs : List Nat} : cE T a f (ci + 4, n, fs) = .inr (ci, fs.zipIdx.map (fun p => fV a f p.2 p.1)) := rfl
theorem fs_at {a : Nat → Nat} {f : Int → Int} {fs : List Nat} {fld q : Nat} (h : fs[fld]? = some q) : (fs.zipIdx.map (fun p => fV a f p.2 p.1))[fld]? = some (fV a f fld q) := by
  rw [List.getElem?_map, List.getElem?_zipIdx, h]
  simp
theorem fs_set {a : Nat → Nat} {f : Int → Int} {fs : List Nat} {fld : Nat} {z : Int} {v : Value} {q : Nat} (h : fs[fld]? = some q) (hv : fV a (fun j => if j = (fld : Int) then z else f j) fld q = v) :
    (fs.zipIdx.map (fun p => fV a f p.2 p.1)).set fld v = fs.zipIdx.map (fun p => fV a (fun j => if j = (fld : Int) then z else f j) p.2 p.1) := by
  apply List.ext_getElem?
  intro i
  by_cases hi : i = fld
  · subst hi
    have hlt : i < (fs.zipIdx.map (fun p => fV a f p.2 p.1)).length := by
      have := (List.getElem?_eq_some_iff.mp h).1
      simpa using this
    rw [List.getElem?_set_self hlt, List.getElem?_map, List.getElem?_zipIdx, h]
    simp [hv]
  · rw [List.getElem?_set_ne (fun q => hi q.symm), List.getElem?_map, List.getElem?_map, List.getElem?_zipIdx]
    cases fs[i]? with
    | none => rfl
    | some q =>
      simp only [Option.map_some, Nat.zero_add]
      have hne : ¬ ((i : Int) = (fld : Int)) := by omega
      match q with
      | 0 => simp [fV, hne]
      | 1 => simp [fV, hne]
      | q + 2 => simp [fV]
theorem up_fn (M : Mem) (k : Nat) (j z : Int) : up M k j z k = fun i => if i = j then z else M k i := by funext i; simp [up]
theorem ar_set {f : Int → Int} {z v : Int} (h : 0 ≤ z ∧ z < 2147483648) : upd (fun j => iI (f (j : Nat))) (iI z).toNatClampNeg (iI v) = fun j : Nat => iI (if (j : Int) = z then v else f j) := by
  funext j
  have hz := iI_clamp h
  unfold upd
  by_cases hj : j = (iI z).toNatClampNeg
  · rw [if_pos hj, if_pos (by omega)]
  · rw [if_neg hj, if_neg (by omega)]
theorem ar_setL {f : Int → Int} {z v : Int} (h : 0 ≤ z ∧ z < 2147483648) : vp_updL (fun j => lI (f (j : Nat))) (iI z).toNatClampNeg (lI v) = fun j : Nat => lI (if (j : Int) = z then v else f j) := by
  funext j
  have hz := iI_clamp h
  unfold vp_updL
  by_cases hj : j = (iI z).toNatClampNeg
  · rw [if_pos hj, if_pos (by omega)]
  · rw [if_neg hj, if_neg (by omega)]
section MEMR
variable {p : Program} {l : Launch} {e : Env} {R : Room} {s : State} {m : MethodId} {args : Array Value} {below : List Frame} {meth : Method} {c : Code} {Q : State → Prop}
variable {D : va_G} {A : Nat → Prop} {nL : Nat} {ws : va_W} {pc pc' tgt : Nat} {lv lv' : List (Option Value)} {st : List Value} {cc : ByteArray} {Ts : List Cond} {own : String} {T : Nat → ClassId} {a : Nat → Nat} {L : List Kd} {M : Mem}
theorem g_getI (F : CallFix p m c cc nL s args Ts own) (K : va_K D vwCl (tysT T) s) {k fld ci n N index : Nat} {fs : List Nat} {C : String} {Tt : u_T} {z : Int} (hin : ∀ w ∈ u_ws C Tt N, w ∈ Ts) (hL : L[k]? = some (ci + 4, n, fs)) (hc : vwCl[ci]? = some (C, Tt, N)) (hf : fs[fld]? = some 0) (hk : fld < N) (hw : Cond.fieldLink own index (Tt fld).1 (Tt fld).2.1 (Tt fld).2.2.1 ∈ Ts) (hdg : decode cc pc = .ok (.getfield index, 3)) (hp : pc + 3 = pc') (hv : M k fld = z)
    (kk : GG p l e R s m args below meth c Q D A nL (wld T a L M) pc' lv (.int (iI z) :: st)) : GG p l e R s m args below meth c Q D A nL (wld T a L M) pc lv (.ref (a k) :: st) := by
  subst hp; subst hv
  exact fun H locs ls hP hD hS h => va_get F.1 F.2.1 F.2.2.2.2 hin F.2.2.2.1 K hP k (wld_at hL) hc fld hk (F.2.2.2.2 _ hw) (fun _ h9 => h9) (fs_at hf) hdg (kk H locs ls hP hD hS h)
theorem g_getJ (F : CallFix p m c cc nL s args Ts own) (K : va_K D vwCl (tysT T) s) {k fld ci n N index : Nat} {fs : List Nat} {C : String} {Tt : u_T} {z : Int} (hin : ∀ w ∈ u_ws C Tt N, w ∈ Ts) (hL : L[k]? = some (ci + 4, n, fs)) (hc : vwCl[ci]? = some (C, Tt, N)) (hf : fs[fld]? = some 1) (hk : fld < N) (hw : Cond.fieldLink own index (Tt fld).1 (Tt fld).2.1 (Tt fld).2.2.1 ∈ Ts) (hdg : decode cc pc = .ok (.getfield index, 3)) (hp : pc + 3 = pc') (hv : M k fld = z)
    (kk : GG p l e R s m args below meth c Q D A nL (wld T a L M) pc' lv (.long (lI z) :: st)) : GG p l e R s m args below meth c Q D A nL (wld T a L M) pc lv (.ref (a k) :: st) := by
  subst hp; subst hv
  exact fun H locs ls hP hD hS h => va_get F.1 F.2.1 F.2.2.2.2 hin F.2.2.2.1 K hP k (wld_at hL) hc fld hk (F.2.2.2.2 _ hw) (fun _ h9 => h9) (fs_at hf) hdg (kk H locs ls hP hD hS h)
theorem g_getR (F : CallFix p m c cc nL s args Ts own) (K : va_K D vwCl (tysT T) s) {k fld ci n N index q : Nat} {fs : List Nat} {C : String} {Tt : u_T} (hin : ∀ w ∈ u_ws C Tt N, w ∈ Ts) (hL : L[k]? = some (ci + 4, n, fs)) (hc : vwCl[ci]? = some (C, Tt, N)) (hf : fs[fld]? = some (q + 2)) (hk : fld < N) (hw : Cond.fieldLink own index (Tt fld).1 (Tt fld).2.1 (Tt fld).2.2.1 ∈ Ts) (hdg : decode cc pc = .ok (.getfield index, 3)) (hp : pc + 3 = pc')
    (kk : GG p l e R s m args below meth c Q D A nL (wld T a L M) pc' lv (.ref (a q) :: st)) : GG p l e R s m args below meth c Q D A nL (wld T a L M) pc lv (.ref (a k) :: st) := by
  subst hp
  exact fun H locs ls hP hD hS h => va_get F.1 F.2.1 F.2.2.2.2 hin F.2.2.2.1 K hP k (wld_at hL) hc fld hk (F.2.2.2.2 _ hw) (fun _ h9 => h9) (fs_at hf) hdg (kk H locs ls hP hD hS h)
theorem g_putI (F : CallFix p m c cc nL s args Ts own) (K : va_K D vwCl (tysT T) s) {k fld ci n N index : Nat} {fs : List Nat} {C : String} {Tt : u_T} {z : Int} (ty0 : Nat → FieldType) (hty : ∀ k, k < N → parseFieldDescriptor (Tt k).2.2.1 = some (ty0 k)) (hnm : ∀ a, a < N → ∀ b, b < N → a ≠ b → (Tt a).2.1 ≠ (Tt b).2.1) (hin : ∀ w ∈ u_ws C Tt N, w ∈ Ts) (hL : L[k]? = some (ci + 4, n, fs)) (hc : vwCl[ci]? = some (C, Tt, N)) (hf : fs[fld]? = some 0) (hk : fld < N) (hfin : (Tt fld).2.2.2 = false) (hd : (Tt fld).2.2.1 = "I") (hw : Cond.fieldLink own index (Tt fld).1 (Tt fld).2.1 (Tt fld).2.2.1 ∈ Ts) (hdg : decode cc pc = .ok (.putfield index, 3)) (hp : pc + 3 = pc')
    (kk : GG p l e R s m args below meth c Q D A nL (wld T a L (up M k fld z)) pc' lv st) : GG p l e R s m args below meth c Q D A nL (wld T a L M) pc lv (.int (iI z) :: .ref (a k) :: st) := by
  subst hp
  intro H locs ls hP hD hS h
  refine va_put (ty := .int) (v := .int (iI z)) F.1 F.2.1 F.2.2.2.2 hin ty0 hty hnm F.2.2.2.1 K hP hD hS k (wld_at hL) hc fld hk (F.2.2.2.2 _ hw) (fun _ h9 => h9) hfin (by rw [hd]; decide +kernel) rfl rfl (by have := (List.getElem?_eq_some_iff.mp hf).1; simpa using this) hdg (fun H1 locs1 hP1 hD1 hS1 => ?_)
  have e1 := wld_set (T := T) (a := a) (M := M) (M' := up M k fld z) (e := .inr (ci, (fs.zipIdx.map (fun p => fV a (M k) p.2 p.1)).set fld (.int (iI z)))) hL (by rw [cE_O, up_fn, fs_set (z := z) hf (by simp [fV])]) (fun j hj => up_n hj)
  rw [e1] at hP1 hD1
  exact kk H1 locs1 ls hP1 hD1 hS1 h
theorem g_putJ (F : CallFix p m c cc nL s args Ts own) (K : va_K D vwCl (tysT T) s) {k fld ci n N index : Nat} {fs : List Nat} {C : String} {Tt : u_T} {z : Int} (ty0 : Nat → FieldType) (hty : ∀ k, k < N → parseFieldDescriptor (Tt k).2.2.1 = some (ty0 k)) (hnm : ∀ a, a < N → ∀ b, b < N → a ≠ b → (Tt a).2.1 ≠ (Tt b).2.1) (hin : ∀ w ∈ u_ws C Tt N, w ∈ Ts) (hL : L[k]? = some (ci + 4, n, fs)) (hc : vwCl[ci]? = some (C, Tt, N)) (hf : fs[fld]? = some 1) (hk : fld < N) (hfin : (Tt fld).2.2.2 = false) (hd : (Tt fld).2.2.1 = "J") (hw : Cond.fieldLink own index (Tt fld).1 (Tt fld).2.1 (Tt fld).2.2.1 ∈ Ts) (hdg : decode cc pc = .ok (.putfield index, 3)) (hp : pc + 3 = pc')
    (kk : GG p l e R s m args below meth c Q D A nL (wld T a L (up M k fld z)) pc' lv st) : GG p l e R s m args below meth c Q D A nL (wld T a L M) pc lv (.long (lI z) :: .ref (a k) :: st) := by
  subst hp
  intro H locs ls hP hD hS h
  refine va_put (ty := .long) (v := .long (lI z)) F.1 F.2.1 F.2.2.2.2 hin ty0 hty hnm F.2.2.2.1 K hP hD hS k (wld_at hL) hc fld hk (F.2.2.2.2 _ hw) (fun _ h9 => h9) hfin (by rw [hd]; decide +kernel) rfl rfl (by have := (List.getElem?_eq_some_iff.mp hf).1; simpa using this) hdg (fun H1 locs1 hP1 hD1 hS1 => ?_)
  have e1 := wld_set (T := T) (a := a) (M := M) (M' := up M k fld z) (e := .inr (ci, (fs.zipIdx.map (fun p => fV a (M k) p.2 p.1)).set fld (.long (lI z)))) hL (by rw [cE_O, up_fn, fs_set (z := z) hf (by simp [fV])]) (fun j hj => up_n hj)
  rw [e1] at hP1 hD1
  exact kk H1 locs1 ls hP1 hD1 hS1 h
theorem g_iald (F : CallFix p m c cc nL s args Ts own) (K : va_K D vwCl (tysT T) s) {k n : Nat} {r : List Nat} {z v : Int} (hL : L[k]? = some (0, n, r)) (hn : n < 2147483648) (hz : 0 ≤ z ∧ z < (n : Int)) (hdg : decode cc pc = .ok (.iaload, 1)) (hp : pc + 1 = pc') (hv : M k z = v)
    (kk : GG p l e R s m args below meth c Q D A nL (wld T a L M) pc' lv (.int (iI v) :: st)) : GG p l e R s m args below meth c Q D A nL (wld T a L M) pc lv (.int (iI z) :: .ref (a k) :: st) := by
  subst hp; subst hv
  refine fun H locs ls hP hD hS h => va_iald F.1 F.2.1 K hP k 0 (wld_at hL) rfl (iI_in hz hn) hdg ?_
  show W p l e R s m args below meth c H locs 0 0 Q (F0 m (pc + 1) ls (.int (iI (M k (((iI z).toNatClampNeg : Nat) : Int))) :: st))
  rw [iI_clamp (by omega)]
  exact kk H locs ls hP hD hS h
theorem g_lald (F : CallFix p m c cc nL s args Ts own) (K : va_K D vwCl (tysT T) s) {k n : Nat} {r : List Nat} {z v : Int} (hL : L[k]? = some (1, n, r)) (hn : n < 2147483648) (hz : 0 ≤ z ∧ z < (n : Int)) (hdg : decode cc pc = .ok (.laload, 1)) (hp : pc + 1 = pc') (hv : M k z = v)
    (kk : GG p l e R s m args below meth c Q D A nL (wld T a L M) pc' lv (.long (lI v) :: st)) : GG p l e R s m args below meth c Q D A nL (wld T a L M) pc lv (.int (iI z) :: .ref (a k) :: st) := by
  subst hp; subst hv
  refine fun H locs ls hP hD hS h => va_lald F.1 F.2.1 K hP k 1 (wld_at hL) rfl (iI_in hz hn) hdg ?_
  show W p l e R s m args below meth c H locs 0 0 Q (F0 m (pc + 1) ls (.long (lI (M k (((iI z).toNatClampNeg : Nat) : Int))) :: st))
  rw [iI_clamp (by omega)]
  exact kk H locs ls hP hD hS h
theorem g_zald (F : CallFix p m c cc nL s args Ts own) (K : va_K D vwCl (tysT T) s) {k n : Nat} {r : List Nat} {z v : Int} (hL : L[k]? = some (2, n, r)) (hn : n < 2147483648) (hz : 0 ≤ z ∧ z < (n : Int)) (hdg : decode cc pc = .ok (.baload, 1)) (hp : pc + 1 = pc') (hv : M k z = v)
    (kk : GG p l e R s m args below meth c Q D A nL (wld T a L M) pc' lv (.int (iI v) :: st)) : GG p l e R s m args below meth c Q D A nL (wld T a L M) pc lv (.int (iI z) :: .ref (a k) :: st) := by
  subst hp; subst hv
  refine fun H locs ls hP hD hS h => va_zald F.1 F.2.1 K hP k 2 (wld_at hL) rfl (iI_in hz hn) hdg ?_
  show W p l e R s m args below meth c H locs 0 0 Q (F0 m (pc + 1) ls (.int (iI (M k (((iI z).toNatClampNeg : Nat) : Int))) :: st))
  rw [iI_clamp (by omega)]
  exact kk H locs ls hP hD hS h
theorem g_aald (F : CallFix p m c cc nL s args Ts own) (K : va_K D vwCl (tysT T) s) {k n q : Nat} {r : List Nat} {z : Int} (hL : L[k]? = some (3, n, r)) (hn : n < 2147483648) (hz : 0 ≤ z ∧ z < (n : Int)) (hq : r[z.toNat]? = some q) (hdg : decode cc pc = .ok (.aaload, 1)) (hp : pc + 1 = pc')
    (kk : GG p l e R s m args below meth c Q D A nL (wld T a L M) pc' lv (.ref (a q) :: st)) : GG p l e R s m args below meth c Q D A nL (wld T a L M) pc lv (.int (iI z) :: .ref (a k) :: st) := by
  subst hp
  refine fun H locs ls hP hD hS h => va_aldq F.1 F.2.1 K hP k 3 (wld_at hL) rfl (iI_in hz hn) hdg ?_
  have e1 : (iI z).toNatClampNeg = z.toNat := by have := iI_clamp (z := z) (by omega); omega
  rw [e1]
  show W p l e R s m args below meth c H locs 0 0 Q (F0 m (pc + 1) ls (va_rf ((r[z.toNat]?).map a) :: st))
  rw [hq]
  exact kk H locs ls hP hD hS h
theorem g_iast (F : CallFix p m c cc nL s args Ts own) (K : va_K D vwCl (tysT T) s) {k n : Nat} {r : List Nat} {z v : Int} (hL : L[k]? = some (0, n, r)) (hn : n < 2147483648) (hz : 0 ≤ z ∧ z < (n : Int)) (hdg : decode cc pc = .ok (.iastore, 1)) (hp : pc + 1 = pc')
    (kk : GG p l e R s m args below meth c Q D A nL (wld T a L (up M k z v)) pc' lv st) : GG p l e R s m args below meth c Q D A nL (wld T a L M) pc lv (.int (iI v) :: .int (iI z) :: .ref (a k) :: st) := by
  subst hp
  intro H locs ls hP hD hS h
  refine va_iast F.1 F.2.1 K hP hD hS k 0 (wld_at hL) rfl (iI_in hz hn) hdg (fun H1 locs1 hP1 hD1 hS1 => ?_)
  rw [ar_set (by omega)] at hP1 hD1
  have e1 := wld_set (T := T) (a := a) (M := M) (M' := up M k z v) (e := .inl (T 0, n, .inl (fun j : Nat => iI (if (j : Int) = z then v else M k j)))) hL (by rw [up_fn]; rfl) (fun j hj => up_n hj)
  rw [e1] at hP1 hD1
  exact kk H1 locs1 ls hP1 hD1 hS1 h
theorem g_last (F : CallFix p m c cc nL s args Ts own) (K : va_K D vwCl (tysT T) s) {k n : Nat} {r : List Nat} {z v : Int} (hL : L[k]? = some (1, n, r)) (hn : n < 2147483648) (hz : 0 ≤ z ∧ z < (n : Int)) (hdg : decode cc pc = .ok (.lastore, 1)) (hp : pc + 1 = pc')
    (kk : GG p l e R s m args below meth c Q D A nL (wld T a L (up M k z v)) pc' lv st) : GG p l e R s m args below meth c Q D A nL (wld T a L M) pc lv (.long (lI v) :: .int (iI z) :: .ref (a k) :: st) := by
  subst hp
  intro H locs ls hP hD hS h
  refine va_last F.1 F.2.1 K hP hD hS k 1 (wld_at hL) rfl (iI_in hz hn) hdg (fun H1 locs1 hP1 hD1 hS1 => ?_)
  rw [ar_setL (by omega)] at hP1 hD1
  have e1 := wld_set (T := T) (a := a) (M := M) (M' := up M k z v) (e := .inl (T 1, n, .inr (.inl (fun j : Nat => lI (if (j : Int) = z then v else M k j))))) hL (by rw [up_fn]; rfl) (fun j hj => up_n hj)
  rw [e1] at hP1 hD1
  exact kk H1 locs1 ls hP1 hD1 hS1 h
theorem nar_z {v : Int} (hv : v = 0 ∨ v = 1) : vp_nar .boolean (iI v) = iI v := by rcases hv with rfl | rfl <;> decide +kernel
theorem g_zast (F : CallFix p m c cc nL s args Ts own) (K : va_K D vwCl (tysT T) s) {k n : Nat} {r : List Nat} {z v : Int} (hL : L[k]? = some (2, n, r)) (hn : n < 2147483648) (hz : 0 ≤ z ∧ z < (n : Int)) (hb : v = 0 ∨ v = 1) (hdg : decode cc pc = .ok (.bastore, 1)) (hp : pc + 1 = pc')
    (kk : GG p l e R s m args below meth c Q D A nL (wld T a L (up M k z v)) pc' lv st) : GG p l e R s m args below meth c Q D A nL (wld T a L M) pc lv (.int (iI v) :: .int (iI z) :: .ref (a k) :: st) := by
  subst hp
  intro H locs ls hP hD hS h
  refine va_zast F.1 F.2.1 K hP hD hS k 2 (wld_at hL) rfl (iI_in hz hn) hdg (fun H1 locs1 hP1 hD1 hS1 => ?_)
  rw [nar_z hb, ar_set (by omega)] at hP1 hD1
  have e1 := wld_set (T := T) (a := a) (M := M) (M' := up M k z v) (e := .inl (T 2, n, .inl (fun j : Nat => iI (if (j : Int) = z then v else M k j)))) hL (by rw [up_fn]; rfl) (fun j hj => up_n hj)
  rw [e1] at hP1 hD1
  exact kk H1 locs1 ls hP1 hD1 hS1 h
end MEMR
/-! ===== contracts over a memory ===== -/
/-- what a system's contracts carry beside its memory, and how it is kept -/
def XC (X : (Nat → Prop) → State → Heap → Prop) : Prop := (∀ (A : Nat → Prop) (U : State) (H : Heap) (g : JFrame) (mk : MethodId) (v : Array Value), X A U H → X A (U.calling g mk v) H) ∧
  ∀ (A B : Nat → Prop) (s U : State) (H H' : Heap), X A s H → s.WarmedH U.vm → (∀ q, B q → A q) → (∀ q : Nat, q < H.size → ¬ A q → H'[q]? = H[q]?) → X B U H'
def AA (T : Nat → ClassId) (a : Nat → Nat) (L : List Kd) (M : Mem) (sz : Nat) : Nat → Prop := va_A (wld T a L M) sz
def Pm (X : (Nat → Prop) → State → Heap → Prop) (D : va_G) (T : Nat → ClassId) (a : Nat → Nat) (L : List Kd) (M : Mem) (sz : Nat) (U : State) : Prop :=
  U.heap.size = sz ∧ va_P D vwCl (wld T a L M) U.heap ∧ va_K D vwCl (tysT T) U ∧ va_D (fun _ => True) (wld T a L M) ∧ X (AA T a L M sz) U U.heap
def Em (D : va_G) (T : Nat → ClassId) (a : Nat → Nat) (L : List Kd) (M : Mem) (t : State) : Prop := va_P D vwCl (wld T a L M) t.heap
def CtI (X : (Nat → Prop) → State → Heap → Prop) (l : Launch) (y : MethodName) (ws : List Cond) (rm : Room) (L : List Kd) (a : Nat → Nat) (M : Mem) (vs : List Value) (Qf : Int → Mem → Prop) : Prop :=
  ∀ (D : va_G) (T : Nat → ClassId) (sz : Nat), Met l y ws rm (va_Pc vs (Pm X D T a L M sz)) (va_Qi (fun (r : Int32) (M' : Mem) => ∃ z : Int, r = iI z ∧ Qf z M') (Em D T a L) (AA T a L M sz)) 0 0 (AA T a L M sz)
def CtJ (X : (Nat → Prop) → State → Heap → Prop) (l : Launch) (y : MethodName) (ws : List Cond) (rm : Room) (L : List Kd) (a : Nat → Nat) (M : Mem) (vs : List Value) (Qf : Int → Mem → Prop) : Prop :=
  ∀ (D : va_G) (T : Nat → ClassId) (sz : Nat), Met l y ws rm (va_Pc vs (Pm X D T a L M sz)) (va_Ql (fun (r : Int64) (M' : Mem) => ∃ z : Int, r = lI z ∧ Qf z M') (Em D T a L) (AA T a L M sz)) 0 0 (AA T a L M sz)
def CtV (X : (Nat → Prop) → State → Heap → Prop) (l : Launch) (y : MethodName) (ws : List Cond) (rm : Room) (L : List Kd) (a : Nat → Nat) (M : Mem) (vs : List Value) (Qf : Mem → Prop) : Prop :=
  ∀ (D : va_G) (T : Nat → ClassId) (sz : Nat), Met l y ws rm (va_Pc vs (Pm X D T a L M sz)) (va_Qv (fun (M' : Mem) => Qf M') (Em D T a L) (AA T a L M sz)) 0 0 (AA T a L M sz)
/-- a static method that touches nothing -/
def CtP (l : Launch) (y : MethodName) (ws : List Cond) (rm : Room) (vs : List Value) (z : Int) : Prop :=
  ∀ (sz : Nat), Met l y ws rm (va_Pc vs (fun U => U.heap.size = sz)) (va_Qi (fun (r : Int32) (_ : Unit) => r = iI z) (fun _ _ => True) (fun _ => False)) 0 0 (fun _ => False)
theorem CtI.mono {X : (Nat → Prop) → State → Heap → Prop} {l : Launch} {y : MethodName} {ws : List Cond} {rm : Room} {L : List Kd} {a : Nat → Nat} {M : Mem} {vs : List Value} {Q1 Q2 : Int → Mem → Prop} (h : CtI X l y ws rm L a M vs Q1) (hq : ∀ z M', Q1 z M' → Q2 z M') : CtI X l y ws rm L a M vs Q2 := by
  intro D T sz p e ha hc hk s m args below hf happ hpre hK
  obtain ⟨t, o, h1, h2, h3, ⟨⟨⟨r, u, g1, ⟨z, g2, g3⟩, g4⟩, g5⟩, g6⟩⟩ := h D T sz p e ha hc hk s m args below hf happ hpre hK
  exact ⟨t, o, h1, h2, h3, ⟨⟨⟨r, u, g1, ⟨z, g2, hq z u g3⟩, g4⟩, g5⟩, g6⟩⟩
def PI (D : va_G) (T : Nat → ClassId) (a : Nat → Nat) (L : List Kd) (M : Mem) (Qf : Int → Mem → Prop) (below : List Frame) (args : Array Value) (s : State) : State → Prop :=
  MQ below (va_Qi (fun (r : Int32) (M' : Mem) => ∃ z : Int, r = iI z ∧ Qf z M') (Em D T a L) (AA T a L M s.heap.size)) args s 0 0 (AA T a L M s.heap.size)
def PJ (D : va_G) (T : Nat → ClassId) (a : Nat → Nat) (L : List Kd) (M : Mem) (Qf : Int → Mem → Prop) (below : List Frame) (args : Array Value) (s : State) : State → Prop :=
  MQ below (va_Ql (fun (r : Int64) (M' : Mem) => ∃ z : Int, r = lI z ∧ Qf z M') (Em D T a L) (AA T a L M s.heap.size)) args s 0 0 (AA T a L M s.heap.size)
def PV (D : va_G) (T : Nat → ClassId) (a : Nat → Nat) (L : List Kd) (M : Mem) (Qf : Mem → Prop) (below : List Frame) (args : Array Value) (s : State) : State → Prop :=
  MQ below (va_Qv (fun (M' : Mem) => Qf M') (Em D T a L) (AA T a L M s.heap.size)) args s 0 0 (AA T a L M s.heap.size)
def PP (z : Int) (below : List Frame) (args : Array Value) (s : State) : State → Prop :=
  MQ below (va_Qi (fun (r : Int32) (_ : Unit) => r = iI z) (fun _ _ => True) (fun _ => False)) args s 0 0 (fun _ => False)
def lvOK (lv : List (Option Value)) (vs : List Value) : Prop := ∀ (i : Nat) (v : Value), lv[i]? = some (some v) → (i, v) ∈ lv_args 0 vs
theorem lh_entry {vs : List Value} {n : Nat} {lv : List (Option Value)} (h : (lg_sl vs).length ≤ n) (hv : lvOK lv vs) : lh ((lg_sl vs ++ List.replicate (n - (lg_sl vs).length) Slot.unset).toArray) n lv := by
  have h1 := lv_entry vs h
  exact ⟨h1.1, h1.2.1, fun q hq => h1.2.2 q (by obtain ⟨i, v⟩ := q; exact hv i v (asL_mem.mp hq))⟩
section ENTRY
variable {X : (Nat → Prop) → State → Heap → Prop} {l : Launch} {y : MethodName} {ws ws' : List Cond} {rm : Room} {L : List Kd} {a : Nat → Nat} {M : Mem} {vs : List Value} {cc : ByteArray} {maxL : Nat} {ret : Option FieldType} {lv : List (Option Value)}
theorem CtI.of {Qf : Int → Mem → Prop} (hy : plainName y.cls = true) (hw : ws = Cond.code y cc maxL ret :: ws') (hn : (lg_sl vs).length ≤ maxL) (hv : lvOK lv vs)
    (body : ∀ (p : Program) (e : Env) (s : State) (m : MethodId) (below : List Frame) (meth : Method) (c : Code) (D : va_G) (T : Nat → ClassId), CallFix p m c cc maxL s vs.toArray ws y.cls → va_K D vwCl (tysT T) s → X (AA T a L M s.heap.size) s s.heap → meth.sig.returnType = ret → meth.locks = false → GG p l e rm s m vs.toArray below meth c (PI D T a L M Qf below vs.toArray s) D (AA T a L M s.heap.size) maxL (wld T a L M) 0 lv []) : CtI X l y ws rm L a M vs Qf := by
  intro D T sz
  refine Met.ofW (cc := cc) (maxL := maxL) (ret := ret) hy hw ?_
  intro p e s m args below meth c s₁ B hml hv'
  obtain ⟨rfl, hsz, hP, hK, hD0, hX⟩ := hv'
  subst hsz
  have hD : va_D (AA T a L M s.heap.size) (wld T a L M) := hD0.self (sz := s.heap.size)
  have hown : s.vm.findClass y.cls = some m.cls := findClass_of_methodNamed B.named
  have k := body p e s m below meth c D T ⟨B.exec, B.bytes, hml, hown, atoms_spec (ws := ws) B.pre⟩ hK hX B.returns B.notSynchronized
  rw [lg_entry_eq]
  exact k s.heap [] _ hP hD va_S.rf (lh_entry hn hv)
theorem CtJ.of {Qf : Int → Mem → Prop} (hy : plainName y.cls = true) (hw : ws = Cond.code y cc maxL ret :: ws') (hn : (lg_sl vs).length ≤ maxL) (hv : lvOK lv vs)
    (body : ∀ (p : Program) (e : Env) (s : State) (m : MethodId) (below : List Frame) (meth : Method) (c : Code) (D : va_G) (T : Nat → ClassId), CallFix p m c cc maxL s vs.toArray ws y.cls → va_K D vwCl (tysT T) s → X (AA T a L M s.heap.size) s s.heap → meth.sig.returnType = ret → meth.locks = false → GG p l e rm s m vs.toArray below meth c (PJ D T a L M Qf below vs.toArray s) D (AA T a L M s.heap.size) maxL (wld T a L M) 0 lv []) : CtJ X l y ws rm L a M vs Qf := by
  intro D T sz
  refine Met.ofW (cc := cc) (maxL := maxL) (ret := ret) hy hw ?_
  intro p e s m args below meth c s₁ B hml hv'
  obtain ⟨rfl, hsz, hP, hK, hD0, hX⟩ := hv'
  subst hsz
  have hD : va_D (AA T a L M s.heap.size) (wld T a L M) := hD0.self (sz := s.heap.size)
  have hown : s.vm.findClass y.cls = some m.cls := findClass_of_methodNamed B.named
  have k := body p e s m below meth c D T ⟨B.exec, B.bytes, hml, hown, atoms_spec (ws := ws) B.pre⟩ hK hX B.returns B.notSynchronized
  rw [lg_entry_eq]
  exact k s.heap [] _ hP hD va_S.rf (lh_entry hn hv)
theorem CtV.of {Qf : Mem → Prop} (hy : plainName y.cls = true) (hw : ws = Cond.code y cc maxL ret :: ws') (hn : (lg_sl vs).length ≤ maxL) (hv : lvOK lv vs)
    (body : ∀ (p : Program) (e : Env) (s : State) (m : MethodId) (below : List Frame) (meth : Method) (c : Code) (D : va_G) (T : Nat → ClassId), CallFix p m c cc maxL s vs.toArray ws y.cls → va_K D vwCl (tysT T) s → X (AA T a L M s.heap.size) s s.heap → meth.sig.returnType = ret → meth.locks = false → GG p l e rm s m vs.toArray below meth c (PV D T a L M Qf below vs.toArray s) D (AA T a L M s.heap.size) maxL (wld T a L M) 0 lv []) : CtV X l y ws rm L a M vs Qf := by
  intro D T sz
  refine Met.ofW (cc := cc) (maxL := maxL) (ret := ret) hy hw ?_
  intro p e s m args below meth c s₁ B hml hv'
  obtain ⟨rfl, hsz, hP, hK, hD0, hX⟩ := hv'
  subst hsz
  have hD : va_D (AA T a L M s.heap.size) (wld T a L M) := hD0.self (sz := s.heap.size)
  have hown : s.vm.findClass y.cls = some m.cls := findClass_of_methodNamed B.named
  have k := body p e s m below meth c D T ⟨B.exec, B.bytes, hml, hown, atoms_spec (ws := ws) B.pre⟩ hK hX B.returns B.notSynchronized
  rw [lg_entry_eq]
  exact k s.heap [] _ hP hD va_S.rf (lh_entry hn hv)
theorem CtP.of {z : Int} (hy : plainName y.cls = true) (hw : ws = Cond.code y cc maxL ret :: ws') (hn : (lg_sl vs).length ≤ maxL) (hv : lvOK lv vs)
    (body : ∀ (p : Program) (e : Env) (s : State) (m : MethodId) (below : List Frame) (meth : Method) (c : Code) (D : va_G), CallFix p m c cc maxL s vs.toArray ws y.cls → meth.sig.returnType = ret → meth.locks = false → GG p l e rm s m vs.toArray below meth c (PP z below vs.toArray s) D (fun _ => False) maxL [] 0 lv []) : CtP l y ws rm vs z := by
  intro sz
  refine Met.ofW (cc := cc) (maxL := maxL) (ret := ret) hy hw ?_
  intro p e s m args below meth c s₁ B hml hv'
  obtain ⟨rfl, hsz⟩ := hv'
  have hown : s.vm.findClass y.cls = some m.cls := findClass_of_methodNamed B.named
  have k := body p e s m below meth c ((fun _ => 0), fun _ _ => 0) ⟨B.exec, B.bytes, hml, hown, atoms_spec (ws := ws) B.pre⟩ B.returns B.notSynchronized
  rw [lg_entry_eq]
  exact k s.heap [] _ (fun k q h => by simp at h) ⟨fun i j p q h => by simp at h, fun k q h => by simp at h⟩ va_S.rf (lh_entry hn hv)
end ENTRY
section EXIT
variable {p : Program} {l : Launch} {e : Env} {R : Room} {s : State} {m : MethodId} {args : Array Value} {below : List Frame} {meth : Method} {c : Code} {D : va_G} {nL : Nat} {pc : Nat} {lv : List (Option Value)} {cc : ByteArray} {Ts : List Cond} {own : String} {T : Nat → ClassId} {a : Nat → Nat} {L : List Kd} {M M0 : Mem}
theorem g_iret (F : CallFix p m c cc nL s args Ts own) {Qf : Int → Mem → Prop} {z : Int} (hr : meth.sig.returnType = some .int) (hlk : meth.locks = false) (hdg : decode cc pc = .ok (.ireturn, 1)) (hq : Qf z M) : GG p l e R s m args below meth c (PI D T a L M0 Qf below args s) D (AA T a L M0 s.heap.size) nL (wld T a L M) pc lv [.int (iI z)] :=
  fun H locs ls hP hD hS h => W.iret F.1 F.2.1 hr (fun t ht hW => ⟨⟨iI z, M, rfl, ⟨z, rfl, hq⟩, (by show va_P D vwCl (wld T a L M) t.heap; rw [ht]; exact hP)⟩, hS.F ht⟩) hS.2.2 hdg hlk
theorem nar_zb {v : Int} (hv : v = 0 ∨ v = 1) : narrow .boolean (.int (iI v)) = .int (iI v) := by rcases hv with rfl | rfl <;> decide +kernel
theorem g_zret (F : CallFix p m c cc nL s args Ts own) {Qf : Int → Mem → Prop} {z : Int} (hr : meth.sig.returnType = some .boolean) (hlk : meth.locks = false) (hdg : decode cc pc = .ok (.ireturn, 1)) (hz : z = 0 ∨ z = 1) (hq : Qf z M) : GG p l e R s m args below meth c (PI D T a L M0 Qf below args s) D (AA T a L M0 s.heap.size) nL (wld T a L M) pc lv [.int (iI z)] :=
  fun H locs ls hP hD hS h => W.zret F.1 F.2.1 hr (nar_zb hz) (fun t ht hW => ⟨⟨iI z, M, rfl, ⟨z, rfl, hq⟩, (by show va_P D vwCl (wld T a L M) t.heap; rw [ht]; exact hP)⟩, hS.F ht⟩) hS.2.2 hdg hlk
theorem g_lret (F : CallFix p m c cc nL s args Ts own) {Qf : Int → Mem → Prop} {z : Int} (hr : meth.sig.returnType = some .long) (hlk : meth.locks = false) (hdg : decode cc pc = .ok (.lreturn, 1)) (hq : Qf z M) : GG p l e R s m args below meth c (PJ D T a L M0 Qf below args s) D (AA T a L M0 s.heap.size) nL (wld T a L M) pc lv [.long (lI z)] :=
  fun H locs ls hP hD hS h => W.lret F.1 F.2.1 hr (fun t ht hW => ⟨⟨lI z, M, rfl, ⟨z, rfl, hq⟩, (by show va_P D vwCl (wld T a L M) t.heap; rw [ht]; exact hP)⟩, hS.F ht⟩) hS.2.2 hdg hlk
theorem g_vret (F : CallFix p m c cc nL s args Ts own) {Qf : Mem → Prop} (hr : meth.sig.returnType = none) (hlk : meth.locks = false) (hdg : decode cc pc = .ok (.return_, 1)) (hq : Qf M) : GG p l e R s m args below meth c (PV D T a L M0 Qf below args s) D (AA T a L M0 s.heap.size) nL (wld T a L M) pc lv [] :=
  fun H locs ls hP hD hS h => W.vret F.1 F.2.1 hr (fun t ht hW => ⟨⟨M, rfl, hq, (by show va_P D vwCl (wld T a L M) t.heap; rw [ht]; exact hP)⟩, hS.F ht⟩) hS.2.2 hdg hlk
theorem g_piret (F : CallFix p m c cc nL s args Ts own) {z z0 : Int} (hr : meth.sig.returnType = some .int) (hlk : meth.locks = false) (hdg : decode cc pc = .ok (.ireturn, 1)) (hq : z = z0) : GG p l e R s m args below meth c (PP z0 below args s) D (fun _ => False) nL [] pc lv [.int (iI z)] :=
  fun H locs ls hP hD hS h => W.iret F.1 F.2.1 hr (fun t ht hW => ⟨⟨iI z, (), rfl, by rw [hq], trivial⟩, hS.F ht⟩) hS.2.2 hdg hlk
theorem g_pzret (F : CallFix p m c cc nL s args Ts own) {z z0 : Int} (hr : meth.sig.returnType = some .boolean) (hlk : meth.locks = false) (hdg : decode cc pc = .ok (.ireturn, 1)) (hz : z = 0 ∨ z = 1) (hq : z = z0) : GG p l e R s m args below meth c (PP z0 below args s) D (fun _ => False) nL [] pc lv [.int (iI z)] :=
  fun H locs ls hP hD hS h => W.zret F.1 F.2.1 hr (nar_zb hz) (fun t ht hW => ⟨⟨iI z, (), rfl, by rw [hq], trivial⟩, hS.F ht⟩) hS.2.2 hdg hlk
end EXIT
section CALLS
variable {X : (Nat → Prop) → State → Heap → Prop} {p : Program} {l : Launch} {e : Env} {R : Room} {s : State} {m : MethodId} {args : Array Value} {below : List Frame} {meth : Method} {c : Code} {Q : State → Prop}
variable {D : va_G} {A : Nat → Prop} {nL : Nat} {ws : va_W} {pc pc' tgt : Nat} {lv lv' : List (Option Value)} {st st0 : List Value} {cc : ByteArray} {Ts : List Cond} {own : String} {T : Nat → ClassId} {a : Nat → Nat} {L : List Kd} {M M0 : Mem}
theorem Pm_blind (hX : XC X) (vs : List Value) (sz : Nat) : FrameBlind (va_Pc vs (Pm X D T a L M sz)) := by
  intro v U g mk q
  obtain ⟨q0, q1, q2, q3, q4, q5⟩ := q
  exact ⟨q0, q1, q2, va_K.moved (u := U) (U := U.calling g mk v) (Vm.Alike.refl U.vm) q3, q4, hX.1 _ _ _ _ _ _ q5⟩
theorem AA_in {M' : Mem} {H : Heap} {locs : List Loc} (hS : va_S (AA T a L M0 s.heap.size) s.heap H locs) (q : Nat) (h : AA T a L M' H.size q) : AA T a L M0 s.heap.size q := wld_A h hS.1
theorem Pm_at (hX : XC X) (K : va_K D vwCl (tysT T) s) (X0 : X (AA T a L M0 s.heap.size) s s.heap) {H : Heap} {locs : List Loc} (hP : va_P D vwCl (wld T a L M) H) (hD : va_D (AA T a L M0 s.heap.size) (wld T a L M)) (hS : va_S (AA T a L M0 s.heap.size) s.heap H locs) {U : State} (hU : U.heap = H) (hW : s.WarmedH U.vm) : Pm X D T a L M H.size U :=
  ⟨by rw [hU], by rw [hU]; exact hP, va_K.moved hW.alike K, hD.weaken (fun _ _ _ _ => trivial), hX.2 _ _ _ _ _ _ X0 hW (AA_in hS) (fun q h1 h2 => by rw [hU]; exact hS.2.1 q h1 h2)⟩
theorem Pm_pre (hX : XC X) (K : va_K D vwCl (tysT T) s) (X0 : X (AA T a L M0 s.heap.size) s s.heap) {H : Heap} {locs : List Loc} (hP : va_P D vwCl (wld T a L M) H) (hD : va_D (AA T a L M0 s.heap.size) (wld T a L M)) (hS : va_S (AA T a L M0 s.heap.size) s.heap H locs) {C : String} {Tt : u_T} {N r ci n : Nat} {fs : List Nat} {As : List Value} (hL : L[r]? = some (ci + 4, n, fs)) (hc : vwCl[ci]? = some (C, Tt, N)) : PreV s H C (a r) (va_Pc (.ref (a r) :: As) (Pm X D T a L M H.size)) As :=
  ⟨Pm_blind hX _ _, va_recv K hP hc (wld_at hL), fun U hU hW => ⟨rfl, Pm_at hX K X0 hP hD hS hU hW⟩⟩
theorem g_callI (F : CallFix p m c cc nL s args Ts own) (K : va_K D vwCl (tysT T) s) (hX : XC X) (X0 : X (AA T a L M0 s.heap.size) s s.heap) {y : MethodName} {ws' : List Cond} {rm : Room} {bytes : ByteArray} {maxL index n r ci n0 N : Nat} {ret : Option FieldType} {C : String} {Tt : u_T} {fs : List Nat} {As : List Value} {Qf : Int → Mem → Prop} (hct : CtI X l y ws' rm L a M (.ref (a r) :: As) Qf) (cw : CallW R s args own C index y bytes maxL ret ws' rm 0 0 n) (hL : L[r]? = some (ci + 4, n0, fs)) (hc : vwCl[ci]? = some (C, Tt, N)) (hn : As.length = n) (hst : st0 = As.reverse ++ .ref (a r) :: st) (hroom : (st.map fun v => v.category).sum ≤ 8) (hdg : decode cc pc = .ok (.invokevirtual index, 3)) (hp : pc + 3 = pc')
    (kk : ∀ (z : Int) (M' : Mem), Qf z M' → GG p l e R s m args below meth c Q D (AA T a L M0 s.heap.size) nL (wld T a L M') pc' lv (.int (iI z) :: st)) : GG p l e R s m args below meth c Q D (AA T a L M0 s.heap.size) nL (wld T a L M) pc lv st0 := by
  subst hp; subst hst
  intro H locs ls hP hD hS h
  refine va_calli (va_runV (As := As) (rest := st) F (hct D T H.size) cw (Pm_pre hX K X0 hP hD hS hL hc) rfl hn h.1 rfl (lv_room hroom) hdg ⟨Nat.zero_le _, Nat.zero_le _⟩) hS (fun q _ h => AA_in hS q h) (fun q h => AA_in hS q h) (fun r u t H1 locs1 ht hvm hw hB hz hk hS1 => ?_)
  obtain ⟨z, rfl, hq⟩ := hw
  exact kk z u hq H1 locs1 ls (by rw [← ht]; exact hB) (wld_D hD) hS1 h
theorem g_callJ (F : CallFix p m c cc nL s args Ts own) (K : va_K D vwCl (tysT T) s) (hX : XC X) (X0 : X (AA T a L M0 s.heap.size) s s.heap) {y : MethodName} {ws' : List Cond} {rm : Room} {bytes : ByteArray} {maxL index n r ci n0 N : Nat} {ret : Option FieldType} {C : String} {Tt : u_T} {fs : List Nat} {As : List Value} {Qf : Int → Mem → Prop} (hct : CtJ X l y ws' rm L a M (.ref (a r) :: As) Qf) (cw : CallW R s args own C index y bytes maxL ret ws' rm 0 0 n) (hL : L[r]? = some (ci + 4, n0, fs)) (hc : vwCl[ci]? = some (C, Tt, N)) (hn : As.length = n) (hst : st0 = As.reverse ++ .ref (a r) :: st) (hroom : (st.map fun v => v.category).sum ≤ 8) (hdg : decode cc pc = .ok (.invokevirtual index, 3)) (hp : pc + 3 = pc')
    (kk : ∀ (z : Int) (M' : Mem), Qf z M' → GG p l e R s m args below meth c Q D (AA T a L M0 s.heap.size) nL (wld T a L M') pc' lv (.long (lI z) :: st)) : GG p l e R s m args below meth c Q D (AA T a L M0 s.heap.size) nL (wld T a L M) pc lv st0 := by
  subst hp; subst hst
  intro H locs ls hP hD hS h
  refine va_calll (va_runV (As := As) (rest := st) F (hct D T H.size) cw (Pm_pre hX K X0 hP hD hS hL hc) rfl hn h.1 rfl (lv_room hroom) hdg ⟨Nat.zero_le _, Nat.zero_le _⟩) hS (fun q _ h => AA_in hS q h) (fun q h => AA_in hS q h) (fun r u t H1 locs1 ht hvm hw hB hz hk hS1 => ?_)
  obtain ⟨z, rfl, hq⟩ := hw
  exact kk z u hq H1 locs1 ls (by rw [← ht]; exact hB) (wld_D hD) hS1 h
theorem g_callV (F : CallFix p m c cc nL s args Ts own) (K : va_K D vwCl (tysT T) s) (hX : XC X) (X0 : X (AA T a L M0 s.heap.size) s s.heap) {y : MethodName} {ws' : List Cond} {rm : Room} {bytes : ByteArray} {maxL index n r ci n0 N : Nat} {ret : Option FieldType} {C : String} {Tt : u_T} {fs : List Nat} {As : List Value} {Qf : Mem → Prop} (hct : CtV X l y ws' rm L a M (.ref (a r) :: As) Qf) (cw : CallW R s args own C index y bytes maxL ret ws' rm 0 0 n) (hL : L[r]? = some (ci + 4, n0, fs)) (hc : vwCl[ci]? = some (C, Tt, N)) (hn : As.length = n) (hst : st0 = As.reverse ++ .ref (a r) :: st) (hroom : (st.map fun v => v.category).sum ≤ 8) (hdg : decode cc pc = .ok (.invokevirtual index, 3)) (hp : pc + 3 = pc')
    (kk : ∀ (M' : Mem), Qf M' → GG p l e R s m args below meth c Q D (AA T a L M0 s.heap.size) nL (wld T a L M') pc' lv st) : GG p l e R s m args below meth c Q D (AA T a L M0 s.heap.size) nL (wld T a L M) pc lv st0 := by
  subst hp; subst hst
  intro H locs ls hP hD hS h
  refine va_callv (va_runV (As := As) (rest := st) F (hct D T H.size) cw (Pm_pre hX K X0 hP hD hS hL hc) rfl hn h.1 rfl (lv_room hroom) hdg ⟨Nat.zero_le _, Nat.zero_le _⟩) hS (fun q _ h => AA_in hS q h) (fun q h => AA_in hS q h) (fun u t H1 locs1 ht hvm hw hB hz hk hS1 => ?_)
  exact kk u hw H1 locs1 ls (by rw [← ht]; exact hB) (wld_D hD) hS1 h
theorem Pp_pre {H : Heap} {As : List Value} : PreS s H (va_Pc As (fun U => U.heap.size = H.size)) As := ⟨fun _ _ _ _ q => q, fun U hU _ => ⟨rfl, by show U.heap.size = H.size; rw [hU]⟩⟩
theorem g_callP (F : CallFix p m c cc nL s args Ts own) {y : MethodName} {ws' : List Cond} {rm : Room} {bytes : ByteArray} {maxL index n : Nat} {ret : Option FieldType} {As : List Value} {z : Int} (hct : CtP l y ws' rm As z) (cw : CallB R s args own index y bytes maxL ret ws' rm 0 0 n ∧ (Cond.static y).before args s = true) (hn : As.length = n) (hst : st0 = As.reverse ++ st) (hroom : (st.map fun v => v.category).sum ≤ 8) (hdg : decode cc pc = .ok (.invokestatic index, 3)) (hp : pc + 3 = pc')
    (kk : GG p l e R s m args below meth c Q D A nL ws pc' lv (.int (iI z) :: st)) : GG p l e R s m args below meth c Q D A nL ws pc lv st0 := by
  subst hp; subst hst
  intro H locs ls hP hD hS h
  refine va_calli (va_runS (As := As) (rest := st) F (hct H.size) cw Pp_pre rfl hn h.1 rfl (lv_room hroom) hdg ⟨Nat.zero_le _, Nat.zero_le _⟩) hS (fun q _ h => False.elim h) (fun q h => False.elim h) (fun r u t H1 locs1 ht hvm hw hB hz hk hS1 => ?_)
  subst hw
  exact kk H1 locs1 ls (hP.kept (fun k q hq => hk q.1 ((hP k q hq).lt) (fun h => h))) hD hS1 h
theorem g_callPN (F : CallFix p m c cc nL s args Ts own) {y : MethodName} {ws' : List Cond} {rm : Room} {bytes : ByteArray} {maxL index n : Nat} {host : String} {ret : Option FieldType} {As : List Value} {z : Int} (hct : CtP l y ws' rm As z) (cw : va_CN R s args own index y host bytes maxL ret ws' rm 0 0 n ∧ (Cond.static y).before args s = true ∧ True) (hn : As.length = n) (hst : st0 = As.reverse ++ st) (hroom : (st.map fun v => v.category).sum ≤ 8) (hdg : decode cc pc = .ok (.invokestatic index, 3)) (hp : pc + 3 = pc')
    (kk : GG p l e R s m args below meth c Q D A nL ws pc' lv (.int (iI z) :: st)) : GG p l e R s m args below meth c Q D A nL ws pc lv st0 := by
  subst hp; subst hst
  intro H locs ls hP hD hS h
  refine va_calli (va_runSN (As := As) (rest := st) F (hct H.size) cw Pp_pre rfl hn h.1 rfl (lv_room hroom) hdg ⟨Nat.zero_le _, Nat.zero_le _⟩) hS (fun q _ h => False.elim h) (fun q h => False.elim h) (fun r u t H1 locs1 ht hvm hw hB hz hk hS1 => ?_)
  subst hw
  exact kk H1 locs1 ls (hP.kept (fun k q hq => hk q.1 ((hP k q hq).lt) (fun h => h))) hD hS1 h
theorem g_callIN (F : CallFix p m c cc nL s args Ts own) (K : va_K D vwCl (tysT T) s) (hX : XC X) (X0 : X (AA T a L M0 s.heap.size) s s.heap) {y : MethodName} {ws' : List Cond} {rm : Room} {bytes : ByteArray} {maxL index n r ci n0 N : Nat} {host : String} {ret : Option FieldType} {C : String} {Tt : u_T} {fs : List Nat} {As : List Value} {Qf : Int → Mem → Prop} (hct : CtI X l y ws' rm L a M (.ref (a r) :: As) Qf) (cw : va_CN R s args own index y host bytes maxL ret ws' rm 0 0 n ∧ (Cond.instanceMethod y).before args s = true ∧ (Cond.selects C y y).before args s = true) (hL : L[r]? = some (ci + 4, n0, fs)) (hc : vwCl[ci]? = some (C, Tt, N)) (hn : As.length = n) (hst : st0 = As.reverse ++ .ref (a r) :: st) (hroom : (st.map fun v => v.category).sum ≤ 8) (hdg : decode cc pc = .ok (.invokevirtual index, 3)) (hp : pc + 3 = pc')
    (kk : ∀ (z : Int) (M' : Mem), Qf z M' → GG p l e R s m args below meth c Q D (AA T a L M0 s.heap.size) nL (wld T a L M') pc' lv (.int (iI z) :: st)) : GG p l e R s m args below meth c Q D (AA T a L M0 s.heap.size) nL (wld T a L M) pc lv st0 := by
  subst hp; subst hst
  intro H locs ls hP hD hS h
  refine va_calli (va_runVN (As := As) (rest := st) F (hct D T H.size) cw (Pm_pre hX K X0 hP hD hS hL hc) rfl hn h.1 rfl (lv_room hroom) hdg ⟨Nat.zero_le _, Nat.zero_le _⟩) hS (fun q _ h => AA_in hS q h) (fun q h => AA_in hS q h) (fun r u t H1 locs1 ht hvm hw hB hz hk hS1 => ?_)
  obtain ⟨z, rfl, hq⟩ := hw
  exact kk z u hq H1 locs1 ls (by rw [← ht]; exact hB) (wld_D hD) hS1 h
/-- Math of the JDK -/
theorem g_max (F : CallFix p m c cc nL s args Ts own) {index : Nat} {x y : Int} (hlink : Cond.methodLink own index Lib.Math.max.name ∈ Ts) (hstat : Cond.static Lib.Math.max.name ∈ Ts) (hini : Cond.initialized "java/lang/Math" ∈ Ts) (hcode : Cond.code Lib.Math.max.name Lib.Math.max.code 2 (some .int) ∈ Ts) (hframes : 1 ≤ R.frames) (hlocals : (st.map fun v => v.category).sum + 13 ≤ R.locals) (hx : -2147483648 ≤ x ∧ x < 2147483648) (hy : -2147483648 ≤ y ∧ y < 2147483648) (hdg : decode cc pc = .ok (.invokestatic index, 3)) (hp : pc + 3 = pc')
    (kk : GG p l e R s m args below meth c Q D A nL ws pc' lv (.int (iI (max x y)) :: st)) : GG p l e R s m args below meth c Q D A nL ws pc lv (.int (iI y) :: .int (iI x) :: st) := by
  subst hp
  intro H locs ls hP hD hS h
  refine va_mmax F.1 F.2.1 (F.2.2.1.trans h.1.symm) F.2.2.2.1 (F.2.2.2.2 _ hlink) (F.2.2.2.2 _ hstat) (F.2.2.2.2 _ hini) (F.2.2.2.2 _ hcode) hframes hlocals (Nat.zero_le _) (Nat.zero_le _) hdg ?_
  have e1 : (if iI x < iI y then iI y else iI x) = iI (max x y) := by
    simp only [iI_lt hx hy]
    split <;> congr 1 <;> omega
  rw [e1]
  exact kk H locs ls hP hD hS h
theorem g_min (F : CallFix p m c cc nL s args Ts own) {index : Nat} {x y : Int} (hlink : Cond.methodLink own index Lib.Math.min.name ∈ Ts) (hstat : Cond.static Lib.Math.min.name ∈ Ts) (hini : Cond.initialized "java/lang/Math" ∈ Ts) (hcode : Cond.code Lib.Math.min.name Lib.Math.min.code 2 (some .int) ∈ Ts) (hframes : 1 ≤ R.frames) (hlocals : (st.map fun v => v.category).sum + 13 ≤ R.locals) (hx : -2147483648 ≤ x ∧ x < 2147483648) (hy : -2147483648 ≤ y ∧ y < 2147483648) (hdg : decode cc pc = .ok (.invokestatic index, 3)) (hp : pc + 3 = pc')
    (kk : GG p l e R s m args below meth c Q D A nL ws pc' lv (.int (iI (min x y)) :: st)) : GG p l e R s m args below meth c Q D A nL ws pc lv (.int (iI y) :: .int (iI x) :: st) := by
  subst hp
  intro H locs ls hP hD hS h
  refine va_mmin F.1 F.2.1 (F.2.2.1.trans h.1.symm) F.2.2.2.1 (F.2.2.2.2 _ hlink) (F.2.2.2.2 _ hstat) (F.2.2.2.2 _ hini) (F.2.2.2.2 _ hcode) hframes hlocals (Nat.zero_le _) (Nat.zero_le _) hdg ?_
  have e1 : (if iI y < iI x then iI y else iI x) = iI (min x y) := by
    simp only [iI_lt hy hx]
    split <;> congr 1 <;> omega
  rw [e1]
  exact kk H locs ls hP hD hS h
theorem g_abs (F : CallFix p m c cc nL s args Ts own) {index : Nat} {x z : Int} (hlink : Cond.methodLink own index Lib.Math.abs.name ∈ Ts) (hstat : Cond.static Lib.Math.abs.name ∈ Ts) (hini : Cond.initialized "java/lang/Math" ∈ Ts) (hcode : Cond.code Lib.Math.abs.name Lib.Math.abs.code 1 (some .int) ∈ Ts) (hframes : 1 ≤ R.frames) (hlocals : (st.map fun v => v.category).sum + 13 ≤ R.locals) (hx : -2147483648 ≤ x ∧ x < 2147483648) (hz : z = if 0 ≤ x then x else -x) (hdg : decode cc pc = .ok (.invokestatic index, 3)) (hp : pc + 3 = pc')
    (kk : GG p l e R s m args below meth c Q D A nL ws pc' lv (.int (iI z) :: st)) : GG p l e R s m args below meth c Q D A nL ws pc lv (.int (iI x) :: st) := by
  subst hp; subst hz
  intro H locs ls hP hD hS h
  refine va_mabs F.1 F.2.1 (F.2.2.1.trans h.1.symm) F.2.2.2.1 (F.2.2.2.2 _ hlink) (F.2.2.2.2 _ hstat) (F.2.2.2.2 _ hini) (F.2.2.2.2 _ hcode) hframes hlocals (Nat.zero_le _) (Nat.zero_le _) hdg ?_
  have e1 : (if (0 : Int32) ≤ iI x then iI x else 0 - iI x) = iI (if 0 ≤ x then x else -x) := by
    have h0 : (0 : Int32) ≤ iI x ↔ 0 ≤ x := by rw [← iI_0]; exact iI_le (by omega) hx
    simp only [h0]
    split
    · rfl
    · rw [← iI_0, iI_sub, Int.zero_sub]
  rw [e1]
  exact kk H locs ls hP hD hS h
theorem g_maxL (F : CallFix p m c cc nL s args Ts own) {index : Nat} {x y : Int} (hlink : Cond.methodLink own index Lib.MathLoose.max_long.x ∈ Ts) (hstat : Cond.static Lib.MathLoose.max_long.x ∈ Ts) (hini : Cond.initialized "java/lang/Math" ∈ Ts) (hcode : Cond.code Lib.MathLoose.max_long.x Lib.MathLoose.max_long.code 4 (some .long) ∈ Ts) (hframes : 1 ≤ R.frames) (hlocals : (st.map fun v => v.category).sum + 15 ≤ R.locals) (hx : -9223372036854775808 ≤ x ∧ x < 9223372036854775808) (hy : -9223372036854775808 ≤ y ∧ y < 9223372036854775808) (hdg : decode cc pc = .ok (.invokestatic index, 3)) (hp : pc + 3 = pc')
    (kk : GG p l e R s m args below meth c Q D A nL ws pc' lv (.long (lI (max x y)) :: st)) : GG p l e R s m args below meth c Q D A nL ws pc lv (.long (lI y) :: .long (lI x) :: st) := by
  subst hp
  intro H locs ls hP hD hS h
  refine va_mmax_long F.1 F.2.1 (F.2.2.1.trans h.1.symm) F.2.2.2.1 (F.2.2.2.2 _ hlink) (F.2.2.2.2 _ hstat) (F.2.2.2.2 _ hini) (F.2.2.2.2 _ hcode) hframes hlocals (Nat.zero_le _) (Nat.zero_le _) hdg ?_
  have e1 : (if lI y < lI x then lI x else lI y) = lI (max x y) := by
    simp only [lI_lt hy hx]
    split <;> congr 1 <;> omega
  rw [e1]
  exact kk H locs ls hP hD hS h
theorem g_minL (F : CallFix p m c cc nL s args Ts own) {index : Nat} {x y : Int} (hlink : Cond.methodLink own index Lib.MathLoose.min_long.x ∈ Ts) (hstat : Cond.static Lib.MathLoose.min_long.x ∈ Ts) (hini : Cond.initialized "java/lang/Math" ∈ Ts) (hcode : Cond.code Lib.MathLoose.min_long.x Lib.MathLoose.min_long.code 4 (some .long) ∈ Ts) (hframes : 1 ≤ R.frames) (hlocals : (st.map fun v => v.category).sum + 15 ≤ R.locals) (hx : -9223372036854775808 ≤ x ∧ x < 9223372036854775808) (hy : -9223372036854775808 ≤ y ∧ y < 9223372036854775808) (hdg : decode cc pc = .ok (.invokestatic index, 3)) (hp : pc + 3 = pc')
    (kk : GG p l e R s m args below meth c Q D A nL ws pc' lv (.long (lI (min x y)) :: st)) : GG p l e R s m args below meth c Q D A nL ws pc lv (.long (lI y) :: .long (lI x) :: st) := by
  subst hp
  intro H locs ls hP hD hS h
  refine va_mmin_long F.1 F.2.1 (F.2.2.1.trans h.1.symm) F.2.2.2.1 (F.2.2.2.2 _ hlink) (F.2.2.2.2 _ hstat) (F.2.2.2.2 _ hini) (F.2.2.2.2 _ hcode) hframes hlocals (Nat.zero_le _) (Nat.zero_le _) hdg ?_
  have e1 : (if lI y < lI x then lI y else lI x) = lI (min x y) := by
    simp only [lI_lt hy hx]
    split <;> congr 1 <;> omega
  rw [e1]
  exact kk H locs ls hP hD hS h
end CALLS
end
section
/-! ===== helpers of the printed walks ===== -/
theorem cmpz_ge {a b : Int} : 0 ≤ cmpz a b ↔ b ≤ a := by
  have := @cmpz_lt a b; omega
theorem cmpz_le {a b : Int} : cmpz a b ≤ 0 ↔ a ≤ b := by
  have := @cmpz_gt a b; omega
theorem cmpz_ne {a b : Int} : cmpz a b ≠ 0 ↔ a ≠ b := not_congr cmpz_eq
/-- a truth as a number -/
noncomputable def zC (P : Prop) : Int := @ite Int P (Classical.propDecidable P) 1 0
theorem zC_t {P : Prop} (h : P) : zC P = 1 := if_pos h
theorem zC_f {P : Prop} (h : ¬ P) : zC P = 0 := if_neg h
theorem zC_01 (P : Prop) : zC P = 0 ∨ zC P = 1 := by
  by_cases h : P
  · exact Or.inr (zC_t h)
  · exact Or.inl (zC_f h)
theorem zC_R (P : Prop) : -2147483648 ≤ zC P ∧ zC P < 2147483648 := by
  rcases zC_01 P with h | h <;> rw [h] <;> decide
theorem zC_0 {P : Prop} (h : zC P = 0) : ¬ P := fun q => by rw [zC_t q] at h; exact absurd h (by decide)
theorem zC_1 {P : Prop} (h : zC P ≠ 0) : P := by
  by_cases q : P
  · exact q
  · exact absurd (zC_f q) h
theorem zC_iff {P Q : Prop} (h : P ↔ Q) : zC P = zC Q := by
  by_cases q : P
  · rw [zC_t q, zC_t (h.mp q)]
  · rw [zC_f q, zC_f (fun z => q (h.mpr z))]
/-- a choice by any proposition -/
noncomputable def pif {α : Type} (P : Prop) (x y : α) : α := @ite α P (Classical.propDecidable P) x y
theorem pif_t {α : Type} {P : Prop} {x y : α} (h : P) : pif P x y = x := if_pos h
theorem pif_f {α : Type} {P : Prop} {x y : α} (h : ¬ P) : pif P x y = y := if_neg h
/-- locals at a method's entry -/
def lvA : List Value → List (Option Value)
  | [] => []
  | v :: t => if v.category = 2 then some v :: none :: lvA t else some v :: lvA t
theorem lvA_mem : ∀ (vs : List Value) (k i : Nat) (v : Value), (lvA vs)[i]? = some (some v) → (k + i, v) ∈ lv_args k vs
  | [], k, i, v, h => by simp [lvA] at h
  | w :: t, k, i, v, h => by
    unfold lvA at h
    unfold lv_args
    by_cases hc : w.category = 2
    · rw [if_pos hc] at h
      rw [if_pos hc]
      match i, h with
      | 0, h =>
        simp at h
        subst h
        exact List.mem_cons_self
      | 1, h => simp at h
      | i + 2, h =>
        have h1 : (lvA t)[i]? = some (some v) := by simpa using h
        have h2 := lvA_mem t (k + 2) i v h1
        rw [show k + 2 + i = k + (i + 2) by omega] at h2
        exact List.mem_cons_of_mem _ h2
    · rw [if_neg hc] at h
      rw [if_neg hc]
      match i, h with
      | 0, h =>
        simp at h
        subst h
        exact List.mem_cons_self
      | i + 1, h =>
        have h1 : (lvA t)[i]? = some (some v) := by simpa using h
        have h2 := lvA_mem t (k + 1) i v h1
        rw [show k + 1 + i = k + (i + 1) by omega] at h2
        exact List.mem_cons_of_mem _ h2
def allNone : List (Option Value) → Bool
  | [] => true
  | none :: t => allNone t
  | some _ :: _ => false
theorem allNone_at : ∀ (l : List (Option Value)) (i : Nat) (v : Value), allNone l = true → l[i]? ≠ some (some v)
  | [], i, v, _ => by simp
  | none :: t, 0, v, _ => by simp
  | none :: t, i + 1, v, h => by simpa using allNone_at t i v h
  | some _ :: _, _, _, h => by cases h
theorem lvOK_of (lv : List (Option Value)) (vs : List Value) (h : lv.take (lvA vs).length = lvA vs ∧ allNone (lv.drop (lvA vs).length) = true) : lvOK lv vs := by
  intro i v hi
  by_cases hl : i < (lvA vs).length
  · have h1 : (lv.take (lvA vs).length)[i]? = some (some v) := by rw [List.getElem?_take_of_lt hl]; exact hi
    rw [h.1] at h1
    simpa using lvA_mem vs 0 i v h1
  · have h1 : (lv.drop (lvA vs).length)[i - (lvA vs).length]? = some (some v) := by
      rw [List.getElem?_drop, show (lvA vs).length + (i - (lvA vs).length) = i by omega]; exact hi
    exact absurd h1 (allNone_at _ _ _ h.2)
/-- locals forgotten: each place is as it was, or none -/
def keepN (lv : List (Option Value)) : List Bool → List (Option Value)
  | [] => []
  | b :: bs => (match lv with | [] => none | x :: _ => if b then x else none) :: keepN lv.tail bs
theorem keepN_at : ∀ (bs : List Bool) (lv : List (Option Value)) (i : Nat) (v : Value), (keepN lv bs)[i]? = some (some v) → lv[i]? = some (some v)
  | [], lv, i, v, h => by simp [keepN] at h
  | b :: bs, lv, 0, v, h => by
    cases lv with
    | nil => simp [keepN] at h
    | cons x t =>
      simp [keepN] at h
      simpa using h.2
  | b :: bs, lv, i + 1, v, h => by
    have h1 := keepN_at bs lv.tail i v (by simpa [keepN] using h)
    cases lv with
    | nil => simp at h1
    | cons x t => simpa using h1
theorem lvw_of (lv' lv : List (Option Value)) (bs : List Bool) (h : keepN lv bs = lv') : ∀ (i : Nat) (v : Value), lv'[i]? = some (some v) → lv[i]? = some (some v) := by
  intro i v hi
  rw [← h] at hi
  exact keepN_at bs lv i v hi
/-- the reference's contracts carry nothing beside its memory -/
def XT : (Nat → Prop) → State → Heap → Prop := fun _ _ _ => True
theorem XT_c : XC XT := ⟨fun _ _ _ _ _ _ _ => trivial, fun _ _ _ _ _ _ _ _ _ _ => trivial⟩
def LR : List Kd := [(9, 0, [3, 0, 4, 0, 5, 6, 7, 8, 9, 10, 11, 0, 12, 13, 14, 15, 0, 16, 17, 18, 1, 19, 20]), (0, 64, []), (0, 5, []), (0, 30, []), (0, 4, []), (0, 8, []), (0, 8, []), (0, 8, []), (0, 8, []), (0, 8, []), (0, 16, []), (0, 8, []), (0, 8, []), (0, 8, []), (1, 488, []), (0, 8, []), (0, 8, []), (0, 140, []), (2, 2, [])]
def LC : List Kd := [(8, 0, [3, 6, 24, 25, 26, 36]), (6, 0, [4, 0, 5]), (0, 30, []), (0, 3, []), (5, 0, [7, 8, 9, 10, 0, 11]), (0, 16, []), (0, 16, []), (0, 16, []), (0, 16, []), (0, 5, []), (5, 0, [13, 14, 15, 16, 0, 17]), (0, 16, []), (0, 16, []), (0, 16, []), (0, 16, []), (0, 5, []), (5, 0, [19, 20, 21, 22, 0, 23]), (0, 16, []), (0, 16, []), (0, 16, []), (0, 16, []), (0, 5, []), (3, 2, [10, 16]), (2, 2, []), (7, 0, [0, 27, 28, 29, 30, 31, 0, 32, 33, 34, 35]), (0, 8, []), (0, 8, []), (0, 8, []), (0, 8, []), (0, 8, []), (0, 8, []), (0, 8, []), (0, 8, []), (0, 8, []), (4, 0, [37, 38, 39, 40, 6, 26, 41, 42, 43, 44, 0, 0]), (1, 61, []), (0, 61, []), (2, 61, []), (0, 488, []), (0, 8, []), (0, 8, []), (1, 480, []), (1, 60, [])]
end
section
/-! ===== a memory with cells replaced ===== -/
def sc (M : Mem) (k : Nat) (f : Int → Int) : Mem := fun k' => if k' = k then f else M k'
def upf (f : Int → Int) (j z : Int) : Int → Int := fun i => if i = j then z else f i
theorem upf_s (f : Int → Int) (j z : Int) : upf f j z j = z := if_pos rfl
theorem upf_n {f : Int → Int} {j z i : Int} (h : i ≠ j) : upf f j z i = f i := if_neg h
theorem sc_s (M : Mem) (k : Nat) (f : Int → Int) : sc M k f k = f := if_pos rfl
theorem sc_n {M : Mem} {k j : Nat} {f : Int → Int} (h : j ≠ k) : sc M k f j = M j := if_neg h
theorem mem_up {M M2 : Mem} {k : Nat} {z v : Int} (hm : M2 k = upf (M k) z v) (ho : ∀ j, j ≠ k → M2 j = M j) : up M k z v = M2 := by
  funext j
  by_cases hj : j = k
  · subst hj
    rw [hm]
    funext i
    simp [up, upf]
  · rw [ho j hj, up_n hj]
section HROWS
variable {p : Program} {l : Launch} {e : Env} {R : Room} {s : State} {m : MethodId} {args : Array Value} {below : List Frame} {meth : Method} {c : Code} {Q : State → Prop}
variable {D : va_G} {A : Nat → Prop} {nL : Nat} {ws : va_W} {pc pc' tgt : Nat} {lv lv' : List (Option Value)} {st : List Value} {cc : ByteArray} {Ts : List Cond} {own : String} {T : Nat → ClassId} {a : Nat → Nat} {L : List Kd} {M M2 : Mem}
theorem h_mem (M2 : Mem) (h : M = M2) (kk : GG p l e R s m args below meth c Q D A nL (wld T a L M2) pc lv st) : GG p l e R s m args below meth c Q D A nL (wld T a L M) pc lv st := h ▸ kk
theorem h_putI (F : CallFix p m c cc nL s args Ts own) (K : va_K D vwCl (tysT T) s) {k fld ci n N index : Nat} {fs : List Nat} {C : String} {Tt : u_T} {z : Int} (M2 : Mem) (hM : up M k fld z = M2) (ty0 : Nat → FieldType) (hty : ∀ k, k < N → parseFieldDescriptor (Tt k).2.2.1 = some (ty0 k)) (hnm : ∀ a, a < N → ∀ b, b < N → a ≠ b → (Tt a).2.1 ≠ (Tt b).2.1) (hin : ∀ w ∈ u_ws C Tt N, w ∈ Ts) (hL : L[k]? = some (ci + 4, n, fs)) (hc : vwCl[ci]? = some (C, Tt, N)) (hf : fs[fld]? = some 0) (hk : fld < N) (hfin : (Tt fld).2.2.2 = false) (hd : (Tt fld).2.2.1 = "I") (hw : Cond.fieldLink own index (Tt fld).1 (Tt fld).2.1 (Tt fld).2.2.1 ∈ Ts) (hdg : decode cc pc = .ok (.putfield index, 3)) (hp : pc + 3 = pc')
    (kk : GG p l e R s m args below meth c Q D A nL (wld T a L M2) pc' lv st) : GG p l e R s m args below meth c Q D A nL (wld T a L M) pc lv (.int (iI z) :: .ref (a k) :: st) := by
  subst hM; exact g_putI F K ty0 hty hnm hin hL hc hf hk hfin hd hw hdg hp kk
theorem h_putJ (F : CallFix p m c cc nL s args Ts own) (K : va_K D vwCl (tysT T) s) {k fld ci n N index : Nat} {fs : List Nat} {C : String} {Tt : u_T} {z : Int} (M2 : Mem) (hM : up M k fld z = M2) (ty0 : Nat → FieldType) (hty : ∀ k, k < N → parseFieldDescriptor (Tt k).2.2.1 = some (ty0 k)) (hnm : ∀ a, a < N → ∀ b, b < N → a ≠ b → (Tt a).2.1 ≠ (Tt b).2.1) (hin : ∀ w ∈ u_ws C Tt N, w ∈ Ts) (hL : L[k]? = some (ci + 4, n, fs)) (hc : vwCl[ci]? = some (C, Tt, N)) (hf : fs[fld]? = some 1) (hk : fld < N) (hfin : (Tt fld).2.2.2 = false) (hd : (Tt fld).2.2.1 = "J") (hw : Cond.fieldLink own index (Tt fld).1 (Tt fld).2.1 (Tt fld).2.2.1 ∈ Ts) (hdg : decode cc pc = .ok (.putfield index, 3)) (hp : pc + 3 = pc')
    (kk : GG p l e R s m args below meth c Q D A nL (wld T a L M2) pc' lv st) : GG p l e R s m args below meth c Q D A nL (wld T a L M) pc lv (.long (lI z) :: .ref (a k) :: st) := by
  subst hM; exact g_putJ F K ty0 hty hnm hin hL hc hf hk hfin hd hw hdg hp kk
theorem h_iast (F : CallFix p m c cc nL s args Ts own) (K : va_K D vwCl (tysT T) s) {k n : Nat} {r : List Nat} {z v : Int} (M2 : Mem) (hM : up M k z v = M2) (hL : L[k]? = some (0, n, r)) (hn : n < 2147483648) (hz : 0 ≤ z ∧ z < (n : Int)) (hdg : decode cc pc = .ok (.iastore, 1)) (hp : pc + 1 = pc')
    (kk : GG p l e R s m args below meth c Q D A nL (wld T a L M2) pc' lv st) : GG p l e R s m args below meth c Q D A nL (wld T a L M) pc lv (.int (iI v) :: .int (iI z) :: .ref (a k) :: st) := by
  subst hM; exact g_iast F K hL hn hz hdg hp kk
theorem h_last (F : CallFix p m c cc nL s args Ts own) (K : va_K D vwCl (tysT T) s) {k n : Nat} {r : List Nat} {z v : Int} (M2 : Mem) (hM : up M k z v = M2) (hL : L[k]? = some (1, n, r)) (hn : n < 2147483648) (hz : 0 ≤ z ∧ z < (n : Int)) (hdg : decode cc pc = .ok (.lastore, 1)) (hp : pc + 1 = pc')
    (kk : GG p l e R s m args below meth c Q D A nL (wld T a L M2) pc' lv st) : GG p l e R s m args below meth c Q D A nL (wld T a L M) pc lv (.long (lI v) :: .int (iI z) :: .ref (a k) :: st) := by
  subst hM; exact g_last F K hL hn hz hdg hp kk
theorem h_zast (F : CallFix p m c cc nL s args Ts own) (K : va_K D vwCl (tysT T) s) {k n : Nat} {r : List Nat} {z v : Int} (M2 : Mem) (hM : up M k z v = M2) (hL : L[k]? = some (2, n, r)) (hn : n < 2147483648) (hz : 0 ≤ z ∧ z < (n : Int)) (hb : v = 0 ∨ v = 1) (hdg : decode cc pc = .ok (.bastore, 1)) (hp : pc + 1 = pc')
    (kk : GG p l e R s m args below meth c Q D A nL (wld T a L M2) pc' lv st) : GG p l e R s m args below meth c Q D A nL (wld T a L M) pc lv (.int (iI v) :: .int (iI z) :: .ref (a k) :: st) := by
  subst hM; exact g_zast F K hL hn hz hb hdg hp kk
end HROWS
theorem sc_id (M : Mem) (k : Nat) : sc M k (M k) = M := by
  funext j
  by_cases h : j = k
  · subst h; exact sc_s _ _ _
  · exact sc_n h
theorem upf_w (f : Int → Int) (j x y : Int) : upf (upf f j x) j y = upf f j y := by
  funext i; simp only [upf]; split <;> rfl
end
section
theorem dX5_dotsOf_31 : decode cX5_dotsOf 31 = .ok (.iconst 1, 1) := by decide +kernel
theorem dX5_dotsOf_32 : decode cX5_dotsOf 32 = .ok (.goto 4, 3) := by decide +kernel
theorem dX5_dotsOf_35 : decode cX5_dotsOf 35 = .ok (.iload_n 3, 1) := by decide +kernel
theorem dX5_dotsOf_36 : decode cX5_dotsOf 36 = .ok (.aload_n 0, 1) := by decide +kernel
theorem dX5_dotsOf_37 : decode cX5_dotsOf 37 = .ok (.getfield 13, 3) := by decide +kernel
theorem dX5_dotsOf_40 : decode cX5_dotsOf 40 = .ok (.iconst 4, 1) := by decide +kernel
theorem dX5_dotsOf_41 : decode cX5_dotsOf 41 = .ok (.iaload, 1) := by decide +kernel
theorem dX5_dotsOf_42 : decode cX5_dotsOf 42 = .ok (.iadd, 1) := by decide +kernel
theorem dX5_dotsOf_43 : decode cX5_dotsOf 43 = .ok (.ireturn, 1) := by decide +kernel
set_option maxRecDepth 20000 in
theorem ggX5_dots_X5_layStems : GoodIn wsX5_dots wsX5_layStems := goodIn_r _ [6, 7, 8, 9, 10, 11, 12, 13, 14, 15, 16, 5, 17, 18, 19, 20, 21, 22, 23, 24, 25, 26, 27, 28, 29, 30, 1, 31, 32, 33, 34, 35, 36, 37, 38, 39, 47, 48, 49, 50, 51, 52, 53, 54, 55, 56, 57, 58, 59, 60, 61, 62, 63, 64, 65, 66, 67, 68, 69] (by decide +kernel) (by decide +kernel)
set_option maxRecDepth 20000 in
theorem gX5_dots_X5_layStems : GoodIn wsX5_dots (wsV RX5 108 RX5 yX5_layStems wsX5_layStems) := goodIn_app (goodIn_of _ (by decide +kernel)) ggX5_dots_X5_layStems
set_option maxRecDepth 20000 in
theorem ggX5_dots_X5_in : GoodIn wsX5_dots wsX5_in := goodIn_r _ [42] (by decide +kernel) (by decide +kernel)
set_option maxRecDepth 20000 in
theorem gX5_dots_X5_in : GoodIn wsX5_dots (va_wsS RX5 66 yX5_in wsX5_in) := goodIn_app (goodIn_of _ (by decide +kernel)) ggX5_dots_X5_in
set_option maxRecDepth 20000 in
theorem ggX5_dots_X5_dotsOf : GoodIn wsX5_dots wsX5_dotsOf := goodIn_r _ [46, 35, 34, 33, 47, 48, 49, 50, 51, 52, 53, 54, 55, 56, 57, 58, 59, 60, 61, 62, 63, 64, 65, 66, 67, 68, 69] (by decide +kernel) (by decide +kernel)
set_option maxRecDepth 20000 in
theorem gX5_dots_X5_dotsOf : GoodIn wsX5_dots (wsV RX5 111 RX5 yX5_dotsOf wsX5_dotsOf) := goodIn_app (goodIn_of _ (by decide +kernel)) ggX5_dots_X5_dotsOf
theorem dX5_dots_0 : decode cX5_dots 0 = .ok (.aload_n 0, 1) := by decide +kernel
theorem dX5_dots_1 : decode cX5_dots 1 = .ok (.invokevirtual 108, 3) := by decide +kernel
theorem dX5_dots_4 : decode cX5_dots 4 = .ok (.iload_n 1, 1) := by decide +kernel
theorem dX5_dots_5 : decode cX5_dots 5 = .ok (.iconst 0, 1) := by decide +kernel
theorem dX5_dots_6 : decode cX5_dots 6 = .ok (.aload_n 0, 1) := by decide +kernel
theorem dX5_dots_7 : decode cX5_dots 7 = .ok (.getfield 102, 3) := by decide +kernel
theorem dX5_dots_10 : decode cX5_dots 10 = .ok (.iconst 1, 1) := by decide +kernel
theorem dX5_dots_11 : decode cX5_dots 11 = .ok (.isub, 1) := by decide +kernel
theorem dX5_dots_12 : decode cX5_dots 12 = .ok (.invokestatic 66, 3) := by decide +kernel
theorem dX5_dots_15 : decode cX5_dots 15 = .ok (.ifCond .ne 5, 3) := by decide +kernel
theorem dX5_dots_18 : decode cX5_dots 18 = .ok (.iconst (-1), 1) := by decide +kernel
theorem dX5_dots_19 : decode cX5_dots 19 = .ok (.ireturn, 1) := by decide +kernel
theorem dX5_dots_20 : decode cX5_dots 20 = .ok (.iload_n 2, 1) := by decide +kernel
theorem dX5_dots_21 : decode cX5_dots 21 = .ok (.iconst 1, 1) := by decide +kernel
theorem dX5_dots_22 : decode cX5_dots 22 = .ok (.bipush 60, 2) := by decide +kernel
theorem dX5_dots_24 : decode cX5_dots 24 = .ok (.invokestatic 66, 3) := by decide +kernel
theorem dX5_dots_27 : decode cX5_dots 27 = .ok (.ifCond .eq 12, 3) := by decide +kernel
theorem dX5_dots_30 : decode cX5_dots 30 = .ok (.aload_n 0, 1) := by decide +kernel
theorem dX5_dots_31 : decode cX5_dots 31 = .ok (.iload_n 1, 1) := by decide +kernel
theorem dX5_dots_32 : decode cX5_dots 32 = .ok (.iload_n 2, 1) := by decide +kernel
theorem dX5_dots_33 : decode cX5_dots 33 = .ok (.invokevirtual 111, 3) := by decide +kernel
theorem dX5_dots_36 : decode cX5_dots 36 = .ok (.goto 5, 3) := by decide +kernel
theorem dX5_dots_39 : decode cX5_dots 39 = .ok (.bipush (-2), 2) := by decide +kernel
theorem dX5_dots_41 : decode cX5_dots 41 = .ok (.ireturn, 1) := by decide +kernel
set_option maxRecDepth 20000 in
theorem ggX5_grows_X5_layStems : GoodIn wsX5_grows wsX5_layStems := goodIn_r _ [6, 7, 8, 9, 10, 11, 12, 13, 14, 15, 16, 5, 17, 18, 19, 20, 21, 22, 23, 24, 25, 26, 27, 28, 29, 30, 1, 31, 32, 33, 34, 35, 36, 37, 38, 39, 47, 48, 49, 50, 51, 52, 53, 54, 55, 56, 57, 58, 59, 60, 61, 62, 63, 64, 65, 66, 67, 68, 69] (by decide +kernel) (by decide +kernel)
set_option maxRecDepth 20000 in
theorem gX5_grows_X5_layStems : GoodIn wsX5_grows (wsV RX5 108 RX5 yX5_layStems wsX5_layStems) := goodIn_app (goodIn_of _ (by decide +kernel)) ggX5_grows_X5_layStems
set_option maxRecDepth 20000 in
theorem ggX5_grows_X5_in : GoodIn wsX5_grows wsX5_in := goodIn_r _ [42] (by decide +kernel) (by decide +kernel)
set_option maxRecDepth 20000 in
theorem gX5_grows_X5_in : GoodIn wsX5_grows (va_wsS RX5 66 yX5_in wsX5_in) := goodIn_app (goodIn_of _ (by decide +kernel)) ggX5_grows_X5_in
set_option maxRecDepth 20000 in
theorem ggX5_grows_X5_dotsOf : GoodIn wsX5_grows wsX5_dotsOf := goodIn_r _ [46, 35, 34, 33, 47, 48, 49, 50, 51, 52, 53, 54, 55, 56, 57, 58, 59, 60, 61, 62, 63, 64, 65, 66, 67, 68, 69] (by decide +kernel) (by decide +kernel)
set_option maxRecDepth 20000 in
theorem gX5_grows_X5_dotsOf : GoodIn wsX5_grows (wsV RX5 111 RX5 yX5_dotsOf wsX5_dotsOf) := goodIn_app (goodIn_of _ (by decide +kernel)) ggX5_grows_X5_dotsOf
theorem dX5_grows_0 : decode cX5_grows 0 = .ok (.aload_n 0, 1) := by decide +kernel
theorem dX5_grows_1 : decode cX5_grows 1 = .ok (.invokevirtual 108, 3) := by decide +kernel
theorem dX5_grows_4 : decode cX5_grows 4 = .ok (.iload_n 1, 1) := by decide +kernel
theorem dX5_grows_5 : decode cX5_grows 5 = .ok (.iconst 0, 1) := by decide +kernel
theorem dX5_grows_6 : decode cX5_grows 6 = .ok (.aload_n 0, 1) := by decide +kernel
theorem dX5_grows_7 : decode cX5_grows 7 = .ok (.getfield 102, 3) := by decide +kernel
theorem dX5_grows_10 : decode cX5_grows 10 = .ok (.iconst 1, 1) := by decide +kernel
theorem dX5_grows_11 : decode cX5_grows 11 = .ok (.isub, 1) := by decide +kernel
theorem dX5_grows_12 : decode cX5_grows 12 = .ok (.invokestatic 66, 3) := by decide +kernel
theorem dX5_grows_15 : decode cX5_grows 15 = .ok (.ifCond .ne 5, 3) := by decide +kernel
theorem dX5_grows_18 : decode cX5_grows 18 = .ok (.iconst (-1), 1) := by decide +kernel
theorem dX5_grows_19 : decode cX5_grows 19 = .ok (.ireturn, 1) := by decide +kernel
theorem dX5_grows_20 : decode cX5_grows 20 = .ok (.iload_n 2, 1) := by decide +kernel
theorem dX5_grows_21 : decode cX5_grows 21 = .ok (.iconst 1, 1) := by decide +kernel
theorem dX5_grows_22 : decode cX5_grows 22 = .ok (.bipush 60, 2) := by decide +kernel
theorem dX5_grows_24 : decode cX5_grows 24 = .ok (.invokestatic 66, 3) := by decide +kernel
theorem dX5_grows_27 : decode cX5_grows 27 = .ok (.ifCond .ne 6, 3) := by decide +kernel
theorem dX5_grows_30 : decode cX5_grows 30 = .ok (.bipush (-2), 2) := by decide +kernel
theorem dX5_grows_32 : decode cX5_grows 32 = .ok (.ireturn, 1) := by decide +kernel
theorem dX5_grows_33 : decode cX5_grows 33 = .ok (.iconst 1, 1) := by decide +kernel
theorem dX5_grows_34 : decode cX5_grows 34 = .ok (.istore_n 3, 1) := by decide +kernel
theorem dX5_grows_35 : decode cX5_grows 35 = .ok (.iload_n 3, 1) := by decide +kernel
theorem dX5_grows_36 : decode cX5_grows 36 = .ok (.bipush 60, 2) := by decide +kernel
theorem dX5_grows_38 : decode cX5_grows 38 = .ok (.if_icmp .gt 21, 3) := by decide +kernel
theorem dX5_grows_41 : decode cX5_grows 41 = .ok (.aload_n 0, 1) := by decide +kernel
theorem dX5_grows_42 : decode cX5_grows 42 = .ok (.iload_n 1, 1) := by decide +kernel
theorem dX5_grows_43 : decode cX5_grows 43 = .ok (.iload_n 3, 1) := by decide +kernel
theorem dX5_grows_44 : decode cX5_grows 44 = .ok (.invokevirtual 111, 3) := by decide +kernel
theorem dX5_grows_47 : decode cX5_grows 47 = .ok (.iload_n 2, 1) := by decide +kernel
theorem dX5_grows_48 : decode cX5_grows 48 = .ok (.if_icmp .lt 5, 3) := by decide +kernel
theorem dX5_grows_51 : decode cX5_grows 51 = .ok (.iload_n 3, 1) := by decide +kernel
theorem dX5_grows_52 : decode cX5_grows 52 = .ok (.ireturn, 1) := by decide +kernel
theorem dX5_grows_53 : decode cX5_grows 53 = .ok (.iinc 3 1, 3) := by decide +kernel
theorem dX5_grows_56 : decode cX5_grows 56 = .ok (.goto (-21), 3) := by decide +kernel
theorem dX5_grows_59 : decode cX5_grows 59 = .ok (.bipush (-6), 2) := by decide +kernel
theorem dX5_grows_61 : decode cX5_grows 61 = .ok (.ireturn, 1) := by decide +kernel
theorem dX5_counted_0 : decode cX5_counted 0 = .ok (.aload_n 0, 1) := by decide +kernel
theorem dX5_counted_1 : decode cX5_counted 1 = .ok (.getfield 13, 3) := by decide +kernel
theorem dX5_counted_4 : decode cX5_counted 4 = .ok (.iconst 3, 1) := by decide +kernel
theorem dX5_counted_5 : decode cX5_counted 5 = .ok (.iaload, 1) := by decide +kernel
theorem dX5_counted_6 : decode cX5_counted 6 = .ok (.iconst 2, 1) := by decide +kernel
theorem dX5_counted_7 : decode cX5_counted 7 = .ok (.irem, 1) := by decide +kernel
theorem dX5_counted_8 : decode cX5_counted 8 = .ok (.iconst 1, 1) := by decide +kernel
theorem dX5_counted_9 : decode cX5_counted 9 = .ok (.if_icmp .ne 13, 3) := by decide +kernel
theorem dX5_counted_12 : decode cX5_counted 12 = .ok (.lload_n 1, 1) := by decide +kernel
theorem dX5_counted_13 : decode cX5_counted 13 = .ok (.lload_n 1, 1) := by decide +kernel
theorem dX5_counted_14 : decode cX5_counted 14 = .ok (.lmul, 1) := by decide +kernel
theorem dX5_counted_15 : decode cX5_counted 15 = .ok (.ldc2_w 115, 3) := by decide +kernel
theorem dX5_counted_18 : decode cX5_counted 18 = .ok (.ldiv, 1) := by decide +kernel
theorem dX5_counted_19 : decode cX5_counted 19 = .ok (.goto 4, 3) := by decide +kernel
theorem dX5_counted_22 : decode cX5_counted 22 = .ok (.lload_n 1, 1) := by decide +kernel
theorem dX5_counted_23 : decode cX5_counted 23 = .ok (.iload_n 3, 1) := by decide +kernel
theorem dX5_counted_24 : decode cX5_counted 24 = .ok (.i2l, 1) := by decide +kernel
theorem dX5_counted_25 : decode cX5_counted 25 = .ok (.lmul, 1) := by decide +kernel
theorem dX5_counted_26 : decode cX5_counted 26 = .ok (.lreturn, 1) := by decide +kernel
theorem dX5_both_0 : decode cX5_both 0 = .ok (.aload_n 0, 1) := by decide +kernel
theorem dX5_both_1 : decode cX5_both 1 = .ok (.getfield 13, 3) := by decide +kernel
theorem dX5_both_4 : decode cX5_both 4 = .ok (.iconst 3, 1) := by decide +kernel
theorem dX5_both_5 : decode cX5_both 5 = .ok (.iaload, 1) := by decide +kernel
theorem dX5_both_6 : decode cX5_both 6 = .ok (.iconst 2, 1) := by decide +kernel
theorem dX5_both_7 : decode cX5_both 7 = .ok (.if_icmp .ge 9, 3) := by decide +kernel
theorem dX5_both_10 : decode cX5_both 10 = .ok (.lload_n 1, 1) := by decide +kernel
theorem dX5_both_11 : decode cX5_both 11 = .ok (.lload_n 3, 1) := by decide +kernel
theorem dX5_both_12 : decode cX5_both 12 = .ok (.ladd, 1) := by decide +kernel
theorem dX5_both_13 : decode cX5_both 13 = .ok (.goto 14, 3) := by decide +kernel
theorem dX5_both_16 : decode cX5_both 16 = .ok (.lload_n 1, 1) := by decide +kernel
theorem dX5_both_17 : decode cX5_both 17 = .ok (.lload_n 3, 1) := by decide +kernel
theorem dX5_both_18 : decode cX5_both 18 = .ok (.lcmp, 1) := by decide +kernel
theorem dX5_both_19 : decode cX5_both 19 = .ok (.ifCond .le 7, 3) := by decide +kernel
theorem dX5_both_22 : decode cX5_both 22 = .ok (.lload_n 1, 1) := by decide +kernel
theorem dX5_both_23 : decode cX5_both 23 = .ok (.goto 4, 3) := by decide +kernel
theorem dX5_both_26 : decode cX5_both 26 = .ok (.lload_n 3, 1) := by decide +kernel
theorem dX5_both_27 : decode cX5_both 27 = .ok (.lreturn, 1) := by decide +kernel
set_option maxRecDepth 20000 in
theorem ggX5_stemDrift_X5_counted : GoodIn wsX5_stemDrift wsX5_counted := goodIn_r _ [10, 5, 1, 11, 12, 13, 14, 15, 16, 17, 18, 19, 20, 21, 22, 23, 24, 25, 26, 27, 28, 29, 30, 31, 32, 33] (by decide +kernel) (by decide +kernel)
set_option maxRecDepth 20000 in
theorem gX5_stemDrift_X5_counted : GoodIn wsX5_stemDrift (wsV RX5 117 RX5 yX5_counted wsX5_counted) := goodIn_app (goodIn_of _ (by decide +kernel)) ggX5_stemDrift_X5_counted
theorem dX5_stemDrift_0 : decode cX5_stemDrift 0 = .ok (.ldc2_w 115, 3) := by decide +kernel
theorem dX5_stemDrift_3 : decode cX5_stemDrift 3 = .ok (.iconst 2, 1) := by decide +kernel
theorem dX5_stemDrift_4 : decode cX5_stemDrift 4 = .ok (.iload_n 2, 1) := by decide +kernel
theorem dX5_stemDrift_5 : decode cX5_stemDrift 5 = .ok (.imul, 1) := by decide +kernel
theorem dX5_stemDrift_6 : decode cX5_stemDrift 6 = .ok (.aload_n 0, 1) := by decide +kernel
theorem dX5_stemDrift_7 : decode cX5_stemDrift 7 = .ok (.getfield 56, 3) := by decide +kernel
theorem dX5_stemDrift_10 : decode cX5_stemDrift 10 = .ok (.iload_n 1, 1) := by decide +kernel
theorem dX5_stemDrift_11 : decode cX5_stemDrift 11 = .ok (.iaload, 1) := by decide +kernel
theorem dX5_stemDrift_12 : decode cX5_stemDrift 12 = .ok (.iadd, 1) := by decide +kernel
theorem dX5_stemDrift_13 : decode cX5_stemDrift 13 = .ok (.i2l, 1) := by decide +kernel
theorem dX5_stemDrift_14 : decode cX5_stemDrift 14 = .ok (.lmul, 1) := by decide +kernel
theorem dX5_stemDrift_15 : decode cX5_stemDrift 15 = .ok (.aload_n 0, 1) := by decide +kernel
theorem dX5_stemDrift_16 : decode cX5_stemDrift 16 = .ok (.getfield 22, 3) := by decide +kernel
theorem dX5_stemDrift_19 : decode cX5_stemDrift 19 = .ok (.iload_n 1, 1) := by decide +kernel
theorem dX5_stemDrift_20 : decode cX5_stemDrift 20 = .ok (.iaload, 1) := by decide +kernel
theorem dX5_stemDrift_21 : decode cX5_stemDrift 21 = .ok (.aload_n 0, 1) := by decide +kernel
theorem dX5_stemDrift_22 : decode cX5_stemDrift 22 = .ok (.getfield 25, 3) := by decide +kernel
theorem dX5_stemDrift_25 : decode cX5_stemDrift 25 = .ok (.iload_n 1, 1) := by decide +kernel
theorem dX5_stemDrift_26 : decode cX5_stemDrift 26 = .ok (.iaload, 1) := by decide +kernel
theorem dX5_stemDrift_27 : decode cX5_stemDrift 27 = .ok (.iadd, 1) := by decide +kernel
theorem dX5_stemDrift_28 : decode cX5_stemDrift 28 = .ok (.i2l, 1) := by decide +kernel
theorem dX5_stemDrift_29 : decode cX5_stemDrift 29 = .ok (.iload_n 3, 1) := by decide +kernel
theorem dX5_stemDrift_30 : decode cX5_stemDrift 30 = .ok (.i2l, 1) := by decide +kernel
theorem dX5_stemDrift_31 : decode cX5_stemDrift 31 = .ok (.lmul, 1) := by decide +kernel
theorem dX5_stemDrift_32 : decode cX5_stemDrift 32 = .ok (.lsub, 1) := by decide +kernel
theorem dX5_stemDrift_33 : decode cX5_stemDrift 33 = .ok (.lstore 4, 2) := by decide +kernel
theorem dX5_stemDrift_35 : decode cX5_stemDrift 35 = .ok (.aload_n 0, 1) := by decide +kernel
theorem dX5_stemDrift_36 : decode cX5_stemDrift 36 = .ok (.lload 4, 2) := by decide +kernel
theorem dX5_stemDrift_38 : decode cX5_stemDrift 38 = .ok (.lconst 0, 1) := by decide +kernel
theorem dX5_stemDrift_39 : decode cX5_stemDrift 39 = .ok (.lcmp, 1) := by decide +kernel
theorem dX5_stemDrift_40 : decode cX5_stemDrift 40 = .ok (.ifCond .ge 9, 3) := by decide +kernel
theorem dX5_stemDrift_43 : decode cX5_stemDrift 43 = .ok (.lload 4, 2) := by decide +kernel
theorem dX5_stemDrift_45 : decode cX5_stemDrift 45 = .ok (.lneg, 1) := by decide +kernel
theorem dX5_stemDrift_46 : decode cX5_stemDrift 46 = .ok (.goto 5, 3) := by decide +kernel
theorem dX5_stemDrift_49 : decode cX5_stemDrift 49 = .ok (.lload 4, 2) := by decide +kernel
theorem dX5_stemDrift_51 : decode cX5_stemDrift 51 = .ok (.aload_n 0, 1) := by decide +kernel
theorem dX5_stemDrift_52 : decode cX5_stemDrift 52 = .ok (.getfield 13, 3) := by decide +kernel
theorem dX5_stemDrift_55 : decode cX5_stemDrift 55 = .ok (.iconst 1, 1) := by decide +kernel
theorem dX5_stemDrift_56 : decode cX5_stemDrift 56 = .ok (.iaload, 1) := by decide +kernel
theorem dX5_stemDrift_57 : decode cX5_stemDrift 57 = .ok (.invokevirtual 117, 3) := by decide +kernel
theorem dX5_stemDrift_60 : decode cX5_stemDrift 60 = .ok (.lreturn, 1) := by decide +kernel
set_option maxRecDepth 20000 in
theorem ggX5_gapDrift_X5_counted : GoodIn wsX5_gapDrift wsX5_counted := goodIn_r _ [12, 7, 1, 13, 14, 15, 16, 17, 18, 19, 20, 21, 22, 23, 24, 25, 26, 27, 28, 29, 30, 31, 32, 33, 34, 35] (by decide +kernel) (by decide +kernel)
set_option maxRecDepth 20000 in
theorem gX5_gapDrift_X5_counted : GoodIn wsX5_gapDrift (wsV RX5 117 RX5 yX5_counted wsX5_counted) := goodIn_app (goodIn_of _ (by decide +kernel)) ggX5_gapDrift_X5_counted
theorem dX5_gapDrift_0 : decode cX5_gapDrift 0 = .ok (.ldc2_w 115, 3) := by decide +kernel
theorem dX5_gapDrift_3 : decode cX5_gapDrift 3 = .ok (.iload_n 3, 1) := by decide +kernel
theorem dX5_gapDrift_4 : decode cX5_gapDrift 4 = .ok (.iload_n 2, 1) := by decide +kernel
theorem dX5_gapDrift_5 : decode cX5_gapDrift 5 = .ok (.isub, 1) := by decide +kernel
theorem dX5_gapDrift_6 : decode cX5_gapDrift 6 = .ok (.aload_n 0, 1) := by decide +kernel
theorem dX5_gapDrift_7 : decode cX5_gapDrift 7 = .ok (.getfield 56, 3) := by decide +kernel
theorem dX5_gapDrift_10 : decode cX5_gapDrift 10 = .ok (.iload_n 1, 1) := by decide +kernel
theorem dX5_gapDrift_11 : decode cX5_gapDrift 11 = .ok (.iconst 1, 1) := by decide +kernel
theorem dX5_gapDrift_12 : decode cX5_gapDrift 12 = .ok (.isub, 1) := by decide +kernel
theorem dX5_gapDrift_13 : decode cX5_gapDrift 13 = .ok (.iaload, 1) := by decide +kernel
theorem dX5_gapDrift_14 : decode cX5_gapDrift 14 = .ok (.isub, 1) := by decide +kernel
theorem dX5_gapDrift_15 : decode cX5_gapDrift 15 = .ok (.i2l, 1) := by decide +kernel
theorem dX5_gapDrift_16 : decode cX5_gapDrift 16 = .ok (.lmul, 1) := by decide +kernel
theorem dX5_gapDrift_17 : decode cX5_gapDrift 17 = .ok (.aload_n 0, 1) := by decide +kernel
theorem dX5_gapDrift_18 : decode cX5_gapDrift 18 = .ok (.getfield 22, 3) := by decide +kernel
theorem dX5_gapDrift_21 : decode cX5_gapDrift 21 = .ok (.iload_n 1, 1) := by decide +kernel
theorem dX5_gapDrift_22 : decode cX5_gapDrift 22 = .ok (.iaload, 1) := by decide +kernel
theorem dX5_gapDrift_23 : decode cX5_gapDrift 23 = .ok (.aload_n 0, 1) := by decide +kernel
theorem dX5_gapDrift_24 : decode cX5_gapDrift 24 = .ok (.getfield 25, 3) := by decide +kernel
theorem dX5_gapDrift_27 : decode cX5_gapDrift 27 = .ok (.iload_n 1, 1) := by decide +kernel
theorem dX5_gapDrift_28 : decode cX5_gapDrift 28 = .ok (.iconst 1, 1) := by decide +kernel
theorem dX5_gapDrift_29 : decode cX5_gapDrift 29 = .ok (.isub, 1) := by decide +kernel
theorem dX5_gapDrift_30 : decode cX5_gapDrift 30 = .ok (.iaload, 1) := by decide +kernel
theorem dX5_gapDrift_31 : decode cX5_gapDrift 31 = .ok (.isub, 1) := by decide +kernel
theorem dX5_gapDrift_32 : decode cX5_gapDrift 32 = .ok (.i2l, 1) := by decide +kernel
theorem dX5_gapDrift_33 : decode cX5_gapDrift 33 = .ok (.iload 4, 2) := by decide +kernel
theorem dX5_gapDrift_35 : decode cX5_gapDrift 35 = .ok (.i2l, 1) := by decide +kernel
theorem dX5_gapDrift_36 : decode cX5_gapDrift 36 = .ok (.lmul, 1) := by decide +kernel
theorem dX5_gapDrift_37 : decode cX5_gapDrift 37 = .ok (.lsub, 1) := by decide +kernel
theorem dX5_gapDrift_38 : decode cX5_gapDrift 38 = .ok (.lstore 5, 2) := by decide +kernel
theorem dX5_gapDrift_40 : decode cX5_gapDrift 40 = .ok (.aload_n 0, 1) := by decide +kernel
theorem dX5_gapDrift_41 : decode cX5_gapDrift 41 = .ok (.lload 5, 2) := by decide +kernel
theorem dX5_gapDrift_43 : decode cX5_gapDrift 43 = .ok (.lconst 0, 1) := by decide +kernel
theorem dX5_gapDrift_44 : decode cX5_gapDrift 44 = .ok (.lcmp, 1) := by decide +kernel
theorem dX5_gapDrift_45 : decode cX5_gapDrift 45 = .ok (.ifCond .ge 12, 3) := by decide +kernel
theorem dX5_gapDrift_48 : decode cX5_gapDrift 48 = .ok (.ldc2_w 121, 3) := by decide +kernel
theorem dX5_gapDrift_51 : decode cX5_gapDrift 51 = .ok (.lload 5, 2) := by decide +kernel
theorem dX5_gapDrift_53 : decode cX5_gapDrift 53 = .ok (.lmul, 1) := by decide +kernel
theorem dX5_gapDrift_54 : decode cX5_gapDrift 54 = .ok (.goto 9, 3) := by decide +kernel
theorem dX5_gapDrift_57 : decode cX5_gapDrift 57 = .ok (.ldc2_w 123, 3) := by decide +kernel
theorem dX5_gapDrift_60 : decode cX5_gapDrift 60 = .ok (.lload 5, 2) := by decide +kernel
theorem dX5_gapDrift_62 : decode cX5_gapDrift 62 = .ok (.lmul, 1) := by decide +kernel
theorem dX5_gapDrift_63 : decode cX5_gapDrift 63 = .ok (.aload_n 0, 1) := by decide +kernel
theorem dX5_gapDrift_64 : decode cX5_gapDrift 64 = .ok (.getfield 13, 3) := by decide +kernel
theorem dX5_gapDrift_67 : decode cX5_gapDrift 67 = .ok (.iconst 2, 1) := by decide +kernel
theorem dX5_gapDrift_68 : decode cX5_gapDrift 68 = .ok (.iaload, 1) := by decide +kernel
theorem dX5_gapDrift_69 : decode cX5_gapDrift 69 = .ok (.invokevirtual 117, 3) := by decide +kernel
theorem dX5_gapDrift_72 : decode cX5_gapDrift 72 = .ok (.lreturn, 1) := by decide +kernel
set_option maxRecDepth 20000 in
theorem ggX5_layFit_X5_layStems : GoodIn wsX5_layFit wsX5_layStems := goodIn_r _ [12, 1, 13, 14, 15, 16, 17, 18, 19, 20, 21, 11, 22, 23, 24, 25, 26, 27, 28, 29, 30, 31, 32, 33, 34, 35, 36, 3, 37, 38, 39, 40, 41, 42, 43, 44, 68, 69, 70, 71, 72, 73, 74, 75, 76, 77, 78, 79, 80, 81, 82, 83, 84, 85, 86, 87, 88, 89, 90] (by decide +kernel) (by decide +kernel)
set_option maxRecDepth 20000 in
theorem gX5_layFit_X5_layStems : GoodIn wsX5_layFit (wsV RX5 108 RX5 yX5_layStems wsX5_layStems) := goodIn_app (goodIn_of _ (by decide +kernel)) ggX5_layFit_X5_layStems
set_option maxRecDepth 20000 in
theorem ggX5_layFit_X5_dotsOf : GoodIn wsX5_layFit wsX5_dotsOf := goodIn_r _ [48, 40, 39, 38, 68, 69, 70, 71, 72, 73, 74, 75, 76, 77, 78, 79, 80, 81, 82, 83, 84, 85, 86, 87, 88, 89, 90] (by decide +kernel) (by decide +kernel)
set_option maxRecDepth 20000 in
theorem gX5_layFit_X5_dotsOf : GoodIn wsX5_layFit (wsV RX5 111 RX5 yX5_dotsOf wsX5_dotsOf) := goodIn_app (goodIn_of _ (by decide +kernel)) ggX5_layFit_X5_dotsOf
set_option maxRecDepth 20000 in
theorem ggX5_layFit_X5_gapDrift : GoodIn wsX5_layFit wsX5_gapDrift := goodIn_r _ [52, 53, 2, 14, 15, 54, 55, 38, 56, 57, 58, 11, 59, 68, 69, 70, 71, 72, 73, 74, 75, 76, 77, 78, 79, 80, 81, 82, 83, 84, 85, 86, 87, 88, 89, 90] (by decide +kernel) (by decide +kernel)
set_option maxRecDepth 20000 in
theorem gX5_layFit_X5_gapDrift : GoodIn wsX5_layFit (wsV RX5 131 RX5 yX5_gapDrift wsX5_gapDrift) := goodIn_app (goodIn_of _ (by decide +kernel)) ggX5_layFit_X5_gapDrift
set_option maxRecDepth 20000 in
theorem ggX5_layFit_X5_both : GoodIn wsX5_layFit wsX5_both := goodIn_r _ [63, 38, 68, 69, 70, 71, 72, 73, 74, 75, 76, 77, 78, 79, 80, 81, 82, 83, 84, 85, 86, 87, 88, 89, 90] (by decide +kernel) (by decide +kernel)
set_option maxRecDepth 20000 in
theorem gX5_layFit_X5_both : GoodIn wsX5_layFit (wsV RX5 135 RX5 yX5_both wsX5_both) := goodIn_app (goodIn_of _ (by decide +kernel)) ggX5_layFit_X5_both
set_option maxRecDepth 20000 in
theorem ggX5_layFit_X5_stemDrift : GoodIn wsX5_layFit wsX5_stemDrift := goodIn_r _ [67, 53, 2, 14, 15, 38, 56, 57, 58, 11, 59, 68, 69, 70, 71, 72, 73, 74, 75, 76, 77, 78, 79, 80, 81, 82, 83, 84, 85, 86, 87, 88, 89, 90] (by decide +kernel) (by decide +kernel)
set_option maxRecDepth 20000 in
theorem gX5_layFit_X5_stemDrift : GoodIn wsX5_layFit (wsV RX5 139 RX5 yX5_stemDrift wsX5_stemDrift) := goodIn_app (goodIn_of _ (by decide +kernel)) ggX5_layFit_X5_stemDrift
theorem dX5_layFit_0 : decode cX5_layFit 0 = .ok (.aload_n 0, 1) := by decide +kernel
theorem dX5_layFit_1 : decode cX5_layFit 1 = .ok (.invokevirtual 108, 3) := by decide +kernel
theorem dX5_layFit_4 : decode cX5_layFit 4 = .ok (.iconst 0, 1) := by decide +kernel
theorem dX5_layFit_5 : decode cX5_layFit 5 = .ok (.istore_n 2, 1) := by decide +kernel
theorem dX5_layFit_6 : decode cX5_layFit 6 = .ok (.iload_n 2, 1) := by decide +kernel
theorem dX5_layFit_7 : decode cX5_layFit 7 = .ok (.aload_n 0, 1) := by decide +kernel
theorem dX5_layFit_8 : decode cX5_layFit 8 = .ok (.getfield 89, 3) := by decide +kernel
theorem dX5_layFit_11 : decode cX5_layFit 11 = .ok (.if_icmp .ge 26, 3) := by decide +kernel
theorem dX5_layFit_14 : decode cX5_layFit 14 = .ok (.aload_n 0, 1) := by decide +kernel
theorem dX5_layFit_15 : decode cX5_layFit 15 = .ok (.getfield 56, 3) := by decide +kernel
theorem dX5_layFit_18 : decode cX5_layFit 18 = .ok (.iload_n 2, 1) := by decide +kernel
theorem dX5_layFit_19 : decode cX5_layFit 19 = .ok (.aload_n 0, 1) := by decide +kernel
theorem dX5_layFit_20 : decode cX5_layFit 20 = .ok (.aload_n 0, 1) := by decide +kernel
theorem dX5_layFit_21 : decode cX5_layFit 21 = .ok (.getfield 34, 3) := by decide +kernel
theorem dX5_layFit_24 : decode cX5_layFit 24 = .ok (.iload_n 2, 1) := by decide +kernel
theorem dX5_layFit_25 : decode cX5_layFit 25 = .ok (.iaload, 1) := by decide +kernel
theorem dX5_layFit_26 : decode cX5_layFit 26 = .ok (.iload_n 1, 1) := by decide +kernel
theorem dX5_layFit_27 : decode cX5_layFit 27 = .ok (.invokevirtual 111, 3) := by decide +kernel
theorem dX5_layFit_30 : decode cX5_layFit 30 = .ok (.iastore, 1) := by decide +kernel
theorem dX5_layFit_31 : decode cX5_layFit 31 = .ok (.iinc 2 1, 3) := by decide +kernel
theorem dX5_layFit_34 : decode cX5_layFit 34 = .ok (.goto (-28), 3) := by decide +kernel
theorem dX5_layFit_37 : decode cX5_layFit 37 = .ok (.aload_n 0, 1) := by decide +kernel
theorem dX5_layFit_38 : decode cX5_layFit 38 = .ok (.lconst 0, 1) := by decide +kernel
theorem dX5_layFit_39 : decode cX5_layFit 39 = .ok (.putfield 125, 3) := by decide +kernel
theorem dX5_layFit_42 : decode cX5_layFit 42 = .ok (.aload_n 0, 1) := by decide +kernel
theorem dX5_layFit_43 : decode cX5_layFit 43 = .ok (.getfield 89, 3) := by decide +kernel
theorem dX5_layFit_46 : decode cX5_layFit 46 = .ok (.ifCond .ne 5, 3) := by decide +kernel
theorem dX5_layFit_49 : decode cX5_layFit 49 = .ok (.iconst 1, 1) := by decide +kernel
theorem dX5_layFit_50 : decode cX5_layFit 50 = .ok (.ireturn, 1) := by decide +kernel
theorem dX5_layFit_51 : decode cX5_layFit 51 = .ok (.aload_n 0, 1) := by decide +kernel
theorem dX5_layFit_52 : decode cX5_layFit 52 = .ok (.getfield 89, 3) := by decide +kernel
theorem dX5_layFit_55 : decode cX5_layFit 55 = .ok (.iconst 1, 1) := by decide +kernel
theorem dX5_layFit_56 : decode cX5_layFit 56 = .ok (.isub, 1) := by decide +kernel
theorem dX5_layFit_57 : decode cX5_layFit 57 = .ok (.istore_n 2, 1) := by decide +kernel
theorem dX5_layFit_58 : decode cX5_layFit 58 = .ok (.iload_n 2, 1) := by decide +kernel
theorem dX5_layFit_59 : decode cX5_layFit 59 = .ok (.ifCond .lt 208, 3) := by decide +kernel
theorem dX5_layFit_62 : decode cX5_layFit 62 = .ok (.iconst 0, 1) := by decide +kernel
theorem dX5_layFit_63 : decode cX5_layFit 63 = .ok (.istore_n 3, 1) := by decide +kernel
theorem dX5_layFit_64 : decode cX5_layFit 64 = .ok (.iload_n 3, 1) := by decide +kernel
theorem dX5_layFit_65 : decode cX5_layFit 65 = .ok (.bipush 60, 2) := by decide +kernel
theorem dX5_layFit_67 : decode cX5_layFit 67 = .ok (.if_icmp .gt 194, 3) := by decide +kernel
theorem dX5_layFit_70 : decode cX5_layFit 70 = .ok (.ldc2_w 129, 3) := by decide +kernel
theorem dX5_layFit_73 : decode cX5_layFit 73 = .ok (.lstore 4, 2) := by decide +kernel
end
section
theorem dX5_layFit_75 : decode cX5_layFit 75 = .ok (.iload_n 3, 1) := by decide +kernel
theorem dX5_layFit_76 : decode cX5_layFit 76 = .ok (.aload_n 0, 1) := by decide +kernel
theorem dX5_layFit_77 : decode cX5_layFit 77 = .ok (.getfield 56, 3) := by decide +kernel
theorem dX5_layFit_80 : decode cX5_layFit 80 = .ok (.iload_n 2, 1) := by decide +kernel
theorem dX5_layFit_81 : decode cX5_layFit 81 = .ok (.iaload, 1) := by decide +kernel
theorem dX5_layFit_82 : decode cX5_layFit 82 = .ok (.iadd, 1) := by decide +kernel
theorem dX5_layFit_83 : decode cX5_layFit 83 = .ok (.iload_n 1, 1) := by decide +kernel
theorem dX5_layFit_84 : decode cX5_layFit 84 = .ok (.if_icmp .gt 158, 3) := by decide +kernel
theorem dX5_layFit_87 : decode cX5_layFit 87 = .ok (.iload_n 2, 1) := by decide +kernel
theorem dX5_layFit_88 : decode cX5_layFit 88 = .ok (.aload_n 0, 1) := by decide +kernel
theorem dX5_layFit_89 : decode cX5_layFit 89 = .ok (.getfield 89, 3) := by decide +kernel
theorem dX5_layFit_92 : decode cX5_layFit 92 = .ok (.iconst 1, 1) := by decide +kernel
theorem dX5_layFit_93 : decode cX5_layFit 93 = .ok (.isub, 1) := by decide +kernel
theorem dX5_layFit_94 : decode cX5_layFit 94 = .ok (.if_icmp .ne 7, 3) := by decide +kernel
theorem dX5_layFit_97 : decode cX5_layFit 97 = .ok (.lconst 0, 1) := by decide +kernel
theorem dX5_layFit_98 : decode cX5_layFit 98 = .ok (.goto 6, 3) := by decide +kernel
theorem dX5_layFit_101 : decode cX5_layFit 101 = .ok (.ldc2_w 129, 3) := by decide +kernel
theorem dX5_layFit_104 : decode cX5_layFit 104 = .ok (.lstore 4, 2) := by decide +kernel
theorem dX5_layFit_106 : decode cX5_layFit 106 = .ok (.iload_n 3, 1) := by decide +kernel
theorem dX5_layFit_107 : decode cX5_layFit 107 = .ok (.aload_n 0, 1) := by decide +kernel
theorem dX5_layFit_108 : decode cX5_layFit 108 = .ok (.getfield 56, 3) := by decide +kernel
theorem dX5_layFit_111 : decode cX5_layFit 111 = .ok (.iload_n 2, 1) := by decide +kernel
theorem dX5_layFit_112 : decode cX5_layFit 112 = .ok (.iaload, 1) := by decide +kernel
theorem dX5_layFit_113 : decode cX5_layFit 113 = .ok (.iadd, 1) := by decide +kernel
theorem dX5_layFit_114 : decode cX5_layFit 114 = .ok (.iconst 1, 1) := by decide +kernel
theorem dX5_layFit_115 : decode cX5_layFit 115 = .ok (.iadd, 1) := by decide +kernel
theorem dX5_layFit_116 : decode cX5_layFit 116 = .ok (.istore 6, 2) := by decide +kernel
theorem dX5_layFit_118 : decode cX5_layFit 118 = .ok (.iload_n 2, 1) := by decide +kernel
theorem dX5_layFit_119 : decode cX5_layFit 119 = .ok (.aload_n 0, 1) := by decide +kernel
theorem dX5_layFit_120 : decode cX5_layFit 120 = .ok (.getfield 89, 3) := by decide +kernel
theorem dX5_layFit_123 : decode cX5_layFit 123 = .ok (.iconst 1, 1) := by decide +kernel
theorem dX5_layFit_124 : decode cX5_layFit 124 = .ok (.isub, 1) := by decide +kernel
theorem dX5_layFit_125 : decode cX5_layFit 125 = .ok (.if_icmp .ge 87, 3) := by decide +kernel
theorem dX5_layFit_128 : decode cX5_layFit 128 = .ok (.iload 6, 2) := by decide +kernel
theorem dX5_layFit_130 : decode cX5_layFit 130 = .ok (.bipush 60, 2) := by decide +kernel
theorem dX5_layFit_132 : decode cX5_layFit 132 = .ok (.if_icmp .gt 80, 3) := by decide +kernel
theorem dX5_layFit_135 : decode cX5_layFit 135 = .ok (.aload_n 0, 1) := by decide +kernel
theorem dX5_layFit_136 : decode cX5_layFit 136 = .ok (.getfield 49, 3) := by decide +kernel
theorem dX5_layFit_139 : decode cX5_layFit 139 = .ok (.bipush 61, 2) := by decide +kernel
theorem dX5_layFit_141 : decode cX5_layFit 141 = .ok (.iload_n 2, 1) := by decide +kernel
theorem dX5_layFit_142 : decode cX5_layFit 142 = .ok (.imul, 1) := by decide +kernel
theorem dX5_layFit_143 : decode cX5_layFit 143 = .ok (.bipush 61, 2) := by decide +kernel
theorem dX5_layFit_145 : decode cX5_layFit 145 = .ok (.iadd, 1) := by decide +kernel
theorem dX5_layFit_146 : decode cX5_layFit 146 = .ok (.iload 6, 2) := by decide +kernel
theorem dX5_layFit_148 : decode cX5_layFit 148 = .ok (.iadd, 1) := by decide +kernel
theorem dX5_layFit_149 : decode cX5_layFit 149 = .ok (.laload, 1) := by decide +kernel
theorem dX5_layFit_150 : decode cX5_layFit 150 = .ok (.ldc2_w 129, 3) := by decide +kernel
theorem dX5_layFit_153 : decode cX5_layFit 153 = .ok (.lcmp, 1) := by decide +kernel
theorem dX5_layFit_154 : decode cX5_layFit 154 = .ok (.ifCond .ge 52, 3) := by decide +kernel
theorem dX5_layFit_157 : decode cX5_layFit 157 = .ok (.aload_n 0, 1) := by decide +kernel
theorem dX5_layFit_158 : decode cX5_layFit 158 = .ok (.aload_n 0, 1) := by decide +kernel
theorem dX5_layFit_159 : decode cX5_layFit 159 = .ok (.iload_n 2, 1) := by decide +kernel
theorem dX5_layFit_160 : decode cX5_layFit 160 = .ok (.iconst 1, 1) := by decide +kernel
theorem dX5_layFit_161 : decode cX5_layFit 161 = .ok (.iadd, 1) := by decide +kernel
theorem dX5_layFit_162 : decode cX5_layFit 162 = .ok (.iload_n 3, 1) := by decide +kernel
theorem dX5_layFit_163 : decode cX5_layFit 163 = .ok (.iload 6, 2) := by decide +kernel
theorem dX5_layFit_165 : decode cX5_layFit 165 = .ok (.iload_n 1, 1) := by decide +kernel
theorem dX5_layFit_166 : decode cX5_layFit 166 = .ok (.invokevirtual 131, 3) := by decide +kernel
theorem dX5_layFit_169 : decode cX5_layFit 169 = .ok (.aload_n 0, 1) := by decide +kernel
theorem dX5_layFit_170 : decode cX5_layFit 170 = .ok (.getfield 49, 3) := by decide +kernel
theorem dX5_layFit_173 : decode cX5_layFit 173 = .ok (.bipush 61, 2) := by decide +kernel
theorem dX5_layFit_175 : decode cX5_layFit 175 = .ok (.iload_n 2, 1) := by decide +kernel
theorem dX5_layFit_176 : decode cX5_layFit 176 = .ok (.imul, 1) := by decide +kernel
theorem dX5_layFit_177 : decode cX5_layFit 177 = .ok (.bipush 61, 2) := by decide +kernel
theorem dX5_layFit_179 : decode cX5_layFit 179 = .ok (.iadd, 1) := by decide +kernel
theorem dX5_layFit_180 : decode cX5_layFit 180 = .ok (.iload 6, 2) := by decide +kernel
theorem dX5_layFit_182 : decode cX5_layFit 182 = .ok (.iadd, 1) := by decide +kernel
theorem dX5_layFit_183 : decode cX5_layFit 183 = .ok (.laload, 1) := by decide +kernel
theorem dX5_layFit_184 : decode cX5_layFit 184 = .ok (.invokevirtual 135, 3) := by decide +kernel
theorem dX5_layFit_187 : decode cX5_layFit 187 = .ok (.lstore 7, 2) := by decide +kernel
theorem dX5_layFit_189 : decode cX5_layFit 189 = .ok (.lload 7, 2) := by decide +kernel
theorem dX5_layFit_191 : decode cX5_layFit 191 = .ok (.lload 4, 2) := by decide +kernel
theorem dX5_layFit_193 : decode cX5_layFit 193 = .ok (.lcmp, 1) := by decide +kernel
theorem dX5_layFit_194 : decode cX5_layFit 194 = .ok (.ifCond .ge 8, 3) := by decide +kernel
theorem dX5_layFit_197 : decode cX5_layFit 197 = .ok (.lload 7, 2) := by decide +kernel
theorem dX5_layFit_199 : decode cX5_layFit 199 = .ok (.goto 5, 3) := by decide +kernel
theorem dX5_layFit_202 : decode cX5_layFit 202 = .ok (.lload 4, 2) := by decide +kernel
theorem dX5_layFit_204 : decode cX5_layFit 204 = .ok (.lstore 4, 2) := by decide +kernel
theorem dX5_layFit_206 : decode cX5_layFit 206 = .ok (.iinc 6 1, 3) := by decide +kernel
theorem dX5_layFit_209 : decode cX5_layFit 209 = .ok (.goto (-91), 3) := by decide +kernel
theorem dX5_layFit_212 : decode cX5_layFit 212 = .ok (.lload 4, 2) := by decide +kernel
theorem dX5_layFit_214 : decode cX5_layFit 214 = .ok (.ldc2_w 129, 3) := by decide +kernel
theorem dX5_layFit_217 : decode cX5_layFit 217 = .ok (.lcmp, 1) := by decide +kernel
theorem dX5_layFit_218 : decode cX5_layFit 218 = .ok (.ifCond .ge 19, 3) := by decide +kernel
theorem dX5_layFit_221 : decode cX5_layFit 221 = .ok (.aload_n 0, 1) := by decide +kernel
theorem dX5_layFit_222 : decode cX5_layFit 222 = .ok (.lload 4, 2) := by decide +kernel
theorem dX5_layFit_224 : decode cX5_layFit 224 = .ok (.aload_n 0, 1) := by decide +kernel
theorem dX5_layFit_225 : decode cX5_layFit 225 = .ok (.iload_n 2, 1) := by decide +kernel
theorem dX5_layFit_226 : decode cX5_layFit 226 = .ok (.iload_n 3, 1) := by decide +kernel
theorem dX5_layFit_227 : decode cX5_layFit 227 = .ok (.iload_n 1, 1) := by decide +kernel
theorem dX5_layFit_228 : decode cX5_layFit 228 = .ok (.invokevirtual 139, 3) := by decide +kernel
theorem dX5_layFit_231 : decode cX5_layFit 231 = .ok (.invokevirtual 135, 3) := by decide +kernel
theorem dX5_layFit_234 : decode cX5_layFit 234 = .ok (.goto 6, 3) := by decide +kernel
theorem dX5_layFit_237 : decode cX5_layFit 237 = .ok (.ldc2_w 129, 3) := by decide +kernel
theorem dX5_layFit_240 : decode cX5_layFit 240 = .ok (.lstore 4, 2) := by decide +kernel
theorem dX5_layFit_242 : decode cX5_layFit 242 = .ok (.aload_n 0, 1) := by decide +kernel
theorem dX5_layFit_243 : decode cX5_layFit 243 = .ok (.getfield 49, 3) := by decide +kernel
theorem dX5_layFit_246 : decode cX5_layFit 246 = .ok (.bipush 61, 2) := by decide +kernel
theorem dX5_layFit_248 : decode cX5_layFit 248 = .ok (.iload_n 2, 1) := by decide +kernel
theorem dX5_layFit_249 : decode cX5_layFit 249 = .ok (.imul, 1) := by decide +kernel
theorem dX5_layFit_250 : decode cX5_layFit 250 = .ok (.iload_n 3, 1) := by decide +kernel
theorem dX5_layFit_251 : decode cX5_layFit 251 = .ok (.iadd, 1) := by decide +kernel
theorem dX5_layFit_252 : decode cX5_layFit 252 = .ok (.lload 4, 2) := by decide +kernel
theorem dX5_layFit_254 : decode cX5_layFit 254 = .ok (.lastore, 1) := by decide +kernel
theorem dX5_layFit_255 : decode cX5_layFit 255 = .ok (.iinc 3 1, 3) := by decide +kernel
theorem dX5_layFit_258 : decode cX5_layFit 258 = .ok (.goto (-194), 3) := by decide +kernel
theorem dX5_layFit_261 : decode cX5_layFit 261 = .ok (.iinc 2 (-1), 3) := by decide +kernel
theorem dX5_layFit_264 : decode cX5_layFit 264 = .ok (.goto (-206), 3) := by decide +kernel
theorem dX5_layFit_267 : decode cX5_layFit 267 = .ok (.aload_n 0, 1) := by decide +kernel
theorem dX5_layFit_268 : decode cX5_layFit 268 = .ok (.ldc2_w 129, 3) := by decide +kernel
theorem dX5_layFit_271 : decode cX5_layFit 271 = .ok (.putfield 125, 3) := by decide +kernel
theorem dX5_layFit_274 : decode cX5_layFit 274 = .ok (.iconst 0, 1) := by decide +kernel
theorem dX5_layFit_275 : decode cX5_layFit 275 = .ok (.istore_n 2, 1) := by decide +kernel
theorem dX5_layFit_276 : decode cX5_layFit 276 = .ok (.iload_n 2, 1) := by decide +kernel
theorem dX5_layFit_277 : decode cX5_layFit 277 = .ok (.bipush 60, 2) := by decide +kernel
theorem dX5_layFit_279 : decode cX5_layFit 279 = .ok (.if_icmp .gt 40, 3) := by decide +kernel
theorem dX5_layFit_282 : decode cX5_layFit 282 = .ok (.aload_n 0, 1) := by decide +kernel
theorem dX5_layFit_283 : decode cX5_layFit 283 = .ok (.aload_n 0, 1) := by decide +kernel
theorem dX5_layFit_284 : decode cX5_layFit 284 = .ok (.getfield 49, 3) := by decide +kernel
theorem dX5_layFit_287 : decode cX5_layFit 287 = .ok (.iload_n 2, 1) := by decide +kernel
theorem dX5_layFit_288 : decode cX5_layFit 288 = .ok (.laload, 1) := by decide +kernel
theorem dX5_layFit_289 : decode cX5_layFit 289 = .ok (.aload_n 0, 1) := by decide +kernel
theorem dX5_layFit_290 : decode cX5_layFit 290 = .ok (.getfield 125, 3) := by decide +kernel
theorem dX5_layFit_293 : decode cX5_layFit 293 = .ok (.lcmp, 1) := by decide +kernel
theorem dX5_layFit_294 : decode cX5_layFit 294 = .ok (.ifCond .ge 12, 3) := by decide +kernel
theorem dX5_layFit_297 : decode cX5_layFit 297 = .ok (.aload_n 0, 1) := by decide +kernel
theorem dX5_layFit_298 : decode cX5_layFit 298 = .ok (.getfield 49, 3) := by decide +kernel
theorem dX5_layFit_301 : decode cX5_layFit 301 = .ok (.iload_n 2, 1) := by decide +kernel
theorem dX5_layFit_302 : decode cX5_layFit 302 = .ok (.laload, 1) := by decide +kernel
theorem dX5_layFit_303 : decode cX5_layFit 303 = .ok (.goto 7, 3) := by decide +kernel
theorem dX5_layFit_306 : decode cX5_layFit 306 = .ok (.aload_n 0, 1) := by decide +kernel
theorem dX5_layFit_307 : decode cX5_layFit 307 = .ok (.getfield 125, 3) := by decide +kernel
theorem dX5_layFit_310 : decode cX5_layFit 310 = .ok (.putfield 125, 3) := by decide +kernel
theorem dX5_layFit_313 : decode cX5_layFit 313 = .ok (.iinc 2 1, 3) := by decide +kernel
theorem dX5_layFit_316 : decode cX5_layFit 316 = .ok (.goto (-40), 3) := by decide +kernel
theorem dX5_layFit_319 : decode cX5_layFit 319 = .ok (.aload_n 0, 1) := by decide +kernel
theorem dX5_layFit_320 : decode cX5_layFit 320 = .ok (.getfield 125, 3) := by decide +kernel
theorem dX5_layFit_323 : decode cX5_layFit 323 = .ok (.ldc2_w 129, 3) := by decide +kernel
theorem dX5_layFit_326 : decode cX5_layFit 326 = .ok (.lcmp, 1) := by decide +kernel
theorem dX5_layFit_327 : decode cX5_layFit 327 = .ok (.ifCond .ne 5, 3) := by decide +kernel
theorem dX5_layFit_330 : decode cX5_layFit 330 = .ok (.iconst 0, 1) := by decide +kernel
theorem dX5_layFit_331 : decode cX5_layFit 331 = .ok (.ireturn, 1) := by decide +kernel
theorem dX5_layFit_332 : decode cX5_layFit 332 = .ok (.lconst 0, 1) := by decide +kernel
theorem dX5_layFit_333 : decode cX5_layFit 333 = .ok (.lstore_n 2, 1) := by decide +kernel
theorem dX5_layFit_334 : decode cX5_layFit 334 = .ok (.iconst 0, 1) := by decide +kernel
theorem dX5_layFit_335 : decode cX5_layFit 335 = .ok (.istore 4, 2) := by decide +kernel
theorem dX5_layFit_337 : decode cX5_layFit 337 = .ok (.iload 4, 2) := by decide +kernel
theorem dX5_layFit_339 : decode cX5_layFit 339 = .ok (.aload_n 0, 1) := by decide +kernel
theorem dX5_layFit_340 : decode cX5_layFit 340 = .ok (.getfield 89, 3) := by decide +kernel
theorem dX5_layFit_343 : decode cX5_layFit 343 = .ok (.if_icmp .ge 175, 3) := by decide +kernel
theorem dX5_layFit_346 : decode cX5_layFit 346 = .ok (.iload 4, 2) := by decide +kernel
theorem dX5_layFit_348 : decode cX5_layFit 348 = .ok (.ifCond .ne 7, 3) := by decide +kernel
theorem dX5_layFit_351 : decode cX5_layFit 351 = .ok (.iconst 0, 1) := by decide +kernel
theorem dX5_layFit_352 : decode cX5_layFit 352 = .ok (.goto 24, 3) := by decide +kernel
theorem dX5_layFit_355 : decode cX5_layFit 355 = .ok (.aload_n 0, 1) := by decide +kernel
theorem dX5_layFit_356 : decode cX5_layFit 356 = .ok (.getfield 53, 3) := by decide +kernel
theorem dX5_layFit_359 : decode cX5_layFit 359 = .ok (.iload 4, 2) := by decide +kernel
theorem dX5_layFit_361 : decode cX5_layFit 361 = .ok (.iconst 1, 1) := by decide +kernel
theorem dX5_layFit_362 : decode cX5_layFit 362 = .ok (.isub, 1) := by decide +kernel
theorem dX5_layFit_363 : decode cX5_layFit 363 = .ok (.iaload, 1) := by decide +kernel
theorem dX5_layFit_364 : decode cX5_layFit 364 = .ok (.aload_n 0, 1) := by decide +kernel
theorem dX5_layFit_365 : decode cX5_layFit 365 = .ok (.getfield 56, 3) := by decide +kernel
theorem dX5_layFit_368 : decode cX5_layFit 368 = .ok (.iload 4, 2) := by decide +kernel
theorem dX5_layFit_370 : decode cX5_layFit 370 = .ok (.iconst 1, 1) := by decide +kernel
theorem dX5_layFit_371 : decode cX5_layFit 371 = .ok (.isub, 1) := by decide +kernel
theorem dX5_layFit_372 : decode cX5_layFit 372 = .ok (.iaload, 1) := by decide +kernel
theorem dX5_layFit_373 : decode cX5_layFit 373 = .ok (.iadd, 1) := by decide +kernel
theorem dX5_layFit_374 : decode cX5_layFit 374 = .ok (.iconst 1, 1) := by decide +kernel
theorem dX5_layFit_375 : decode cX5_layFit 375 = .ok (.iadd, 1) := by decide +kernel
theorem dX5_layFit_376 : decode cX5_layFit 376 = .ok (.istore 5, 2) := by decide +kernel
theorem dX5_layFit_378 : decode cX5_layFit 378 = .ok (.iconst 1, 1) := by decide +kernel
theorem dX5_layFit_379 : decode cX5_layFit 379 = .ok (.istore 6, 2) := by decide +kernel
theorem dX5_layFit_381 : decode cX5_layFit 381 = .ok (.iload 5, 2) := by decide +kernel
theorem dX5_layFit_383 : decode cX5_layFit 383 = .ok (.istore 7, 2) := by decide +kernel
theorem dX5_layFit_385 : decode cX5_layFit 385 = .ok (.iload 7, 2) := by decide +kernel
theorem dX5_layFit_387 : decode cX5_layFit 387 = .ok (.bipush 60, 2) := by decide +kernel
theorem dX5_layFit_389 : decode cX5_layFit 389 = .ok (.if_icmp .gt 123, 3) := by decide +kernel
theorem dX5_layFit_392 : decode cX5_layFit 392 = .ok (.iload 6, 2) := by decide +kernel
theorem dX5_layFit_394 : decode cX5_layFit 394 = .ok (.ifCond .eq 118, 3) := by decide +kernel
theorem dX5_layFit_397 : decode cX5_layFit 397 = .ok (.iload 4, 2) := by decide +kernel
theorem dX5_layFit_399 : decode cX5_layFit 399 = .ok (.ifCond .ne 7, 3) := by decide +kernel
theorem dX5_layFit_402 : decode cX5_layFit 402 = .ok (.lload_n 2, 1) := by decide +kernel
theorem dX5_layFit_403 : decode cX5_layFit 403 = .ok (.goto 26, 3) := by decide +kernel
theorem dX5_layFit_406 : decode cX5_layFit 406 = .ok (.aload_n 0, 1) := by decide +kernel
theorem dX5_layFit_407 : decode cX5_layFit 407 = .ok (.lload_n 2, 1) := by decide +kernel
theorem dX5_layFit_408 : decode cX5_layFit 408 = .ok (.aload_n 0, 1) := by decide +kernel
theorem dX5_layFit_409 : decode cX5_layFit 409 = .ok (.iload 4, 2) := by decide +kernel
theorem dX5_layFit_411 : decode cX5_layFit 411 = .ok (.aload_n 0, 1) := by decide +kernel
theorem dX5_layFit_412 : decode cX5_layFit 412 = .ok (.getfield 53, 3) := by decide +kernel
theorem dX5_layFit_415 : decode cX5_layFit 415 = .ok (.iload 4, 2) := by decide +kernel
theorem dX5_layFit_417 : decode cX5_layFit 417 = .ok (.iconst 1, 1) := by decide +kernel
theorem dX5_layFit_418 : decode cX5_layFit 418 = .ok (.isub, 1) := by decide +kernel
theorem dX5_layFit_419 : decode cX5_layFit 419 = .ok (.iaload, 1) := by decide +kernel
theorem dX5_layFit_420 : decode cX5_layFit 420 = .ok (.iload 7, 2) := by decide +kernel
theorem dX5_layFit_422 : decode cX5_layFit 422 = .ok (.iload_n 1, 1) := by decide +kernel
theorem dX5_layFit_423 : decode cX5_layFit 423 = .ok (.invokevirtual 131, 3) := by decide +kernel
theorem dX5_layFit_426 : decode cX5_layFit 426 = .ok (.invokevirtual 135, 3) := by decide +kernel
theorem dX5_layFit_429 : decode cX5_layFit 429 = .ok (.lstore 8, 2) := by decide +kernel
theorem dX5_layFit_431 : decode cX5_layFit 431 = .ok (.aload_n 0, 1) := by decide +kernel
theorem dX5_layFit_432 : decode cX5_layFit 432 = .ok (.getfield 49, 3) := by decide +kernel
theorem dX5_layFit_435 : decode cX5_layFit 435 = .ok (.bipush 61, 2) := by decide +kernel
theorem dX5_layFit_437 : decode cX5_layFit 437 = .ok (.iload 4, 2) := by decide +kernel
theorem dX5_layFit_439 : decode cX5_layFit 439 = .ok (.imul, 1) := by decide +kernel
theorem dX5_layFit_440 : decode cX5_layFit 440 = .ok (.iload 7, 2) := by decide +kernel
theorem dX5_layFit_442 : decode cX5_layFit 442 = .ok (.iadd, 1) := by decide +kernel
theorem dX5_layFit_443 : decode cX5_layFit 443 = .ok (.laload, 1) := by decide +kernel
theorem dX5_layFit_444 : decode cX5_layFit 444 = .ok (.ldc2_w 129, 3) := by decide +kernel
theorem dX5_layFit_447 : decode cX5_layFit 447 = .ok (.lcmp, 1) := by decide +kernel
theorem dX5_layFit_448 : decode cX5_layFit 448 = .ok (.ifCond .ge 58, 3) := by decide +kernel
theorem dX5_layFit_451 : decode cX5_layFit 451 = .ok (.aload_n 0, 1) := by decide +kernel
theorem dX5_layFit_452 : decode cX5_layFit 452 = .ok (.lload 8, 2) := by decide +kernel
theorem dX5_layFit_454 : decode cX5_layFit 454 = .ok (.aload_n 0, 1) := by decide +kernel
theorem dX5_layFit_455 : decode cX5_layFit 455 = .ok (.getfield 49, 3) := by decide +kernel
theorem dX5_layFit_458 : decode cX5_layFit 458 = .ok (.bipush 61, 2) := by decide +kernel
theorem dX5_layFit_460 : decode cX5_layFit 460 = .ok (.iload 4, 2) := by decide +kernel
theorem dX5_layFit_462 : decode cX5_layFit 462 = .ok (.imul, 1) := by decide +kernel
theorem dX5_layFit_463 : decode cX5_layFit 463 = .ok (.iload 7, 2) := by decide +kernel
theorem dX5_layFit_465 : decode cX5_layFit 465 = .ok (.iadd, 1) := by decide +kernel
theorem dX5_layFit_466 : decode cX5_layFit 466 = .ok (.laload, 1) := by decide +kernel
theorem dX5_layFit_467 : decode cX5_layFit 467 = .ok (.invokevirtual 135, 3) := by decide +kernel
theorem dX5_layFit_470 : decode cX5_layFit 470 = .ok (.aload_n 0, 1) := by decide +kernel
theorem dX5_layFit_471 : decode cX5_layFit 471 = .ok (.getfield 125, 3) := by decide +kernel
theorem dX5_layFit_474 : decode cX5_layFit 474 = .ok (.lcmp, 1) := by decide +kernel
theorem dX5_layFit_475 : decode cX5_layFit 475 = .ok (.ifCond .ne 31, 3) := by decide +kernel
theorem dX5_layFit_478 : decode cX5_layFit 478 = .ok (.aload_n 0, 1) := by decide +kernel
theorem dX5_layFit_479 : decode cX5_layFit 479 = .ok (.getfield 53, 3) := by decide +kernel
theorem dX5_layFit_482 : decode cX5_layFit 482 = .ok (.iload 4, 2) := by decide +kernel
theorem dX5_layFit_484 : decode cX5_layFit 484 = .ok (.iload 7, 2) := by decide +kernel
theorem dX5_layFit_486 : decode cX5_layFit 486 = .ok (.iastore, 1) := by decide +kernel
theorem dX5_layFit_487 : decode cX5_layFit 487 = .ok (.aload_n 0, 1) := by decide +kernel
theorem dX5_layFit_488 : decode cX5_layFit 488 = .ok (.lload 8, 2) := by decide +kernel
theorem dX5_layFit_490 : decode cX5_layFit 490 = .ok (.aload_n 0, 1) := by decide +kernel
theorem dX5_layFit_491 : decode cX5_layFit 491 = .ok (.iload 4, 2) := by decide +kernel
theorem dX5_layFit_493 : decode cX5_layFit 493 = .ok (.iload 7, 2) := by decide +kernel
theorem dX5_layFit_495 : decode cX5_layFit 495 = .ok (.iload_n 1, 1) := by decide +kernel
theorem dX5_layFit_496 : decode cX5_layFit 496 = .ok (.invokevirtual 139, 3) := by decide +kernel
theorem dX5_layFit_499 : decode cX5_layFit 499 = .ok (.invokevirtual 135, 3) := by decide +kernel
theorem dX5_layFit_502 : decode cX5_layFit 502 = .ok (.lstore_n 2, 1) := by decide +kernel
theorem dX5_layFit_503 : decode cX5_layFit 503 = .ok (.iconst 0, 1) := by decide +kernel
theorem dX5_layFit_504 : decode cX5_layFit 504 = .ok (.istore 6, 2) := by decide +kernel
theorem dX5_layFit_506 : decode cX5_layFit 506 = .ok (.iinc 7 1, 3) := by decide +kernel
theorem dX5_layFit_509 : decode cX5_layFit 509 = .ok (.goto (-124), 3) := by decide +kernel
theorem dX5_layFit_512 : decode cX5_layFit 512 = .ok (.iinc 4 1, 3) := by decide +kernel
theorem dX5_layFit_515 : decode cX5_layFit 515 = .ok (.goto (-178), 3) := by decide +kernel
theorem dX5_layFit_518 : decode cX5_layFit 518 = .ok (.iconst 1, 1) := by decide +kernel
theorem dX5_layFit_519 : decode cX5_layFit 519 = .ok (.ireturn, 1) := by decide +kernel
set_option maxRecDepth 20000 in
theorem ggX5_fit_X5_layStems : GoodIn wsX5_fit wsX5_layStems := goodIn_r _ [7, 1, 8, 9, 10, 11, 12, 13, 14, 15, 16, 6, 17, 18, 19, 20, 21, 22, 23, 24, 25, 26, 27, 28, 29, 30, 31, 32, 33, 34, 35, 36, 37, 38, 39, 40, 75, 76, 77, 78, 79, 80, 81, 82, 83, 84, 85, 86, 87, 88, 89, 90, 91, 92, 93, 94, 95, 96, 97] (by decide +kernel) (by decide +kernel)
set_option maxRecDepth 20000 in
theorem gX5_fit_X5_layStems : GoodIn wsX5_fit (wsV RX5 108 RX5 yX5_layStems wsX5_layStems) := goodIn_app (goodIn_of _ (by decide +kernel)) ggX5_fit_X5_layStems
set_option maxRecDepth 20000 in
theorem ggX5_fit_X5_in : GoodIn wsX5_fit wsX5_in := goodIn_r _ [43] (by decide +kernel) (by decide +kernel)
set_option maxRecDepth 20000 in
theorem gX5_fit_X5_in : GoodIn wsX5_fit (va_wsS RX5 66 yX5_in wsX5_in) := goodIn_app (goodIn_of _ (by decide +kernel)) ggX5_fit_X5_in
end
section
set_option maxRecDepth 20000 in
theorem ggX5_fit_X5_layFit : GoodIn wsX5_fit wsX5_layFit := goodIn_r _ [47, 1, 48, 32, 49, 50, 51, 2, 3, 4, 5, 6, 7, 8, 9, 10, 11, 12, 13, 14, 15, 16, 17, 18, 19, 20, 21, 22, 23, 24, 25, 26, 27, 28, 29, 30, 31, 33, 34, 35, 36, 37, 38, 39, 40, 52, 53, 54, 55, 56, 57, 58, 59, 60, 61, 62, 63, 64, 65, 66, 67, 68, 69, 70, 71, 72, 73, 74, 75, 76, 77, 78, 79, 80, 81, 82, 83, 84, 85, 86, 87, 88, 89, 90, 91, 92, 93, 94, 95, 96, 97] rfl (by decide +kernel)
set_option maxRecDepth 20000 in
theorem gX5_fit_X5_layFit : GoodIn wsX5_fit (wsV RX5 143 RX5 yX5_layFit wsX5_layFit) := goodIn_app (goodIn_of _ (by decide +kernel)) ggX5_fit_X5_layFit
theorem dX5_fit_0 : decode cX5_fit 0 = .ok (.aload_n 0, 1) := by decide +kernel
theorem dX5_fit_1 : decode cX5_fit 1 = .ok (.invokevirtual 108, 3) := by decide +kernel
theorem dX5_fit_4 : decode cX5_fit 4 = .ok (.iload_n 2, 1) := by decide +kernel
theorem dX5_fit_5 : decode cX5_fit 5 = .ok (.iconst 0, 1) := by decide +kernel
theorem dX5_fit_6 : decode cX5_fit 6 = .ok (.aload_n 0, 1) := by decide +kernel
theorem dX5_fit_7 : decode cX5_fit 7 = .ok (.getfield 89, 3) := by decide +kernel
theorem dX5_fit_10 : decode cX5_fit 10 = .ok (.iconst 1, 1) := by decide +kernel
theorem dX5_fit_11 : decode cX5_fit 11 = .ok (.isub, 1) := by decide +kernel
theorem dX5_fit_12 : decode cX5_fit 12 = .ok (.invokestatic 66, 3) := by decide +kernel
theorem dX5_fit_15 : decode cX5_fit 15 = .ok (.ifCond .ne 5, 3) := by decide +kernel
theorem dX5_fit_18 : decode cX5_fit 18 = .ok (.iconst (-1), 1) := by decide +kernel
theorem dX5_fit_19 : decode cX5_fit 19 = .ok (.ireturn, 1) := by decide +kernel
theorem dX5_fit_20 : decode cX5_fit 20 = .ok (.iload_n 1, 1) := by decide +kernel
theorem dX5_fit_21 : decode cX5_fit 21 = .ok (.iconst 1, 1) := by decide +kernel
theorem dX5_fit_22 : decode cX5_fit 22 = .ok (.bipush 60, 2) := by decide +kernel
theorem dX5_fit_24 : decode cX5_fit 24 = .ok (.invokestatic 66, 3) := by decide +kernel
theorem dX5_fit_27 : decode cX5_fit 27 = .ok (.ifCond .ne 6, 3) := by decide +kernel
theorem dX5_fit_30 : decode cX5_fit 30 = .ok (.bipush (-2), 2) := by decide +kernel
theorem dX5_fit_32 : decode cX5_fit 32 = .ok (.ireturn, 1) := by decide +kernel
theorem dX5_fit_33 : decode cX5_fit 33 = .ok (.aload_n 0, 1) := by decide +kernel
theorem dX5_fit_34 : decode cX5_fit 34 = .ok (.iload_n 1, 1) := by decide +kernel
theorem dX5_fit_35 : decode cX5_fit 35 = .ok (.invokevirtual 143, 3) := by decide +kernel
theorem dX5_fit_38 : decode cX5_fit 38 = .ok (.ifCond .eq 12, 3) := by decide +kernel
theorem dX5_fit_41 : decode cX5_fit 41 = .ok (.aload_n 0, 1) := by decide +kernel
theorem dX5_fit_42 : decode cX5_fit 42 = .ok (.getfield 53, 3) := by decide +kernel
theorem dX5_fit_45 : decode cX5_fit 45 = .ok (.iload_n 2, 1) := by decide +kernel
theorem dX5_fit_46 : decode cX5_fit 46 = .ok (.iaload, 1) := by decide +kernel
theorem dX5_fit_47 : decode cX5_fit 47 = .ok (.goto 5, 3) := by decide +kernel
theorem dX5_fit_50 : decode cX5_fit 50 = .ok (.bipush (-3), 2) := by decide +kernel
theorem dX5_fit_52 : decode cX5_fit 52 = .ok (.ireturn, 1) := by decide +kernel
set_option maxRecDepth 20000 in
theorem ggX5_distortion_X5_in : GoodIn wsX5_distortion wsX5_in := goodIn_r _ [7] (by decide +kernel) (by decide +kernel)
set_option maxRecDepth 20000 in
theorem gX5_distortion_X5_in : GoodIn wsX5_distortion (va_wsS RX5 66 yX5_in wsX5_in) := goodIn_app (goodIn_of _ (by decide +kernel)) ggX5_distortion_X5_in
end
section
set_option maxRecDepth 20000 in
theorem ggX5_distortion_X5_layFit : GoodIn wsX5_distortion wsX5_layFit := goodIn_r _ [11, 12, 13, 14, 2, 15, 16, 17, 18, 19, 20, 6, 21, 22, 23, 24, 25, 26, 27, 28, 29, 30, 31, 32, 33, 34, 35, 36, 37, 38, 39, 40, 41, 42, 43, 44, 45, 46, 47, 48, 49, 50, 51, 52, 53, 54, 55, 56, 57, 58, 59, 60, 61, 62, 1, 63, 64, 65, 66, 67, 68, 69, 70, 71, 72, 73, 74, 75, 76, 77, 78, 79, 80, 81, 82, 83, 84, 85, 86, 87, 88, 89, 90, 91, 92, 93, 94, 95, 96, 97, 98] rfl (by decide +kernel)
set_option maxRecDepth 20000 in
theorem gX5_distortion_X5_layFit : GoodIn wsX5_distortion (wsV RX5 143 RX5 yX5_layFit wsX5_layFit) := goodIn_app (goodIn_of _ (by decide +kernel)) ggX5_distortion_X5_layFit
theorem dX5_distortion_0 : decode cX5_distortion 0 = .ok (.iload_n 1, 1) := by decide +kernel
theorem dX5_distortion_1 : decode cX5_distortion 1 = .ok (.iconst 1, 1) := by decide +kernel
theorem dX5_distortion_2 : decode cX5_distortion 2 = .ok (.bipush 60, 2) := by decide +kernel
theorem dX5_distortion_4 : decode cX5_distortion 4 = .ok (.invokestatic 66, 3) := by decide +kernel
theorem dX5_distortion_7 : decode cX5_distortion 7 = .ok (.ifCond .ne 7, 3) := by decide +kernel
theorem dX5_distortion_10 : decode cX5_distortion 10 = .ok (.ldc2_w 121, 3) := by decide +kernel
theorem dX5_distortion_13 : decode cX5_distortion 13 = .ok (.lreturn, 1) := by decide +kernel
theorem dX5_distortion_14 : decode cX5_distortion 14 = .ok (.aload_n 0, 1) := by decide +kernel
theorem dX5_distortion_15 : decode cX5_distortion 15 = .ok (.iload_n 1, 1) := by decide +kernel
theorem dX5_distortion_16 : decode cX5_distortion 16 = .ok (.invokevirtual 143, 3) := by decide +kernel
theorem dX5_distortion_19 : decode cX5_distortion 19 = .ok (.ifCond .eq 10, 3) := by decide +kernel
theorem dX5_distortion_22 : decode cX5_distortion 22 = .ok (.aload_n 0, 1) := by decide +kernel
theorem dX5_distortion_23 : decode cX5_distortion 23 = .ok (.getfield 125, 3) := by decide +kernel
theorem dX5_distortion_26 : decode cX5_distortion 26 = .ok (.goto 6, 3) := by decide +kernel
theorem dX5_distortion_29 : decode cX5_distortion 29 = .ok (.ldc2_w 146, 3) := by decide +kernel
theorem dX5_distortion_32 : decode cX5_distortion 32 = .ok (.lreturn, 1) := by decide +kernel
set_option maxRecDepth 20000 in
theorem ggX5_why_X5_in : GoodIn wsX5_why wsX5_in := goodIn_r _ [6] (by decide +kernel) (by decide +kernel)
set_option maxRecDepth 20000 in
theorem gX5_why_X5_in : GoodIn wsX5_why (va_wsS RX5 66 yX5_in wsX5_in) := goodIn_app (goodIn_of _ (by decide +kernel)) ggX5_why_X5_in
set_option maxRecDepth 20000 in
theorem ggX5_why_X5_layStems : GoodIn wsX5_why wsX5_layStems := goodIn_r _ [10, 1, 11, 12, 13, 14, 15, 16, 17, 18, 19, 5, 20, 21, 22, 23, 24, 25, 26, 27, 28, 29, 30, 31, 32, 33, 34, 2, 35, 36, 37, 38, 39, 40, 41, 42, 47, 48, 49, 50, 51, 52, 53, 54, 55, 56, 57, 58, 59, 60, 61, 62, 63, 64, 65, 66, 67, 68, 69] (by decide +kernel) (by decide +kernel)
set_option maxRecDepth 20000 in
theorem gX5_why_X5_layStems : GoodIn wsX5_why (wsV RX5 108 RX5 yX5_layStems wsX5_layStems) := goodIn_app (goodIn_of _ (by decide +kernel)) ggX5_why_X5_layStems
set_option maxRecDepth 20000 in
theorem ggX5_why_X5_dotsOf : GoodIn wsX5_why wsX5_dotsOf := goodIn_r _ [46, 38, 37, 36, 47, 48, 49, 50, 51, 52, 53, 54, 55, 56, 57, 58, 59, 60, 61, 62, 63, 64, 65, 66, 67, 68, 69] (by decide +kernel) (by decide +kernel)
set_option maxRecDepth 20000 in
theorem gX5_why_X5_dotsOf : GoodIn wsX5_why (wsV RX5 111 RX5 yX5_dotsOf wsX5_dotsOf) := goodIn_app (goodIn_of _ (by decide +kernel)) ggX5_why_X5_dotsOf
theorem dX5_why_0 : decode cX5_why 0 = .ok (.iload_n 1, 1) := by decide +kernel
theorem dX5_why_1 : decode cX5_why 1 = .ok (.iconst 1, 1) := by decide +kernel
theorem dX5_why_2 : decode cX5_why 2 = .ok (.bipush 60, 2) := by decide +kernel
theorem dX5_why_4 : decode cX5_why 4 = .ok (.invokestatic 66, 3) := by decide +kernel
theorem dX5_why_7 : decode cX5_why 7 = .ok (.ifCond .eq 12, 3) := by decide +kernel
theorem dX5_why_10 : decode cX5_why 10 = .ok (.iload_n 2, 1) := by decide +kernel
theorem dX5_why_11 : decode cX5_why 11 = .ok (.iconst 0, 1) := by decide +kernel
theorem dX5_why_12 : decode cX5_why 12 = .ok (.iconst 1, 1) := by decide +kernel
theorem dX5_why_13 : decode cX5_why 13 = .ok (.invokestatic 66, 3) := by decide +kernel
theorem dX5_why_16 : decode cX5_why 16 = .ok (.ifCond .ne 6, 3) := by decide +kernel
theorem dX5_why_19 : decode cX5_why 19 = .ok (.bipush (-2), 2) := by decide +kernel
theorem dX5_why_21 : decode cX5_why 21 = .ok (.ireturn, 1) := by decide +kernel
theorem dX5_why_22 : decode cX5_why 22 = .ok (.aload_n 0, 1) := by decide +kernel
theorem dX5_why_23 : decode cX5_why 23 = .ok (.invokevirtual 108, 3) := by decide +kernel
theorem dX5_why_26 : decode cX5_why 26 = .ok (.iconst (-1), 1) := by decide +kernel
theorem dX5_why_27 : decode cX5_why 27 = .ok (.istore_n 3, 1) := by decide +kernel
theorem dX5_why_28 : decode cX5_why 28 = .ok (.iconst 0, 1) := by decide +kernel
theorem dX5_why_29 : decode cX5_why 29 = .ok (.istore 4, 2) := by decide +kernel
theorem dX5_why_31 : decode cX5_why 31 = .ok (.iload 4, 2) := by decide +kernel
theorem dX5_why_33 : decode cX5_why 33 = .ok (.aload_n 0, 1) := by decide +kernel
theorem dX5_why_34 : decode cX5_why 34 = .ok (.getfield 89, 3) := by decide +kernel
theorem dX5_why_37 : decode cX5_why 37 = .ok (.if_icmp .ge 62, 3) := by decide +kernel
theorem dX5_why_40 : decode cX5_why 40 = .ok (.aload_n 0, 1) := by decide +kernel
theorem dX5_why_41 : decode cX5_why 41 = .ok (.aload_n 0, 1) := by decide +kernel
theorem dX5_why_42 : decode cX5_why 42 = .ok (.getfield 34, 3) := by decide +kernel
theorem dX5_why_45 : decode cX5_why 45 = .ok (.iload 4, 2) := by decide +kernel
theorem dX5_why_47 : decode cX5_why 47 = .ok (.iaload, 1) := by decide +kernel
theorem dX5_why_48 : decode cX5_why 48 = .ok (.iload_n 1, 1) := by decide +kernel
theorem dX5_why_49 : decode cX5_why 49 = .ok (.invokevirtual 111, 3) := by decide +kernel
theorem dX5_why_52 : decode cX5_why 52 = .ok (.istore 5, 2) := by decide +kernel
theorem dX5_why_54 : decode cX5_why 54 = .ok (.iload_n 3, 1) := by decide +kernel
theorem dX5_why_55 : decode cX5_why 55 = .ok (.iconst 1, 1) := by decide +kernel
theorem dX5_why_56 : decode cX5_why 56 = .ok (.iadd, 1) := by decide +kernel
theorem dX5_why_57 : decode cX5_why 57 = .ok (.iload 5, 2) := by decide +kernel
theorem dX5_why_59 : decode cX5_why 59 = .ok (.iadd, 1) := by decide +kernel
theorem dX5_why_60 : decode cX5_why 60 = .ok (.iload_n 1, 1) := by decide +kernel
theorem dX5_why_61 : decode cX5_why 61 = .ok (.if_icmp .le 25, 3) := by decide +kernel
theorem dX5_why_64 : decode cX5_why 64 = .ok (.iload_n 2, 1) := by decide +kernel
theorem dX5_why_65 : decode cX5_why 65 = .ok (.iconst 1, 1) := by decide +kernel
theorem dX5_why_66 : decode cX5_why 66 = .ok (.if_icmp .ne 8, 3) := by decide +kernel
theorem dX5_why_69 : decode cX5_why 69 = .ok (.iload 4, 2) := by decide +kernel
theorem dX5_why_71 : decode cX5_why 71 = .ok (.goto 14, 3) := by decide +kernel
theorem dX5_why_74 : decode cX5_why 74 = .ok (.iload 5, 2) := by decide +kernel
theorem dX5_why_76 : decode cX5_why 76 = .ok (.iload_n 1, 1) := by decide +kernel
theorem dX5_why_77 : decode cX5_why 77 = .ok (.if_icmp .le 7, 3) := by decide +kernel
theorem dX5_why_80 : decode cX5_why 80 = .ok (.iconst 1, 1) := by decide +kernel
theorem dX5_why_81 : decode cX5_why 81 = .ok (.goto 4, 3) := by decide +kernel
theorem dX5_why_84 : decode cX5_why 84 = .ok (.iconst 2, 1) := by decide +kernel
theorem dX5_why_85 : decode cX5_why 85 = .ok (.ireturn, 1) := by decide +kernel
theorem dX5_why_86 : decode cX5_why 86 = .ok (.iload_n 3, 1) := by decide +kernel
theorem dX5_why_87 : decode cX5_why 87 = .ok (.iconst 1, 1) := by decide +kernel
theorem dX5_why_88 : decode cX5_why 88 = .ok (.iload 5, 2) := by decide +kernel
theorem dX5_why_90 : decode cX5_why 90 = .ok (.iadd, 1) := by decide +kernel
theorem dX5_why_91 : decode cX5_why 91 = .ok (.iadd, 1) := by decide +kernel
theorem dX5_why_92 : decode cX5_why 92 = .ok (.istore_n 3, 1) := by decide +kernel
theorem dX5_why_93 : decode cX5_why 93 = .ok (.iinc 4 1, 3) := by decide +kernel
theorem dX5_why_96 : decode cX5_why 96 = .ok (.goto (-65), 3) := by decide +kernel
theorem dX5_why_99 : decode cX5_why 99 = .ok (.iload_n 2, 1) := by decide +kernel
theorem dX5_why_100 : decode cX5_why 100 = .ok (.ifCond .ne 7, 3) := by decide +kernel
theorem dX5_why_103 : decode cX5_why 103 = .ok (.iconst 0, 1) := by decide +kernel
theorem dX5_why_104 : decode cX5_why 104 = .ok (.goto 5, 3) := by decide +kernel
theorem dX5_why_107 : decode cX5_why 107 = .ok (.bipush (-6), 2) := by decide +kernel
theorem dX5_why_109 : decode cX5_why 109 = .ok (.ireturn, 1) := by decide +kernel
set_option maxRecDepth 20000 in
theorem ggX5_best_X5_in : GoodIn wsX5_best wsX5_in := goodIn_r _ [5] (by decide +kernel) (by decide +kernel)
set_option maxRecDepth 20000 in
theorem gX5_best_X5_in : GoodIn wsX5_best (va_wsS RX5 66 yX5_in wsX5_in) := goodIn_app (goodIn_of _ (by decide +kernel)) ggX5_best_X5_in
end
section
set_option maxRecDepth 20000 in
theorem ggX5_best_X5_layFit : GoodIn wsX5_best wsX5_layFit := goodIn_r _ [9, 10, 11, 12, 1, 13, 14, 15, 16, 17, 18, 4, 19, 20, 21, 22, 23, 24, 25, 26, 27, 28, 29, 30, 31, 32, 33, 34, 35, 36, 37, 38, 39, 40, 41, 42, 43, 44, 45, 46, 47, 48, 49, 50, 51, 52, 53, 54, 55, 56, 57, 58, 59, 60, 61, 62, 63, 64, 65, 66, 67, 68, 69, 70, 71, 72, 73, 74, 75, 76, 77, 78, 79, 80, 81, 82, 83, 84, 85, 86, 87, 88, 89, 90, 91, 92, 93, 94, 95, 96, 97] rfl (by decide +kernel)
set_option maxRecDepth 20000 in
theorem gX5_best_X5_layFit : GoodIn wsX5_best (wsV RX5 143 RX5 yX5_layFit wsX5_layFit) := goodIn_app (goodIn_of _ (by decide +kernel)) ggX5_best_X5_layFit
theorem dX5_best_0 : decode cX5_best 0 = .ok (.iload_n 1, 1) := by decide +kernel
theorem dX5_best_1 : decode cX5_best 1 = .ok (.iconst 1, 1) := by decide +kernel
theorem dX5_best_2 : decode cX5_best 2 = .ok (.bipush 60, 2) := by decide +kernel
theorem dX5_best_4 : decode cX5_best 4 = .ok (.invokestatic 66, 3) := by decide +kernel
theorem dX5_best_7 : decode cX5_best 7 = .ok (.ifCond .ne 6, 3) := by decide +kernel
theorem dX5_best_10 : decode cX5_best 10 = .ok (.bipush (-2), 2) := by decide +kernel
theorem dX5_best_12 : decode cX5_best 12 = .ok (.ireturn, 1) := by decide +kernel
theorem dX5_best_13 : decode cX5_best 13 = .ok (.bipush (-6), 2) := by decide +kernel
theorem dX5_best_15 : decode cX5_best 15 = .ok (.istore_n 2, 1) := by decide +kernel
theorem dX5_best_16 : decode cX5_best 16 = .ok (.lconst 0, 1) := by decide +kernel
theorem dX5_best_17 : decode cX5_best 17 = .ok (.lstore_n 3, 1) := by decide +kernel
theorem dX5_best_18 : decode cX5_best 18 = .ok (.iconst 1, 1) := by decide +kernel
theorem dX5_best_19 : decode cX5_best 19 = .ok (.istore 5, 2) := by decide +kernel
theorem dX5_best_21 : decode cX5_best 21 = .ok (.iload 5, 2) := by decide +kernel
theorem dX5_best_23 : decode cX5_best 23 = .ok (.iload_n 1, 1) := by decide +kernel
theorem dX5_best_24 : decode cX5_best 24 = .ok (.if_icmp .gt 46, 3) := by decide +kernel
theorem dX5_best_27 : decode cX5_best 27 = .ok (.aload_n 0, 1) := by decide +kernel
theorem dX5_best_28 : decode cX5_best 28 = .ok (.iload 5, 2) := by decide +kernel
theorem dX5_best_30 : decode cX5_best 30 = .ok (.invokevirtual 143, 3) := by decide +kernel
theorem dX5_best_33 : decode cX5_best 33 = .ok (.ifCond .eq 31, 3) := by decide +kernel
theorem dX5_best_36 : decode cX5_best 36 = .ok (.iload_n 2, 1) := by decide +kernel
theorem dX5_best_37 : decode cX5_best 37 = .ok (.ifCond .lt 19, 3) := by decide +kernel
theorem dX5_best_40 : decode cX5_best 40 = .ok (.aload_n 0, 1) := by decide +kernel
theorem dX5_best_41 : decode cX5_best 41 = .ok (.getfield 125, 3) := by decide +kernel
theorem dX5_best_44 : decode cX5_best 44 = .ok (.iload_n 2, 1) := by decide +kernel
theorem dX5_best_45 : decode cX5_best 45 = .ok (.i2l, 1) := by decide +kernel
theorem dX5_best_46 : decode cX5_best 46 = .ok (.lmul, 1) := by decide +kernel
theorem dX5_best_47 : decode cX5_best 47 = .ok (.lload_n 3, 1) := by decide +kernel
theorem dX5_best_48 : decode cX5_best 48 = .ok (.iload 5, 2) := by decide +kernel
theorem dX5_best_50 : decode cX5_best 50 = .ok (.i2l, 1) := by decide +kernel
theorem dX5_best_51 : decode cX5_best 51 = .ok (.lmul, 1) := by decide +kernel
theorem dX5_best_52 : decode cX5_best 52 = .ok (.lcmp, 1) := by decide +kernel
theorem dX5_best_53 : decode cX5_best 53 = .ok (.ifCond .gt 11, 3) := by decide +kernel
theorem dX5_best_56 : decode cX5_best 56 = .ok (.iload 5, 2) := by decide +kernel
theorem dX5_best_58 : decode cX5_best 58 = .ok (.istore_n 2, 1) := by decide +kernel
theorem dX5_best_59 : decode cX5_best 59 = .ok (.aload_n 0, 1) := by decide +kernel
theorem dX5_best_60 : decode cX5_best 60 = .ok (.getfield 125, 3) := by decide +kernel
theorem dX5_best_63 : decode cX5_best 63 = .ok (.lstore_n 3, 1) := by decide +kernel
theorem dX5_best_64 : decode cX5_best 64 = .ok (.iinc 5 1, 3) := by decide +kernel
theorem dX5_best_67 : decode cX5_best 67 = .ok (.goto (-46), 3) := by decide +kernel
theorem dX5_best_70 : decode cX5_best 70 = .ok (.iload_n 2, 1) := by decide +kernel
theorem dX5_best_71 : decode cX5_best 71 = .ok (.ireturn, 1) := by decide +kernel
set_option maxRecDepth 20000 in
theorem ggX5_place_X5_in : GoodIn wsX5_place wsX5_in := goodIn_r _ [11] (by decide +kernel) (by decide +kernel)
set_option maxRecDepth 20000 in
theorem gX5_place_X5_in : GoodIn wsX5_place (va_wsS RX5 66 yX5_in wsX5_in) := goodIn_app (goodIn_of _ (by decide +kernel)) ggX5_place_X5_in
end
section
set_option maxRecDepth 20000 in
theorem ggX5_place_X5_layFit : GoodIn wsX5_place wsX5_layFit := goodIn_r _ [15, 3, 6, 16, 17, 18, 19, 5, 20, 21, 22, 10, 23, 24, 4, 7, 25, 26, 27, 28, 29, 30, 31, 32, 33, 34, 35, 36, 37, 38, 39, 40, 41, 42, 43, 44, 45, 46, 47, 48, 49, 50, 51, 52, 53, 54, 55, 56, 57, 58, 59, 60, 61, 62, 63, 64, 65, 66, 67, 68, 69, 70, 71, 72, 73, 74, 75, 76, 77, 78, 79, 80, 81, 82, 83, 84, 85, 86, 87, 88, 89, 90, 91, 92, 93, 94, 95, 96, 97, 98, 99] rfl (by decide +kernel)
set_option maxRecDepth 20000 in
theorem gX5_place_X5_layFit : GoodIn wsX5_place (wsV RX5 143 RX5 yX5_layFit wsX5_layFit) := goodIn_app (goodIn_of _ (by decide +kernel)) ggX5_place_X5_layFit
set_option maxRecDepth 20000 in
theorem ggX5_place_X5_width : GoodIn wsX5_place wsX5_width := goodIn_r _ [53, 7, 4, 77, 78, 79, 80, 81, 82, 83, 84, 85, 86, 87, 88, 89, 90, 91, 92, 93, 94, 95, 96, 97, 98, 99] (by decide +kernel) (by decide +kernel)
set_option maxRecDepth 20000 in
theorem gX5_place_X5_width : GoodIn wsX5_place (wsV RX5 105 RX5 yX5_width wsX5_width) := goodIn_app (goodIn_of _ (by decide +kernel)) ggX5_place_X5_width
theorem dX5_place_0 : decode cX5_place 0 = .ok (.iload_n 1, 1) := by decide +kernel
theorem dX5_place_1 : decode cX5_place 1 = .ok (.iconst 1, 1) := by decide +kernel
theorem dX5_place_2 : decode cX5_place 2 = .ok (.bipush 60, 2) := by decide +kernel
theorem dX5_place_4 : decode cX5_place 4 = .ok (.invokestatic 66, 3) := by decide +kernel
theorem dX5_place_7 : decode cX5_place 7 = .ok (.ifCond .eq 14, 3) := by decide +kernel
theorem dX5_place_10 : decode cX5_place 10 = .ok (.iload_n 2, 1) := by decide +kernel
theorem dX5_place_11 : decode cX5_place 11 = .ok (.iconst 0, 1) := by decide +kernel
theorem dX5_place_12 : decode cX5_place 12 = .ok (.sipush 999, 3) := by decide +kernel
theorem dX5_place_15 : decode cX5_place 15 = .ok (.invokestatic 66, 3) := by decide +kernel
theorem dX5_place_18 : decode cX5_place 18 = .ok (.ifCond .ne 6, 3) := by decide +kernel
theorem dX5_place_21 : decode cX5_place 21 = .ok (.ldc 148, 2) := by decide +kernel
theorem dX5_place_23 : decode cX5_place 23 = .ok (.ireturn, 1) := by decide +kernel
theorem dX5_place_24 : decode cX5_place 24 = .ok (.aload_n 0, 1) := by decide +kernel
theorem dX5_place_25 : decode cX5_place 25 = .ok (.iload_n 1, 1) := by decide +kernel
theorem dX5_place_26 : decode cX5_place 26 = .ok (.invokevirtual 143, 3) := by decide +kernel
theorem dX5_place_29 : decode cX5_place 29 = .ok (.ifCond .ne 6, 3) := by decide +kernel
theorem dX5_place_32 : decode cX5_place 32 = .ok (.ldc 149, 2) := by decide +kernel
theorem dX5_place_34 : decode cX5_place 34 = .ok (.ireturn, 1) := by decide +kernel
theorem dX5_place_35 : decode cX5_place 35 = .ok (.aload_n 0, 1) := by decide +kernel
theorem dX5_place_36 : decode cX5_place 36 = .ok (.getfield 89, 3) := by decide +kernel
theorem dX5_place_39 : decode cX5_place 39 = .ok (.ifCond .ne 7, 3) := by decide +kernel
theorem dX5_place_42 : decode cX5_place 42 = .ok (.iload_n 2, 1) := by decide +kernel
theorem dX5_place_43 : decode cX5_place 43 = .ok (.iload_n 1, 1) := by decide +kernel
theorem dX5_place_44 : decode cX5_place 44 = .ok (.imul, 1) := by decide +kernel
theorem dX5_place_45 : decode cX5_place 45 = .ok (.ireturn, 1) := by decide +kernel
theorem dX5_place_46 : decode cX5_place 46 = .ok (.iload_n 2, 1) := by decide +kernel
theorem dX5_place_47 : decode cX5_place 47 = .ok (.aload_n 0, 1) := by decide +kernel
theorem dX5_place_48 : decode cX5_place 48 = .ok (.getfield 22, 3) := by decide +kernel
theorem dX5_place_51 : decode cX5_place 51 = .ok (.iconst 0, 1) := by decide +kernel
theorem dX5_place_52 : decode cX5_place 52 = .ok (.iaload, 1) := by decide +kernel
theorem dX5_place_53 : decode cX5_place 53 = .ok (.if_icmp .gt 25, 3) := by decide +kernel
theorem dX5_place_56 : decode cX5_place 56 = .ok (.sipush 1000, 3) := by decide +kernel
theorem dX5_place_59 : decode cX5_place 59 = .ok (.aload_n 0, 1) := by decide +kernel
theorem dX5_place_60 : decode cX5_place 60 = .ok (.getfield 53, 3) := by decide +kernel
theorem dX5_place_63 : decode cX5_place 63 = .ok (.iconst 0, 1) := by decide +kernel
theorem dX5_place_64 : decode cX5_place 64 = .ok (.iaload, 1) := by decide +kernel
theorem dX5_place_65 : decode cX5_place 65 = .ok (.imul, 1) := by decide +kernel
theorem dX5_place_66 : decode cX5_place 66 = .ok (.aload_n 0, 1) := by decide +kernel
theorem dX5_place_67 : decode cX5_place 67 = .ok (.getfield 22, 3) := by decide +kernel
theorem dX5_place_70 : decode cX5_place 70 = .ok (.iconst 0, 1) := by decide +kernel
theorem dX5_place_71 : decode cX5_place 71 = .ok (.iaload, 1) := by decide +kernel
theorem dX5_place_72 : decode cX5_place 72 = .ok (.iload_n 2, 1) := by decide +kernel
theorem dX5_place_73 : decode cX5_place 73 = .ok (.isub, 1) := by decide +kernel
theorem dX5_place_74 : decode cX5_place 74 = .ok (.iload_n 1, 1) := by decide +kernel
theorem dX5_place_75 : decode cX5_place 75 = .ok (.imul, 1) := by decide +kernel
theorem dX5_place_76 : decode cX5_place 76 = .ok (.isub, 1) := by decide +kernel
theorem dX5_place_77 : decode cX5_place 77 = .ok (.ireturn, 1) := by decide +kernel
theorem dX5_place_78 : decode cX5_place 78 = .ok (.iconst 0, 1) := by decide +kernel
theorem dX5_place_79 : decode cX5_place 79 = .ok (.istore_n 3, 1) := by decide +kernel
theorem dX5_place_80 : decode cX5_place 80 = .ok (.iload_n 3, 1) := by decide +kernel
theorem dX5_place_81 : decode cX5_place 81 = .ok (.aload_n 0, 1) := by decide +kernel
theorem dX5_place_82 : decode cX5_place 82 = .ok (.getfield 89, 3) := by decide +kernel
theorem dX5_place_85 : decode cX5_place 85 = .ok (.if_icmp .ge 136, 3) := by decide +kernel
theorem dX5_place_88 : decode cX5_place 88 = .ok (.sipush 1000, 3) := by decide +kernel
theorem dX5_place_91 : decode cX5_place 91 = .ok (.aload_n 0, 1) := by decide +kernel
theorem dX5_place_92 : decode cX5_place 92 = .ok (.getfield 53, 3) := by decide +kernel
theorem dX5_place_95 : decode cX5_place 95 = .ok (.iload_n 3, 1) := by decide +kernel
theorem dX5_place_96 : decode cX5_place 96 = .ok (.iaload, 1) := by decide +kernel
theorem dX5_place_97 : decode cX5_place 97 = .ok (.imul, 1) := by decide +kernel
theorem dX5_place_98 : decode cX5_place 98 = .ok (.istore 4, 2) := by decide +kernel
theorem dX5_place_100 : decode cX5_place 100 = .ok (.iload 4, 2) := by decide +kernel
theorem dX5_place_102 : decode cX5_place 102 = .ok (.sipush 1000, 3) := by decide +kernel
theorem dX5_place_105 : decode cX5_place 105 = .ok (.aload_n 0, 1) := by decide +kernel
theorem dX5_place_106 : decode cX5_place 106 = .ok (.getfield 56, 3) := by decide +kernel
theorem dX5_place_109 : decode cX5_place 109 = .ok (.iload_n 3, 1) := by decide +kernel
theorem dX5_place_110 : decode cX5_place 110 = .ok (.iaload, 1) := by decide +kernel
theorem dX5_place_111 : decode cX5_place 111 = .ok (.imul, 1) := by decide +kernel
theorem dX5_place_112 : decode cX5_place 112 = .ok (.iadd, 1) := by decide +kernel
theorem dX5_place_113 : decode cX5_place 113 = .ok (.istore 5, 2) := by decide +kernel
theorem dX5_place_115 : decode cX5_place 115 = .ok (.iload_n 2, 1) := by decide +kernel
theorem dX5_place_116 : decode cX5_place 116 = .ok (.aload_n 0, 1) := by decide +kernel
theorem dX5_place_117 : decode cX5_place 117 = .ok (.getfield 25, 3) := by decide +kernel
theorem dX5_place_120 : decode cX5_place 120 = .ok (.iload_n 3, 1) := by decide +kernel
theorem dX5_place_121 : decode cX5_place 121 = .ok (.iaload, 1) := by decide +kernel
theorem dX5_place_122 : decode cX5_place 122 = .ok (.if_icmp .gt 27, 3) := by decide +kernel
theorem dX5_place_125 : decode cX5_place 125 = .ok (.iload 4, 2) := by decide +kernel
theorem dX5_place_127 : decode cX5_place 127 = .ok (.iload_n 2, 1) := by decide +kernel
theorem dX5_place_128 : decode cX5_place 128 = .ok (.aload_n 0, 1) := by decide +kernel
theorem dX5_place_129 : decode cX5_place 129 = .ok (.getfield 22, 3) := by decide +kernel
theorem dX5_place_132 : decode cX5_place 132 = .ok (.iload_n 3, 1) := by decide +kernel
theorem dX5_place_133 : decode cX5_place 133 = .ok (.iaload, 1) := by decide +kernel
theorem dX5_place_134 : decode cX5_place 134 = .ok (.isub, 1) := by decide +kernel
theorem dX5_place_135 : decode cX5_place 135 = .ok (.iload 5, 2) := by decide +kernel
theorem dX5_place_137 : decode cX5_place 137 = .ok (.iload 4, 2) := by decide +kernel
theorem dX5_place_139 : decode cX5_place 139 = .ok (.isub, 1) := by decide +kernel
theorem dX5_place_140 : decode cX5_place 140 = .ok (.imul, 1) := by decide +kernel
theorem dX5_place_141 : decode cX5_place 141 = .ok (.aload_n 0, 1) := by decide +kernel
theorem dX5_place_142 : decode cX5_place 142 = .ok (.iload_n 3, 1) := by decide +kernel
theorem dX5_place_143 : decode cX5_place 143 = .ok (.invokevirtual 105, 3) := by decide +kernel
theorem dX5_place_146 : decode cX5_place 146 = .ok (.idiv, 1) := by decide +kernel
theorem dX5_place_147 : decode cX5_place 147 = .ok (.iadd, 1) := by decide +kernel
theorem dX5_place_148 : decode cX5_place 148 = .ok (.ireturn, 1) := by decide +kernel
theorem dX5_place_149 : decode cX5_place 149 = .ok (.iload_n 3, 1) := by decide +kernel
theorem dX5_place_150 : decode cX5_place 150 = .ok (.iconst 1, 1) := by decide +kernel
theorem dX5_place_151 : decode cX5_place 151 = .ok (.iadd, 1) := by decide +kernel
theorem dX5_place_152 : decode cX5_place 152 = .ok (.aload_n 0, 1) := by decide +kernel
theorem dX5_place_153 : decode cX5_place 153 = .ok (.getfield 89, 3) := by decide +kernel
theorem dX5_place_156 : decode cX5_place 156 = .ok (.if_icmp .ge 59, 3) := by decide +kernel
theorem dX5_place_159 : decode cX5_place 159 = .ok (.iload_n 2, 1) := by decide +kernel
theorem dX5_place_160 : decode cX5_place 160 = .ok (.aload_n 0, 1) := by decide +kernel
theorem dX5_place_161 : decode cX5_place 161 = .ok (.getfield 22, 3) := by decide +kernel
theorem dX5_place_164 : decode cX5_place 164 = .ok (.iload_n 3, 1) := by decide +kernel
theorem dX5_place_165 : decode cX5_place 165 = .ok (.iconst 1, 1) := by decide +kernel
theorem dX5_place_166 : decode cX5_place 166 = .ok (.iadd, 1) := by decide +kernel
theorem dX5_place_167 : decode cX5_place 167 = .ok (.iaload, 1) := by decide +kernel
theorem dX5_place_168 : decode cX5_place 168 = .ok (.if_icmp .ge 47, 3) := by decide +kernel
theorem dX5_place_171 : decode cX5_place 171 = .ok (.iload 5, 2) := by decide +kernel
theorem dX5_place_173 : decode cX5_place 173 = .ok (.iload_n 2, 1) := by decide +kernel
theorem dX5_place_174 : decode cX5_place 174 = .ok (.aload_n 0, 1) := by decide +kernel
theorem dX5_place_175 : decode cX5_place 175 = .ok (.getfield 25, 3) := by decide +kernel
theorem dX5_place_178 : decode cX5_place 178 = .ok (.iload_n 3, 1) := by decide +kernel
theorem dX5_place_179 : decode cX5_place 179 = .ok (.iaload, 1) := by decide +kernel
theorem dX5_place_180 : decode cX5_place 180 = .ok (.isub, 1) := by decide +kernel
theorem dX5_place_181 : decode cX5_place 181 = .ok (.sipush 1000, 3) := by decide +kernel
theorem dX5_place_184 : decode cX5_place 184 = .ok (.aload_n 0, 1) := by decide +kernel
theorem dX5_place_185 : decode cX5_place 185 = .ok (.getfield 53, 3) := by decide +kernel
theorem dX5_place_188 : decode cX5_place 188 = .ok (.iload_n 3, 1) := by decide +kernel
theorem dX5_place_189 : decode cX5_place 189 = .ok (.iconst 1, 1) := by decide +kernel
theorem dX5_place_190 : decode cX5_place 190 = .ok (.iadd, 1) := by decide +kernel
theorem dX5_place_191 : decode cX5_place 191 = .ok (.iaload, 1) := by decide +kernel
theorem dX5_place_192 : decode cX5_place 192 = .ok (.imul, 1) := by decide +kernel
theorem dX5_place_193 : decode cX5_place 193 = .ok (.iload 5, 2) := by decide +kernel
theorem dX5_place_195 : decode cX5_place 195 = .ok (.isub, 1) := by decide +kernel
theorem dX5_place_196 : decode cX5_place 196 = .ok (.imul, 1) := by decide +kernel
theorem dX5_place_197 : decode cX5_place 197 = .ok (.aload_n 0, 1) := by decide +kernel
theorem dX5_place_198 : decode cX5_place 198 = .ok (.getfield 22, 3) := by decide +kernel
theorem dX5_place_201 : decode cX5_place 201 = .ok (.iload_n 3, 1) := by decide +kernel
theorem dX5_place_202 : decode cX5_place 202 = .ok (.iconst 1, 1) := by decide +kernel
theorem dX5_place_203 : decode cX5_place 203 = .ok (.iadd, 1) := by decide +kernel
theorem dX5_place_204 : decode cX5_place 204 = .ok (.iaload, 1) := by decide +kernel
theorem dX5_place_205 : decode cX5_place 205 = .ok (.aload_n 0, 1) := by decide +kernel
theorem dX5_place_206 : decode cX5_place 206 = .ok (.getfield 25, 3) := by decide +kernel
theorem dX5_place_209 : decode cX5_place 209 = .ok (.iload_n 3, 1) := by decide +kernel
theorem dX5_place_210 : decode cX5_place 210 = .ok (.iaload, 1) := by decide +kernel
theorem dX5_place_211 : decode cX5_place 211 = .ok (.isub, 1) := by decide +kernel
theorem dX5_place_212 : decode cX5_place 212 = .ok (.idiv, 1) := by decide +kernel
theorem dX5_place_213 : decode cX5_place 213 = .ok (.iadd, 1) := by decide +kernel
theorem dX5_place_214 : decode cX5_place 214 = .ok (.ireturn, 1) := by decide +kernel
theorem dX5_place_215 : decode cX5_place 215 = .ok (.iinc 3 1, 3) := by decide +kernel
theorem dX5_place_218 : decode cX5_place 218 = .ok (.goto (-138), 3) := by decide +kernel
theorem dX5_place_221 : decode cX5_place 221 = .ok (.sipush 1000, 3) := by decide +kernel
theorem dX5_place_224 : decode cX5_place 224 = .ok (.aload_n 0, 1) := by decide +kernel
theorem dX5_place_225 : decode cX5_place 225 = .ok (.getfield 53, 3) := by decide +kernel
theorem dX5_place_228 : decode cX5_place 228 = .ok (.aload_n 0, 1) := by decide +kernel
theorem dX5_place_229 : decode cX5_place 229 = .ok (.getfield 89, 3) := by decide +kernel
theorem dX5_place_232 : decode cX5_place 232 = .ok (.iconst 1, 1) := by decide +kernel
theorem dX5_place_233 : decode cX5_place 233 = .ok (.isub, 1) := by decide +kernel
theorem dX5_place_234 : decode cX5_place 234 = .ok (.iaload, 1) := by decide +kernel
theorem dX5_place_235 : decode cX5_place 235 = .ok (.aload_n 0, 1) := by decide +kernel
theorem dX5_place_236 : decode cX5_place 236 = .ok (.getfield 56, 3) := by decide +kernel
theorem dX5_place_239 : decode cX5_place 239 = .ok (.aload_n 0, 1) := by decide +kernel
theorem dX5_place_240 : decode cX5_place 240 = .ok (.getfield 89, 3) := by decide +kernel
theorem dX5_place_243 : decode cX5_place 243 = .ok (.iconst 1, 1) := by decide +kernel
theorem dX5_place_244 : decode cX5_place 244 = .ok (.isub, 1) := by decide +kernel
theorem dX5_place_245 : decode cX5_place 245 = .ok (.iaload, 1) := by decide +kernel
theorem dX5_place_246 : decode cX5_place 246 = .ok (.iadd, 1) := by decide +kernel
theorem dX5_place_247 : decode cX5_place 247 = .ok (.imul, 1) := by decide +kernel
theorem dX5_place_248 : decode cX5_place 248 = .ok (.iload_n 2, 1) := by decide +kernel
theorem dX5_place_249 : decode cX5_place 249 = .ok (.aload_n 0, 1) := by decide +kernel
theorem dX5_place_250 : decode cX5_place 250 = .ok (.getfield 25, 3) := by decide +kernel
theorem dX5_place_253 : decode cX5_place 253 = .ok (.aload_n 0, 1) := by decide +kernel
theorem dX5_place_254 : decode cX5_place 254 = .ok (.getfield 89, 3) := by decide +kernel
theorem dX5_place_257 : decode cX5_place 257 = .ok (.iconst 1, 1) := by decide +kernel
theorem dX5_place_258 : decode cX5_place 258 = .ok (.isub, 1) := by decide +kernel
theorem dX5_place_259 : decode cX5_place 259 = .ok (.iaload, 1) := by decide +kernel
theorem dX5_place_260 : decode cX5_place 260 = .ok (.isub, 1) := by decide +kernel
theorem dX5_place_261 : decode cX5_place 261 = .ok (.iload_n 1, 1) := by decide +kernel
theorem dX5_place_262 : decode cX5_place 262 = .ok (.imul, 1) := by decide +kernel
theorem dX5_place_263 : decode cX5_place 263 = .ok (.iadd, 1) := by decide +kernel
theorem dX5_place_264 : decode cX5_place 264 = .ok (.ireturn, 1) := by decide +kernel
set_option maxRecDepth 20000 in
theorem ggX5_image_X5_in : GoodIn wsX5_image wsX5_in := goodIn_r _ [9] (by decide +kernel) (by decide +kernel)
set_option maxRecDepth 20000 in
theorem gX5_image_X5_in : GoodIn wsX5_image (va_wsS RX5 66 yX5_in wsX5_in) := goodIn_app (goodIn_of _ (by decide +kernel)) ggX5_image_X5_in
theorem dX5_image_0 : decode cX5_image 0 = .ok (.iload_n 1, 1) := by decide +kernel
theorem dX5_image_1 : decode cX5_image 1 = .ok (.iconst 0, 1) := by decide +kernel
theorem dX5_image_2 : decode cX5_image 2 = .ok (.iconst 1, 1) := by decide +kernel
theorem dX5_image_3 : decode cX5_image 3 = .ok (.invokestatic 66, 3) := by decide +kernel
theorem dX5_image_6 : decode cX5_image 6 = .ok (.ifCond .ne 6, 3) := by decide +kernel
theorem dX5_image_9 : decode cX5_image 9 = .ok (.bipush (-2), 2) := by decide +kernel
theorem dX5_image_11 : decode cX5_image 11 = .ok (.ireturn, 1) := by decide +kernel
theorem dX5_image_12 : decode cX5_image 12 = .ok (.iconst 0, 1) := by decide +kernel
theorem dX5_image_13 : decode cX5_image 13 = .ok (.istore_n 2, 1) := by decide +kernel
theorem dX5_image_14 : decode cX5_image 14 = .ok (.iload_n 2, 1) := by decide +kernel
theorem dX5_image_15 : decode cX5_image 15 = .ok (.bipush 64, 2) := by decide +kernel
theorem dX5_image_17 : decode cX5_image 17 = .ok (.if_icmp .ge 26, 3) := by decide +kernel
theorem dX5_image_20 : decode cX5_image 20 = .ok (.aload_n 0, 1) := by decide +kernel
theorem dX5_image_21 : decode cX5_image 21 = .ok (.getfield 59, 3) := by decide +kernel
theorem dX5_image_24 : decode cX5_image 24 = .ok (.bipush 70, 2) := by decide +kernel
theorem dX5_image_26 : decode cX5_image 26 = .ok (.iload_n 1, 1) := by decide +kernel
theorem dX5_image_27 : decode cX5_image 27 = .ok (.imul, 1) := by decide +kernel
theorem dX5_image_28 : decode cX5_image 28 = .ok (.iload_n 2, 1) := by decide +kernel
theorem dX5_image_29 : decode cX5_image 29 = .ok (.iadd, 1) := by decide +kernel
theorem dX5_image_30 : decode cX5_image 30 = .ok (.aload_n 0, 1) := by decide +kernel
theorem dX5_image_31 : decode cX5_image 31 = .ok (.getfield 7, 3) := by decide +kernel
theorem dX5_image_34 : decode cX5_image 34 = .ok (.iload_n 2, 1) := by decide +kernel
theorem dX5_image_35 : decode cX5_image 35 = .ok (.iaload, 1) := by decide +kernel
theorem dX5_image_36 : decode cX5_image 36 = .ok (.iastore, 1) := by decide +kernel
theorem dX5_image_37 : decode cX5_image 37 = .ok (.iinc 2 1, 3) := by decide +kernel
theorem dX5_image_40 : decode cX5_image 40 = .ok (.goto (-26), 3) := by decide +kernel
theorem dX5_image_43 : decode cX5_image 43 = .ok (.iconst 0, 1) := by decide +kernel
theorem dX5_image_44 : decode cX5_image 44 = .ok (.istore_n 2, 1) := by decide +kernel
theorem dX5_image_45 : decode cX5_image 45 = .ok (.iload_n 2, 1) := by decide +kernel
theorem dX5_image_46 : decode cX5_image 46 = .ok (.iconst 5, 1) := by decide +kernel
theorem dX5_image_47 : decode cX5_image 47 = .ok (.if_icmp .ge 29, 3) := by decide +kernel
theorem dX5_image_50 : decode cX5_image 50 = .ok (.aload_n 0, 1) := by decide +kernel
theorem dX5_image_51 : decode cX5_image 51 = .ok (.getfield 59, 3) := by decide +kernel
theorem dX5_image_54 : decode cX5_image 54 = .ok (.bipush 70, 2) := by decide +kernel
theorem dX5_image_56 : decode cX5_image 56 = .ok (.iload_n 1, 1) := by decide +kernel
theorem dX5_image_57 : decode cX5_image 57 = .ok (.imul, 1) := by decide +kernel
theorem dX5_image_58 : decode cX5_image 58 = .ok (.bipush 64, 2) := by decide +kernel
theorem dX5_image_60 : decode cX5_image 60 = .ok (.iadd, 1) := by decide +kernel
theorem dX5_image_61 : decode cX5_image 61 = .ok (.iload_n 2, 1) := by decide +kernel
theorem dX5_image_62 : decode cX5_image 62 = .ok (.iadd, 1) := by decide +kernel
theorem dX5_image_63 : decode cX5_image 63 = .ok (.aload_n 0, 1) := by decide +kernel
theorem dX5_image_64 : decode cX5_image 64 = .ok (.getfield 13, 3) := by decide +kernel
theorem dX5_image_67 : decode cX5_image 67 = .ok (.iload_n 2, 1) := by decide +kernel
theorem dX5_image_68 : decode cX5_image 68 = .ok (.iaload, 1) := by decide +kernel
theorem dX5_image_69 : decode cX5_image 69 = .ok (.iastore, 1) := by decide +kernel
theorem dX5_image_70 : decode cX5_image 70 = .ok (.iinc 2 1, 3) := by decide +kernel
theorem dX5_image_73 : decode cX5_image 73 = .ok (.goto (-28), 3) := by decide +kernel
theorem dX5_image_76 : decode cX5_image 76 = .ok (.aload_n 0, 1) := by decide +kernel
theorem dX5_image_77 : decode cX5_image 77 = .ok (.getfield 59, 3) := by decide +kernel
theorem dX5_image_80 : decode cX5_image 80 = .ok (.bipush 70, 2) := by decide +kernel
theorem dX5_image_82 : decode cX5_image 82 = .ok (.iload_n 1, 1) := by decide +kernel
theorem dX5_image_83 : decode cX5_image 83 = .ok (.imul, 1) := by decide +kernel
theorem dX5_image_84 : decode cX5_image 84 = .ok (.bipush 69, 2) := by decide +kernel
theorem dX5_image_86 : decode cX5_image 86 = .ok (.iadd, 1) := by decide +kernel
theorem dX5_image_87 : decode cX5_image 87 = .ok (.aload_n 0, 1) := by decide +kernel
theorem dX5_image_88 : decode cX5_image 88 = .ok (.getfield 82, 3) := by decide +kernel
theorem dX5_image_91 : decode cX5_image 91 = .ok (.iastore, 1) := by decide +kernel
theorem dX5_image_92 : decode cX5_image 92 = .ok (.aload_n 0, 1) := by decide +kernel
theorem dX5_image_93 : decode cX5_image 93 = .ok (.getfield 62, 3) := by decide +kernel
theorem dX5_image_96 : decode cX5_image 96 = .ok (.iload_n 1, 1) := by decide +kernel
theorem dX5_image_97 : decode cX5_image 97 = .ok (.iconst 1, 1) := by decide +kernel
theorem dX5_image_98 : decode cX5_image 98 = .ok (.bastore, 1) := by decide +kernel
theorem dX5_image_99 : decode cX5_image 99 = .ok (.iconst 1, 1) := by decide +kernel
theorem dX5_image_100 : decode cX5_image 100 = .ok (.ireturn, 1) := by decide +kernel
set_option maxRecDepth 20000 in
theorem ggX5_restore_X5_in : GoodIn wsX5_restore wsX5_in := goodIn_r _ [9] (by decide +kernel) (by decide +kernel)
set_option maxRecDepth 20000 in
theorem gX5_restore_X5_in : GoodIn wsX5_restore (va_wsS RX5 66 yX5_in wsX5_in) := goodIn_app (goodIn_of _ (by decide +kernel)) ggX5_restore_X5_in
theorem dX5_restore_0 : decode cX5_restore 0 = .ok (.iload_n 1, 1) := by decide +kernel
theorem dX5_restore_1 : decode cX5_restore 1 = .ok (.iconst 0, 1) := by decide +kernel
theorem dX5_restore_2 : decode cX5_restore 2 = .ok (.iconst 1, 1) := by decide +kernel
theorem dX5_restore_3 : decode cX5_restore 3 = .ok (.invokestatic 66, 3) := by decide +kernel
theorem dX5_restore_6 : decode cX5_restore 6 = .ok (.ifCond .ne 6, 3) := by decide +kernel
theorem dX5_restore_9 : decode cX5_restore 9 = .ok (.bipush (-2), 2) := by decide +kernel
theorem dX5_restore_11 : decode cX5_restore 11 = .ok (.ireturn, 1) := by decide +kernel
theorem dX5_restore_12 : decode cX5_restore 12 = .ok (.aload_n 0, 1) := by decide +kernel
theorem dX5_restore_13 : decode cX5_restore 13 = .ok (.getfield 62, 3) := by decide +kernel
theorem dX5_restore_16 : decode cX5_restore 16 = .ok (.iload_n 1, 1) := by decide +kernel
theorem dX5_restore_17 : decode cX5_restore 17 = .ok (.baload, 1) := by decide +kernel
theorem dX5_restore_18 : decode cX5_restore 18 = .ok (.ifCond .ne 6, 3) := by decide +kernel
theorem dX5_restore_21 : decode cX5_restore 21 = .ok (.bipush (-3), 2) := by decide +kernel
theorem dX5_restore_23 : decode cX5_restore 23 = .ok (.ireturn, 1) := by decide +kernel
theorem dX5_restore_24 : decode cX5_restore 24 = .ok (.iconst 0, 1) := by decide +kernel
theorem dX5_restore_25 : decode cX5_restore 25 = .ok (.istore_n 2, 1) := by decide +kernel
theorem dX5_restore_26 : decode cX5_restore 26 = .ok (.iload_n 2, 1) := by decide +kernel
theorem dX5_restore_27 : decode cX5_restore 27 = .ok (.bipush 64, 2) := by decide +kernel
theorem dX5_restore_29 : decode cX5_restore 29 = .ok (.if_icmp .ge 26, 3) := by decide +kernel
theorem dX5_restore_32 : decode cX5_restore 32 = .ok (.aload_n 0, 1) := by decide +kernel
theorem dX5_restore_33 : decode cX5_restore 33 = .ok (.getfield 7, 3) := by decide +kernel
theorem dX5_restore_36 : decode cX5_restore 36 = .ok (.iload_n 2, 1) := by decide +kernel
theorem dX5_restore_37 : decode cX5_restore 37 = .ok (.aload_n 0, 1) := by decide +kernel
theorem dX5_restore_38 : decode cX5_restore 38 = .ok (.getfield 59, 3) := by decide +kernel
theorem dX5_restore_41 : decode cX5_restore 41 = .ok (.bipush 70, 2) := by decide +kernel
theorem dX5_restore_43 : decode cX5_restore 43 = .ok (.iload_n 1, 1) := by decide +kernel
theorem dX5_restore_44 : decode cX5_restore 44 = .ok (.imul, 1) := by decide +kernel
theorem dX5_restore_45 : decode cX5_restore 45 = .ok (.iload_n 2, 1) := by decide +kernel
theorem dX5_restore_46 : decode cX5_restore 46 = .ok (.iadd, 1) := by decide +kernel
theorem dX5_restore_47 : decode cX5_restore 47 = .ok (.iaload, 1) := by decide +kernel
theorem dX5_restore_48 : decode cX5_restore 48 = .ok (.iastore, 1) := by decide +kernel
theorem dX5_restore_49 : decode cX5_restore 49 = .ok (.iinc 2 1, 3) := by decide +kernel
theorem dX5_restore_52 : decode cX5_restore 52 = .ok (.goto (-26), 3) := by decide +kernel
theorem dX5_restore_55 : decode cX5_restore 55 = .ok (.iconst 0, 1) := by decide +kernel
theorem dX5_restore_56 : decode cX5_restore 56 = .ok (.istore_n 2, 1) := by decide +kernel
theorem dX5_restore_57 : decode cX5_restore 57 = .ok (.iload_n 2, 1) := by decide +kernel
theorem dX5_restore_58 : decode cX5_restore 58 = .ok (.iconst 5, 1) := by decide +kernel
theorem dX5_restore_59 : decode cX5_restore 59 = .ok (.if_icmp .ge 29, 3) := by decide +kernel
theorem dX5_restore_62 : decode cX5_restore 62 = .ok (.aload_n 0, 1) := by decide +kernel
theorem dX5_restore_63 : decode cX5_restore 63 = .ok (.getfield 13, 3) := by decide +kernel
theorem dX5_restore_66 : decode cX5_restore 66 = .ok (.iload_n 2, 1) := by decide +kernel
theorem dX5_restore_67 : decode cX5_restore 67 = .ok (.aload_n 0, 1) := by decide +kernel
theorem dX5_restore_68 : decode cX5_restore 68 = .ok (.getfield 59, 3) := by decide +kernel
theorem dX5_restore_71 : decode cX5_restore 71 = .ok (.bipush 70, 2) := by decide +kernel
theorem dX5_restore_73 : decode cX5_restore 73 = .ok (.iload_n 1, 1) := by decide +kernel
theorem dX5_restore_74 : decode cX5_restore 74 = .ok (.imul, 1) := by decide +kernel
theorem dX5_restore_75 : decode cX5_restore 75 = .ok (.bipush 64, 2) := by decide +kernel
theorem dX5_restore_77 : decode cX5_restore 77 = .ok (.iadd, 1) := by decide +kernel
theorem dX5_restore_78 : decode cX5_restore 78 = .ok (.iload_n 2, 1) := by decide +kernel
theorem dX5_restore_79 : decode cX5_restore 79 = .ok (.iadd, 1) := by decide +kernel
theorem dX5_restore_80 : decode cX5_restore 80 = .ok (.iaload, 1) := by decide +kernel
theorem dX5_restore_81 : decode cX5_restore 81 = .ok (.iastore, 1) := by decide +kernel
theorem dX5_restore_82 : decode cX5_restore 82 = .ok (.iinc 2 1, 3) := by decide +kernel
theorem dX5_restore_85 : decode cX5_restore 85 = .ok (.goto (-28), 3) := by decide +kernel
theorem dX5_restore_88 : decode cX5_restore 88 = .ok (.aload_n 0, 1) := by decide +kernel
theorem dX5_restore_89 : decode cX5_restore 89 = .ok (.aload_n 0, 1) := by decide +kernel
theorem dX5_restore_90 : decode cX5_restore 90 = .ok (.getfield 59, 3) := by decide +kernel
theorem dX5_restore_93 : decode cX5_restore 93 = .ok (.bipush 70, 2) := by decide +kernel
theorem dX5_restore_95 : decode cX5_restore 95 = .ok (.iload_n 1, 1) := by decide +kernel
theorem dX5_restore_96 : decode cX5_restore 96 = .ok (.imul, 1) := by decide +kernel
theorem dX5_restore_97 : decode cX5_restore 97 = .ok (.bipush 69, 2) := by decide +kernel
theorem dX5_restore_99 : decode cX5_restore 99 = .ok (.iadd, 1) := by decide +kernel
theorem dX5_restore_100 : decode cX5_restore 100 = .ok (.iaload, 1) := by decide +kernel
theorem dX5_restore_101 : decode cX5_restore 101 = .ok (.putfield 82, 3) := by decide +kernel
theorem dX5_restore_104 : decode cX5_restore 104 = .ok (.iconst 1, 1) := by decide +kernel
theorem dX5_restore_105 : decode cX5_restore 105 = .ok (.ireturn, 1) := by decide +kernel
set_option maxRecDepth 20000 in
theorem ggX5_count_X5_layStems : GoodIn wsX5_count wsX5_layStems := goodIn_r _ [10, 3, 2, 11, 12, 13, 14, 15, 16, 17, 18, 9, 19, 20, 21, 22, 23, 24, 25, 26, 27, 28, 29, 30, 31, 32, 4, 33, 34, 5, 35, 36, 37, 38, 39, 40, 44, 45, 46, 47, 48, 49, 50, 51, 52, 53, 54, 55, 56, 57, 58, 59, 60, 61, 62, 63, 64, 65, 66] (by decide +kernel) (by decide +kernel)
set_option maxRecDepth 20000 in
theorem gX5_count_X5_layStems : GoodIn wsX5_count (wsV RX5 108 RX5 yX5_layStems wsX5_layStems) := goodIn_app (goodIn_of _ (by decide +kernel)) ggX5_count_X5_layStems
set_option maxRecDepth 20000 in
theorem ggX5_count_X5_in : GoodIn wsX5_count wsX5_in := goodIn_r _ [43] (by decide +kernel) (by decide +kernel)
set_option maxRecDepth 20000 in
theorem gX5_count_X5_in : GoodIn wsX5_count (va_wsS RX5 66 yX5_in wsX5_in) := goodIn_app (goodIn_of _ (by decide +kernel)) ggX5_count_X5_in
theorem dX5_count_0 : decode cX5_count 0 = .ok (.aload_n 0, 1) := by decide +kernel
theorem dX5_count_1 : decode cX5_count 1 = .ok (.invokevirtual 108, 3) := by decide +kernel
theorem dX5_count_4 : decode cX5_count 4 = .ok (.iload_n 1, 1) := by decide +kernel
theorem dX5_count_5 : decode cX5_count 5 = .ok (.tableswitch 51 0 3 #[31, 36, 41, 46], 31) := by decide +kernel
theorem dX5_count_36 : decode cX5_count 36 = .ok (.aload_n 0, 1) := by decide +kernel
theorem dX5_count_37 : decode cX5_count 37 = .ok (.getfield 70, 3) := by decide +kernel
theorem dX5_count_40 : decode cX5_count 40 = .ok (.ireturn, 1) := by decide +kernel
theorem dX5_count_41 : decode cX5_count 41 = .ok (.aload_n 0, 1) := by decide +kernel
theorem dX5_count_42 : decode cX5_count 42 = .ok (.getfield 82, 3) := by decide +kernel
theorem dX5_count_45 : decode cX5_count 45 = .ok (.ireturn, 1) := by decide +kernel
theorem dX5_count_46 : decode cX5_count 46 = .ok (.aload_n 0, 1) := by decide +kernel
theorem dX5_count_47 : decode cX5_count 47 = .ok (.getfield 89, 3) := by decide +kernel
theorem dX5_count_50 : decode cX5_count 50 = .ok (.ireturn, 1) := by decide +kernel
theorem dX5_count_51 : decode cX5_count 51 = .ok (.aload_n 0, 1) := by decide +kernel
theorem dX5_count_52 : decode cX5_count 52 = .ok (.getfield 102, 3) := by decide +kernel
theorem dX5_count_55 : decode cX5_count 55 = .ok (.ireturn, 1) := by decide +kernel
theorem dX5_count_56 : decode cX5_count 56 = .ok (.iload_n 1, 1) := by decide +kernel
theorem dX5_count_57 : decode cX5_count 57 = .ok (.iconst 4, 1) := by decide +kernel
theorem dX5_count_58 : decode cX5_count 58 = .ok (.bipush 8, 2) := by decide +kernel
theorem dX5_count_60 : decode cX5_count 60 = .ok (.invokestatic 66, 3) := by decide +kernel
theorem dX5_count_63 : decode cX5_count 63 = .ok (.ifCond .eq 14, 3) := by decide +kernel
theorem dX5_count_66 : decode cX5_count 66 = .ok (.aload_n 0, 1) := by decide +kernel
theorem dX5_count_67 : decode cX5_count 67 = .ok (.getfield 13, 3) := by decide +kernel
theorem dX5_count_70 : decode cX5_count 70 = .ok (.iload_n 1, 1) := by decide +kernel
theorem dX5_count_71 : decode cX5_count 71 = .ok (.iconst 4, 1) := by decide +kernel
theorem dX5_count_72 : decode cX5_count 72 = .ok (.isub, 1) := by decide +kernel
theorem dX5_count_73 : decode cX5_count 73 = .ok (.iaload, 1) := by decide +kernel
theorem dX5_count_74 : decode cX5_count 74 = .ok (.goto 5, 3) := by decide +kernel
theorem dX5_count_77 : decode cX5_count 77 = .ok (.bipush (-2), 2) := by decide +kernel
theorem dX5_count_79 : decode cX5_count 79 = .ok (.ireturn, 1) := by decide +kernel
end
section
theorem dL_law_0 : decode cL_law 0 = .ok (.new 7, 3) := by decide +kernel
theorem dL_law_3 : decode cL_law 3 = .ok (.dup, 1) := by decide +kernel
theorem dL_law_4 : decode cL_law 4 = .ok (.invokespecial 9, 3) := by decide +kernel
theorem dL_law_7 : decode cL_law 7 = .ok (.astore_n 1, 1) := by decide +kernel
theorem dL_law_8 : decode cL_law 8 = .ok (.new 10, 3) := by decide +kernel
theorem dL_law_11 : decode cL_law 11 = .ok (.dup, 1) := by decide +kernel
theorem dL_law_12 : decode cL_law 12 = .ok (.invokespecial 12, 3) := by decide +kernel
theorem dL_law_15 : decode cL_law 15 = .ok (.astore_n 2, 1) := by decide +kernel
theorem dL_law_16 : decode cL_law 16 = .ok (.iconst 0, 1) := by decide +kernel
theorem dL_law_17 : decode cL_law 17 = .ok (.istore_n 3, 1) := by decide +kernel
theorem dL_law_18 : decode cL_law 18 = .ok (.iload_n 3, 1) := by decide +kernel
theorem dL_law_19 : decode cL_law 19 = .ok (.aload_n 0, 1) := by decide +kernel
theorem dL_law_20 : decode cL_law 20 = .ok (.arraylength, 1) := by decide +kernel
theorem dL_law_21 : decode cL_law 21 = .ok (.iconst 3, 1) := by decide +kernel
theorem dL_law_22 : decode cL_law 22 = .ok (.isub, 1) := by decide +kernel
theorem dL_law_23 : decode cL_law 23 = .ok (.if_icmp .gt 605, 3) := by decide +kernel
theorem dL_law_26 : decode cL_law 26 = .ok (.aload_n 0, 1) := by decide +kernel
theorem dL_law_27 : decode cL_law 27 = .ok (.iload_n 3, 1) := by decide +kernel
theorem dL_law_28 : decode cL_law 28 = .ok (.iaload, 1) := by decide +kernel
theorem dL_law_29 : decode cL_law 29 = .ok (.bipush 31, 2) := by decide +kernel
theorem dL_law_31 : decode cL_law 31 = .ok (.iand, 1) := by decide +kernel
theorem dL_law_32 : decode cL_law 32 = .ok (.tableswitch 590 0 18 #[92, 115, 128, 141, 154, 177, 210, 243, 276, 309, 342, 375, 408, 432, 465, 488, 521, 544, 567], 92) := by decide +kernel
theorem dL_law_124 : decode cL_law 124 = .ok (.aload_n 1, 1) := by decide +kernel
theorem dL_law_125 : decode cL_law 125 = .ok (.aload_n 0, 1) := by decide +kernel
theorem dL_law_126 : decode cL_law 126 = .ok (.iload_n 3, 1) := by decide +kernel
theorem dL_law_127 : decode cL_law 127 = .ok (.iconst 1, 1) := by decide +kernel
theorem dL_law_128 : decode cL_law 128 = .ok (.iadd, 1) := by decide +kernel
theorem dL_law_129 : decode cL_law 129 = .ok (.iaload, 1) := by decide +kernel
theorem dL_law_130 : decode cL_law 130 = .ok (.invokevirtual 13, 3) := by decide +kernel
theorem dL_law_133 : decode cL_law 133 = .ok (.aload_n 2, 1) := by decide +kernel
theorem dL_law_134 : decode cL_law 134 = .ok (.aload_n 0, 1) := by decide +kernel
theorem dL_law_135 : decode cL_law 135 = .ok (.iload_n 3, 1) := by decide +kernel
theorem dL_law_136 : decode cL_law 136 = .ok (.iconst 1, 1) := by decide +kernel
theorem dL_law_137 : decode cL_law 137 = .ok (.iadd, 1) := by decide +kernel
theorem dL_law_138 : decode cL_law 138 = .ok (.iaload, 1) := by decide +kernel
theorem dL_law_139 : decode cL_law 139 = .ok (.invokevirtual 17, 3) := by decide +kernel
theorem dL_law_142 : decode cL_law 142 = .ok (.if_icmp .eq 480, 3) := by decide +kernel
theorem dL_law_145 : decode cL_law 145 = .ok (.iconst 0, 1) := by decide +kernel
theorem dL_law_146 : decode cL_law 146 = .ok (.ireturn, 1) := by decide +kernel
theorem dL_law_147 : decode cL_law 147 = .ok (.aload_n 1, 1) := by decide +kernel
theorem dL_law_148 : decode cL_law 148 = .ok (.invokevirtual 18, 3) := by decide +kernel
theorem dL_law_151 : decode cL_law 151 = .ok (.aload_n 2, 1) := by decide +kernel
theorem dL_law_152 : decode cL_law 152 = .ok (.invokevirtual 22, 3) := by decide +kernel
theorem dL_law_155 : decode cL_law 155 = .ok (.if_icmp .eq 467, 3) := by decide +kernel
theorem dL_law_158 : decode cL_law 158 = .ok (.iconst 0, 1) := by decide +kernel
theorem dL_law_159 : decode cL_law 159 = .ok (.ireturn, 1) := by decide +kernel
theorem dL_law_160 : decode cL_law 160 = .ok (.aload_n 1, 1) := by decide +kernel
theorem dL_law_161 : decode cL_law 161 = .ok (.invokevirtual 23, 3) := by decide +kernel
theorem dL_law_164 : decode cL_law 164 = .ok (.aload_n 2, 1) := by decide +kernel
theorem dL_law_165 : decode cL_law 165 = .ok (.invokevirtual 26, 3) := by decide +kernel
theorem dL_law_168 : decode cL_law 168 = .ok (.if_icmp .eq 454, 3) := by decide +kernel
theorem dL_law_171 : decode cL_law 171 = .ok (.iconst 0, 1) := by decide +kernel
theorem dL_law_172 : decode cL_law 172 = .ok (.ireturn, 1) := by decide +kernel
theorem dL_law_173 : decode cL_law 173 = .ok (.aload_n 1, 1) := by decide +kernel
theorem dL_law_174 : decode cL_law 174 = .ok (.invokevirtual 27, 3) := by decide +kernel
theorem dL_law_177 : decode cL_law 177 = .ok (.aload_n 2, 1) := by decide +kernel
theorem dL_law_178 : decode cL_law 178 = .ok (.invokevirtual 30, 3) := by decide +kernel
theorem dL_law_181 : decode cL_law 181 = .ok (.if_icmp .eq 441, 3) := by decide +kernel
theorem dL_law_184 : decode cL_law 184 = .ok (.iconst 0, 1) := by decide +kernel
theorem dL_law_185 : decode cL_law 185 = .ok (.ireturn, 1) := by decide +kernel
theorem dL_law_186 : decode cL_law 186 = .ok (.aload_n 1, 1) := by decide +kernel
theorem dL_law_187 : decode cL_law 187 = .ok (.aload_n 0, 1) := by decide +kernel
theorem dL_law_188 : decode cL_law 188 = .ok (.iload_n 3, 1) := by decide +kernel
theorem dL_law_189 : decode cL_law 189 = .ok (.iconst 1, 1) := by decide +kernel
theorem dL_law_190 : decode cL_law 190 = .ok (.iadd, 1) := by decide +kernel
theorem dL_law_191 : decode cL_law 191 = .ok (.iaload, 1) := by decide +kernel
theorem dL_law_192 : decode cL_law 192 = .ok (.invokevirtual 31, 3) := by decide +kernel
theorem dL_law_195 : decode cL_law 195 = .ok (.aload_n 2, 1) := by decide +kernel
theorem dL_law_196 : decode cL_law 196 = .ok (.aload_n 0, 1) := by decide +kernel
theorem dL_law_197 : decode cL_law 197 = .ok (.iload_n 3, 1) := by decide +kernel
theorem dL_law_198 : decode cL_law 198 = .ok (.iconst 1, 1) := by decide +kernel
theorem dL_law_199 : decode cL_law 199 = .ok (.iadd, 1) := by decide +kernel
theorem dL_law_200 : decode cL_law 200 = .ok (.iaload, 1) := by decide +kernel
theorem dL_law_201 : decode cL_law 201 = .ok (.invokevirtual 34, 3) := by decide +kernel
theorem dL_law_204 : decode cL_law 204 = .ok (.if_icmp .eq 418, 3) := by decide +kernel
theorem dL_law_207 : decode cL_law 207 = .ok (.iconst 0, 1) := by decide +kernel
theorem dL_law_208 : decode cL_law 208 = .ok (.ireturn, 1) := by decide +kernel
theorem dL_law_209 : decode cL_law 209 = .ok (.aload_n 1, 1) := by decide +kernel
theorem dL_law_210 : decode cL_law 210 = .ok (.aload_n 0, 1) := by decide +kernel
theorem dL_law_211 : decode cL_law 211 = .ok (.iload_n 3, 1) := by decide +kernel
theorem dL_law_212 : decode cL_law 212 = .ok (.iconst 1, 1) := by decide +kernel
theorem dL_law_213 : decode cL_law 213 = .ok (.iadd, 1) := by decide +kernel
theorem dL_law_214 : decode cL_law 214 = .ok (.iaload, 1) := by decide +kernel
theorem dL_law_215 : decode cL_law 215 = .ok (.aload_n 0, 1) := by decide +kernel
theorem dL_law_216 : decode cL_law 216 = .ok (.iload_n 3, 1) := by decide +kernel
theorem dL_law_217 : decode cL_law 217 = .ok (.iconst 2, 1) := by decide +kernel
theorem dL_law_218 : decode cL_law 218 = .ok (.iadd, 1) := by decide +kernel
theorem dL_law_219 : decode cL_law 219 = .ok (.iaload, 1) := by decide +kernel
theorem dL_law_220 : decode cL_law 220 = .ok (.invokevirtual 35, 3) := by decide +kernel
theorem dL_law_223 : decode cL_law 223 = .ok (.aload_n 2, 1) := by decide +kernel
theorem dL_law_224 : decode cL_law 224 = .ok (.aload_n 0, 1) := by decide +kernel
theorem dL_law_225 : decode cL_law 225 = .ok (.iload_n 3, 1) := by decide +kernel
theorem dL_law_226 : decode cL_law 226 = .ok (.iconst 1, 1) := by decide +kernel
theorem dL_law_227 : decode cL_law 227 = .ok (.iadd, 1) := by decide +kernel
theorem dL_law_228 : decode cL_law 228 = .ok (.iaload, 1) := by decide +kernel
theorem dL_law_229 : decode cL_law 229 = .ok (.aload_n 0, 1) := by decide +kernel
theorem dL_law_230 : decode cL_law 230 = .ok (.iload_n 3, 1) := by decide +kernel
theorem dL_law_231 : decode cL_law 231 = .ok (.iconst 2, 1) := by decide +kernel
theorem dL_law_232 : decode cL_law 232 = .ok (.iadd, 1) := by decide +kernel
theorem dL_law_233 : decode cL_law 233 = .ok (.iaload, 1) := by decide +kernel
theorem dL_law_234 : decode cL_law 234 = .ok (.invokevirtual 39, 3) := by decide +kernel
theorem dL_law_237 : decode cL_law 237 = .ok (.if_icmp .eq 385, 3) := by decide +kernel
theorem dL_law_240 : decode cL_law 240 = .ok (.iconst 0, 1) := by decide +kernel
theorem dL_law_241 : decode cL_law 241 = .ok (.ireturn, 1) := by decide +kernel
theorem dL_law_242 : decode cL_law 242 = .ok (.aload_n 1, 1) := by decide +kernel
theorem dL_law_243 : decode cL_law 243 = .ok (.aload_n 0, 1) := by decide +kernel
theorem dL_law_244 : decode cL_law 244 = .ok (.iload_n 3, 1) := by decide +kernel
theorem dL_law_245 : decode cL_law 245 = .ok (.iconst 1, 1) := by decide +kernel
theorem dL_law_246 : decode cL_law 246 = .ok (.iadd, 1) := by decide +kernel
theorem dL_law_247 : decode cL_law 247 = .ok (.iaload, 1) := by decide +kernel
theorem dL_law_248 : decode cL_law 248 = .ok (.aload_n 0, 1) := by decide +kernel
theorem dL_law_249 : decode cL_law 249 = .ok (.iload_n 3, 1) := by decide +kernel
theorem dL_law_250 : decode cL_law 250 = .ok (.iconst 2, 1) := by decide +kernel
theorem dL_law_251 : decode cL_law 251 = .ok (.iadd, 1) := by decide +kernel
theorem dL_law_252 : decode cL_law 252 = .ok (.iaload, 1) := by decide +kernel
theorem dL_law_253 : decode cL_law 253 = .ok (.invokevirtual 40, 3) := by decide +kernel
theorem dL_law_256 : decode cL_law 256 = .ok (.aload_n 2, 1) := by decide +kernel
theorem dL_law_257 : decode cL_law 257 = .ok (.aload_n 0, 1) := by decide +kernel
theorem dL_law_258 : decode cL_law 258 = .ok (.iload_n 3, 1) := by decide +kernel
theorem dL_law_259 : decode cL_law 259 = .ok (.iconst 1, 1) := by decide +kernel
theorem dL_law_260 : decode cL_law 260 = .ok (.iadd, 1) := by decide +kernel
theorem dL_law_261 : decode cL_law 261 = .ok (.iaload, 1) := by decide +kernel
theorem dL_law_262 : decode cL_law 262 = .ok (.aload_n 0, 1) := by decide +kernel
theorem dL_law_263 : decode cL_law 263 = .ok (.iload_n 3, 1) := by decide +kernel
theorem dL_law_264 : decode cL_law 264 = .ok (.iconst 2, 1) := by decide +kernel
theorem dL_law_265 : decode cL_law 265 = .ok (.iadd, 1) := by decide +kernel
theorem dL_law_266 : decode cL_law 266 = .ok (.iaload, 1) := by decide +kernel
theorem dL_law_267 : decode cL_law 267 = .ok (.invokevirtual 43, 3) := by decide +kernel
theorem dL_law_270 : decode cL_law 270 = .ok (.if_icmp .eq 352, 3) := by decide +kernel
theorem dL_law_273 : decode cL_law 273 = .ok (.iconst 0, 1) := by decide +kernel
theorem dL_law_274 : decode cL_law 274 = .ok (.ireturn, 1) := by decide +kernel
theorem dL_law_275 : decode cL_law 275 = .ok (.aload_n 1, 1) := by decide +kernel
theorem dL_law_276 : decode cL_law 276 = .ok (.aload_n 0, 1) := by decide +kernel
theorem dL_law_277 : decode cL_law 277 = .ok (.iload_n 3, 1) := by decide +kernel
theorem dL_law_278 : decode cL_law 278 = .ok (.iconst 1, 1) := by decide +kernel
theorem dL_law_279 : decode cL_law 279 = .ok (.iadd, 1) := by decide +kernel
theorem dL_law_280 : decode cL_law 280 = .ok (.iaload, 1) := by decide +kernel
theorem dL_law_281 : decode cL_law 281 = .ok (.aload_n 0, 1) := by decide +kernel
theorem dL_law_282 : decode cL_law 282 = .ok (.iload_n 3, 1) := by decide +kernel
theorem dL_law_283 : decode cL_law 283 = .ok (.iconst 2, 1) := by decide +kernel
end
section
theorem dL_law_284 : decode cL_law 284 = .ok (.iadd, 1) := by decide +kernel
theorem dL_law_285 : decode cL_law 285 = .ok (.iaload, 1) := by decide +kernel
theorem dL_law_286 : decode cL_law 286 = .ok (.invokevirtual 44, 3) := by decide +kernel
theorem dL_law_289 : decode cL_law 289 = .ok (.aload_n 2, 1) := by decide +kernel
theorem dL_law_290 : decode cL_law 290 = .ok (.aload_n 0, 1) := by decide +kernel
theorem dL_law_291 : decode cL_law 291 = .ok (.iload_n 3, 1) := by decide +kernel
theorem dL_law_292 : decode cL_law 292 = .ok (.iconst 1, 1) := by decide +kernel
theorem dL_law_293 : decode cL_law 293 = .ok (.iadd, 1) := by decide +kernel
theorem dL_law_294 : decode cL_law 294 = .ok (.iaload, 1) := by decide +kernel
theorem dL_law_295 : decode cL_law 295 = .ok (.aload_n 0, 1) := by decide +kernel
theorem dL_law_296 : decode cL_law 296 = .ok (.iload_n 3, 1) := by decide +kernel
theorem dL_law_297 : decode cL_law 297 = .ok (.iconst 2, 1) := by decide +kernel
theorem dL_law_298 : decode cL_law 298 = .ok (.iadd, 1) := by decide +kernel
theorem dL_law_299 : decode cL_law 299 = .ok (.iaload, 1) := by decide +kernel
theorem dL_law_300 : decode cL_law 300 = .ok (.invokevirtual 47, 3) := by decide +kernel
theorem dL_law_303 : decode cL_law 303 = .ok (.if_icmp .eq 319, 3) := by decide +kernel
theorem dL_law_306 : decode cL_law 306 = .ok (.iconst 0, 1) := by decide +kernel
theorem dL_law_307 : decode cL_law 307 = .ok (.ireturn, 1) := by decide +kernel
theorem dL_law_308 : decode cL_law 308 = .ok (.aload_n 1, 1) := by decide +kernel
theorem dL_law_309 : decode cL_law 309 = .ok (.aload_n 0, 1) := by decide +kernel
theorem dL_law_310 : decode cL_law 310 = .ok (.iload_n 3, 1) := by decide +kernel
theorem dL_law_311 : decode cL_law 311 = .ok (.iconst 1, 1) := by decide +kernel
theorem dL_law_312 : decode cL_law 312 = .ok (.iadd, 1) := by decide +kernel
theorem dL_law_313 : decode cL_law 313 = .ok (.iaload, 1) := by decide +kernel
theorem dL_law_314 : decode cL_law 314 = .ok (.aload_n 0, 1) := by decide +kernel
theorem dL_law_315 : decode cL_law 315 = .ok (.iload_n 3, 1) := by decide +kernel
theorem dL_law_316 : decode cL_law 316 = .ok (.iconst 2, 1) := by decide +kernel
theorem dL_law_317 : decode cL_law 317 = .ok (.iadd, 1) := by decide +kernel
theorem dL_law_318 : decode cL_law 318 = .ok (.iaload, 1) := by decide +kernel
theorem dL_law_319 : decode cL_law 319 = .ok (.invokevirtual 48, 3) := by decide +kernel
theorem dL_law_322 : decode cL_law 322 = .ok (.aload_n 2, 1) := by decide +kernel
theorem dL_law_323 : decode cL_law 323 = .ok (.aload_n 0, 1) := by decide +kernel
theorem dL_law_324 : decode cL_law 324 = .ok (.iload_n 3, 1) := by decide +kernel
theorem dL_law_325 : decode cL_law 325 = .ok (.iconst 1, 1) := by decide +kernel
theorem dL_law_326 : decode cL_law 326 = .ok (.iadd, 1) := by decide +kernel
theorem dL_law_327 : decode cL_law 327 = .ok (.iaload, 1) := by decide +kernel
theorem dL_law_328 : decode cL_law 328 = .ok (.aload_n 0, 1) := by decide +kernel
theorem dL_law_329 : decode cL_law 329 = .ok (.iload_n 3, 1) := by decide +kernel
theorem dL_law_330 : decode cL_law 330 = .ok (.iconst 2, 1) := by decide +kernel
theorem dL_law_331 : decode cL_law 331 = .ok (.iadd, 1) := by decide +kernel
theorem dL_law_332 : decode cL_law 332 = .ok (.iaload, 1) := by decide +kernel
theorem dL_law_333 : decode cL_law 333 = .ok (.invokevirtual 51, 3) := by decide +kernel
theorem dL_law_336 : decode cL_law 336 = .ok (.if_icmp .eq 286, 3) := by decide +kernel
theorem dL_law_339 : decode cL_law 339 = .ok (.iconst 0, 1) := by decide +kernel
theorem dL_law_340 : decode cL_law 340 = .ok (.ireturn, 1) := by decide +kernel
theorem dL_law_341 : decode cL_law 341 = .ok (.aload_n 1, 1) := by decide +kernel
theorem dL_law_342 : decode cL_law 342 = .ok (.aload_n 0, 1) := by decide +kernel
theorem dL_law_343 : decode cL_law 343 = .ok (.iload_n 3, 1) := by decide +kernel
theorem dL_law_344 : decode cL_law 344 = .ok (.iconst 1, 1) := by decide +kernel
theorem dL_law_345 : decode cL_law 345 = .ok (.iadd, 1) := by decide +kernel
theorem dL_law_346 : decode cL_law 346 = .ok (.iaload, 1) := by decide +kernel
theorem dL_law_347 : decode cL_law 347 = .ok (.aload_n 0, 1) := by decide +kernel
theorem dL_law_348 : decode cL_law 348 = .ok (.iload_n 3, 1) := by decide +kernel
theorem dL_law_349 : decode cL_law 349 = .ok (.iconst 2, 1) := by decide +kernel
theorem dL_law_350 : decode cL_law 350 = .ok (.iadd, 1) := by decide +kernel
theorem dL_law_351 : decode cL_law 351 = .ok (.iaload, 1) := by decide +kernel
theorem dL_law_352 : decode cL_law 352 = .ok (.invokevirtual 52, 3) := by decide +kernel
theorem dL_law_355 : decode cL_law 355 = .ok (.aload_n 2, 1) := by decide +kernel
theorem dL_law_356 : decode cL_law 356 = .ok (.aload_n 0, 1) := by decide +kernel
theorem dL_law_357 : decode cL_law 357 = .ok (.iload_n 3, 1) := by decide +kernel
theorem dL_law_358 : decode cL_law 358 = .ok (.iconst 1, 1) := by decide +kernel
theorem dL_law_359 : decode cL_law 359 = .ok (.iadd, 1) := by decide +kernel
theorem dL_law_360 : decode cL_law 360 = .ok (.iaload, 1) := by decide +kernel
theorem dL_law_361 : decode cL_law 361 = .ok (.aload_n 0, 1) := by decide +kernel
theorem dL_law_362 : decode cL_law 362 = .ok (.iload_n 3, 1) := by decide +kernel
theorem dL_law_363 : decode cL_law 363 = .ok (.iconst 2, 1) := by decide +kernel
theorem dL_law_364 : decode cL_law 364 = .ok (.iadd, 1) := by decide +kernel
theorem dL_law_365 : decode cL_law 365 = .ok (.iaload, 1) := by decide +kernel
theorem dL_law_366 : decode cL_law 366 = .ok (.invokevirtual 55, 3) := by decide +kernel
theorem dL_law_369 : decode cL_law 369 = .ok (.if_icmp .eq 253, 3) := by decide +kernel
theorem dL_law_372 : decode cL_law 372 = .ok (.iconst 0, 1) := by decide +kernel
theorem dL_law_373 : decode cL_law 373 = .ok (.ireturn, 1) := by decide +kernel
theorem dL_law_374 : decode cL_law 374 = .ok (.aload_n 1, 1) := by decide +kernel
theorem dL_law_375 : decode cL_law 375 = .ok (.aload_n 0, 1) := by decide +kernel
theorem dL_law_376 : decode cL_law 376 = .ok (.iload_n 3, 1) := by decide +kernel
theorem dL_law_377 : decode cL_law 377 = .ok (.iconst 1, 1) := by decide +kernel
theorem dL_law_378 : decode cL_law 378 = .ok (.iadd, 1) := by decide +kernel
theorem dL_law_379 : decode cL_law 379 = .ok (.iaload, 1) := by decide +kernel
theorem dL_law_380 : decode cL_law 380 = .ok (.aload_n 0, 1) := by decide +kernel
theorem dL_law_381 : decode cL_law 381 = .ok (.iload_n 3, 1) := by decide +kernel
theorem dL_law_382 : decode cL_law 382 = .ok (.iconst 2, 1) := by decide +kernel
theorem dL_law_383 : decode cL_law 383 = .ok (.iadd, 1) := by decide +kernel
theorem dL_law_384 : decode cL_law 384 = .ok (.iaload, 1) := by decide +kernel
theorem dL_law_385 : decode cL_law 385 = .ok (.invokevirtual 56, 3) := by decide +kernel
theorem dL_law_388 : decode cL_law 388 = .ok (.aload_n 2, 1) := by decide +kernel
theorem dL_law_389 : decode cL_law 389 = .ok (.aload_n 0, 1) := by decide +kernel
theorem dL_law_390 : decode cL_law 390 = .ok (.iload_n 3, 1) := by decide +kernel
theorem dL_law_391 : decode cL_law 391 = .ok (.iconst 1, 1) := by decide +kernel
theorem dL_law_392 : decode cL_law 392 = .ok (.iadd, 1) := by decide +kernel
theorem dL_law_393 : decode cL_law 393 = .ok (.iaload, 1) := by decide +kernel
theorem dL_law_394 : decode cL_law 394 = .ok (.aload_n 0, 1) := by decide +kernel
theorem dL_law_395 : decode cL_law 395 = .ok (.iload_n 3, 1) := by decide +kernel
theorem dL_law_396 : decode cL_law 396 = .ok (.iconst 2, 1) := by decide +kernel
theorem dL_law_397 : decode cL_law 397 = .ok (.iadd, 1) := by decide +kernel
theorem dL_law_398 : decode cL_law 398 = .ok (.iaload, 1) := by decide +kernel
theorem dL_law_399 : decode cL_law 399 = .ok (.invokevirtual 59, 3) := by decide +kernel
theorem dL_law_402 : decode cL_law 402 = .ok (.if_icmp .eq 220, 3) := by decide +kernel
theorem dL_law_405 : decode cL_law 405 = .ok (.iconst 0, 1) := by decide +kernel
theorem dL_law_406 : decode cL_law 406 = .ok (.ireturn, 1) := by decide +kernel
theorem dL_law_407 : decode cL_law 407 = .ok (.aload_n 1, 1) := by decide +kernel
theorem dL_law_408 : decode cL_law 408 = .ok (.aload_n 0, 1) := by decide +kernel
theorem dL_law_409 : decode cL_law 409 = .ok (.iload_n 3, 1) := by decide +kernel
theorem dL_law_410 : decode cL_law 410 = .ok (.iconst 1, 1) := by decide +kernel
theorem dL_law_411 : decode cL_law 411 = .ok (.iadd, 1) := by decide +kernel
theorem dL_law_412 : decode cL_law 412 = .ok (.iaload, 1) := by decide +kernel
theorem dL_law_413 : decode cL_law 413 = .ok (.aload_n 0, 1) := by decide +kernel
theorem dL_law_414 : decode cL_law 414 = .ok (.iload_n 3, 1) := by decide +kernel
theorem dL_law_415 : decode cL_law 415 = .ok (.iconst 2, 1) := by decide +kernel
theorem dL_law_416 : decode cL_law 416 = .ok (.iadd, 1) := by decide +kernel
theorem dL_law_417 : decode cL_law 417 = .ok (.iaload, 1) := by decide +kernel
theorem dL_law_418 : decode cL_law 418 = .ok (.invokevirtual 60, 3) := by decide +kernel
theorem dL_law_421 : decode cL_law 421 = .ok (.aload_n 2, 1) := by decide +kernel
theorem dL_law_422 : decode cL_law 422 = .ok (.aload_n 0, 1) := by decide +kernel
theorem dL_law_423 : decode cL_law 423 = .ok (.iload_n 3, 1) := by decide +kernel
theorem dL_law_424 : decode cL_law 424 = .ok (.iconst 1, 1) := by decide +kernel
theorem dL_law_425 : decode cL_law 425 = .ok (.iadd, 1) := by decide +kernel
theorem dL_law_426 : decode cL_law 426 = .ok (.iaload, 1) := by decide +kernel
theorem dL_law_427 : decode cL_law 427 = .ok (.aload_n 0, 1) := by decide +kernel
theorem dL_law_428 : decode cL_law 428 = .ok (.iload_n 3, 1) := by decide +kernel
theorem dL_law_429 : decode cL_law 429 = .ok (.iconst 2, 1) := by decide +kernel
theorem dL_law_430 : decode cL_law 430 = .ok (.iadd, 1) := by decide +kernel
theorem dL_law_431 : decode cL_law 431 = .ok (.iaload, 1) := by decide +kernel
theorem dL_law_432 : decode cL_law 432 = .ok (.invokevirtual 63, 3) := by decide +kernel
theorem dL_law_435 : decode cL_law 435 = .ok (.if_icmp .eq 187, 3) := by decide +kernel
theorem dL_law_438 : decode cL_law 438 = .ok (.iconst 0, 1) := by decide +kernel
theorem dL_law_439 : decode cL_law 439 = .ok (.ireturn, 1) := by decide +kernel
theorem dL_law_440 : decode cL_law 440 = .ok (.aload_n 1, 1) := by decide +kernel
theorem dL_law_441 : decode cL_law 441 = .ok (.aload_n 0, 1) := by decide +kernel
theorem dL_law_442 : decode cL_law 442 = .ok (.iload_n 3, 1) := by decide +kernel
theorem dL_law_443 : decode cL_law 443 = .ok (.iconst 1, 1) := by decide +kernel
theorem dL_law_444 : decode cL_law 444 = .ok (.iadd, 1) := by decide +kernel
theorem dL_law_445 : decode cL_law 445 = .ok (.iaload, 1) := by decide +kernel
theorem dL_law_446 : decode cL_law 446 = .ok (.invokevirtual 64, 3) := by decide +kernel
theorem dL_law_449 : decode cL_law 449 = .ok (.aload_n 2, 1) := by decide +kernel
theorem dL_law_450 : decode cL_law 450 = .ok (.aload_n 0, 1) := by decide +kernel
theorem dL_law_451 : decode cL_law 451 = .ok (.iload_n 3, 1) := by decide +kernel
theorem dL_law_452 : decode cL_law 452 = .ok (.iconst 1, 1) := by decide +kernel
theorem dL_law_453 : decode cL_law 453 = .ok (.iadd, 1) := by decide +kernel
theorem dL_law_454 : decode cL_law 454 = .ok (.iaload, 1) := by decide +kernel
theorem dL_law_455 : decode cL_law 455 = .ok (.invokevirtual 68, 3) := by decide +kernel
end
section
theorem dL_law_458 : decode cL_law 458 = .ok (.lcmp, 1) := by decide +kernel
theorem dL_law_459 : decode cL_law 459 = .ok (.ifCond .eq 163, 3) := by decide +kernel
theorem dL_law_462 : decode cL_law 462 = .ok (.iconst 0, 1) := by decide +kernel
theorem dL_law_463 : decode cL_law 463 = .ok (.ireturn, 1) := by decide +kernel
theorem dL_law_464 : decode cL_law 464 = .ok (.aload_n 1, 1) := by decide +kernel
theorem dL_law_465 : decode cL_law 465 = .ok (.aload_n 0, 1) := by decide +kernel
theorem dL_law_466 : decode cL_law 466 = .ok (.iload_n 3, 1) := by decide +kernel
theorem dL_law_467 : decode cL_law 467 = .ok (.iconst 1, 1) := by decide +kernel
theorem dL_law_468 : decode cL_law 468 = .ok (.iadd, 1) := by decide +kernel
theorem dL_law_469 : decode cL_law 469 = .ok (.iaload, 1) := by decide +kernel
theorem dL_law_470 : decode cL_law 470 = .ok (.aload_n 0, 1) := by decide +kernel
theorem dL_law_471 : decode cL_law 471 = .ok (.iload_n 3, 1) := by decide +kernel
theorem dL_law_472 : decode cL_law 472 = .ok (.iconst 2, 1) := by decide +kernel
theorem dL_law_473 : decode cL_law 473 = .ok (.iadd, 1) := by decide +kernel
theorem dL_law_474 : decode cL_law 474 = .ok (.iaload, 1) := by decide +kernel
theorem dL_law_475 : decode cL_law 475 = .ok (.invokevirtual 69, 3) := by decide +kernel
theorem dL_law_478 : decode cL_law 478 = .ok (.aload_n 2, 1) := by decide +kernel
theorem dL_law_479 : decode cL_law 479 = .ok (.aload_n 0, 1) := by decide +kernel
theorem dL_law_480 : decode cL_law 480 = .ok (.iload_n 3, 1) := by decide +kernel
theorem dL_law_481 : decode cL_law 481 = .ok (.iconst 1, 1) := by decide +kernel
theorem dL_law_482 : decode cL_law 482 = .ok (.iadd, 1) := by decide +kernel
theorem dL_law_483 : decode cL_law 483 = .ok (.iaload, 1) := by decide +kernel
theorem dL_law_484 : decode cL_law 484 = .ok (.aload_n 0, 1) := by decide +kernel
theorem dL_law_485 : decode cL_law 485 = .ok (.iload_n 3, 1) := by decide +kernel
theorem dL_law_486 : decode cL_law 486 = .ok (.iconst 2, 1) := by decide +kernel
theorem dL_law_487 : decode cL_law 487 = .ok (.iadd, 1) := by decide +kernel
theorem dL_law_488 : decode cL_law 488 = .ok (.iaload, 1) := by decide +kernel
theorem dL_law_489 : decode cL_law 489 = .ok (.invokevirtual 72, 3) := by decide +kernel
theorem dL_law_492 : decode cL_law 492 = .ok (.if_icmp .eq 130, 3) := by decide +kernel
theorem dL_law_495 : decode cL_law 495 = .ok (.iconst 0, 1) := by decide +kernel
theorem dL_law_496 : decode cL_law 496 = .ok (.ireturn, 1) := by decide +kernel
theorem dL_law_497 : decode cL_law 497 = .ok (.aload_n 1, 1) := by decide +kernel
theorem dL_law_498 : decode cL_law 498 = .ok (.aload_n 0, 1) := by decide +kernel
theorem dL_law_499 : decode cL_law 499 = .ok (.iload_n 3, 1) := by decide +kernel
theorem dL_law_500 : decode cL_law 500 = .ok (.iconst 1, 1) := by decide +kernel
theorem dL_law_501 : decode cL_law 501 = .ok (.iadd, 1) := by decide +kernel
theorem dL_law_502 : decode cL_law 502 = .ok (.iaload, 1) := by decide +kernel
theorem dL_law_503 : decode cL_law 503 = .ok (.invokevirtual 73, 3) := by decide +kernel
theorem dL_law_506 : decode cL_law 506 = .ok (.aload_n 2, 1) := by decide +kernel
theorem dL_law_507 : decode cL_law 507 = .ok (.aload_n 0, 1) := by decide +kernel
theorem dL_law_508 : decode cL_law 508 = .ok (.iload_n 3, 1) := by decide +kernel
theorem dL_law_509 : decode cL_law 509 = .ok (.iconst 1, 1) := by decide +kernel
theorem dL_law_510 : decode cL_law 510 = .ok (.iadd, 1) := by decide +kernel
theorem dL_law_511 : decode cL_law 511 = .ok (.iaload, 1) := by decide +kernel
theorem dL_law_512 : decode cL_law 512 = .ok (.invokevirtual 76, 3) := by decide +kernel
theorem dL_law_515 : decode cL_law 515 = .ok (.if_icmp .eq 107, 3) := by decide +kernel
theorem dL_law_518 : decode cL_law 518 = .ok (.iconst 0, 1) := by decide +kernel
theorem dL_law_519 : decode cL_law 519 = .ok (.ireturn, 1) := by decide +kernel
theorem dL_law_520 : decode cL_law 520 = .ok (.aload_n 1, 1) := by decide +kernel
theorem dL_law_521 : decode cL_law 521 = .ok (.aload_n 0, 1) := by decide +kernel
theorem dL_law_522 : decode cL_law 522 = .ok (.iload_n 3, 1) := by decide +kernel
theorem dL_law_523 : decode cL_law 523 = .ok (.iconst 1, 1) := by decide +kernel
theorem dL_law_524 : decode cL_law 524 = .ok (.iadd, 1) := by decide +kernel
theorem dL_law_525 : decode cL_law 525 = .ok (.iaload, 1) := by decide +kernel
theorem dL_law_526 : decode cL_law 526 = .ok (.aload_n 0, 1) := by decide +kernel
theorem dL_law_527 : decode cL_law 527 = .ok (.iload_n 3, 1) := by decide +kernel
theorem dL_law_528 : decode cL_law 528 = .ok (.iconst 2, 1) := by decide +kernel
theorem dL_law_529 : decode cL_law 529 = .ok (.iadd, 1) := by decide +kernel
theorem dL_law_530 : decode cL_law 530 = .ok (.iaload, 1) := by decide +kernel
theorem dL_law_531 : decode cL_law 531 = .ok (.invokevirtual 77, 3) := by decide +kernel
theorem dL_law_534 : decode cL_law 534 = .ok (.aload_n 2, 1) := by decide +kernel
theorem dL_law_535 : decode cL_law 535 = .ok (.aload_n 0, 1) := by decide +kernel
theorem dL_law_536 : decode cL_law 536 = .ok (.iload_n 3, 1) := by decide +kernel
theorem dL_law_537 : decode cL_law 537 = .ok (.iconst 1, 1) := by decide +kernel
theorem dL_law_538 : decode cL_law 538 = .ok (.iadd, 1) := by decide +kernel
theorem dL_law_539 : decode cL_law 539 = .ok (.iaload, 1) := by decide +kernel
theorem dL_law_540 : decode cL_law 540 = .ok (.aload_n 0, 1) := by decide +kernel
theorem dL_law_541 : decode cL_law 541 = .ok (.iload_n 3, 1) := by decide +kernel
theorem dL_law_542 : decode cL_law 542 = .ok (.iconst 2, 1) := by decide +kernel
theorem dL_law_543 : decode cL_law 543 = .ok (.iadd, 1) := by decide +kernel
theorem dL_law_544 : decode cL_law 544 = .ok (.iaload, 1) := by decide +kernel
theorem dL_law_545 : decode cL_law 545 = .ok (.invokevirtual 80, 3) := by decide +kernel
theorem dL_law_548 : decode cL_law 548 = .ok (.if_icmp .eq 74, 3) := by decide +kernel
theorem dL_law_551 : decode cL_law 551 = .ok (.iconst 0, 1) := by decide +kernel
theorem dL_law_552 : decode cL_law 552 = .ok (.ireturn, 1) := by decide +kernel
theorem dL_law_553 : decode cL_law 553 = .ok (.aload_n 1, 1) := by decide +kernel
theorem dL_law_554 : decode cL_law 554 = .ok (.aload_n 0, 1) := by decide +kernel
theorem dL_law_555 : decode cL_law 555 = .ok (.iload_n 3, 1) := by decide +kernel
theorem dL_law_556 : decode cL_law 556 = .ok (.iconst 1, 1) := by decide +kernel
theorem dL_law_557 : decode cL_law 557 = .ok (.iadd, 1) := by decide +kernel
theorem dL_law_558 : decode cL_law 558 = .ok (.iaload, 1) := by decide +kernel
theorem dL_law_559 : decode cL_law 559 = .ok (.invokevirtual 81, 3) := by decide +kernel
theorem dL_law_562 : decode cL_law 562 = .ok (.aload_n 2, 1) := by decide +kernel
theorem dL_law_563 : decode cL_law 563 = .ok (.aload_n 0, 1) := by decide +kernel
theorem dL_law_564 : decode cL_law 564 = .ok (.iload_n 3, 1) := by decide +kernel
theorem dL_law_565 : decode cL_law 565 = .ok (.iconst 1, 1) := by decide +kernel
theorem dL_law_566 : decode cL_law 566 = .ok (.iadd, 1) := by decide +kernel
theorem dL_law_567 : decode cL_law 567 = .ok (.iaload, 1) := by decide +kernel
theorem dL_law_568 : decode cL_law 568 = .ok (.invokevirtual 84, 3) := by decide +kernel
theorem dL_law_571 : decode cL_law 571 = .ok (.if_icmp .eq 51, 3) := by decide +kernel
theorem dL_law_574 : decode cL_law 574 = .ok (.iconst 0, 1) := by decide +kernel
theorem dL_law_575 : decode cL_law 575 = .ok (.ireturn, 1) := by decide +kernel
theorem dL_law_576 : decode cL_law 576 = .ok (.aload_n 1, 1) := by decide +kernel
theorem dL_law_577 : decode cL_law 577 = .ok (.aload_n 0, 1) := by decide +kernel
theorem dL_law_578 : decode cL_law 578 = .ok (.iload_n 3, 1) := by decide +kernel
theorem dL_law_579 : decode cL_law 579 = .ok (.iconst 1, 1) := by decide +kernel
theorem dL_law_580 : decode cL_law 580 = .ok (.iadd, 1) := by decide +kernel
theorem dL_law_581 : decode cL_law 581 = .ok (.iaload, 1) := by decide +kernel
theorem dL_law_582 : decode cL_law 582 = .ok (.invokevirtual 85, 3) := by decide +kernel
theorem dL_law_585 : decode cL_law 585 = .ok (.aload_n 2, 1) := by decide +kernel
theorem dL_law_586 : decode cL_law 586 = .ok (.aload_n 0, 1) := by decide +kernel
theorem dL_law_587 : decode cL_law 587 = .ok (.iload_n 3, 1) := by decide +kernel
theorem dL_law_588 : decode cL_law 588 = .ok (.iconst 1, 1) := by decide +kernel
theorem dL_law_589 : decode cL_law 589 = .ok (.iadd, 1) := by decide +kernel
theorem dL_law_590 : decode cL_law 590 = .ok (.iaload, 1) := by decide +kernel
theorem dL_law_591 : decode cL_law 591 = .ok (.invokevirtual 88, 3) := by decide +kernel
theorem dL_law_594 : decode cL_law 594 = .ok (.if_icmp .eq 28, 3) := by decide +kernel
theorem dL_law_597 : decode cL_law 597 = .ok (.iconst 0, 1) := by decide +kernel
theorem dL_law_598 : decode cL_law 598 = .ok (.ireturn, 1) := by decide +kernel
theorem dL_law_599 : decode cL_law 599 = .ok (.aload_n 1, 1) := by decide +kernel
theorem dL_law_600 : decode cL_law 600 = .ok (.aload_n 0, 1) := by decide +kernel
theorem dL_law_601 : decode cL_law 601 = .ok (.iload_n 3, 1) := by decide +kernel
theorem dL_law_602 : decode cL_law 602 = .ok (.iconst 1, 1) := by decide +kernel
theorem dL_law_603 : decode cL_law 603 = .ok (.iadd, 1) := by decide +kernel
theorem dL_law_604 : decode cL_law 604 = .ok (.iaload, 1) := by decide +kernel
theorem dL_law_605 : decode cL_law 605 = .ok (.invokevirtual 89, 3) := by decide +kernel
theorem dL_law_608 : decode cL_law 608 = .ok (.aload_n 2, 1) := by decide +kernel
theorem dL_law_609 : decode cL_law 609 = .ok (.aload_n 0, 1) := by decide +kernel
theorem dL_law_610 : decode cL_law 610 = .ok (.iload_n 3, 1) := by decide +kernel
theorem dL_law_611 : decode cL_law 611 = .ok (.iconst 1, 1) := by decide +kernel
theorem dL_law_612 : decode cL_law 612 = .ok (.iadd, 1) := by decide +kernel
theorem dL_law_613 : decode cL_law 613 = .ok (.iaload, 1) := by decide +kernel
theorem dL_law_614 : decode cL_law 614 = .ok (.invokevirtual 92, 3) := by decide +kernel
theorem dL_law_617 : decode cL_law 617 = .ok (.if_icmp .eq 5, 3) := by decide +kernel
theorem dL_law_620 : decode cL_law 620 = .ok (.iconst 0, 1) := by decide +kernel
theorem dL_law_621 : decode cL_law 621 = .ok (.ireturn, 1) := by decide +kernel
theorem dL_law_622 : decode cL_law 622 = .ok (.iinc 3 3, 3) := by decide +kernel
theorem dL_law_625 : decode cL_law 625 = .ok (.goto (-607), 3) := by decide +kernel
theorem dL_law_628 : decode cL_law 628 = .ok (.iconst 1, 1) := by decide +kernel
theorem dL_law_629 : decode cL_law 629 = .ok (.ireturn, 1) := by decide +kernel
end
section
/-! ===== the reference: small methods ===== -/
def q5_say (M : Mem) (v : Int) : Int → Mem → Prop := fun z M' => (¬ (33 ≤ v ∧ v ≤ 126) ∧ z = -2 ∧ M' = M) ∨ ((33 ≤ v ∧ v ≤ 126) ∧ M 0 3 = 30 ∧ z = -4 ∧ M' = M) ∨ ((33 ≤ v ∧ v ≤ 126) ∧ M 0 3 ≠ 30 ∧ z = M 0 3 + 1 ∧ M' = sc (sc M 0 (upf (M 0) 3 (M 0 3 + 1))) 3 (upf (M 3) (M 0 3) v))
set_option maxHeartbeats 4000000 in
set_option maxRecDepth 100000 in
theorem c5_in (l : Launch) (v lo hi : Int) (hv : -2147483648 ≤ v ∧ v < 2147483648) (hl : -2147483648 ≤ lo ∧ lo < 2147483648) (hh : -2147483648 ≤ hi ∧ hi < 2147483648) : CtP l yX5_in wsX5_in ({ frames := 0, cells := 0, slots := 0, locals := 0 } : Room) [.int (iI v), .int (iI lo), .int (iI hi)] (zC (lo ≤ v ∧ v ≤ hi)) := by
  refine CtP.of (y := yX5_in) (cc := cX5_in) (maxL := 3) (ret := (some .boolean)) (lv := [some (.int (iI v)), some (.int (iI lo)), some (.int (iI hi))]) (by decide) rfl (Nat.le_of_ble_eq_true rfl) (lvOK_of _ _ ⟨rfl, rfl⟩) ?_
  intro p e s m below meth c D F hr hlk
  refine g_iload_n F (pc' := 1) dX5_in_0 rfl rfl ?_
  refine g_iload_n F (pc' := 2) dX5_in_1 rfl rfl ?_
  refine g_icmp_lt F (pc' := 5) (tgt := 14) dX5_in_2 rfl (by decide) (by omega) (by omega) (fun c_2 => ?_) (fun c_2 => ?_)
  · skip
    refine g_iconst F (pc' := 15) dX5_in_14 rfl ?_
    exact g_pzret F hr hlk dX5_in_15 (Or.inl rfl) (by first | exact (zC_t (by omega)).symm | exact (zC_f (by omega)).symm)
  · skip
    refine g_iload_n F (pc' := 6) dX5_in_5 rfl rfl ?_
    refine g_iload_n F (pc' := 7) dX5_in_6 rfl rfl ?_
    refine g_icmp_gt F (pc' := 10) (tgt := 14) dX5_in_7 rfl (by decide) (by omega) (by omega) (fun c_7 => ?_) (fun c_7 => ?_)
    · skip
      refine g_iconst F (pc' := 15) dX5_in_14 rfl ?_
      exact g_pzret F hr hlk dX5_in_15 (Or.inl rfl) (by first | exact (zC_t (by omega)).symm | exact (zC_f (by omega)).symm)
    · skip
      refine g_iconst F (pc' := 11) dX5_in_10 rfl ?_
      refine g_goto F (tgt := 15) dX5_in_11 (by decide) ?_
      exact g_pzret F hr hlk dX5_in_15 (Or.inr rfl) (by first | exact (zC_t (by omega)).symm | exact (zC_f (by omega)).symm)

set_option maxHeartbeats 4000000 in
set_option maxRecDepth 100000 in
theorem c5_isFigure (l : Launch) (v : Int) (hv : -2147483648 ≤ v ∧ v < 2147483648) : CtP l yX5_isFigure wsX5_isFigure ({ frames := 1, cells := 0, slots := 0, locals := 22 } : Room) [.int (iI v)] (zC (48 ≤ v ∧ v ≤ 57)) := by
  refine CtP.of (y := yX5_isFigure) (cc := cX5_isFigure) (maxL := 1) (ret := (some .boolean)) (lv := [some (.int (iI v))]) (by decide) rfl (Nat.le_of_ble_eq_true rfl) (lvOK_of _ _ ⟨rfl, rfl⟩) ?_
  intro p e s m below meth c D F hr hlk
  refine g_iload_n F (pc' := 1) dX5_isFigure_0 rfl rfl ?_
  refine g_bipush F (pc' := 3) dX5_isFigure_1 rfl (by decide +kernel) ?_
  refine g_bipush F (pc' := 5) dX5_isFigure_3 rfl (by decide +kernel) ?_
  refine g_callP F (pc' := 8) (st := []) (c5_in l v 48 57 (by omega) (by omega) (by omega)) (va_cwS 3 F.2.2.2.2 gX5_isFigure_X5_in rfl rfl rfl (by decide +kernel) ⟨Nat.le_of_ble_eq_true rfl, Nat.le_of_ble_eq_true rfl⟩) rfl rfl (Nat.le_of_ble_eq_true rfl) dX5_isFigure_5 rfl ?_
  exact g_pzret F hr hlk dX5_isFigure_8 (zC_01 _) rfl

theorem iX5_say_X5 : ∀ w ∈ wsX50, w ∈ wsX5_say := fun _ h => List.mem_cons_of_mem _ (List.mem_append_right _ h)
set_option maxHeartbeats 4000000 in
set_option maxRecDepth 100000 in
theorem c5_say (l : Launch) (a : Nat → Nat) (M : Mem) (v : Int) (hv : -2147483648 ≤ v ∧ v < 2147483648) (hs : 0 ≤ M 0 3 ∧ M 0 3 ≤ 30) : CtI XT l yX5_say wsX5_say ({ frames := 1, cells := 0, slots := 0, locals := 22 } : Room) LR a M [.ref (a 0), .int (iI v)] (q5_say M v) := by
  refine CtI.of (y := yX5_say) (cc := cX5_say) (maxL := 2) (ret := (some .int)) (lv := [some (.ref (a 0)), some (.int (iI v))]) (by decide) rfl (Nat.le_of_ble_eq_true rfl) (lvOK_of _ _ ⟨rfl, rfl⟩) ?_
  intro p e s m below meth c D T F K X0 hr hlk
  have hXc := XT_c
  refine g_iload_n F (pc' := 1) dX5_say_0 rfl rfl ?_
  refine g_bipush F (pc' := 3) dX5_say_1 rfl (by decide +kernel) ?_
  refine g_bipush F (pc' := 5) dX5_say_3 rfl (by decide +kernel) ?_
  refine g_callP F (pc' := 8) (st := []) (c5_in l v 33 126 (by omega) (by omega) (by omega)) (va_cwS 3 F.2.2.2.2 gX5_say_X5_in rfl rfl rfl (by decide +kernel) ⟨Nat.le_of_ble_eq_true rfl, Nat.le_of_ble_eq_true rfl⟩) rfl rfl (Nat.le_of_ble_eq_true rfl) dX5_say_5 rfl ?_
  refine g_if_ne F (pc' := 11) (tgt := 14) dX5_say_8 rfl (by decide) (zC_R _) (fun c_8 => ?_) (fun c_8 => ?_)
  · skip
    have c_8 := zC_1 c_8
    refine g_aload_n F (pc' := 15) dX5_say_14 rfl rfl ?_
    refine g_getI F K (k := 0) (fld := 3) (ci := 5) (z := M 0 3) (pc' := 18) iX5_say_X5 rfl rfl rfl (by decide) (List.mem_of_getElem? (i := 1) rfl) dX5_say_15 rfl (by first | rfl | simp [upf, sc]) ?_
    refine g_bipush F (pc' := 20) dX5_say_18 rfl (by decide +kernel) ?_
    refine g_icmp_ne F (pc' := 23) (tgt := 26) dX5_say_20 rfl (by decide) (by omega) (by decide) (fun c_20 => ?_) (fun c_20 => ?_)
    · skip
      refine g_aload_n F (pc' := 27) dX5_say_26 rfl rfl ?_
      refine g_getR F K (k := 0) (fld := 4) (ci := 5) (q := 3) (pc' := 30) iX5_say_X5 rfl rfl rfl (by decide) (List.mem_of_getElem? (i := 2) rfl) dX5_say_27 rfl ?_
      refine g_aload_n F (pc' := 31) dX5_say_30 rfl rfl ?_
      refine g_getI F K (k := 0) (fld := 3) (ci := 5) (z := M 0 3) (pc' := 34) iX5_say_X5 rfl rfl rfl (by decide) (List.mem_of_getElem? (i := 1) rfl) dX5_say_31 rfl (by first | rfl | simp [upf, sc]) ?_
      refine g_iload_n F (pc' := 35) dX5_say_34 rfl rfl ?_
      refine h_iast F K (k := 3) (pc' := 36) (sc M 3 (upf (M 3) (M 0 3) v)) (mem_up (by rfl) (by intro j hj; simp only [sc, if_neg hj])) rfl (by decide) (by omega) dX5_say_35 rfl ?_
      refine g_aload_n F (pc' := 37) dX5_say_36 rfl rfl ?_
      refine g_dup F (pc' := 38) dX5_say_37 rfl rfl ?_
      refine g_getI F K (k := 0) (fld := 3) (ci := 5) (z := M 0 3) (pc' := 41) iX5_say_X5 rfl rfl rfl (by decide) (List.mem_of_getElem? (i := 1) rfl) dX5_say_38 rfl (by first | rfl | simp [upf, sc]) ?_
      refine g_iconst F (pc' := 42) dX5_say_41 rfl ?_
      refine g_iadd F (pc' := 43) dX5_say_42 rfl ?_
      refine h_putI F K (k := 0) (fld := 3) (ci := 5) (pc' := 46) (sc (sc M 0 (upf (M 0) 3 ((M 0 3) + 1))) 3 (upf (M 3) (M 0 3) v)) (mem_up (by rfl) (by intro j hj; simp only [sc, if_neg hj])) tyX5 tyX5_ok nmX5 iX5_say_X5 rfl rfl rfl (by decide) rfl rfl (List.mem_of_getElem? (i := 1) rfl) dX5_say_43 rfl ?_
      refine g_aload_n F (pc' := 47) dX5_say_46 rfl rfl ?_
      refine g_getI F K (k := 0) (fld := 3) (ci := 5) (z := (M 0 3) + 1) (pc' := 50) iX5_say_X5 rfl rfl rfl (by decide) (List.mem_of_getElem? (i := 1) rfl) dX5_say_47 rfl (by first | rfl | exact upf_s _ _ _ | simp [upf, sc]) ?_
      exact g_iret F hr hlk dX5_say_50 (Or.inr (Or.inr ⟨c_8, by omega, rfl, rfl⟩))
    · skip
      refine g_bipush F (pc' := 25) dX5_say_23 rfl (by decide +kernel) ?_
      exact g_iret F hr hlk dX5_say_25 (Or.inr (Or.inl ⟨c_8, by omega, rfl, rfl⟩))
  · skip
    have c_8 := zC_0 c_8
    refine g_bipush F (pc' := 13) dX5_say_11 rfl (by decide +kernel) ?_
    exact g_iret F hr hlk dX5_say_13 (Or.inl ⟨c_8, rfl, rfl⟩)

theorem iX5_wipe_X5 : ∀ w ∈ wsX50, w ∈ wsX5_wipe := fun _ h => List.mem_cons_of_mem _ (List.mem_append_right _ h)
set_option maxHeartbeats 4000000 in
set_option maxRecDepth 100000 in
theorem c5_wipe (l : Launch) (a : Nat → Nat) (M : Mem) : CtI XT l yX5_wipe wsX5_wipe ({ frames := 0, cells := 0, slots := 0, locals := 0 } : Room) LR a M [.ref (a 0)] (fun z M' => z = M 0 3 ∧ M' = sc M 0 (upf (M 0) 3 0)) := by
  refine CtI.of (y := yX5_wipe) (cc := cX5_wipe) (maxL := 2) (ret := (some .int)) (lv := [some (.ref (a 0)), none]) (by decide) rfl (Nat.le_of_ble_eq_true rfl) (lvOK_of _ _ ⟨rfl, rfl⟩) ?_
  intro p e s m below meth c D T F K X0 hr hlk
  have hXc := XT_c
  refine g_aload_n F (pc' := 1) dX5_wipe_0 rfl rfl ?_
  refine g_getI F K (k := 0) (fld := 3) (ci := 5) (z := M 0 3) (pc' := 4) iX5_wipe_X5 rfl rfl rfl (by decide) (List.mem_of_getElem? (i := 1) rfl) dX5_wipe_1 rfl (by first | rfl | simp [upf, sc]) ?_
  refine g_istore_n F (pc' := 5) (lv' := [some (.ref (a 0)), some (.int (iI (M 0 3)))]) dX5_wipe_4 rfl (by decide) rfl ?_
  refine g_aload_n F (pc' := 6) dX5_wipe_5 rfl rfl ?_
  refine g_iconst F (pc' := 7) dX5_wipe_6 rfl ?_
  refine h_putI F K (k := 0) (fld := 3) (ci := 5) (pc' := 10) (sc M 0 (upf (M 0) 3 0)) (mem_up (by rfl) (by intro j hj; simp only [sc, if_neg hj])) tyX5 tyX5_ok nmX5 iX5_wipe_X5 rfl rfl rfl (by decide) rfl rfl (List.mem_of_getElem? (i := 1) rfl) dX5_wipe_7 rfl ?_
  refine g_iload_n F (pc' := 11) dX5_wipe_10 rfl rfl ?_
  exact g_iret F hr hlk dX5_wipe_11 (⟨rfl, rfl⟩)

theorem iX5_width_X5 : ∀ w ∈ wsX50, w ∈ wsX5_width := fun _ h => List.mem_cons_of_mem _ (List.mem_append_right _ h)
set_option maxHeartbeats 4000000 in
set_option maxRecDepth 100000 in
theorem c5_width (l : Launch) (a : Nat → Nat) (M : Mem) (u : Int) (hu : 0 ≤ u ∧ u < 8) : CtI XT l yX5_width wsX5_width ({ frames := 0, cells := 0, slots := 0, locals := 0 } : Room) LR a M [.ref (a 0), .int (iI u)] (fun z M' => z = M 6 u - M 5 u ∧ M' = M) := by
  refine CtI.of (y := yX5_width) (cc := cX5_width) (maxL := 2) (ret := (some .int)) (lv := [some (.ref (a 0)), some (.int (iI u))]) (by decide) rfl (Nat.le_of_ble_eq_true rfl) (lvOK_of _ _ ⟨rfl, rfl⟩) ?_
  intro p e s m below meth c D T F K X0 hr hlk
  have hXc := XT_c
  refine g_aload_n F (pc' := 1) dX5_width_0 rfl rfl ?_
  refine g_getR F K (k := 0) (fld := 7) (ci := 5) (q := 6) (pc' := 4) iX5_width_X5 rfl rfl rfl (by decide) (List.mem_of_getElem? (i := 1) rfl) dX5_width_1 rfl ?_
  refine g_iload_n F (pc' := 5) dX5_width_4 rfl rfl ?_
  refine g_iald F K (k := 6) (v := M 6 u) (pc' := 6) rfl (by decide) (by omega) dX5_width_5 rfl (by first | rfl | simp [upf, sc]) ?_
  refine g_aload_n F (pc' := 7) dX5_width_6 rfl rfl ?_
  refine g_getR F K (k := 0) (fld := 6) (ci := 5) (q := 5) (pc' := 10) iX5_width_X5 rfl rfl rfl (by decide) (List.mem_of_getElem? (i := 2) rfl) dX5_width_7 rfl ?_
  refine g_iload_n F (pc' := 11) dX5_width_10 rfl rfl ?_
  refine g_iald F K (k := 5) (v := M 5 u) (pc' := 12) rfl (by decide) (by omega) dX5_width_11 rfl (by first | rfl | simp [upf, sc]) ?_
  refine g_isub F (pc' := 13) dX5_width_12 rfl ?_
  exact g_iret F hr hlk dX5_width_13 (⟨rfl, rfl⟩)
end
section
/-! ===== the reference: methods of stems and drifts ===== -/
def canR (M : Mem) (u d : Int) : Prop := (M 1 (4 * u) = 1 ∧ M 1 (4 * d) = 0 ∧ M 1 ((4 * u) + 1) < M 1 ((4 * d) + 1) ∧ M 1 ((4 * d) + 1) - M 1 ((4 * u) + 1) ≤ 300) ∧ max (M 1 ((4 * u) + 2)) (M 1 ((4 * d) + 2)) < min (M 1 ((4 * u) + 3)) (M 1 ((4 * d) + 3))
def freeR (M : Mem) (n u d : Int) : Prop := ∀ j : Int, 0 ≤ j → j < n → (M 7 j ≠ u ∧ M 8 j ≠ d ∧ (M 1 ((4 * d) + 1) < M 5 j ∨ M 6 j < M 1 ((4 * u) + 1)))
theorem freeR_s {M : Mem} {i u d : Int} (h0 : 0 ≤ i) : freeR M (i + 1) u d ↔ (freeR M i u d ∧ (M 7 i ≠ u ∧ M 8 i ≠ d ∧ (M 1 ((4 * d) + 1) < M 5 i ∨ M 6 i < M 1 ((4 * u) + 1)))) := by
  constructor
  · intro h
    exact ⟨fun j h1 h2 => h j h1 (by omega), h i h0 (by omega)⟩
  · rintro ⟨h, hi⟩ j h1 h2
    by_cases hj : j = i
    · subst hj; exact hi
    · exact h j h1 (by omega)
def cntz (mode t : Int) : Int := if mode % 2 = 1 then t * t / 1000 else t
def jn (mode x y : Int) : Int := if mode < 2 then x + y else max x y
def dz (st sz bold : Int) : Int := max 1 ((st * sz + 500) / 1000) + bold
def absz (x : Int) : Int := if 0 ≤ x then x else -x
theorem mul_R {x y A B : Int} (hx : 0 ≤ x ∧ x ≤ A) (hy : 0 ≤ y ∧ y ≤ B) : 0 ≤ x * y ∧ x * y ≤ A * B :=
  ⟨Int.mul_nonneg hx.1 hy.1, Int.mul_le_mul hx.2 hy.2 hy.1 (by omega)⟩
theorem sq_R {t : Int} (ht : 0 ≤ t ∧ t ≤ 100000000) : 0 ≤ t * t ∧ t * t ≤ 10000000000000000 := mul_R ht ht
theorem mulS_R {x y : Int} (hx : -999 ≤ x ∧ x ≤ 999) (hy : 0 ≤ y ∧ y ≤ 60) : -59940 ≤ x * y ∧ x * y ≤ 59940 := by
  have h := mul_R (x := x + 999) (y := y) (A := 1998) (B := 60) (by omega) hy
  have e : (x + 999) * y = x * y + 999 * y := Int.add_mul x 999 y
  have h2 := mul_R (x := 999 - x) (y := y) (A := 1998) (B := 60) (by omega) hy
  have e2 : (999 - x) * y = 999 * y - x * y := Int.sub_mul 999 x y
  omega
theorem div_R {s c : Int} (hc : 1 ≤ c) (hs : 0 ≤ s ∧ s ≤ 300 * c) : 0 ≤ s / c ∧ s / c ≤ 300 :=
  ⟨Int.ediv_nonneg hs.1 (by omega), by have := Int.ediv_le_of_le_mul (a := s) (b := 300) (c := c) (by omega) (by omega); omega⟩
theorem iX5_x_X5 : ∀ w ∈ wsX50, w ∈ wsX5_x := fun _ h => List.mem_cons_of_mem _ (List.mem_append_right _ h)
set_option maxHeartbeats 4000000 in
set_option maxRecDepth 100000 in
theorem c5_x (l : Launch) (a : Nat → Nat) (M : Mem) (u : Int) (hu : 0 ≤ u ∧ u < 16) : CtI XT l yX5_x wsX5_x ({ frames := 0, cells := 0, slots := 0, locals := 0 } : Room) LR a M [.ref (a 0), .int (iI u)] (fun z M' => z = M 1 ((4 * u) + 1) ∧ M' = M) := by
  refine CtI.of (y := yX5_x) (cc := cX5_x) (maxL := 2) (ret := (some .int)) (lv := [some (.ref (a 0)), some (.int (iI u))]) (by decide) rfl (Nat.le_of_ble_eq_true rfl) (lvOK_of _ _ ⟨rfl, rfl⟩) ?_
  intro p e s m below meth c D T F K X0 hr hlk
  have hXc := XT_c
  refine g_aload_n F (pc' := 1) dX5_x_0 rfl rfl ?_
  refine g_getR F K (k := 0) (fld := 0) (ci := 5) (q := 1) (pc' := 4) iX5_x_X5 rfl rfl rfl (by decide) (List.mem_of_getElem? (i := 1) rfl) dX5_x_1 rfl ?_
  refine g_iconst F (pc' := 5) dX5_x_4 rfl ?_
  refine g_iload_n F (pc' := 6) dX5_x_5 rfl rfl ?_
  refine g_imul F (pc' := 7) dX5_x_6 rfl ?_
  refine g_iconst F (pc' := 8) dX5_x_7 rfl ?_
  refine g_iadd F (pc' := 9) dX5_x_8 rfl ?_
  refine g_iald F K (k := 1) (v := M 1 ((4 * u) + 1)) (pc' := 10) rfl (by decide) (by omega) dX5_x_9 rfl (by first | rfl | simp [upf, sc]) ?_
  exact g_iret F hr hlk dX5_x_10 (⟨rfl, rfl⟩)

theorem iX5_canBe_X5 : ∀ w ∈ wsX50, w ∈ wsX5_canBe := fun _ h => List.mem_cons_of_mem _ (List.mem_append_right _ h)
set_option maxHeartbeats 4000000 in
set_option maxRecDepth 100000 in
theorem c5_canBe (l : Launch) (a : Nat → Nat) (M : Mem) (u d : Int) (hu : 0 ≤ u ∧ u < 16) (hd : 0 ≤ d ∧ d < 16) (hE : ∀ j, 0 ≤ M 1 j ∧ M 1 j ≤ 999) : CtI XT l yX5_canBe wsX5_canBe ({ frames := 1, cells := 0, slots := 0, locals := 21 } : Room) LR a M [.ref (a 0), .int (iI u), .int (iI d)] (fun z M' => z = zC (canR M u d) ∧ M' = M) := by
  refine CtI.of (y := yX5_canBe) (cc := cX5_canBe) (maxL := 6) (ret := (some .boolean)) (lv := [some (.ref (a 0)), some (.int (iI u)), some (.int (iI d)), none, none, none]) (by decide) rfl (Nat.le_of_ble_eq_true rfl) (lvOK_of _ _ ⟨rfl, rfl⟩) ?_
  intro p e s m below meth c D T F K X0 hr hlk
  have hXc := XT_c
  have lp_58 : ∀ (b : Int) (hb : b = zC (M 1 (4 * u) = 1 ∧ M 1 (4 * d) = 0 ∧ M 1 ((4 * u) + 1) < M 1 ((4 * d) + 1) ∧ M 1 ((4 * d) + 1) - M 1 ((4 * u) + 1) ≤ 300)), GG p l e ({ frames := 1, cells := 0, slots := 0, locals := 21 } : Room) s m ([.ref (a 0), .int (iI u), .int (iI d)].toArray) below meth c (PI D T a LR M (fun z M' => z = zC (canR M u d) ∧ M' = M) below ([.ref (a 0), .int (iI u), .int (iI d)].toArray) s) D (AA T a LR M s.heap.size) 6 (wld T a LR M) 58 [some (.ref (a 0)), some (.int (iI u)), some (.int (iI d)), none, none, none] [.int (iI b)] := by
    intro b hb
    subst hb
    have lp_105 : ∀ (lo : Int) (hlo : lo = max (M 1 ((4 * u) + 2)) (M 1 ((4 * d) + 2))), GG p l e ({ frames := 1, cells := 0, slots := 0, locals := 21 } : Room) s m ([.ref (a 0), .int (iI u), .int (iI d)].toArray) below meth c (PI D T a LR M (fun z M' => z = zC (canR M u d) ∧ M' = M) below ([.ref (a 0), .int (iI u), .int (iI d)].toArray) s) D (AA T a LR M s.heap.size) 6 (wld T a LR M) 105 [some (.ref (a 0)), some (.int (iI u)), some (.int (iI d)), some (.int (iI (zC (M 1 (4 * u) = 1 ∧ M 1 (4 * d) = 0 ∧ M 1 ((4 * u) + 1) < M 1 ((4 * d) + 1) ∧ M 1 ((4 * d) + 1) - M 1 ((4 * u) + 1) ≤ 300)))), none, none] [.int (iI lo)] := by
      intro lo hlo
      have hl1 := hE ((4 * u) + 2)
      have hl2 := hE ((4 * d) + 2)
      have lp_153 : ∀ (hi : Int) (hhi : hi = min (M 1 ((4 * u) + 3)) (M 1 ((4 * d) + 3))), GG p l e ({ frames := 1, cells := 0, slots := 0, locals := 21 } : Room) s m ([.ref (a 0), .int (iI u), .int (iI d)].toArray) below meth c (PI D T a LR M (fun z M' => z = zC (canR M u d) ∧ M' = M) below ([.ref (a 0), .int (iI u), .int (iI d)].toArray) s) D (AA T a LR M s.heap.size) 6 (wld T a LR M) 153 [some (.ref (a 0)), some (.int (iI u)), some (.int (iI d)), some (.int (iI (zC (M 1 (4 * u) = 1 ∧ M 1 (4 * d) = 0 ∧ M 1 ((4 * u) + 1) < M 1 ((4 * d) + 1) ∧ M 1 ((4 * d) + 1) - M 1 ((4 * u) + 1) ≤ 300)))), some (.int (iI lo)), none] [.int (iI hi)] := by
        intro hi hhi
        have hh1 := hE ((4 * u) + 3)
        have hh2 := hE ((4 * d) + 3)
        refine g_istore F (pc' := 155) (lv' := [some (.ref (a 0)), some (.int (iI u)), some (.int (iI d)), some (.int (iI (zC (M 1 (4 * u) = 1 ∧ M 1 (4 * d) = 0 ∧ M 1 ((4 * u) + 1) < M 1 ((4 * d) + 1) ∧ M 1 ((4 * d) + 1) - M 1 ((4 * u) + 1) ≤ 300)))), some (.int (iI lo)), some (.int (iI hi))]) dX5_canBe_153 rfl (by decide) rfl ?_
        refine g_iload_n F (pc' := 156) dX5_canBe_155 rfl rfl ?_
        refine g_if_eq F (pc' := 159) (tgt := 170) dX5_canBe_156 rfl (by decide) (zC_R _) (fun c_156 => ?_) (fun c_156 => ?_)
        · skip
          have c_156 := zC_0 c_156
          refine g_iconst F (pc' := 171) dX5_canBe_170 rfl ?_
          exact g_zret F hr hlk dX5_canBe_171 (Or.inl rfl) (⟨by first | exact (zC_t ⟨c_156, by omega⟩).symm | exact (zC_f (fun q => by first | exact c_156 q.1 | (have q2 := q.2; omega))).symm, rfl⟩)
        · skip
          have c_156 := zC_1 c_156
          refine g_iload F (pc' := 161) dX5_canBe_159 rfl rfl ?_
          refine g_iload F (pc' := 163) dX5_canBe_161 rfl rfl ?_
          refine g_icmp_le F (pc' := 166) (tgt := 170) dX5_canBe_163 rfl (by decide) (by omega) (by omega) (fun c_163 => ?_) (fun c_163 => ?_)
          · skip
            refine g_iconst F (pc' := 171) dX5_canBe_170 rfl ?_
            exact g_zret F hr hlk dX5_canBe_171 (Or.inl rfl) (⟨by first | exact (zC_t ⟨c_156, by omega⟩).symm | exact (zC_f (fun q => by first | exact c_156 q.1 | (have q2 := q.2; omega))).symm, rfl⟩)
          · skip
            refine g_iconst F (pc' := 167) dX5_canBe_166 rfl ?_
            refine g_goto F (tgt := 171) dX5_canBe_167 (by decide) ?_
            exact g_zret F hr hlk dX5_canBe_171 (Or.inr rfl) (⟨by first | exact (zC_t ⟨c_156, by omega⟩).symm | exact (zC_f (fun q => by first | exact c_156 q.1 | (have q2 := q.2; omega))).symm, rfl⟩)
      refine g_istore F (pc' := 107) (lv' := [some (.ref (a 0)), some (.int (iI u)), some (.int (iI d)), some (.int (iI (zC (M 1 (4 * u) = 1 ∧ M 1 (4 * d) = 0 ∧ M 1 ((4 * u) + 1) < M 1 ((4 * d) + 1) ∧ M 1 ((4 * d) + 1) - M 1 ((4 * u) + 1) ≤ 300)))), some (.int (iI lo)), none]) dX5_canBe_105 rfl (by decide) rfl ?_
      refine g_aload_n F (pc' := 108) dX5_canBe_107 rfl rfl ?_
      refine g_getR F K (k := 0) (fld := 0) (ci := 5) (q := 1) (pc' := 111) iX5_canBe_X5 rfl rfl rfl (by decide) (List.mem_of_getElem? (i := 1) rfl) dX5_canBe_108 rfl ?_
      refine g_iconst F (pc' := 112) dX5_canBe_111 rfl ?_
      refine g_iload_n F (pc' := 113) dX5_canBe_112 rfl rfl ?_
      refine g_imul F (pc' := 114) dX5_canBe_113 rfl ?_
      refine g_iconst F (pc' := 115) dX5_canBe_114 rfl ?_
      refine g_iadd F (pc' := 116) dX5_canBe_115 rfl ?_
      refine g_iald F K (k := 1) (v := M 1 ((4 * u) + 3)) (pc' := 117) rfl (by decide) (by omega) dX5_canBe_116 rfl (by first | rfl | simp [upf, sc]) ?_
      have b_116 := hE ((4 * u) + 3)
      refine g_aload_n F (pc' := 118) dX5_canBe_117 rfl rfl ?_
      refine g_getR F K (k := 0) (fld := 0) (ci := 5) (q := 1) (pc' := 121) iX5_canBe_X5 rfl rfl rfl (by decide) (List.mem_of_getElem? (i := 1) rfl) dX5_canBe_118 rfl ?_
      refine g_iconst F (pc' := 122) dX5_canBe_121 rfl ?_
      refine g_iload_n F (pc' := 123) dX5_canBe_122 rfl rfl ?_
      refine g_imul F (pc' := 124) dX5_canBe_123 rfl ?_
      refine g_iconst F (pc' := 125) dX5_canBe_124 rfl ?_
      refine g_iadd F (pc' := 126) dX5_canBe_125 rfl ?_
      refine g_iald F K (k := 1) (v := M 1 ((4 * d) + 3)) (pc' := 127) rfl (by decide) (by omega) dX5_canBe_126 rfl (by first | rfl | simp [upf, sc]) ?_
      have b_126 := hE ((4 * d) + 3)
      refine g_icmp_ge F (pc' := 130) (tgt := 143) dX5_canBe_127 rfl (by decide) (by omega) (by omega) (fun c_127 => ?_) (fun c_127 => ?_)
      · skip
        refine g_aload_n F (pc' := 144) dX5_canBe_143 rfl rfl ?_
        refine g_getR F K (k := 0) (fld := 0) (ci := 5) (q := 1) (pc' := 147) iX5_canBe_X5 rfl rfl rfl (by decide) (List.mem_of_getElem? (i := 1) rfl) dX5_canBe_144 rfl ?_
        refine g_iconst F (pc' := 148) dX5_canBe_147 rfl ?_
        refine g_iload_n F (pc' := 149) dX5_canBe_148 rfl rfl ?_
        refine g_imul F (pc' := 150) dX5_canBe_149 rfl ?_
        refine g_iconst F (pc' := 151) dX5_canBe_150 rfl ?_
        refine g_iadd F (pc' := 152) dX5_canBe_151 rfl ?_
        refine g_iald F K (k := 1) (v := M 1 ((4 * d) + 3)) (pc' := 153) rfl (by decide) (by omega) dX5_canBe_152 rfl (by first | rfl | simp [upf, sc]) ?_
        have b_152 := hE ((4 * d) + 3)
        exact lp_153 (M 1 ((4 * d) + 3)) (by omega)
      · skip
        refine g_aload_n F (pc' := 131) dX5_canBe_130 rfl rfl ?_
        refine g_getR F K (k := 0) (fld := 0) (ci := 5) (q := 1) (pc' := 134) iX5_canBe_X5 rfl rfl rfl (by decide) (List.mem_of_getElem? (i := 1) rfl) dX5_canBe_131 rfl ?_
        refine g_iconst F (pc' := 135) dX5_canBe_134 rfl ?_
        refine g_iload_n F (pc' := 136) dX5_canBe_135 rfl rfl ?_
        refine g_imul F (pc' := 137) dX5_canBe_136 rfl ?_
        refine g_iconst F (pc' := 138) dX5_canBe_137 rfl ?_
        refine g_iadd F (pc' := 139) dX5_canBe_138 rfl ?_
        refine g_iald F K (k := 1) (v := M 1 ((4 * u) + 3)) (pc' := 140) rfl (by decide) (by omega) dX5_canBe_139 rfl (by first | rfl | simp [upf, sc]) ?_
        have b_139 := hE ((4 * u) + 3)
        refine g_goto F (tgt := 153) dX5_canBe_140 (by decide) ?_
        exact lp_153 (M 1 ((4 * u) + 3)) (by omega)
    refine g_istore_n F (pc' := 59) (lv' := [some (.ref (a 0)), some (.int (iI u)), some (.int (iI d)), some (.int (iI (zC (M 1 (4 * u) = 1 ∧ M 1 (4 * d) = 0 ∧ M 1 ((4 * u) + 1) < M 1 ((4 * d) + 1) ∧ M 1 ((4 * d) + 1) - M 1 ((4 * u) + 1) ≤ 300)))), none, none]) dX5_canBe_58 rfl (by decide) rfl ?_
    refine g_aload_n F (pc' := 60) dX5_canBe_59 rfl rfl ?_
    refine g_getR F K (k := 0) (fld := 0) (ci := 5) (q := 1) (pc' := 63) iX5_canBe_X5 rfl rfl rfl (by decide) (List.mem_of_getElem? (i := 1) rfl) dX5_canBe_60 rfl ?_
    refine g_iconst F (pc' := 64) dX5_canBe_63 rfl ?_
    refine g_iload_n F (pc' := 65) dX5_canBe_64 rfl rfl ?_
    refine g_imul F (pc' := 66) dX5_canBe_65 rfl ?_
    refine g_iconst F (pc' := 67) dX5_canBe_66 rfl ?_
    refine g_iadd F (pc' := 68) dX5_canBe_67 rfl ?_
    refine g_iald F K (k := 1) (v := M 1 ((4 * u) + 2)) (pc' := 69) rfl (by decide) (by omega) dX5_canBe_68 rfl (by first | rfl | simp [upf, sc]) ?_
    have b_68 := hE ((4 * u) + 2)
    refine g_aload_n F (pc' := 70) dX5_canBe_69 rfl rfl ?_
    refine g_getR F K (k := 0) (fld := 0) (ci := 5) (q := 1) (pc' := 73) iX5_canBe_X5 rfl rfl rfl (by decide) (List.mem_of_getElem? (i := 1) rfl) dX5_canBe_70 rfl ?_
    refine g_iconst F (pc' := 74) dX5_canBe_73 rfl ?_
    refine g_iload_n F (pc' := 75) dX5_canBe_74 rfl rfl ?_
    refine g_imul F (pc' := 76) dX5_canBe_75 rfl ?_
    refine g_iconst F (pc' := 77) dX5_canBe_76 rfl ?_
    refine g_iadd F (pc' := 78) dX5_canBe_77 rfl ?_
    refine g_iald F K (k := 1) (v := M 1 ((4 * d) + 2)) (pc' := 79) rfl (by decide) (by omega) dX5_canBe_78 rfl (by first | rfl | simp [upf, sc]) ?_
    have b_78 := hE ((4 * d) + 2)
    refine g_icmp_le F (pc' := 82) (tgt := 95) dX5_canBe_79 rfl (by decide) (by omega) (by omega) (fun c_79 => ?_) (fun c_79 => ?_)
    · skip
      refine g_aload_n F (pc' := 96) dX5_canBe_95 rfl rfl ?_
      refine g_getR F K (k := 0) (fld := 0) (ci := 5) (q := 1) (pc' := 99) iX5_canBe_X5 rfl rfl rfl (by decide) (List.mem_of_getElem? (i := 1) rfl) dX5_canBe_96 rfl ?_
      refine g_iconst F (pc' := 100) dX5_canBe_99 rfl ?_
      refine g_iload_n F (pc' := 101) dX5_canBe_100 rfl rfl ?_
      refine g_imul F (pc' := 102) dX5_canBe_101 rfl ?_
      refine g_iconst F (pc' := 103) dX5_canBe_102 rfl ?_
      refine g_iadd F (pc' := 104) dX5_canBe_103 rfl ?_
      refine g_iald F K (k := 1) (v := M 1 ((4 * d) + 2)) (pc' := 105) rfl (by decide) (by omega) dX5_canBe_104 rfl (by first | rfl | simp [upf, sc]) ?_
      have b_104 := hE ((4 * d) + 2)
      exact lp_105 (M 1 ((4 * d) + 2)) (by omega)
    · skip
      refine g_aload_n F (pc' := 83) dX5_canBe_82 rfl rfl ?_
      refine g_getR F K (k := 0) (fld := 0) (ci := 5) (q := 1) (pc' := 86) iX5_canBe_X5 rfl rfl rfl (by decide) (List.mem_of_getElem? (i := 1) rfl) dX5_canBe_83 rfl ?_
      refine g_iconst F (pc' := 87) dX5_canBe_86 rfl ?_
      refine g_iload_n F (pc' := 88) dX5_canBe_87 rfl rfl ?_
      refine g_imul F (pc' := 89) dX5_canBe_88 rfl ?_
      refine g_iconst F (pc' := 90) dX5_canBe_89 rfl ?_
      refine g_iadd F (pc' := 91) dX5_canBe_90 rfl ?_
      refine g_iald F K (k := 1) (v := M 1 ((4 * u) + 2)) (pc' := 92) rfl (by decide) (by omega) dX5_canBe_91 rfl (by first | rfl | simp [upf, sc]) ?_
      have b_91 := hE ((4 * u) + 2)
      refine g_goto F (tgt := 105) dX5_canBe_92 (by decide) ?_
      exact lp_105 (M 1 ((4 * u) + 2)) (by omega)
  refine g_aload_n F (pc' := 1) dX5_canBe_0 rfl rfl ?_
  refine g_getR F K (k := 0) (fld := 0) (ci := 5) (q := 1) (pc' := 4) iX5_canBe_X5 rfl rfl rfl (by decide) (List.mem_of_getElem? (i := 1) rfl) dX5_canBe_1 rfl ?_
  refine g_iconst F (pc' := 5) dX5_canBe_4 rfl ?_
  refine g_iload_n F (pc' := 6) dX5_canBe_5 rfl rfl ?_
  refine g_imul F (pc' := 7) dX5_canBe_6 rfl ?_
  refine g_iald F K (k := 1) (v := M 1 (4 * u)) (pc' := 8) rfl (by decide) (by omega) dX5_canBe_7 rfl (by first | rfl | simp [upf, sc]) ?_
  have b_7 := hE (4 * u)
  refine g_iconst F (pc' := 9) dX5_canBe_8 rfl ?_
  refine g_icmp_ne F (pc' := 12) (tgt := 57) dX5_canBe_9 rfl (by decide) (by omega) (by decide) (fun c_9 => ?_) (fun c_9 => ?_)
  · skip
    refine g_iconst F (pc' := 58) dX5_canBe_57 rfl ?_
    exact lp_58 0 (by first | exact (zC_t (by omega)).symm | exact (zC_f (by omega)).symm)
  · skip
    refine g_aload_n F (pc' := 13) dX5_canBe_12 rfl rfl ?_
    refine g_getR F K (k := 0) (fld := 0) (ci := 5) (q := 1) (pc' := 16) iX5_canBe_X5 rfl rfl rfl (by decide) (List.mem_of_getElem? (i := 1) rfl) dX5_canBe_13 rfl ?_
    refine g_iconst F (pc' := 17) dX5_canBe_16 rfl ?_
    refine g_iload_n F (pc' := 18) dX5_canBe_17 rfl rfl ?_
    refine g_imul F (pc' := 19) dX5_canBe_18 rfl ?_
    refine g_iald F K (k := 1) (v := M 1 (4 * d)) (pc' := 20) rfl (by decide) (by omega) dX5_canBe_19 rfl (by first | rfl | simp [upf, sc]) ?_
    have b_19 := hE (4 * d)
    refine g_if_ne F (pc' := 23) (tgt := 57) dX5_canBe_20 rfl (by decide) (by omega) (fun c_20 => ?_) (fun c_20 => ?_)
    · skip
      refine g_iconst F (pc' := 58) dX5_canBe_57 rfl ?_
      exact lp_58 0 (by first | exact (zC_t (by omega)).symm | exact (zC_f (by omega)).symm)
    · skip
      refine g_aload_n F (pc' := 24) dX5_canBe_23 rfl rfl ?_
      refine g_iload_n F (pc' := 25) dX5_canBe_24 rfl rfl ?_
      refine g_callI F K hXc X0 (pc' := 28) (st := []) (c5_x l a M u (by omega)) (cwV 1 F.2.2.2.2 gX5_canBe_X5_x rfl rfl rfl (by decide +kernel) ⟨Nat.le_of_ble_eq_true rfl, Nat.le_of_ble_eq_true rfl⟩) rfl rfl rfl rfl (Nat.le_of_ble_eq_true rfl) dX5_canBe_25 rfl (fun z_25 M_25 q_25 => ?_)
      obtain ⟨rfl, mq_25⟩ := q_25
      have mq_25 := mq_25.symm; subst mq_25
      have b_25 := hE ((4 * u) + 1)
      refine g_aload_n F (pc' := 29) dX5_canBe_28 rfl rfl ?_
      refine g_iload_n F (pc' := 30) dX5_canBe_29 rfl rfl ?_
      refine g_callI F K hXc X0 (pc' := 33) (st := [.int (iI (M 1 ((4 * u) + 1)))]) (c5_x l a M d (by omega)) (cwV 1 F.2.2.2.2 gX5_canBe_X5_x rfl rfl rfl (by decide +kernel) ⟨Nat.le_of_ble_eq_true rfl, Nat.le_of_ble_eq_true rfl⟩) rfl rfl rfl rfl (Nat.le_of_ble_eq_true rfl) dX5_canBe_30 rfl (fun z_30 M_30 q_30 => ?_)
      obtain ⟨rfl, mq_30⟩ := q_30
      have mq_30 := mq_30.symm; subst mq_30
      have b_30 := hE ((4 * d) + 1)
      refine g_icmp_ge F (pc' := 36) (tgt := 57) dX5_canBe_33 rfl (by decide) (by omega) (by omega) (fun c_33 => ?_) (fun c_33 => ?_)
      · skip
        refine g_iconst F (pc' := 58) dX5_canBe_57 rfl ?_
        exact lp_58 0 (by first | exact (zC_t (by omega)).symm | exact (zC_f (by omega)).symm)
      · skip
        refine g_aload_n F (pc' := 37) dX5_canBe_36 rfl rfl ?_
        refine g_iload_n F (pc' := 38) dX5_canBe_37 rfl rfl ?_
        refine g_callI F K hXc X0 (pc' := 41) (st := []) (c5_x l a M d (by omega)) (cwV 1 F.2.2.2.2 gX5_canBe_X5_x rfl rfl rfl (by decide +kernel) ⟨Nat.le_of_ble_eq_true rfl, Nat.le_of_ble_eq_true rfl⟩) rfl rfl rfl rfl (Nat.le_of_ble_eq_true rfl) dX5_canBe_38 rfl (fun z_38 M_38 q_38 => ?_)
        obtain ⟨rfl, mq_38⟩ := q_38
        have mq_38 := mq_38.symm; subst mq_38
        have b_38 := hE ((4 * d) + 1)
        refine g_aload_n F (pc' := 42) dX5_canBe_41 rfl rfl ?_
        refine g_iload_n F (pc' := 43) dX5_canBe_42 rfl rfl ?_
        refine g_callI F K hXc X0 (pc' := 46) (st := [.int (iI (M 1 ((4 * d) + 1)))]) (c5_x l a M u (by omega)) (cwV 1 F.2.2.2.2 gX5_canBe_X5_x rfl rfl rfl (by decide +kernel) ⟨Nat.le_of_ble_eq_true rfl, Nat.le_of_ble_eq_true rfl⟩) rfl rfl rfl rfl (Nat.le_of_ble_eq_true rfl) dX5_canBe_43 rfl (fun z_43 M_43 q_43 => ?_)
        obtain ⟨rfl, mq_43⟩ := q_43
        have mq_43 := mq_43.symm; subst mq_43
        have b_43 := hE ((4 * u) + 1)
        refine g_isub F (pc' := 47) dX5_canBe_46 rfl ?_
        refine g_sipush F (pc' := 50) dX5_canBe_47 rfl (by decide +kernel) ?_
        refine g_icmp_gt F (pc' := 53) (tgt := 57) dX5_canBe_50 rfl (by decide) (by omega) (by decide) (fun c_50 => ?_) (fun c_50 => ?_)
        · skip
          refine g_iconst F (pc' := 58) dX5_canBe_57 rfl ?_
          exact lp_58 0 (by first | exact (zC_t (by omega)).symm | exact (zC_f (by omega)).symm)
        · skip
          refine g_iconst F (pc' := 54) dX5_canBe_53 rfl ?_
          refine g_goto F (tgt := 58) dX5_canBe_54 (by decide) ?_
          exact lp_58 1 (by first | exact (zC_t (by omega)).symm | exact (zC_f (by omega)).symm)

theorem iX5_isFree_X5 : ∀ w ∈ wsX50, w ∈ wsX5_isFree := fun _ h => List.mem_cons_of_mem _ (List.mem_append_right _ h)
set_option maxHeartbeats 4000000 in
set_option maxRecDepth 100000 in
theorem c5_isFree (l : Launch) (a : Nat → Nat) (M : Mem) (u d : Int) (hu : 0 ≤ u ∧ u < 16) (hd : 0 ≤ d ∧ d < 16) (hE : ∀ j, 0 ≤ M 1 j ∧ M 1 j ≤ 999) (hn : 0 ≤ M 0 11 ∧ M 0 11 ≤ 8) (h5 : ∀ j, 0 ≤ M 5 j ∧ M 5 j ≤ 999) (h6 : ∀ j, 0 ≤ M 6 j ∧ M 6 j ≤ 999) (h7 : ∀ j, 0 ≤ M 7 j ∧ M 7 j ≤ 16) (h8 : ∀ j, 0 ≤ M 8 j ∧ M 8 j ≤ 16) : CtI XT l yX5_isFree wsX5_isFree ({ frames := 1, cells := 0, slots := 0, locals := 21 } : Room) LR a M [.ref (a 0), .int (iI u), .int (iI d)] (fun z M' => z = zC (freeR M (M 0 11) u d) ∧ M' = M) := by
  refine CtI.of (y := yX5_isFree) (cc := cX5_isFree) (maxL := 5) (ret := (some .boolean)) (lv := [some (.ref (a 0)), some (.int (iI u)), some (.int (iI d)), none, none]) (by decide) rfl (Nat.le_of_ble_eq_true rfl) (lvOK_of _ _ ⟨rfl, rfl⟩) ?_
  intro p e s m below meth c D T F K X0 hr hlk
  have hXc := XT_c
  have hlt : True := trivial
  refine g_iconst F (pc' := 1) dX5_isFree_0 rfl ?_
  refine g_istore_n F (pc' := 2) (lv' := [some (.ref (a 0)), some (.int (iI u)), some (.int (iI d)), some (.int (iI 1)), none]) dX5_isFree_1 rfl (by decide) rfl ?_
  refine g_iconst F (pc' := 3) dX5_isFree_2 rfl ?_
  refine g_istore F (pc' := 5) (lv' := [some (.ref (a 0)), some (.int (iI u)), some (.int (iI d)), some (.int (iI 1)), some (.int (iI 0))]) dX5_isFree_3 rfl (by decide) rfl ?_
  have lp_5 : ∀ (n_5 : Nat) (fr : Int) (i : Int) (hm_5 : M 0 11 - i < (n_5 : Int)) (h0 : 0 ≤ i) (h1 : i ≤ M 0 11) (hf : fr = zC (freeR M i u d)), GG p l e ({ frames := 1, cells := 0, slots := 0, locals := 21 } : Room) s m ([.ref (a 0), .int (iI u), .int (iI d)].toArray) below meth c (PI D T a LR M (fun z M' => z = zC (freeR M (M 0 11) u d) ∧ M' = M) below ([.ref (a 0), .int (iI u), .int (iI d)].toArray) s) D (AA T a LR M s.heap.size) 5 (wld T a LR M) 5 [some (.ref (a 0)), some (.int (iI u)), some (.int (iI d)), some (.int (iI fr)), some (.int (iI i))] [] := by
    intro n_5
    induction n_5 with
    | zero => intro fr i hm_5 h0 h1 hf; exfalso; omega
    | succ n_5 ih_5 =>
      intro fr i hm_5 h0 h1 hf
      subst hf
      have lp_75 : ∀ (b : Int) (h2 : i < M 0 11) (hb : b = zC (freeR M (i + 1) u d)), GG p l e ({ frames := 1, cells := 0, slots := 0, locals := 21 } : Room) s m ([.ref (a 0), .int (iI u), .int (iI d)].toArray) below meth c (PI D T a LR M (fun z M' => z = zC (freeR M (M 0 11) u d) ∧ M' = M) below ([.ref (a 0), .int (iI u), .int (iI d)].toArray) s) D (AA T a LR M s.heap.size) 5 (wld T a LR M) 75 [some (.ref (a 0)), some (.int (iI u)), some (.int (iI d)), none, some (.int (iI i))] [.int (iI b)] := by
        intro b h2 hb
        subst hb
        refine g_istore_n F (pc' := 76) (lv' := [some (.ref (a 0)), some (.int (iI u)), some (.int (iI d)), some (.int (iI (zC (freeR M (i + 1) u d)))), some (.int (iI i))]) dX5_isFree_75 rfl (by decide) rfl ?_
        refine g_iinc F (pc' := 79) (lv' := [some (.ref (a 0)), some (.int (iI u)), some (.int (iI d)), some (.int (iI (zC (freeR M (i + 1) u d)))), some (.int (iI (i + 1)))]) dX5_isFree_76 rfl rfl (by decide) rfl ?_
        refine g_goto F (tgt := 5) dX5_isFree_79 (by decide) ?_
        exact ih_5 (zC (freeR M (i + 1) u d)) (i + 1) (by omega) (by omega) (by omega) (by first | rfl | exact (zC_t (fun j h1 h2 => by omega)).symm)
      refine g_iload F (pc' := 7) dX5_isFree_5 rfl rfl ?_
      refine g_aload_n F (pc' := 8) dX5_isFree_7 rfl rfl ?_
      refine g_getI F K (k := 0) (fld := 11) (ci := 5) (z := M 0 11) (pc' := 11) iX5_isFree_X5 rfl rfl rfl (by decide) (List.mem_of_getElem? (i := 1) rfl) dX5_isFree_8 rfl (by first | rfl | simp [upf, sc]) ?_
      refine g_icmp_ge F (pc' := 14) (tgt := 82) dX5_isFree_11 rfl (by decide) (by omega) (by omega) (fun c_11 => ?_) (fun c_11 => ?_)
      · skip
        refine g_iload_n F (pc' := 83) dX5_isFree_82 rfl rfl ?_
        exact g_zret F hr hlk dX5_isFree_83 (zC_01 _) (⟨by rw [show M 0 11 = i by omega], rfl⟩)
      · skip
        refine g_iload_n F (pc' := 15) dX5_isFree_14 rfl rfl ?_
        refine g_if_eq F (pc' := 18) (tgt := 74) dX5_isFree_15 rfl (by decide) (zC_R _) (fun c_15 => ?_) (fun c_15 => ?_)
        · skip
          have c_15 := zC_0 c_15
          refine g_iconst F (pc' := 75) dX5_isFree_74 rfl ?_
          refine g_lvw [some (.ref (a 0)), some (.int (iI u)), some (.int (iI d)), none, some (.int (iI i))] (lvw_of _ _ [true, true, true, false, true] rfl) ?_
          exact lp_75 0 (by omega) (by first | exact (zC_t ((freeR_s h0).mpr ⟨c_15, by omega⟩)).symm | exact (zC_f (fun q => by have q2 := (freeR_s h0).mp q; first | exact c_15 q2.1 | (have q3 := q2.2; omega))).symm)
        · skip
          have c_15 := zC_1 c_15
          refine g_aload_n F (pc' := 19) dX5_isFree_18 rfl rfl ?_
          refine g_getR F K (k := 0) (fld := 8) (ci := 5) (q := 7) (pc' := 22) iX5_isFree_X5 rfl rfl rfl (by decide) (List.mem_of_getElem? (i := 2) rfl) dX5_isFree_19 rfl ?_
          refine g_iload F (pc' := 24) dX5_isFree_22 rfl rfl ?_
          refine g_iald F K (k := 7) (v := M 7 i) (pc' := 25) rfl (by decide) (by omega) dX5_isFree_24 rfl (by first | rfl | simp [upf, sc]) ?_
          have b_24 := h7 i
          refine g_iload_n F (pc' := 26) dX5_isFree_25 rfl rfl ?_
          refine g_icmp_eq F (pc' := 29) (tgt := 74) dX5_isFree_26 rfl (by decide) (by omega) (by omega) (fun c_26 => ?_) (fun c_26 => ?_)
          · skip
            refine g_iconst F (pc' := 75) dX5_isFree_74 rfl ?_
            refine g_lvw [some (.ref (a 0)), some (.int (iI u)), some (.int (iI d)), none, some (.int (iI i))] (lvw_of _ _ [true, true, true, false, true] rfl) ?_
            exact lp_75 0 (by omega) (by first | exact (zC_t ((freeR_s h0).mpr ⟨c_15, by omega⟩)).symm | exact (zC_f (fun q => by have q2 := (freeR_s h0).mp q; first | exact c_15 q2.1 | (have q3 := q2.2; omega))).symm)
          · skip
            refine g_aload_n F (pc' := 30) dX5_isFree_29 rfl rfl ?_
            refine g_getR F K (k := 0) (fld := 9) (ci := 5) (q := 8) (pc' := 33) iX5_isFree_X5 rfl rfl rfl (by decide) (List.mem_of_getElem? (i := 3) rfl) dX5_isFree_30 rfl ?_
            refine g_iload F (pc' := 35) dX5_isFree_33 rfl rfl ?_
            refine g_iald F K (k := 8) (v := M 8 i) (pc' := 36) rfl (by decide) (by omega) dX5_isFree_35 rfl (by first | rfl | simp [upf, sc]) ?_
            have b_35 := h8 i
            refine g_iload_n F (pc' := 37) dX5_isFree_36 rfl rfl ?_
            refine g_icmp_eq F (pc' := 40) (tgt := 74) dX5_isFree_37 rfl (by decide) (by omega) (by omega) (fun c_37 => ?_) (fun c_37 => ?_)
            · skip
              refine g_iconst F (pc' := 75) dX5_isFree_74 rfl ?_
              refine g_lvw [some (.ref (a 0)), some (.int (iI u)), some (.int (iI d)), none, some (.int (iI i))] (lvw_of _ _ [true, true, true, false, true] rfl) ?_
              exact lp_75 0 (by omega) (by first | exact (zC_t ((freeR_s h0).mpr ⟨c_15, by omega⟩)).symm | exact (zC_f (fun q => by have q2 := (freeR_s h0).mp q; first | exact c_15 q2.1 | (have q3 := q2.2; omega))).symm)
            · skip
              refine g_aload_n F (pc' := 41) dX5_isFree_40 rfl rfl ?_
              refine g_iload_n F (pc' := 42) dX5_isFree_41 rfl rfl ?_
              refine g_callI F K hXc X0 (pc' := 45) (st := []) (c5_x l a M d (by omega)) (cwV 1 F.2.2.2.2 gX5_isFree_X5_x rfl rfl rfl (by decide +kernel) ⟨Nat.le_of_ble_eq_true rfl, Nat.le_of_ble_eq_true rfl⟩) rfl rfl rfl rfl (Nat.le_of_ble_eq_true rfl) dX5_isFree_42 rfl (fun z_42 M_42 q_42 => ?_)
              obtain ⟨rfl, mq_42⟩ := q_42
              have mq_42 := mq_42.symm; subst mq_42
              have b_42 := hE ((4 * d) + 1)
              refine g_aload_n F (pc' := 46) dX5_isFree_45 rfl rfl ?_
              refine g_getR F K (k := 0) (fld := 6) (ci := 5) (q := 5) (pc' := 49) iX5_isFree_X5 rfl rfl rfl (by decide) (List.mem_of_getElem? (i := 4) rfl) dX5_isFree_46 rfl ?_
              refine g_iload F (pc' := 51) dX5_isFree_49 rfl rfl ?_
              refine g_iald F K (k := 5) (v := M 5 i) (pc' := 52) rfl (by decide) (by omega) dX5_isFree_51 rfl (by first | rfl | simp [upf, sc]) ?_
              have b_51 := h5 i
              refine g_icmp_lt F (pc' := 55) (tgt := 70) dX5_isFree_52 rfl (by decide) (by omega) (by omega) (fun c_52 => ?_) (fun c_52 => ?_)
              · skip
                refine g_iconst F (pc' := 71) dX5_isFree_70 rfl ?_
                refine g_goto F (tgt := 75) dX5_isFree_71 (by decide) ?_
                refine g_lvw [some (.ref (a 0)), some (.int (iI u)), some (.int (iI d)), none, some (.int (iI i))] (lvw_of _ _ [true, true, true, false, true] rfl) ?_
                exact lp_75 1 (by omega) (by first | exact (zC_t ((freeR_s h0).mpr ⟨c_15, by omega⟩)).symm | exact (zC_f (fun q => by have q2 := (freeR_s h0).mp q; first | exact c_15 q2.1 | (have q3 := q2.2; omega))).symm)
              · skip
                refine g_aload_n F (pc' := 56) dX5_isFree_55 rfl rfl ?_
                refine g_getR F K (k := 0) (fld := 7) (ci := 5) (q := 6) (pc' := 59) iX5_isFree_X5 rfl rfl rfl (by decide) (List.mem_of_getElem? (i := 5) rfl) dX5_isFree_56 rfl ?_
                refine g_iload F (pc' := 61) dX5_isFree_59 rfl rfl ?_
                refine g_iald F K (k := 6) (v := M 6 i) (pc' := 62) rfl (by decide) (by omega) dX5_isFree_61 rfl (by first | rfl | simp [upf, sc]) ?_
                have b_61 := h6 i
                refine g_aload_n F (pc' := 63) dX5_isFree_62 rfl rfl ?_
                refine g_iload_n F (pc' := 64) dX5_isFree_63 rfl rfl ?_
                refine g_callI F K hXc X0 (pc' := 67) (st := [.int (iI (M 6 i))]) (c5_x l a M u (by omega)) (cwV 1 F.2.2.2.2 gX5_isFree_X5_x rfl rfl rfl (by decide +kernel) ⟨Nat.le_of_ble_eq_true rfl, Nat.le_of_ble_eq_true rfl⟩) rfl rfl rfl rfl (Nat.le_of_ble_eq_true rfl) dX5_isFree_64 rfl (fun z_64 M_64 q_64 => ?_)
                obtain ⟨rfl, mq_64⟩ := q_64
                have mq_64 := mq_64.symm; subst mq_64
                have b_64 := hE ((4 * u) + 1)
                refine g_icmp_ge F (pc' := 70) (tgt := 74) dX5_isFree_67 rfl (by decide) (by omega) (by omega) (fun c_67 => ?_) (fun c_67 => ?_)
                · skip
                  refine g_iconst F (pc' := 75) dX5_isFree_74 rfl ?_
                  refine g_lvw [some (.ref (a 0)), some (.int (iI u)), some (.int (iI d)), none, some (.int (iI i))] (lvw_of _ _ [true, true, true, false, true] rfl) ?_
                  exact lp_75 0 (by omega) (by first | exact (zC_t ((freeR_s h0).mpr ⟨c_15, by omega⟩)).symm | exact (zC_f (fun q => by have q2 := (freeR_s h0).mp q; first | exact c_15 q2.1 | (have q3 := q2.2; omega))).symm)
                · skip
                  refine g_iconst F (pc' := 71) dX5_isFree_70 rfl ?_
                  refine g_goto F (tgt := 75) dX5_isFree_71 (by decide) ?_
                  refine g_lvw [some (.ref (a 0)), some (.int (iI u)), some (.int (iI d)), none, some (.int (iI i))] (lvw_of _ _ [true, true, true, false, true] rfl) ?_
                  exact lp_75 1 (by omega) (by first | exact (zC_t ((freeR_s h0).mpr ⟨c_15, by omega⟩)).symm | exact (zC_f (fun q => by have q2 := (freeR_s h0).mp q; first | exact c_15 q2.1 | (have q3 := q2.2; omega))).symm)
  exact lp_5 ((M 0 11 - 0).toNat + 1) 1 0 (by omega) (by omega) (by omega) (by first | rfl | exact (zC_t (fun j h1 h2 => by omega)).symm)

theorem iX5_counted_X5 : ∀ w ∈ wsX50, w ∈ wsX5_counted := fun _ h => List.mem_cons_of_mem _ (List.mem_append_right _ h)
set_option maxHeartbeats 4000000 in
set_option maxRecDepth 100000 in
theorem c5_counted (l : Launch) (a : Nat → Nat) (M : Mem) (t w : Int) (ht : 0 ≤ t ∧ t ≤ 100000000) (hw : 0 ≤ w ∧ w ≤ 9) (h3 : 0 ≤ M 2 3 ∧ M 2 3 ≤ 3) : CtJ XT l yX5_counted wsX5_counted ({ frames := 0, cells := 0, slots := 0, locals := 0 } : Room) LR a M [.ref (a 0), .long (lI t), .int (iI w)] (fun z M' => z = cntz (M 2 3) t * w ∧ M' = M) := by
  refine CtJ.of (y := yX5_counted) (cc := cX5_counted) (maxL := 4) (ret := (some .long)) (lv := [some (.ref (a 0)), some (.long (lI t)), none, some (.int (iI w))]) (by decide) rfl (Nat.le_of_ble_eq_true rfl) (lvOK_of _ _ ⟨rfl, rfl⟩) ?_
  intro p e s m below meth c D T F K X0 hr hlk
  have hXc := XT_c
  have hdd := sq_R ht
  have htm : Int.tmod (M 2 3) 2 = M 2 3 % 2 := Int.tmod_eq_emod_of_nonneg h3.1
  have htd : Int.tdiv (t * t) 1000 = t * t / 1000 := Int.tdiv_eq_ediv_of_nonneg hdd.1
  refine g_aload_n F (pc' := 1) dX5_counted_0 rfl rfl ?_
  refine g_getR F K (k := 0) (fld := 2) (ci := 5) (q := 2) (pc' := 4) iX5_counted_X5 rfl rfl rfl (by decide) (List.mem_of_getElem? (i := 1) rfl) dX5_counted_1 rfl ?_
  refine g_iconst F (pc' := 5) dX5_counted_4 rfl ?_
  refine g_iald F K (k := 2) (v := M 2 3) (pc' := 6) rfl (by decide) (by decide) dX5_counted_5 rfl (by first | rfl | simp [upf, sc]) ?_
  refine g_iconst F (pc' := 7) dX5_counted_6 rfl ?_
  refine g_irem F (pc' := 8) dX5_counted_7 rfl (by omega) (by decide) (by omega) ?_
  refine g_iconst F (pc' := 9) dX5_counted_8 rfl ?_
  refine g_icmp_ne F (pc' := 12) (tgt := 22) dX5_counted_9 rfl (by decide) (by omega) (by decide) (fun c_9 => ?_) (fun c_9 => ?_)
  · skip
    refine g_lload_n F (pc' := 23) dX5_counted_22 rfl rfl ?_
    refine g_iload_n F (pc' := 24) dX5_counted_23 rfl rfl ?_
    refine g_i2l F (pc' := 25) dX5_counted_24 rfl (by omega) ?_
    refine g_lmul F (pc' := 26) dX5_counted_25 rfl ?_
    exact g_lret F hr hlk dX5_counted_26 (⟨by unfold cntz; first | rw [if_pos (by omega), htd] | rw [if_neg (by omega)], rfl⟩)
  · skip
    refine g_lload_n F (pc' := 13) dX5_counted_12 rfl rfl ?_
    refine g_lload_n F (pc' := 14) dX5_counted_13 rfl rfl ?_
    refine g_lmul F (pc' := 15) dX5_counted_14 rfl ?_
    refine g_ldc2 F (pc' := 18) (z := 1000) dX5_counted_15 rfl (List.mem_of_getElem? (i := 2) rfl) (by decide +kernel) ?_
    refine g_ldiv F (pc' := 19) dX5_counted_18 rfl (by omega) (by decide) (by omega) ?_
    refine g_goto F (tgt := 23) dX5_counted_19 (by decide) ?_
    refine g_iload_n F (pc' := 24) dX5_counted_23 rfl rfl ?_
    refine g_i2l F (pc' := 25) dX5_counted_24 rfl (by omega) ?_
    refine g_lmul F (pc' := 26) dX5_counted_25 rfl ?_
    exact g_lret F hr hlk dX5_counted_26 (⟨by unfold cntz; first | rw [if_pos (by omega), htd] | rw [if_neg (by omega)], rfl⟩)

theorem iX5_both_X5 : ∀ w ∈ wsX50, w ∈ wsX5_both := fun _ h => List.mem_cons_of_mem _ (List.mem_append_right _ h)
set_option maxHeartbeats 4000000 in
set_option maxRecDepth 100000 in
theorem c5_both (l : Launch) (a : Nat → Nat) (M : Mem) (x y : Int) (hx : -9223372036854775808 ≤ x ∧ x < 9223372036854775808) (hy : -9223372036854775808 ≤ y ∧ y < 9223372036854775808) (h3 : 0 ≤ M 2 3 ∧ M 2 3 ≤ 3) : CtJ XT l yX5_both wsX5_both ({ frames := 0, cells := 0, slots := 0, locals := 0 } : Room) LR a M [.ref (a 0), .long (lI x), .long (lI y)] (fun z M' => z = jn (M 2 3) x y ∧ M' = M) := by
  refine CtJ.of (y := yX5_both) (cc := cX5_both) (maxL := 5) (ret := (some .long)) (lv := [some (.ref (a 0)), some (.long (lI x)), none, some (.long (lI y)), none]) (by decide) rfl (Nat.le_of_ble_eq_true rfl) (lvOK_of _ _ ⟨rfl, rfl⟩) ?_
  intro p e s m below meth c D T F K X0 hr hlk
  have hXc := XT_c
  refine g_aload_n F (pc' := 1) dX5_both_0 rfl rfl ?_
  refine g_getR F K (k := 0) (fld := 2) (ci := 5) (q := 2) (pc' := 4) iX5_both_X5 rfl rfl rfl (by decide) (List.mem_of_getElem? (i := 1) rfl) dX5_both_1 rfl ?_
  refine g_iconst F (pc' := 5) dX5_both_4 rfl ?_
  refine g_iald F K (k := 2) (v := M 2 3) (pc' := 6) rfl (by decide) (by decide) dX5_both_5 rfl (by first | rfl | simp [upf, sc]) ?_
  refine g_iconst F (pc' := 7) dX5_both_6 rfl ?_
  refine g_icmp_ge F (pc' := 10) (tgt := 16) dX5_both_7 rfl (by decide) (by omega) (by decide) (fun c_7 => ?_) (fun c_7 => ?_)
  · skip
    refine g_lload_n F (pc' := 17) dX5_both_16 rfl rfl ?_
    refine g_lload_n F (pc' := 18) dX5_both_17 rfl rfl ?_
    refine g_lcmp F (pc' := 19) dX5_both_18 rfl (by omega) (by omega) ?_
    refine g_if_le F (pc' := 22) (tgt := 26) dX5_both_19 rfl (by decide) (cmpz_R _ _) (fun c_19 => ?_) (fun c_19 => ?_)
    · skip
      have c_19 := cmpz_le.mp c_19
      refine g_lload_n F (pc' := 27) dX5_both_26 rfl rfl ?_
      exact g_lret F hr hlk dX5_both_27 (⟨by unfold jn; first | rw [if_pos (by omega)] | (rw [if_neg (by omega)]; omega), rfl⟩)
    · skip
      have c_19 := cmpz_gt.mp c_19
      refine g_lload_n F (pc' := 23) dX5_both_22 rfl rfl ?_
      refine g_goto F (tgt := 27) dX5_both_23 (by decide) ?_
      exact g_lret F hr hlk dX5_both_27 (⟨by unfold jn; first | rw [if_pos (by omega)] | (rw [if_neg (by omega)]; omega), rfl⟩)
  · skip
    refine g_lload_n F (pc' := 11) dX5_both_10 rfl rfl ?_
    refine g_lload_n F (pc' := 12) dX5_both_11 rfl rfl ?_
    refine g_ladd F (pc' := 13) dX5_both_12 rfl ?_
    refine g_goto F (tgt := 27) dX5_both_13 (by decide) ?_
    exact g_lret F hr hlk dX5_both_27 (⟨by unfold jn; first | rw [if_pos (by omega)] | (rw [if_neg (by omega)]; omega), rfl⟩)

theorem iX5_dotsOf_X5 : ∀ w ∈ wsX50, w ∈ wsX5_dotsOf := fun _ h => List.mem_cons_of_mem _ (List.mem_append_right _ h)
set_option maxHeartbeats 4000000 in
set_option maxRecDepth 100000 in
theorem c5_dotsOf (l : Launch) (a : Nat → Nat) (M : Mem) (k sz : Int) (hk : 0 ≤ k ∧ k < 8) (hc : 1 ≤ M 11 k ∧ M 11 k ≤ 8) (hs : 0 ≤ M 13 k ∧ M 13 k ≤ 300 * M 11 k) (hz : 0 ≤ sz ∧ sz ≤ 60) (h4 : 0 ≤ M 2 4 ∧ M 2 4 ≤ 3) : CtI XT l yX5_dotsOf wsX5_dotsOf ({ frames := 0, cells := 0, slots := 0, locals := 0 } : Room) LR a M [.ref (a 0), .int (iI k), .int (iI sz)] (fun z M' => z = dz (M 13 k / M 11 k) sz (M 2 4) ∧ M' = M) := by
  refine CtI.of (y := yX5_dotsOf) (cc := cX5_dotsOf) (maxL := 4) (ret := (some .int)) (lv := [some (.ref (a 0)), some (.int (iI k)), some (.int (iI sz)), none]) (by decide) rfl (Nat.le_of_ble_eq_true rfl) (lvOK_of _ _ ⟨rfl, rfl⟩) ?_
  intro p e s m below meth c D T F K X0 hr hlk
  have hXc := XT_c
  have htd : Int.tdiv (M 13 k) (M 11 k) = M 13 k / M 11 k := Int.tdiv_eq_ediv_of_nonneg hs.1
  have ht := div_R hc.1 hs
  have hm := mul_R ht hz
  have hm2 : (2 * Int.tdiv (M 13 k) (M 11 k)) * sz = 2 * ((M 13 k / M 11 k) * sz) := by rw [htd, Int.mul_assoc]
  have hn0 : Int.tdiv (((2 * Int.tdiv (M 13 k) (M 11 k)) * sz) + 1000) 2000 = ((M 13 k / M 11 k) * sz + 500) / 1000 := by
    rw [Int.tdiv_eq_ediv_of_nonneg (by omega), hm2]; omega
  refine g_iconst F (pc' := 1) dX5_dotsOf_0 rfl ?_
  refine g_aload_n F (pc' := 2) dX5_dotsOf_1 rfl rfl ?_
  refine g_getR F K (k := 0) (fld := 15) (ci := 5) (q := 13) (pc' := 5) iX5_dotsOf_X5 rfl rfl rfl (by decide) (List.mem_of_getElem? (i := 1) rfl) dX5_dotsOf_2 rfl ?_
  refine g_iload_n F (pc' := 6) dX5_dotsOf_5 rfl rfl ?_
  refine g_iald F K (k := 13) (v := M 13 k) (pc' := 7) rfl (by decide) (by omega) dX5_dotsOf_6 rfl (by first | rfl | simp [upf, sc]) ?_
  refine g_aload_n F (pc' := 8) dX5_dotsOf_7 rfl rfl ?_
  refine g_getR F K (k := 0) (fld := 13) (ci := 5) (q := 11) (pc' := 11) iX5_dotsOf_X5 rfl rfl rfl (by decide) (List.mem_of_getElem? (i := 2) rfl) dX5_dotsOf_8 rfl ?_
  refine g_iload_n F (pc' := 12) dX5_dotsOf_11 rfl rfl ?_
  refine g_iald F K (k := 11) (v := M 11 k) (pc' := 13) rfl (by decide) (by omega) dX5_dotsOf_12 rfl (by first | rfl | simp [upf, sc]) ?_
  refine g_idiv F (pc' := 14) dX5_dotsOf_13 rfl (by omega) (by omega) (by omega) ?_
  refine g_imul F (pc' := 15) dX5_dotsOf_14 rfl ?_
  refine g_iload_n F (pc' := 16) dX5_dotsOf_15 rfl rfl ?_
  refine g_imul F (pc' := 17) dX5_dotsOf_16 rfl ?_
  refine g_sipush F (pc' := 20) dX5_dotsOf_17 rfl (by decide +kernel) ?_
  refine g_iadd F (pc' := 21) dX5_dotsOf_20 rfl ?_
  refine g_sipush F (pc' := 24) dX5_dotsOf_21 rfl (by decide +kernel) ?_
  refine g_idiv F (pc' := 25) dX5_dotsOf_24 rfl (by omega) (by decide) (by omega) ?_
  refine g_istore_n F (pc' := 26) (lv' := [some (.ref (a 0)), some (.int (iI k)), some (.int (iI sz)), some (.int (iI (Int.tdiv (((2 * (Int.tdiv (M 13 k) (M 11 k))) * sz) + 1000) 2000)))]) dX5_dotsOf_25 rfl (by decide) rfl ?_
  refine g_iload_n F (pc' := 27) dX5_dotsOf_26 rfl rfl ?_
  refine g_iconst F (pc' := 28) dX5_dotsOf_27 rfl ?_
  refine g_icmp_ge F (pc' := 31) (tgt := 35) dX5_dotsOf_28 rfl (by decide) (by omega) (by decide) (fun c_28 => ?_) (fun c_28 => ?_)
  · skip
    refine g_iload_n F (pc' := 36) dX5_dotsOf_35 rfl rfl ?_
    refine g_aload_n F (pc' := 37) dX5_dotsOf_36 rfl rfl ?_
    refine g_getR F K (k := 0) (fld := 2) (ci := 5) (q := 2) (pc' := 40) iX5_dotsOf_X5 rfl rfl rfl (by decide) (List.mem_of_getElem? (i := 3) rfl) dX5_dotsOf_37 rfl ?_
    refine g_iconst F (pc' := 41) dX5_dotsOf_40 rfl ?_
    refine g_iald F K (k := 2) (v := M 2 4) (pc' := 42) rfl (by decide) (by decide) dX5_dotsOf_41 rfl (by first | rfl | simp [upf, sc]) ?_
    refine g_iadd F (pc' := 43) dX5_dotsOf_42 rfl ?_
    exact g_iret F hr hlk dX5_dotsOf_43 (⟨by unfold dz; omega, rfl⟩)
  · skip
    refine g_iconst F (pc' := 32) dX5_dotsOf_31 rfl ?_
    refine g_goto F (tgt := 36) dX5_dotsOf_32 (by decide) ?_
    refine g_aload_n F (pc' := 37) dX5_dotsOf_36 rfl rfl ?_
    refine g_getR F K (k := 0) (fld := 2) (ci := 5) (q := 2) (pc' := 40) iX5_dotsOf_X5 rfl rfl rfl (by decide) (List.mem_of_getElem? (i := 3) rfl) dX5_dotsOf_37 rfl ?_
    refine g_iconst F (pc' := 41) dX5_dotsOf_40 rfl ?_
    refine g_iald F K (k := 2) (v := M 2 4) (pc' := 42) rfl (by decide) (by decide) dX5_dotsOf_41 rfl (by first | rfl | simp [upf, sc]) ?_
    refine g_iadd F (pc' := 43) dX5_dotsOf_42 rfl ?_
    exact g_iret F hr hlk dX5_dotsOf_43 (⟨by unfold dz; omega, rfl⟩)

theorem iX5_stemDrift_X5 : ∀ w ∈ wsX50, w ∈ wsX5_stemDrift := fun _ h => List.mem_cons_of_mem _ (List.mem_append_right _ h)
set_option maxHeartbeats 4000000 in
set_option maxRecDepth 100000 in
theorem c5_stemDrift (l : Launch) (a : Nat → Nat) (M : Mem) (i t sz : Int) (hi : 0 ≤ i ∧ i < 8) (ht : 0 ≤ t ∧ t ≤ 60) (hz : 0 ≤ sz ∧ sz ≤ 60) (h5 : 0 ≤ M 5 i ∧ M 5 i ≤ 999) (h6 : 0 ≤ M 6 i ∧ M 6 i ≤ 999) (hw : 0 ≤ M 16 i ∧ M 16 i ≤ 60) (h1 : 0 ≤ M 2 1 ∧ M 2 1 ≤ 9) (h3 : 0 ≤ M 2 3 ∧ M 2 3 ≤ 3) : CtJ XT l yX5_stemDrift wsX5_stemDrift ({ frames := 1, cells := 0, slots := 0, locals := 23 } : Room) LR a M [.ref (a 0), .int (iI i), .int (iI t), .int (iI sz)] (fun z M' => z = cntz (M 2 3) (absz (1000 * (2 * t + M 16 i) - (M 5 i + M 6 i) * sz)) * M 2 1 ∧ M' = M) := by
  refine CtJ.of (y := yX5_stemDrift) (cc := cX5_stemDrift) (maxL := 6) (ret := (some .long)) (lv := [some (.ref (a 0)), some (.int (iI i)), some (.int (iI t)), some (.int (iI sz)), none, none]) (by decide) rfl (Nat.le_of_ble_eq_true rfl) (lvOK_of _ _ ⟨rfl, rfl⟩) ?_
  intro p e s m below meth c D T F K X0 hr hlk
  have hXc := XT_c
  have hm := mul_R (A := 1998) (B := 60) (x := M 5 i + M 6 i) (y := sz) (by omega) hz
  refine g_ldc2 F (pc' := 3) (z := 1000) dX5_stemDrift_0 rfl (List.mem_of_getElem? (i := 1) rfl) (by decide +kernel) ?_
  refine g_iconst F (pc' := 4) dX5_stemDrift_3 rfl ?_
  refine g_iload_n F (pc' := 5) dX5_stemDrift_4 rfl rfl ?_
  refine g_imul F (pc' := 6) dX5_stemDrift_5 rfl ?_
  refine g_aload_n F (pc' := 7) dX5_stemDrift_6 rfl rfl ?_
  refine g_getR F K (k := 0) (fld := 19) (ci := 5) (q := 16) (pc' := 10) iX5_stemDrift_X5 rfl rfl rfl (by decide) (List.mem_of_getElem? (i := 2) rfl) dX5_stemDrift_7 rfl ?_
  refine g_iload_n F (pc' := 11) dX5_stemDrift_10 rfl rfl ?_
  refine g_iald F K (k := 16) (v := M 16 i) (pc' := 12) rfl (by decide) (by omega) dX5_stemDrift_11 rfl (by first | rfl | simp [upf, sc]) ?_
  refine g_iadd F (pc' := 13) dX5_stemDrift_12 rfl ?_
  refine g_i2l F (pc' := 14) dX5_stemDrift_13 rfl (by omega) ?_
  refine g_lmul F (pc' := 15) dX5_stemDrift_14 rfl ?_
  refine g_aload_n F (pc' := 16) dX5_stemDrift_15 rfl rfl ?_
  refine g_getR F K (k := 0) (fld := 6) (ci := 5) (q := 5) (pc' := 19) iX5_stemDrift_X5 rfl rfl rfl (by decide) (List.mem_of_getElem? (i := 3) rfl) dX5_stemDrift_16 rfl ?_
  refine g_iload_n F (pc' := 20) dX5_stemDrift_19 rfl rfl ?_
  refine g_iald F K (k := 5) (v := M 5 i) (pc' := 21) rfl (by decide) (by omega) dX5_stemDrift_20 rfl (by first | rfl | simp [upf, sc]) ?_
  refine g_aload_n F (pc' := 22) dX5_stemDrift_21 rfl rfl ?_
  refine g_getR F K (k := 0) (fld := 7) (ci := 5) (q := 6) (pc' := 25) iX5_stemDrift_X5 rfl rfl rfl (by decide) (List.mem_of_getElem? (i := 4) rfl) dX5_stemDrift_22 rfl ?_
  refine g_iload_n F (pc' := 26) dX5_stemDrift_25 rfl rfl ?_
  refine g_iald F K (k := 6) (v := M 6 i) (pc' := 27) rfl (by decide) (by omega) dX5_stemDrift_26 rfl (by first | rfl | simp [upf, sc]) ?_
  refine g_iadd F (pc' := 28) dX5_stemDrift_27 rfl ?_
  refine g_i2l F (pc' := 29) dX5_stemDrift_28 rfl (by omega) ?_
  refine g_iload_n F (pc' := 30) dX5_stemDrift_29 rfl rfl ?_
  refine g_i2l F (pc' := 31) dX5_stemDrift_30 rfl (by omega) ?_
  refine g_lmul F (pc' := 32) dX5_stemDrift_31 rfl ?_
  refine g_lsub F (pc' := 33) dX5_stemDrift_32 rfl ?_
  refine g_lstore F (pc' := 35) (lv' := [some (.ref (a 0)), some (.int (iI i)), some (.int (iI t)), some (.int (iI sz)), some (.long (lI ((1000 * ((2 * t) + (M 16 i))) - (((M 5 i) + (M 6 i)) * sz)))), none]) dX5_stemDrift_33 rfl (by decide) rfl ?_
  refine g_aload_n F (pc' := 36) dX5_stemDrift_35 rfl rfl ?_
  refine g_lload F (pc' := 38) dX5_stemDrift_36 rfl rfl ?_
  refine g_lconst F (pc' := 39) (z := 0) dX5_stemDrift_38 rfl rfl ?_
  refine g_lcmp F (pc' := 40) dX5_stemDrift_39 rfl (by omega) (by decide) ?_
  refine g_if_ge F (pc' := 43) (tgt := 49) dX5_stemDrift_40 rfl (by decide) (cmpz_R _ _) (fun c_40 => ?_) (fun c_40 => ?_)
  · skip
    have c_40 := cmpz_ge.mp c_40
    refine g_lload F (pc' := 51) dX5_stemDrift_49 rfl rfl ?_
    refine g_aload_n F (pc' := 52) dX5_stemDrift_51 rfl rfl ?_
    refine g_getR F K (k := 0) (fld := 2) (ci := 5) (q := 2) (pc' := 55) iX5_stemDrift_X5 rfl rfl rfl (by decide) (List.mem_of_getElem? (i := 5) rfl) dX5_stemDrift_52 rfl ?_
    refine g_iconst F (pc' := 56) dX5_stemDrift_55 rfl ?_
    refine g_iald F K (k := 2) (v := M 2 1) (pc' := 57) rfl (by decide) (by decide) dX5_stemDrift_56 rfl (by first | rfl | simp [upf, sc]) ?_
    refine g_callJ F K hXc X0 (pc' := 60) (st := []) (c5_counted l a M ((1000 * ((2 * t) + (M 16 i))) - (((M 5 i) + (M 6 i)) * sz)) (M 2 1) (by omega) (by omega) (by omega)) (cwV 2 F.2.2.2.2 gX5_stemDrift_X5_counted rfl rfl rfl (by decide +kernel) ⟨Nat.le_of_ble_eq_true rfl, Nat.le_of_ble_eq_true rfl⟩) rfl rfl rfl rfl (Nat.le_of_ble_eq_true rfl) dX5_stemDrift_57 rfl (fun z_57 M_57 q_57 => ?_)
    obtain ⟨rfl, mq_57⟩ := q_57
    have mq_57 := mq_57.symm; subst mq_57
    exact g_lret F hr hlk dX5_stemDrift_60 (⟨by unfold absz; first | rw [if_pos (by omega)] | rw [if_neg (by omega)], rfl⟩)
  · skip
    have c_40 := cmpz_lt.mp c_40
    refine g_lload F (pc' := 45) dX5_stemDrift_43 rfl rfl ?_
    refine g_lneg F (pc' := 46) dX5_stemDrift_45 rfl ?_
    refine g_goto F (tgt := 51) dX5_stemDrift_46 (by decide) ?_
    refine g_aload_n F (pc' := 52) dX5_stemDrift_51 rfl rfl ?_
    refine g_getR F K (k := 0) (fld := 2) (ci := 5) (q := 2) (pc' := 55) iX5_stemDrift_X5 rfl rfl rfl (by decide) (List.mem_of_getElem? (i := 5) rfl) dX5_stemDrift_52 rfl ?_
    refine g_iconst F (pc' := 56) dX5_stemDrift_55 rfl ?_
    refine g_iald F K (k := 2) (v := M 2 1) (pc' := 57) rfl (by decide) (by decide) dX5_stemDrift_56 rfl (by first | rfl | simp [upf, sc]) ?_
    refine g_callJ F K hXc X0 (pc' := 60) (st := []) (c5_counted l a M (-((1000 * ((2 * t) + (M 16 i))) - (((M 5 i) + (M 6 i)) * sz))) (M 2 1) (by omega) (by omega) (by omega)) (cwV 2 F.2.2.2.2 gX5_stemDrift_X5_counted rfl rfl rfl (by decide +kernel) ⟨Nat.le_of_ble_eq_true rfl, Nat.le_of_ble_eq_true rfl⟩) rfl rfl rfl rfl (Nat.le_of_ble_eq_true rfl) dX5_stemDrift_57 rfl (fun z_57 M_57 q_57 => ?_)
    obtain ⟨rfl, mq_57⟩ := q_57
    have mq_57 := mq_57.symm; subst mq_57
    exact g_lret F hr hlk dX5_stemDrift_60 (⟨by unfold absz; first | rw [if_pos (by omega)] | rw [if_neg (by omega)], rfl⟩)

theorem iX5_gapDrift_X5 : ∀ w ∈ wsX50, w ∈ wsX5_gapDrift := fun _ h => List.mem_cons_of_mem _ (List.mem_append_right _ h)
set_option maxHeartbeats 4000000 in
set_option maxRecDepth 100000 in
theorem c5_gapDrift (l : Launch) (a : Nat → Nat) (M : Mem) (i bf t sz : Int) (hi : 1 ≤ i ∧ i < 8) (hb : 0 ≤ bf ∧ bf ≤ 60) (ht : 0 ≤ t ∧ t ≤ 60) (hz : 0 ≤ sz ∧ sz ≤ 60) (h5 : 0 ≤ M 5 i ∧ M 5 i ≤ 999) (h6 : 0 ≤ M 6 (i - 1) ∧ M 6 (i - 1) ≤ 999) (hw : 0 ≤ M 16 (i - 1) ∧ M 16 (i - 1) ≤ 60) (h1 : 0 ≤ M 2 2 ∧ M 2 2 ≤ 9) (h3 : 0 ≤ M 2 3 ∧ M 2 3 ≤ 3) : CtJ XT l yX5_gapDrift wsX5_gapDrift ({ frames := 1, cells := 0, slots := 0, locals := 23 } : Room) LR a M [.ref (a 0), .int (iI i), .int (iI bf), .int (iI t), .int (iI sz)] (fun z M' => z = cntz (M 2 3) (2 * absz (1000 * ((t - bf) - M 16 (i - 1)) - (M 5 i - M 6 (i - 1)) * sz)) * M 2 2 ∧ M' = M) := by
  refine CtJ.of (y := yX5_gapDrift) (cc := cX5_gapDrift) (maxL := 7) (ret := (some .long)) (lv := [some (.ref (a 0)), some (.int (iI i)), some (.int (iI bf)), some (.int (iI t)), some (.int (iI sz)), none, none]) (by decide) rfl (Nat.le_of_ble_eq_true rfl) (lvOK_of _ _ ⟨rfl, rfl⟩) ?_
  intro p e s m below meth c D T F K X0 hr hlk
  have hXc := XT_c
  have hm := mulS_R (x := M 5 i - M 6 (i - 1)) (y := sz) (by omega) hz
  refine g_ldc2 F (pc' := 3) (z := 1000) dX5_gapDrift_0 rfl (List.mem_of_getElem? (i := 1) rfl) (by decide +kernel) ?_
  refine g_iload_n F (pc' := 4) dX5_gapDrift_3 rfl rfl ?_
  refine g_iload_n F (pc' := 5) dX5_gapDrift_4 rfl rfl ?_
  refine g_isub F (pc' := 6) dX5_gapDrift_5 rfl ?_
  refine g_aload_n F (pc' := 7) dX5_gapDrift_6 rfl rfl ?_
  refine g_getR F K (k := 0) (fld := 19) (ci := 5) (q := 16) (pc' := 10) iX5_gapDrift_X5 rfl rfl rfl (by decide) (List.mem_of_getElem? (i := 2) rfl) dX5_gapDrift_7 rfl ?_
  refine g_iload_n F (pc' := 11) dX5_gapDrift_10 rfl rfl ?_
  refine g_iconst F (pc' := 12) dX5_gapDrift_11 rfl ?_
  refine g_isub F (pc' := 13) dX5_gapDrift_12 rfl ?_
  refine g_iald F K (k := 16) (v := M 16 (i - 1)) (pc' := 14) rfl (by decide) (by omega) dX5_gapDrift_13 rfl (by first | rfl | simp [upf, sc]) ?_
  refine g_isub F (pc' := 15) dX5_gapDrift_14 rfl ?_
  refine g_i2l F (pc' := 16) dX5_gapDrift_15 rfl (by omega) ?_
  refine g_lmul F (pc' := 17) dX5_gapDrift_16 rfl ?_
  refine g_aload_n F (pc' := 18) dX5_gapDrift_17 rfl rfl ?_
  refine g_getR F K (k := 0) (fld := 6) (ci := 5) (q := 5) (pc' := 21) iX5_gapDrift_X5 rfl rfl rfl (by decide) (List.mem_of_getElem? (i := 3) rfl) dX5_gapDrift_18 rfl ?_
  refine g_iload_n F (pc' := 22) dX5_gapDrift_21 rfl rfl ?_
  refine g_iald F K (k := 5) (v := M 5 i) (pc' := 23) rfl (by decide) (by omega) dX5_gapDrift_22 rfl (by first | rfl | simp [upf, sc]) ?_
  refine g_aload_n F (pc' := 24) dX5_gapDrift_23 rfl rfl ?_
  refine g_getR F K (k := 0) (fld := 7) (ci := 5) (q := 6) (pc' := 27) iX5_gapDrift_X5 rfl rfl rfl (by decide) (List.mem_of_getElem? (i := 4) rfl) dX5_gapDrift_24 rfl ?_
  refine g_iload_n F (pc' := 28) dX5_gapDrift_27 rfl rfl ?_
  refine g_iconst F (pc' := 29) dX5_gapDrift_28 rfl ?_
  refine g_isub F (pc' := 30) dX5_gapDrift_29 rfl ?_
  refine g_iald F K (k := 6) (v := M 6 (i - 1)) (pc' := 31) rfl (by decide) (by omega) dX5_gapDrift_30 rfl (by first | rfl | simp [upf, sc]) ?_
  refine g_isub F (pc' := 32) dX5_gapDrift_31 rfl ?_
  refine g_i2l F (pc' := 33) dX5_gapDrift_32 rfl (by omega) ?_
  refine g_iload F (pc' := 35) dX5_gapDrift_33 rfl rfl ?_
  refine g_i2l F (pc' := 36) dX5_gapDrift_35 rfl (by omega) ?_
  refine g_lmul F (pc' := 37) dX5_gapDrift_36 rfl ?_
  refine g_lsub F (pc' := 38) dX5_gapDrift_37 rfl ?_
  refine g_lstore F (pc' := 40) (lv' := [some (.ref (a 0)), some (.int (iI i)), some (.int (iI bf)), some (.int (iI t)), some (.int (iI sz)), some (.long (lI ((1000 * ((t - bf) - (M 16 (i - 1)))) - (((M 5 i) - (M 6 (i - 1))) * sz)))), none]) dX5_gapDrift_38 rfl (by decide) rfl ?_
  refine g_aload_n F (pc' := 41) dX5_gapDrift_40 rfl rfl ?_
  refine g_lload F (pc' := 43) dX5_gapDrift_41 rfl rfl ?_
  refine g_lconst F (pc' := 44) (z := 0) dX5_gapDrift_43 rfl rfl ?_
  refine g_lcmp F (pc' := 45) dX5_gapDrift_44 rfl (by omega) (by decide) ?_
  refine g_if_ge F (pc' := 48) (tgt := 57) dX5_gapDrift_45 rfl (by decide) (cmpz_R _ _) (fun c_45 => ?_) (fun c_45 => ?_)
  · skip
    have c_45 := cmpz_ge.mp c_45
    refine g_ldc2 F (pc' := 60) (z := 2) dX5_gapDrift_57 rfl (List.mem_of_getElem? (i := 6) rfl) (by decide +kernel) ?_
    refine g_lload F (pc' := 62) dX5_gapDrift_60 rfl rfl ?_
    refine g_lmul F (pc' := 63) dX5_gapDrift_62 rfl ?_
    refine g_aload_n F (pc' := 64) dX5_gapDrift_63 rfl rfl ?_
    refine g_getR F K (k := 0) (fld := 2) (ci := 5) (q := 2) (pc' := 67) iX5_gapDrift_X5 rfl rfl rfl (by decide) (List.mem_of_getElem? (i := 7) rfl) dX5_gapDrift_64 rfl ?_
    refine g_iconst F (pc' := 68) dX5_gapDrift_67 rfl ?_
    refine g_iald F K (k := 2) (v := M 2 2) (pc' := 69) rfl (by decide) (by decide) dX5_gapDrift_68 rfl (by first | rfl | simp [upf, sc]) ?_
    refine g_callJ F K hXc X0 (pc' := 72) (st := []) (c5_counted l a M (2 * ((1000 * ((t - bf) - (M 16 (i - 1)))) - (((M 5 i) - (M 6 (i - 1))) * sz))) (M 2 2) (by omega) (by omega) (by omega)) (cwV 2 F.2.2.2.2 gX5_gapDrift_X5_counted rfl rfl rfl (by decide +kernel) ⟨Nat.le_of_ble_eq_true rfl, Nat.le_of_ble_eq_true rfl⟩) rfl rfl rfl rfl (Nat.le_of_ble_eq_true rfl) dX5_gapDrift_69 rfl (fun z_69 M_69 q_69 => ?_)
    obtain ⟨rfl, mq_69⟩ := q_69
    have mq_69 := mq_69.symm; subst mq_69
    exact g_lret F hr hlk dX5_gapDrift_72 (⟨by unfold absz; first | rw [if_pos (by omega)] | (rw [if_neg (by omega)]; congr 2; omega), rfl⟩)
  · skip
    have c_45 := cmpz_lt.mp c_45
    refine g_ldc2 F (pc' := 51) (z := (-2)) dX5_gapDrift_48 rfl (List.mem_of_getElem? (i := 5) rfl) (by decide +kernel) ?_
    refine g_lload F (pc' := 53) dX5_gapDrift_51 rfl rfl ?_
    refine g_lmul F (pc' := 54) dX5_gapDrift_53 rfl ?_
    refine g_goto F (tgt := 63) dX5_gapDrift_54 (by decide) ?_
    refine g_aload_n F (pc' := 64) dX5_gapDrift_63 rfl rfl ?_
    refine g_getR F K (k := 0) (fld := 2) (ci := 5) (q := 2) (pc' := 67) iX5_gapDrift_X5 rfl rfl rfl (by decide) (List.mem_of_getElem? (i := 7) rfl) dX5_gapDrift_64 rfl ?_
    refine g_iconst F (pc' := 68) dX5_gapDrift_67 rfl ?_
    refine g_iald F K (k := 2) (v := M 2 2) (pc' := 69) rfl (by decide) (by decide) dX5_gapDrift_68 rfl (by first | rfl | simp [upf, sc]) ?_
    refine g_callJ F K hXc X0 (pc' := 72) (st := []) (c5_counted l a M ((-2) * ((1000 * ((t - bf) - (M 16 (i - 1)))) - (((M 5 i) - (M 6 (i - 1))) * sz))) (M 2 2) (by omega) (by omega) (by omega)) (cwV 2 F.2.2.2.2 gX5_gapDrift_X5_counted rfl rfl rfl (by decide +kernel) ⟨Nat.le_of_ble_eq_true rfl, Nat.le_of_ble_eq_true rfl⟩) rfl rfl rfl rfl (Nat.le_of_ble_eq_true rfl) dX5_gapDrift_69 rfl (fun z_69 M_69 q_69 => ?_)
    obtain ⟨rfl, mq_69⟩ := q_69
    have mq_69 := mq_69.symm; subst mq_69
    exact g_lret F hr hlk dX5_gapDrift_72 (⟨by unfold absz; first | rw [if_pos (by omega)] | (rw [if_neg (by omega)]; congr 2; omega), rfl⟩)
end
section
/-! ===== the pad's text: faults and numbers ===== -/
def upz (p : Int → Int) : Int := if p 0 = 117 then 1 else 0
def isF (p : Int → Int) (n i : Int) : Prop := i < n ∧ (48 ≤ p i ∧ p i ≤ 57)
noncomputable def fg (p : Int → Int) (n t : Int) : Int := pif (isF p n t) (pif (isF p n (t + 1)) (pif (isF p n (t + 2)) 3 2) 1) 0
def vz (p : Int → Int) (t : Int) : Nat → Int
  | 0 => 0
  | k + 1 => (10 * vz p t k + p (t + k)) - 48
def vI (p : Int → Int) (t k : Int) : Int := vz p t k.toNat
theorem vI_s {p : Int → Int} {t k : Int} (h : 0 ≤ k) : vI p t (k + 1) = (10 * vI p t k + p (t + k)) - 48 := by
  unfold vI
  rw [show (k + 1).toNat = k.toNat + 1 by omega]
  show (10 * vz p t k.toNat + p (t + (k.toNat : Int))) - 48 = _
  rw [show ((k.toNat : Nat) : Int) = k by omega]
theorem isF_s {p : Int → Int} {n t k : Int} (h : ∀ j, 0 ≤ j → j < k → isF p n (t + j)) (hk : isF p n (t + k)) : ∀ j, 0 ≤ j → j < k + 1 → isF p n (t + j) := by
  intro j h1 h2
  by_cases hj : j = k
  · subst hj; exact hk
  · exact h j h1 (by omega)
theorem vz_R {p : Int → Int} {n t : Int} : ∀ (k : Nat), (∀ j : Int, 0 ≤ j → j < k → isF p n (t + j)) → 0 ≤ vz p t k ∧ vz p t k < 10 ^ k
  | 0, _ => by simp [vz]
  | k + 1, h => by
    have h1 := vz_R k (fun j h1 h2 => h j h1 (by omega))
    have h2 := (h k (by omega) (by omega)).2
    have e : (10 : Int) ^ (k + 1) = 10 ^ k * 10 := Int.pow_succ 10 k
    rw [e]
    show 0 ≤ (10 * vz p t k + p (t + k)) - 48 ∧ (10 * vz p t k + p (t + k)) - 48 < 10 ^ k * 10
    omega
theorem vI_R {p : Int → Int} {n t k x : Int} (hk : 0 ≤ k ∧ k ≤ 3) (h3 : k < 3) (h0 : 0 ≤ t) (hal : ∀ j, 0 ≤ j → j < k → isF p n (t + j)) (hx : 48 ≤ p x ∧ p x ≤ 57) (ht : x = t + k) : 0 ≤ vI p t (k + 1) ∧ vI p t (k + 1) ≤ 1000 := by
  have h1 := vz_R k.toNat (fun j h1 h2 => hal j h1 (by omega))
  rw [vI_s hk.1, ← ht]
  have hc : k = 0 ∨ k = 1 ∨ k = 2 := by omega
  unfold vI
  rcases hc with rfl | rfl | rfl
  · have h4 : (10 : Int) ^ (0 : Int).toNat = 1 := rfl
    rw [h4] at h1; omega
  · have h4 : (10 : Int) ^ (1 : Int).toNat = 10 := rfl
    rw [h4] at h1; omega
  · have h4 : (10 : Int) ^ (2 : Int).toNat = 100 := rfl
    rw [h4] at h1; omega
theorem fg_is {p : Int → Int} {n t k : Int} (hk : 0 ≤ k ∧ k ≤ 3) (hal : ∀ j, 0 ≤ j → j < k → isF p n (t + j)) (hs : k = 3 ∨ ¬ isF p n (t + k)) : fg p n t = k := by
  unfold fg
  have hc : k = 0 ∨ k = 1 ∨ k = 2 ∨ k = 3 := by omega
  rcases hc with rfl | rfl | rfl | rfl
  · rw [pif_f]
    rcases hs with h | h
    · exact absurd h (by decide)
    · simpa using h
  · have h0 := hal 0 (by decide) (by decide)
    rw [pif_t (by simpa using h0), pif_f]
    rcases hs with h | h
    · exact absurd h (by decide)
    · exact h
  · have h0 := hal 0 (by decide) (by decide)
    have h1 := hal 1 (by decide) (by decide)
    rw [pif_t (by simpa using h0), pif_t h1, pif_f]
    rcases hs with h | h
    · exact absurd h (by decide)
    · exact h
  · have h0 := hal 0 (by decide) (by decide)
    have h1 := hal 1 (by decide) (by decide)
    have h2 := hal 2 (by decide) (by decide)
    rw [pif_t (by simpa using h0), pif_t h1, pif_t h2]
theorem fg_0 {p : Int → Int} {n t : Int} (h : ¬ isF p n t) : fg p n t = 0 := pif_f h
theorem fg_R (p : Int → Int) (n t : Int) : 0 ≤ fg p n t ∧ fg p n t ≤ 3 := by
  unfold fg pif
  repeat' split
  all_goals omega
theorem fg_p {p : Int → Int} {n t : Int} (h : isF p n t) : fg p n t ≠ 0 := by
  unfold fg
  rw [pif_t h]
  unfold pif
  repeat' split
  all_goals omega
theorem fg_le {p : Int → Int} {n t : Int} (h : t ≤ n) : t + fg p n t ≤ n := by
  unfold fg
  by_cases h1 : isF p n t
  · rw [pif_t h1]
    by_cases h2 : isF p n (t + 1)
    · rw [pif_t h2]
      by_cases h3 : isF p n (t + 2)
      · rw [pif_t h3]; have := h3.1; omega
      · rw [pif_f h3]; have := h2.1; omega
    · rw [pif_f h2]; have := h1.1; omega
  · rw [pif_f h1]; omega
noncomputable def pe1 (p : Int → Int) (n : Int) : Int := 1 + fg p n 1
noncomputable def pa2 (p : Int → Int) (n : Int) : Int := pe1 p n + 1
noncomputable def pe2 (p : Int → Int) (n : Int) : Int := pa2 p n + fg p n (pa2 p n)
noncomputable def pa3 (p : Int → Int) (n : Int) : Int := pe2 p n + 1
noncomputable def pe3 (p : Int → Int) (n : Int) : Int := pa3 p n + fg p n (pa3 p n)
noncomputable def pv1 (p : Int → Int) (n : Int) : Int := vI p 1 (fg p n 1)
noncomputable def pv2 (p : Int → Int) (n : Int) : Int := vI p (pa2 p n) (fg p n (pa2 p n))
noncomputable def pv3 (p : Int → Int) (n : Int) : Int := vI p (pa3 p n) (fg p n (pa3 p n))
def pst (p : Int → Int) (n : Int) : Prop := 0 < n ∧ (p 0 = 117 ∨ p 0 = 100)
noncomputable def fl (p : Int → Int) (n : Int) : Int :=
  pif (pst p n) (pif (fg p n 1 = 0) 1 (pif (pe1 p n < n ∧ p (pe1 p n) = 44) (pif (fg p n (pa2 p n) = 0) (pa2 p n) (pif (pe2 p n < n ∧ p (pe2 p n) = 45) (pif (fg p n (pa3 p n) = 0) (pa3 p n) (pif (pe3 p n < n) (pe3 p n) (pif (pv2 p n < pv3 p n) (-6) n))) (pe2 p n))) (pe1 p n))) 0
section FL
variable {p : Int → Int} {n : Int}
theorem fl_0 (h : ¬ pst p n) : fl p n = 0 := pif_f h
theorem fl_1 (hs : pst p n) (h : fg p n 1 = 0) : fl p n = 1 := by unfold fl; rw [pif_t hs, pif_t h]
theorem fl_2 (hs : pst p n) (h1 : fg p n 1 ≠ 0) (h : ¬ (pe1 p n < n ∧ p (pe1 p n) = 44)) : fl p n = pe1 p n := by unfold fl; rw [pif_t hs, pif_f h1, pif_f h]
theorem fl_3 (hs : pst p n) (h1 : fg p n 1 ≠ 0) (h2 : pe1 p n < n ∧ p (pe1 p n) = 44) (h : fg p n (pa2 p n) = 0) : fl p n = pa2 p n := by unfold fl; rw [pif_t hs, pif_f h1, pif_t h2, pif_t h]
theorem fl_4 (hs : pst p n) (h1 : fg p n 1 ≠ 0) (h2 : pe1 p n < n ∧ p (pe1 p n) = 44) (h3 : fg p n (pa2 p n) ≠ 0) (h : ¬ (pe2 p n < n ∧ p (pe2 p n) = 45)) : fl p n = pe2 p n := by unfold fl; rw [pif_t hs, pif_f h1, pif_t h2, pif_f h3, pif_f h]
theorem fl_5 (hs : pst p n) (h1 : fg p n 1 ≠ 0) (h2 : pe1 p n < n ∧ p (pe1 p n) = 44) (h3 : fg p n (pa2 p n) ≠ 0) (h4 : pe2 p n < n ∧ p (pe2 p n) = 45) (h : fg p n (pa3 p n) = 0) : fl p n = pa3 p n := by unfold fl; rw [pif_t hs, pif_f h1, pif_t h2, pif_f h3, pif_t h4, pif_t h]
theorem fl_6 (hs : pst p n) (h1 : fg p n 1 ≠ 0) (h2 : pe1 p n < n ∧ p (pe1 p n) = 44) (h3 : fg p n (pa2 p n) ≠ 0) (h4 : pe2 p n < n ∧ p (pe2 p n) = 45) (h5 : fg p n (pa3 p n) ≠ 0) (h : pe3 p n < n) : fl p n = pe3 p n := by unfold fl; rw [pif_t hs, pif_f h1, pif_t h2, pif_f h3, pif_t h4, pif_f h5, pif_t h]
theorem fl_7 (hs : pst p n) (h1 : fg p n 1 ≠ 0) (h2 : pe1 p n < n ∧ p (pe1 p n) = 44) (h3 : fg p n (pa2 p n) ≠ 0) (h4 : pe2 p n < n ∧ p (pe2 p n) = 45) (h5 : fg p n (pa3 p n) ≠ 0) (h6 : ¬ pe3 p n < n) (h : pv2 p n < pv3 p n) : fl p n = -6 := by unfold fl; rw [pif_t hs, pif_f h1, pif_t h2, pif_f h3, pif_t h4, pif_f h5, pif_f h6, pif_t h]
theorem fl_8 (hs : pst p n) (h1 : fg p n 1 ≠ 0) (h2 : pe1 p n < n ∧ p (pe1 p n) = 44) (h3 : fg p n (pa2 p n) ≠ 0) (h4 : pe2 p n < n ∧ p (pe2 p n) = 45) (h5 : fg p n (pa3 p n) ≠ 0) (h6 : ¬ pe3 p n < n) (h : pv3 p n ≤ pv2 p n) : fl p n = n := by unfold fl; rw [pif_t hs, pif_f h1, pif_t h2, pif_f h3, pif_t h4, pif_f h5, pif_f h6, pif_f (by omega)]
theorem fl_R (hn : 0 ≤ n) : fl p n = -6 ∨ 0 ≤ fl p n := by
  have r1 := fg_R p n 1
  have r2 := fg_R p n (pa2 p n)
  have r3 := fg_R p n (pa3 p n)
  have q1 : pe1 p n = 1 + fg p n 1 := rfl
  have q2 : pa2 p n = pe1 p n + 1 := rfl
  have q3 : pe2 p n = pa2 p n + fg p n (pa2 p n) := rfl
  have q4 : pa3 p n = pe2 p n + 1 := rfl
  have q5 : pe3 p n = pa3 p n + fg p n (pa3 p n) := rfl
  unfold fl pif
  repeat' split
  all_goals omega
end FL
theorem iX5_faultOf_X5 : ∀ w ∈ wsX50, w ∈ wsX5_faultOf := fun _ h => List.mem_cons_of_mem _ (List.mem_append_right _ h)
set_option maxHeartbeats 4000000 in
set_option maxRecDepth 100000 in
theorem c5_faultOf (l : Launch) (a : Nat → Nat) (M : Mem) (hn : 0 ≤ M 0 3 ∧ M 0 3 ≤ 30) (hP : ∀ j, 0 ≤ M 3 j ∧ M 3 j ≤ 126) : CtI XT l yX5_faultOf wsX5_faultOf ({ frames := 2, cells := 0, slots := 0, locals := 42 } : Room) LR a M [.ref (a 0)] (fun z M' => ∃ rd : Int → Int, M' = sc M 4 rd ∧ z = fl (M 3) (M 0 3) ∧ (z = -6 → rd 0 = upz (M 3) ∧ rd 1 = pv1 (M 3) (M 0 3) ∧ rd 2 = pv2 (M 3) (M 0 3) ∧ rd 3 = pv3 (M 3) (M 0 3))) := by
  refine CtI.of (y := yX5_faultOf) (cc := cX5_faultOf) (maxL := 4) (ret := (some .int)) (lv := [some (.ref (a 0)), none, none, none]) (by decide) rfl (Nat.le_of_ble_eq_true rfl) (lvOK_of _ _ ⟨rfl, rfl⟩) ?_
  intro p e s m below meth c D T F K X0 hr hlk
  have hXc := XT_c
  have lp_52 : ∀ (b : Int) (hst : pst (M 3) (M 0 3)) (hb : b = upz (M 3)), GG p l e ({ frames := 2, cells := 0, slots := 0, locals := 42 } : Room) s m ([.ref (a 0)].toArray) below meth c (PI D T a LR M (fun z M' => ∃ rd : Int → Int, M' = sc M 4 rd ∧ z = fl (M 3) (M 0 3) ∧ (z = -6 → rd 0 = upz (M 3) ∧ rd 1 = pv1 (M 3) (M 0 3) ∧ rd 2 = pv2 (M 3) (M 0 3) ∧ rd 3 = pv3 (M 3) (M 0 3))) below ([.ref (a 0)].toArray) s) D (AA T a LR M s.heap.size) 4 (wld T a LR M) 52 [some (.ref (a 0)), none, none, none] [.int (iI b), .int (iI 0), .ref (a 4)] := by
    intro b hst hb
    subst hb
    have hs0 : 0 < M 0 3 := hst.1
    have lp_93 : ∀ (n_93 : Nat) (k : Int) (i : Int) (t : Int) (at0 : Int) (rd0 : Int → Int) (hm_93 : 3 - k < (n_93 : Int)) (hk : 0 ≤ k ∧ k ≤ 3) (hi : 0 ≤ i ∧ i < 4) (ht : t = at0 + k) (h0 : 0 ≤ at0 ∧ at0 ≤ 30) (hv : 0 ≤ vI (M 3) at0 k ∧ vI (M 3) at0 k ≤ 1000) (hal : ∀ j, 0 ≤ j → j < k → isF (M 3) (M 0 3) (at0 + j)) (kk_152 : ∀  (hx : 0 ≤ vI (M 3) at0 (fg (M 3) (M 0 3) at0) ∧ vI (M 3) at0 (fg (M 3) (M 0 3) at0) ≤ 1000), GG p l e ({ frames := 2, cells := 0, slots := 0, locals := 42 } : Room) s m ([.ref (a 0)].toArray) below meth c (PI D T a LR M (fun z M' => ∃ rd : Int → Int, M' = sc M 4 rd ∧ z = fl (M 3) (M 0 3) ∧ (z = -6 → rd 0 = upz (M 3) ∧ rd 1 = pv1 (M 3) (M 0 3) ∧ rd 2 = pv2 (M 3) (M 0 3) ∧ rd 3 = pv3 (M 3) (M 0 3))) below ([.ref (a 0)].toArray) s) D (AA T a LR M s.heap.size) 4 (wld T a LR (sc M 4 (upf rd0 i (vI (M 3) at0 (fg (M 3) (M 0 3) at0))))) 152 [some (.ref (a 0)), some (.int (iI (at0 + fg (M 3) (M 0 3) at0))), some (.int (iI i)), none] []), GG p l e ({ frames := 2, cells := 0, slots := 0, locals := 42 } : Room) s m ([.ref (a 0)].toArray) below meth c (PI D T a LR M (fun z M' => ∃ rd : Int → Int, M' = sc M 4 rd ∧ z = fl (M 3) (M 0 3) ∧ (z = -6 → rd 0 = upz (M 3) ∧ rd 1 = pv1 (M 3) (M 0 3) ∧ rd 2 = pv2 (M 3) (M 0 3) ∧ rd 3 = pv3 (M 3) (M 0 3))) below ([.ref (a 0)].toArray) s) D (AA T a LR M s.heap.size) 4 (wld T a LR (sc M 4 (upf rd0 i (vI (M 3) at0 k)))) 93 [some (.ref (a 0)), some (.int (iI t)), some (.int (iI i)), some (.int (iI k))] [] := by
      intro n_93
      induction n_93 with
      | zero => intro k i t at0 rd0 hm_93 hk hi ht h0 hv hal kk_152; exfalso; omega
      | succ n_93 ih_93 =>
        intro k i t at0 rd0 hm_93 hk hi ht h0 hv hal kk_152
        refine g_iload_n F (pc' := 94) dX5_faultOf_93 rfl rfl ?_
        refine g_iconst F (pc' := 95) dX5_faultOf_94 rfl ?_
        refine g_icmp_ge F (pc' := 98) (tgt := 152) dX5_faultOf_95 rfl (by decide) (by omega) (by decide) (fun c_95 => ?_) (fun c_95 => ?_)
        · skip
          have hkk : k = fg (M 3) (M 0 3) at0 := (fg_is hk hal (by first | (left; omega) | (right; rintro ⟨q1, q2⟩; first | (exfalso; omega) | exact c_115 (by rw [ht]; exact q2)))).symm
          subst hkk; subst ht
          refine g_lvw [some (.ref (a 0)), some (.int (iI (at0 + fg (M 3) (M 0 3) at0))), some (.int (iI i)), none] (lvw_of _ _ [true, true, true, false] rfl) ?_
          exact kk_152  (hv)
        · skip
          refine g_iload_n F (pc' := 99) dX5_faultOf_98 rfl rfl ?_
          refine g_aload_n F (pc' := 100) dX5_faultOf_99 rfl rfl ?_
          refine g_getI F K (k := 0) (fld := 3) (ci := 5) (z := M 0 3) (pc' := 103) iX5_faultOf_X5 rfl rfl rfl (by decide) (List.mem_of_getElem? (i := 1) rfl) dX5_faultOf_100 rfl (by first | rfl | simp [upf, sc]) ?_
          refine g_icmp_ge F (pc' := 106) (tgt := 152) dX5_faultOf_103 rfl (by decide) (by omega) (by omega) (fun c_103 => ?_) (fun c_103 => ?_)
          · skip
            have hkk : k = fg (M 3) (M 0 3) at0 := (fg_is hk hal (by first | (left; omega) | (right; rintro ⟨q1, q2⟩; first | (exfalso; omega) | exact c_115 (by rw [ht]; exact q2)))).symm
            subst hkk; subst ht
            refine g_lvw [some (.ref (a 0)), some (.int (iI (at0 + fg (M 3) (M 0 3) at0))), some (.int (iI i)), none] (lvw_of _ _ [true, true, true, false] rfl) ?_
            exact kk_152  (hv)
          · skip
            refine g_aload_n F (pc' := 107) dX5_faultOf_106 rfl rfl ?_
            refine g_getR F K (k := 0) (fld := 4) (ci := 5) (q := 3) (pc' := 110) iX5_faultOf_X5 rfl rfl rfl (by decide) (List.mem_of_getElem? (i := 2) rfl) dX5_faultOf_107 rfl ?_
            refine g_iload_n F (pc' := 111) dX5_faultOf_110 rfl rfl ?_
            refine g_iald F K (k := 3) (v := M 3 t) (pc' := 112) rfl (by decide) (by omega) dX5_faultOf_111 rfl (by first | rfl | simp [upf, sc]) ?_
            have b_111 := hP t
            refine g_callP F (pc' := 115) (st := []) (c5_isFigure l (M 3 t) (by omega)) (va_cwS 1 F.2.2.2.2 gX5_faultOf_X5_isFigure rfl rfl rfl (by decide +kernel) ⟨Nat.le_of_ble_eq_true rfl, Nat.le_of_ble_eq_true rfl⟩) rfl rfl (Nat.le_of_ble_eq_true rfl) dX5_faultOf_112 rfl ?_
            refine g_if_eq F (pc' := 118) (tgt := 152) dX5_faultOf_115 rfl (by decide) (zC_R _) (fun c_115 => ?_) (fun c_115 => ?_)
            · skip
              have c_115 := zC_0 c_115
              have hkk : k = fg (M 3) (M 0 3) at0 := (fg_is hk hal (by first | (left; omega) | (right; rintro ⟨q1, q2⟩; first | (exfalso; omega) | exact c_115 (by rw [ht]; exact q2)))).symm
              subst hkk; subst ht
              refine g_lvw [some (.ref (a 0)), some (.int (iI (at0 + fg (M 3) (M 0 3) at0))), some (.int (iI i)), none] (lvw_of _ _ [true, true, true, false] rfl) ?_
              exact kk_152  (hv)
            · skip
              have c_115 := zC_1 c_115
              refine g_aload_n F (pc' := 119) dX5_faultOf_118 rfl rfl ?_
              refine g_getR F K (k := 0) (fld := 5) (ci := 5) (q := 4) (pc' := 122) iX5_faultOf_X5 rfl rfl rfl (by decide) (List.mem_of_getElem? (i := 3) rfl) dX5_faultOf_119 rfl ?_
              refine g_iload_n F (pc' := 123) dX5_faultOf_122 rfl rfl ?_
              refine g_bipush F (pc' := 125) dX5_faultOf_123 rfl (by decide +kernel) ?_
              refine g_aload_n F (pc' := 126) dX5_faultOf_125 rfl rfl ?_
              refine g_getR F K (k := 0) (fld := 5) (ci := 5) (q := 4) (pc' := 129) iX5_faultOf_X5 rfl rfl rfl (by decide) (List.mem_of_getElem? (i := 3) rfl) dX5_faultOf_126 rfl ?_
              refine g_iload_n F (pc' := 130) dX5_faultOf_129 rfl rfl ?_
              refine g_iald F K (k := 4) (v := vI (M 3) at0 k) (pc' := 131) rfl (by decide) (by omega) dX5_faultOf_130 rfl (by first | rfl | exact upf_s _ _ _ | simp [upf, sc]) ?_
              refine g_imul F (pc' := 132) dX5_faultOf_131 rfl ?_
              refine g_aload_n F (pc' := 133) dX5_faultOf_132 rfl rfl ?_
              refine g_getR F K (k := 0) (fld := 4) (ci := 5) (q := 3) (pc' := 136) iX5_faultOf_X5 rfl rfl rfl (by decide) (List.mem_of_getElem? (i := 2) rfl) dX5_faultOf_133 rfl ?_
              refine g_iload_n F (pc' := 137) dX5_faultOf_136 rfl rfl ?_
              refine g_iald F K (k := 3) (v := M 3 t) (pc' := 138) rfl (by decide) (by omega) dX5_faultOf_137 rfl (by first | rfl | simp [upf, sc]) ?_
              have b_137 := hP t
              refine g_iadd F (pc' := 139) dX5_faultOf_138 rfl ?_
              refine g_bipush F (pc' := 141) dX5_faultOf_139 rfl (by decide +kernel) ?_
              refine g_isub F (pc' := 142) dX5_faultOf_141 rfl ?_
              refine h_iast F K (k := 4) (pc' := 143) (sc M 4 (upf rd0 i (((10 * (vI (M 3) at0 k)) + (M 3 t)) - 48))) (mem_up (by first | exact (upf_w _ _ _ _).symm | funext i; simp only [upf, sc]; (repeat' split) <;> first | rfl | omega | simp_all) (by intro j hj; simp only [sc, if_neg hj])) rfl (by decide) (by omega) dX5_faultOf_142 rfl ?_
              refine g_iinc F (pc' := 146) (lv' := [some (.ref (a 0)), some (.int (iI (t + 1))), some (.int (iI i)), some (.int (iI k))]) dX5_faultOf_143 rfl rfl (by decide) rfl ?_
              refine g_iinc F (pc' := 149) (lv' := [some (.ref (a 0)), some (.int (iI (t + 1))), some (.int (iI i)), some (.int (iI (k + 1)))]) dX5_faultOf_146 rfl rfl (by decide) rfl ?_
              refine g_goto F (tgt := 93) dX5_faultOf_149 (by decide) ?_
              refine h_mem (sc M 4 (upf rd0 i (vI (M 3) at0 (k + 1)))) (by rw [vI_s hk.1, ← ht]) ?_
              exact ih_93 (k + 1) i (t + 1) at0 rd0 (by omega) (by omega) (by omega) (by omega) (by omega) (by first | (show 0 ≤ (0 : Int) ∧ (0 : Int) ≤ 1000; omega) | exact vI_R hk c_95 h0.1 hal c_115 ht) (by first | (intro j h1 h2; exfalso; omega) | exact isF_s hal ⟨by omega, by rw [← ht]; exact c_115⟩) kk_152
    refine h_iast F K (k := 4) (pc' := 53) (sc M 4 (upf (M 4) 0 (upz (M 3)))) (mem_up (by rfl) (by intro j hj; simp only [sc, if_neg hj])) rfl (by decide) (by decide) dX5_faultOf_52 rfl ?_
    refine g_iconst F (pc' := 54) dX5_faultOf_53 rfl ?_
    refine g_istore_n F (pc' := 55) (lv' := [some (.ref (a 0)), some (.int (iI 1)), none, none]) dX5_faultOf_54 rfl (by decide) rfl ?_
    refine g_iconst F (pc' := 56) dX5_faultOf_55 rfl ?_
    refine g_istore_n F (pc' := 57) (lv' := [some (.ref (a 0)), some (.int (iI 1)), some (.int (iI 1)), none]) dX5_faultOf_56 rfl (by decide) rfl ?_
    refine g_iload_n F (pc' := 58) dX5_faultOf_57 rfl rfl ?_
    refine g_iconst F (pc' := 59) dX5_faultOf_58 rfl ?_
    refine g_icmp_ge F (pc' := 62) (tgt := 197) dX5_faultOf_59 rfl (by decide) (by decide) (by decide) (fun c_59 => ?_) (fun c_59 => ?_)
    · skip
      exact absurd c_59 (by decide)
    · skip
      refine g_iload_n F (pc' := 63) dX5_faultOf_62 rfl rfl ?_
      refine g_aload_n F (pc' := 64) dX5_faultOf_63 rfl rfl ?_
      refine g_getI F K (k := 0) (fld := 3) (ci := 5) (z := M 0 3) (pc' := 67) iX5_faultOf_X5 rfl rfl rfl (by decide) (List.mem_of_getElem? (i := 1) rfl) dX5_faultOf_64 rfl (by first | rfl | simp [upf, sc]) ?_
      refine g_icmp_eq F (pc' := 70) (tgt := 82) dX5_faultOf_67 rfl (by decide) (by decide) (by omega) (fun c_67 => ?_) (fun c_67 => ?_)
      · skip
        have hnf : fg (M 3) (M 0 3) 1 = 0 := fg_0 (by rintro ⟨q1, q2⟩; first | (exfalso; omega) | exact c_79 q2)
        refine g_iload_n F (pc' := 83) dX5_faultOf_82 rfl rfl ?_
        exact g_iret F hr hlk dX5_faultOf_83 (by first | exact ⟨_, rfl, (fl_1 hst hnf).symm, fun q => absurd q (by omega)⟩ | exact ⟨_, rfl, (fl_3 hst hf1 hs1 hnf).symm, fun q => absurd q (by omega)⟩ | exact ⟨_, rfl, (fl_5 hst hf1 hs1 hf2 hs2 hnf).symm, fun q => absurd q (by omega)⟩)
      · skip
        refine g_aload_n F (pc' := 71) dX5_faultOf_70 rfl rfl ?_
        refine g_getR F K (k := 0) (fld := 4) (ci := 5) (q := 3) (pc' := 74) iX5_faultOf_X5 rfl rfl rfl (by decide) (List.mem_of_getElem? (i := 2) rfl) dX5_faultOf_71 rfl ?_
        refine g_iload_n F (pc' := 75) dX5_faultOf_74 rfl rfl ?_
        refine g_iald F K (k := 3) (v := M 3 1) (pc' := 76) rfl (by decide) (by decide) dX5_faultOf_75 rfl (by first | rfl | simp [upf, sc]) ?_
        have b_75 := hP 1
        refine g_callP F (pc' := 79) (st := []) (c5_isFigure l (M 3 1) (by omega)) (va_cwS 1 F.2.2.2.2 gX5_faultOf_X5_isFigure rfl rfl rfl (by decide +kernel) ⟨Nat.le_of_ble_eq_true rfl, Nat.le_of_ble_eq_true rfl⟩) rfl rfl (Nat.le_of_ble_eq_true rfl) dX5_faultOf_76 rfl ?_
        refine g_if_ne F (pc' := 82) (tgt := 84) dX5_faultOf_79 rfl (by decide) (zC_R _) (fun c_79 => ?_) (fun c_79 => ?_)
        · skip
          have c_79 := zC_1 c_79
          have hf1 : fg (M 3) (M 0 3) 1 ≠ 0 := fg_p ⟨by omega, c_79⟩
          have hr1 := fg_R (M 3) (M 0 3) 1
          have hg1 := fg_le (p := M 3) (n := M 0 3) (t := 1) (by omega)
          refine g_aload_n F (pc' := 85) dX5_faultOf_84 rfl rfl ?_
          refine g_getR F K (k := 0) (fld := 5) (ci := 5) (q := 4) (pc' := 88) iX5_faultOf_X5 rfl rfl rfl (by decide) (List.mem_of_getElem? (i := 3) rfl) dX5_faultOf_85 rfl ?_
          refine g_iload_n F (pc' := 89) dX5_faultOf_88 rfl rfl ?_
          refine g_iconst F (pc' := 90) dX5_faultOf_89 rfl ?_
          refine h_iast F K (k := 4) (pc' := 91) (sc M 4 (upf (upf (M 4) 0 (upz (M 3))) 1 0)) (mem_up (by rfl) (by intro j hj; simp only [sc, if_neg hj])) rfl (by decide) (by decide) dX5_faultOf_90 rfl ?_
          refine g_iconst F (pc' := 92) dX5_faultOf_91 rfl ?_
          refine g_istore_n F (pc' := 93) (lv' := [some (.ref (a 0)), some (.int (iI 1)), some (.int (iI 1)), some (.int (iI 0))]) dX5_faultOf_92 rfl (by decide) rfl ?_
          refine h_mem (sc M 4 (upf (upf (M 4) 0 (upz (M 3))) 1 (vI (M 3) 1 0))) rfl ?_
          refine lp_93 ((3 - 0 : Int).toNat + 1) 0 1 1 1 (upf (M 4) 0 (upz (M 3))) (by omega) (by omega) (by omega) (by omega) (by omega) (by first | (show 0 ≤ (0 : Int) ∧ (0 : Int) ≤ 1000; omega) | exact vI_R hk c_95 h0.1 hal c_115 ht) (by first | (intro j h1 h2; exfalso; omega) | exact isF_s hal ⟨by omega, by rw [← ht]; exact c_115⟩) (fun hx_152 => ?_)
          refine g_iload_n F (pc' := 153) dX5_faultOf_152 rfl rfl ?_
          refine g_iconst F (pc' := 154) dX5_faultOf_153 rfl ?_
          refine g_icmp_ge F (pc' := 157) (tgt := 191) dX5_faultOf_154 rfl (by decide) (by decide) (by decide) (fun c_154 => ?_) (fun c_154 => ?_)
          · skip
            exact absurd c_154 (by decide)
          · skip
            refine g_iload_n F (pc' := 158) dX5_faultOf_157 rfl rfl ?_
            refine g_aload_n F (pc' := 159) dX5_faultOf_158 rfl rfl ?_
            refine g_getI F K (k := 0) (fld := 3) (ci := 5) (z := M 0 3) (pc' := 162) iX5_faultOf_X5 rfl rfl rfl (by decide) (List.mem_of_getElem? (i := 1) rfl) dX5_faultOf_159 rfl (by first | rfl | simp [upf, sc]) ?_
            refine g_icmp_eq F (pc' := 165) (tgt := 186) dX5_faultOf_162 rfl (by decide) (by omega) (by omega) (fun c_162 => ?_) (fun c_162 => ?_)
            · skip
              have hns : ¬ (1 + fg (M 3) (M 0 3) 1 < M 0 3 ∧ M 3 (1 + fg (M 3) (M 0 3) 1) = 44) := by rintro ⟨q1, q2⟩; omega
              refine g_iload_n F (pc' := 187) dX5_faultOf_186 rfl rfl ?_
              exact g_iret F hr hlk dX5_faultOf_187 (by first | exact ⟨_, rfl, (fl_2 hst hf1 hns).symm, fun q => absurd q (by omega)⟩ | exact ⟨_, rfl, (fl_4 hst hf1 hs1 hf2 hns).symm, fun q => absurd q (by omega)⟩)
            · skip
              refine g_aload_n F (pc' := 166) dX5_faultOf_165 rfl rfl ?_
              refine g_getR F K (k := 0) (fld := 4) (ci := 5) (q := 3) (pc' := 169) iX5_faultOf_X5 rfl rfl rfl (by decide) (List.mem_of_getElem? (i := 2) rfl) dX5_faultOf_166 rfl ?_
              refine g_iload_n F (pc' := 170) dX5_faultOf_169 rfl rfl ?_
              refine g_iald F K (k := 3) (v := M 3 (1 + fg (M 3) (M 0 3) 1)) (pc' := 171) rfl (by decide) (by omega) dX5_faultOf_170 rfl (by first | rfl | simp [upf, sc]) ?_
              have b_170 := hP (1 + fg (M 3) (M 0 3) 1)
              refine g_iload_n F (pc' := 172) dX5_faultOf_171 rfl rfl ?_
              refine g_iconst F (pc' := 173) dX5_faultOf_172 rfl ?_
              refine g_icmp_ne F (pc' := 176) (tgt := 181) dX5_faultOf_173 rfl (by decide) (by decide) (by decide) (fun c_173 => ?_) (fun c_173 => ?_)
              · skip
                exact absurd c_173 (by decide)
              · skip
                refine g_bipush F (pc' := 178) dX5_faultOf_176 rfl (by decide +kernel) ?_
                refine g_goto F (tgt := 183) dX5_faultOf_178 (by decide) ?_
                refine g_icmp_eq F (pc' := 186) (tgt := 188) dX5_faultOf_183 rfl (by decide) (by omega) (by decide) (fun c_183 => ?_) (fun c_183 => ?_)
                · skip
                  have hs1 : 1 + fg (M 3) (M 0 3) 1 < M 0 3 ∧ M 3 (1 + fg (M 3) (M 0 3) 1) = 44 := by omega
                  refine g_iinc F (pc' := 191) (lv' := [some (.ref (a 0)), some (.int (iI (1 + fg (M 3) (M 0 3) 1 + 1))), some (.int (iI 1)), none]) dX5_faultOf_188 rfl rfl (by decide) rfl ?_
                  refine g_iinc F (pc' := 194) (lv' := [some (.ref (a 0)), some (.int (iI (1 + fg (M 3) (M 0 3) 1 + 1))), some (.int (iI 2)), none]) dX5_faultOf_191 rfl rfl (by decide) rfl ?_
                  refine g_goto F (tgt := 57) dX5_faultOf_194 (by decide) ?_
                  refine g_iload_n F (pc' := 58) dX5_faultOf_57 rfl rfl ?_
                  refine g_iconst F (pc' := 59) dX5_faultOf_58 rfl ?_
                  refine g_icmp_ge F (pc' := 62) (tgt := 197) dX5_faultOf_59 rfl (by decide) (by decide) (by decide) (fun c_59 => ?_) (fun c_59 => ?_)
                  · skip
                    exact absurd c_59 (by decide)
                  · skip
                    refine g_iload_n F (pc' := 63) dX5_faultOf_62 rfl rfl ?_
                    refine g_aload_n F (pc' := 64) dX5_faultOf_63 rfl rfl ?_
                    refine g_getI F K (k := 0) (fld := 3) (ci := 5) (z := M 0 3) (pc' := 67) iX5_faultOf_X5 rfl rfl rfl (by decide) (List.mem_of_getElem? (i := 1) rfl) dX5_faultOf_64 rfl (by first | rfl | simp [upf, sc]) ?_
                    refine g_icmp_eq F (pc' := 70) (tgt := 82) dX5_faultOf_67 rfl (by decide) (by omega) (by omega) (fun c_67 => ?_) (fun c_67 => ?_)
                    · skip
                      have hnf : fg (M 3) (M 0 3) (1 + fg (M 3) (M 0 3) 1 + 1) = 0 := fg_0 (by rintro ⟨q1, q2⟩; first | (exfalso; omega) | exact c_79 q2)
                      refine g_iload_n F (pc' := 83) dX5_faultOf_82 rfl rfl ?_
                      exact g_iret F hr hlk dX5_faultOf_83 (by first | exact ⟨_, rfl, (fl_1 hst hnf).symm, fun q => absurd q (by omega)⟩ | exact ⟨_, rfl, (fl_3 hst hf1 hs1 hnf).symm, fun q => absurd q (by omega)⟩ | exact ⟨_, rfl, (fl_5 hst hf1 hs1 hf2 hs2 hnf).symm, fun q => absurd q (by omega)⟩)
                    · skip
                      refine g_aload_n F (pc' := 71) dX5_faultOf_70 rfl rfl ?_
                      refine g_getR F K (k := 0) (fld := 4) (ci := 5) (q := 3) (pc' := 74) iX5_faultOf_X5 rfl rfl rfl (by decide) (List.mem_of_getElem? (i := 2) rfl) dX5_faultOf_71 rfl ?_
                      refine g_iload_n F (pc' := 75) dX5_faultOf_74 rfl rfl ?_
                      refine g_iald F K (k := 3) (v := M 3 (1 + fg (M 3) (M 0 3) 1 + 1)) (pc' := 76) rfl (by decide) (by omega) dX5_faultOf_75 rfl (by first | rfl | simp [upf, sc]) ?_
                      have b_75 := hP (1 + fg (M 3) (M 0 3) 1 + 1)
                      refine g_callP F (pc' := 79) (st := []) (c5_isFigure l (M 3 (1 + fg (M 3) (M 0 3) 1 + 1)) (by omega)) (va_cwS 1 F.2.2.2.2 gX5_faultOf_X5_isFigure rfl rfl rfl (by decide +kernel) ⟨Nat.le_of_ble_eq_true rfl, Nat.le_of_ble_eq_true rfl⟩) rfl rfl (Nat.le_of_ble_eq_true rfl) dX5_faultOf_76 rfl ?_
                      refine g_if_ne F (pc' := 82) (tgt := 84) dX5_faultOf_79 rfl (by decide) (zC_R _) (fun c_79 => ?_) (fun c_79 => ?_)
                      · skip
                        have c_79 := zC_1 c_79
                        have hf2 : fg (M 3) (M 0 3) (1 + fg (M 3) (M 0 3) 1 + 1) ≠ 0 := fg_p ⟨by omega, c_79⟩
                        have hr2 := fg_R (M 3) (M 0 3) (1 + fg (M 3) (M 0 3) 1 + 1)
                        have hg2 := fg_le (p := M 3) (n := M 0 3) (t := (1 + fg (M 3) (M 0 3) 1 + 1)) (by omega)
                        refine g_aload_n F (pc' := 85) dX5_faultOf_84 rfl rfl ?_
                        refine g_getR F K (k := 0) (fld := 5) (ci := 5) (q := 4) (pc' := 88) iX5_faultOf_X5 rfl rfl rfl (by decide) (List.mem_of_getElem? (i := 3) rfl) dX5_faultOf_85 rfl ?_
                        refine g_iload_n F (pc' := 89) dX5_faultOf_88 rfl rfl ?_
                        refine g_iconst F (pc' := 90) dX5_faultOf_89 rfl ?_
                        refine h_iast F K (k := 4) (pc' := 91) (sc M 4 (upf (upf (upf (M 4) 0 (upz (M 3))) 1 (vI (M 3) 1 (fg (M 3) (M 0 3) 1))) 2 0)) (mem_up (by rfl) (by intro j hj; simp only [sc, if_neg hj])) rfl (by decide) (by decide) dX5_faultOf_90 rfl ?_
                        refine g_iconst F (pc' := 92) dX5_faultOf_91 rfl ?_
                        refine g_istore_n F (pc' := 93) (lv' := [some (.ref (a 0)), some (.int (iI (1 + fg (M 3) (M 0 3) 1 + 1))), some (.int (iI 2)), some (.int (iI 0))]) dX5_faultOf_92 rfl (by decide) rfl ?_
                        refine h_mem (sc M 4 (upf (upf (upf (M 4) 0 (upz (M 3))) 1 (vI (M 3) 1 (fg (M 3) (M 0 3) 1))) 2 (vI (M 3) (1 + fg (M 3) (M 0 3) 1 + 1) 0))) rfl ?_
                        refine lp_93 ((3 - 0 : Int).toNat + 1) 0 2 (1 + fg (M 3) (M 0 3) 1 + 1) (1 + fg (M 3) (M 0 3) 1 + 1) (upf (upf (M 4) 0 (upz (M 3))) 1 (vI (M 3) 1 (fg (M 3) (M 0 3) 1))) (by omega) (by omega) (by omega) (by omega) (by omega) (by first | (show 0 ≤ (0 : Int) ∧ (0 : Int) ≤ 1000; omega) | exact vI_R hk c_95 h0.1 hal c_115 ht) (by first | (intro j h1 h2; exfalso; omega) | exact isF_s hal ⟨by omega, by rw [← ht]; exact c_115⟩) (fun hx_152_1 => ?_)
                        refine g_iload_n F (pc' := 153) dX5_faultOf_152 rfl rfl ?_
                        refine g_iconst F (pc' := 154) dX5_faultOf_153 rfl ?_
                        refine g_icmp_ge F (pc' := 157) (tgt := 191) dX5_faultOf_154 rfl (by decide) (by decide) (by decide) (fun c_154 => ?_) (fun c_154 => ?_)
                        · skip
                          exact absurd c_154 (by decide)
                        · skip
                          refine g_iload_n F (pc' := 158) dX5_faultOf_157 rfl rfl ?_
                          refine g_aload_n F (pc' := 159) dX5_faultOf_158 rfl rfl ?_
                          refine g_getI F K (k := 0) (fld := 3) (ci := 5) (z := M 0 3) (pc' := 162) iX5_faultOf_X5 rfl rfl rfl (by decide) (List.mem_of_getElem? (i := 1) rfl) dX5_faultOf_159 rfl (by first | rfl | simp [upf, sc]) ?_
                          refine g_icmp_eq F (pc' := 165) (tgt := 186) dX5_faultOf_162 rfl (by decide) (by omega) (by omega) (fun c_162 => ?_) (fun c_162 => ?_)
                          · skip
                            have hns : ¬ ((1 + fg (M 3) (M 0 3) 1 + 1) + fg (M 3) (M 0 3) (1 + fg (M 3) (M 0 3) 1 + 1) < M 0 3 ∧ M 3 ((1 + fg (M 3) (M 0 3) 1 + 1) + fg (M 3) (M 0 3) (1 + fg (M 3) (M 0 3) 1 + 1)) = 45) := by rintro ⟨q1, q2⟩; omega
                            refine g_iload_n F (pc' := 187) dX5_faultOf_186 rfl rfl ?_
                            exact g_iret F hr hlk dX5_faultOf_187 (by first | exact ⟨_, rfl, (fl_2 hst hf1 hns).symm, fun q => absurd q (by omega)⟩ | exact ⟨_, rfl, (fl_4 hst hf1 hs1 hf2 hns).symm, fun q => absurd q (by omega)⟩)
                          · skip
                            refine g_aload_n F (pc' := 166) dX5_faultOf_165 rfl rfl ?_
                            refine g_getR F K (k := 0) (fld := 4) (ci := 5) (q := 3) (pc' := 169) iX5_faultOf_X5 rfl rfl rfl (by decide) (List.mem_of_getElem? (i := 2) rfl) dX5_faultOf_166 rfl ?_
                            refine g_iload_n F (pc' := 170) dX5_faultOf_169 rfl rfl ?_
                            refine g_iald F K (k := 3) (v := M 3 ((1 + fg (M 3) (M 0 3) 1 + 1) + fg (M 3) (M 0 3) (1 + fg (M 3) (M 0 3) 1 + 1))) (pc' := 171) rfl (by decide) (by omega) dX5_faultOf_170 rfl (by first | rfl | simp [upf, sc]) ?_
                            have b_170 := hP ((1 + fg (M 3) (M 0 3) 1 + 1) + fg (M 3) (M 0 3) (1 + fg (M 3) (M 0 3) 1 + 1))
                            refine g_iload_n F (pc' := 172) dX5_faultOf_171 rfl rfl ?_
                            refine g_iconst F (pc' := 173) dX5_faultOf_172 rfl ?_
                            refine g_icmp_ne F (pc' := 176) (tgt := 181) dX5_faultOf_173 rfl (by decide) (by decide) (by decide) (fun c_173 => ?_) (fun c_173 => ?_)
                            · skip
                              refine g_bipush F (pc' := 183) dX5_faultOf_181 rfl (by decide +kernel) ?_
                              refine g_icmp_eq F (pc' := 186) (tgt := 188) dX5_faultOf_183 rfl (by decide) (by omega) (by decide) (fun c_183 => ?_) (fun c_183 => ?_)
                              · skip
                                have hs2 : (1 + fg (M 3) (M 0 3) 1 + 1) + fg (M 3) (M 0 3) (1 + fg (M 3) (M 0 3) 1 + 1) < M 0 3 ∧ M 3 ((1 + fg (M 3) (M 0 3) 1 + 1) + fg (M 3) (M 0 3) (1 + fg (M 3) (M 0 3) 1 + 1)) = 45 := by omega
                                refine g_iinc F (pc' := 191) (lv' := [some (.ref (a 0)), some (.int (iI ((1 + fg (M 3) (M 0 3) 1 + 1) + fg (M 3) (M 0 3) (1 + fg (M 3) (M 0 3) 1 + 1) + 1))), some (.int (iI 2)), none]) dX5_faultOf_188 rfl rfl (by decide) rfl ?_
                                refine g_iinc F (pc' := 194) (lv' := [some (.ref (a 0)), some (.int (iI ((1 + fg (M 3) (M 0 3) 1 + 1) + fg (M 3) (M 0 3) (1 + fg (M 3) (M 0 3) 1 + 1) + 1))), some (.int (iI 3)), none]) dX5_faultOf_191 rfl rfl (by decide) rfl ?_
                                refine g_goto F (tgt := 57) dX5_faultOf_194 (by decide) ?_
                                refine g_iload_n F (pc' := 58) dX5_faultOf_57 rfl rfl ?_
                                refine g_iconst F (pc' := 59) dX5_faultOf_58 rfl ?_
                                refine g_icmp_ge F (pc' := 62) (tgt := 197) dX5_faultOf_59 rfl (by decide) (by decide) (by decide) (fun c_59 => ?_) (fun c_59 => ?_)
                                · skip
                                  exact absurd c_59 (by decide)
                                · skip
                                  refine g_iload_n F (pc' := 63) dX5_faultOf_62 rfl rfl ?_
                                  refine g_aload_n F (pc' := 64) dX5_faultOf_63 rfl rfl ?_
                                  refine g_getI F K (k := 0) (fld := 3) (ci := 5) (z := M 0 3) (pc' := 67) iX5_faultOf_X5 rfl rfl rfl (by decide) (List.mem_of_getElem? (i := 1) rfl) dX5_faultOf_64 rfl (by first | rfl | simp [upf, sc]) ?_
                                  refine g_icmp_eq F (pc' := 70) (tgt := 82) dX5_faultOf_67 rfl (by decide) (by omega) (by omega) (fun c_67 => ?_) (fun c_67 => ?_)
                                  · skip
                                    have hnf : fg (M 3) (M 0 3) ((1 + fg (M 3) (M 0 3) 1 + 1) + fg (M 3) (M 0 3) (1 + fg (M 3) (M 0 3) 1 + 1) + 1) = 0 := fg_0 (by rintro ⟨q1, q2⟩; first | (exfalso; omega) | exact c_79 q2)
                                    refine g_iload_n F (pc' := 83) dX5_faultOf_82 rfl rfl ?_
                                    exact g_iret F hr hlk dX5_faultOf_83 (by first | exact ⟨_, rfl, (fl_1 hst hnf).symm, fun q => absurd q (by omega)⟩ | exact ⟨_, rfl, (fl_3 hst hf1 hs1 hnf).symm, fun q => absurd q (by omega)⟩ | exact ⟨_, rfl, (fl_5 hst hf1 hs1 hf2 hs2 hnf).symm, fun q => absurd q (by omega)⟩)
                                  · skip
                                    refine g_aload_n F (pc' := 71) dX5_faultOf_70 rfl rfl ?_
                                    refine g_getR F K (k := 0) (fld := 4) (ci := 5) (q := 3) (pc' := 74) iX5_faultOf_X5 rfl rfl rfl (by decide) (List.mem_of_getElem? (i := 2) rfl) dX5_faultOf_71 rfl ?_
                                    refine g_iload_n F (pc' := 75) dX5_faultOf_74 rfl rfl ?_
                                    refine g_iald F K (k := 3) (v := M 3 ((1 + fg (M 3) (M 0 3) 1 + 1) + fg (M 3) (M 0 3) (1 + fg (M 3) (M 0 3) 1 + 1) + 1)) (pc' := 76) rfl (by decide) (by omega) dX5_faultOf_75 rfl (by first | rfl | simp [upf, sc]) ?_
                                    have b_75 := hP ((1 + fg (M 3) (M 0 3) 1 + 1) + fg (M 3) (M 0 3) (1 + fg (M 3) (M 0 3) 1 + 1) + 1)
                                    refine g_callP F (pc' := 79) (st := []) (c5_isFigure l (M 3 ((1 + fg (M 3) (M 0 3) 1 + 1) + fg (M 3) (M 0 3) (1 + fg (M 3) (M 0 3) 1 + 1) + 1)) (by omega)) (va_cwS 1 F.2.2.2.2 gX5_faultOf_X5_isFigure rfl rfl rfl (by decide +kernel) ⟨Nat.le_of_ble_eq_true rfl, Nat.le_of_ble_eq_true rfl⟩) rfl rfl (Nat.le_of_ble_eq_true rfl) dX5_faultOf_76 rfl ?_
                                    refine g_if_ne F (pc' := 82) (tgt := 84) dX5_faultOf_79 rfl (by decide) (zC_R _) (fun c_79 => ?_) (fun c_79 => ?_)
                                    · skip
                                      have c_79 := zC_1 c_79
                                      have hf3 : fg (M 3) (M 0 3) ((1 + fg (M 3) (M 0 3) 1 + 1) + fg (M 3) (M 0 3) (1 + fg (M 3) (M 0 3) 1 + 1) + 1) ≠ 0 := fg_p ⟨by omega, c_79⟩
                                      have hr3 := fg_R (M 3) (M 0 3) ((1 + fg (M 3) (M 0 3) 1 + 1) + fg (M 3) (M 0 3) (1 + fg (M 3) (M 0 3) 1 + 1) + 1)
                                      have hg3 := fg_le (p := M 3) (n := M 0 3) (t := ((1 + fg (M 3) (M 0 3) 1 + 1) + fg (M 3) (M 0 3) (1 + fg (M 3) (M 0 3) 1 + 1) + 1)) (by omega)
                                      refine g_aload_n F (pc' := 85) dX5_faultOf_84 rfl rfl ?_
                                      refine g_getR F K (k := 0) (fld := 5) (ci := 5) (q := 4) (pc' := 88) iX5_faultOf_X5 rfl rfl rfl (by decide) (List.mem_of_getElem? (i := 3) rfl) dX5_faultOf_85 rfl ?_
                                      refine g_iload_n F (pc' := 89) dX5_faultOf_88 rfl rfl ?_
                                      refine g_iconst F (pc' := 90) dX5_faultOf_89 rfl ?_
                                      refine h_iast F K (k := 4) (pc' := 91) (sc M 4 (upf (upf (upf (upf (M 4) 0 (upz (M 3))) 1 (vI (M 3) 1 (fg (M 3) (M 0 3) 1))) 2 (vI (M 3) (1 + fg (M 3) (M 0 3) 1 + 1) (fg (M 3) (M 0 3) (1 + fg (M 3) (M 0 3) 1 + 1)))) 3 0)) (mem_up (by rfl) (by intro j hj; simp only [sc, if_neg hj])) rfl (by decide) (by decide) dX5_faultOf_90 rfl ?_
                                      refine g_iconst F (pc' := 92) dX5_faultOf_91 rfl ?_
                                      refine g_istore_n F (pc' := 93) (lv' := [some (.ref (a 0)), some (.int (iI ((1 + fg (M 3) (M 0 3) 1 + 1) + fg (M 3) (M 0 3) (1 + fg (M 3) (M 0 3) 1 + 1) + 1))), some (.int (iI 3)), some (.int (iI 0))]) dX5_faultOf_92 rfl (by decide) rfl ?_
                                      refine h_mem (sc M 4 (upf (upf (upf (upf (M 4) 0 (upz (M 3))) 1 (vI (M 3) 1 (fg (M 3) (M 0 3) 1))) 2 (vI (M 3) (1 + fg (M 3) (M 0 3) 1 + 1) (fg (M 3) (M 0 3) (1 + fg (M 3) (M 0 3) 1 + 1)))) 3 (vI (M 3) ((1 + fg (M 3) (M 0 3) 1 + 1) + fg (M 3) (M 0 3) (1 + fg (M 3) (M 0 3) 1 + 1) + 1) 0))) rfl ?_
                                      refine lp_93 ((3 - 0 : Int).toNat + 1) 0 3 ((1 + fg (M 3) (M 0 3) 1 + 1) + fg (M 3) (M 0 3) (1 + fg (M 3) (M 0 3) 1 + 1) + 1) ((1 + fg (M 3) (M 0 3) 1 + 1) + fg (M 3) (M 0 3) (1 + fg (M 3) (M 0 3) 1 + 1) + 1) (upf (upf (upf (M 4) 0 (upz (M 3))) 1 (vI (M 3) 1 (fg (M 3) (M 0 3) 1))) 2 (vI (M 3) (1 + fg (M 3) (M 0 3) 1 + 1) (fg (M 3) (M 0 3) (1 + fg (M 3) (M 0 3) 1 + 1)))) (by omega) (by omega) (by omega) (by omega) (by omega) (by first | (show 0 ≤ (0 : Int) ∧ (0 : Int) ≤ 1000; omega) | exact vI_R hk c_95 h0.1 hal c_115 ht) (by first | (intro j h1 h2; exfalso; omega) | exact isF_s hal ⟨by omega, by rw [← ht]; exact c_115⟩) (fun hx_152_2 => ?_)
                                      refine g_iload_n F (pc' := 153) dX5_faultOf_152 rfl rfl ?_
                                      refine g_iconst F (pc' := 154) dX5_faultOf_153 rfl ?_
                                      refine g_icmp_ge F (pc' := 157) (tgt := 191) dX5_faultOf_154 rfl (by decide) (by decide) (by decide) (fun c_154 => ?_) (fun c_154 => ?_)
                                      · skip
                                        refine g_iinc F (pc' := 194) (lv' := [some (.ref (a 0)), some (.int (iI (((1 + fg (M 3) (M 0 3) 1 + 1) + fg (M 3) (M 0 3) (1 + fg (M 3) (M 0 3) 1 + 1) + 1) + fg (M 3) (M 0 3) ((1 + fg (M 3) (M 0 3) 1 + 1) + fg (M 3) (M 0 3) (1 + fg (M 3) (M 0 3) 1 + 1) + 1)))), some (.int (iI 4)), none]) dX5_faultOf_191 rfl rfl (by decide) rfl ?_
                                        refine g_goto F (tgt := 57) dX5_faultOf_194 (by decide) ?_
                                        refine g_iload_n F (pc' := 58) dX5_faultOf_57 rfl rfl ?_
                                        refine g_iconst F (pc' := 59) dX5_faultOf_58 rfl ?_
                                        refine g_icmp_ge F (pc' := 62) (tgt := 197) dX5_faultOf_59 rfl (by decide) (by decide) (by decide) (fun c_59 => ?_) (fun c_59 => ?_)
                                        · skip
                                          refine g_iload_n F (pc' := 198) dX5_faultOf_197 rfl rfl ?_
                                          refine g_aload_n F (pc' := 199) dX5_faultOf_198 rfl rfl ?_
                                          refine g_getI F K (k := 0) (fld := 3) (ci := 5) (z := M 0 3) (pc' := 202) iX5_faultOf_X5 rfl rfl rfl (by decide) (List.mem_of_getElem? (i := 1) rfl) dX5_faultOf_199 rfl (by first | rfl | simp [upf, sc]) ?_
                                          refine g_icmp_ge F (pc' := 205) (tgt := 209) dX5_faultOf_202 rfl (by decide) (by omega) (by omega) (fun c_202 => ?_) (fun c_202 => ?_)
                                          · skip
                                            refine g_aload_n F (pc' := 210) dX5_faultOf_209 rfl rfl ?_
                                            refine g_getR F K (k := 0) (fld := 5) (ci := 5) (q := 4) (pc' := 213) iX5_faultOf_X5 rfl rfl rfl (by decide) (List.mem_of_getElem? (i := 3) rfl) dX5_faultOf_210 rfl ?_
                                            refine g_iconst F (pc' := 214) dX5_faultOf_213 rfl ?_
                                            refine g_iald F K (k := 4) (v := vI (M 3) (1 + fg (M 3) (M 0 3) 1 + 1) (fg (M 3) (M 0 3) (1 + fg (M 3) (M 0 3) 1 + 1))) (pc' := 215) rfl (by decide) (by decide) dX5_faultOf_214 rfl (by first | rfl | exact upf_s _ _ _ | simp [upf, sc]) ?_
                                            refine g_aload_n F (pc' := 216) dX5_faultOf_215 rfl rfl ?_
                                            refine g_getR F K (k := 0) (fld := 5) (ci := 5) (q := 4) (pc' := 219) iX5_faultOf_X5 rfl rfl rfl (by decide) (List.mem_of_getElem? (i := 3) rfl) dX5_faultOf_216 rfl ?_
                                            refine g_iconst F (pc' := 220) dX5_faultOf_219 rfl ?_
                                            refine g_iald F K (k := 4) (v := vI (M 3) ((1 + fg (M 3) (M 0 3) 1 + 1) + fg (M 3) (M 0 3) (1 + fg (M 3) (M 0 3) 1 + 1) + 1) (fg (M 3) (M 0 3) ((1 + fg (M 3) (M 0 3) 1 + 1) + fg (M 3) (M 0 3) (1 + fg (M 3) (M 0 3) 1 + 1) + 1))) (pc' := 221) rfl (by decide) (by decide) dX5_faultOf_220 rfl (by first | rfl | exact upf_s _ _ _ | simp [upf, sc]) ?_
                                            refine g_icmp_lt F (pc' := 224) (tgt := 231) dX5_faultOf_221 rfl (by decide) (by omega) (by omega) (fun c_221 => ?_) (fun c_221 => ?_)
                                            · skip
                                              refine g_bipush F (pc' := 233) dX5_faultOf_231 rfl (by decide +kernel) ?_
                                              exact g_iret F hr hlk dX5_faultOf_233 (by first | exact ⟨_, rfl, (fl_6 hst hf1 hs1 hf2 hs2 hf3 c_202).symm, fun q => absurd q (by omega)⟩ | exact ⟨_, rfl, (fl_8 hst hf1 hs1 hf2 hs2 hf3 (Int.not_lt.mpr c_202) c_221).symm, fun q => absurd q (by omega)⟩ | exact ⟨_, rfl, (fl_7 hst hf1 hs1 hf2 hs2 hf3 (Int.not_lt.mpr c_202) c_221).symm, fun _ => ⟨by first | rfl | simp [upf], by first | rfl | simp [upf, pv1], by first | rfl | simp [upf, pv2, pa2, pe1], by first | rfl | simp [upf, pv3, pa3, pe2, pa2, pe1]⟩⟩)
                                            · skip
                                              refine g_aload_n F (pc' := 225) dX5_faultOf_224 rfl rfl ?_
                                              refine g_getI F K (k := 0) (fld := 3) (ci := 5) (z := M 0 3) (pc' := 228) iX5_faultOf_X5 rfl rfl rfl (by decide) (List.mem_of_getElem? (i := 1) rfl) dX5_faultOf_225 rfl (by first | rfl | simp [upf, sc]) ?_
                                              refine g_goto F (tgt := 233) dX5_faultOf_228 (by decide) ?_
                                              exact g_iret F hr hlk dX5_faultOf_233 (by first | exact ⟨_, rfl, (fl_6 hst hf1 hs1 hf2 hs2 hf3 c_202).symm, fun q => absurd q (by omega)⟩ | exact ⟨_, rfl, (fl_8 hst hf1 hs1 hf2 hs2 hf3 (Int.not_lt.mpr c_202) c_221).symm, fun q => absurd q (by omega)⟩ | exact ⟨_, rfl, (fl_7 hst hf1 hs1 hf2 hs2 hf3 (Int.not_lt.mpr c_202) c_221).symm, fun _ => ⟨by first | rfl | simp [upf], by first | rfl | simp [upf, pv1], by first | rfl | simp [upf, pv2, pa2, pe1], by first | rfl | simp [upf, pv3, pa3, pe2, pa2, pe1]⟩⟩)
                                          · skip
                                            refine g_iload_n F (pc' := 206) dX5_faultOf_205 rfl rfl ?_
                                            refine g_goto F (tgt := 233) dX5_faultOf_206 (by decide) ?_
                                            exact g_iret F hr hlk dX5_faultOf_233 (by first | exact ⟨_, rfl, (fl_6 hst hf1 hs1 hf2 hs2 hf3 c_202).symm, fun q => absurd q (by omega)⟩ | exact ⟨_, rfl, (fl_8 hst hf1 hs1 hf2 hs2 hf3 (Int.not_lt.mpr c_202) c_221).symm, fun q => absurd q (by omega)⟩ | exact ⟨_, rfl, (fl_7 hst hf1 hs1 hf2 hs2 hf3 (Int.not_lt.mpr c_202) c_221).symm, fun _ => ⟨by first | rfl | simp [upf], by first | rfl | simp [upf, pv1], by first | rfl | simp [upf, pv2, pa2, pe1], by first | rfl | simp [upf, pv3, pa3, pe2, pa2, pe1]⟩⟩)
                                        · skip
                                          exact absurd c_59 (by decide)
                                      · skip
                                        exact absurd c_154 (by decide)
                                    · skip
                                      have c_79 := zC_0 c_79
                                      have hnf : fg (M 3) (M 0 3) ((1 + fg (M 3) (M 0 3) 1 + 1) + fg (M 3) (M 0 3) (1 + fg (M 3) (M 0 3) 1 + 1) + 1) = 0 := fg_0 (by rintro ⟨q1, q2⟩; first | (exfalso; omega) | exact c_79 q2)
                                      refine g_iload_n F (pc' := 83) dX5_faultOf_82 rfl rfl ?_
                                      exact g_iret F hr hlk dX5_faultOf_83 (by first | exact ⟨_, rfl, (fl_1 hst hnf).symm, fun q => absurd q (by omega)⟩ | exact ⟨_, rfl, (fl_3 hst hf1 hs1 hnf).symm, fun q => absurd q (by omega)⟩ | exact ⟨_, rfl, (fl_5 hst hf1 hs1 hf2 hs2 hnf).symm, fun q => absurd q (by omega)⟩)
                              · skip
                                have hns : ¬ ((1 + fg (M 3) (M 0 3) 1 + 1) + fg (M 3) (M 0 3) (1 + fg (M 3) (M 0 3) 1 + 1) < M 0 3 ∧ M 3 ((1 + fg (M 3) (M 0 3) 1 + 1) + fg (M 3) (M 0 3) (1 + fg (M 3) (M 0 3) 1 + 1)) = 45) := by rintro ⟨q1, q2⟩; omega
                                refine g_iload_n F (pc' := 187) dX5_faultOf_186 rfl rfl ?_
                                exact g_iret F hr hlk dX5_faultOf_187 (by first | exact ⟨_, rfl, (fl_2 hst hf1 hns).symm, fun q => absurd q (by omega)⟩ | exact ⟨_, rfl, (fl_4 hst hf1 hs1 hf2 hns).symm, fun q => absurd q (by omega)⟩)
                            · skip
                              exact absurd c_173 (by decide)
                      · skip
                        have c_79 := zC_0 c_79
                        have hnf : fg (M 3) (M 0 3) (1 + fg (M 3) (M 0 3) 1 + 1) = 0 := fg_0 (by rintro ⟨q1, q2⟩; first | (exfalso; omega) | exact c_79 q2)
                        refine g_iload_n F (pc' := 83) dX5_faultOf_82 rfl rfl ?_
                        exact g_iret F hr hlk dX5_faultOf_83 (by first | exact ⟨_, rfl, (fl_1 hst hnf).symm, fun q => absurd q (by omega)⟩ | exact ⟨_, rfl, (fl_3 hst hf1 hs1 hnf).symm, fun q => absurd q (by omega)⟩ | exact ⟨_, rfl, (fl_5 hst hf1 hs1 hf2 hs2 hnf).symm, fun q => absurd q (by omega)⟩)
                · skip
                  have hns : ¬ (1 + fg (M 3) (M 0 3) 1 < M 0 3 ∧ M 3 (1 + fg (M 3) (M 0 3) 1) = 44) := by rintro ⟨q1, q2⟩; omega
                  refine g_iload_n F (pc' := 187) dX5_faultOf_186 rfl rfl ?_
                  exact g_iret F hr hlk dX5_faultOf_187 (by first | exact ⟨_, rfl, (fl_2 hst hf1 hns).symm, fun q => absurd q (by omega)⟩ | exact ⟨_, rfl, (fl_4 hst hf1 hs1 hf2 hns).symm, fun q => absurd q (by omega)⟩)
        · skip
          have c_79 := zC_0 c_79
          have hnf : fg (M 3) (M 0 3) 1 = 0 := fg_0 (by rintro ⟨q1, q2⟩; first | (exfalso; omega) | exact c_79 q2)
          refine g_iload_n F (pc' := 83) dX5_faultOf_82 rfl rfl ?_
          exact g_iret F hr hlk dX5_faultOf_83 (by first | exact ⟨_, rfl, (fl_1 hst hnf).symm, fun q => absurd q (by omega)⟩ | exact ⟨_, rfl, (fl_3 hst hf1 hs1 hnf).symm, fun q => absurd q (by omega)⟩ | exact ⟨_, rfl, (fl_5 hst hf1 hs1 hf2 hs2 hnf).symm, fun q => absurd q (by omega)⟩)
  refine g_aload_n F (pc' := 1) dX5_faultOf_0 rfl rfl ?_
  refine g_getI F K (k := 0) (fld := 3) (ci := 5) (z := M 0 3) (pc' := 4) iX5_faultOf_X5 rfl rfl rfl (by decide) (List.mem_of_getElem? (i := 1) rfl) dX5_faultOf_1 rfl (by first | rfl | simp [upf, sc]) ?_
  refine g_if_eq F (pc' := 7) (tgt := 29) dX5_faultOf_4 rfl (by decide) (by omega) (fun c_4 => ?_) (fun c_4 => ?_)
  · skip
    refine g_iconst F (pc' := 30) dX5_faultOf_29 rfl ?_
    exact g_iret F hr hlk dX5_faultOf_30 (⟨M 4, (sc_id M 4).symm, (fl_0 (by unfold pst; omega)).symm, fun q => absurd q (by decide)⟩)
  · skip
    refine g_aload_n F (pc' := 8) dX5_faultOf_7 rfl rfl ?_
    refine g_getR F K (k := 0) (fld := 4) (ci := 5) (q := 3) (pc' := 11) iX5_faultOf_X5 rfl rfl rfl (by decide) (List.mem_of_getElem? (i := 2) rfl) dX5_faultOf_8 rfl ?_
    refine g_iconst F (pc' := 12) dX5_faultOf_11 rfl ?_
    refine g_iald F K (k := 3) (v := M 3 0) (pc' := 13) rfl (by decide) (by decide) dX5_faultOf_12 rfl (by first | rfl | simp [upf, sc]) ?_
    have b_12 := hP 0
    refine g_bipush F (pc' := 15) dX5_faultOf_13 rfl (by decide +kernel) ?_
    refine g_icmp_eq F (pc' := 18) (tgt := 31) dX5_faultOf_15 rfl (by decide) (by omega) (by decide) (fun c_15 => ?_) (fun c_15 => ?_)
    · skip
      refine g_aload_n F (pc' := 32) dX5_faultOf_31 rfl rfl ?_
      refine g_getR F K (k := 0) (fld := 5) (ci := 5) (q := 4) (pc' := 35) iX5_faultOf_X5 rfl rfl rfl (by decide) (List.mem_of_getElem? (i := 3) rfl) dX5_faultOf_32 rfl ?_
      refine g_iconst F (pc' := 36) dX5_faultOf_35 rfl ?_
      refine g_aload_n F (pc' := 37) dX5_faultOf_36 rfl rfl ?_
      refine g_getR F K (k := 0) (fld := 4) (ci := 5) (q := 3) (pc' := 40) iX5_faultOf_X5 rfl rfl rfl (by decide) (List.mem_of_getElem? (i := 2) rfl) dX5_faultOf_37 rfl ?_
      refine g_iconst F (pc' := 41) dX5_faultOf_40 rfl ?_
      refine g_iald F K (k := 3) (v := M 3 0) (pc' := 42) rfl (by decide) (by decide) dX5_faultOf_41 rfl (by first | rfl | simp [upf, sc]) ?_
      have b_41 := hP 0
      refine g_bipush F (pc' := 44) dX5_faultOf_42 rfl (by decide +kernel) ?_
      refine g_icmp_ne F (pc' := 47) (tgt := 51) dX5_faultOf_44 rfl (by decide) (by omega) (by decide) (fun c_44 => ?_) (fun c_44 => ?_)
      · skip
        refine g_iconst F (pc' := 52) dX5_faultOf_51 rfl ?_
        exact lp_52 0 (by unfold pst; omega) (by unfold upz; split <;> omega)
      · skip
        refine g_iconst F (pc' := 48) dX5_faultOf_47 rfl ?_
        refine g_goto F (tgt := 52) dX5_faultOf_48 (by decide) ?_
        exact lp_52 1 (by unfold pst; omega) (by unfold upz; split <;> omega)
    · skip
      refine g_aload_n F (pc' := 19) dX5_faultOf_18 rfl rfl ?_
      refine g_getR F K (k := 0) (fld := 4) (ci := 5) (q := 3) (pc' := 22) iX5_faultOf_X5 rfl rfl rfl (by decide) (List.mem_of_getElem? (i := 2) rfl) dX5_faultOf_19 rfl ?_
      refine g_iconst F (pc' := 23) dX5_faultOf_22 rfl ?_
      refine g_iald F K (k := 3) (v := M 3 0) (pc' := 24) rfl (by decide) (by decide) dX5_faultOf_23 rfl (by first | rfl | simp [upf, sc]) ?_
      have b_23 := hP 0
      refine g_bipush F (pc' := 26) dX5_faultOf_24 rfl (by decide +kernel) ?_
      refine g_icmp_eq F (pc' := 29) (tgt := 31) dX5_faultOf_26 rfl (by decide) (by omega) (by decide) (fun c_26 => ?_) (fun c_26 => ?_)
      · skip
        refine g_aload_n F (pc' := 32) dX5_faultOf_31 rfl rfl ?_
        refine g_getR F K (k := 0) (fld := 5) (ci := 5) (q := 4) (pc' := 35) iX5_faultOf_X5 rfl rfl rfl (by decide) (List.mem_of_getElem? (i := 3) rfl) dX5_faultOf_32 rfl ?_
        refine g_iconst F (pc' := 36) dX5_faultOf_35 rfl ?_
        refine g_aload_n F (pc' := 37) dX5_faultOf_36 rfl rfl ?_
        refine g_getR F K (k := 0) (fld := 4) (ci := 5) (q := 3) (pc' := 40) iX5_faultOf_X5 rfl rfl rfl (by decide) (List.mem_of_getElem? (i := 2) rfl) dX5_faultOf_37 rfl ?_
        refine g_iconst F (pc' := 41) dX5_faultOf_40 rfl ?_
        refine g_iald F K (k := 3) (v := M 3 0) (pc' := 42) rfl (by decide) (by decide) dX5_faultOf_41 rfl (by first | rfl | simp [upf, sc]) ?_
        have b_41 := hP 0
        refine g_bipush F (pc' := 44) dX5_faultOf_42 rfl (by decide +kernel) ?_
        refine g_icmp_ne F (pc' := 47) (tgt := 51) dX5_faultOf_44 rfl (by decide) (by omega) (by decide) (fun c_44 => ?_) (fun c_44 => ?_)
        · skip
          refine g_iconst F (pc' := 52) dX5_faultOf_51 rfl ?_
          exact lp_52 0 (by unfold pst; omega) (by unfold upz; split <;> omega)
        · skip
          refine g_iconst F (pc' := 48) dX5_faultOf_47 rfl ?_
          refine g_goto F (tgt := 52) dX5_faultOf_48 (by decide) ?_
          exact lp_52 1 (by unfold pst; omega) (by unfold upz; split <;> omega)
      · skip
        refine g_iconst F (pc' := 30) dX5_faultOf_29 rfl ?_
        exact g_iret F hr hlk dX5_faultOf_30 (⟨M 4, (sc_id M 4).symm, (fl_0 (by unfold pst; omega)).symm, fun q => absurd q (by decide)⟩)

theorem iX5_fault_X5 : ∀ w ∈ wsX50, w ∈ wsX5_fault := fun _ h => List.mem_cons_of_mem _ (List.mem_append_right _ h)
set_option maxHeartbeats 4000000 in
set_option maxRecDepth 100000 in
theorem c5_fault (l : Launch) (a : Nat → Nat) (M : Mem) (hn : 0 ≤ M 0 3 ∧ M 0 3 ≤ 30) (hP : ∀ j, 0 ≤ M 3 j ∧ M 3 j ≤ 126) : CtI XT l yX5_fault wsX5_fault ({ frames := 3, cells := 0, slots := 0, locals := 65 } : Room) LR a M [.ref (a 0)] (fun z M' => ∃ rd : Int → Int, M' = sc M 4 rd ∧ z = fl (M 3) (M 0 3)) := by
  refine CtI.of (y := yX5_fault) (cc := cX5_fault) (maxL := 1) (ret := (some .int)) (lv := [some (.ref (a 0))]) (by decide) rfl (Nat.le_of_ble_eq_true rfl) (lvOK_of _ _ ⟨rfl, rfl⟩) ?_
  intro p e s m below meth c D T F K X0 hr hlk
  have hXc := XT_c
  refine g_aload_n F (pc' := 1) dX5_fault_0 rfl rfl ?_
  refine g_callI F K hXc X0 (pc' := 4) (st := []) (c5_faultOf l a M hn hP) (cwV 0 F.2.2.2.2 gX5_fault_X5_faultOf rfl rfl rfl (by decide +kernel) ⟨Nat.le_of_ble_eq_true rfl, Nat.le_of_ble_eq_true rfl⟩) rfl rfl rfl rfl (Nat.le_of_ble_eq_true rfl) dX5_fault_1 rfl (fun z_1 M_1 q_1 => ?_)
  obtain ⟨rd_1, rfl, rfl, rq_1⟩ := q_1
  exact g_iret F hr hlk dX5_fault_4 (⟨_, rfl, rfl⟩)
end
section
/-! ===== the reference: edges, rules, images ===== -/
theorem fl_B {p : Int → Int} {n : Int} (hn : 0 ≤ n ∧ n ≤ 30) : (fl p n = -6 ∨ 0 ≤ fl p n) ∧ fl p n ≤ 100 := by
  have r1 := fg_R p n 1
  have r2 := fg_R p n (pa2 p n)
  have r3 := fg_R p n (pa3 p n)
  have q1 : pe1 p n = 1 + fg p n 1 := rfl
  have q2 : pa2 p n = pe1 p n + 1 := rfl
  have q3 : pe2 p n = pa2 p n + fg p n (pa2 p n) := rfl
  have q4 : pa3 p n = pe2 p n + 1 := rfl
  have q5 : pe3 p n = pa3 p n + fg p n (pa3 p n) := rfl
  unfold fl pif
  repeat' split
  all_goals omega
noncomputable def edm (M : Mem) : Int → Int := upf (upf (upf (upf (M 1) ((4 * M 0 1) + 0) (upz (M 3))) ((4 * M 0 1) + 1) (pv1 (M 3) (M 0 3))) ((4 * M 0 1) + 2) (pv2 (M 3) (M 0 3))) ((4 * M 0 1) + 3) (pv3 (M 3) (M 0 3))
def q5_edge (M : Mem) : Int → Mem → Prop := fun z M' => (fl (M 3) (M 0 3) ≠ -6 ∧ z = -5 ∧ ∃ rd, M' = sc M 4 rd) ∨ (fl (M 3) (M 0 3) = -6 ∧ M 0 1 = 16 ∧ z = -4 ∧ ∃ rd, M' = sc M 4 rd) ∨ (fl (M 3) (M 0 3) = -6 ∧ M 0 1 ≠ 16 ∧ z = M 0 1 + 1 ∧ ∃ rd, M' = sc (sc (sc M 0 (upf (upf (M 0) 1 (M 0 1 + 1)) 3 0)) 1 (edm M)) 4 rd)
def delf (f : Int → Int) (lo k : Int) : Int → Int := fun j => if lo ≤ j ∧ j < k then f (j + 4) else f j
theorem delf_0 {f : Int → Int} {lo : Int} : delf f lo lo = f := by funext j; exact if_neg (by omega)
theorem delf_s {f : Int → Int} {lo k : Int} (h : lo ≤ k) : upf (delf f lo k) k (delf f lo k (k + 4)) = delf f lo (k + 1) := by
  funext j
  unfold upf delf
  by_cases hj : j = k
  · subst hj; rw [if_pos rfl, if_neg (by omega), if_pos (by omega)]
  · rw [if_neg hj]
    by_cases h1 : lo ≤ j ∧ j < k
    · rw [if_pos h1, if_pos (by omega)]
    · rw [if_neg h1, if_neg (by omega)]
def q5_erase (M : Mem) (u : Int) : Int → Mem → Prop := fun z M' => (¬ (0 ≤ u ∧ u ≤ M 0 1 - 1) ∧ z = -1 ∧ M' = M) ∨ ((0 ≤ u ∧ u ≤ M 0 1 - 1) ∧ z = M 0 1 - 1 ∧ M' = sc (sc M 0 (upf (M 0) 1 (M 0 1 - 1))) 1 (delf (M 1) (4 * u) (4 * (M 0 1 - 1))))
def rmx (w : Int) : Int := if w = 0 then 99 else if w < 3 then 9 else 3
def q5_rule (M : Mem) (w n : Int) : Int → Mem → Prop := fun z M' => (¬ ((0 ≤ w ∧ w ≤ 4) ∧ (0 ≤ n ∧ n ≤ rmx w)) ∧ z = -2 ∧ M' = M) ∨ (((0 ≤ w ∧ w ≤ 4) ∧ (0 ≤ n ∧ n ≤ rmx w)) ∧ z = M 2 w ∧ M' = sc M 2 (upf (M 2) w n))
def cpy (g f : Int → Int) (o k : Int) : Int → Int := fun j => if o ≤ j ∧ j < o + k then f (j - o) else g j
theorem cpy_0 {g f : Int → Int} {o : Int} : cpy g f o 0 = g := by funext j; exact if_neg (by omega)
theorem cpy_s {g f : Int → Int} {o k : Int} (h : 0 ≤ k) : upf (cpy g f o k) (o + k) (f k) = cpy g f o (k + 1) := by
  funext j
  unfold upf cpy
  by_cases hj : j = o + k
  · subst hj; rw [if_pos rfl, if_pos (by omega), show o + k - o = k by omega]
  · rw [if_neg hj]
    by_cases h1 : o ≤ j ∧ j < o + k
    · rw [if_pos h1, if_pos (by omega)]
    · rw [if_neg h1, if_neg (by omega)]
def cpr (g f : Int → Int) (o k : Int) : Int → Int := fun j => if 0 ≤ j ∧ j < k then f (o + j) else g j
theorem cpr_0 {g f : Int → Int} {o : Int} : cpr g f o 0 = g := by funext j; exact if_neg (by omega)
theorem cpr_s {g f : Int → Int} {o k : Int} (h : 0 ≤ k) : upf (cpr g f o k) k (f (o + k)) = cpr g f o (k + 1) := by
  funext j
  unfold upf cpr
  by_cases hj : j = k
  · subst hj; rw [if_pos rfl, if_pos (by omega)]
  · rw [if_neg hj]
    by_cases h1 : 0 ≤ j ∧ j < k
    · rw [if_pos h1, if_pos (by omega)]
    · rw [if_neg h1, if_neg (by omega)]
def q5_image (M : Mem) (n : Int) : Int → Mem → Prop := fun z M' => (¬ (0 ≤ n ∧ n ≤ 1) ∧ z = -2 ∧ M' = M) ∨ ((0 ≤ n ∧ n ≤ 1) ∧ z = 1 ∧ M' = sc (sc M 17 (upf (cpy (cpy (M 17) (M 1) (70 * n) 64) (M 2) (70 * n + 64) 5) (70 * n + 69) (M 0 1))) 18 (upf (M 18) n 1))
def q5_restore (M : Mem) (n : Int) : Int → Mem → Prop := fun z M' => (¬ (0 ≤ n ∧ n ≤ 1) ∧ z = -2 ∧ M' = M) ∨ ((0 ≤ n ∧ n ≤ 1) ∧ M 18 n = 0 ∧ z = -3 ∧ M' = M) ∨ ((0 ≤ n ∧ n ≤ 1) ∧ M 18 n ≠ 0 ∧ z = 1 ∧ M' = sc (sc (sc M 0 (upf (M 0) 1 (M 17 (70 * n + 69)))) 1 (cpr (M 1) (M 17) (70 * n) 64)) 2 (cpr (M 2) (M 17) (70 * n + 64) 5))
theorem iX5_edge_X5 : ∀ w ∈ wsX50, w ∈ wsX5_edge := fun _ h => List.mem_cons_of_mem _ (List.mem_append_right _ h)
set_option maxHeartbeats 4000000 in
set_option maxRecDepth 100000 in
theorem c5_edge (l : Launch) (a : Nat → Nat) (M : Mem) (hn : 0 ≤ M 0 3 ∧ M 0 3 ≤ 30) (hP : ∀ j, 0 ≤ M 3 j ∧ M 3 j ≤ 126) (hm : 0 ≤ M 0 1 ∧ M 0 1 ≤ 16) : CtI XT l yX5_edge wsX5_edge ({ frames := 3, cells := 0, slots := 0, locals := 65 } : Room) LR a M [.ref (a 0)] (q5_edge M) := by
  refine CtI.of (y := yX5_edge) (cc := cX5_edge) (maxL := 2) (ret := (some .int)) (lv := [some (.ref (a 0)), none]) (by decide) rfl (Nat.le_of_ble_eq_true rfl) (lvOK_of _ _ ⟨rfl, rfl⟩) ?_
  intro p e s m below meth c D T F K X0 hr hlk
  have hXc := XT_c
  refine g_aload_n F (pc' := 1) dX5_edge_0 rfl rfl ?_
  refine g_callI F K hXc X0 (pc' := 4) (st := []) (c5_faultOf l a M hn hP) (cwV 0 F.2.2.2.2 gX5_edge_X5_faultOf rfl rfl rfl (by decide +kernel) ⟨Nat.le_of_ble_eq_true rfl, Nat.le_of_ble_eq_true rfl⟩) rfl rfl rfl rfl (Nat.le_of_ble_eq_true rfl) dX5_edge_1 rfl (fun z_1 M_1 q_1 => ?_)
  obtain ⟨rd_1, rfl, rfl, rq_1⟩ := q_1
  have hfr := fl_B (p := M 3) hn
  refine g_if_lt F (pc' := 7) (tgt := 10) dX5_edge_4 rfl (by decide) (by omega) (fun c_4 => ?_) (fun c_4 => ?_)
  · skip
    refine g_aload_n F (pc' := 11) dX5_edge_10 rfl rfl ?_
    refine g_getI F K (k := 0) (fld := 1) (ci := 5) (z := M 0 1) (pc' := 14) iX5_edge_X5 rfl rfl rfl (by decide) (List.mem_of_getElem? (i := 1) rfl) dX5_edge_11 rfl (by first | rfl | simp [upf, sc]) ?_
    refine g_bipush F (pc' := 16) dX5_edge_14 rfl (by decide +kernel) ?_
    refine g_icmp_ne F (pc' := 19) (tgt := 22) dX5_edge_16 rfl (by decide) (by omega) (by decide) (fun c_16 => ?_) (fun c_16 => ?_)
    · skip
      obtain ⟨w0, w1, w2, w3⟩ := rq_1 (by omega)
      refine g_iconst F (pc' := 23) dX5_edge_22 rfl ?_
      refine g_istore_n F (pc' := 24) (lv' := [some (.ref (a 0)), some (.int (iI 0))]) dX5_edge_23 rfl (by decide) rfl ?_
      refine g_iload_n F (pc' := 25) dX5_edge_24 rfl rfl ?_
      refine g_iconst F (pc' := 26) dX5_edge_25 rfl ?_
      refine g_icmp_ge F (pc' := 29) (tgt := 54) dX5_edge_26 rfl (by decide) (by decide) (by decide) (fun c_26 => ?_) (fun c_26 => ?_)
      · skip
        exact absurd c_26 (by decide)
      · skip
        refine g_aload_n F (pc' := 30) dX5_edge_29 rfl rfl ?_
        refine g_getR F K (k := 0) (fld := 0) (ci := 5) (q := 1) (pc' := 33) iX5_edge_X5 rfl rfl rfl (by decide) (List.mem_of_getElem? (i := 2) rfl) dX5_edge_30 rfl ?_
        refine g_iconst F (pc' := 34) dX5_edge_33 rfl ?_
        refine g_aload_n F (pc' := 35) dX5_edge_34 rfl rfl ?_
        refine g_getI F K (k := 0) (fld := 1) (ci := 5) (z := M 0 1) (pc' := 38) iX5_edge_X5 rfl rfl rfl (by decide) (List.mem_of_getElem? (i := 1) rfl) dX5_edge_35 rfl (by first | rfl | simp [upf, sc]) ?_
        refine g_imul F (pc' := 39) dX5_edge_38 rfl ?_
        refine g_iload_n F (pc' := 40) dX5_edge_39 rfl rfl ?_
        refine g_iadd F (pc' := 41) dX5_edge_40 rfl ?_
        refine g_aload_n F (pc' := 42) dX5_edge_41 rfl rfl ?_
        refine g_getR F K (k := 0) (fld := 5) (ci := 5) (q := 4) (pc' := 45) iX5_edge_X5 rfl rfl rfl (by decide) (List.mem_of_getElem? (i := 3) rfl) dX5_edge_42 rfl ?_
        refine g_iload_n F (pc' := 46) dX5_edge_45 rfl rfl ?_
        refine g_iald F K (k := 4) (v := rd_1 0) (pc' := 47) rfl (by decide) (by decide) dX5_edge_46 rfl (by first | rfl | simp [upf, sc]) ?_
        refine h_iast F K (k := 1) (pc' := 48) (sc (sc M 1 (upf (M 1) ((4 * (M 0 1)) + 0) (rd_1 0))) 4 rd_1) (mem_up (by rfl) (by intro j hj; simp only [sc, if_neg hj])) rfl (by decide) (by omega) dX5_edge_47 rfl ?_
        refine g_iinc F (pc' := 51) (lv' := [some (.ref (a 0)), some (.int (iI 1))]) dX5_edge_48 rfl rfl (by decide) rfl ?_
        refine g_goto F (tgt := 24) dX5_edge_51 (by decide) ?_
        refine g_iload_n F (pc' := 25) dX5_edge_24 rfl rfl ?_
        refine g_iconst F (pc' := 26) dX5_edge_25 rfl ?_
        refine g_icmp_ge F (pc' := 29) (tgt := 54) dX5_edge_26 rfl (by decide) (by decide) (by decide) (fun c_26 => ?_) (fun c_26 => ?_)
        · skip
          exact absurd c_26 (by decide)
        · skip
          refine g_aload_n F (pc' := 30) dX5_edge_29 rfl rfl ?_
          refine g_getR F K (k := 0) (fld := 0) (ci := 5) (q := 1) (pc' := 33) iX5_edge_X5 rfl rfl rfl (by decide) (List.mem_of_getElem? (i := 2) rfl) dX5_edge_30 rfl ?_
          refine g_iconst F (pc' := 34) dX5_edge_33 rfl ?_
          refine g_aload_n F (pc' := 35) dX5_edge_34 rfl rfl ?_
          refine g_getI F K (k := 0) (fld := 1) (ci := 5) (z := M 0 1) (pc' := 38) iX5_edge_X5 rfl rfl rfl (by decide) (List.mem_of_getElem? (i := 1) rfl) dX5_edge_35 rfl (by first | rfl | simp [upf, sc]) ?_
          refine g_imul F (pc' := 39) dX5_edge_38 rfl ?_
          refine g_iload_n F (pc' := 40) dX5_edge_39 rfl rfl ?_
          refine g_iadd F (pc' := 41) dX5_edge_40 rfl ?_
          refine g_aload_n F (pc' := 42) dX5_edge_41 rfl rfl ?_
          refine g_getR F K (k := 0) (fld := 5) (ci := 5) (q := 4) (pc' := 45) iX5_edge_X5 rfl rfl rfl (by decide) (List.mem_of_getElem? (i := 3) rfl) dX5_edge_42 rfl ?_
          refine g_iload_n F (pc' := 46) dX5_edge_45 rfl rfl ?_
          refine g_iald F K (k := 4) (v := rd_1 1) (pc' := 47) rfl (by decide) (by decide) dX5_edge_46 rfl (by first | rfl | simp [upf, sc]) ?_
          refine h_iast F K (k := 1) (pc' := 48) (sc (sc M 1 (upf (upf (M 1) ((4 * (M 0 1)) + 0) (rd_1 0)) ((4 * (M 0 1)) + 1) (rd_1 1))) 4 rd_1) (mem_up (by rfl) (by intro j hj; simp only [sc, if_neg hj])) rfl (by decide) (by omega) dX5_edge_47 rfl ?_
          refine g_iinc F (pc' := 51) (lv' := [some (.ref (a 0)), some (.int (iI 2))]) dX5_edge_48 rfl rfl (by decide) rfl ?_
          refine g_goto F (tgt := 24) dX5_edge_51 (by decide) ?_
          refine g_iload_n F (pc' := 25) dX5_edge_24 rfl rfl ?_
          refine g_iconst F (pc' := 26) dX5_edge_25 rfl ?_
          refine g_icmp_ge F (pc' := 29) (tgt := 54) dX5_edge_26 rfl (by decide) (by decide) (by decide) (fun c_26 => ?_) (fun c_26 => ?_)
          · skip
            exact absurd c_26 (by decide)
          · skip
            refine g_aload_n F (pc' := 30) dX5_edge_29 rfl rfl ?_
            refine g_getR F K (k := 0) (fld := 0) (ci := 5) (q := 1) (pc' := 33) iX5_edge_X5 rfl rfl rfl (by decide) (List.mem_of_getElem? (i := 2) rfl) dX5_edge_30 rfl ?_
            refine g_iconst F (pc' := 34) dX5_edge_33 rfl ?_
            refine g_aload_n F (pc' := 35) dX5_edge_34 rfl rfl ?_
            refine g_getI F K (k := 0) (fld := 1) (ci := 5) (z := M 0 1) (pc' := 38) iX5_edge_X5 rfl rfl rfl (by decide) (List.mem_of_getElem? (i := 1) rfl) dX5_edge_35 rfl (by first | rfl | simp [upf, sc]) ?_
            refine g_imul F (pc' := 39) dX5_edge_38 rfl ?_
            refine g_iload_n F (pc' := 40) dX5_edge_39 rfl rfl ?_
            refine g_iadd F (pc' := 41) dX5_edge_40 rfl ?_
            refine g_aload_n F (pc' := 42) dX5_edge_41 rfl rfl ?_
            refine g_getR F K (k := 0) (fld := 5) (ci := 5) (q := 4) (pc' := 45) iX5_edge_X5 rfl rfl rfl (by decide) (List.mem_of_getElem? (i := 3) rfl) dX5_edge_42 rfl ?_
            refine g_iload_n F (pc' := 46) dX5_edge_45 rfl rfl ?_
            refine g_iald F K (k := 4) (v := rd_1 2) (pc' := 47) rfl (by decide) (by decide) dX5_edge_46 rfl (by first | rfl | simp [upf, sc]) ?_
            refine h_iast F K (k := 1) (pc' := 48) (sc (sc M 1 (upf (upf (upf (M 1) ((4 * (M 0 1)) + 0) (rd_1 0)) ((4 * (M 0 1)) + 1) (rd_1 1)) ((4 * (M 0 1)) + 2) (rd_1 2))) 4 rd_1) (mem_up (by rfl) (by intro j hj; simp only [sc, if_neg hj])) rfl (by decide) (by omega) dX5_edge_47 rfl ?_
            refine g_iinc F (pc' := 51) (lv' := [some (.ref (a 0)), some (.int (iI 3))]) dX5_edge_48 rfl rfl (by decide) rfl ?_
            refine g_goto F (tgt := 24) dX5_edge_51 (by decide) ?_
            refine g_iload_n F (pc' := 25) dX5_edge_24 rfl rfl ?_
            refine g_iconst F (pc' := 26) dX5_edge_25 rfl ?_
            refine g_icmp_ge F (pc' := 29) (tgt := 54) dX5_edge_26 rfl (by decide) (by decide) (by decide) (fun c_26 => ?_) (fun c_26 => ?_)
            · skip
              exact absurd c_26 (by decide)
            · skip
              refine g_aload_n F (pc' := 30) dX5_edge_29 rfl rfl ?_
              refine g_getR F K (k := 0) (fld := 0) (ci := 5) (q := 1) (pc' := 33) iX5_edge_X5 rfl rfl rfl (by decide) (List.mem_of_getElem? (i := 2) rfl) dX5_edge_30 rfl ?_
              refine g_iconst F (pc' := 34) dX5_edge_33 rfl ?_
              refine g_aload_n F (pc' := 35) dX5_edge_34 rfl rfl ?_
              refine g_getI F K (k := 0) (fld := 1) (ci := 5) (z := M 0 1) (pc' := 38) iX5_edge_X5 rfl rfl rfl (by decide) (List.mem_of_getElem? (i := 1) rfl) dX5_edge_35 rfl (by first | rfl | simp [upf, sc]) ?_
              refine g_imul F (pc' := 39) dX5_edge_38 rfl ?_
              refine g_iload_n F (pc' := 40) dX5_edge_39 rfl rfl ?_
              refine g_iadd F (pc' := 41) dX5_edge_40 rfl ?_
              refine g_aload_n F (pc' := 42) dX5_edge_41 rfl rfl ?_
              refine g_getR F K (k := 0) (fld := 5) (ci := 5) (q := 4) (pc' := 45) iX5_edge_X5 rfl rfl rfl (by decide) (List.mem_of_getElem? (i := 3) rfl) dX5_edge_42 rfl ?_
              refine g_iload_n F (pc' := 46) dX5_edge_45 rfl rfl ?_
              refine g_iald F K (k := 4) (v := rd_1 3) (pc' := 47) rfl (by decide) (by decide) dX5_edge_46 rfl (by first | rfl | simp [upf, sc]) ?_
              refine h_iast F K (k := 1) (pc' := 48) (sc (sc M 1 (upf (upf (upf (upf (M 1) ((4 * (M 0 1)) + 0) (rd_1 0)) ((4 * (M 0 1)) + 1) (rd_1 1)) ((4 * (M 0 1)) + 2) (rd_1 2)) ((4 * (M 0 1)) + 3) (rd_1 3))) 4 rd_1) (mem_up (by rfl) (by intro j hj; simp only [sc, if_neg hj])) rfl (by decide) (by omega) dX5_edge_47 rfl ?_
              refine g_iinc F (pc' := 51) (lv' := [some (.ref (a 0)), some (.int (iI 4))]) dX5_edge_48 rfl rfl (by decide) rfl ?_
              refine g_goto F (tgt := 24) dX5_edge_51 (by decide) ?_
              refine g_iload_n F (pc' := 25) dX5_edge_24 rfl rfl ?_
              refine g_iconst F (pc' := 26) dX5_edge_25 rfl ?_
              refine g_icmp_ge F (pc' := 29) (tgt := 54) dX5_edge_26 rfl (by decide) (by decide) (by decide) (fun c_26 => ?_) (fun c_26 => ?_)
              · skip
                refine g_aload_n F (pc' := 55) dX5_edge_54 rfl rfl ?_
                refine g_dup F (pc' := 56) dX5_edge_55 rfl rfl ?_
                refine g_getI F K (k := 0) (fld := 1) (ci := 5) (z := M 0 1) (pc' := 59) iX5_edge_X5 rfl rfl rfl (by decide) (List.mem_of_getElem? (i := 1) rfl) dX5_edge_56 rfl (by first | rfl | simp [upf, sc]) ?_
                refine g_iconst F (pc' := 60) dX5_edge_59 rfl ?_
                refine g_iadd F (pc' := 61) dX5_edge_60 rfl ?_
                refine h_putI F K (k := 0) (fld := 1) (ci := 5) (pc' := 64) (sc (sc (sc M 0 (upf (M 0) 1 ((M 0 1) + 1))) 1 (upf (upf (upf (upf (M 1) ((4 * (M 0 1)) + 0) (rd_1 0)) ((4 * (M 0 1)) + 1) (rd_1 1)) ((4 * (M 0 1)) + 2) (rd_1 2)) ((4 * (M 0 1)) + 3) (rd_1 3))) 4 rd_1) (mem_up (by rfl) (by intro j hj; simp only [sc, if_neg hj])) tyX5 tyX5_ok nmX5 iX5_edge_X5 rfl rfl rfl (by decide) rfl rfl (List.mem_of_getElem? (i := 1) rfl) dX5_edge_61 rfl ?_
                refine g_aload_n F (pc' := 65) dX5_edge_64 rfl rfl ?_
                refine g_iconst F (pc' := 66) dX5_edge_65 rfl ?_
                refine h_putI F K (k := 0) (fld := 3) (ci := 5) (pc' := 69) (sc (sc (sc M 0 (upf (upf (M 0) 1 ((M 0 1) + 1)) 3 0)) 1 (upf (upf (upf (upf (M 1) ((4 * (M 0 1)) + 0) (rd_1 0)) ((4 * (M 0 1)) + 1) (rd_1 1)) ((4 * (M 0 1)) + 2) (rd_1 2)) ((4 * (M 0 1)) + 3) (rd_1 3))) 4 rd_1) (mem_up (by rfl) (by intro j hj; simp only [sc, if_neg hj])) tyX5 tyX5_ok nmX5 iX5_edge_X5 rfl rfl rfl (by decide) rfl rfl (List.mem_of_getElem? (i := 4) rfl) dX5_edge_66 rfl ?_
                refine g_aload_n F (pc' := 70) dX5_edge_69 rfl rfl ?_
                refine g_getI F K (k := 0) (fld := 1) (ci := 5) (z := (M 0 1) + 1) (pc' := 73) iX5_edge_X5 rfl rfl rfl (by decide) (List.mem_of_getElem? (i := 1) rfl) dX5_edge_70 rfl (by first | rfl | exact upf_s _ _ _ | simp [upf, sc]) ?_
                exact g_iret F hr hlk dX5_edge_73 (Or.inr (Or.inr ⟨by omega, by omega, rfl, rd_1, by unfold edm; rw [w0, w1, w2, w3]⟩))
              · skip
                exact absurd c_26 (by decide)
    · skip
      refine g_bipush F (pc' := 21) dX5_edge_19 rfl (by decide +kernel) ?_
      exact g_iret F hr hlk dX5_edge_21 (Or.inr (Or.inl ⟨by omega, by omega, rfl, _, rfl⟩))
  · skip
    refine g_bipush F (pc' := 9) dX5_edge_7 rfl (by decide +kernel) ?_
    exact g_iret F hr hlk dX5_edge_9 (Or.inl ⟨by omega, rfl, _, rfl⟩)

theorem iX5_erase_X5 : ∀ w ∈ wsX50, w ∈ wsX5_erase := fun _ h => List.mem_cons_of_mem _ (List.mem_append_right _ h)
set_option maxHeartbeats 4000000 in
set_option maxRecDepth 100000 in
theorem c5_erase (l : Launch) (a : Nat → Nat) (M : Mem) (u : Int) (hu : -2147483648 ≤ u ∧ u < 2147483648) (hm : 0 ≤ M 0 1 ∧ M 0 1 ≤ 16) : CtI XT l yX5_erase wsX5_erase ({ frames := 1, cells := 0, slots := 0, locals := 22 } : Room) LR a M [.ref (a 0), .int (iI u)] (q5_erase M u) := by
  refine CtI.of (y := yX5_erase) (cc := cX5_erase) (maxL := 3) (ret := (some .int)) (lv := [some (.ref (a 0)), some (.int (iI u)), none]) (by decide) rfl (Nat.le_of_ble_eq_true rfl) (lvOK_of _ _ ⟨rfl, rfl⟩) ?_
  intro p e s m below meth c D T F K X0 hr hlk
  have hXc := XT_c
  refine g_iload_n F (pc' := 1) dX5_erase_0 rfl rfl ?_
  refine g_iconst F (pc' := 2) dX5_erase_1 rfl ?_
  refine g_aload_n F (pc' := 3) dX5_erase_2 rfl rfl ?_
  refine g_getI F K (k := 0) (fld := 1) (ci := 5) (z := M 0 1) (pc' := 6) iX5_erase_X5 rfl rfl rfl (by decide) (List.mem_of_getElem? (i := 1) rfl) dX5_erase_3 rfl (by first | rfl | simp [upf, sc]) ?_
  refine g_iconst F (pc' := 7) dX5_erase_6 rfl ?_
  refine g_isub F (pc' := 8) dX5_erase_7 rfl ?_
  refine g_callP F (pc' := 11) (st := []) (c5_in l u 0 ((M 0 1) - 1) (by omega) (by omega) (by omega)) (va_cwS 3 F.2.2.2.2 gX5_erase_X5_in rfl rfl rfl (by decide +kernel) ⟨Nat.le_of_ble_eq_true rfl, Nat.le_of_ble_eq_true rfl⟩) rfl rfl (Nat.le_of_ble_eq_true rfl) dX5_erase_8 rfl ?_
  refine g_if_ne F (pc' := 14) (tgt := 16) dX5_erase_11 rfl (by decide) (zC_R _) (fun c_11 => ?_) (fun c_11 => ?_)
  · skip
    have c_11 := zC_1 c_11
    refine g_aload_n F (pc' := 17) dX5_erase_16 rfl rfl ?_
    refine g_dup F (pc' := 18) dX5_erase_17 rfl rfl ?_
    refine g_getI F K (k := 0) (fld := 1) (ci := 5) (z := M 0 1) (pc' := 21) iX5_erase_X5 rfl rfl rfl (by decide) (List.mem_of_getElem? (i := 1) rfl) dX5_erase_18 rfl (by first | rfl | simp [upf, sc]) ?_
    refine g_iconst F (pc' := 22) dX5_erase_21 rfl ?_
    refine g_isub F (pc' := 23) dX5_erase_22 rfl ?_
    refine h_putI F K (k := 0) (fld := 1) (ci := 5) (pc' := 26) (sc M 0 (upf (M 0) 1 ((M 0 1) - 1))) (mem_up (by rfl) (by intro j hj; simp only [sc, if_neg hj])) tyX5 tyX5_ok nmX5 iX5_erase_X5 rfl rfl rfl (by decide) rfl rfl (List.mem_of_getElem? (i := 1) rfl) dX5_erase_23 rfl ?_
    refine g_iconst F (pc' := 27) dX5_erase_26 rfl ?_
    refine g_iload_n F (pc' := 28) dX5_erase_27 rfl rfl ?_
    refine g_imul F (pc' := 29) dX5_erase_28 rfl ?_
    refine g_istore_n F (pc' := 30) (lv' := [some (.ref (a 0)), some (.int (iI u)), some (.int (iI (4 * u)))]) dX5_erase_29 rfl (by decide) rfl ?_
    refine h_mem (sc (sc M 0 (upf (M 0) 1 ((M 0 1) - 1))) 1 (delf (M 1) (4 * u) (4 * u))) (by rw [delf_0]; exact (sc_id _ 1).symm) ?_
    have lp_30 : ∀ (n_30 : Nat) (k : Int) (hm_30 : 4 * (M 0 1 - 1) - k < (n_30 : Int)) (h0 : 4 * u ≤ k ∧ k ≤ 4 * (M 0 1 - 1)), GG p l e ({ frames := 1, cells := 0, slots := 0, locals := 22 } : Room) s m ([.ref (a 0), .int (iI u)].toArray) below meth c (PI D T a LR M (q5_erase M u) below ([.ref (a 0), .int (iI u)].toArray) s) D (AA T a LR M s.heap.size) 3 (wld T a LR (sc (sc M 0 (upf (M 0) 1 ((M 0 1) - 1))) 1 (delf (M 1) (4 * u) k))) 30 [some (.ref (a 0)), some (.int (iI u)), some (.int (iI k))] [] := by
      intro n_30
      induction n_30 with
      | zero => intro k hm_30 h0; exfalso; omega
      | succ n_30 ih_30 =>
        intro k hm_30 h0
        refine g_iload_n F (pc' := 31) dX5_erase_30 rfl rfl ?_
        refine g_iconst F (pc' := 32) dX5_erase_31 rfl ?_
        refine g_aload_n F (pc' := 33) dX5_erase_32 rfl rfl ?_
        refine g_getI F K (k := 0) (fld := 1) (ci := 5) (z := (M 0 1) - 1) (pc' := 36) iX5_erase_X5 rfl rfl rfl (by decide) (List.mem_of_getElem? (i := 1) rfl) dX5_erase_33 rfl (by first | rfl | exact upf_s _ _ _ | simp [upf, sc]) ?_
        refine g_imul F (pc' := 37) dX5_erase_36 rfl ?_
        refine g_icmp_ge F (pc' := 40) (tgt := 60) dX5_erase_37 rfl (by decide) (by omega) (by omega) (fun c_37 => ?_) (fun c_37 => ?_)
        · skip
          refine g_aload_n F (pc' := 61) dX5_erase_60 rfl rfl ?_
          refine g_getI F K (k := 0) (fld := 1) (ci := 5) (z := (M 0 1) - 1) (pc' := 64) iX5_erase_X5 rfl rfl rfl (by decide) (List.mem_of_getElem? (i := 1) rfl) dX5_erase_61 rfl (by first | rfl | exact upf_s _ _ _ | simp [upf, sc]) ?_
          exact g_iret F hr hlk dX5_erase_64 (Or.inr ⟨c_11, rfl, by rw [show 4 * (M 0 1 - 1) = k by omega]⟩)
        · skip
          refine g_aload_n F (pc' := 41) dX5_erase_40 rfl rfl ?_
          refine g_getR F K (k := 0) (fld := 0) (ci := 5) (q := 1) (pc' := 44) iX5_erase_X5 rfl rfl rfl (by decide) (List.mem_of_getElem? (i := 2) rfl) dX5_erase_41 rfl ?_
          refine g_iload_n F (pc' := 45) dX5_erase_44 rfl rfl ?_
          refine g_aload_n F (pc' := 46) dX5_erase_45 rfl rfl ?_
          refine g_getR F K (k := 0) (fld := 0) (ci := 5) (q := 1) (pc' := 49) iX5_erase_X5 rfl rfl rfl (by decide) (List.mem_of_getElem? (i := 2) rfl) dX5_erase_46 rfl ?_
          refine g_iload_n F (pc' := 50) dX5_erase_49 rfl rfl ?_
          refine g_iconst F (pc' := 51) dX5_erase_50 rfl ?_
          refine g_iadd F (pc' := 52) dX5_erase_51 rfl ?_
          refine g_iald F K (k := 1) (v := (delf (M 1) (4 * u) k) (k + 4)) (pc' := 53) rfl (by decide) (by omega) dX5_erase_52 rfl (by first | rfl | simp [upf, sc]) ?_
          refine h_iast F K (k := 1) (pc' := 54) (sc (sc M 0 (upf (M 0) 1 ((M 0 1) - 1))) 1 (upf (delf (M 1) (4 * u) k) k ((delf (M 1) (4 * u) k) (k + 4)))) (mem_up (by rfl) (by intro j hj; simp only [sc, if_neg hj])) rfl (by decide) (by omega) dX5_erase_53 rfl ?_
          refine g_iinc F (pc' := 57) (lv' := [some (.ref (a 0)), some (.int (iI u)), some (.int (iI (k + 1)))]) dX5_erase_54 rfl rfl (by decide) rfl ?_
          refine g_goto F (tgt := 30) dX5_erase_57 (by decide) ?_
          refine h_mem (sc (sc M 0 (upf (M 0) 1 ((M 0 1) - 1))) 1 (delf (M 1) (4 * u) (k + 1))) (by rw [delf_s (by omega)]) ?_
          exact ih_30 (k + 1) (by omega) (by omega)
    exact lp_30 ((4 * (M 0 1 - 1) - (4 * u) : Int).toNat + 1) (4 * u) (by omega) (by omega)
  · skip
    have c_11 := zC_0 c_11
    refine g_iconst F (pc' := 15) dX5_erase_14 rfl ?_
    exact g_iret F hr hlk dX5_erase_15 (Or.inl ⟨c_11, rfl, rfl⟩)

theorem iX5_rule_X5 : ∀ w ∈ wsX50, w ∈ wsX5_rule := fun _ h => List.mem_cons_of_mem _ (List.mem_append_right _ h)
set_option maxHeartbeats 4000000 in
set_option maxRecDepth 100000 in
theorem c5_rule (l : Launch) (a : Nat → Nat) (M : Mem) (w n : Int) (hw : -2147483648 ≤ w ∧ w < 2147483648) (hn : -2147483648 ≤ n ∧ n < 2147483648) : CtI XT l yX5_rule wsX5_rule ({ frames := 1, cells := 0, slots := 0, locals := 22 } : Room) LR a M [.ref (a 0), .int (iI w), .int (iI n)] (q5_rule M w n) := by
  refine CtI.of (y := yX5_rule) (cc := cX5_rule) (maxL := 4) (ret := (some .int)) (lv := [some (.ref (a 0)), some (.int (iI w)), some (.int (iI n)), none]) (by decide) rfl (Nat.le_of_ble_eq_true rfl) (lvOK_of _ _ ⟨rfl, rfl⟩) ?_
  intro p e s m below meth c D T F K X0 hr hlk
  have hXc := XT_c
  refine g_iload_n F (pc' := 1) dX5_rule_0 rfl rfl ?_
  refine g_iconst F (pc' := 2) dX5_rule_1 rfl ?_
  refine g_iconst F (pc' := 3) dX5_rule_2 rfl ?_
  refine g_callP F (pc' := 6) (st := []) (c5_in l w 0 4 (by omega) (by omega) (by omega)) (va_cwS 3 F.2.2.2.2 gX5_rule_X5_in rfl rfl rfl (by decide +kernel) ⟨Nat.le_of_ble_eq_true rfl, Nat.le_of_ble_eq_true rfl⟩) rfl rfl (Nat.le_of_ble_eq_true rfl) dX5_rule_3 rfl ?_
  refine g_if_eq F (pc' := 9) (tgt := 37) dX5_rule_6 rfl (by decide) (zC_R _) (fun c_6 => ?_) (fun c_6 => ?_)
  · skip
    have c_6 := zC_0 c_6
    refine g_bipush F (pc' := 39) dX5_rule_37 rfl (by decide +kernel) ?_
    exact g_iret F hr hlk dX5_rule_39 (Or.inl ⟨by unfold rmx; first | (intro q; omega) | (rintro ⟨q1, q2⟩; first | exact c_6 q1 | (split at q2 <;> first | omega | (split at q2 <;> omega)))  , rfl, rfl⟩)
  · skip
    have c_6 := zC_1 c_6
    refine g_iload_n F (pc' := 10) dX5_rule_9 rfl rfl ?_
    refine g_iconst F (pc' := 11) dX5_rule_10 rfl ?_
    refine g_iload_n F (pc' := 12) dX5_rule_11 rfl rfl ?_
    refine g_if_ne F (pc' := 15) (tgt := 20) dX5_rule_12 rfl (by decide) (by omega) (fun c_12 => ?_) (fun c_12 => ?_)
    · skip
      refine g_iload_n F (pc' := 21) dX5_rule_20 rfl rfl ?_
      refine g_iconst F (pc' := 22) dX5_rule_21 rfl ?_
      refine g_icmp_ge F (pc' := 25) (tgt := 30) dX5_rule_22 rfl (by decide) (by omega) (by decide) (fun c_22 => ?_) (fun c_22 => ?_)
      · skip
        refine g_iconst F (pc' := 31) dX5_rule_30 rfl ?_
        refine g_callP F (pc' := 34) (st := []) (c5_in l n 0 3 (by omega) (by omega) (by omega)) (va_cwS 3 F.2.2.2.2 gX5_rule_X5_in rfl rfl rfl (by decide +kernel) ⟨Nat.le_of_ble_eq_true rfl, Nat.le_of_ble_eq_true rfl⟩) rfl rfl (Nat.le_of_ble_eq_true rfl) dX5_rule_31 rfl ?_
        refine g_if_ne F (pc' := 37) (tgt := 40) dX5_rule_34 rfl (by decide) (zC_R _) (fun c_34 => ?_) (fun c_34 => ?_)
        · skip
          have c_34 := zC_1 c_34
          refine g_aload_n F (pc' := 41) dX5_rule_40 rfl rfl ?_
          refine g_getR F K (k := 0) (fld := 2) (ci := 5) (q := 2) (pc' := 44) iX5_rule_X5 rfl rfl rfl (by decide) (List.mem_of_getElem? (i := 1) rfl) dX5_rule_41 rfl ?_
          refine g_iload_n F (pc' := 45) dX5_rule_44 rfl rfl ?_
          refine g_iald F K (k := 2) (v := M 2 w) (pc' := 46) rfl (by decide) (by omega) dX5_rule_45 rfl (by first | rfl | simp [upf, sc]) ?_
          refine g_istore_n F (pc' := 47) (lv' := [some (.ref (a 0)), some (.int (iI w)), some (.int (iI n)), some (.int (iI (M 2 w)))]) dX5_rule_46 rfl (by decide) rfl ?_
          refine g_aload_n F (pc' := 48) dX5_rule_47 rfl rfl ?_
          refine g_getR F K (k := 0) (fld := 2) (ci := 5) (q := 2) (pc' := 51) iX5_rule_X5 rfl rfl rfl (by decide) (List.mem_of_getElem? (i := 1) rfl) dX5_rule_48 rfl ?_
          refine g_iload_n F (pc' := 52) dX5_rule_51 rfl rfl ?_
          refine g_iload_n F (pc' := 53) dX5_rule_52 rfl rfl ?_
          refine h_iast F K (k := 2) (pc' := 54) (sc M 2 (upf (M 2) w n)) (mem_up (by rfl) (by intro j hj; simp only [sc, if_neg hj])) rfl (by decide) (by omega) dX5_rule_53 rfl ?_
          refine g_iload_n F (pc' := 55) dX5_rule_54 rfl rfl ?_
          exact g_iret F hr hlk dX5_rule_55 (Or.inr ⟨⟨c_6, by unfold rmx; first | (rw [if_pos (by omega)]; omega) | (rw [if_neg (by omega), if_pos (by omega)]; omega) | (rw [if_neg (by omega), if_neg (by omega)]; omega)⟩, rfl, rfl⟩)
        · skip
          have c_34 := zC_0 c_34
          refine g_bipush F (pc' := 39) dX5_rule_37 rfl (by decide +kernel) ?_
          exact g_iret F hr hlk dX5_rule_39 (Or.inl ⟨by unfold rmx; first | (intro q; omega) | (rintro ⟨q1, q2⟩; first | exact c_6 q1 | (split at q2 <;> first | omega | (split at q2 <;> omega)))  , rfl, rfl⟩)
      · skip
        refine g_bipush F (pc' := 27) dX5_rule_25 rfl (by decide +kernel) ?_
        refine g_goto F (tgt := 31) dX5_rule_27 (by decide) ?_
        refine g_callP F (pc' := 34) (st := []) (c5_in l n 0 9 (by omega) (by omega) (by omega)) (va_cwS 3 F.2.2.2.2 gX5_rule_X5_in rfl rfl rfl (by decide +kernel) ⟨Nat.le_of_ble_eq_true rfl, Nat.le_of_ble_eq_true rfl⟩) rfl rfl (Nat.le_of_ble_eq_true rfl) dX5_rule_31 rfl ?_
        refine g_if_ne F (pc' := 37) (tgt := 40) dX5_rule_34 rfl (by decide) (zC_R _) (fun c_34 => ?_) (fun c_34 => ?_)
        · skip
          have c_34 := zC_1 c_34
          refine g_aload_n F (pc' := 41) dX5_rule_40 rfl rfl ?_
          refine g_getR F K (k := 0) (fld := 2) (ci := 5) (q := 2) (pc' := 44) iX5_rule_X5 rfl rfl rfl (by decide) (List.mem_of_getElem? (i := 1) rfl) dX5_rule_41 rfl ?_
          refine g_iload_n F (pc' := 45) dX5_rule_44 rfl rfl ?_
          refine g_iald F K (k := 2) (v := M 2 w) (pc' := 46) rfl (by decide) (by omega) dX5_rule_45 rfl (by first | rfl | simp [upf, sc]) ?_
          refine g_istore_n F (pc' := 47) (lv' := [some (.ref (a 0)), some (.int (iI w)), some (.int (iI n)), some (.int (iI (M 2 w)))]) dX5_rule_46 rfl (by decide) rfl ?_
          refine g_aload_n F (pc' := 48) dX5_rule_47 rfl rfl ?_
          refine g_getR F K (k := 0) (fld := 2) (ci := 5) (q := 2) (pc' := 51) iX5_rule_X5 rfl rfl rfl (by decide) (List.mem_of_getElem? (i := 1) rfl) dX5_rule_48 rfl ?_
          refine g_iload_n F (pc' := 52) dX5_rule_51 rfl rfl ?_
          refine g_iload_n F (pc' := 53) dX5_rule_52 rfl rfl ?_
          refine h_iast F K (k := 2) (pc' := 54) (sc M 2 (upf (M 2) w n)) (mem_up (by rfl) (by intro j hj; simp only [sc, if_neg hj])) rfl (by decide) (by omega) dX5_rule_53 rfl ?_
          refine g_iload_n F (pc' := 55) dX5_rule_54 rfl rfl ?_
          exact g_iret F hr hlk dX5_rule_55 (Or.inr ⟨⟨c_6, by unfold rmx; first | (rw [if_pos (by omega)]; omega) | (rw [if_neg (by omega), if_pos (by omega)]; omega) | (rw [if_neg (by omega), if_neg (by omega)]; omega)⟩, rfl, rfl⟩)
        · skip
          have c_34 := zC_0 c_34
          refine g_bipush F (pc' := 39) dX5_rule_37 rfl (by decide +kernel) ?_
          exact g_iret F hr hlk dX5_rule_39 (Or.inl ⟨by unfold rmx; first | (intro q; omega) | (rintro ⟨q1, q2⟩; first | exact c_6 q1 | (split at q2 <;> first | omega | (split at q2 <;> omega)))  , rfl, rfl⟩)
    · skip
      refine g_bipush F (pc' := 17) dX5_rule_15 rfl (by decide +kernel) ?_
      refine g_goto F (tgt := 31) dX5_rule_17 (by decide) ?_
      refine g_callP F (pc' := 34) (st := []) (c5_in l n 0 99 (by omega) (by omega) (by omega)) (va_cwS 3 F.2.2.2.2 gX5_rule_X5_in rfl rfl rfl (by decide +kernel) ⟨Nat.le_of_ble_eq_true rfl, Nat.le_of_ble_eq_true rfl⟩) rfl rfl (Nat.le_of_ble_eq_true rfl) dX5_rule_31 rfl ?_
      refine g_if_ne F (pc' := 37) (tgt := 40) dX5_rule_34 rfl (by decide) (zC_R _) (fun c_34 => ?_) (fun c_34 => ?_)
      · skip
        have c_34 := zC_1 c_34
        refine g_aload_n F (pc' := 41) dX5_rule_40 rfl rfl ?_
        refine g_getR F K (k := 0) (fld := 2) (ci := 5) (q := 2) (pc' := 44) iX5_rule_X5 rfl rfl rfl (by decide) (List.mem_of_getElem? (i := 1) rfl) dX5_rule_41 rfl ?_
        refine g_iload_n F (pc' := 45) dX5_rule_44 rfl rfl ?_
        refine g_iald F K (k := 2) (v := M 2 w) (pc' := 46) rfl (by decide) (by omega) dX5_rule_45 rfl (by first | rfl | simp [upf, sc]) ?_
        refine g_istore_n F (pc' := 47) (lv' := [some (.ref (a 0)), some (.int (iI w)), some (.int (iI n)), some (.int (iI (M 2 w)))]) dX5_rule_46 rfl (by decide) rfl ?_
        refine g_aload_n F (pc' := 48) dX5_rule_47 rfl rfl ?_
        refine g_getR F K (k := 0) (fld := 2) (ci := 5) (q := 2) (pc' := 51) iX5_rule_X5 rfl rfl rfl (by decide) (List.mem_of_getElem? (i := 1) rfl) dX5_rule_48 rfl ?_
        refine g_iload_n F (pc' := 52) dX5_rule_51 rfl rfl ?_
        refine g_iload_n F (pc' := 53) dX5_rule_52 rfl rfl ?_
        refine h_iast F K (k := 2) (pc' := 54) (sc M 2 (upf (M 2) w n)) (mem_up (by rfl) (by intro j hj; simp only [sc, if_neg hj])) rfl (by decide) (by omega) dX5_rule_53 rfl ?_
        refine g_iload_n F (pc' := 55) dX5_rule_54 rfl rfl ?_
        exact g_iret F hr hlk dX5_rule_55 (Or.inr ⟨⟨c_6, by unfold rmx; first | (rw [if_pos (by omega)]; omega) | (rw [if_neg (by omega), if_pos (by omega)]; omega) | (rw [if_neg (by omega), if_neg (by omega)]; omega)⟩, rfl, rfl⟩)
      · skip
        have c_34 := zC_0 c_34
        refine g_bipush F (pc' := 39) dX5_rule_37 rfl (by decide +kernel) ?_
        exact g_iret F hr hlk dX5_rule_39 (Or.inl ⟨by unfold rmx; first | (intro q; omega) | (rintro ⟨q1, q2⟩; first | exact c_6 q1 | (split at q2 <;> first | omega | (split at q2 <;> omega)))  , rfl, rfl⟩)

theorem iX5_image_X5 : ∀ w ∈ wsX50, w ∈ wsX5_image := fun _ h => List.mem_cons_of_mem _ (List.mem_append_right _ h)
set_option maxHeartbeats 4000000 in
set_option maxRecDepth 100000 in
theorem c5_image (l : Launch) (a : Nat → Nat) (M : Mem) (n : Int) (hn : -2147483648 ≤ n ∧ n < 2147483648) : CtI XT l yX5_image wsX5_image ({ frames := 1, cells := 0, slots := 0, locals := 22 } : Room) LR a M [.ref (a 0), .int (iI n)] (q5_image M n) := by
  refine CtI.of (y := yX5_image) (cc := cX5_image) (maxL := 3) (ret := (some .int)) (lv := [some (.ref (a 0)), some (.int (iI n)), none]) (by decide) rfl (Nat.le_of_ble_eq_true rfl) (lvOK_of _ _ ⟨rfl, rfl⟩) ?_
  intro p e s m below meth c D T F K X0 hr hlk
  have hXc := XT_c
  refine g_iload_n F (pc' := 1) dX5_image_0 rfl rfl ?_
  refine g_iconst F (pc' := 2) dX5_image_1 rfl ?_
  refine g_iconst F (pc' := 3) dX5_image_2 rfl ?_
  refine g_callP F (pc' := 6) (st := []) (c5_in l n 0 1 (by omega) (by omega) (by omega)) (va_cwS 3 F.2.2.2.2 gX5_image_X5_in rfl rfl rfl (by decide +kernel) ⟨Nat.le_of_ble_eq_true rfl, Nat.le_of_ble_eq_true rfl⟩) rfl rfl (Nat.le_of_ble_eq_true rfl) dX5_image_3 rfl ?_
  refine g_if_ne F (pc' := 9) (tgt := 12) dX5_image_6 rfl (by decide) (zC_R _) (fun c_6 => ?_) (fun c_6 => ?_)
  · skip
    have c_6 := zC_1 c_6
    refine g_iconst F (pc' := 13) dX5_image_12 rfl ?_
    refine g_istore_n F (pc' := 14) (lv' := [some (.ref (a 0)), some (.int (iI n)), some (.int (iI 0))]) dX5_image_13 rfl (by decide) rfl ?_
    refine h_mem (sc M 17 (cpy (M 17) (M 1) (70 * n) 0)) (by rw [cpy_0]; exact (sc_id _ 17).symm) ?_
    have lp_14 : ∀ (n_14 : Nat) (k : Int) (hm_14 : 64 - k < (n_14 : Int)) (h0 : 0 ≤ k ∧ k ≤ 64), GG p l e ({ frames := 1, cells := 0, slots := 0, locals := 22 } : Room) s m ([.ref (a 0), .int (iI n)].toArray) below meth c (PI D T a LR M (q5_image M n) below ([.ref (a 0), .int (iI n)].toArray) s) D (AA T a LR M s.heap.size) 3 (wld T a LR (sc M 17 (cpy (M 17) (M 1) (70 * n) k))) 14 [some (.ref (a 0)), some (.int (iI n)), some (.int (iI k))] [] := by
      intro n_14
      induction n_14 with
      | zero => intro k hm_14 h0; exfalso; omega
      | succ n_14 ih_14 =>
        intro k hm_14 h0
        refine g_iload_n F (pc' := 15) dX5_image_14 rfl rfl ?_
        refine g_bipush F (pc' := 17) dX5_image_15 rfl (by decide +kernel) ?_
        refine g_icmp_ge F (pc' := 20) (tgt := 43) dX5_image_17 rfl (by decide) (by omega) (by decide) (fun c_17 => ?_) (fun c_17 => ?_)
        · skip
          refine g_iconst F (pc' := 44) dX5_image_43 rfl ?_
          refine g_istore_n F (pc' := 45) (lv' := [some (.ref (a 0)), some (.int (iI n)), some (.int (iI 0))]) dX5_image_44 rfl (by decide) rfl ?_
          refine h_mem (sc M 17 (cpy (cpy (M 17) (M 1) (70 * n) 64) (M 2) (70 * n + 64) 0)) (by rw [cpy_0, show k = 64 by omega]) ?_
          have lp_45 : ∀ (n_45 : Nat) (q : Int) (hm_45 : 5 - q < (n_45 : Int)) (h1 : 0 ≤ q ∧ q ≤ 5), GG p l e ({ frames := 1, cells := 0, slots := 0, locals := 22 } : Room) s m ([.ref (a 0), .int (iI n)].toArray) below meth c (PI D T a LR M (q5_image M n) below ([.ref (a 0), .int (iI n)].toArray) s) D (AA T a LR M s.heap.size) 3 (wld T a LR (sc M 17 (cpy (cpy (M 17) (M 1) (70 * n) 64) (M 2) (70 * n + 64) q))) 45 [some (.ref (a 0)), some (.int (iI n)), some (.int (iI q))] [] := by
            intro n_45
            induction n_45 with
            | zero => intro q hm_45 h1; exfalso; omega
            | succ n_45 ih_45 =>
              intro q hm_45 h1
              refine g_iload_n F (pc' := 46) dX5_image_45 rfl rfl ?_
              refine g_iconst F (pc' := 47) dX5_image_46 rfl ?_
              refine g_icmp_ge F (pc' := 50) (tgt := 76) dX5_image_47 rfl (by decide) (by omega) (by decide) (fun c_47 => ?_) (fun c_47 => ?_)
              · skip
                refine g_aload_n F (pc' := 77) dX5_image_76 rfl rfl ?_
                refine g_getR F K (k := 0) (fld := 21) (ci := 5) (q := 17) (pc' := 80) iX5_image_X5 rfl rfl rfl (by decide) (List.mem_of_getElem? (i := 1) rfl) dX5_image_77 rfl ?_
                refine g_bipush F (pc' := 82) dX5_image_80 rfl (by decide +kernel) ?_
                refine g_iload_n F (pc' := 83) dX5_image_82 rfl rfl ?_
                refine g_imul F (pc' := 84) dX5_image_83 rfl ?_
                refine g_bipush F (pc' := 86) dX5_image_84 rfl (by decide +kernel) ?_
                refine g_iadd F (pc' := 87) dX5_image_86 rfl ?_
                refine g_aload_n F (pc' := 88) dX5_image_87 rfl rfl ?_
                refine g_getI F K (k := 0) (fld := 1) (ci := 5) (z := M 0 1) (pc' := 91) iX5_image_X5 rfl rfl rfl (by decide) (List.mem_of_getElem? (i := 4) rfl) dX5_image_88 rfl (by first | rfl | simp [upf, sc]) ?_
                refine h_iast F K (k := 17) (pc' := 92) (sc M 17 (upf (cpy (cpy (M 17) (M 1) (70 * n) 64) (M 2) (70 * n + 64) q) ((70 * n) + 69) (M 0 1))) (mem_up (by rfl) (by intro j hj; simp only [sc, if_neg hj])) rfl (by decide) (by omega) dX5_image_91 rfl ?_
                refine g_aload_n F (pc' := 93) dX5_image_92 rfl rfl ?_
                refine g_getR F K (k := 0) (fld := 22) (ci := 5) (q := 18) (pc' := 96) iX5_image_X5 rfl rfl rfl (by decide) (List.mem_of_getElem? (i := 5) rfl) dX5_image_93 rfl ?_
                refine g_iload_n F (pc' := 97) dX5_image_96 rfl rfl ?_
                refine g_iconst F (pc' := 98) dX5_image_97 rfl ?_
                refine h_zast F K (k := 18) (pc' := 99) (sc (sc M 17 (upf (cpy (cpy (M 17) (M 1) (70 * n) 64) (M 2) (70 * n + 64) q) ((70 * n) + 69) (M 0 1))) 18 (upf (M 18) n 1)) (mem_up (by rfl) (by intro j hj; simp only [sc, if_neg hj])) rfl (by decide) (by omega) (by omega) dX5_image_98 rfl ?_
                refine g_iconst F (pc' := 100) dX5_image_99 rfl ?_
                exact g_iret F hr hlk dX5_image_100 (Or.inr ⟨c_6, rfl, by rw [show (5 : Int) = q by omega]⟩)
              · skip
                refine g_aload_n F (pc' := 51) dX5_image_50 rfl rfl ?_
                refine g_getR F K (k := 0) (fld := 21) (ci := 5) (q := 17) (pc' := 54) iX5_image_X5 rfl rfl rfl (by decide) (List.mem_of_getElem? (i := 1) rfl) dX5_image_51 rfl ?_
                refine g_bipush F (pc' := 56) dX5_image_54 rfl (by decide +kernel) ?_
                refine g_iload_n F (pc' := 57) dX5_image_56 rfl rfl ?_
                refine g_imul F (pc' := 58) dX5_image_57 rfl ?_
                refine g_bipush F (pc' := 60) dX5_image_58 rfl (by decide +kernel) ?_
                refine g_iadd F (pc' := 61) dX5_image_60 rfl ?_
                refine g_iload_n F (pc' := 62) dX5_image_61 rfl rfl ?_
                refine g_iadd F (pc' := 63) dX5_image_62 rfl ?_
                refine g_aload_n F (pc' := 64) dX5_image_63 rfl rfl ?_
                refine g_getR F K (k := 0) (fld := 2) (ci := 5) (q := 2) (pc' := 67) iX5_image_X5 rfl rfl rfl (by decide) (List.mem_of_getElem? (i := 3) rfl) dX5_image_64 rfl ?_
                refine g_iload_n F (pc' := 68) dX5_image_67 rfl rfl ?_
                refine g_iald F K (k := 2) (v := M 2 q) (pc' := 69) rfl (by decide) (by omega) dX5_image_68 rfl (by first | rfl | simp [upf, sc]) ?_
                refine h_iast F K (k := 17) (pc' := 70) (sc M 17 (upf (cpy (cpy (M 17) (M 1) (70 * n) 64) (M 2) (70 * n + 64) q) (((70 * n) + 64) + q) (M 2 q))) (mem_up (by rfl) (by intro j hj; simp only [sc, if_neg hj])) rfl (by decide) (by omega) dX5_image_69 rfl ?_
                refine g_iinc F (pc' := 73) (lv' := [some (.ref (a 0)), some (.int (iI n)), some (.int (iI (q + 1)))]) dX5_image_70 rfl rfl (by decide) rfl ?_
                refine g_goto F (tgt := 45) dX5_image_73 (by decide) ?_
                refine h_mem (sc M 17 (cpy (cpy (M 17) (M 1) (70 * n) 64) (M 2) (70 * n + 64) (q + 1))) (by rw [cpy_s h1.1]) ?_
                exact ih_45 (q + 1) (by omega) (by omega)
          exact lp_45 ((5 - 0 : Int).toNat + 1) 0 (by omega) (by omega)
        · skip
          refine g_aload_n F (pc' := 21) dX5_image_20 rfl rfl ?_
          refine g_getR F K (k := 0) (fld := 21) (ci := 5) (q := 17) (pc' := 24) iX5_image_X5 rfl rfl rfl (by decide) (List.mem_of_getElem? (i := 1) rfl) dX5_image_21 rfl ?_
          refine g_bipush F (pc' := 26) dX5_image_24 rfl (by decide +kernel) ?_
          refine g_iload_n F (pc' := 27) dX5_image_26 rfl rfl ?_
          refine g_imul F (pc' := 28) dX5_image_27 rfl ?_
          refine g_iload_n F (pc' := 29) dX5_image_28 rfl rfl ?_
          refine g_iadd F (pc' := 30) dX5_image_29 rfl ?_
          refine g_aload_n F (pc' := 31) dX5_image_30 rfl rfl ?_
          refine g_getR F K (k := 0) (fld := 0) (ci := 5) (q := 1) (pc' := 34) iX5_image_X5 rfl rfl rfl (by decide) (List.mem_of_getElem? (i := 2) rfl) dX5_image_31 rfl ?_
          refine g_iload_n F (pc' := 35) dX5_image_34 rfl rfl ?_
          refine g_iald F K (k := 1) (v := M 1 k) (pc' := 36) rfl (by decide) (by omega) dX5_image_35 rfl (by first | rfl | simp [upf, sc]) ?_
          refine h_iast F K (k := 17) (pc' := 37) (sc M 17 (upf (cpy (M 17) (M 1) (70 * n) k) ((70 * n) + k) (M 1 k))) (mem_up (by rfl) (by intro j hj; simp only [sc, if_neg hj])) rfl (by decide) (by omega) dX5_image_36 rfl ?_
          refine g_iinc F (pc' := 40) (lv' := [some (.ref (a 0)), some (.int (iI n)), some (.int (iI (k + 1)))]) dX5_image_37 rfl rfl (by decide) rfl ?_
          refine g_goto F (tgt := 14) dX5_image_40 (by decide) ?_
          refine h_mem (sc M 17 (cpy (M 17) (M 1) (70 * n) (k + 1))) (by rw [cpy_s h0.1]) ?_
          exact ih_14 (k + 1) (by omega) (by omega)
    exact lp_14 ((64 - 0 : Int).toNat + 1) 0 (by omega) (by omega)
  · skip
    have c_6 := zC_0 c_6
    refine g_bipush F (pc' := 11) dX5_image_9 rfl (by decide +kernel) ?_
    exact g_iret F hr hlk dX5_image_11 (Or.inl ⟨c_6, rfl, rfl⟩)

theorem iX5_restore_X5 : ∀ w ∈ wsX50, w ∈ wsX5_restore := fun _ h => List.mem_cons_of_mem _ (List.mem_append_right _ h)
set_option maxHeartbeats 4000000 in
set_option maxRecDepth 100000 in
theorem c5_restore (l : Launch) (a : Nat → Nat) (M : Mem) (n : Int) (hn : -2147483648 ≤ n ∧ n < 2147483648) (hk : ∀ j, 0 ≤ M 18 j ∧ M 18 j ≤ 1) : CtI XT l yX5_restore wsX5_restore ({ frames := 1, cells := 0, slots := 0, locals := 22 } : Room) LR a M [.ref (a 0), .int (iI n)] (q5_restore M n) := by
  refine CtI.of (y := yX5_restore) (cc := cX5_restore) (maxL := 3) (ret := (some .int)) (lv := [some (.ref (a 0)), some (.int (iI n)), none]) (by decide) rfl (Nat.le_of_ble_eq_true rfl) (lvOK_of _ _ ⟨rfl, rfl⟩) ?_
  intro p e s m below meth c D T F K X0 hr hlk
  have hXc := XT_c
  refine g_iload_n F (pc' := 1) dX5_restore_0 rfl rfl ?_
  refine g_iconst F (pc' := 2) dX5_restore_1 rfl ?_
  refine g_iconst F (pc' := 3) dX5_restore_2 rfl ?_
  refine g_callP F (pc' := 6) (st := []) (c5_in l n 0 1 (by omega) (by omega) (by omega)) (va_cwS 3 F.2.2.2.2 gX5_restore_X5_in rfl rfl rfl (by decide +kernel) ⟨Nat.le_of_ble_eq_true rfl, Nat.le_of_ble_eq_true rfl⟩) rfl rfl (Nat.le_of_ble_eq_true rfl) dX5_restore_3 rfl ?_
  refine g_if_ne F (pc' := 9) (tgt := 12) dX5_restore_6 rfl (by decide) (zC_R _) (fun c_6 => ?_) (fun c_6 => ?_)
  · skip
    have c_6 := zC_1 c_6
    refine g_aload_n F (pc' := 13) dX5_restore_12 rfl rfl ?_
    refine g_getR F K (k := 0) (fld := 22) (ci := 5) (q := 18) (pc' := 16) iX5_restore_X5 rfl rfl rfl (by decide) (List.mem_of_getElem? (i := 1) rfl) dX5_restore_13 rfl ?_
    refine g_iload_n F (pc' := 17) dX5_restore_16 rfl rfl ?_
    refine g_zald F K (k := 18) (v := M 18 n) (pc' := 18) rfl (by decide) (by omega) dX5_restore_17 rfl (by first | rfl | simp [upf, sc]) ?_
    have b_17 := hk n
    refine g_if_ne F (pc' := 21) (tgt := 24) dX5_restore_18 rfl (by decide) (by omega) (fun c_18 => ?_) (fun c_18 => ?_)
    · skip
      refine g_iconst F (pc' := 25) dX5_restore_24 rfl ?_
      refine g_istore_n F (pc' := 26) (lv' := [some (.ref (a 0)), some (.int (iI n)), some (.int (iI 0))]) dX5_restore_25 rfl (by decide) rfl ?_
      refine h_mem (sc M 1 (cpr (M 1) (M 17) (70 * n) 0)) (by rw [cpr_0]; exact (sc_id _ 1).symm) ?_
      have lp_26 : ∀ (n_26 : Nat) (k : Int) (hm_26 : 64 - k < (n_26 : Int)) (h0 : 0 ≤ k ∧ k ≤ 64), GG p l e ({ frames := 1, cells := 0, slots := 0, locals := 22 } : Room) s m ([.ref (a 0), .int (iI n)].toArray) below meth c (PI D T a LR M (q5_restore M n) below ([.ref (a 0), .int (iI n)].toArray) s) D (AA T a LR M s.heap.size) 3 (wld T a LR (sc M 1 (cpr (M 1) (M 17) (70 * n) k))) 26 [some (.ref (a 0)), some (.int (iI n)), some (.int (iI k))] [] := by
        intro n_26
        induction n_26 with
        | zero => intro k hm_26 h0; exfalso; omega
        | succ n_26 ih_26 =>
          intro k hm_26 h0
          refine g_iload_n F (pc' := 27) dX5_restore_26 rfl rfl ?_
          refine g_bipush F (pc' := 29) dX5_restore_27 rfl (by decide +kernel) ?_
          refine g_icmp_ge F (pc' := 32) (tgt := 55) dX5_restore_29 rfl (by decide) (by omega) (by decide) (fun c_29 => ?_) (fun c_29 => ?_)
          · skip
            refine g_iconst F (pc' := 56) dX5_restore_55 rfl ?_
            refine g_istore_n F (pc' := 57) (lv' := [some (.ref (a 0)), some (.int (iI n)), some (.int (iI 0))]) dX5_restore_56 rfl (by decide) rfl ?_
            refine h_mem (sc (sc M 1 (cpr (M 1) (M 17) (70 * n) 64)) 2 (cpr (M 2) (M 17) (70 * n + 64) 0)) (by rw [cpr_0, show k = 64 by omega]; exact (sc_id _ 2).symm) ?_
            have lp_57 : ∀ (n_57 : Nat) (q : Int) (hm_57 : 5 - q < (n_57 : Int)) (h1 : 0 ≤ q ∧ q ≤ 5), GG p l e ({ frames := 1, cells := 0, slots := 0, locals := 22 } : Room) s m ([.ref (a 0), .int (iI n)].toArray) below meth c (PI D T a LR M (q5_restore M n) below ([.ref (a 0), .int (iI n)].toArray) s) D (AA T a LR M s.heap.size) 3 (wld T a LR (sc (sc M 1 (cpr (M 1) (M 17) (70 * n) 64)) 2 (cpr (M 2) (M 17) (70 * n + 64) q))) 57 [some (.ref (a 0)), some (.int (iI n)), some (.int (iI q))] [] := by
              intro n_57
              induction n_57 with
              | zero => intro q hm_57 h1; exfalso; omega
              | succ n_57 ih_57 =>
                intro q hm_57 h1
                refine g_iload_n F (pc' := 58) dX5_restore_57 rfl rfl ?_
                refine g_iconst F (pc' := 59) dX5_restore_58 rfl ?_
                refine g_icmp_ge F (pc' := 62) (tgt := 88) dX5_restore_59 rfl (by decide) (by omega) (by decide) (fun c_59 => ?_) (fun c_59 => ?_)
                · skip
                  refine g_aload_n F (pc' := 89) dX5_restore_88 rfl rfl ?_
                  refine g_aload_n F (pc' := 90) dX5_restore_89 rfl rfl ?_
                  refine g_getR F K (k := 0) (fld := 21) (ci := 5) (q := 17) (pc' := 93) iX5_restore_X5 rfl rfl rfl (by decide) (List.mem_of_getElem? (i := 3) rfl) dX5_restore_90 rfl ?_
                  refine g_bipush F (pc' := 95) dX5_restore_93 rfl (by decide +kernel) ?_
                  refine g_iload_n F (pc' := 96) dX5_restore_95 rfl rfl ?_
                  refine g_imul F (pc' := 97) dX5_restore_96 rfl ?_
                  refine g_bipush F (pc' := 99) dX5_restore_97 rfl (by decide +kernel) ?_
                  refine g_iadd F (pc' := 100) dX5_restore_99 rfl ?_
                  refine g_iald F K (k := 17) (v := M 17 ((70 * n) + 69)) (pc' := 101) rfl (by decide) (by omega) dX5_restore_100 rfl (by first | rfl | simp [upf, sc]) ?_
                  refine h_putI F K (k := 0) (fld := 1) (ci := 5) (pc' := 104) (sc (sc (sc M 0 (upf (M 0) 1 (M 17 ((70 * n) + 69)))) 1 (cpr (M 1) (M 17) (70 * n) 64)) 2 (cpr (M 2) (M 17) (70 * n + 64) q)) (mem_up (by rfl) (by intro j hj; simp only [sc, if_neg hj])) tyX5 tyX5_ok nmX5 iX5_restore_X5 rfl rfl rfl (by decide) rfl rfl (List.mem_of_getElem? (i := 5) rfl) dX5_restore_101 rfl ?_
                  refine g_iconst F (pc' := 105) dX5_restore_104 rfl ?_
                  exact g_iret F hr hlk dX5_restore_105 (Or.inr (Or.inr ⟨c_6, c_18, rfl, by rw [show (5 : Int) = q by omega]⟩))
                · skip
                  refine g_aload_n F (pc' := 63) dX5_restore_62 rfl rfl ?_
                  refine g_getR F K (k := 0) (fld := 2) (ci := 5) (q := 2) (pc' := 66) iX5_restore_X5 rfl rfl rfl (by decide) (List.mem_of_getElem? (i := 4) rfl) dX5_restore_63 rfl ?_
                  refine g_iload_n F (pc' := 67) dX5_restore_66 rfl rfl ?_
                  refine g_aload_n F (pc' := 68) dX5_restore_67 rfl rfl ?_
                  refine g_getR F K (k := 0) (fld := 21) (ci := 5) (q := 17) (pc' := 71) iX5_restore_X5 rfl rfl rfl (by decide) (List.mem_of_getElem? (i := 3) rfl) dX5_restore_68 rfl ?_
                  refine g_bipush F (pc' := 73) dX5_restore_71 rfl (by decide +kernel) ?_
                  refine g_iload_n F (pc' := 74) dX5_restore_73 rfl rfl ?_
                  refine g_imul F (pc' := 75) dX5_restore_74 rfl ?_
                  refine g_bipush F (pc' := 77) dX5_restore_75 rfl (by decide +kernel) ?_
                  refine g_iadd F (pc' := 78) dX5_restore_77 rfl ?_
                  refine g_iload_n F (pc' := 79) dX5_restore_78 rfl rfl ?_
                  refine g_iadd F (pc' := 80) dX5_restore_79 rfl ?_
                  refine g_iald F K (k := 17) (v := M 17 (((70 * n) + 64) + q)) (pc' := 81) rfl (by decide) (by omega) dX5_restore_80 rfl (by first | rfl | simp [upf, sc]) ?_
                  refine h_iast F K (k := 2) (pc' := 82) (sc (sc M 1 (cpr (M 1) (M 17) (70 * n) 64)) 2 (upf (cpr (M 2) (M 17) (70 * n + 64) q) q (M 17 (((70 * n) + 64) + q)))) (mem_up (by rfl) (by intro j hj; simp only [sc, if_neg hj])) rfl (by decide) (by omega) dX5_restore_81 rfl ?_
                  refine g_iinc F (pc' := 85) (lv' := [some (.ref (a 0)), some (.int (iI n)), some (.int (iI (q + 1)))]) dX5_restore_82 rfl rfl (by decide) rfl ?_
                  refine g_goto F (tgt := 57) dX5_restore_85 (by decide) ?_
                  refine h_mem (sc (sc M 1 (cpr (M 1) (M 17) (70 * n) 64)) 2 (cpr (M 2) (M 17) (70 * n + 64) (q + 1))) (by rw [cpr_s h1.1]) ?_
                  exact ih_57 (q + 1) (by omega) (by omega)
            exact lp_57 ((5 - 0 : Int).toNat + 1) 0 (by omega) (by omega)
          · skip
            refine g_aload_n F (pc' := 33) dX5_restore_32 rfl rfl ?_
            refine g_getR F K (k := 0) (fld := 0) (ci := 5) (q := 1) (pc' := 36) iX5_restore_X5 rfl rfl rfl (by decide) (List.mem_of_getElem? (i := 2) rfl) dX5_restore_33 rfl ?_
            refine g_iload_n F (pc' := 37) dX5_restore_36 rfl rfl ?_
            refine g_aload_n F (pc' := 38) dX5_restore_37 rfl rfl ?_
            refine g_getR F K (k := 0) (fld := 21) (ci := 5) (q := 17) (pc' := 41) iX5_restore_X5 rfl rfl rfl (by decide) (List.mem_of_getElem? (i := 3) rfl) dX5_restore_38 rfl ?_
            refine g_bipush F (pc' := 43) dX5_restore_41 rfl (by decide +kernel) ?_
            refine g_iload_n F (pc' := 44) dX5_restore_43 rfl rfl ?_
            refine g_imul F (pc' := 45) dX5_restore_44 rfl ?_
            refine g_iload_n F (pc' := 46) dX5_restore_45 rfl rfl ?_
            refine g_iadd F (pc' := 47) dX5_restore_46 rfl ?_
            refine g_iald F K (k := 17) (v := M 17 ((70 * n) + k)) (pc' := 48) rfl (by decide) (by omega) dX5_restore_47 rfl (by first | rfl | simp [upf, sc]) ?_
            refine h_iast F K (k := 1) (pc' := 49) (sc M 1 (upf (cpr (M 1) (M 17) (70 * n) k) k (M 17 ((70 * n) + k)))) (mem_up (by rfl) (by intro j hj; simp only [sc, if_neg hj])) rfl (by decide) (by omega) dX5_restore_48 rfl ?_
            refine g_iinc F (pc' := 52) (lv' := [some (.ref (a 0)), some (.int (iI n)), some (.int (iI (k + 1)))]) dX5_restore_49 rfl rfl (by decide) rfl ?_
            refine g_goto F (tgt := 26) dX5_restore_52 (by decide) ?_
            refine h_mem (sc M 1 (cpr (M 1) (M 17) (70 * n) (k + 1))) (by rw [cpr_s h0.1]) ?_
            exact ih_26 (k + 1) (by omega) (by omega)
      exact lp_26 ((64 - 0 : Int).toNat + 1) 0 (by omega) (by omega)
    · skip
      refine g_bipush F (pc' := 23) dX5_restore_21 rfl (by decide +kernel) ?_
      exact g_iret F hr hlk dX5_restore_23 (Or.inr (Or.inl ⟨c_6, c_18, rfl, rfl⟩))
  · skip
    have c_6 := zC_0 c_6
    refine g_bipush F (pc' := 11) dX5_restore_9 rfl (by decide +kernel) ?_
    exact g_iret F hr hlk dX5_restore_11 (Or.inl ⟨c_6, rfl, rfl⟩)
end
