/-! ===== the law: its loop ===== -/
theorem ofN_iI (n : Nat) : Int32.ofNat n = iI (n : Int) := by
  first | rfl | exact (Int32.ofInt_eq_ofNat).symm | simp [iI]
section LOOP
variable {p : Program} {l : Launch} {e : Env} {s : State} {m : MethodId} {below : List Frame} {meth : Method} {c : Code} {b L : Nat} {xs : Nat → Int32} {D : va_G} {T : Nat → ClassId} {a1 a2 : Nat → Nat}
set_option maxHeartbeats 4000000 in
theorem law_head (hr : meth.sig.returnType = ret) (hlocks : meth.locks = false) (X : LX p s m c b L xs D T) {i : Int} {MC MR : Mem} (h0 : 0 ≤ i) (h1 : i ≤ (L : Int)) (h : REL MC MR) (nx0 : i + 3 ≤ (L : Int) → ∀ MC' MR' : Mem, REL MC' MR' → LG p l e s m below meth c b D T a1 a2 (i + 3) MC' MR' 18 []) : LG p l e s m below meth c b D T a1 a2 i MC MR 18 [] := by
  intro H locs ls hP hD hS hl
  have hL := X.2.2.2.2.2
  have hbA : ¬ (fun q : Nat => s.heap.size ≤ q) b := fun h => absurd X.2.2.2.1 (Nat.not_lt.mpr h)
  refine lv_iload_n X.1.1 X.1.2.1 dL_law_18 rfl (lv_at hl 3 rfl) ?_
  refine lv_aload_n X.1.1 X.1.2.1 dL_law_19 rfl (lv_at hl 0 rfl) ?_
  refine va_slen X.1.1 X.1.2.1 X.2.2.1 X.2.2.2.1 hbA hS dL_law_20 ?_
  refine lv_iconst X.1.1 X.1.2.1 dL_law_21 (v := iI 3) rfl ?_
  refine lv_isub X.1.1 X.1.2.1 dL_law_22 ?_
  rw [ofN_iI, iI_sub]
  refine lv_icmp_gt (tgt := 628) X.1.1 X.1.2.1 dL_law_23 (by decide) (fun hc => ?_) (fun hc => ?_)
  · refine va_forget (fun q hq => hS.2.2 q hq) ?_
    refine lv_iconst (v := 1) X.1.1 X.1.2.1 dL_law_628 (by decide) ?_
    exact lw_ret X.1.1 X.1.2.1 hr hlocks dL_law_629
  · have hi : 0 ≤ i ∧ i + 3 ≤ (L : Int) := by
      have : ¬ ((L : Int) - 3 < i) := fun q => hc ((iI_lt (by omega) (by omega)).mpr q)
      omega
    have nx : ∀ MC' MR' : Mem, REL MC' MR' → LG p l e s m below meth c b D T a1 a2 i MC' MR' 622 [] := by
      intro MC' MR' h' H locs ls hP hD hS hl
      refine lv_iinc (v := iI (i + 3)) (lv' := [(3, .int (iI (i + 3))), (0, .ref b), (1, .ref (a1 0)), (2, .ref (a2 0))]) X.1.1 X.1.2.1 dL_law_622 hl (k := 3) rfl (iI_add i 3) (by decide) rfl (fun ls hl => ?_)
      refine lv_goto (tgt := 18) X.1.1 X.1.2.1 dL_law_625 (by decide) ?_
      exact nx0 hi.2 MC' MR' h' H locs ls hP hD hS (lv_sub hl [1, 2, 3, 0] rfl)
    refine lv_aload_n X.1.1 X.1.2.1 dL_law_26 rfl (lv_at hl 0 rfl) ?_
    refine lv_iload_n X.1.1 X.1.2.1 dL_law_27 rfl (lv_at hl 3 rfl) ?_
    refine va_sld X.1.1 X.1.2.1 X.2.2.1 X.2.2.2.1 hbA hS (iI_in ⟨h0, by omega⟩ (by omega)) dL_law_28 ?_
    refine lv_bipush X.1.1 X.1.2.1 dL_law_29 (v := iI 31) (by decide +kernel) ?_
    refine lv_iand X.1.1 X.1.2.1 dL_law_31 ?_
    generalize (xs (iI i).toNatClampNeg &&& iI 31) = y
    rcases (show y.toInt = 0 ∨ y.toInt = 1 ∨ y.toInt = 2 ∨ y.toInt = 3 ∨ y.toInt = 4 ∨ y.toInt = 5 ∨ y.toInt = 6 ∨ y.toInt = 7 ∨ y.toInt = 8 ∨ y.toInt = 9 ∨ y.toInt = 10 ∨ y.toInt = 11 ∨ y.toInt = 12 ∨ y.toInt = 13 ∨ y.toInt = 14 ∨ y.toInt = 15 ∨ y.toInt = 16 ∨ y.toInt = 17 ∨ y.toInt = 18 ∨ (y.toInt < 0 ∨ 18 < y.toInt) by omega) with q | q | q | q | q | q | q | q | q | q | q | q | q | q | q | q | q | q | q | q
    · exact lv_tableIn X.1.1 X.1.2.1 dL_law_32 (by rw [q]; decide) (by rw [q]; decide) (off := 92) (tgt := 124) (by rw [q]; rfl) (by decide) (L_say X hi h nx H locs ls hP hD hS hl)
    · exact lv_tableIn X.1.1 X.1.2.1 dL_law_32 (by rw [q]; decide) (by rw [q]; decide) (off := 115) (tgt := 147) (by rw [q]; rfl) (by decide) (L_wipe X hi h nx H locs ls hP hD hS hl)
    · exact lv_tableIn X.1.1 X.1.2.1 dL_law_32 (by rw [q]; decide) (by rw [q]; decide) (off := 128) (tgt := 160) (by rw [q]; rfl) (by decide) (L_fault X hi h nx H locs ls hP hD hS hl)
    · exact lv_tableIn X.1.1 X.1.2.1 dL_law_32 (by rw [q]; decide) (by rw [q]; decide) (off := 141) (tgt := 173) (by rw [q]; rfl) (by decide) (L_edge X hi h nx H locs ls hP hD hS hl)
    · exact lv_tableIn X.1.1 X.1.2.1 dL_law_32 (by rw [q]; decide) (by rw [q]; decide) (off := 154) (tgt := 186) (by rw [q]; rfl) (by decide) (L_erase X hi h nx H locs ls hP hD hS hl)
    · exact lv_tableIn X.1.1 X.1.2.1 dL_law_32 (by rw [q]; decide) (by rw [q]; decide) (off := 177) (tgt := 209) (by rw [q]; rfl) (by decide) (L_told X hi h nx H locs ls hP hD hS hl)
    · exact lv_tableIn X.1.1 X.1.2.1 dL_law_32 (by rw [q]; decide) (by rw [q]; decide) (off := 210) (tgt := 242) (by rw [q]; rfl) (by decide) (L_rule X hi h nx H locs ls hP hD hS hl)
    · exact lv_tableIn X.1.1 X.1.2.1 dL_law_32 (by rw [q]; decide) (by rw [q]; decide) (off := 243) (tgt := 275) (by rw [q]; rfl) (by decide) (L_stem X hi h nx H locs ls hP hD hS hl)
    · exact lv_tableIn X.1.1 X.1.2.1 dL_law_32 (by rw [q]; decide) (by rw [q]; decide) (off := 276) (tgt := 308) (by rw [q]; rfl) (by decide) (L_kind X hi h nx H locs ls hP hD hS hl)
    · exact lv_tableIn X.1.1 X.1.2.1 dL_law_32 (by rw [q]; decide) (by rw [q]; decide) (off := 309) (tgt := 341) (by rw [q]; rfl) (by decide) (L_dots X hi h nx H locs ls hP hD hS hl)
    · exact lv_tableIn X.1.1 X.1.2.1 dL_law_32 (by rw [q]; decide) (by rw [q]; decide) (off := 342) (tgt := 374) (by rw [q]; rfl) (by decide) (L_grows X hi h nx H locs ls hP hD hS hl)
    · exact lv_tableIn X.1.1 X.1.2.1 dL_law_32 (by rw [q]; decide) (by rw [q]; decide) (off := 375) (tgt := 407) (by rw [q]; rfl) (by decide) (L_fit X hi h nx H locs ls hP hD hS hl)
    · exact lv_tableIn X.1.1 X.1.2.1 dL_law_32 (by rw [q]; decide) (by rw [q]; decide) (off := 408) (tgt := 440) (by rw [q]; rfl) (by decide) (L_distortion X hi h nx H locs ls hP hD hS hl)
    · exact lv_tableIn X.1.1 X.1.2.1 dL_law_32 (by rw [q]; decide) (by rw [q]; decide) (off := 432) (tgt := 464) (by rw [q]; rfl) (by decide) (L_why X hi h nx H locs ls hP hD hS hl)
    · exact lv_tableIn X.1.1 X.1.2.1 dL_law_32 (by rw [q]; decide) (by rw [q]; decide) (off := 465) (tgt := 497) (by rw [q]; rfl) (by decide) (L_best X hi h nx H locs ls hP hD hS hl)
    · exact lv_tableIn X.1.1 X.1.2.1 dL_law_32 (by rw [q]; decide) (by rw [q]; decide) (off := 488) (tgt := 520) (by rw [q]; rfl) (by decide) (L_place X hi h nx H locs ls hP hD hS hl)
    · exact lv_tableIn X.1.1 X.1.2.1 dL_law_32 (by rw [q]; decide) (by rw [q]; decide) (off := 521) (tgt := 553) (by rw [q]; rfl) (by decide) (L_image X hi h nx H locs ls hP hD hS hl)
    · exact lv_tableIn X.1.1 X.1.2.1 dL_law_32 (by rw [q]; decide) (by rw [q]; decide) (off := 544) (tgt := 576) (by rw [q]; rfl) (by decide) (L_restore X hi h nx H locs ls hP hD hS hl)
    · exact lv_tableIn X.1.1 X.1.2.1 dL_law_32 (by rw [q]; decide) (by rw [q]; decide) (off := 567) (tgt := 599) (by rw [q]; rfl) (by decide) (L_count X hi h nx H locs ls hP hD hS hl)
    · exact lv_tableOut X.1.1 X.1.2.1 dL_law_32 q (tgt := 622) (by decide) (nx MC MR h H locs ls hP hD hS hl)
theorem law_loop (hr : meth.sig.returnType = ret) (hlocks : meth.locks = false) (X : LX p s m c b L xs D T) : ∀ (n : Nat) (i : Int) (MC MR : Mem), 0 ≤ i → i ≤ (L : Int) → (L : Int) - i < (n : Int) → REL MC MR → LG p l e s m below meth c b D T a1 a2 i MC MR 18 [] := by
  intro n
  induction n with
  | zero => intro i MC MR h0 h1 h2 h; omega
  | succ n ih =>
    intro i MC MR h0 h1 h2 h
    exact law_head hr hlocks X h0 h1 h (fun h3 MC' MR' h' => ih (i + 3) MC' MR' (by omega) (by omega) (by omega) h')
end LOOP
