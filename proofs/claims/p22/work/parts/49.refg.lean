section TSW
variable {p : Program} {l : Launch} {e : Env} {R : Room} {s : State} {m : MethodId} {args : Array Value} {below : List Frame} {meth : Method} {c : Code} {Q : State → Prop}
variable {D : va_G} {A : Nat → Prop} {nL : Nat} {ws : va_W} {pc tgt : Nat} {lv : List (Option Value)} {st : List Value} {cc : ByteArray} {Ts : List Cond} {own : String}
theorem g_tswO (F : CallFix p m c cc nL s args Ts own) {dflt lo hi : Int} {offs : Array Int} {len : Nat} {x : Int} (hdg : decode cc pc = .ok (.tableswitch dflt lo hi offs, len)) (hx : -2147483648 ≤ x ∧ x < 2147483648) (h : x < lo ∨ hi < x) (ht : (pc : Int) + dflt = (tgt : Int)) (k : GG p l e R s m args below meth c Q D A nL ws tgt lv st) : GG p l e R s m args below meth c Q D A nL ws pc lv (.int (iI x) :: st) :=
  fun H locs ls hP hD hS hl => lv_tableOut F.1 F.2.1 hdg (by rw [iI_toInt hx]; exact h) ht (k H locs ls hP hD hS hl)
theorem g_tswI (F : CallFix p m c cc nL s args Ts own) {dflt lo hi : Int} {offs : Array Int} {len : Nat} {x off : Int} {i : Nat} (hdg : decode cc pc = .ok (.tableswitch dflt lo hi offs, len)) (hx : -2147483648 ≤ x ∧ x < 2147483648) (h : x = lo + i) (hi2 : lo + i ≤ hi) (ho : offs[i]? = some off) (ht : (pc : Int) + off = (tgt : Int)) (k : GG p l e R s m args below meth c Q D A nL ws tgt lv st) : GG p l e R s m args below meth c Q D A nL ws pc lv (.int (iI x) :: st) :=
  fun H locs ls hP hD hS hl => lv_tableIn F.1 F.2.1 hdg (by rw [iI_toInt hx]; omega) (by rw [iI_toInt hx]; omega) (by rw [iI_toInt hx, show (x - lo).toNat = i by omega]; exact ho) ht (k H locs ls hP hD hS hl)
end TSW
/-! ===== the reference: what is told ===== -/
def refOK (M : Mem) : Prop := (0 ≤ M 0 1 ∧ M 0 1 ≤ 16) ∧ (∀ j, 0 ≤ M 1 j ∧ M 1 j ≤ 999) ∧ (0 ≤ M 2 0 ∧ M 2 0 ≤ 99) ∧ (0 ≤ M 2 1 ∧ M 2 1 ≤ 9) ∧ (0 ≤ M 2 2 ∧ M 2 2 ≤ 9) ∧ (0 ≤ M 2 3 ∧ M 2 3 ≤ 3) ∧ (0 ≤ M 2 4 ∧ M 2 4 ≤ 3)
def keepR (M M' : Mem) : Prop := M' 0 1 = M 0 1 ∧ M' 0 3 = M 0 3 ∧ M' 1 = M 1 ∧ M' 2 = M 2 ∧ M' 3 = M 3 ∧ M' 17 = M 17 ∧ M' 18 = M 18
theorem keepR_0 (M : Mem) : keepR M M := ⟨rfl, rfl, rfl, rfl, rfl, rfl, rfl⟩
theorem keepR_l {M L : Mem} {ord : Int → Int} (h : L = laid M ord) : keepR M L := by
  subst h
  exact ⟨rfl, rfl, rfl, rfl, rfl, rfl, rfl⟩
theorem laid_b (M : Mem) (ord : Int → Int) : laid M ord 0 1 = M 0 1 := rfl
theorem laid_e (M : Mem) (ord : Int → Int) : laid M ord 1 = M 1 := rfl
def lOK (L : Mem) : Prop := (0 ≤ L 0 11 ∧ L 0 11 ≤ 8) ∧ (0 ≤ L 0 16 ∧ L 0 16 ≤ 8) ∧ (∀ j, 0 ≤ j → j < L 0 11 → (0 ≤ L 5 j ∧ L 5 j ≤ 999) ∧ (0 ≤ L 6 j ∧ L 6 j ≤ 999) ∧ L 5 j < L 6 j ∧ (0 ≤ L 9 j ∧ L 9 j < L 0 16)) ∧ (∀ i j, 0 ≤ i → i < j → j < L 0 11 → L 6 i < L 5 j) ∧ ∀ c, 0 ≤ c → c < L 0 16 → (1 ≤ L 11 c ∧ L 11 c ≤ 8) ∧ (1 ≤ L 12 c ∧ L 12 c ≤ 300) ∧ (0 ≤ L 13 c ∧ L 13 c ≤ 300 * L 11 c)
theorem sR_inv {M : Mem} (hm : 0 ≤ M 0 1) : sInv (canR M) (xR M) (M 0 1) (sR M) :=
  (siter_both (s0 := sR0 M) (t0 := ((0 : Int), M 5, M 6, M 7, M 8)) (canR_x M) hm rfl rfl 8).1
theorem laid_ok {M : Mem} {ord : Int → Int} (hR : refOK M) (ho : isOrd (sR M).1 (wS (sR M)) ord) : lOK (laid M ord) := by
  have hI := sR_inv hR.1.1
  have hn := sInv_n (canR_x M) (canR_g M) hR.1.1 hI
  have hw := sM_w hI
  have hb := sR_b hR.2.1 hR.1.2 hI
  have h0 := hI.1
  have hm := hR.1.2
  have hG : gInv (sR M).1 (wS (sR M)) ord (sR M).1 (gR (sM M (sR M)) ord) := giterI_inv (tol := M 2 0) ho hw rfl ⟨h0, Int.le_refl _⟩
  have e1 : laid M ord 0 11 = (sR M).1 := rfl
  have e2 : laid M ord 0 16 = (gR (sM M (sR M)) ord).1 := rfl
  obtain ⟨g1, g2, g3⟩ := hG
  refine ⟨by rw [e1]; omega, by rw [e2]; omega, fun j a b => ?_, fun i j a b c => hI.2.2 i j a b c, fun c a b => ?_⟩
  · rw [e1] at b
    have h3 := hb j a b
    have h4 := sInv_w (canR_x M) hI a b
    obtain ⟨t, t1, t2, rfl⟩ := ho.2.2 j a b
    exact ⟨h3.1, h3.2.1, h4, g3 t t1 t2⟩
  · rw [e2] at b
    have h3 := g2 c a b
    refine ⟨⟨h3.1.1, ?_⟩, h3.2.1, ?_, h3.2.2.2⟩
    · show (gR (sM M (sR M)) ord).2.2.1 c ≤ 8; omega
    · show 0 ≤ (gR (sM M (sR M)) ord).2.2.2.2 c; omega
def stemZ (L : Mem) (j w : Int) : Int := if 0 ≤ j ∧ j ≤ L 0 11 - 1 then (if w = 0 then L 5 j else if w = 1 then L 6 j else if w = 2 then L 7 j else if w = 3 then L 8 j else if w = 4 then L 9 j else -2) else -1
def kindZ (L : Mem) (k w : Int) : Int := if 0 ≤ k ∧ k ≤ L 0 16 - 1 then (if w = 0 then L 11 k else if w = 1 then L 12 k else if w = 2 then L 13 k / L 11 k else -2) else -1
def dotsZ (L : Mem) (k sz : Int) : Int := if 0 ≤ k ∧ k ≤ L 0 16 - 1 then (if 1 ≤ sz ∧ sz ≤ 60 then dz (L 13 k / L 11 k) sz (L 2 4) else -2) else -1
def growsN (f : Int → Int) (d : Int) : Nat → Int
  | 0 => -6
  | k + 1 => if d ≤ f (60 - k) then 60 - k else growsN f d k
def growsI (f : Int → Int) (d s : Int) : Int := growsN f d (61 - s).toNat
theorem growsI_t {f : Int → Int} {d s : Int} (h : s ≤ 60) (h2 : d ≤ f s) : growsI f d s = s := by
  unfold growsI
  rw [show (61 - s).toNat = (60 - s).toNat + 1 by omega]
  unfold growsN
  rw [show 60 - (((60 - s).toNat : Nat) : Int) = s by omega, if_pos h2]
theorem growsI_f {f : Int → Int} {d s : Int} (h : s ≤ 60) (h2 : f s < d) : growsI f d s = growsI f d (s + 1) := by
  unfold growsI
  rw [show (61 - s).toNat = (61 - (s + 1)).toNat + 1 by omega]
  show (if d ≤ f (60 - (((61 - (s + 1)).toNat : Nat) : Int)) then _ else _) = _
  rw [show 60 - (((61 - (s + 1)).toNat : Nat) : Int) = s by omega, if_neg (by omega)]
theorem growsI_e {f : Int → Int} {d s : Int} (h : 60 < s) : growsI f d s = -6 := by
  unfold growsI
  rw [show (61 - s).toNat = 0 by omega]; rfl
def growsZ (L : Mem) (k d : Int) : Int := if 0 ≤ k ∧ k ≤ L 0 16 - 1 then (if 1 ≤ d ∧ d ≤ 60 then growsI (fun t => dz (L 13 k / L 11 k) t (L 2 4)) d 1 else -2) else -1
theorem dz_R {a b sz bo : Int} (hb : 1 ≤ b ∧ b ≤ 8) (ha : 0 ≤ a ∧ a ≤ 300 * b) (hz : 1 ≤ sz ∧ sz ≤ 60) (h4 : 0 ≤ bo ∧ bo ≤ 3) : 1 ≤ dz (a / b) sz bo ∧ dz (a / b) sz bo ≤ 21 := by
  have q := div_R hb.1 ha
  have := mul_R q (show 0 ≤ sz ∧ sz ≤ 60 by omega)
  unfold dz
  omega
def toldZ (L : Mem) (u w : Int) : Int := if 0 ≤ u ∧ u ≤ L 0 1 - 1 then (if 0 ≤ w ∧ w ≤ 4 then (if w < 4 then L 1 ((4 * u) + w) else L 10 u) else -2) else -1
def countZ (L : Mem) (w : Int) : Int := if w = 0 then L 0 3 else if w = 1 then L 0 1 else if w = 2 then L 0 11 else if w = 3 then L 0 16 else if 4 ≤ w ∧ w ≤ 8 then L 2 (w - 4) else -2
def wL (L : Mem) (sz s : Int) : Int := dz (L 13 (L 9 s) / L 11 (L 9 s)) sz (L 2 4)
def whyQ (n : Int) (wd : Int → Int) (sz w z : Int) : Prop := ((∀ j, 0 ≤ j → j < n → lpp wd j + wd j ≤ sz) ∧ z = if w = 0 then 0 else -6) ∨ ∃ b, (0 ≤ b ∧ b < n) ∧ sz < lpp wd b + wd b ∧ (∀ j, 0 ≤ j → j < b → lpp wd j + wd j ≤ sz) ∧ z = if w = 1 then b else if sz < wd b then 1 else 2
theorem wL_R {L : Mem} (h : lOK L) (h4 : 0 ≤ L 2 4 ∧ L 2 4 ≤ 3) {sz s : Int} (hz : 1 ≤ sz ∧ sz ≤ 60) (h0 : 0 ≤ s) (h1 : s < L 0 11) : 1 ≤ wL L sz s ∧ wL L sz s ≤ 21 := by
  obtain ⟨-, -, hs, -, hc⟩ := h
  have a := (hs s h0 h1).2.2.2
  have b := hc (L 9 s) a.1 a.2
  exact dz_R b.1 b.2.2 hz h4
theorem lppR {w : Int → Int} {n : Int} (hw : ∀ s, 0 ≤ s → s < n → 1 ≤ w s ∧ w s ≤ 21) : ∀ i : Int, 0 ≤ i → i ≤ n → 0 ≤ lpp w i ∧ lpp w i ≤ 22 * i := by
  have h : ∀ k : Nat, (k : Int) ≤ n → 0 ≤ lpp w (k : Int) ∧ lpp w (k : Int) ≤ 22 * k := by
    intro k
    induction k with
    | zero => intro _; exact ⟨Int.le_refl _, Int.le_refl _⟩
    | succ k ih =>
      intro hk
      have a := ih (by omega)
      have b := hw (k : Int) (by omega) (by omega)
      have c := lpp_s (w := w) (i := (k : Int)) (by omega)
      rw [show (((k + 1 : Nat)) : Int) = (k : Int) + 1 by omega, c]
      omega
  intro i h0 h1
  have := h i.toNat (by omega)
  rw [show ((i.toNat : Nat) : Int) = i by omega] at this
  exact this
theorem lpL_R {L : Mem} (h : lOK L) (h4 : 0 ≤ L 2 4 ∧ L 2 4 ≤ 3) {sz : Int} (hz : 1 ≤ sz ∧ sz ≤ 60) : ∀ i : Int, 0 ≤ i → i ≤ L 0 11 → 0 ≤ lpp (wL L sz) i ∧ lpp (wL L sz) i ≤ 22 * i :=
  lppR (fun _ a b => wL_R h h4 hz a b)
theorem laid_r (M : Mem) (ord : Int → Int) : laid M ord 2 = M 2 := rfl
