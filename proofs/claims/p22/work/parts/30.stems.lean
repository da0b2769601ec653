/-! ===== how stems are taken: the narrowest first (numbers alone) ===== -/
abbrev ST : Type := Int × (Int → Int) × (Int → Int) × (Int → Int) × (Int → Int)
noncomputable def stp (cn : Int → Int → Prop) (x : Int → Int) (b : Int × Int) (u d : Int) : Int × Int :=
  pif (cn u d ∧ (b.1 < 0 ∨ x d - x u < x b.2 - x b.1 ∨ (x d - x u = x b.2 - x b.1 ∧ x u < x b.1))) (u, d) b
noncomputable def pin (cn : Int → Int → Prop) (x : Int → Int) (b : Int × Int) (u : Int) : Nat → Int × Int
  | 0 => b
  | k + 1 => stp cn x (pin cn x b u k) u k
noncomputable def pout (cn : Int → Int → Prop) (x : Int → Int) (m : Nat) : Nat → Int × Int
  | 0 => (-6, -6)
  | k + 1 => pin cn x (pout cn x m k) k m
noncomputable def pinI (cn : Int → Int → Prop) (x : Int → Int) (b : Int × Int) (u k : Int) : Int × Int := pin cn x b u k.toNat
noncomputable def poutI (cn : Int → Int → Prop) (x : Int → Int) (m k : Int) : Int × Int := pout cn x m.toNat k.toNat
theorem pinI_s {cn : Int → Int → Prop} {x : Int → Int} {b : Int × Int} {u k : Int} (h : 0 ≤ k) : pinI cn x b u (k + 1) = stp cn x (pinI cn x b u k) u k := by
  unfold pinI
  rw [show (k + 1).toNat = k.toNat + 1 by omega]
  show stp cn x (pin cn x b u k.toNat) u ((k.toNat : Nat) : Int) = _
  rw [show ((k.toNat : Nat) : Int) = k by omega]
theorem poutI_s {cn : Int → Int → Prop} {x : Int → Int} {m k : Int} (h : 0 ≤ k) : poutI cn x m (k + 1) = pinI cn x (poutI cn x m k) k m := by
  unfold poutI pinI
  rw [show (k + 1).toNat = k.toNat + 1 by omega]
  show pin cn x (pout cn x m.toNat k.toNat) ((k.toNat : Nat) : Int) m.toNat = _
  rw [show ((k.toNat : Nat) : Int) = k by omega]
/-- a pair is none, or one that can be, of numbers below m -/
def pOK (cn : Int → Int → Prop) (m : Int) (b : Int × Int) : Prop := b = (-6, -6) ∨ ((0 ≤ b.1 ∧ b.1 < m) ∧ (0 ≤ b.2 ∧ b.2 < m) ∧ cn b.1 b.2)
theorem stp_OK {cn : Int → Int → Prop} {x : Int → Int} {m : Int} {b : Int × Int} {u d : Int} (h : pOK cn m b) (hu : 0 ≤ u ∧ u < m) (hd : 0 ≤ d ∧ d < m) : pOK cn m (stp cn x b u d) := by
  unfold stp
  by_cases q : cn u d ∧ (b.1 < 0 ∨ x d - x u < x b.2 - x b.1 ∨ (x d - x u = x b.2 - x b.1 ∧ x u < x b.1))
  · rw [pif_t q]; exact Or.inr ⟨hu, hd, q.1⟩
  · rw [pif_f q]; exact h
theorem pin_OK {cn : Int → Int → Prop} {x : Int → Int} {m : Int} {b : Int × Int} {u : Int} (h : pOK cn m b) (hu : 0 ≤ u ∧ u < m) : ∀ k : Nat, (k : Int) ≤ m → pOK cn m (pin cn x b u k)
  | 0, _ => h
  | k + 1, hk => stp_OK (pin_OK h hu k (by omega)) hu (by omega)
theorem pinI_OK {cn : Int → Int → Prop} {x : Int → Int} {m k : Int} {b : Int × Int} {u : Int} (h : pOK cn m b) (hu : 0 ≤ u ∧ u < m) (hk : 0 ≤ k ∧ k ≤ m) : pOK cn m (pinI cn x b u k) := pin_OK h hu _ (by omega)
theorem pout_OK {cn : Int → Int → Prop} {x : Int → Int} {m : Nat} : ∀ k : Nat, k ≤ m → pOK cn m (pout cn x m k)
  | 0, _ => Or.inl rfl
  | k + 1, hk => pin_OK (pout_OK k (by omega)) (by omega) m (by omega)
theorem poutI_OK {cn : Int → Int → Prop} {x : Int → Int} {m k : Int} (hk : 0 ≤ k ∧ k ≤ m) : pOK cn m (poutI cn x m k) := by
  have h := pout_OK (cn := cn) (x := x) (m := m.toNat) k.toNat (by omega)
  rw [show ((m.toNat : Nat) : Int) = m by omega] at h
  exact h
theorem stp_c {c1 c2 : Int → Int → Prop} {x : Int → Int} {b : Int × Int} {u d : Int} (h : c1 u d ↔ c2 u d) : stp c1 x b u d = stp c2 x b u d := by
  unfold stp
  by_cases q : c1 u d
  · have q2 := h.mp q
    by_cases r : (b.1 < 0 ∨ x d - x u < x b.2 - x b.1 ∨ (x d - x u = x b.2 - x b.1 ∧ x u < x b.1))
    · rw [pif_t ⟨q, r⟩, pif_t ⟨q2, r⟩]
    · rw [pif_f (fun z => r z.2), pif_f (fun z => r z.2)]
  · rw [pif_f (fun z => q z.1), pif_f (fun z => q (h.mpr z.1))]
theorem pin_c {c1 c2 : Int → Int → Prop} {x : Int → Int} {b : Int × Int} {u : Int} {m : Nat} (h : ∀ d : Int, 0 ≤ d → d < m → (c1 u d ↔ c2 u d)) : ∀ k : Nat, k ≤ m → pin c1 x b u k = pin c2 x b u k
  | 0, _ => rfl
  | k + 1, hk => by
    show stp c1 x (pin c1 x b u k) u k = stp c2 x (pin c2 x b u k) u k
    rw [pin_c h k (by omega), stp_c (h k (by omega) (by omega))]
theorem pout_c {c1 c2 : Int → Int → Prop} {x : Int → Int} {m : Nat} (h : ∀ u d : Int, 0 ≤ u → u < m → 0 ≤ d → d < m → (c1 u d ↔ c2 u d)) : ∀ k : Nat, k ≤ m → pout c1 x m k = pout c2 x m k
  | 0, _ => rfl
  | k + 1, hk => by
    show pin c1 x (pout c1 x m k) k m = pin c2 x (pout c2 x m k) k m
    rw [pout_c h k (by omega), pin_c (fun d h1 h2 => h k d (by omega) (by omega) h1 h2) m (Nat.le_refl _)]
/-- where a key goes in, and the row behind it -/
def ipos (f : Int → Int) (key : Int) : Nat → Int
  | 0 => 0
  | k + 1 => if key < f k then ipos f key k else k + 1
def iposI (f : Int → Int) (key k : Int) : Int := ipos f key k.toNat
def shN (f : Int → Int) (s n : Int) : Int → Int := fun i => if s < i ∧ i ≤ n then f (i - 1) else f i
def insN (f : Int → Int) (q n v : Int) : Int → Int := fun i => if i = q then v else if q < i ∧ i ≤ n then f (i - 1) else f i
theorem shN_0 (f : Int → Int) (n : Int) : shN f n n = f := by funext i; exact if_neg (by omega)
theorem shN_s {f : Int → Int} {s n : Int} (h : s ≤ n) : upf (shN f s n) s (shN f s n (s - 1)) = shN f (s + (-1)) n := by
  funext i
  unfold upf shN
  by_cases hi : i = s
  · subst hi; rw [if_pos rfl, if_neg (by omega), if_pos (by omega)]
  · rw [if_neg hi]
    by_cases h1 : s < i ∧ i ≤ n
    · rw [if_pos h1, if_pos (by omega)]
    · rw [if_neg h1, if_neg (by omega)]
theorem shN_i (f : Int → Int) (q n v : Int) : upf (shN f q n) q v = insN f q n v := by
  funext i; unfold upf shN insN; rfl
theorem shN_at {f : Int → Int} {s n : Int} : shN f s n (s - 1) = f (s - 1) := if_neg (by omega)
theorem ipos_R (f : Int → Int) (key : Int) : ∀ k : Nat, 0 ≤ ipos f key k ∧ ipos f key k ≤ k
  | 0 => by simp [ipos]
  | k + 1 => by
    have h := ipos_R f key k
    unfold ipos
    split <;> omega
theorem iposI_R (f : Int → Int) (key : Int) {k : Int} (hk : 0 ≤ k) : 0 ≤ iposI f key k ∧ iposI f key k ≤ k := by
  have h := ipos_R f key k.toNat
  unfold iposI; omega
theorem iposI_0 (f : Int → Int) (key : Int) : iposI f key 0 = 0 := rfl
theorem iposI_t {f : Int → Int} {key k : Int} (h0 : 0 < k) (h : key < f (k - 1)) : iposI f key k = iposI f key (k + (-1)) := by
  unfold iposI
  rw [show k.toNat = (k + (-1)).toNat + 1 by omega]
  show (if key < f (((k + (-1)).toNat : Nat) : Int) then ipos f key (k + (-1)).toNat else _) = _
  rw [if_pos (by rw [show (((k + (-1)).toNat : Nat) : Int) = k - 1 by omega]; exact h)]
theorem iposI_f {f : Int → Int} {key k : Int} (h0 : 0 < k) (h : f (k - 1) ≤ key) : iposI f key k = k := by
  unfold iposI
  rw [show k.toNat = (k - 1).toNat + 1 by omega]
  show (if key < f (((k - 1).toNat : Nat) : Int) then ipos f key (k - 1).toNat else (((k - 1).toNat : Nat) : Int) + 1) = _
  rw [if_neg (by rw [show (((k - 1).toNat : Nat) : Int) = k - 1 by omega]; omega)]
  omega
theorem ipos_c {f g : Int → Int} {key : Int} : ∀ k : Nat, (∀ j : Int, 0 ≤ j → j < k → f j = g j) → ipos f key k = ipos g key k
  | 0, _ => rfl
  | k + 1, h => by
    unfold ipos
    rw [h k (by omega) (by omega), ipos_c k (fun j h1 h2 => h j h1 (by omega))]
/-- all before the place are no more than the key; in a rising row all from it on are more -/
theorem ipos_lo {f : Int → Int} {key : Int} : ∀ (k : Nat) (j : Int), (∀ i j : Int, 0 ≤ i → i < j → j < k → f i ≤ f j) → 0 ≤ j → j < ipos f key k → f j ≤ key
  | 0, j, _, h0, h1 => by simp [ipos] at h1; omega
  | k + 1, j, hs, h0, h1 => by
    unfold ipos at h1
    by_cases h : key < f k
    · rw [if_pos h] at h1
      exact ipos_lo k j (fun a b c d e => hs a b c d (by omega)) h0 h1
    · rw [if_neg h] at h1
      by_cases hj : j = k
      · subst hj; omega
      · have := hs j k h0 (by omega) (by omega); omega
theorem ipos_hi {f : Int → Int} {key : Int} : ∀ (k : Nat) (j : Int), ipos f key k ≤ j → j < k → key < f j ∨ j < ipos f key k
  | 0, j, h0, h1 => by simp [ipos] at h0; omega
  | k + 1, j, h0, h1 => by
    unfold ipos at h0 ⊢
    by_cases h : key < f k
    · rw [if_pos h] at h0 ⊢
      by_cases hj : j = k
      · subst hj; exact Or.inl h
      · exact ipos_hi k j h0 (by omega)
    · rw [if_neg h] at h0 ⊢
      omega
noncomputable def ins5 (x : Int → Int) (s : ST) (b o : Int) : ST :=
  (s.1 + 1, insN s.2.1 (iposI s.2.1 (x b) s.1) s.1 (x b), insN s.2.2.1 (iposI s.2.1 (x b) s.1) s.1 (x o), insN s.2.2.2.1 (iposI s.2.1 (x b) s.1) s.1 b, insN s.2.2.2.2 (iposI s.2.1 (x b) s.1) s.1 o)
def frR (x : Int → Int) (s : ST) (u d : Int) : Prop := ∀ j : Int, 0 ≤ j → j < s.1 → (s.2.2.2.1 j ≠ u ∧ s.2.2.2.2 j ≠ d ∧ (x d < s.2.1 j ∨ s.2.2.1 j < x u))
def frC (x : Int → Int) (s : ST) (u d : Int) : Prop := ∀ j : Int, 0 ≤ j → j < s.1 → (x d < s.2.1 j ∨ s.2.2.1 j < x u)
noncomputable def pk (cn : Int → Int → Prop) (fr : (Int → Int) → ST → Int → Int → Prop) (x : Int → Int) (m : Int) (s : ST) : Int × Int := poutI (fun u d => cn u d ∧ fr x s u d) x m m
noncomputable def sstep (cn : Int → Int → Prop) (fr : (Int → Int) → ST → Int → Int → Prop) (x : Int → Int) (m : Int) (s : ST) : ST :=
  pif ((pk cn fr x m s).1 < 0) s (ins5 x s (pk cn fr x m s).1 (pk cn fr x m s).2)
noncomputable def siter (cn : Int → Int → Prop) (fr : (Int → Int) → ST → Int → Int → Prop) (x : Int → Int) (m : Int) (s0 : ST) : Nat → ST
  | 0 => s0
  | k + 1 => sstep cn fr x m (siter cn fr x m s0 k)
/-- what holds of the stems at each time -/
def sInv (cn : Int → Int → Prop) (x : Int → Int) (m : Int) (s : ST) : Prop :=
  0 ≤ s.1 ∧ (∀ i : Int, 0 ≤ i → i < s.1 → (0 ≤ s.2.2.2.1 i ∧ s.2.2.2.1 i < m) ∧ (0 ≤ s.2.2.2.2 i ∧ s.2.2.2.2 i < m) ∧ cn (s.2.2.2.1 i) (s.2.2.2.2 i) ∧ s.2.1 i = x (s.2.2.2.1 i) ∧ s.2.2.1 i = x (s.2.2.2.2 i)) ∧
  ∀ i j : Int, 0 ≤ i → i < j → j < s.1 → s.2.2.1 i < s.2.1 j
def agree (s t : ST) : Prop := s.1 = t.1 ∧ ∀ j : Int, 0 ≤ j → j < s.1 → s.2.1 j = t.2.1 j ∧ s.2.2.1 j = t.2.2.1 j ∧ s.2.2.2.1 j = t.2.2.2.1 j ∧ s.2.2.2.2 j = t.2.2.2.2 j
theorem insN_q (f : Int → Int) (q n v : Int) : insN f q n v q = v := if_pos rfl
theorem insN_lo {f : Int → Int} {q n v i : Int} (h : i < q) : insN f q n v i = f i := by unfold insN; rw [if_neg (by omega), if_neg (by omega)]
theorem insN_hi {f : Int → Int} {q n v i : Int} (h : q < i) (h2 : i ≤ n) : insN f q n v i = f (i - 1) := by unfold insN; rw [if_neg (by omega), if_pos ⟨h, h2⟩]
section STEMS
variable {cn : Int → Int → Prop} {x : Int → Int} {m : Int}
theorem sInv_w (hx : ∀ u d, cn u d → x u < x d) {s : ST} (h : sInv cn x m s) {i : Int} (h0 : 0 ≤ i) (h1 : i < s.1) : s.2.1 i < s.2.2.1 i := by
  obtain ⟨-, -, a, b, c⟩ := h.2.1 i h0 h1
  rw [b, c]; exact hx _ _ a
theorem sInv_up (hx : ∀ u d, cn u d → x u < x d) {s : ST} (h : sInv cn x m s) : ∀ i j : Int, 0 ≤ i → i < j → j < s.1 → s.2.1 i < s.2.1 j := by
  intro i j a b c
  have := sInv_w hx h a (by omega)
  have := h.2.2 i j a b c
  omega
theorem fr_iff (hx : ∀ u d, cn u d → x u < x d) {s : ST} (h : sInv cn x m s) {u d : Int} (hc : cn u d) : frR x s u d ↔ frC x s u d := by
  constructor
  · intro q j a b; exact (q j a b).2.2
  · intro q j a b
    have h1 := q j a b
    obtain ⟨-, -, c, e, f⟩ := h.2.1 j a b
    have h2 := sInv_w hx h a b
    have h3 := hx _ _ hc
    refine ⟨fun z => ?_, fun z => ?_, h1⟩
    · rw [z] at e; omega
    · rw [z] at f; omega
theorem frC_c {s t : ST} (h : agree s t) (u d : Int) : frC x s u d ↔ frC x t u d := by
  constructor
  · intro q j a b
    have h1 := h.2 j a (by rw [h.1]; exact b)
    rw [← h1.1, ← h1.2.1]
    exact q j a (by rw [h.1]; exact b)
  · intro q j a b
    have h1 := h.2 j a b
    rw [h1.1, h1.2.1]
    exact q j a (by rw [← h.1]; exact b)
theorem pk_c (hx : ∀ u d, cn u d → x u < x d) {s t : ST} (hm : 0 ≤ m) (hs : sInv cn x m s) (h : agree s t) : pk cn frR x m s = pk cn frC x m t := by
  unfold pk poutI
  apply pout_c _ _ (Nat.le_refl _)
  intro u d h1 h2 h3 h4
  constructor
  · rintro ⟨a, b⟩; exact ⟨a, (frC_c h u d).mp ((fr_iff hx hs a).mp b)⟩
  · rintro ⟨a, b⟩; exact ⟨a, (fr_iff hx hs a).mpr ((frC_c h u d).mpr b)⟩
theorem ins5_agree {s t : ST} (h : agree s t) (h0 : 0 ≤ s.1) (b o : Int) : agree (ins5 x s b o) (ins5 x t b o) := by
  have hq : iposI s.2.1 (x b) s.1 = iposI t.2.1 (x b) t.1 := by
    unfold iposI
    rw [← h.1]
    exact ipos_c _ (fun j h1 h2 => (h.2 j h1 (by omega)).1)
  have hR := iposI_R t.2.1 (x b) (k := t.1) (by have := h.1; omega)
  have e1 := h.1
  refine ⟨by show s.1 + 1 = t.1 + 1; rw [h.1], fun j h1 h2 => ?_⟩
  have h2 : j < s.1 + 1 := h2
  show insN s.2.1 _ s.1 _ j = insN t.2.1 _ t.1 _ j ∧ insN s.2.2.1 _ s.1 _ j = insN t.2.2.1 _ t.1 _ j ∧ insN s.2.2.2.1 _ s.1 _ j = insN t.2.2.2.1 _ t.1 _ j ∧ insN s.2.2.2.2 _ s.1 _ j = insN t.2.2.2.2 _ t.1 _ j
  rw [hq, h.1]
  rcases Int.lt_trichotomy j (iposI t.2.1 (x b) t.1) with c | c | c
  · rw [insN_lo c, insN_lo c, insN_lo c, insN_lo c, insN_lo c, insN_lo c, insN_lo c, insN_lo c]
    exact h.2 j h1 (by omega)
  · rw [c]; simp only [insN_q]; simp
  · rw [insN_hi c (by omega), insN_hi c (by omega), insN_hi c (by omega), insN_hi c (by omega), insN_hi c (by omega), insN_hi c (by omega), insN_hi c (by omega), insN_hi c (by omega)]
    exact h.2 (j - 1) (by omega) (by omega)
theorem ins5_inv (hx : ∀ u d, cn u d → x u < x d) {s : ST} (h : sInv cn x m s) {b o : Int} (hb : 0 ≤ b ∧ b < m) (ho : 0 ≤ o ∧ o < m) (hc : cn b o) (hf : frC x s b o) : sInv cn x m (ins5 x s b o) := by
  have h0 := h.1
  have hR := iposI_R s.2.1 (x b) (k := s.1) h0
  have hxo := hx _ _ hc
  have hlo : ∀ j : Int, 0 ≤ j → j < iposI s.2.1 (x b) s.1 → s.2.2.1 j < x b := by
    intro j a c
    have h1 := ipos_lo (f := s.2.1) (key := x b) s.1.toNat j (fun i j a b c => by have := sInv_up hx h i j a b (by omega); omega) a c
    have h2 := hf j a (by omega)
    omega
  have hhi : ∀ j : Int, iposI s.2.1 (x b) s.1 ≤ j → j < s.1 → x o < s.2.1 j := by
    intro j a c
    have h1 := ipos_hi (f := s.2.1) (key := x b) s.1.toNat j a (by omega)
    have h2 := hf j (by omega) c
    have h3 := sInv_w hx h (i := j) (by omega) c
    have h4 : iposI s.2.1 (x b) s.1 = ipos s.2.1 (x b) s.1.toNat := rfl
    omega
  refine ⟨by show 0 ≤ s.1 + 1; omega, fun i h1 h2 => ?_, fun i j h1 h2 h3 => ?_⟩
  · have h2 : i < s.1 + 1 := h2
    show (0 ≤ insN s.2.2.2.1 _ s.1 _ i ∧ insN s.2.2.2.1 _ s.1 _ i < m) ∧ (0 ≤ insN s.2.2.2.2 _ s.1 _ i ∧ insN s.2.2.2.2 _ s.1 _ i < m) ∧ cn (insN s.2.2.2.1 _ s.1 _ i) (insN s.2.2.2.2 _ s.1 _ i) ∧ insN s.2.1 _ s.1 _ i = x (insN s.2.2.2.1 _ s.1 _ i) ∧ insN s.2.2.1 _ s.1 _ i = x (insN s.2.2.2.2 _ s.1 _ i)
    rcases Int.lt_trichotomy i (iposI s.2.1 (x b) s.1) with c | c | c
    · simp only [insN_lo c]
      exact h.2.1 i h1 (by omega)
    · rw [c]; simp only [insN_q]
      exact ⟨hb, ho, hc, by simp⟩
    · simp only [insN_hi c (show i ≤ s.1 by omega)]
      exact h.2.1 (i - 1) (by omega) (by omega)
  · have h3 : j < s.1 + 1 := h3
    show insN s.2.2.1 _ s.1 _ i < insN s.2.1 _ s.1 _ j
    rcases Int.lt_trichotomy i (iposI s.2.1 (x b) s.1) with c | c | c
    · rw [insN_lo c]
      rcases Int.lt_trichotomy j (iposI s.2.1 (x b) s.1) with e | e | e
      · rw [insN_lo e]; exact h.2.2 i j h1 h2 (by omega)
      · rw [e, insN_q]; exact hlo i h1 c
      · rw [insN_hi e (by omega)]
        by_cases hij : i = j - 1
        · omega
        · exact h.2.2 i (j - 1) h1 (by omega) (by omega)
    · rw [c, insN_q, insN_hi (by omega) (by omega)]
      exact hhi (j - 1) (by omega) (by omega)
    · rw [insN_hi c (by omega), insN_hi (by omega) (by omega)]
      exact h.2.2 (i - 1) (j - 1) (by omega) (by omega) (by omega)
theorem pk_OK (fr : (Int → Int) → ST → Int → Int → Prop) (s : ST) (hm : 0 ≤ m) : pk cn fr x m s = (-6, -6) ∨ ((0 ≤ (pk cn fr x m s).1 ∧ (pk cn fr x m s).1 < m) ∧ (0 ≤ (pk cn fr x m s).2 ∧ (pk cn fr x m s).2 < m) ∧ cn (pk cn fr x m s).1 (pk cn fr x m s).2 ∧ fr x s (pk cn fr x m s).1 (pk cn fr x m s).2) :=
  poutI_OK (cn := fun u d => cn u d ∧ fr x s u d) ⟨hm, Int.le_refl _⟩
theorem siter_both (hx : ∀ u d, cn u d → x u < x d) (hm : 0 ≤ m) {s0 t0 : ST} (hs0 : s0.1 = 0) (ht0 : t0.1 = 0) : ∀ k : Nat, sInv cn x m (siter cn frR x m s0 k) ∧ agree (siter cn frR x m s0 k) (siter cn frC x m t0 k)
  | 0 => ⟨⟨by show 0 ≤ s0.1; omega, fun i a b => by have : i < s0.1 := b; omega, fun i j a b c => by have : j < s0.1 := c; omega⟩, by show s0.1 = t0.1; omega, fun j a b => by have : j < s0.1 := b; omega⟩
  | k + 1 => by
    obtain ⟨h1, h2⟩ := siter_both hx hm hs0 ht0 k
    have e := pk_c hx hm h1 h2
    show sInv cn x m (sstep cn frR x m _) ∧ agree (sstep cn frR x m _) (sstep cn frC x m _)
    unfold sstep
    rw [← e]
    rcases pk_OK (cn := cn) (x := x) (m := m) frR (siter cn frR x m s0 k) hm with q | q
    · rw [q, pif_t (by decide), pif_t (by decide)]
      exact ⟨h1, h2⟩
    · rw [pif_f (by omega), pif_f (by omega)]
      exact ⟨ins5_inv hx h1 q.1 q.2.1 q.2.2.1 ((fr_iff hx h1 q.2.2.1).mp q.2.2.2), ins5_agree h2 h1.1 _ _⟩
theorem holes : ∀ (m n : Nat) (f : Nat → Nat), (∀ i, i < n → f i < m) → (∀ i j, i < j → j < n → f i ≠ f j) → n ≤ m := by
  intro m
  induction m with
  | zero =>
    intro n f h1 _
    rcases Nat.eq_zero_or_pos n with h | h
    · omega
    · exact absurd (h1 0 h) (Nat.not_lt_zero _)
  | succ m ih =>
    intro n f h1 h2
    by_cases hx : ∃ i, i < n ∧ f i = m
    · obtain ⟨a, ha, hfa⟩ := hx
      have hg := ih (n - 1) (fun i => if i < a then f i else f (i + 1)) (by
        intro i hi
        by_cases q : i < a
        · simp only [if_pos q]
          have b1 := h1 i (by omega)
          have b2 := h2 i a q ha
          omega
        · simp only [if_neg q]
          have b1 := h1 (i + 1) (by omega)
          have b2 := h2 a (i + 1) (by omega) (by omega)
          omega) (by
        intro i j hij hj
        by_cases q : i < a
        · by_cases r : j < a
          · simp only [if_pos q, if_pos r]
            exact h2 i j hij (by omega)
          · simp only [if_pos q, if_neg r]
            exact h2 i (j + 1) (by omega) (by omega)
        · have r : ¬ j < a := by omega
          simp only [if_neg q, if_neg r]
          exact h2 (i + 1) (j + 1) (by omega) (by omega))
      omega
    · have hg := ih n f (fun i hi => by
        have b1 := h1 i hi
        have b2 : f i ≠ m := fun e => hx ⟨i, hi, e⟩
        omega) h2
      omega
/-- each stem takes two edges that no other one has -/
theorem sInv_n (hx : ∀ u d, cn u d → x u < x d) {G : Int → Prop} (hg : ∀ u d, cn u d → G u ∧ ¬ G d) (hm : 0 ≤ m) {s : ST} (h : sInv cn x m s) : 2 * s.1 ≤ m := by
  have h0 := h.1
  have hl := holes m.toNat (2 * s.1.toNat) (fun i => if i < s.1.toNat then (s.2.2.2.1 i).toNat else (s.2.2.2.2 ((i - s.1.toNat : Nat) : Int)).toNat) (by
    intro i hi
    by_cases q : i < s.1.toNat
    · simp only [if_pos q]
      have := (h.2.1 i (by omega) (by omega)).1
      omega
    · simp only [if_neg q]
      have := (h.2.1 ((i - s.1.toNat : Nat) : Int) (by omega) (by omega)).2.1
      omega) (by
    intro i j hij hj
    by_cases r : j < s.1.toNat
    · have q : i < s.1.toNat := by omega
      simp only [if_pos q, if_pos r]
      have a := h.2.1 i (by omega) (by omega)
      have b := h.2.1 j (by omega) (by omega)
      have c := sInv_up hx h i j (by omega) (by omega) (by omega)
      intro z
      have z2 : s.2.2.2.1 (i : Int) = s.2.2.2.1 (j : Int) := by omega
      have a1 := a.2.2.2.1
      have b1 := b.2.2.2.1
      rw [z2] at a1
      omega
    · by_cases q : i < s.1.toNat
      · simp only [if_pos q, if_neg r]
        have a := h.2.1 i (by omega) (by omega)
        have b := h.2.1 ((j - s.1.toNat : Nat) : Int) (by omega) (by omega)
        intro z
        have z2 : s.2.2.2.1 (i : Int) = s.2.2.2.2 ((j - s.1.toNat : Nat) : Int) := by omega
        have a1 := (hg _ _ a.2.2.1).1
        have b1 := (hg _ _ b.2.2.1).2
        rw [z2] at a1
        exact b1 a1
      · simp only [if_neg q, if_neg r]
        have a := h.2.1 ((i - s.1.toNat : Nat) : Int) (by omega) (by omega)
        have b := h.2.1 ((j - s.1.toNat : Nat) : Int) (by omega) (by omega)
        have c := h.2.2 ((i - s.1.toNat : Nat) : Int) ((j - s.1.toNat : Nat) : Int) (by omega) (by omega) (by omega)
        have d := sInv_w hx h (i := ((j - s.1.toNat : Nat) : Int)) (by omega) (by omega)
        intro z
        have z2 : s.2.2.2.2 ((i - s.1.toNat : Nat) : Int) = s.2.2.2.2 ((j - s.1.toNat : Nat) : Int) := by omega
        have a1 := a.2.2.2.2
        have b1 := b.2.2.2.2
        rw [z2] at a1
        omega)
  omega
theorem siter_fix {fr : (Int → Int) → ST → Int → Int → Prop} {s0 : ST} {k : Nat} (h : (pk cn fr x m (siter cn fr x m s0 k)).1 < 0) : ∀ j : Nat, siter cn fr x m s0 (k + j) = siter cn fr x m s0 k
  | 0 => rfl
  | j + 1 => by
    show sstep cn fr x m (siter cn fr x m s0 (k + j)) = _
    rw [siter_fix h j]
    unfold sstep
    rw [pif_t h]
end STEMS
