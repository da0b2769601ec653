/-! ===== the law's calls ===== -/
section SAME2
variable {L V : Mem}
theorem same_okf (h : lOK L) (hs : same L V) : okL V = okL L := funext fun _ => propext (same_ok h hs)
theorem same_lef (h : lOK L) (hs : same L V) : leastL V = leastL L := funext fun _ => same_least h hs
theorem same_fit (h : lOK L) (hs : same L V) (sz j : Int) : fitZ V sz j = fitZ L sz j := by
  unfold fitZ
  rw [hs.1.1, same_okf h hs]
  by_cases c : 0 ≤ j ∧ j ≤ L 0 11 - 1
  · rw [if_pos c, if_pos c, same_dot h hs c.1 (by omega)]
  · rw [if_neg c, if_neg c]
theorem same_dist (h : lOK L) (hs : same L V) (sz : Int) : distZ V sz = distZ L sz := by
  unfold distZ
  rw [same_okf h hs, same_least h hs]
theorem same_best (h : lOK L) (hs : same L V) (mo : Int) : bestZ V mo = bestZ L mo := by
  unfold bestZ
  rw [same_okf h hs, same_lef h hs]
theorem same_place (h : lOK L) (hs : same L V) (sz x : Int) : placeZ V sz x = placeZ L sz x := by
  unfold placeZ
  rw [same_okf h hs, hs.1.1, plF_e (lf := L 5) (rt := L 6) (ld := dotL L sz) (w := wL L sz) h.1.1 (fun s a b => ⟨(hs.2.1 s a b).1, (hs.2.1 s a b).2.1, same_dot h hs a b, same_w h hs a b⟩)]
theorem why_eq (h : lOK L) (hs : same L V) {sz w z z2 : Int} (c1 : (¬ (1 ≤ sz ∧ sz ≤ 60) ∨ ¬ (0 ≤ w ∧ w ≤ 1)) → z = -2) (c2 : (1 ≤ sz ∧ sz ≤ 60) → (0 ≤ w ∧ w ≤ 1) → whyQ (V 0 11) (wL V sz) sz w z) (r1 : (¬ (1 ≤ sz ∧ sz ≤ 60) ∨ ¬ (0 ≤ w ∧ w ≤ 1)) → z2 = -2) (r2 : (1 ≤ sz ∧ sz ≤ 60) → (0 ≤ w ∧ w ≤ 1) → whyQ (L 0 11) (wL L sz) sz w z2) : z = z2 := by
  by_cases a : 1 ≤ sz ∧ sz ≤ 60
  · by_cases b : 0 ≤ w ∧ w ≤ 1
    · exact same_why h hs (r2 a b) (c2 a b)
    · rw [c1 (Or.inr b), r1 (Or.inr b)]
  · rw [c1 (Or.inl a), r1 (Or.inl a)]
end SAME2
set_option maxHeartbeats 1000000 in
theorem L_say {p : Program} {l : Launch} {e : Env} {s : State} {m : MethodId} {below : List Frame} {meth : Method} {c : Code} {b L : Nat} {xs : Nat → Int32} {D : va_G} {T : Nat → ClassId} {a1 a2 : Nat → Nat} (X : LX p s m c b L xs D T) {i : Int} (hi : 0 ≤ i ∧ i + 3 ≤ (L : Int)) {MC MR : Mem} (h : REL MC MR) (nx : ∀ MC' MR' : Mem, REL MC' MR' → LG p l e s m below meth c b D T a1 a2 i MC' MR' 622 []) : LG p l e s m below meth c b D T a1 a2 i MC MR 124 [] := by
  refine lg_c X dL_law_124 rfl ?_
  refine lg_arg X (k := 1) (by decide) hi dL_law_125 dL_law_126 dL_law_127 dL_law_128 dL_law_129 rfl ?_
  refine lg_callCI X (n := 1) (c4_say l a1 MC _ (xz_R xs (i + 1)) h.1.1 h.1.2.1) (cwV 1 X.1.2.2.2.2 (goodIn_L gL_law_X4_say) rfl rfl rfl (by decide +kernel) ⟨Nat.le_of_ble_eq_true rfl, Nat.le_of_ble_eq_true rfl⟩) rfl rfl (Nat.le_of_ble_eq_true rfl) dL_law_130 rfl (fun z MC' hc => ?_)
  refine lg_r X dL_law_133 rfl ?_
  refine lg_arg X (k := 1) (by decide) hi dL_law_134 dL_law_135 dL_law_136 dL_law_137 dL_law_138 rfl ?_
  refine lg_callRI X (n := 1) (c5_say l a2 MR _ (xz_R xs (i + 1)) (by rw [← h.2.2.1.1]; exact h.1.1)) (cwV 1 X.1.2.2.2.2 (goodIn_L gL_law_X5_say) rfl rfl rfl (by decide +kernel) ⟨Nat.le_of_ble_eq_true rfl, Nat.le_of_ble_eq_true rfl⟩) rfl rfl (Nat.le_of_ble_eq_true rfl) dL_law_139 rfl (fun z2 MR' hr => ?_)
  obtain ⟨ez, h2⟩ := t_say h hc hr
  subst ez
  exact lg_eq X dL_law_142 (by decide) (nx MC' MR' h2)
set_option maxHeartbeats 1000000 in
theorem L_wipe {p : Program} {l : Launch} {e : Env} {s : State} {m : MethodId} {below : List Frame} {meth : Method} {c : Code} {b L : Nat} {xs : Nat → Int32} {D : va_G} {T : Nat → ClassId} {a1 a2 : Nat → Nat} (X : LX p s m c b L xs D T) {i : Int} (hi : 0 ≤ i ∧ i + 3 ≤ (L : Int)) {MC MR : Mem} (h : REL MC MR) (nx : ∀ MC' MR' : Mem, REL MC' MR' → LG p l e s m below meth c b D T a1 a2 i MC' MR' 622 []) : LG p l e s m below meth c b D T a1 a2 i MC MR 147 [] := by
  refine lg_c X dL_law_147 rfl ?_
  refine lg_callCI X (n := 0) (c4_wipe l a1 MC) (cwV 0 X.1.2.2.2.2 (goodIn_L gL_law_X4_wipe) rfl rfl rfl (by decide +kernel) ⟨Nat.le_of_ble_eq_true rfl, Nat.le_of_ble_eq_true rfl⟩) rfl rfl (Nat.le_of_ble_eq_true rfl) dL_law_148 rfl (fun z MC' hc => ?_)
  refine lg_r X dL_law_151 rfl ?_
  refine lg_callRI X (n := 0) (c5_wipe l a2 MR) (cwV 0 X.1.2.2.2.2 (goodIn_L gL_law_X5_wipe) rfl rfl rfl (by decide +kernel) ⟨Nat.le_of_ble_eq_true rfl, Nat.le_of_ble_eq_true rfl⟩) rfl rfl (Nat.le_of_ble_eq_true rfl) dL_law_152 rfl (fun z2 MR' hr => ?_)
  obtain ⟨ez, h2⟩ := t_wipe h hc hr
  subst ez
  exact lg_eq X dL_law_155 (by decide) (nx MC' MR' h2)
set_option maxHeartbeats 1000000 in
theorem L_fault {p : Program} {l : Launch} {e : Env} {s : State} {m : MethodId} {below : List Frame} {meth : Method} {c : Code} {b L : Nat} {xs : Nat → Int32} {D : va_G} {T : Nat → ClassId} {a1 a2 : Nat → Nat} (X : LX p s m c b L xs D T) {i : Int} (hi : 0 ≤ i ∧ i + 3 ≤ (L : Int)) {MC MR : Mem} (h : REL MC MR) (nx : ∀ MC' MR' : Mem, REL MC' MR' → LG p l e s m below meth c b D T a1 a2 i MC' MR' 622 []) : LG p l e s m below meth c b D T a1 a2 i MC MR 160 [] := by
  refine lg_c X dL_law_160 rfl ?_
  refine lg_callCI X (n := 0) (c4_fault l a1 MC h.1.1 h.1.2.1) (cwV 0 X.1.2.2.2.2 (goodIn_L gL_law_X4_fault) rfl rfl rfl (by decide +kernel) ⟨Nat.le_of_ble_eq_true rfl, Nat.le_of_ble_eq_true rfl⟩) rfl rfl (Nat.le_of_ble_eq_true rfl) dL_law_161 rfl (fun z MC' hc => ?_)
  refine lg_r X dL_law_164 rfl ?_
  refine lg_callRI X (n := 0) (c5_fault l a2 MR (by rw [← h.2.2.1.1]; exact h.1.1) (by rw [← h.2.2.1.2]; exact h.1.2.1)) (cwV 0 X.1.2.2.2.2 (goodIn_L gL_law_X5_fault) rfl rfl rfl (by decide +kernel) ⟨Nat.le_of_ble_eq_true rfl, Nat.le_of_ble_eq_true rfl⟩) rfl rfl (Nat.le_of_ble_eq_true rfl) dL_law_165 rfl (fun z2 MR' hr => ?_)
  obtain ⟨ez, h2⟩ := t_fault h hc hr
  subst ez
  exact lg_eq X dL_law_168 (by decide) (nx MC' MR' h2)
set_option maxHeartbeats 1000000 in
theorem L_edge {p : Program} {l : Launch} {e : Env} {s : State} {m : MethodId} {below : List Frame} {meth : Method} {c : Code} {b L : Nat} {xs : Nat → Int32} {D : va_G} {T : Nat → ClassId} {a1 a2 : Nat → Nat} (X : LX p s m c b L xs D T) {i : Int} (hi : 0 ≤ i ∧ i + 3 ≤ (L : Int)) {MC MR : Mem} (h : REL MC MR) (nx : ∀ MC' MR' : Mem, REL MC' MR' → LG p l e s m below meth c b D T a1 a2 i MC' MR' 622 []) : LG p l e s m below meth c b D T a1 a2 i MC MR 173 [] := by
  refine lg_c X dL_law_173 rfl ?_
  refine lg_callCI X (n := 0) (c4_edge l a1 MC h.1.1 h.1.2.1 h.1.2.2.1.1 h.1.2.2.1.2.1 h.1.2.2.1.2.2.1 h.1.2.2.1.2.2.2.1 h.1.2.2.1.2.2.2.2.1 h.1.2.2.1.2.2.2.2.2.1) (cwV 0 X.1.2.2.2.2 (goodIn_L gL_law_X4_edge) rfl rfl rfl (by decide +kernel) ⟨Nat.le_of_ble_eq_true rfl, Nat.le_of_ble_eq_true rfl⟩) rfl rfl (Nat.le_of_ble_eq_true rfl) dL_law_174 rfl (fun z MC' hc => ?_)
  refine lg_r X dL_law_177 rfl ?_
  refine lg_callRI X (n := 0) (c5_edge l a2 MR (by rw [← h.2.2.1.1]; exact h.1.1) (by rw [← h.2.2.1.2]; exact h.1.2.1) (by rw [← h.2.2.2.1.1]; exact h.1.2.2.1.1)) (cwV 0 X.1.2.2.2.2 (goodIn_L gL_law_X5_edge) rfl rfl rfl (by decide +kernel) ⟨Nat.le_of_ble_eq_true rfl, Nat.le_of_ble_eq_true rfl⟩) rfl rfl (Nat.le_of_ble_eq_true rfl) dL_law_178 rfl (fun z2 MR' hr => ?_)
  obtain ⟨ez, h2⟩ := t_edge h hc hr
  subst ez
  exact lg_eq X dL_law_181 (by decide) (nx MC' MR' h2)
set_option maxHeartbeats 1000000 in
theorem L_erase {p : Program} {l : Launch} {e : Env} {s : State} {m : MethodId} {below : List Frame} {meth : Method} {c : Code} {b L : Nat} {xs : Nat → Int32} {D : va_G} {T : Nat → ClassId} {a1 a2 : Nat → Nat} (X : LX p s m c b L xs D T) {i : Int} (hi : 0 ≤ i ∧ i + 3 ≤ (L : Int)) {MC MR : Mem} (h : REL MC MR) (nx : ∀ MC' MR' : Mem, REL MC' MR' → LG p l e s m below meth c b D T a1 a2 i MC' MR' 622 []) : LG p l e s m below meth c b D T a1 a2 i MC MR 186 [] := by
  refine lg_c X dL_law_186 rfl ?_
  refine lg_arg X (k := 1) (by decide) hi dL_law_187 dL_law_188 dL_law_189 dL_law_190 dL_law_191 rfl ?_
  refine lg_callCI X (n := 1) (c4_erase l a1 MC _ (xz_R xs (i + 1)) h.1.2.2.1.1 h.1.2.2.1.2.1 h.1.2.2.1.2.2.1 h.1.2.2.1.2.2.2.1 h.1.2.2.1.2.2.2.2.1 h.1.2.2.1.2.2.2.2.2.1) (cwV 1 X.1.2.2.2.2 (goodIn_L gL_law_X4_erase) rfl rfl rfl (by decide +kernel) ⟨Nat.le_of_ble_eq_true rfl, Nat.le_of_ble_eq_true rfl⟩) rfl rfl (Nat.le_of_ble_eq_true rfl) dL_law_192 rfl (fun z MC' hc => ?_)
  refine lg_r X dL_law_195 rfl ?_
  refine lg_arg X (k := 1) (by decide) hi dL_law_196 dL_law_197 dL_law_198 dL_law_199 dL_law_200 rfl ?_
  refine lg_callRI X (n := 1) (c5_erase l a2 MR _ (xz_R xs (i + 1)) (by rw [← h.2.2.2.1.1]; exact h.1.2.2.1.1)) (cwV 1 X.1.2.2.2.2 (goodIn_L gL_law_X5_erase) rfl rfl rfl (by decide +kernel) ⟨Nat.le_of_ble_eq_true rfl, Nat.le_of_ble_eq_true rfl⟩) rfl rfl (Nat.le_of_ble_eq_true rfl) dL_law_201 rfl (fun z2 MR' hr => ?_)
  obtain ⟨ez, h2⟩ := t_erase h hc hr
  subst ez
  exact lg_eq X dL_law_204 (by decide) (nx MC' MR' h2)
set_option maxHeartbeats 1000000 in
theorem L_told {p : Program} {l : Launch} {e : Env} {s : State} {m : MethodId} {below : List Frame} {meth : Method} {c : Code} {b L : Nat} {xs : Nat → Int32} {D : va_G} {T : Nat → ClassId} {a1 a2 : Nat → Nat} (X : LX p s m c b L xs D T) {i : Int} (hi : 0 ≤ i ∧ i + 3 ≤ (L : Int)) {MC MR : Mem} (h : REL MC MR) (nx : ∀ MC' MR' : Mem, REL MC' MR' → LG p l e s m below meth c b D T a1 a2 i MC' MR' 622 []) : LG p l e s m below meth c b D T a1 a2 i MC MR 209 [] := by
  obtain ⟨ord, ho, hs, ha⟩ := REL_lay h
  have hR := REL_ref h
  have hL := laid_ok hR ho
  have hV := same_lOK hL hs
  have hU := CBo_rul h.1
  refine lg_c X dL_law_209 rfl ?_
  refine lg_arg X (k := 1) (by decide) hi dL_law_210 dL_law_211 dL_law_212 dL_law_213 dL_law_214 rfl ?_
  refine lg_arg X (k := 2) (by decide) hi dL_law_215 dL_law_216 dL_law_217 dL_law_218 dL_law_219 rfl ?_
  refine lg_callCI X (n := 2) (c4_told l a1 _ _ (xz_R xs (i + 1)) (xz_R xs (i + 2)) MC hV hU h.1.2.2.1.1 (stem_b hR ha)) (cwV 2 X.1.2.2.2.2 (goodIn_L gL_law_X4_told) rfl rfl rfl (by decide +kernel) ⟨Nat.le_of_ble_eq_true rfl, Nat.le_of_ble_eq_true rfl⟩) rfl rfl (Nat.le_of_ble_eq_true rfl) dL_law_220 rfl (fun z MC' hc => ?_)
  refine lg_r X dL_law_223 rfl ?_
  refine lg_arg X (k := 1) (by decide) hi dL_law_224 dL_law_225 dL_law_226 dL_law_227 dL_law_228 rfl ?_
  refine lg_arg X (k := 2) (by decide) hi dL_law_229 dL_law_230 dL_law_231 dL_law_232 dL_law_233 rfl ?_
  refine lg_callRI X (n := 2) (c5_told l a2 _ _ (xz_R xs (i + 1)) (xz_R xs (i + 2)) MR ord hR ho) (cwV 2 X.1.2.2.2.2 (goodIn_L gL_law_X5_told) rfl rfl rfl (by decide +kernel) ⟨Nat.le_of_ble_eq_true rfl, Nat.le_of_ble_eq_true rfl⟩) rfl rfl (Nat.le_of_ble_eq_true rfl) dL_law_234 rfl (fun z2 MR' hr => ?_)
  have ez : z = z2 := told_eq hR h.2.2.2.1 ha hc.1 hr.1
  have h2 : REL MC' MR' := REL_c h (fun k _ => by rw [hc.2]) (by rw [hc.2]; exact h.2.1) hr.2
  subst ez
  exact lg_eq X dL_law_237 (by decide) (nx MC' MR' h2)
set_option maxHeartbeats 1000000 in
theorem L_rule {p : Program} {l : Launch} {e : Env} {s : State} {m : MethodId} {below : List Frame} {meth : Method} {c : Code} {b L : Nat} {xs : Nat → Int32} {D : va_G} {T : Nat → ClassId} {a1 a2 : Nat → Nat} (X : LX p s m c b L xs D T) {i : Int} (hi : 0 ≤ i ∧ i + 3 ≤ (L : Int)) {MC MR : Mem} (h : REL MC MR) (nx : ∀ MC' MR' : Mem, REL MC' MR' → LG p l e s m below meth c b D T a1 a2 i MC' MR' 622 []) : LG p l e s m below meth c b D T a1 a2 i MC MR 242 [] := by
  refine lg_c X dL_law_242 rfl ?_
  refine lg_arg X (k := 1) (by decide) hi dL_law_243 dL_law_244 dL_law_245 dL_law_246 dL_law_247 rfl ?_
  refine lg_arg X (k := 2) (by decide) hi dL_law_248 dL_law_249 dL_law_250 dL_law_251 dL_law_252 rfl ?_
  refine lg_callCI X (n := 2) (c4_rule l a1 MC _ _ (xz_R xs (i + 1)) (xz_R xs (i + 2)) h.1.2.2.1.1 h.1.2.2.1.2.1 h.1.2.2.1.2.2.1 h.1.2.2.1.2.2.2.1 h.1.2.2.1.2.2.2.2.1 h.1.2.2.1.2.2.2.2.2.1) (cwV 2 X.1.2.2.2.2 (goodIn_L gL_law_X4_rule) rfl rfl rfl (by decide +kernel) ⟨Nat.le_of_ble_eq_true rfl, Nat.le_of_ble_eq_true rfl⟩) rfl rfl (Nat.le_of_ble_eq_true rfl) dL_law_253 rfl (fun z MC' hc => ?_)
  refine lg_r X dL_law_256 rfl ?_
  refine lg_arg X (k := 1) (by decide) hi dL_law_257 dL_law_258 dL_law_259 dL_law_260 dL_law_261 rfl ?_
  refine lg_arg X (k := 2) (by decide) hi dL_law_262 dL_law_263 dL_law_264 dL_law_265 dL_law_266 rfl ?_
  refine lg_callRI X (n := 2) (c5_rule l a2 MR _ _ (xz_R xs (i + 1)) (xz_R xs (i + 2))) (cwV 2 X.1.2.2.2.2 (goodIn_L gL_law_X5_rule) rfl rfl rfl (by decide +kernel) ⟨Nat.le_of_ble_eq_true rfl, Nat.le_of_ble_eq_true rfl⟩) rfl rfl (Nat.le_of_ble_eq_true rfl) dL_law_267 rfl (fun z2 MR' hr => ?_)
  obtain ⟨ez, h2⟩ := t_rule h hc hr
  subst ez
  exact lg_eq X dL_law_270 (by decide) (nx MC' MR' h2)
