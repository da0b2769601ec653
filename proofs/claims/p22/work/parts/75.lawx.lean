/-! ===== the law's words: all of them ===== -/
set_option maxRecDepth 20000 in
theorem inLX4 : ∀ w ∈ wsX40, w ∈ lw_tbl := by decide +kernel
set_option maxRecDepth 20000 in
theorem inLX2 : ∀ w ∈ wsX20, w ∈ lw_tbl := by decide +kernel
set_option maxRecDepth 20000 in
theorem inLX1 : ∀ w ∈ wsX10, w ∈ lw_tbl := by decide +kernel
set_option maxRecDepth 20000 in
theorem inLX3 : ∀ w ∈ wsX30, w ∈ lw_tbl := by decide +kernel
set_option maxRecDepth 20000 in
theorem inLX0 : ∀ w ∈ wsX00, w ∈ lw_tbl := by decide +kernel
theorem lw_ap {a b : List Cond} (ha : ∀ w ∈ a, w ∈ lw_tbl) (hb : ∀ w ∈ b, w ∈ lw_tbl) : ∀ w ∈ a ++ b, w ∈ lw_tbl := fun w h => (List.mem_append.mp h).elim (ha w) (hb w)
theorem wsL_law_in : ∀ w ∈ wsL_law, w ∈ lw_tbl := lw_ap (lw_ap (lw_ap (lw_ap (lw_ap (lw_ap (lw_ap lwi_1 (lw_ap lwi_2 (lw_ap lwi_3 (lw_ap lwi_4 (lw_ap lwi_5 (lw_ap lwi_6 (lw_ap lwi_7 (lw_ap lwi_8 (lw_ap lwi_9 (lw_ap lwi_10 (lw_ap lwi_11 (lw_ap lwi_12 (lw_ap lwi_13 (lw_ap lwi_14 (lw_ap lwi_15 (lw_ap lwi_16 lwi_17)))))))))))))))) inLX4) inLX2) inLX1) inLX3) inLX0) (fun _ h => absurd h List.not_mem_nil)
theorem goodIn_L {ws : List Cond} (h : GoodIn wsL_law ws) : GoodIn lw_tbl ws := fun w hw => ⟨wsL_law_in w (h w hw).1, (h w hw).2⟩
