/-! ===== the law's words stand in the tables ===== -/
set_option maxRecDepth 20000 in
theorem wsL_tb_19 : ∀ w ∈ wsL_law0_r19, w ∈ lw_tbl := fun w h => (goodIn_p wsL_law0_r19 [693, 697, 702, 716, 720] rfl (by decide +kernel) w h).1
set_option maxRecDepth 20000 in
theorem wsL_tb_20 : ∀ w ∈ wsL_law0_r20, w ∈ lw_tbl := fun w h => (goodIn_p wsL_law0_r20 [724, 313, 728, 732, 325, 736] rfl (by decide +kernel) w h).1
set_option maxRecDepth 20000 in
theorem wsL_tb_21 : ∀ w ∈ wsL_law0_r21, w ∈ lw_tbl := fun w h => (goodIn_p wsL_law0_r21 [740, 317, 321, 309, 743] rfl (by decide +kernel) w h).1
