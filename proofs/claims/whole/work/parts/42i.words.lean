/-! ===== the law's words stand in the tables ===== -/
set_option maxRecDepth 20000 in
theorem wsL_tb_1 : ∀ w ∈ wsL_law0_r1, w ∈ lw_tbl := fun w h => (goodIn_p wsL_law0_r1 [77, 80] rfl (by decide +kernel) w h).1
set_option maxRecDepth 20000 in
theorem wsL_tb_2 : ∀ w ∈ wsL_law0_r2, w ∈ lw_tbl := fun w h => (goodIn_p wsL_law0_r2 [85, 88, 91, 112] rfl (by decide +kernel) w h).1
set_option maxRecDepth 20000 in
theorem wsL_tb_3 : ∀ w ∈ wsL_law0_r3, w ∈ lw_tbl := fun w h => (goodIn_p wsL_law0_r3 [126, 846] rfl (by decide +kernel) w h).1
set_option maxRecDepth 20000 in
theorem wsL_tb_4 : ∀ w ∈ wsL_law0_r4, w ∈ lw_tbl := fun w h => (goodIn_p wsL_law0_r4 [187, 178] rfl (by decide +kernel) w h).1
set_option maxRecDepth 20000 in
theorem wsL_tb_5 : ∀ w ∈ wsL_law0_r5, w ∈ lw_tbl := fun w h => (goodIn_p wsL_law0_r5 [159, 279, 301, 305] rfl (by decide +kernel) w h).1
set_option maxRecDepth 20000 in
theorem wsL_tb_6 : ∀ w ∈ wsL_law0_r6, w ∈ lw_tbl := fun w h => (goodIn_p wsL_law0_r6 [309, 313, 319, 316, 323] rfl (by decide +kernel) w h).1
set_option maxRecDepth 20000 in
theorem wsL_tb_7 : ∀ w ∈ wsL_law0_r7, w ∈ lw_tbl := fun w h => (goodIn_p wsL_law0_r7 [326, 346, 352, 922] rfl (by decide +kernel) w h).1
set_option maxRecDepth 20000 in
theorem wsL_tb_8 : ∀ w ∈ wsL_law0_r8, w ∈ lw_tbl := fun w h => (goodIn_p wsL_law0_r8 [925, 929, 918, 364, 367, 371] rfl (by decide +kernel) w h).1
set_option maxRecDepth 20000 in
theorem wsL_tb_9 : ∀ w ∈ wsL_law0_r9, w ∈ lw_tbl := fun w h => (goodIn_p wsL_law0_r9 [376, 381, 386, 427] rfl (by decide +kernel) w h).1
