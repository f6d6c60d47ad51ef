/-! ===== the law's words stand in the tables ===== -/
set_option maxRecDepth 20000 in
theorem wsL_tb_1 : ∀ w ∈ wsL_law0_r1, w ∈ lw_tbl := fun w h => (goodIn_p wsL_law0_r1 [57, 60] rfl (by decide +kernel) w h).1
set_option maxRecDepth 20000 in
theorem wsL_tb_2 : ∀ w ∈ wsL_law0_r2, w ∈ lw_tbl := fun w h => (goodIn_p wsL_law0_r2 [65, 68, 71, 92, 106] rfl (by decide +kernel) w h).1
set_option maxRecDepth 20000 in
theorem wsL_tb_3 : ∀ w ∈ wsL_law0_r3, w ∈ lw_tbl := fun w h => (goodIn_p wsL_law0_r3 [329, 333, 337] rfl (by decide +kernel) w h).1
set_option maxRecDepth 20000 in
theorem wsL_tb_4 : ∀ w ∈ wsL_law0_r4, w ∈ lw_tbl := fun w h => (goodIn_p wsL_law0_r4 [218, 143, 374, 396] rfl (by decide +kernel) w h).1
set_option maxRecDepth 20000 in
theorem wsL_tb_5 : ∀ w ∈ wsL_law0_r5, w ∈ lw_tbl := fun w h => (goodIn_p wsL_law0_r5 [400, 404, 408, 414, 411, 418] rfl (by decide +kernel) w h).1
set_option maxRecDepth 20000 in
theorem wsL_tb_6 : ∀ w ∈ wsL_law0_r6, w ∈ lw_tbl := fun w h => (goodIn_p wsL_law0_r6 [421, 440, 446, 455] rfl (by decide +kernel) w h).1
set_option maxRecDepth 20000 in
theorem wsL_tb_7 : ∀ w ∈ wsL_law0_r7, w ∈ lw_tbl := fun w h => (goodIn_p wsL_law0_r7 [460, 465, 469, 508] rfl (by decide +kernel) w h).1
set_option maxRecDepth 20000 in
theorem wsL_tb_8 : ∀ w ∈ wsL_law0_r8, w ∈ lw_tbl := fun w h => (goodIn_p wsL_law0_r8 [512, 516, 519, 523, 528] rfl (by decide +kernel) w h).1
set_option maxRecDepth 20000 in
theorem wsL_tb_9 : ∀ w ∈ wsL_law0_r9, w ∈ lw_tbl := fun w h => (goodIn_p wsL_law0_r9 [139, 223, 226, 229, 233] rfl (by decide +kernel) w h).1
