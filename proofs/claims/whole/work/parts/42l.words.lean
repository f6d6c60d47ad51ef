/-! ===== the law's words stand in the tables ===== -/
set_option maxRecDepth 20000 in
theorem wsL_tb_28 : ∀ w ∈ wsL_law0_r28, w ∈ lw_tbl := fun w h => (goodIn_p wsL_law0_r28 [755, 1060, 762, 1064, 769] rfl (by decide +kernel) w h).1
set_option maxRecDepth 20000 in
theorem wsL_tb_29 : ∀ w ∈ wsL_law0_r29, w ∈ lw_tbl := fun w h => (goodIn_p wsL_law0_r29 [1068, 776, 1072, 783] rfl (by decide +kernel) w h).1
set_option maxRecDepth 20000 in
theorem wsL_tb_30 : ∀ w ∈ wsL_law0_r30, w ∈ lw_tbl := fun w h => (goodIn_p wsL_law0_r30 [1076, 790, 175, 1080, 797] rfl (by decide +kernel) w h).1
set_option maxRecDepth 20000 in
theorem wsL_tb_31 : ∀ w ∈ wsL_law0_r31, w ∈ lw_tbl := fun w h => (goodIn_p wsL_law0_r31 [1084, 805, 1088, 812] rfl (by decide +kernel) w h).1
set_option maxRecDepth 20000 in
theorem wsL_tb_32 : ∀ w ∈ wsL_law0_r32, w ∈ lw_tbl := fun w h => (goodIn_p wsL_law0_r32 [816, 1092, 823, 1097, 830] rfl (by decide +kernel) w h).1
set_option maxRecDepth 20000 in
theorem wsL_tb_33 : ∀ w ∈ wsL_law0_r33, w ∈ lw_tbl := fun w h => (goodIn_p wsL_law0_r33 [1101, 837, 841, 1105, 167] rfl (by decide +kernel) w h).1
set_option maxRecDepth 20000 in
theorem wsL_tb_34 : ∀ w ∈ wsL_law0_r34, w ∈ lw_tbl := fun w h => (goodIn_p wsL_law0_r34 [171, 1109] rfl (by decide +kernel) w h).1
