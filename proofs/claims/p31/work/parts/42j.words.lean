/-! ===== the law's words stand in the tables ===== -/
set_option maxRecDepth 20000 in
theorem wsL_tb_10 : ∀ w ∈ wsL_law0_r10, w ∈ lw_tbl := fun w h => (goodIn_p wsL_law0_r10 [533, 537, 541, 545, 135, 215] rfl (by decide +kernel) w h).1
set_option maxRecDepth 20000 in
theorem wsL_tb_11 : ∀ w ∈ wsL_law0_r11, w ∈ lw_tbl := fun w h => (goodIn_p wsL_law0_r11 [238, 242, 246, 250, 257] rfl (by decide +kernel) w h).1
set_option maxRecDepth 20000 in
theorem wsL_tb_12 : ∀ w ∈ wsL_law0_r12, w ∈ lw_tbl := fun w h => (goodIn_p wsL_law0_r12 [261, 265, 269, 273, 277, 281] rfl (by decide +kernel) w h).1
set_option maxRecDepth 20000 in
theorem wsL_tb_13 : ∀ w ∈ wsL_law0_r13, w ∈ lw_tbl := fun w h => (goodIn_p wsL_law0_r13 [285, 289, 293, 297] rfl (by decide +kernel) w h).1
set_option maxRecDepth 20000 in
theorem wsL_tb_14 : ∀ w ∈ wsL_law0_r14, w ∈ lw_tbl := fun w h => (goodIn_p wsL_law0_r14 [305, 550, 554, 558, 562] rfl (by decide +kernel) w h).1
set_option maxRecDepth 20000 in
theorem wsL_tb_15 : ∀ w ∈ wsL_law0_r15, w ∈ lw_tbl := fun w h => (goodIn_p wsL_law0_r15 [567, 571, 576, 596, 600] rfl (by decide +kernel) w h).1
set_option maxRecDepth 20000 in
theorem wsL_tb_16 : ∀ w ∈ wsL_law0_r16, w ∈ lw_tbl := fun w h => (goodIn_p wsL_law0_r16 [626, 630, 634, 637, 641] rfl (by decide +kernel) w h).1
set_option maxRecDepth 20000 in
theorem wsL_tb_17 : ∀ w ∈ wsL_law0_r17, w ∈ lw_tbl := fun w h => (goodIn_p wsL_law0_r17 [645, 649, 653, 657, 661, 666] rfl (by decide +kernel) w h).1
set_option maxRecDepth 20000 in
theorem wsL_tb_18 : ∀ w ∈ wsL_law0_r18, w ∈ lw_tbl := fun w h => (goodIn_p wsL_law0_r18 [671, 676, 680, 685, 689] rfl (by decide +kernel) w h).1
