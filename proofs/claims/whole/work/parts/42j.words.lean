/-! ===== the law's words stand in the tables ===== -/
set_option maxRecDepth 20000 in
theorem wsL_tb_10 : ∀ w ∈ wsL_law0_r10, w ∈ lw_tbl := fun w h => (goodIn_p wsL_law0_r10 [933, 937, 435] rfl (by decide +kernel) w h).1
set_option maxRecDepth 20000 in
theorem wsL_tb_11 : ∀ w ∈ wsL_law0_r11, w ∈ lw_tbl := fun w h => (goodIn_p wsL_law0_r11 [439, 459, 462, 465, 469] rfl (by decide +kernel) w h).1
set_option maxRecDepth 20000 in
theorem wsL_tb_12 : ∀ w ∈ wsL_law0_r12, w ∈ lw_tbl := fun w h => (goodIn_p wsL_law0_r12 [941, 945, 478, 482, 949] rfl (by decide +kernel) w h).1
set_option maxRecDepth 20000 in
theorem wsL_tb_13 : ∀ w ∈ wsL_law0_r13, w ∈ lw_tbl := fun w h => (goodIn_p wsL_law0_r13 [490, 493, 498, 503, 507] rfl (by decide +kernel) w h).1
set_option maxRecDepth 20000 in
theorem wsL_tb_14 : ∀ w ∈ wsL_law0_r14, w ∈ lw_tbl := fun w h => (goodIn_p wsL_law0_r14 [511, 515, 519, 525, 529] rfl (by decide +kernel) w h).1
set_option maxRecDepth 20000 in
theorem wsL_tb_15 : ∀ w ∈ wsL_law0_r15, w ∈ lw_tbl := fun w h => (goodIn_p wsL_law0_r15 [533, 537, 541, 545, 549, 553] rfl (by decide +kernel) w h).1
set_option maxRecDepth 20000 in
theorem wsL_tb_16 : ∀ w ∈ wsL_law0_r16, w ∈ lw_tbl := fun w h => (goodIn_p wsL_law0_r16 [557, 561, 565, 573] rfl (by decide +kernel) w h).1
set_option maxRecDepth 20000 in
theorem wsL_tb_17 : ∀ w ∈ wsL_law0_r17, w ∈ lw_tbl := fun w h => (goodIn_p wsL_law0_r17 [593, 597, 623, 627] rfl (by decide +kernel) w h).1
set_option maxRecDepth 20000 in
theorem wsL_tb_18 : ∀ w ∈ wsL_law0_r18, w ∈ lw_tbl := fun w h => (goodIn_p wsL_law0_r18 [631, 635, 638, 642, 953] rfl (by decide +kernel) w h).1
