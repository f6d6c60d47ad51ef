/-! ===== the law's words stand in the tables ===== -/
set_option maxRecDepth 20000 in
theorem wsL_tb_19 : ∀ w ∈ wsL_law0_r19, w ∈ lw_tbl := fun w h => (goodIn_p wsL_law0_r19 [956, 960, 964, 968, 972, 976] rfl (by decide +kernel) w h).1
set_option maxRecDepth 20000 in
theorem wsL_tb_20 : ∀ w ∈ wsL_law0_r20, w ∈ lw_tbl := fun w h => (goodIn_p wsL_law0_r20 [980, 984, 988, 992, 996, 1000] rfl (by decide +kernel) w h).1
set_option maxRecDepth 20000 in
theorem wsL_tb_21 : ∀ w ∈ wsL_law0_r21, w ∈ lw_tbl := fun w h => (goodIn_p wsL_law0_r21 [649, 653, 1004, 1008] rfl (by decide +kernel) w h).1
set_option maxRecDepth 20000 in
theorem wsL_tb_22 : ∀ w ∈ wsL_law0_r22, w ∈ lw_tbl := fun w h => (goodIn_p wsL_law0_r22 [661, 665, 669, 675, 680, 685] rfl (by decide +kernel) w h).1
set_option maxRecDepth 20000 in
theorem wsL_tb_23 : ∀ w ∈ wsL_law0_r23, w ∈ lw_tbl := fun w h => (goodIn_p wsL_law0_r23 [689, 1012, 1016, 1020, 1024] rfl (by decide +kernel) w h).1
set_option maxRecDepth 20000 in
theorem wsL_tb_24 : ∀ w ∈ wsL_law0_r24, w ∈ lw_tbl := fun w h => (goodIn_p wsL_law0_r24 [697, 1028, 704, 709] rfl (by decide +kernel) w h).1
set_option maxRecDepth 20000 in
theorem wsL_tb_25 : ∀ w ∈ wsL_law0_r25, w ∈ lw_tbl := fun w h => (goodIn_p wsL_law0_r25 [1032, 155, 1036, 726, 1040] rfl (by decide +kernel) w h).1
set_option maxRecDepth 20000 in
theorem wsL_tb_26 : ∀ w ∈ wsL_law0_r26, w ∈ lw_tbl := fun w h => (goodIn_p wsL_law0_r26 [734, 1044, 741, 1048] rfl (by decide +kernel) w h).1
set_option maxRecDepth 20000 in
theorem wsL_tb_27 : ∀ w ∈ wsL_law0_r27, w ∈ lw_tbl := fun w h => (goodIn_p wsL_law0_r27 [748, 1052, 163, 1056] rfl (by decide +kernel) w h).1
