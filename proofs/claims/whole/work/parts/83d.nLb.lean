set_option maxRecDepth 20000 in
theorem inr_31 : ∀ w ∈ wsL_law0_r31, w ∈ lw_tbl := fun w h => (goodIn_p wsL_law0_r31 [882, 886, 890, 894, 898, 902] (by decide +kernel) (by decide +kernel) w h).1
set_option maxRecDepth 20000 in
theorem inr_32 : ∀ w ∈ wsL_law0_r32, w ∈ lw_tbl := fun w h => (goodIn_p wsL_law0_r32 [1547, 1551, 1555, 1559, 1563, 1567] (by decide +kernel) (by decide +kernel) w h).1
set_option maxRecDepth 20000 in
theorem inr_33 : ∀ w ∈ wsL_law0_r33, w ∈ lw_tbl := fun w h => (goodIn_p wsL_law0_r33 [1571, 912, 916, 925] (by decide +kernel) (by decide +kernel) w h).1
set_option maxRecDepth 20000 in
theorem inr_34 : ∀ w ∈ wsL_law0_r34, w ∈ lw_tbl := fun w h => (goodIn_p wsL_law0_r34 [1575, 1579, 934, 937, 1583] (by decide +kernel) (by decide +kernel) w h).1
set_option maxRecDepth 20000 in
theorem inr_35 : ∀ w ∈ wsL_law0_r35, w ∈ lw_tbl := fun w h => (goodIn_p wsL_law0_r35 [1587, 946, 949, 1591, 957] (by decide +kernel) (by decide +kernel) w h).1
set_option maxRecDepth 20000 in
theorem inr_36 : ∀ w ∈ wsL_law0_r36, w ∈ lw_tbl := fun w h => (goodIn_p wsL_law0_r36 [960, 965, 971, 976, 980] (by decide +kernel) (by decide +kernel) w h).1
set_option maxRecDepth 20000 in
theorem inr_37 : ∀ w ∈ wsL_law0_r37, w ∈ lw_tbl := fun w h => (goodIn_p wsL_law0_r37 [995, 998, 984, 988, 992, 1595, 1599] (by decide +kernel) (by decide +kernel) w h).1
set_option maxRecDepth 20000 in
theorem inr_38 : ∀ w ∈ wsL_law0_r38, w ∈ lw_tbl := fun w h => (goodIn_p wsL_law0_r38 [1603, 1607, 1611, 1005, 1009] (by decide +kernel) (by decide +kernel) w h).1
set_option maxRecDepth 20000 in
theorem inr_39 : ∀ w ∈ wsL_law0_r39, w ∈ lw_tbl := fun w h => (goodIn_p wsL_law0_r39 [1013, 1020, 1026] (by decide +kernel) (by decide +kernel) w h).1
set_option maxRecDepth 20000 in
theorem inr_40 : ∀ w ∈ wsL_law0_r40, w ∈ lw_tbl := fun w h => (goodIn_p wsL_law0_r40 [1031, 1036, 1615, 1619, 1623, 1627] (by decide +kernel) (by decide +kernel) w h).1
