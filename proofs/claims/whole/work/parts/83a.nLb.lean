set_option maxRecDepth 20000 in
theorem inr_1 : ∀ w ∈ wsL_law0_r1, w ∈ lw_tbl := fun w h => (goodIn_p wsL_law0_r1 [108, 111] (by decide +kernel) (by decide +kernel) w h).1
set_option maxRecDepth 20000 in
theorem inr_2 : ∀ w ∈ wsL_law0_r2, w ∈ lw_tbl := fun w h => (goodIn_p wsL_law0_r2 [] (by decide +kernel) (by decide +kernel) w h).1
set_option maxRecDepth 20000 in
theorem inr_3 : ∀ w ∈ wsL_law0_r3, w ∈ lw_tbl := fun w h => (goodIn_p wsL_law0_r3 [116, 122] (by decide +kernel) (by decide +kernel) w h).1
set_option maxRecDepth 20000 in
theorem inr_4 : ∀ w ∈ wsL_law0_r4, w ∈ lw_tbl := fun w h => (goodIn_p wsL_law0_r4 [152, 212, 254, 270] (by decide +kernel) (by decide +kernel) w h).1
set_option maxRecDepth 20000 in
theorem inr_5 : ∀ w ∈ wsL_law0_r5, w ∈ lw_tbl := fun w h => (goodIn_p wsL_law0_r5 [298, 316, 346] (by decide +kernel) (by decide +kernel) w h).1
set_option maxRecDepth 20000 in
theorem inr_6 : ∀ w ∈ wsL_law0_r6, w ∈ lw_tbl := fun w h => (goodIn_p wsL_law0_r6 [364, 1225] (by decide +kernel) (by decide +kernel) w h).1
set_option maxRecDepth 20000 in
theorem inr_7 : ∀ w ∈ wsL_law0_r7, w ∈ lw_tbl := fun w h => (goodIn_p wsL_law0_r7 [] (by decide +kernel) (by decide +kernel) w h).1
set_option maxRecDepth 20000 in
theorem inr_8 : ∀ w ∈ wsL_law0_r8, w ∈ lw_tbl := fun w h => (goodIn_p wsL_law0_r8 [428, 432, 1427, 1431] (by decide +kernel) (by decide +kernel) w h).1
set_option maxRecDepth 20000 in
theorem inr_9 : ∀ w ∈ wsL_law0_r9, w ∈ lw_tbl := fun w h => (goodIn_p wsL_law0_r9 [482, 486, 556] (by decide +kernel) (by decide +kernel) w h).1
set_option maxRecDepth 20000 in
theorem inr_10 : ∀ w ∈ wsL_law0_r10, w ∈ lw_tbl := fun w h => (goodIn_p wsL_law0_r10 [560, 564, 568, 571] (by decide +kernel) (by decide +kernel) w h).1
