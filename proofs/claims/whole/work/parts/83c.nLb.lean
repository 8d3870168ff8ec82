set_option maxRecDepth 20000 in
theorem inr_21 : ∀ w ∈ wsL_law0_r21, w ∈ lw_tbl := fun w h => (goodIn_p wsL_law0_r21 [1475, 1480, 1484, 1488, 1492, 1496] (by decide +kernel) (by decide +kernel) w h).1
set_option maxRecDepth 20000 in
theorem inr_22 : ∀ w ∈ wsL_law0_r22, w ∈ lw_tbl := fun w h => (goodIn_p wsL_law0_r22 [1500, 1504, 1423, 732] (by decide +kernel) (by decide +kernel) w h).1
set_option maxRecDepth 20000 in
theorem inr_23 : ∀ w ∈ wsL_law0_r23, w ∈ lw_tbl := fun w h => (goodIn_p wsL_law0_r23 [736, 742, 746, 755] (by decide +kernel) (by decide +kernel) w h).1
set_option maxRecDepth 20000 in
theorem inr_24 : ∀ w ∈ wsL_law0_r24, w ∈ lw_tbl := fun w h => (goodIn_p wsL_law0_r24 [760, 767, 771] (by decide +kernel) (by decide +kernel) w h).1
set_option maxRecDepth 20000 in
theorem inr_25 : ∀ w ∈ wsL_law0_r25, w ∈ lw_tbl := fun w h => (goodIn_p wsL_law0_r25 [779, 783, 788, 792, 796] (by decide +kernel) (by decide +kernel) w h).1
set_option maxRecDepth 20000 in
theorem inr_26 : ∀ w ∈ wsL_law0_r26, w ∈ lw_tbl := fun w h => (goodIn_p wsL_law0_r26 [800, 804, 808, 812, 816, 821] (by decide +kernel) (by decide +kernel) w h).1
set_option maxRecDepth 20000 in
theorem inr_27 : ∀ w ∈ wsL_law0_r27, w ∈ lw_tbl := fun w h => (goodIn_p wsL_law0_r27 [1512, 1516, 1520, 1524, 1528] (by decide +kernel) (by decide +kernel) w h).1
set_option maxRecDepth 20000 in
theorem inr_28 : ∀ w ∈ wsL_law0_r28, w ∈ lw_tbl := fun w h => (goodIn_p wsL_law0_r28 [1532, 1536, 436, 1508, 829] (by decide +kernel) (by decide +kernel) w h).1
set_option maxRecDepth 20000 in
theorem inr_29 : ∀ w ∈ wsL_law0_r29, w ∈ lw_tbl := fun w h => (goodIn_p wsL_law0_r29 [1540, 1543, 853] (by decide +kernel) (by decide +kernel) w h).1
set_option maxRecDepth 20000 in
theorem inr_30 : ∀ w ∈ wsL_law0_r30, w ∈ lw_tbl := fun w h => (goodIn_p wsL_law0_r30 [857, 864, 870, 874, 878] (by decide +kernel) (by decide +kernel) w h).1
