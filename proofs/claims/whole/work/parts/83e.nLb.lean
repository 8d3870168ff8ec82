set_option maxRecDepth 20000 in
theorem inr_41 : ∀ w ∈ wsL_law0_r41, w ∈ lw_tbl := fun w h => (goodIn_p wsL_law0_r41 [1043, 1047, 1050, 1056, 1059] (by decide +kernel) (by decide +kernel) w h).1
set_option maxRecDepth 20000 in
theorem inr_42 : ∀ w ∈ wsL_law0_r42, w ∈ lw_tbl := fun w h => (goodIn_p wsL_law0_r42 [1631, 1066, 1070, 1074, 1078] (by decide +kernel) (by decide +kernel) w h).1
set_option maxRecDepth 20000 in
theorem inr_43 : ∀ w ∈ wsL_law0_r43, w ∈ lw_tbl := fun w h => (goodIn_p wsL_law0_r43 [1636, 1639, 1085, 1089, 1093, 1097] (by decide +kernel) (by decide +kernel) w h).1
set_option maxRecDepth 20000 in
theorem inr_44 : ∀ w ∈ wsL_law0_r44, w ∈ lw_tbl := fun w h => (goodIn_p wsL_law0_r44 [1101, 1106, 1110, 1643, 1647, 1651] (by decide +kernel) (by decide +kernel) w h).1
set_option maxRecDepth 20000 in
theorem inr_45 : ∀ w ∈ wsL_law0_r45, w ∈ lw_tbl := fun w h => (goodIn_p wsL_law0_r45 [1655, 1659, 440, 445, 1663] (by decide +kernel) (by decide +kernel) w h).1
set_option maxRecDepth 20000 in
theorem inr_46 : ∀ w ∈ wsL_law0_r46, w ∈ lw_tbl := fun w h => (goodIn_p wsL_law0_r46 [449, 1668, 1117, 1121, 1124] (by decide +kernel) (by decide +kernel) w h).1
set_option maxRecDepth 20000 in
theorem inr_47 : ∀ w ∈ wsL_law0_r47, w ∈ lw_tbl := fun w h => (goodIn_p wsL_law0_r47 [1672, 1676, 1132, 1136, 1140, 1680] (by decide +kernel) (by decide +kernel) w h).1
set_option maxRecDepth 20000 in
theorem inr_48 : ∀ w ∈ wsL_law0_r48, w ∈ lw_tbl := fun w h => (goodIn_p wsL_law0_r48 [1147, 1150, 1156, 1160, 1165] (by decide +kernel) (by decide +kernel) w h).1
set_option maxRecDepth 20000 in
theorem inr_49 : ∀ w ∈ wsL_law0_r49, w ∈ lw_tbl := fun w h => (goodIn_p wsL_law0_r49 [1684, 1688, 1692, 1173, 1697] (by decide +kernel) (by decide +kernel) w h).1
set_option maxRecDepth 20000 in
theorem inr_50 : ∀ w ∈ wsL_law0_r50, w ∈ lw_tbl := fun w h => (goodIn_p wsL_law0_r50 [1180, 1184, 1187, 1190, 1701] (by decide +kernel) (by decide +kernel) w h).1
