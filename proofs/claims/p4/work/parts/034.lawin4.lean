set_option maxRecDepth 100000 in
theorem wsL_ir28 : ∀ w ∈ wsL_law0_r28, w ∈ lw_tbl := fun w h => (goodIn_p wsL_law0_r28 [826, 1081, 1085, 1089, 1093, 1097] (by decide +kernel) (by decide +kernel) w h).1
set_option maxRecDepth 100000 in
theorem wsL_ir29 : ∀ w ∈ wsL_law0_r29, w ∈ lw_tbl := fun w h => (goodIn_p wsL_law0_r29 [1101, 1105, 1109, 1113, 1118] (by decide +kernel) (by decide +kernel) w h).1
set_option maxRecDepth 100000 in
theorem wsL_ir30 : ∀ w ∈ wsL_law0_r30, w ∈ lw_tbl := fun w h => (goodIn_p wsL_law0_r30 [1122, 1126, 1130, 1134, 1138, 1142] (by decide +kernel) (by decide +kernel) w h).1
set_option maxRecDepth 100000 in
theorem wsL_ir31 : ∀ w ∈ wsL_law0_r31, w ∈ lw_tbl := fun w h => (goodIn_p wsL_law0_r31 [1148, 1152, 833] (by decide +kernel) (by decide +kernel) w h).1
set_option maxRecDepth 100000 in
theorem wsL_ir32 : ∀ w ∈ wsL_law0_r32, w ∈ lw_tbl := fun w h => (goodIn_p wsL_law0_r32 [1156, 841, 1160, 1164, 849] (by decide +kernel) (by decide +kernel) w h).1
set_option maxRecDepth 100000 in
theorem wsL_ir33 : ∀ w ∈ wsL_law0_r33, w ∈ lw_tbl := fun w h => (goodIn_p wsL_law0_r33 [1168, 858, 862, 866] (by decide +kernel) (by decide +kernel) w h).1
set_option maxRecDepth 100000 in
theorem wsL_ir34 : ∀ w ∈ wsL_law0_r34, w ∈ lw_tbl := fun w h => (goodIn_p wsL_law0_r34 [1172, 1176, 224, 1180] (by decide +kernel) (by decide +kernel) w h).1
