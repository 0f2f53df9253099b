set_option maxRecDepth 100000 in
theorem wsL_ir10 : ∀ w ∈ wsL_law0_r10, w ∈ lw_tbl := fun w h => (goodIn_p wsL_law0_r10 [477, 205, 208, 211, 215, 500] (by decide +kernel) (by decide +kernel) w h).1
set_option maxRecDepth 100000 in
theorem wsL_ir11 : ∀ w ∈ wsL_law0_r11, w ∈ lw_tbl := fun w h => (goodIn_p wsL_law0_r11 [1001, 1005, 1011, 507] (by decide +kernel) (by decide +kernel) w h).1
set_option maxRecDepth 100000 in
theorem wsL_ir12 : ∀ w ∈ wsL_law0_r12, w ∈ lw_tbl := fun w h => (goodIn_p wsL_law0_r12 [511, 516, 1015, 985] (by decide +kernel) (by decide +kernel) w h).1
set_option maxRecDepth 100000 in
theorem wsL_ir13 : ∀ w ∈ wsL_law0_r13, w ∈ lw_tbl := fun w h => (goodIn_p wsL_law0_r13 [523, 1021, 1027] (by decide +kernel) (by decide +kernel) w h).1
set_option maxRecDepth 100000 in
theorem wsL_ir14 : ∀ w ∈ wsL_law0_r14, w ∈ lw_tbl := fun w h => (goodIn_p wsL_law0_r14 [533, 1031, 540, 1035] (by decide +kernel) (by decide +kernel) w h).1
set_option maxRecDepth 100000 in
theorem wsL_ir15 : ∀ w ∈ wsL_law0_r15, w ∈ lw_tbl := fun w h => (goodIn_p wsL_law0_r15 [548, 552, 561, 566] (by decide +kernel) (by decide +kernel) w h).1
set_option maxRecDepth 100000 in
theorem wsL_ir16 : ∀ w ∈ wsL_law0_r16, w ∈ lw_tbl := fun w h => (goodIn_p wsL_law0_r16 [571, 574, 648] (by decide +kernel) (by decide +kernel) w h).1
set_option maxRecDepth 100000 in
theorem wsL_ir17 : ∀ w ∈ wsL_law0_r17, w ∈ lw_tbl := fun w h => (goodIn_p wsL_law0_r17 [652, 656, 659, 663] (by decide +kernel) (by decide +kernel) w h).1
set_option maxRecDepth 100000 in
theorem wsL_ir18 : ∀ w ∈ wsL_law0_r18, w ∈ lw_tbl := fun w h => (goodIn_p wsL_law0_r18 [667, 671, 1039, 1045, 1049] (by decide +kernel) (by decide +kernel) w h).1
