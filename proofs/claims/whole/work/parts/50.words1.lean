set_option maxRecDepth 100000 in
theorem wsL_law_r1_in : ∀ w ∈ wsL_law_r1, w ∈ lw_tbl := fun w h => (goodIn_p wsL_law_r1 [54, 57] (by decide +kernel) (by decide +kernel) w h).1
set_option maxRecDepth 100000 in
theorem wsL_law_r2_in : ∀ w ∈ wsL_law_r2, w ∈ lw_tbl := fun w h => (goodIn_p wsL_law_r2 [] (by decide +kernel) (by decide +kernel) w h).1
set_option maxRecDepth 100000 in
theorem wsL_law_r3_in : ∀ w ∈ wsL_law_r3, w ∈ lw_tbl := fun w h => (goodIn_p wsL_law_r3 [62, 77, 93] (by decide +kernel) (by decide +kernel) w h).1
set_option maxRecDepth 100000 in
theorem wsL_law_r4_in : ∀ w ∈ wsL_law_r4, w ∈ lw_tbl := fun w h => (goodIn_p wsL_law_r4 [97, 115, 143] (by decide +kernel) (by decide +kernel) w h).1
set_option maxRecDepth 100000 in
theorem wsL_law_r5_in : ∀ w ∈ wsL_law_r5, w ∈ lw_tbl := fun w h => (goodIn_p wsL_law_r5 [177, 216] (by decide +kernel) (by decide +kernel) w h).1
set_option maxRecDepth 100000 in
theorem wsL_law_r6_in : ∀ w ∈ wsL_law_r6, w ∈ lw_tbl := fun w h => (goodIn_p wsL_law_r6 [229, 688] (by decide +kernel) (by decide +kernel) w h).1
set_option maxRecDepth 100000 in
theorem wsL_law_r7_in : ∀ w ∈ wsL_law_r7, w ∈ lw_tbl := fun w h => (goodIn_p wsL_law_r7 [290, 294, 298] (by decide +kernel) (by decide +kernel) w h).1
set_option maxRecDepth 100000 in
theorem wsL_law_r8_in : ∀ w ∈ wsL_law_r8, w ∈ lw_tbl := fun w h => (goodIn_p wsL_law_r8 [302, 790, 306, 310, 795] (by decide +kernel) (by decide +kernel) w h).1
set_option maxRecDepth 100000 in
theorem wsL_law_r9_in : ∀ w ∈ wsL_law_r9, w ∈ lw_tbl := fun w h => (goodIn_p wsL_law_r9 [314, 318, 322, 799, 326, 330] (by decide +kernel) (by decide +kernel) w h).1
set_option maxRecDepth 100000 in
theorem wsL_law_r10_in : ∀ w ∈ wsL_law_r10, w ∈ lw_tbl := fun w h => (goodIn_p wsL_law_r10 [803, 334, 338, 342, 807, 346] (by decide +kernel) (by decide +kernel) w h).1
set_option maxRecDepth 100000 in
theorem wsL_law_r11_in : ∀ w ∈ wsL_law_r11, w ∈ lw_tbl := fun w h => (goodIn_p wsL_law_r11 [350, 354, 358, 363, 389, 367] (by decide +kernel) (by decide +kernel) w h).1
set_option maxRecDepth 100000 in
theorem wsL_law_r12_in : ∀ w ∈ wsL_law_r12, w ∈ lw_tbl := fun w h => (goodIn_p wsL_law_r12 [371, 378, 375, 382, 386, 393] (by decide +kernel) (by decide +kernel) w h).1
set_option maxRecDepth 100000 in
theorem wsL_law_r13_in : ∀ w ∈ wsL_law_r13, w ∈ lw_tbl := fun w h => (goodIn_p wsL_law_r13 [399, 402, 408, 412, 416] (by decide +kernel) (by decide +kernel) w h).1
set_option maxRecDepth 100000 in
theorem wsL_law_r14_in : ∀ w ∈ wsL_law_r14, w ∈ lw_tbl := fun w h => (goodIn_p wsL_law_r14 [421, 425, 430, 434, 439, 443] (by decide +kernel) (by decide +kernel) w h).1
set_option maxRecDepth 100000 in
theorem wsL_law_r15_in : ∀ w ∈ wsL_law_r15, w ∈ lw_tbl := fun w h => (goodIn_p wsL_law_r15 [451, 455, 459, 466] (by decide +kernel) (by decide +kernel) w h).1
