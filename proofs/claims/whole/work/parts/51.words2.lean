set_option maxRecDepth 100000 in
theorem wsL_law_r16_in : ∀ w ∈ wsL_law_r16, w ∈ lw_tbl := fun w h => (goodIn_p wsL_law_r16 [470, 474, 479, 483, 487, 491] (by decide +kernel) (by decide +kernel) w h).1
set_option maxRecDepth 100000 in
theorem wsL_law_r17_in : ∀ w ∈ wsL_law_r17, w ∈ lw_tbl := fun w h => (goodIn_p wsL_law_r17 [497, 501, 505, 510, 811] (by decide +kernel) (by decide +kernel) w h).1
set_option maxRecDepth 100000 in
theorem wsL_law_r18_in : ∀ w ∈ wsL_law_r18, w ∈ lw_tbl := fun w h => (goodIn_p wsL_law_r18 [815, 819, 822, 826, 830] (by decide +kernel) (by decide +kernel) w h).1
set_option maxRecDepth 100000 in
theorem wsL_law_r19_in : ∀ w ∈ wsL_law_r19, w ∈ lw_tbl := fun w h => (goodIn_p wsL_law_r19 [834, 838, 842, 846, 850, 514] (by decide +kernel) (by decide +kernel) w h).1
set_option maxRecDepth 100000 in
theorem wsL_law_r20_in : ∀ w ∈ wsL_law_r20, w ∈ lw_tbl := fun w h => (goodIn_p wsL_law_r20 [518, 522, 527, 531, 535] (by decide +kernel) (by decide +kernel) w h).1
set_option maxRecDepth 100000 in
theorem wsL_law_r21_in : ∀ w ∈ wsL_law_r21, w ∈ lw_tbl := fun w h => (goodIn_p wsL_law_r21 [854, 540, 544, 548, 552, 556] (by decide +kernel) (by decide +kernel) w h).1
set_option maxRecDepth 100000 in
theorem wsL_law_r22_in : ∀ w ∈ wsL_law_r22, w ∈ lw_tbl := fun w h => (goodIn_p wsL_law_r22 [858, 561, 565, 569, 862, 573] (by decide +kernel) (by decide +kernel) w h).1
set_option maxRecDepth 100000 in
theorem wsL_law_r23_in : ∀ w ∈ wsL_law_r23, w ∈ lw_tbl := fun w h => (goodIn_p wsL_law_r23 [577, 581, 585, 589, 593, 598] (by decide +kernel) (by decide +kernel) w h).1
set_option maxRecDepth 100000 in
theorem wsL_law_r24_in : ∀ w ∈ wsL_law_r24, w ∈ lw_tbl := fun w h => (goodIn_p wsL_law_r24 [602, 866, 870, 606, 610] (by decide +kernel) (by decide +kernel) w h).1
set_option maxRecDepth 100000 in
theorem wsL_law_r25_in : ∀ w ∈ wsL_law_r25, w ∈ lw_tbl := fun w h => (goodIn_p wsL_law_r25 [874, 615, 878, 619, 623, 628] (by decide +kernel) (by decide +kernel) w h).1
set_option maxRecDepth 100000 in
theorem wsL_law_r26_in : ∀ w ∈ wsL_law_r26, w ∈ lw_tbl := fun w h => (goodIn_p wsL_law_r26 [634, 638, 643, 647, 651] (by decide +kernel) (by decide +kernel) w h).1
set_option maxRecDepth 100000 in
theorem wsL_law_r27_in : ∀ w ∈ wsL_law_r27, w ∈ lw_tbl := fun w h => (goodIn_p wsL_law_r27 [658, 663, 882, 886] (by decide +kernel) (by decide +kernel) w h).1
set_option maxRecDepth 100000 in
theorem wsL_law_r28_in : ∀ w ∈ wsL_law_r28, w ∈ lw_tbl := fun w h => (goodIn_p wsL_law_r28 [890, 894, 898, 668, 902, 672] (by decide +kernel) (by decide +kernel) w h).1
set_option maxRecDepth 100000 in
theorem wsL_law_r29_in : ∀ w ∈ wsL_law_r29, w ∈ lw_tbl := fun w h => (goodIn_p wsL_law_r29 [676, 683, 906] (by decide +kernel) (by decide +kernel) w h).1
set_option maxRecDepth 100000 in
theorem in_wsX80 : ∀ w ∈ wsX80, w ∈ lw_tbl := by decide +kernel
set_option maxRecDepth 100000 in
theorem in_wsX90 : ∀ w ∈ wsX90, w ∈ lw_tbl := by decide +kernel
set_option maxRecDepth 100000 in
theorem in_wsX10 : ∀ w ∈ wsX10, w ∈ lw_tbl := by decide +kernel
set_option maxRecDepth 100000 in
theorem in_wsX50 : ∀ w ∈ wsX50, w ∈ lw_tbl := by decide +kernel
set_option maxRecDepth 100000 in
theorem in_wsX70 : ∀ w ∈ wsX70, w ∈ lw_tbl := by decide +kernel
set_option maxRecDepth 100000 in
theorem in_wsX30 : ∀ w ∈ wsX30, w ∈ lw_tbl := by decide +kernel
set_option maxRecDepth 100000 in
theorem in_wsX20 : ∀ w ∈ wsX20, w ∈ lw_tbl := by decide +kernel
set_option maxRecDepth 100000 in
theorem in_wsX60 : ∀ w ∈ wsX60, w ∈ lw_tbl := by decide +kernel
set_option maxRecDepth 100000 in
theorem in_wsX00 : ∀ w ∈ wsX00, w ∈ lw_tbl := by decide +kernel
set_option maxRecDepth 100000 in
theorem in_wsX40 : ∀ w ∈ wsX40, w ∈ lw_tbl := by decide +kernel
theorem wsL_in : ∀ w ∈ wsL_law, w ∈ lw_tbl := (fun w h => (List.mem_append.mp h).elim ((fun w h => (List.mem_append.mp h).elim ((fun w h => (List.mem_append.mp h).elim ((fun w h => (List.mem_append.mp h).elim ((fun w h => (List.mem_append.mp h).elim ((fun w h => (List.mem_append.mp h).elim ((fun w h => (List.mem_append.mp h).elim ((fun w h => (List.mem_append.mp h).elim ((fun w h => (List.mem_append.mp h).elim ((fun w h => (List.mem_append.mp h).elim ((fun w h => (List.mem_append.mp h).elim ((fun w h => (List.mem_append.mp h).elim (wsL_law_r1_in w) ((fun w h => (List.mem_append.mp h).elim (wsL_law_r2_in w) ((fun w h => (List.mem_append.mp h).elim (wsL_law_r3_in w) ((fun w h => (List.mem_append.mp h).elim (wsL_law_r4_in w) ((fun w h => (List.mem_append.mp h).elim (wsL_law_r5_in w) ((fun w h => (List.mem_append.mp h).elim (wsL_law_r6_in w) ((fun w h => (List.mem_append.mp h).elim (wsL_law_r7_in w) ((fun w h => (List.mem_append.mp h).elim (wsL_law_r8_in w) ((fun w h => (List.mem_append.mp h).elim (wsL_law_r9_in w) ((fun w h => (List.mem_append.mp h).elim (wsL_law_r10_in w) ((fun w h => (List.mem_append.mp h).elim (wsL_law_r11_in w) ((fun w h => (List.mem_append.mp h).elim (wsL_law_r12_in w) ((fun w h => (List.mem_append.mp h).elim (wsL_law_r13_in w) ((fun w h => (List.mem_append.mp h).elim (wsL_law_r14_in w) ((fun w h => (List.mem_append.mp h).elim (wsL_law_r15_in w) ((fun w h => (List.mem_append.mp h).elim (wsL_law_r16_in w) ((fun w h => (List.mem_append.mp h).elim (wsL_law_r17_in w) ((fun w h => (List.mem_append.mp h).elim (wsL_law_r18_in w) ((fun w h => (List.mem_append.mp h).elim (wsL_law_r19_in w) ((fun w h => (List.mem_append.mp h).elim (wsL_law_r20_in w) ((fun w h => (List.mem_append.mp h).elim (wsL_law_r21_in w) ((fun w h => (List.mem_append.mp h).elim (wsL_law_r22_in w) ((fun w h => (List.mem_append.mp h).elim (wsL_law_r23_in w) ((fun w h => (List.mem_append.mp h).elim (wsL_law_r24_in w) ((fun w h => (List.mem_append.mp h).elim (wsL_law_r25_in w) ((fun w h => (List.mem_append.mp h).elim (wsL_law_r26_in w) ((fun w h => (List.mem_append.mp h).elim (wsL_law_r27_in w) ((fun w h => (List.mem_append.mp h).elim (wsL_law_r28_in w) (wsL_law_r29_in w)) w)) w)) w)) w)) w)) w)) w)) w)) w)) w)) w)) w)) w)) w)) w)) w)) w)) w)) w)) w)) w)) w)) w)) w)) w)) w)) w)) w) (in_wsX80 w)) w) (in_wsX90 w)) w) (in_wsX10 w)) w) (in_wsX50 w)) w) (in_wsX70 w)) w) (in_wsX30 w)) w) (in_wsX20 w)) w) (in_wsX60 w)) w) (in_wsX00 w)) w) (in_wsX40 w)) w) ((fun w h => absurd h List.not_mem_nil) w))
theorem jNest_in : ∀ w ∈ jNest, w ∈ lw_tbl := by decide +kernel
