set_option maxRecDepth 20000 in
theorem wsL_in_r1 : GoodIn lw_tbl wsL_law_r1 := goodIn_p _ [63, 66] (by decide +kernel) (by decide +kernel)
set_option maxRecDepth 20000 in
theorem wsL_in_r2 : GoodIn lw_tbl wsL_law_r2 := goodIn_p _ [71] (by decide +kernel) (by decide +kernel)
set_option maxRecDepth 20000 in
theorem wsL_in_r3 : GoodIn lw_tbl wsL_law_r3 := goodIn_p _ [77, 84] (by decide +kernel) (by decide +kernel)
set_option maxRecDepth 20000 in
theorem wsL_in_r4 : GoodIn lw_tbl wsL_law_r4 := goodIn_p _ [126, 171, 190, 208] (by decide +kernel) (by decide +kernel)
set_option maxRecDepth 20000 in
theorem wsL_in_r5 : GoodIn lw_tbl wsL_law_r5 := goodIn_p _ [229, 258, 685] (by decide +kernel) (by decide +kernel)
set_option maxRecDepth 20000 in
theorem wsL_in_r6 : GoodIn lw_tbl wsL_law_r6 := goodIn_p _ [305, 308] (by decide +kernel) (by decide +kernel)
set_option maxRecDepth 20000 in
theorem wsL_in_r7 : GoodIn lw_tbl wsL_law_r7 := goodIn_p _ [311, 757, 760, 764, 315] (by decide +kernel) (by decide +kernel)
set_option maxRecDepth 20000 in
theorem wsL_in_r8 : GoodIn lw_tbl wsL_law_r8 := goodIn_p _ [320, 769, 774, 324, 328] (by decide +kernel) (by decide +kernel)
set_option maxRecDepth 20000 in
theorem wsL_in_r9 : GoodIn lw_tbl wsL_law_r9 := goodIn_p _ [778, 782, 332, 788, 336] (by decide +kernel) (by decide +kernel)
set_option maxRecDepth 20000 in
theorem wsL_in_r10 : GoodIn lw_tbl wsL_law_r10 := goodIn_p _ [340, 343, 346, 350, 355, 359] (by decide +kernel) (by decide +kernel)
set_option maxRecDepth 20000 in
theorem wsL_in_r11 : GoodIn lw_tbl wsL_law_r11 := goodIn_p _ [927, 908, 912, 874, 915, 919, 363] (by decide +kernel) (by decide +kernel)
set_option maxRecDepth 20000 in
theorem wsL_in_r12 : GoodIn lw_tbl wsL_law_r12 := goodIn_p _ [367, 794, 372, 376, 380] (by decide +kernel) (by decide +kernel)
set_option maxRecDepth 20000 in
theorem wsL_in_r13 : GoodIn lw_tbl wsL_law_r13 := goodIn_p _ [384, 388, 392, 396, 400, 404] (by decide +kernel) (by decide +kernel)
set_option maxRecDepth 20000 in
theorem wsL_in_r14 : GoodIn lw_tbl wsL_law_r14 := goodIn_p _ [408, 414, 418, 424] (by decide +kernel) (by decide +kernel)
set_option maxRecDepth 20000 in
theorem wsL_in_r15 : GoodIn lw_tbl wsL_law_r15 := goodIn_p _ [799, 803, 807, 811, 815] (by decide +kernel) (by decide +kernel)
set_option maxRecDepth 20000 in
theorem wsL_in_r16 : GoodIn lw_tbl wsL_law_r16 := goodIn_p _ [821, 825, 829, 833, 837, 841] (by decide +kernel) (by decide +kernel)
set_option maxRecDepth 20000 in
theorem wsL_in_r17 : GoodIn lw_tbl wsL_law_r17 := goodIn_p _ [845, 850, 429, 433, 437] (by decide +kernel) (by decide +kernel)
set_option maxRecDepth 20000 in
theorem wsL_in_r18 : GoodIn lw_tbl wsL_law_r18 := goodIn_p _ [440, 444, 448, 453, 458] (by decide +kernel) (by decide +kernel)
set_option maxRecDepth 20000 in
theorem wsL_in_r19 : GoodIn lw_tbl wsL_law_r19 := goodIn_p _ [461, 464, 854, 857, 862, 866] (by decide +kernel) (by decide +kernel)
set_option maxRecDepth 20000 in
theorem wsL_in_r20 : GoodIn lw_tbl wsL_law_r20 := goodIn_p _ [870, 877, 468, 883, 473] (by decide +kernel) (by decide +kernel)
set_option maxRecDepth 20000 in
theorem wsL_in_r21 : GoodIn lw_tbl wsL_law_r21 := goodIn_p _ [888, 477, 481, 892, 896, 485] (by decide +kernel) (by decide +kernel)
set_option maxRecDepth 20000 in
theorem wsL_in_r22 : GoodIn lw_tbl wsL_law_r22 := goodIn_p _ [900, 489, 904, 493, 923, 497] (by decide +kernel) (by decide +kernel)
set_option maxRecDepth 20000 in
theorem wsL_in_r23 : GoodIn lw_tbl wsL_law_r23 := goodIn_p _ [501, 504, 931, 935, 939, 508] (by decide +kernel) (by decide +kernel)
set_option maxRecDepth 20000 in
theorem wsL_in_r24 : GoodIn lw_tbl wsL_law_r24 := goodIn_p _ [943, 512, 516, 520, 525] (by decide +kernel) (by decide +kernel)
set_option maxRecDepth 20000 in
theorem wsL_in_r25 : GoodIn lw_tbl wsL_law_r25 := goodIn_p _ [947, 952, 956, 960, 530, 534] (by decide +kernel) (by decide +kernel)
set_option maxRecDepth 20000 in
theorem wsL_in_r26 : GoodIn lw_tbl wsL_law_r26 := goodIn_p _ [539, 544, 549, 964, 968, 972] (by decide +kernel) (by decide +kernel)
set_option maxRecDepth 20000 in
theorem wsL_in_r27 : GoodIn lw_tbl wsL_law_r27 := goodIn_p _ [553, 556, 560, 976, 564] (by decide +kernel) (by decide +kernel)
set_option maxRecDepth 20000 in
theorem wsL_in_r28 : GoodIn lw_tbl wsL_law_r28 := goodIn_p _ [568, 981, 985, 573, 577, 580] (by decide +kernel) (by decide +kernel)
set_option maxRecDepth 20000 in
theorem wsL_in_r29 : GoodIn lw_tbl wsL_law_r29 := goodIn_p _ [989, 994, 585, 998, 589, 1002] (by decide +kernel) (by decide +kernel)
set_option maxRecDepth 20000 in
theorem wsL_in_r30 : GoodIn lw_tbl wsL_law_r30 := goodIn_p _ [593, 597, 603, 1006, 1009] (by decide +kernel) (by decide +kernel)
set_option maxRecDepth 20000 in
theorem wsL_in_r31 : GoodIn lw_tbl wsL_law_r31 := goodIn_p _ [1013, 608, 1017, 612, 1021] (by decide +kernel) (by decide +kernel)
set_option maxRecDepth 20000 in
theorem wsL_in_r32 : GoodIn lw_tbl wsL_law_r32 := goodIn_p _ [616, 620, 1025, 1028, 624, 628] (by decide +kernel) (by decide +kernel)
set_option maxRecDepth 20000 in
theorem wsL_in_r33 : GoodIn lw_tbl wsL_law_r33 := goodIn_p _ [634, 1033, 639, 1037, 643] (by decide +kernel) (by decide +kernel)
set_option maxRecDepth 20000 in
theorem wsL_in_r34 : GoodIn lw_tbl wsL_law_r34 := goodIn_p _ [1041, 647, 651, 654, 1045, 658] (by decide +kernel) (by decide +kernel)
set_option maxRecDepth 20000 in
theorem wsL_in_r35 : GoodIn lw_tbl wsL_law_r35 := goodIn_p _ [662, 665, 1049, 1052, 669, 1056, 673] (by decide +kernel) (by decide +kernel)
set_option maxRecDepth 20000 in
theorem wsL_in_r36 : GoodIn lw_tbl wsL_law_r36 := goodIn_p _ [677, 1060] (by decide +kernel) (by decide +kernel)
set_option maxRecDepth 20000 in
theorem wsL_in_X9 : GoodIn lw_tbl wsX90 := goodIn_p _ [] (by decide +kernel) (by decide +kernel)
set_option maxRecDepth 20000 in
theorem wsL_in_X10 : GoodIn lw_tbl wsX100 := goodIn_p _ [] (by decide +kernel) (by decide +kernel)
set_option maxRecDepth 20000 in
theorem wsL_in_X7 : GoodIn lw_tbl wsX70 := goodIn_p _ [] (by decide +kernel) (by decide +kernel)
set_option maxRecDepth 20000 in
theorem wsL_in_X6 : GoodIn lw_tbl wsX60 := goodIn_p _ [] (by decide +kernel) (by decide +kernel)
set_option maxRecDepth 20000 in
theorem wsL_in_X1 : GoodIn lw_tbl wsX10 := goodIn_p _ [] (by decide +kernel) (by decide +kernel)
set_option maxRecDepth 20000 in
theorem wsL_in_X2 : GoodIn lw_tbl wsX20 := goodIn_p _ [] (by decide +kernel) (by decide +kernel)
set_option maxRecDepth 20000 in
theorem wsL_in_X3 : GoodIn lw_tbl wsX30 := goodIn_p _ [] (by decide +kernel) (by decide +kernel)
set_option maxRecDepth 20000 in
theorem wsL_in_X5 : GoodIn lw_tbl wsX50 := goodIn_p _ [] (by decide +kernel) (by decide +kernel)
set_option maxRecDepth 20000 in
theorem wsL_in_X8 : GoodIn lw_tbl wsX80 := goodIn_p _ [] (by decide +kernel) (by decide +kernel)
set_option maxRecDepth 20000 in
theorem wsL_in_X4 : GoodIn lw_tbl wsX40 := goodIn_p _ [] (by decide +kernel) (by decide +kernel)
set_option maxRecDepth 20000 in
theorem wsL_in_X0 : GoodIn lw_tbl wsX00 := goodIn_p _ [] (by decide +kernel) (by decide +kernel)
theorem wsL_law_good : GoodIn lw_tbl wsL_law := (goodIn_app (goodIn_app (goodIn_app (goodIn_app (goodIn_app (goodIn_app (goodIn_app (goodIn_app (goodIn_app (goodIn_app (goodIn_app (goodIn_app (goodIn_app wsL_in_r1 (goodIn_app wsL_in_r2 (goodIn_app wsL_in_r3 (goodIn_app wsL_in_r4 (goodIn_app wsL_in_r5 (goodIn_app wsL_in_r6 (goodIn_app wsL_in_r7 (goodIn_app wsL_in_r8 (goodIn_app wsL_in_r9 (goodIn_app wsL_in_r10 (goodIn_app wsL_in_r11 (goodIn_app wsL_in_r12 (goodIn_app wsL_in_r13 (goodIn_app wsL_in_r14 (goodIn_app wsL_in_r15 (goodIn_app wsL_in_r16 (goodIn_app wsL_in_r17 (goodIn_app wsL_in_r18 (goodIn_app wsL_in_r19 (goodIn_app wsL_in_r20 (goodIn_app wsL_in_r21 (goodIn_app wsL_in_r22 (goodIn_app wsL_in_r23 (goodIn_app wsL_in_r24 (goodIn_app wsL_in_r25 (goodIn_app wsL_in_r26 (goodIn_app wsL_in_r27 (goodIn_app wsL_in_r28 (goodIn_app wsL_in_r29 (goodIn_app wsL_in_r30 (goodIn_app wsL_in_r31 (goodIn_app wsL_in_r32 (goodIn_app wsL_in_r33 (goodIn_app wsL_in_r34 (goodIn_app wsL_in_r35 wsL_in_r36))))))))))))))))))))))))))))))))))) wsL_in_X9) wsL_in_X10) wsL_in_X7) wsL_in_X6) wsL_in_X1) wsL_in_X2) wsL_in_X3) wsL_in_X5) wsL_in_X8) wsL_in_X4) wsL_in_X0) (fun _ h => absurd h List.not_mem_nil))
theorem wsL_law_in : ∀ w ∈ wsL_law, w ∈ lw_tbl := fun w h => (wsL_law_good w h).1
theorem inX0 : ∀ w ∈ wsX00, w ∈ lw_tbl := fun w h => wsL_law_in w (inlX0 w h)
theorem inX1 : ∀ w ∈ wsX10, w ∈ lw_tbl := fun w h => wsL_law_in w (inlX1 w h)
theorem inX2 : ∀ w ∈ wsX20, w ∈ lw_tbl := fun w h => wsL_law_in w (inlX2 w h)
theorem inX3 : ∀ w ∈ wsX30, w ∈ lw_tbl := fun w h => wsL_law_in w (inlX3 w h)
theorem inX4 : ∀ w ∈ wsX40, w ∈ lw_tbl := fun w h => wsL_law_in w (inlX4 w h)
theorem inX5 : ∀ w ∈ wsX50, w ∈ lw_tbl := fun w h => wsL_law_in w (inlX5 w h)
theorem inX6 : ∀ w ∈ wsX60, w ∈ lw_tbl := fun w h => wsL_law_in w (inlX6 w h)
theorem inX7 : ∀ w ∈ wsX70, w ∈ lw_tbl := fun w h => wsL_law_in w (inlX7 w h)
theorem inX8 : ∀ w ∈ wsX80, w ∈ lw_tbl := fun w h => wsL_law_in w (inlX8 w h)
theorem inX9 : ∀ w ∈ wsX90, w ∈ lw_tbl := fun w h => wsL_law_in w (inlX9 w h)
theorem inX10 : ∀ w ∈ wsX100, w ∈ lw_tbl := fun w h => wsL_law_in w (inlX10 w h)
theorem inJ9 : ∀ w ∈ wsJ90, w ∈ lw_tbl := by decide +kernel
theorem inJ10 : ∀ w ∈ wsJ100, w ∈ lw_tbl := by decide +kernel
theorem inJ7 : ∀ w ∈ wsJ70, w ∈ lw_tbl := by decide +kernel
