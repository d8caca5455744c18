theorem dX10_unfolds_69 : decode cX10_unfolds 69 = .ok (.aload_n 0, 1) := by decide +kernel
theorem dX10_unfolds_70 : decode cX10_unfolds 70 = .ok (.getfield 39, 3) := by decide +kernel
theorem dX10_unfolds_73 : decode cX10_unfolds 73 = .ok (.iload_n 2, 1) := by decide +kernel
theorem dX10_unfolds_74 : decode cX10_unfolds 74 = .ok (.iaload, 1) := by decide +kernel
theorem dX10_unfolds_75 : decode cX10_unfolds 75 = .ok (.aload_n 0, 1) := by decide +kernel
theorem dX10_unfolds_76 : decode cX10_unfolds 76 = .ok (.iload_n 1, 1) := by decide +kernel
theorem dX10_unfolds_77 : decode cX10_unfolds 77 = .ok (.iload_n 3, 1) := by decide +kernel
theorem dX10_unfolds_78 : decode cX10_unfolds 78 = .ok (.invokevirtual 155, 3) := by decide +kernel
theorem dX10_unfolds_81 : decode cX10_unfolds 81 = .ok (.imul, 1) := by decide +kernel
theorem dX10_unfolds_82 : decode cX10_unfolds 82 = .ok (.isub, 1) := by decide +kernel
theorem dX10_unfolds_83 : decode cX10_unfolds 83 = .ok (.iastore, 1) := by decide +kernel
theorem dX10_unfolds_84 : decode cX10_unfolds 84 = .ok (.iinc 3 1, 3) := by decide +kernel
theorem dX10_unfolds_87 : decode cX10_unfolds 87 = .ok (.goto (-32), 3) := by decide +kernel
theorem dX10_unfolds_90 : decode cX10_unfolds 90 = .ok (.iinc 2 1, 3) := by decide +kernel
theorem dX10_unfolds_93 : decode cX10_unfolds 93 = .ok (.goto (-87), 3) := by decide +kernel
theorem dX10_unfolds_96 : decode cX10_unfolds 96 = .ok (.aload_n 0, 1) := by decide +kernel
theorem dX10_unfolds_97 : decode cX10_unfolds 97 = .ok (.bipush 8, 2) := by decide +kernel
theorem dX10_unfolds_99 : decode cX10_unfolds 99 = .ok (.invokevirtual 200, 3) := by decide +kernel
theorem dX10_unfolds_102 : decode cX10_unfolds 102 = .ok (.ireturn, 1) := by decide +kernel
set_option maxRecDepth 20000 in
theorem ggX10_flaw_X10_isBasin : GoodIn wsX10_flaw wsX10_isBasin := goodIn_r _ [5, 6, 7, 8, 4, 9, 31, 32, 33, 34, 35, 36, 37, 38, 39, 40, 41, 42, 43, 44, 45, 46, 47, 48, 49, 50, 51, 52] (by decide +kernel) (by decide +kernel)
set_option maxRecDepth 20000 in
theorem gX10_flaw_X10_isBasin : GoodIn wsX10_flaw (wsV RX10 81 RX10 yX10_isBasin wsX10_isBasin) := goodIn_app (goodIn_of _ (by decide +kernel)) ggX10_flaw_X10_isBasin
set_option maxRecDepth 20000 in
theorem ggX10_flaw_X10_unfolds : GoodIn wsX10_flaw wsX10_unfolds := goodIn_r _ [13, 14, 15, 16, 17, 18, 4, 19, 6, 20, 21, 22, 23, 24, 25, 26, 27, 28, 29, 30, 31, 32, 33, 34, 35, 36, 37, 38, 39, 40, 41, 42, 43, 44, 45, 46, 47, 48, 49, 50, 51, 52] (by decide +kernel) (by decide +kernel)
set_option maxRecDepth 20000 in
theorem gX10_flaw_X10_unfolds : GoodIn wsX10_flaw (wsV RX10 203 RX10 yX10_unfolds wsX10_unfolds) := goodIn_app (goodIn_of _ (by decide +kernel)) ggX10_flaw_X10_unfolds
theorem dX10_flaw_0 : decode cX10_flaw 0 = .ok (.aload_n 0, 1) := by decide +kernel
theorem dX10_flaw_1 : decode cX10_flaw 1 = .ok (.iload_n 1, 1) := by decide +kernel
theorem dX10_flaw_2 : decode cX10_flaw 2 = .ok (.invokevirtual 81, 3) := by decide +kernel
theorem dX10_flaw_5 : decode cX10_flaw 5 = .ok (.ifCond .eq 11, 3) := by decide +kernel
theorem dX10_flaw_8 : decode cX10_flaw 8 = .ok (.aload_n 0, 1) := by decide +kernel
theorem dX10_flaw_9 : decode cX10_flaw 9 = .ok (.iload_n 1, 1) := by decide +kernel
theorem dX10_flaw_10 : decode cX10_flaw 10 = .ok (.invokevirtual 203, 3) := by decide +kernel
theorem dX10_flaw_13 : decode cX10_flaw 13 = .ok (.goto 4, 3) := by decide +kernel
theorem dX10_flaw_16 : decode cX10_flaw 16 = .ok (.iconst (-1), 1) := by decide +kernel
theorem dX10_flaw_17 : decode cX10_flaw 17 = .ok (.ireturn, 1) := by decide +kernel
set_option maxRecDepth 20000 in
theorem ggX10_unfold_X10_isBasin : GoodIn wsX10_unfold wsX10_isBasin := goodIn_r _ [6, 7, 8, 9, 5, 10, 35, 36, 37, 38, 39, 40, 41, 42, 43, 44, 45, 46, 47, 48, 49, 50, 51, 52, 53, 54, 55, 56] (by decide +kernel) (by decide +kernel)
set_option maxRecDepth 20000 in
theorem gX10_unfold_X10_isBasin : GoodIn wsX10_unfold (wsV RX10 81 RX10 yX10_isBasin wsX10_isBasin) := goodIn_app (goodIn_of _ (by decide +kernel)) ggX10_unfold_X10_isBasin
set_option maxRecDepth 20000 in
theorem ggX10_unfold_X10_isRain : GoodIn wsX10_unfold wsX10_isRain := goodIn_r _ [13, 14, 8, 9, 5, 10] (by decide +kernel) (by decide +kernel)
set_option maxRecDepth 20000 in
theorem gX10_unfold_X10_isRain : GoodIn wsX10_unfold (va_wsS RX10 69 yX10_isRain wsX10_isRain) := goodIn_app (goodIn_of _ (by decide +kernel)) ggX10_unfold_X10_isRain
set_option maxRecDepth 20000 in
theorem ggX10_unfold_X10_unfolds : GoodIn wsX10_unfold wsX10_unfolds := goodIn_r _ [18, 19, 1, 20, 21, 22, 5, 23, 7, 24, 25, 26, 27, 28, 29, 30, 31, 32, 33, 34, 35, 36, 37, 38, 39, 40, 41, 42, 43, 44, 45, 46, 47, 48, 49, 50, 51, 52, 53, 54, 55, 56] (by decide +kernel) (by decide +kernel)
set_option maxRecDepth 20000 in
theorem gX10_unfold_X10_unfolds : GoodIn wsX10_unfold (wsV RX10 203 RX10 yX10_unfolds wsX10_unfolds) := goodIn_app (goodIn_of _ (by decide +kernel)) ggX10_unfold_X10_unfolds
theorem dX10_unfold_0 : decode cX10_unfold 0 = .ok (.aload_n 0, 1) := by decide +kernel
theorem dX10_unfold_1 : decode cX10_unfold 1 = .ok (.iload_n 1, 1) := by decide +kernel
theorem dX10_unfold_2 : decode cX10_unfold 2 = .ok (.invokevirtual 81, 3) := by decide +kernel
theorem dX10_unfold_5 : decode cX10_unfold 5 = .ok (.ifCond .eq 10, 3) := by decide +kernel
theorem dX10_unfold_8 : decode cX10_unfold 8 = .ok (.iload_n 2, 1) := by decide +kernel
theorem dX10_unfold_9 : decode cX10_unfold 9 = .ok (.invokestatic 69, 3) := by decide +kernel
theorem dX10_unfold_12 : decode cX10_unfold 12 = .ok (.ifCond .ne 5, 3) := by decide +kernel
theorem dX10_unfold_15 : decode cX10_unfold 15 = .ok (.iconst (-1), 1) := by decide +kernel
theorem dX10_unfold_16 : decode cX10_unfold 16 = .ok (.ireturn, 1) := by decide +kernel
theorem dX10_unfold_17 : decode cX10_unfold 17 = .ok (.aload_n 0, 1) := by decide +kernel
theorem dX10_unfold_18 : decode cX10_unfold 18 = .ok (.iload_n 1, 1) := by decide +kernel
theorem dX10_unfold_19 : decode cX10_unfold 19 = .ok (.invokevirtual 203, 3) := by decide +kernel
theorem dX10_unfold_22 : decode cX10_unfold 22 = .ok (.bipush (-5), 2) := by decide +kernel
theorem dX10_unfold_24 : decode cX10_unfold 24 = .ok (.if_icmp .ne 12, 3) := by decide +kernel
theorem dX10_unfold_27 : decode cX10_unfold 27 = .ok (.aload_n 0, 1) := by decide +kernel
theorem dX10_unfold_28 : decode cX10_unfold 28 = .ok (.getfield 39, 3) := by decide +kernel
theorem dX10_unfold_31 : decode cX10_unfold 31 = .ok (.iload_n 2, 1) := by decide +kernel
theorem dX10_unfold_32 : decode cX10_unfold 32 = .ok (.iaload, 1) := by decide +kernel
theorem dX10_unfold_33 : decode cX10_unfold 33 = .ok (.goto 5, 3) := by decide +kernel
theorem dX10_unfold_36 : decode cX10_unfold 36 = .ok (.bipush (-3), 2) := by decide +kernel
theorem dX10_unfold_38 : decode cX10_unfold 38 = .ok (.ireturn, 1) := by decide +kernel
set_option maxRecDepth 20000 in
theorem ggX10_take_X10_isBasin : GoodIn wsX10_take wsX10_isBasin := goodIn_r _ [7, 1, 8, 9, 6, 10, 31, 32, 33, 34, 35, 36, 37, 38, 39, 40, 41, 42, 43, 44, 45, 46, 47, 48, 49, 50, 51, 52] (by decide +kernel) (by decide +kernel)
set_option maxRecDepth 20000 in
theorem gX10_take_X10_isBasin : GoodIn wsX10_take (wsV RX10 81 RX10 yX10_isBasin wsX10_isBasin) := goodIn_app (goodIn_of _ (by decide +kernel)) ggX10_take_X10_isBasin
set_option maxRecDepth 20000 in
theorem ggX10_take_X10_unfolds : GoodIn wsX10_take wsX10_unfolds := goodIn_r _ [14, 15, 2, 16, 17, 18, 6, 19, 1, 20, 21, 22, 23, 24, 25, 26, 27, 28, 29, 30, 31, 32, 33, 34, 35, 36, 37, 38, 39, 40, 41, 42, 43, 44, 45, 46, 47, 48, 49, 50, 51, 52] (by decide +kernel) (by decide +kernel)
set_option maxRecDepth 20000 in
theorem gX10_take_X10_unfolds : GoodIn wsX10_take (wsV RX10 203 RX10 yX10_unfolds wsX10_unfolds) := goodIn_app (goodIn_of _ (by decide +kernel)) ggX10_take_X10_unfolds
theorem dX10_take_0 : decode cX10_take 0 = .ok (.aload_n 0, 1) := by decide +kernel
theorem dX10_take_1 : decode cX10_take 1 = .ok (.iload_n 1, 1) := by decide +kernel
theorem dX10_take_2 : decode cX10_take 2 = .ok (.invokevirtual 81, 3) := by decide +kernel
theorem dX10_take_5 : decode cX10_take 5 = .ok (.ifCond .ne 5, 3) := by decide +kernel
theorem dX10_take_8 : decode cX10_take 8 = .ok (.iconst (-1), 1) := by decide +kernel
theorem dX10_take_9 : decode cX10_take 9 = .ok (.ireturn, 1) := by decide +kernel
theorem dX10_take_10 : decode cX10_take 10 = .ok (.aload_n 0, 1) := by decide +kernel
theorem dX10_take_11 : decode cX10_take 11 = .ok (.iload_n 1, 1) := by decide +kernel
theorem dX10_take_12 : decode cX10_take 12 = .ok (.invokevirtual 203, 3) := by decide +kernel
theorem dX10_take_15 : decode cX10_take 15 = .ok (.bipush (-5), 2) := by decide +kernel
theorem dX10_take_17 : decode cX10_take 17 = .ok (.if_icmp .eq 6, 3) := by decide +kernel
theorem dX10_take_20 : decode cX10_take 20 = .ok (.bipush (-3), 2) := by decide +kernel
theorem dX10_take_22 : decode cX10_take 22 = .ok (.ireturn, 1) := by decide +kernel
theorem dX10_take_23 : decode cX10_take 23 = .ok (.iconst 0, 1) := by decide +kernel
theorem dX10_take_24 : decode cX10_take 24 = .ok (.istore_n 2, 1) := by decide +kernel
theorem dX10_take_25 : decode cX10_take 25 = .ok (.iconst 0, 1) := by decide +kernel
theorem dX10_take_26 : decode cX10_take 26 = .ok (.istore_n 3, 1) := by decide +kernel
theorem dX10_take_27 : decode cX10_take 27 = .ok (.iload_n 3, 1) := by decide +kernel
theorem dX10_take_28 : decode cX10_take 28 = .ok (.bipush 8, 2) := by decide +kernel
theorem dX10_take_30 : decode cX10_take 30 = .ok (.if_icmp .ge 30, 3) := by decide +kernel
theorem dX10_take_33 : decode cX10_take 33 = .ok (.aload_n 0, 1) := by decide +kernel
theorem dX10_take_34 : decode cX10_take 34 = .ok (.getfield 11, 3) := by decide +kernel
theorem dX10_take_37 : decode cX10_take 37 = .ok (.iload_n 3, 1) := by decide +kernel
theorem dX10_take_38 : decode cX10_take 38 = .ok (.aload_n 0, 1) := by decide +kernel
theorem dX10_take_39 : decode cX10_take 39 = .ok (.getfield 39, 3) := by decide +kernel
theorem dX10_take_42 : decode cX10_take 42 = .ok (.iload_n 3, 1) := by decide +kernel
theorem dX10_take_43 : decode cX10_take 43 = .ok (.iaload, 1) := by decide +kernel
theorem dX10_take_44 : decode cX10_take 44 = .ok (.iastore, 1) := by decide +kernel
theorem dX10_take_45 : decode cX10_take 45 = .ok (.iload_n 2, 1) := by decide +kernel
theorem dX10_take_46 : decode cX10_take 46 = .ok (.aload_n 0, 1) := by decide +kernel
theorem dX10_take_47 : decode cX10_take 47 = .ok (.getfield 39, 3) := by decide +kernel
theorem dX10_take_50 : decode cX10_take 50 = .ok (.iload_n 3, 1) := by decide +kernel
theorem dX10_take_51 : decode cX10_take 51 = .ok (.iaload, 1) := by decide +kernel
theorem dX10_take_52 : decode cX10_take 52 = .ok (.iadd, 1) := by decide +kernel
theorem dX10_take_53 : decode cX10_take 53 = .ok (.istore_n 2, 1) := by decide +kernel
theorem dX10_take_54 : decode cX10_take 54 = .ok (.iinc 3 1, 3) := by decide +kernel
theorem dX10_take_57 : decode cX10_take 57 = .ok (.goto (-30), 3) := by decide +kernel
theorem dX10_take_60 : decode cX10_take 60 = .ok (.iload_n 2, 1) := by decide +kernel
theorem dX10_take_61 : decode cX10_take 61 = .ok (.ireturn, 1) := by decide +kernel
theorem dX10_firstRain_0 : decode cX10_firstRain 0 = .ok (.iconst 0, 1) := by decide +kernel
theorem dX10_firstRain_1 : decode cX10_firstRain 1 = .ok (.istore_n 1, 1) := by decide +kernel
theorem dX10_firstRain_2 : decode cX10_firstRain 2 = .ok (.iload_n 1, 1) := by decide +kernel
theorem dX10_firstRain_3 : decode cX10_firstRain 3 = .ok (.bipush 8, 2) := by decide +kernel
theorem dX10_firstRain_5 : decode cX10_firstRain 5 = .ok (.if_icmp .ge 20, 3) := by decide +kernel
theorem dX10_firstRain_8 : decode cX10_firstRain 8 = .ok (.aload_n 0, 1) := by decide +kernel
theorem dX10_firstRain_9 : decode cX10_firstRain 9 = .ok (.getfield 11, 3) := by decide +kernel
theorem dX10_firstRain_12 : decode cX10_firstRain 12 = .ok (.iload_n 1, 1) := by decide +kernel
theorem dX10_firstRain_13 : decode cX10_firstRain 13 = .ok (.iaload, 1) := by decide +kernel
theorem dX10_firstRain_14 : decode cX10_firstRain 14 = .ok (.ifCond .le 5, 3) := by decide +kernel
theorem dX10_firstRain_17 : decode cX10_firstRain 17 = .ok (.iload_n 1, 1) := by decide +kernel
theorem dX10_firstRain_18 : decode cX10_firstRain 18 = .ok (.ireturn, 1) := by decide +kernel
theorem dX10_firstRain_19 : decode cX10_firstRain 19 = .ok (.iinc 1 1, 3) := by decide +kernel
theorem dX10_firstRain_22 : decode cX10_firstRain 22 = .ok (.goto (-20), 3) := by decide +kernel
theorem dX10_firstRain_25 : decode cX10_firstRain 25 = .ok (.iconst (-1), 1) := by decide +kernel
theorem dX10_firstRain_26 : decode cX10_firstRain 26 = .ok (.ireturn, 1) := by decide +kernel
set_option maxRecDepth 20000 in
theorem ggX10_findsBack_X10_firstRain : GoodIn wsX10_findsBack wsX10_firstRain := goodIn_r _ [8, 2, 20, 21, 22, 23, 24, 25, 26, 27, 28, 29, 30, 31, 32, 33, 34, 35, 36, 37, 38, 39, 40, 41] (by decide +kernel) (by decide +kernel)
set_option maxRecDepth 20000 in
theorem gX10_findsBack_X10_firstRain : GoodIn wsX10_findsBack (wsV RX10 206 RX10 yX10_firstRain wsX10_firstRain) := goodIn_app (goodIn_of _ (by decide +kernel)) ggX10_findsBack_X10_firstRain
set_option maxRecDepth 20000 in
theorem ggX10_findsBack_X10_begins : GoodIn wsX10_findsBack wsX10_begins := goodIn_r _ [12, 1, 2, 20, 21, 22, 23, 24, 25, 26, 27, 28, 29, 30, 31, 32, 33, 34, 35, 36, 37, 38, 39, 40, 41] (by decide +kernel) (by decide +kernel)
set_option maxRecDepth 20000 in
theorem gX10_findsBack_X10_begins : GoodIn wsX10_findsBack (wsV RX10 193 RX10 yX10_begins wsX10_begins) := goodIn_app (goodIn_of _ (by decide +kernel)) ggX10_findsBack_X10_begins
set_option maxRecDepth 20000 in
theorem ggX10_findsBack_X10_isWhole : GoodIn wsX10_findsBack wsX10_isWhole := goodIn_r _ [15] (by decide +kernel) (by decide +kernel)
set_option maxRecDepth 20000 in
theorem gX10_findsBack_X10_isWhole : GoodIn wsX10_findsBack (va_wsS RX10 196 yX10_isWhole wsX10_isWhole) := goodIn_app (goodIn_of _ (by decide +kernel)) ggX10_findsBack_X10_isWhole
set_option maxRecDepth 20000 in
theorem ggX10_findsBack_X10_rest : GoodIn wsX10_findsBack wsX10_rest := goodIn_r _ [19, 1, 20, 21, 22, 23, 24, 25, 26, 27, 28, 29, 30, 31, 32, 33, 34, 35, 36, 37, 38, 39, 40, 41] (by decide +kernel) (by decide +kernel)
set_option maxRecDepth 20000 in
theorem gX10_findsBack_X10_rest : GoodIn wsX10_findsBack (wsV RX10 200 RX10 yX10_rest wsX10_rest) := goodIn_app (goodIn_of _ (by decide +kernel)) ggX10_findsBack_X10_rest
theorem dX10_findsBack_0 : decode cX10_findsBack 0 = .ok (.aload_n 0, 1) := by decide +kernel
theorem dX10_findsBack_1 : decode cX10_findsBack 1 = .ok (.invokevirtual 206, 3) := by decide +kernel
theorem dX10_findsBack_4 : decode cX10_findsBack 4 = .ok (.istore_n 1, 1) := by decide +kernel
theorem dX10_findsBack_5 : decode cX10_findsBack 5 = .ok (.iload_n 1, 1) := by decide +kernel
theorem dX10_findsBack_6 : decode cX10_findsBack 6 = .ok (.iconst (-1), 1) := by decide +kernel
theorem dX10_findsBack_7 : decode cX10_findsBack 7 = .ok (.if_icmp .ne 6, 3) := by decide +kernel
theorem dX10_findsBack_10 : decode cX10_findsBack 10 = .ok (.bipush (-5), 2) := by decide +kernel
theorem dX10_findsBack_12 : decode cX10_findsBack 12 = .ok (.ireturn, 1) := by decide +kernel
theorem dX10_findsBack_13 : decode cX10_findsBack 13 = .ok (.aload_n 0, 1) := by decide +kernel
theorem dX10_findsBack_14 : decode cX10_findsBack 14 = .ok (.invokevirtual 193, 3) := by decide +kernel
theorem dX10_findsBack_17 : decode cX10_findsBack 17 = .ok (.iconst 0, 1) := by decide +kernel
theorem dX10_findsBack_18 : decode cX10_findsBack 18 = .ok (.istore_n 2, 1) := by decide +kernel
theorem dX10_findsBack_19 : decode cX10_findsBack 19 = .ok (.iload_n 2, 1) := by decide +kernel
theorem dX10_findsBack_20 : decode cX10_findsBack 20 = .ok (.iconst 5, 1) := by decide +kernel
theorem dX10_findsBack_21 : decode cX10_findsBack 21 = .ok (.if_icmp .ge 92, 3) := by decide +kernel
theorem dX10_findsBack_24 : decode cX10_findsBack 24 = .ok (.aload_n 0, 1) := by decide +kernel
theorem dX10_findsBack_25 : decode cX10_findsBack 25 = .ok (.getfield 36, 3) := by decide +kernel
theorem dX10_findsBack_28 : decode cX10_findsBack 28 = .ok (.iload_n 1, 1) := by decide +kernel
theorem dX10_findsBack_29 : decode cX10_findsBack 29 = .ok (.iload_n 2, 1) := by decide +kernel
theorem dX10_findsBack_30 : decode cX10_findsBack 30 = .ok (.iadd, 1) := by decide +kernel
theorem dX10_findsBack_31 : decode cX10_findsBack 31 = .ok (.iaload, 1) := by decide +kernel
theorem dX10_findsBack_32 : decode cX10_findsBack 32 = .ok (.aload_n 0, 1) := by decide +kernel
theorem dX10_findsBack_33 : decode cX10_findsBack 33 = .ok (.getfield 11, 3) := by decide +kernel
theorem dX10_findsBack_36 : decode cX10_findsBack 36 = .ok (.iload_n 1, 1) := by decide +kernel
theorem dX10_findsBack_37 : decode cX10_findsBack 37 = .ok (.iaload, 1) := by decide +kernel
theorem dX10_findsBack_38 : decode cX10_findsBack 38 = .ok (.bipush 9, 2) := by decide +kernel
theorem dX10_findsBack_40 : decode cX10_findsBack 40 = .ok (.invokestatic 196, 3) := by decide +kernel
theorem dX10_findsBack_43 : decode cX10_findsBack 43 = .ok (.ifCond .ne 5, 3) := by decide +kernel
theorem dX10_findsBack_46 : decode cX10_findsBack 46 = .ok (.iload_n 2, 1) := by decide +kernel
theorem dX10_findsBack_47 : decode cX10_findsBack 47 = .ok (.ireturn, 1) := by decide +kernel
theorem dX10_findsBack_48 : decode cX10_findsBack 48 = .ok (.aload_n 0, 1) := by decide +kernel
theorem dX10_findsBack_49 : decode cX10_findsBack 49 = .ok (.getfield 42, 3) := by decide +kernel
theorem dX10_findsBack_52 : decode cX10_findsBack 52 = .ok (.iload_n 2, 1) := by decide +kernel
theorem dX10_findsBack_53 : decode cX10_findsBack 53 = .ok (.aload_n 0, 1) := by decide +kernel
theorem dX10_findsBack_54 : decode cX10_findsBack 54 = .ok (.getfield 36, 3) := by decide +kernel
theorem dX10_findsBack_57 : decode cX10_findsBack 57 = .ok (.iload_n 1, 1) := by decide +kernel
theorem dX10_findsBack_58 : decode cX10_findsBack 58 = .ok (.iload_n 2, 1) := by decide +kernel
theorem dX10_findsBack_59 : decode cX10_findsBack 59 = .ok (.iadd, 1) := by decide +kernel
theorem dX10_findsBack_60 : decode cX10_findsBack 60 = .ok (.iaload, 1) := by decide +kernel
theorem dX10_findsBack_61 : decode cX10_findsBack 61 = .ok (.aload_n 0, 1) := by decide +kernel
theorem dX10_findsBack_62 : decode cX10_findsBack 62 = .ok (.getfield 11, 3) := by decide +kernel
theorem dX10_findsBack_65 : decode cX10_findsBack 65 = .ok (.iload_n 1, 1) := by decide +kernel
theorem dX10_findsBack_66 : decode cX10_findsBack 66 = .ok (.iaload, 1) := by decide +kernel
theorem dX10_findsBack_67 : decode cX10_findsBack 67 = .ok (.idiv, 1) := by decide +kernel
theorem dX10_findsBack_68 : decode cX10_findsBack 68 = .ok (.iastore, 1) := by decide +kernel
theorem dX10_findsBack_69 : decode cX10_findsBack 69 = .ok (.iconst 0, 1) := by decide +kernel
theorem dX10_findsBack_70 : decode cX10_findsBack 70 = .ok (.istore_n 3, 1) := by decide +kernel
theorem dX10_findsBack_71 : decode cX10_findsBack 71 = .ok (.iload_n 3, 1) := by decide +kernel
theorem dX10_findsBack_72 : decode cX10_findsBack 72 = .ok (.bipush 8, 2) := by decide +kernel
theorem dX10_findsBack_74 : decode cX10_findsBack 74 = .ok (.if_icmp .ge 33, 3) := by decide +kernel
theorem dX10_findsBack_77 : decode cX10_findsBack 77 = .ok (.aload_n 0, 1) := by decide +kernel
theorem dX10_findsBack_78 : decode cX10_findsBack 78 = .ok (.getfield 36, 3) := by decide +kernel
theorem dX10_findsBack_81 : decode cX10_findsBack 81 = .ok (.iload_n 3, 1) := by decide +kernel
theorem dX10_findsBack_82 : decode cX10_findsBack 82 = .ok (.iload_n 2, 1) := by decide +kernel
theorem dX10_findsBack_83 : decode cX10_findsBack 83 = .ok (.iadd, 1) := by decide +kernel
theorem dX10_findsBack_84 : decode cX10_findsBack 84 = .ok (.dup2, 1) := by decide +kernel
theorem dX10_findsBack_85 : decode cX10_findsBack 85 = .ok (.iaload, 1) := by decide +kernel
theorem dX10_findsBack_86 : decode cX10_findsBack 86 = .ok (.aload_n 0, 1) := by decide +kernel
theorem dX10_findsBack_87 : decode cX10_findsBack 87 = .ok (.getfield 42, 3) := by decide +kernel
theorem dX10_findsBack_90 : decode cX10_findsBack 90 = .ok (.iload_n 2, 1) := by decide +kernel
theorem dX10_findsBack_91 : decode cX10_findsBack 91 = .ok (.iaload, 1) := by decide +kernel
theorem dX10_findsBack_92 : decode cX10_findsBack 92 = .ok (.aload_n 0, 1) := by decide +kernel
theorem dX10_findsBack_93 : decode cX10_findsBack 93 = .ok (.getfield 11, 3) := by decide +kernel
theorem dX10_findsBack_96 : decode cX10_findsBack 96 = .ok (.iload_n 3, 1) := by decide +kernel
theorem dX10_findsBack_97 : decode cX10_findsBack 97 = .ok (.iaload, 1) := by decide +kernel
theorem dX10_findsBack_98 : decode cX10_findsBack 98 = .ok (.imul, 1) := by decide +kernel
theorem dX10_findsBack_99 : decode cX10_findsBack 99 = .ok (.isub, 1) := by decide +kernel
theorem dX10_findsBack_100 : decode cX10_findsBack 100 = .ok (.iastore, 1) := by decide +kernel
theorem dX10_findsBack_101 : decode cX10_findsBack 101 = .ok (.iinc 3 1, 3) := by decide +kernel
theorem dX10_findsBack_104 : decode cX10_findsBack 104 = .ok (.goto (-33), 3) := by decide +kernel
theorem dX10_findsBack_107 : decode cX10_findsBack 107 = .ok (.iinc 2 1, 3) := by decide +kernel
theorem dX10_findsBack_110 : decode cX10_findsBack 110 = .ok (.goto (-91), 3) := by decide +kernel
theorem dX10_findsBack_113 : decode cX10_findsBack 113 = .ok (.aload_n 0, 1) := by decide +kernel
theorem dX10_findsBack_114 : decode cX10_findsBack 114 = .ok (.iconst 0, 1) := by decide +kernel
theorem dX10_findsBack_115 : decode cX10_findsBack 115 = .ok (.invokevirtual 200, 3) := by decide +kernel
theorem dX10_findsBack_118 : decode cX10_findsBack 118 = .ok (.istore_n 2, 1) := by decide +kernel
theorem dX10_findsBack_119 : decode cX10_findsBack 119 = .ok (.iload_n 2, 1) := by decide +kernel
theorem dX10_findsBack_120 : decode cX10_findsBack 120 = .ok (.bipush (-5), 2) := by decide +kernel
theorem dX10_findsBack_122 : decode cX10_findsBack 122 = .ok (.if_icmp .ne 8, 3) := by decide +kernel
theorem dX10_findsBack_125 : decode cX10_findsBack 125 = .ok (.bipush (-6), 2) := by decide +kernel
theorem dX10_findsBack_127 : decode cX10_findsBack 127 = .ok (.goto 7, 3) := by decide +kernel
theorem dX10_findsBack_130 : decode cX10_findsBack 130 = .ok (.bipush 10, 2) := by decide +kernel
theorem dX10_findsBack_132 : decode cX10_findsBack 132 = .ok (.iload_n 2, 1) := by decide +kernel
theorem dX10_findsBack_133 : decode cX10_findsBack 133 = .ok (.iadd, 1) := by decide +kernel
theorem dX10_findsBack_134 : decode cX10_findsBack 134 = .ok (.ireturn, 1) := by decide +kernel
set_option maxRecDepth 20000 in
theorem ggX10_backFlaw_X10_findsBack : GoodIn wsX10_backFlaw wsX10_findsBack := goodIn_r _ [5, 6, 7, 8, 9, 10, 11, 4, 12, 13, 14, 15, 16, 17, 18, 19, 20, 21, 22, 23, 24, 25, 26, 27, 28, 29, 30, 31, 32, 33, 34, 35, 36, 37, 38, 39, 40, 41, 42, 43, 44, 45] (by decide +kernel) (by decide +kernel)
set_option maxRecDepth 20000 in
theorem gX10_backFlaw_X10_findsBack : GoodIn wsX10_backFlaw (wsV RX10 209 RX10 yX10_findsBack wsX10_findsBack) := goodIn_app (goodIn_of _ (by decide +kernel)) ggX10_backFlaw_X10_findsBack
theorem dX10_backFlaw_0 : decode cX10_backFlaw 0 = .ok (.aload_n 0, 1) := by decide +kernel
theorem dX10_backFlaw_1 : decode cX10_backFlaw 1 = .ok (.invokevirtual 209, 3) := by decide +kernel
theorem dX10_backFlaw_4 : decode cX10_backFlaw 4 = .ok (.ireturn, 1) := by decide +kernel
set_option maxRecDepth 20000 in
theorem ggX10_back_X10_in : GoodIn wsX10_back wsX10_in := goodIn_r _ [6] (by decide +kernel) (by decide +kernel)
set_option maxRecDepth 20000 in
theorem gX10_back_X10_in : GoodIn wsX10_back (va_wsS RX10 61 yX10_in wsX10_in) := goodIn_app (goodIn_of _ (by decide +kernel)) ggX10_back_X10_in
set_option maxRecDepth 20000 in
theorem ggX10_back_X10_findsBack : GoodIn wsX10_back wsX10_findsBack := goodIn_r _ [10, 11, 12, 2, 13, 14, 15, 5, 16, 17, 18, 19, 20, 21, 22, 23, 24, 25, 26, 27, 28, 29, 30, 31, 32, 33, 34, 35, 36, 37, 38, 39, 40, 41, 42, 43, 44, 45, 46, 47, 48, 49] (by decide +kernel) (by decide +kernel)
set_option maxRecDepth 20000 in
theorem gX10_back_X10_findsBack : GoodIn wsX10_back (wsV RX10 209 RX10 yX10_findsBack wsX10_findsBack) := goodIn_app (goodIn_of _ (by decide +kernel)) ggX10_back_X10_findsBack
theorem dX10_back_0 : decode cX10_back 0 = .ok (.iload_n 1, 1) := by decide +kernel
theorem dX10_back_1 : decode cX10_back 1 = .ok (.i2l, 1) := by decide +kernel
theorem dX10_back_2 : decode cX10_back 2 = .ok (.lconst 0, 1) := by decide +kernel
theorem dX10_back_3 : decode cX10_back 3 = .ok (.ldc2_w 84, 3) := by decide +kernel
theorem dX10_back_6 : decode cX10_back 6 = .ok (.invokestatic 61, 3) := by decide +kernel
theorem dX10_back_9 : decode cX10_back 9 = .ok (.ifCond .ne 5, 3) := by decide +kernel
theorem dX10_back_12 : decode cX10_back 12 = .ok (.iconst (-1), 1) := by decide +kernel
theorem dX10_back_13 : decode cX10_back 13 = .ok (.ireturn, 1) := by decide +kernel
theorem dX10_back_14 : decode cX10_back 14 = .ok (.aload_n 0, 1) := by decide +kernel
theorem dX10_back_15 : decode cX10_back 15 = .ok (.invokevirtual 209, 3) := by decide +kernel
theorem dX10_back_18 : decode cX10_back 18 = .ok (.bipush (-6), 2) := by decide +kernel
theorem dX10_back_20 : decode cX10_back 20 = .ok (.if_icmp .ne 12, 3) := by decide +kernel
theorem dX10_back_23 : decode cX10_back 23 = .ok (.aload_n 0, 1) := by decide +kernel
theorem dX10_back_24 : decode cX10_back 24 = .ok (.getfield 42, 3) := by decide +kernel
theorem dX10_back_27 : decode cX10_back 27 = .ok (.iload_n 1, 1) := by decide +kernel
theorem dX10_back_28 : decode cX10_back 28 = .ok (.iaload, 1) := by decide +kernel
theorem dX10_back_29 : decode cX10_back 29 = .ok (.goto 5, 3) := by decide +kernel
theorem dX10_back_32 : decode cX10_back 32 = .ok (.bipush (-3), 2) := by decide +kernel
theorem dX10_back_34 : decode cX10_back 34 = .ok (.ireturn, 1) := by decide +kernel
theorem dX10_keepsRain_0 : decode cX10_keepsRain 0 = .ok (.iconst 0, 1) := by decide +kernel
theorem dX10_keepsRain_1 : decode cX10_keepsRain 1 = .ok (.istore_n 1, 1) := by decide +kernel
theorem dX10_keepsRain_2 : decode cX10_keepsRain 2 = .ok (.iload_n 1, 1) := by decide +kernel
theorem dX10_keepsRain_3 : decode cX10_keepsRain 3 = .ok (.bipush 8, 2) := by decide +kernel
theorem dX10_keepsRain_5 : decode cX10_keepsRain 5 = .ok (.if_icmp .ge 21, 3) := by decide +kernel
theorem dX10_keepsRain_8 : decode cX10_keepsRain 8 = .ok (.aload_n 0, 1) := by decide +kernel
theorem dX10_keepsRain_9 : decode cX10_keepsRain 9 = .ok (.getfield 45, 3) := by decide +kernel
theorem dX10_keepsRain_12 : decode cX10_keepsRain 12 = .ok (.iload_n 1, 1) := by decide +kernel
theorem dX10_keepsRain_13 : decode cX10_keepsRain 13 = .ok (.aload_n 0, 1) := by decide +kernel
theorem dX10_keepsRain_14 : decode cX10_keepsRain 14 = .ok (.getfield 11, 3) := by decide +kernel
theorem dX10_keepsRain_17 : decode cX10_keepsRain 17 = .ok (.iload_n 1, 1) := by decide +kernel
theorem dX10_keepsRain_18 : decode cX10_keepsRain 18 = .ok (.iaload, 1) := by decide +kernel
theorem dX10_keepsRain_19 : decode cX10_keepsRain 19 = .ok (.iastore, 1) := by decide +kernel
theorem dX10_keepsRain_20 : decode cX10_keepsRain 20 = .ok (.iinc 1 1, 3) := by decide +kernel
theorem dX10_keepsRain_23 : decode cX10_keepsRain 23 = .ok (.goto (-21), 3) := by decide +kernel
theorem dX10_keepsRain_26 : decode cX10_keepsRain 26 = .ok (.return_, 1) := by decide +kernel
theorem dX10_laysRain_0 : decode cX10_laysRain 0 = .ok (.iconst 0, 1) := by decide +kernel
theorem dX10_laysRain_1 : decode cX10_laysRain 1 = .ok (.istore_n 1, 1) := by decide +kernel
theorem dX10_laysRain_2 : decode cX10_laysRain 2 = .ok (.iload_n 1, 1) := by decide +kernel
theorem dX10_laysRain_3 : decode cX10_laysRain 3 = .ok (.bipush 8, 2) := by decide +kernel
theorem dX10_laysRain_5 : decode cX10_laysRain 5 = .ok (.if_icmp .ge 21, 3) := by decide +kernel
theorem dX10_laysRain_8 : decode cX10_laysRain 8 = .ok (.aload_n 0, 1) := by decide +kernel
theorem dX10_laysRain_9 : decode cX10_laysRain 9 = .ok (.getfield 11, 3) := by decide +kernel
theorem dX10_laysRain_12 : decode cX10_laysRain 12 = .ok (.iload_n 1, 1) := by decide +kernel
theorem dX10_laysRain_13 : decode cX10_laysRain 13 = .ok (.aload_n 0, 1) := by decide +kernel
theorem dX10_laysRain_14 : decode cX10_laysRain 14 = .ok (.getfield 45, 3) := by decide +kernel
theorem dX10_laysRain_17 : decode cX10_laysRain 17 = .ok (.iload_n 1, 1) := by decide +kernel
theorem dX10_laysRain_18 : decode cX10_laysRain 18 = .ok (.iaload, 1) := by decide +kernel
theorem dX10_laysRain_19 : decode cX10_laysRain 19 = .ok (.iastore, 1) := by decide +kernel
theorem dX10_laysRain_20 : decode cX10_laysRain 20 = .ok (.iinc 1 1, 3) := by decide +kernel
theorem dX10_laysRain_23 : decode cX10_laysRain 23 = .ok (.goto (-21), 3) := by decide +kernel
theorem dX10_laysRain_26 : decode cX10_laysRain 26 = .ok (.return_, 1) := by decide +kernel
set_option maxRecDepth 20000 in
theorem ggX10_squares_X10_flows : GoodIn wsX10_squares wsX10_flows := goodIn_r _ [7, 1, 8, 2, 9, 10, 6, 11, 12, 13, 14, 15, 16, 17, 18, 19, 20, 21, 22, 23, 24, 25, 26, 27, 28, 29, 30, 31, 32, 33, 34, 35, 36, 37] (by decide +kernel) (by decide +kernel)
set_option maxRecDepth 20000 in
theorem gX10_squares_X10_flows : GoodIn wsX10_squares (wsV RX10 167 RX10 yX10_flows wsX10_flows) := goodIn_app (goodIn_of _ (by decide +kernel)) ggX10_squares_X10_flows
theorem dX10_squares_0 : decode cX10_squares 0 = .ok (.aload_n 0, 1) := by decide +kernel
theorem dX10_squares_1 : decode cX10_squares 1 = .ok (.iload_n 1, 1) := by decide +kernel
theorem dX10_squares_2 : decode cX10_squares 2 = .ok (.invokevirtual 167, 3) := by decide +kernel
theorem dX10_squares_5 : decode cX10_squares 5 = .ok (.iconst 0, 1) := by decide +kernel
theorem dX10_squares_6 : decode cX10_squares 6 = .ok (.istore_n 2, 1) := by decide +kernel
theorem dX10_squares_7 : decode cX10_squares 7 = .ok (.iconst 0, 1) := by decide +kernel
theorem dX10_squares_8 : decode cX10_squares 8 = .ok (.istore_n 3, 1) := by decide +kernel
theorem dX10_squares_9 : decode cX10_squares 9 = .ok (.iload_n 3, 1) := by decide +kernel
theorem dX10_squares_10 : decode cX10_squares 10 = .ok (.bipush 12, 2) := by decide +kernel
theorem dX10_squares_12 : decode cX10_squares 12 = .ok (.if_icmp .ge 45, 3) := by decide +kernel
theorem dX10_squares_15 : decode cX10_squares 15 = .ok (.iload_n 2, 1) := by decide +kernel
theorem dX10_squares_16 : decode cX10_squares 16 = .ok (.aload_n 0, 1) := by decide +kernel
theorem dX10_squares_17 : decode cX10_squares 17 = .ok (.getfield 27, 3) := by decide +kernel
theorem dX10_squares_20 : decode cX10_squares 20 = .ok (.iload_n 3, 1) := by decide +kernel
theorem dX10_squares_21 : decode cX10_squares 21 = .ok (.iaload, 1) := by decide +kernel
theorem dX10_squares_22 : decode cX10_squares 22 = .ok (.aload_n 0, 1) := by decide +kernel
theorem dX10_squares_23 : decode cX10_squares 23 = .ok (.getfield 11, 3) := by decide +kernel
theorem dX10_squares_26 : decode cX10_squares 26 = .ok (.bipush 8, 2) := by decide +kernel
theorem dX10_squares_28 : decode cX10_squares 28 = .ok (.iload_n 3, 1) := by decide +kernel
theorem dX10_squares_29 : decode cX10_squares 29 = .ok (.iadd, 1) := by decide +kernel
theorem dX10_squares_30 : decode cX10_squares 30 = .ok (.iaload, 1) := by decide +kernel
theorem dX10_squares_31 : decode cX10_squares 31 = .ok (.isub, 1) := by decide +kernel
theorem dX10_squares_32 : decode cX10_squares 32 = .ok (.aload_n 0, 1) := by decide +kernel
theorem dX10_squares_33 : decode cX10_squares 33 = .ok (.getfield 27, 3) := by decide +kernel
theorem dX10_squares_36 : decode cX10_squares 36 = .ok (.iload_n 3, 1) := by decide +kernel
theorem dX10_squares_37 : decode cX10_squares 37 = .ok (.iaload, 1) := by decide +kernel
theorem dX10_squares_38 : decode cX10_squares 38 = .ok (.aload_n 0, 1) := by decide +kernel
theorem dX10_squares_39 : decode cX10_squares 39 = .ok (.getfield 11, 3) := by decide +kernel
theorem dX10_squares_42 : decode cX10_squares 42 = .ok (.bipush 8, 2) := by decide +kernel
theorem dX10_squares_44 : decode cX10_squares 44 = .ok (.iload_n 3, 1) := by decide +kernel
theorem dX10_squares_45 : decode cX10_squares 45 = .ok (.iadd, 1) := by decide +kernel
theorem dX10_squares_46 : decode cX10_squares 46 = .ok (.iaload, 1) := by decide +kernel
theorem dX10_squares_47 : decode cX10_squares 47 = .ok (.isub, 1) := by decide +kernel
theorem dX10_squares_48 : decode cX10_squares 48 = .ok (.imul, 1) := by decide +kernel
theorem dX10_squares_49 : decode cX10_squares 49 = .ok (.iadd, 1) := by decide +kernel
theorem dX10_squares_50 : decode cX10_squares 50 = .ok (.istore_n 2, 1) := by decide +kernel
theorem dX10_squares_51 : decode cX10_squares 51 = .ok (.iinc 3 1, 3) := by decide +kernel
theorem dX10_squares_54 : decode cX10_squares 54 = .ok (.goto (-45), 3) := by decide +kernel
theorem dX10_squares_57 : decode cX10_squares 57 = .ok (.iload_n 2, 1) := by decide +kernel
theorem dX10_squares_58 : decode cX10_squares 58 = .ok (.ireturn, 1) := by decide +kernel
set_option maxRecDepth 20000 in
theorem ggX10_nearest_X10_isBasin : GoodIn wsX10_nearest wsX10_isBasin := goodIn_r _ [7, 2, 8, 9, 6, 10, 34, 35, 36, 37, 38, 39, 40, 41, 42, 43, 44, 45, 46, 47, 48, 49, 50, 51, 52, 53, 54, 55] (by decide +kernel) (by decide +kernel)
set_option maxRecDepth 20000 in
theorem gX10_nearest_X10_isBasin : GoodIn wsX10_nearest (wsV RX10 81 RX10 yX10_isBasin wsX10_isBasin) := goodIn_app (goodIn_of _ (by decide +kernel)) ggX10_nearest_X10_isBasin
set_option maxRecDepth 20000 in
theorem ggX10_nearest_X10_in : GoodIn wsX10_nearest wsX10_in := goodIn_r _ [10] (by decide +kernel) (by decide +kernel)
set_option maxRecDepth 20000 in
theorem gX10_nearest_X10_in : GoodIn wsX10_nearest (va_wsS RX10 61 yX10_in wsX10_in) := goodIn_app (goodIn_of _ (by decide +kernel)) ggX10_nearest_X10_in
set_option maxRecDepth 20000 in
theorem ggX10_nearest_X10_keepsRain : GoodIn wsX10_nearest wsX10_keepsRain := goodIn_r _ [14, 15, 2, 34, 35, 36, 37, 38, 39, 40, 41, 42, 43, 44, 45, 46, 47, 48, 49, 50, 51, 52, 53, 54, 55] (by decide +kernel) (by decide +kernel)
set_option maxRecDepth 20000 in
theorem gX10_nearest_X10_keepsRain : GoodIn wsX10_nearest (wsV RX10 214 RX10 yX10_keepsRain wsX10_keepsRain) := goodIn_app (goodIn_of _ (by decide +kernel)) ggX10_nearest_X10_keepsRain
set_option maxRecDepth 20000 in
theorem ggX10_nearest_X10_squares : GoodIn wsX10_nearest wsX10_squares := goodIn_r _ [19, 20, 2, 21, 22, 23, 6, 24, 25, 8, 9, 10, 26, 27, 28, 29, 34, 35, 36, 37, 38, 39, 40, 41, 42, 43, 44, 45, 46, 47, 48, 49, 50, 51, 52, 53, 54, 55] (by decide +kernel) (by decide +kernel)
set_option maxRecDepth 20000 in
theorem gX10_nearest_X10_squares : GoodIn wsX10_nearest (wsV RX10 217 RX10 yX10_squares wsX10_squares) := goodIn_app (goodIn_of _ (by decide +kernel)) ggX10_nearest_X10_squares
set_option maxRecDepth 20000 in
theorem ggX10_nearest_X10_laysRain : GoodIn wsX10_nearest wsX10_laysRain := goodIn_r _ [33, 2, 15, 34, 35, 36, 37, 38, 39, 40, 41, 42, 43, 44, 45, 46, 47, 48, 49, 50, 51, 52, 53, 54, 55] (by decide +kernel) (by decide +kernel)
set_option maxRecDepth 20000 in
theorem gX10_nearest_X10_laysRain : GoodIn wsX10_nearest (wsV RX10 220 RX10 yX10_laysRain wsX10_laysRain) := goodIn_app (goodIn_of _ (by decide +kernel)) ggX10_nearest_X10_laysRain
theorem dX10_nearest_0 : decode cX10_nearest 0 = .ok (.aload_n 0, 1) := by decide +kernel
theorem dX10_nearest_1 : decode cX10_nearest 1 = .ok (.iload_n 1, 1) := by decide +kernel
theorem dX10_nearest_2 : decode cX10_nearest 2 = .ok (.invokevirtual 81, 3) := by decide +kernel
theorem dX10_nearest_5 : decode cX10_nearest 5 = .ok (.ifCond .eq 15, 3) := by decide +kernel
theorem dX10_nearest_8 : decode cX10_nearest 8 = .ok (.iload_n 2, 1) := by decide +kernel
theorem dX10_nearest_9 : decode cX10_nearest 9 = .ok (.i2l, 1) := by decide +kernel
theorem dX10_nearest_10 : decode cX10_nearest 10 = .ok (.lconst 0, 1) := by decide +kernel
theorem dX10_nearest_11 : decode cX10_nearest 11 = .ok (.ldc2_w 212, 3) := by decide +kernel
theorem dX10_nearest_14 : decode cX10_nearest 14 = .ok (.invokestatic 61, 3) := by decide +kernel
theorem dX10_nearest_17 : decode cX10_nearest 17 = .ok (.ifCond .ne 5, 3) := by decide +kernel
theorem dX10_nearest_20 : decode cX10_nearest 20 = .ok (.iconst (-1), 1) := by decide +kernel
theorem dX10_nearest_21 : decode cX10_nearest 21 = .ok (.ireturn, 1) := by decide +kernel
theorem dX10_nearest_22 : decode cX10_nearest 22 = .ok (.aload_n 0, 1) := by decide +kernel
theorem dX10_nearest_23 : decode cX10_nearest 23 = .ok (.invokevirtual 214, 3) := by decide +kernel
theorem dX10_nearest_26 : decode cX10_nearest 26 = .ok (.iconst 0, 1) := by decide +kernel
theorem dX10_nearest_27 : decode cX10_nearest 27 = .ok (.istore_n 3, 1) := by decide +kernel
theorem dX10_nearest_28 : decode cX10_nearest 28 = .ok (.iconst (-1), 1) := by decide +kernel
theorem dX10_nearest_29 : decode cX10_nearest 29 = .ok (.istore 4, 2) := by decide +kernel
theorem dX10_nearest_31 : decode cX10_nearest 31 = .ok (.iconst 0, 1) := by decide +kernel
theorem dX10_nearest_32 : decode cX10_nearest 32 = .ok (.istore 5, 2) := by decide +kernel
theorem dX10_nearest_34 : decode cX10_nearest 34 = .ok (.iload 5, 2) := by decide +kernel
theorem dX10_nearest_36 : decode cX10_nearest 36 = .ok (.sipush 343, 3) := by decide +kernel
theorem dX10_nearest_39 : decode cX10_nearest 39 = .ok (.if_icmp .ge 129, 3) := by decide +kernel
theorem dX10_nearest_42 : decode cX10_nearest 42 = .ok (.iconst 0, 1) := by decide +kernel
theorem dX10_nearest_43 : decode cX10_nearest 43 = .ok (.istore 6, 2) := by decide +kernel
theorem dX10_nearest_45 : decode cX10_nearest 45 = .ok (.iload 6, 2) := by decide +kernel
theorem dX10_nearest_47 : decode cX10_nearest 47 = .ok (.bipush 8, 2) := by decide +kernel
theorem dX10_nearest_49 : decode cX10_nearest 49 = .ok (.if_icmp .ge 61, 3) := by decide +kernel
theorem dX10_nearest_52 : decode cX10_nearest 52 = .ok (.aload_n 0, 1) := by decide +kernel
theorem dX10_nearest_53 : decode cX10_nearest 53 = .ok (.getfield 11, 3) := by decide +kernel
theorem dX10_nearest_56 : decode cX10_nearest 56 = .ok (.iload 6, 2) := by decide +kernel
theorem dX10_nearest_58 : decode cX10_nearest 58 = .ok (.iload 6, 2) := by decide +kernel
theorem dX10_nearest_60 : decode cX10_nearest 60 = .ok (.ifCond .ne 11, 3) := by decide +kernel
theorem dX10_nearest_63 : decode cX10_nearest 63 = .ok (.iload 5, 2) := by decide +kernel
theorem dX10_nearest_65 : decode cX10_nearest 65 = .ok (.bipush 49, 2) := by decide +kernel
theorem dX10_nearest_67 : decode cX10_nearest 67 = .ok (.idiv, 1) := by decide +kernel
theorem dX10_nearest_68 : decode cX10_nearest 68 = .ok (.goto 35, 3) := by decide +kernel
theorem dX10_nearest_71 : decode cX10_nearest 71 = .ok (.iload 6, 2) := by decide +kernel
theorem dX10_nearest_73 : decode cX10_nearest 73 = .ok (.iconst 1, 1) := by decide +kernel
theorem dX10_nearest_74 : decode cX10_nearest 74 = .ok (.if_icmp .ne 14, 3) := by decide +kernel
theorem dX10_nearest_77 : decode cX10_nearest 77 = .ok (.iload 5, 2) := by decide +kernel
theorem dX10_nearest_79 : decode cX10_nearest 79 = .ok (.bipush 7, 2) := by decide +kernel
theorem dX10_nearest_81 : decode cX10_nearest 81 = .ok (.idiv, 1) := by decide +kernel
theorem dX10_nearest_82 : decode cX10_nearest 82 = .ok (.bipush 7, 2) := by decide +kernel
theorem dX10_nearest_84 : decode cX10_nearest 84 = .ok (.irem, 1) := by decide +kernel
theorem dX10_nearest_85 : decode cX10_nearest 85 = .ok (.goto 18, 3) := by decide +kernel
theorem dX10_nearest_88 : decode cX10_nearest 88 = .ok (.iload 6, 2) := by decide +kernel
theorem dX10_nearest_90 : decode cX10_nearest 90 = .ok (.iconst 2, 1) := by decide +kernel
theorem dX10_nearest_91 : decode cX10_nearest 91 = .ok (.if_icmp .ne 11, 3) := by decide +kernel
theorem dX10_nearest_94 : decode cX10_nearest 94 = .ok (.iload 5, 2) := by decide +kernel
theorem dX10_nearest_96 : decode cX10_nearest 96 = .ok (.bipush 7, 2) := by decide +kernel
theorem dX10_nearest_98 : decode cX10_nearest 98 = .ok (.irem, 1) := by decide +kernel
theorem dX10_nearest_99 : decode cX10_nearest 99 = .ok (.goto 4, 3) := by decide +kernel
theorem dX10_nearest_102 : decode cX10_nearest 102 = .ok (.iconst 0, 1) := by decide +kernel
theorem dX10_nearest_103 : decode cX10_nearest 103 = .ok (.iastore, 1) := by decide +kernel
theorem dX10_nearest_104 : decode cX10_nearest 104 = .ok (.iinc 6 1, 3) := by decide +kernel
theorem dX10_nearest_107 : decode cX10_nearest 107 = .ok (.goto (-62), 3) := by decide +kernel
theorem dX10_nearest_110 : decode cX10_nearest 110 = .ok (.aload_n 0, 1) := by decide +kernel
theorem dX10_nearest_111 : decode cX10_nearest 111 = .ok (.iload_n 1, 1) := by decide +kernel
theorem dX10_nearest_112 : decode cX10_nearest 112 = .ok (.invokevirtual 217, 3) := by decide +kernel
theorem dX10_nearest_115 : decode cX10_nearest 115 = .ok (.istore 6, 2) := by decide +kernel
theorem dX10_nearest_117 : decode cX10_nearest 117 = .ok (.iload 4, 2) := by decide +kernel
theorem dX10_nearest_119 : decode cX10_nearest 119 = .ok (.ifCond .lt 10, 3) := by decide +kernel
theorem dX10_nearest_122 : decode cX10_nearest 122 = .ok (.iload 6, 2) := by decide +kernel
theorem dX10_nearest_124 : decode cX10_nearest 124 = .ok (.iload 4, 2) := by decide +kernel
theorem dX10_nearest_126 : decode cX10_nearest 126 = .ok (.if_icmp .ge 7, 3) := by decide +kernel
theorem dX10_nearest_129 : decode cX10_nearest 129 = .ok (.iconst 1, 1) := by decide +kernel
theorem dX10_nearest_130 : decode cX10_nearest 130 = .ok (.goto 4, 3) := by decide +kernel
theorem dX10_nearest_133 : decode cX10_nearest 133 = .ok (.iconst 0, 1) := by decide +kernel
theorem dX10_nearest_134 : decode cX10_nearest 134 = .ok (.istore 7, 2) := by decide +kernel
theorem dX10_nearest_136 : decode cX10_nearest 136 = .ok (.iload 7, 2) := by decide +kernel
theorem dX10_nearest_138 : decode cX10_nearest 138 = .ok (.ifCond .eq 8, 3) := by decide +kernel
theorem dX10_nearest_141 : decode cX10_nearest 141 = .ok (.iload 5, 2) := by decide +kernel
theorem dX10_nearest_143 : decode cX10_nearest 143 = .ok (.goto 4, 3) := by decide +kernel
theorem dX10_nearest_146 : decode cX10_nearest 146 = .ok (.iload_n 3, 1) := by decide +kernel
theorem dX10_nearest_147 : decode cX10_nearest 147 = .ok (.istore_n 3, 1) := by decide +kernel
theorem dX10_nearest_148 : decode cX10_nearest 148 = .ok (.iload 7, 2) := by decide +kernel
theorem dX10_nearest_150 : decode cX10_nearest 150 = .ok (.ifCond .eq 8, 3) := by decide +kernel
theorem dX10_nearest_153 : decode cX10_nearest 153 = .ok (.iload 6, 2) := by decide +kernel
theorem dX10_nearest_155 : decode cX10_nearest 155 = .ok (.goto 5, 3) := by decide +kernel
theorem dX10_nearest_158 : decode cX10_nearest 158 = .ok (.iload 4, 2) := by decide +kernel
theorem dX10_nearest_160 : decode cX10_nearest 160 = .ok (.istore 4, 2) := by decide +kernel
theorem dX10_nearest_162 : decode cX10_nearest 162 = .ok (.iinc 5 1, 3) := by decide +kernel
theorem dX10_nearest_165 : decode cX10_nearest 165 = .ok (.goto (-131), 3) := by decide +kernel
theorem dX10_nearest_168 : decode cX10_nearest 168 = .ok (.aload_n 0, 1) := by decide +kernel
theorem dX10_nearest_169 : decode cX10_nearest 169 = .ok (.invokevirtual 220, 3) := by decide +kernel
theorem dX10_nearest_172 : decode cX10_nearest 172 = .ok (.iload_n 2, 1) := by decide +kernel
theorem dX10_nearest_173 : decode cX10_nearest 173 = .ok (.ifCond .ne 10, 3) := by decide +kernel
theorem dX10_nearest_176 : decode cX10_nearest 176 = .ok (.iload_n 3, 1) := by decide +kernel
theorem dX10_nearest_177 : decode cX10_nearest 177 = .ok (.bipush 49, 2) := by decide +kernel
theorem dX10_nearest_179 : decode cX10_nearest 179 = .ok (.idiv, 1) := by decide +kernel
theorem dX10_nearest_180 : decode cX10_nearest 180 = .ok (.goto 32, 3) := by decide +kernel
theorem dX10_nearest_183 : decode cX10_nearest 183 = .ok (.iload_n 2, 1) := by decide +kernel
theorem dX10_nearest_184 : decode cX10_nearest 184 = .ok (.iconst 1, 1) := by decide +kernel
theorem dX10_nearest_185 : decode cX10_nearest 185 = .ok (.if_icmp .ne 13, 3) := by decide +kernel
theorem dX10_nearest_188 : decode cX10_nearest 188 = .ok (.iload_n 3, 1) := by decide +kernel
theorem dX10_nearest_189 : decode cX10_nearest 189 = .ok (.bipush 7, 2) := by decide +kernel
theorem dX10_nearest_191 : decode cX10_nearest 191 = .ok (.idiv, 1) := by decide +kernel
theorem dX10_nearest_192 : decode cX10_nearest 192 = .ok (.bipush 7, 2) := by decide +kernel
theorem dX10_nearest_194 : decode cX10_nearest 194 = .ok (.irem, 1) := by decide +kernel
theorem dX10_nearest_195 : decode cX10_nearest 195 = .ok (.goto 17, 3) := by decide +kernel
theorem dX10_nearest_198 : decode cX10_nearest 198 = .ok (.iload_n 2, 1) := by decide +kernel
theorem dX10_nearest_199 : decode cX10_nearest 199 = .ok (.iconst 2, 1) := by decide +kernel
theorem dX10_nearest_200 : decode cX10_nearest 200 = .ok (.if_icmp .ne 10, 3) := by decide +kernel
theorem dX10_nearest_203 : decode cX10_nearest 203 = .ok (.iload_n 3, 1) := by decide +kernel
theorem dX10_nearest_204 : decode cX10_nearest 204 = .ok (.bipush 7, 2) := by decide +kernel
theorem dX10_nearest_206 : decode cX10_nearest 206 = .ok (.irem, 1) := by decide +kernel
theorem dX10_nearest_207 : decode cX10_nearest 207 = .ok (.goto 5, 3) := by decide +kernel
theorem dX10_nearest_210 : decode cX10_nearest 210 = .ok (.iload 4, 2) := by decide +kernel
theorem dX10_nearest_212 : decode cX10_nearest 212 = .ok (.ireturn, 1) := by decide +kernel
theorem dX10_changes_0 : decode cX10_changes 0 = .ok (.aload_n 0, 1) := by decide +kernel
theorem dX10_changes_1 : decode cX10_changes 1 = .ok (.getfield 11, 3) := by decide +kernel
theorem dX10_changes_4 : decode cX10_changes 4 = .ok (.iload_n 1, 1) := by decide +kernel
theorem dX10_changes_5 : decode cX10_changes 5 = .ok (.iaload, 1) := by decide +kernel
theorem dX10_changes_6 : decode cX10_changes 6 = .ok (.istore_n 3, 1) := by decide +kernel
theorem dX10_changes_7 : decode cX10_changes 7 = .ok (.aload_n 0, 1) := by decide +kernel
theorem dX10_changes_8 : decode cX10_changes 8 = .ok (.getfield 11, 3) := by decide +kernel
theorem dX10_changes_11 : decode cX10_changes 11 = .ok (.iload_n 1, 1) := by decide +kernel
theorem dX10_changes_12 : decode cX10_changes 12 = .ok (.aload_n 0, 1) := by decide +kernel
theorem dX10_changes_13 : decode cX10_changes 13 = .ok (.getfield 11, 3) := by decide +kernel
theorem dX10_changes_16 : decode cX10_changes 16 = .ok (.iload_n 2, 1) := by decide +kernel
theorem dX10_changes_17 : decode cX10_changes 17 = .ok (.iaload, 1) := by decide +kernel
theorem dX10_changes_18 : decode cX10_changes 18 = .ok (.iastore, 1) := by decide +kernel
theorem dX10_changes_19 : decode cX10_changes 19 = .ok (.aload_n 0, 1) := by decide +kernel
theorem dX10_changes_20 : decode cX10_changes 20 = .ok (.getfield 11, 3) := by decide +kernel
theorem dX10_changes_23 : decode cX10_changes 23 = .ok (.iload_n 2, 1) := by decide +kernel
theorem dX10_changes_24 : decode cX10_changes 24 = .ok (.iload_n 3, 1) := by decide +kernel
theorem dX10_changes_25 : decode cX10_changes 25 = .ok (.iastore, 1) := by decide +kernel
theorem dX10_changes_26 : decode cX10_changes 26 = .ok (.return_, 1) := by decide +kernel
set_option maxRecDepth 20000 in
theorem ggX10_exchange_X10_in : GoodIn wsX10_exchange wsX10_in := goodIn_r _ [8] (by decide +kernel) (by decide +kernel)
set_option maxRecDepth 20000 in
theorem gX10_exchange_X10_in : GoodIn wsX10_exchange (va_wsS RX10 61 yX10_in wsX10_in) := goodIn_app (goodIn_of _ (by decide +kernel)) ggX10_exchange_X10_in
set_option maxRecDepth 20000 in
theorem ggX10_exchange_X10_peak : GoodIn wsX10_exchange wsX10_peak := goodIn_r _ [12, 13, 14, 15, 16, 7, 17, 18, 19, 20, 21, 22, 23, 24, 25, 26, 27, 28, 29, 30, 5, 6, 8, 31, 32, 33, 34, 35, 36, 37, 1, 2, 3, 4, 38, 39, 40, 41, 42, 43, 48, 49, 50, 51, 52, 53, 54, 55, 56, 57, 58, 59, 60, 61, 62, 63, 64, 65, 66, 67, 68, 69] (by decide +kernel) (by decide +kernel)
set_option maxRecDepth 20000 in
theorem gX10_exchange_X10_peak : GoodIn wsX10_exchange (wsV RX10 223 RX10 yX10_peak wsX10_peak) := goodIn_app (goodIn_of _ (by decide +kernel)) ggX10_exchange_X10_peak
set_option maxRecDepth 20000 in
theorem ggX10_exchange_X10_changes : GoodIn wsX10_exchange wsX10_changes := goodIn_r _ [47, 18, 48, 49, 50, 51, 52, 53, 54, 55, 56, 57, 58, 59, 60, 61, 62, 63, 64, 65, 66, 67, 68, 69] (by decide +kernel) (by decide +kernel)
set_option maxRecDepth 20000 in
theorem gX10_exchange_X10_changes : GoodIn wsX10_exchange (wsV RX10 226 RX10 yX10_changes wsX10_changes) := goodIn_app (goodIn_of _ (by decide +kernel)) ggX10_exchange_X10_changes
theorem dX10_exchange_0 : decode cX10_exchange 0 = .ok (.iload_n 1, 1) := by decide +kernel
theorem dX10_exchange_1 : decode cX10_exchange 1 = .ok (.i2l, 1) := by decide +kernel
theorem dX10_exchange_2 : decode cX10_exchange 2 = .ok (.lconst 0, 1) := by decide +kernel
theorem dX10_exchange_3 : decode cX10_exchange 3 = .ok (.lconst 1, 1) := by decide +kernel
theorem dX10_exchange_4 : decode cX10_exchange 4 = .ok (.invokestatic 61, 3) := by decide +kernel
theorem dX10_exchange_7 : decode cX10_exchange 7 = .ok (.ifCond .ne 5, 3) := by decide +kernel
theorem dX10_exchange_10 : decode cX10_exchange 10 = .ok (.iconst (-1), 1) := by decide +kernel
theorem dX10_exchange_11 : decode cX10_exchange 11 = .ok (.ireturn, 1) := by decide +kernel
theorem dX10_exchange_12 : decode cX10_exchange 12 = .ok (.bipush (-5), 2) := by decide +kernel
theorem dX10_exchange_14 : decode cX10_exchange 14 = .ok (.istore_n 2, 1) := by decide +kernel
theorem dX10_exchange_15 : decode cX10_exchange 15 = .ok (.aload_n 0, 1) := by decide +kernel
theorem dX10_exchange_16 : decode cX10_exchange 16 = .ok (.invokevirtual 223, 3) := by decide +kernel
theorem dX10_exchange_19 : decode cX10_exchange 19 = .ok (.istore_n 3, 1) := by decide +kernel
theorem dX10_exchange_20 : decode cX10_exchange 20 = .ok (.iconst 0, 1) := by decide +kernel
theorem dX10_exchange_21 : decode cX10_exchange 21 = .ok (.istore 4, 2) := by decide +kernel
theorem dX10_exchange_23 : decode cX10_exchange 23 = .ok (.iload 4, 2) := by decide +kernel
theorem dX10_exchange_25 : decode cX10_exchange 25 = .ok (.bipush 8, 2) := by decide +kernel
theorem dX10_exchange_27 : decode cX10_exchange 27 = .ok (.if_icmp .ge 76, 3) := by decide +kernel
theorem dX10_exchange_30 : decode cX10_exchange 30 = .ok (.iload 4, 2) := by decide +kernel
theorem dX10_exchange_32 : decode cX10_exchange 32 = .ok (.iconst 1, 1) := by decide +kernel
theorem dX10_exchange_33 : decode cX10_exchange 33 = .ok (.iadd, 1) := by decide +kernel
theorem dX10_exchange_34 : decode cX10_exchange 34 = .ok (.istore 5, 2) := by decide +kernel
theorem dX10_exchange_36 : decode cX10_exchange 36 = .ok (.iload 5, 2) := by decide +kernel
theorem dX10_exchange_38 : decode cX10_exchange 38 = .ok (.bipush 8, 2) := by decide +kernel
theorem dX10_exchange_40 : decode cX10_exchange 40 = .ok (.if_icmp .ge 57, 3) := by decide +kernel
theorem dX10_exchange_43 : decode cX10_exchange 43 = .ok (.aload_n 0, 1) := by decide +kernel
theorem dX10_exchange_44 : decode cX10_exchange 44 = .ok (.iload 4, 2) := by decide +kernel
theorem dX10_exchange_46 : decode cX10_exchange 46 = .ok (.iload 5, 2) := by decide +kernel
theorem dX10_exchange_48 : decode cX10_exchange 48 = .ok (.invokevirtual 226, 3) := by decide +kernel
theorem dX10_exchange_51 : decode cX10_exchange 51 = .ok (.aload_n 0, 1) := by decide +kernel
theorem dX10_exchange_52 : decode cX10_exchange 52 = .ok (.invokevirtual 223, 3) := by decide +kernel
theorem dX10_exchange_55 : decode cX10_exchange 55 = .ok (.istore 6, 2) := by decide +kernel
theorem dX10_exchange_57 : decode cX10_exchange 57 = .ok (.aload_n 0, 1) := by decide +kernel
theorem dX10_exchange_58 : decode cX10_exchange 58 = .ok (.iload 4, 2) := by decide +kernel
theorem dX10_exchange_60 : decode cX10_exchange 60 = .ok (.iload 5, 2) := by decide +kernel
theorem dX10_exchange_62 : decode cX10_exchange 62 = .ok (.invokevirtual 226, 3) := by decide +kernel
theorem dX10_exchange_65 : decode cX10_exchange 65 = .ok (.iload 6, 2) := by decide +kernel
theorem dX10_exchange_67 : decode cX10_exchange 67 = .ok (.iload_n 3, 1) := by decide +kernel
theorem dX10_exchange_68 : decode cX10_exchange 68 = .ok (.if_icmp .ge 14, 3) := by decide +kernel
theorem dX10_exchange_71 : decode cX10_exchange 71 = .ok (.bipush 10, 2) := by decide +kernel
theorem dX10_exchange_73 : decode cX10_exchange 73 = .ok (.iload 4, 2) := by decide +kernel
theorem dX10_exchange_75 : decode cX10_exchange 75 = .ok (.imul, 1) := by decide +kernel
theorem dX10_exchange_76 : decode cX10_exchange 76 = .ok (.iload 5, 2) := by decide +kernel
theorem dX10_exchange_78 : decode cX10_exchange 78 = .ok (.iadd, 1) := by decide +kernel
theorem dX10_exchange_79 : decode cX10_exchange 79 = .ok (.goto 4, 3) := by decide +kernel
theorem dX10_exchange_82 : decode cX10_exchange 82 = .ok (.iload_n 2, 1) := by decide +kernel
theorem dX10_exchange_83 : decode cX10_exchange 83 = .ok (.istore_n 2, 1) := by decide +kernel
theorem dX10_exchange_84 : decode cX10_exchange 84 = .ok (.iload_n 3, 1) := by decide +kernel
theorem dX10_exchange_85 : decode cX10_exchange 85 = .ok (.iload 6, 2) := by decide +kernel
theorem dX10_exchange_87 : decode cX10_exchange 87 = .ok (.invokestatic 159, 3) := by decide +kernel
theorem dX10_exchange_90 : decode cX10_exchange 90 = .ok (.istore_n 3, 1) := by decide +kernel
theorem dX10_exchange_91 : decode cX10_exchange 91 = .ok (.iinc 5 1, 3) := by decide +kernel
theorem dX10_exchange_94 : decode cX10_exchange 94 = .ok (.goto (-58), 3) := by decide +kernel
theorem dX10_exchange_97 : decode cX10_exchange 97 = .ok (.iinc 4 1, 3) := by decide +kernel
theorem dX10_exchange_100 : decode cX10_exchange 100 = .ok (.goto (-77), 3) := by decide +kernel
theorem dX10_exchange_103 : decode cX10_exchange 103 = .ok (.iload_n 1, 1) := by decide +kernel
theorem dX10_exchange_104 : decode cX10_exchange 104 = .ok (.ifCond .ne 7, 3) := by decide +kernel
theorem dX10_exchange_107 : decode cX10_exchange 107 = .ok (.iload_n 2, 1) := by decide +kernel
theorem dX10_exchange_108 : decode cX10_exchange 108 = .ok (.goto 4, 3) := by decide +kernel
theorem dX10_exchange_111 : decode cX10_exchange 111 = .ok (.iload_n 3, 1) := by decide +kernel
theorem dX10_exchange_112 : decode cX10_exchange 112 = .ok (.ireturn, 1) := by decide +kernel
set_option maxRecDepth 20000 in
theorem ggX10_see_X10_isHour : GoodIn wsX10_see wsX10_isHour := goodIn_r _ [6, 7, 8, 9, 5, 10] (by decide +kernel) (by decide +kernel)
set_option maxRecDepth 20000 in
theorem gX10_see_X10_isHour : GoodIn wsX10_see (va_wsS RX10 186 yX10_isHour wsX10_isHour) := goodIn_app (goodIn_of _ (by decide +kernel)) ggX10_see_X10_isHour
set_option maxRecDepth 20000 in
theorem ggX10_see_X10_in : GoodIn wsX10_see wsX10_in := goodIn_r _ [10] (by decide +kernel) (by decide +kernel)
set_option maxRecDepth 20000 in
theorem gX10_see_X10_in : GoodIn wsX10_see (va_wsS RX10 61 yX10_in wsX10_in) := goodIn_app (goodIn_of _ (by decide +kernel)) ggX10_see_X10_in
theorem dX10_see_0 : decode cX10_see 0 = .ok (.iload_n 1, 1) := by decide +kernel
theorem dX10_see_1 : decode cX10_see 1 = .ok (.iconst (-1), 1) := by decide +kernel
theorem dX10_see_2 : decode cX10_see 2 = .ok (.if_icmp .ne 13, 3) := by decide +kernel
theorem dX10_see_5 : decode cX10_see 5 = .ok (.aload_n 0, 1) := by decide +kernel
theorem dX10_see_6 : decode cX10_see 6 = .ok (.getfield 11, 3) := by decide +kernel
theorem dX10_see_9 : decode cX10_see 9 = .ok (.bipush 45, 2) := by decide +kernel
theorem dX10_see_11 : decode cX10_see 11 = .ok (.iconst 0, 1) := by decide +kernel
theorem dX10_see_12 : decode cX10_see 12 = .ok (.iastore, 1) := by decide +kernel
theorem dX10_see_13 : decode cX10_see 13 = .ok (.iconst 0, 1) := by decide +kernel
theorem dX10_see_14 : decode cX10_see 14 = .ok (.ireturn, 1) := by decide +kernel
theorem dX10_see_15 : decode cX10_see 15 = .ok (.iload_n 1, 1) := by decide +kernel
theorem dX10_see_16 : decode cX10_see 16 = .ok (.invokestatic 186, 3) := by decide +kernel
theorem dX10_see_19 : decode cX10_see 19 = .ok (.ifCond .ne 5, 3) := by decide +kernel
theorem dX10_see_22 : decode cX10_see 22 = .ok (.iconst (-1), 1) := by decide +kernel
theorem dX10_see_23 : decode cX10_see 23 = .ok (.ireturn, 1) := by decide +kernel
theorem dX10_see_24 : decode cX10_see 24 = .ok (.iload_n 2, 1) := by decide +kernel
theorem dX10_see_25 : decode cX10_see 25 = .ok (.i2l, 1) := by decide +kernel
theorem dX10_see_26 : decode cX10_see 26 = .ok (.lconst 0, 1) := by decide +kernel
theorem dX10_see_27 : decode cX10_see 27 = .ok (.ldc2_w 229, 3) := by decide +kernel
theorem dX10_see_30 : decode cX10_see 30 = .ok (.invokestatic 61, 3) := by decide +kernel
theorem dX10_see_33 : decode cX10_see 33 = .ok (.ifCond .ne 6, 3) := by decide +kernel
theorem dX10_see_36 : decode cX10_see 36 = .ok (.bipush (-2), 2) := by decide +kernel
theorem dX10_see_38 : decode cX10_see 38 = .ok (.ireturn, 1) := by decide +kernel
theorem dX10_see_39 : decode cX10_see 39 = .ok (.aload_n 0, 1) := by decide +kernel
theorem dX10_see_40 : decode cX10_see 40 = .ok (.getfield 11, 3) := by decide +kernel
theorem dX10_see_43 : decode cX10_see 43 = .ok (.bipush 45, 2) := by decide +kernel
theorem dX10_see_45 : decode cX10_see 45 = .ok (.iaload, 1) := by decide +kernel
theorem dX10_see_46 : decode cX10_see 46 = .ok (.iconst 5, 1) := by decide +kernel
theorem dX10_see_47 : decode cX10_see 47 = .ok (.if_icmp .ne 6, 3) := by decide +kernel
theorem dX10_see_50 : decode cX10_see 50 = .ok (.bipush (-4), 2) := by decide +kernel
theorem dX10_see_52 : decode cX10_see 52 = .ok (.ireturn, 1) := by decide +kernel
theorem dX10_see_53 : decode cX10_see 53 = .ok (.bipush 46, 2) := by decide +kernel
theorem dX10_see_55 : decode cX10_see 55 = .ok (.iconst 2, 1) := by decide +kernel
theorem dX10_see_56 : decode cX10_see 56 = .ok (.aload_n 0, 1) := by decide +kernel
theorem dX10_see_57 : decode cX10_see 57 = .ok (.getfield 11, 3) := by decide +kernel
theorem dX10_see_60 : decode cX10_see 60 = .ok (.bipush 45, 2) := by decide +kernel
theorem dX10_see_62 : decode cX10_see 62 = .ok (.iaload, 1) := by decide +kernel
theorem dX10_see_63 : decode cX10_see 63 = .ok (.imul, 1) := by decide +kernel
theorem dX10_see_64 : decode cX10_see 64 = .ok (.iadd, 1) := by decide +kernel
theorem dX10_see_65 : decode cX10_see 65 = .ok (.istore_n 3, 1) := by decide +kernel
theorem dX10_see_66 : decode cX10_see 66 = .ok (.aload_n 0, 1) := by decide +kernel
theorem dX10_see_67 : decode cX10_see 67 = .ok (.getfield 11, 3) := by decide +kernel
theorem dX10_see_70 : decode cX10_see 70 = .ok (.iload_n 3, 1) := by decide +kernel
theorem dX10_see_71 : decode cX10_see 71 = .ok (.iload_n 1, 1) := by decide +kernel
theorem dX10_see_72 : decode cX10_see 72 = .ok (.iastore, 1) := by decide +kernel
theorem dX10_see_73 : decode cX10_see 73 = .ok (.aload_n 0, 1) := by decide +kernel
theorem dX10_see_74 : decode cX10_see 74 = .ok (.getfield 11, 3) := by decide +kernel
theorem dX10_see_77 : decode cX10_see 77 = .ok (.iload_n 3, 1) := by decide +kernel
theorem dX10_see_78 : decode cX10_see 78 = .ok (.iconst 1, 1) := by decide +kernel
theorem dX10_see_79 : decode cX10_see 79 = .ok (.iadd, 1) := by decide +kernel
theorem dX10_see_80 : decode cX10_see 80 = .ok (.iload_n 2, 1) := by decide +kernel
theorem dX10_see_81 : decode cX10_see 81 = .ok (.iastore, 1) := by decide +kernel
theorem dX10_see_82 : decode cX10_see 82 = .ok (.aload_n 0, 1) := by decide +kernel
theorem dX10_see_83 : decode cX10_see 83 = .ok (.getfield 11, 3) := by decide +kernel
theorem dX10_see_86 : decode cX10_see 86 = .ok (.bipush 45, 2) := by decide +kernel
theorem dX10_see_88 : decode cX10_see 88 = .ok (.dup2, 1) := by decide +kernel
theorem dX10_see_89 : decode cX10_see 89 = .ok (.iaload, 1) := by decide +kernel
theorem dX10_see_90 : decode cX10_see 90 = .ok (.iconst 1, 1) := by decide +kernel
theorem dX10_see_91 : decode cX10_see 91 = .ok (.iadd, 1) := by decide +kernel
theorem dX10_see_92 : decode cX10_see 92 = .ok (.iastore, 1) := by decide +kernel
theorem dX10_see_93 : decode cX10_see 93 = .ok (.aload_n 0, 1) := by decide +kernel
theorem dX10_see_94 : decode cX10_see 94 = .ok (.getfield 11, 3) := by decide +kernel
theorem dX10_see_97 : decode cX10_see 97 = .ok (.bipush 45, 2) := by decide +kernel
theorem dX10_see_99 : decode cX10_see 99 = .ok (.iaload, 1) := by decide +kernel
theorem dX10_see_100 : decode cX10_see 100 = .ok (.ireturn, 1) := by decide +kernel
set_option maxRecDepth 20000 in
theorem ggX10_otherwise_X10_joins : GoodIn wsX10_otherwise wsX10_joins := goodIn_r _ [7, 1, 2, 8, 9, 10, 11, 6, 12, 13, 14, 15, 16, 17, 18, 19, 20, 21, 22, 23, 24, 25, 26, 27, 28, 29, 30, 31, 32, 33, 34, 35, 36, 37, 38, 39, 40, 41, 42, 43, 44, 45, 46, 47, 48, 49, 50, 51, 52, 53, 54, 55, 56, 57, 58] (by decide +kernel) (by decide +kernel)
set_option maxRecDepth 20000 in
theorem gX10_otherwise_X10_joins : GoodIn wsX10_otherwise (wsV RX10 179 RX10 yX10_joins wsX10_joins) := goodIn_app (goodIn_of _ (by decide +kernel)) ggX10_otherwise_X10_joins
theorem dX10_otherwise_0 : decode cX10_otherwise 0 = .ok (.aload_n 0, 1) := by decide +kernel
theorem dX10_otherwise_1 : decode cX10_otherwise 1 = .ok (.invokevirtual 179, 3) := by decide +kernel
theorem dX10_otherwise_4 : decode cX10_otherwise 4 = .ok (.iconst 0, 1) := by decide +kernel
theorem dX10_otherwise_5 : decode cX10_otherwise 5 = .ok (.istore_n 3, 1) := by decide +kernel
theorem dX10_otherwise_6 : decode cX10_otherwise 6 = .ok (.iload_n 3, 1) := by decide +kernel
theorem dX10_otherwise_7 : decode cX10_otherwise 7 = .ok (.iload_n 2, 1) := by decide +kernel
theorem dX10_otherwise_8 : decode cX10_otherwise 8 = .ok (.if_icmp .ge 41, 3) := by decide +kernel
theorem dX10_otherwise_11 : decode cX10_otherwise 11 = .ok (.aload_n 0, 1) := by decide +kernel
theorem dX10_otherwise_12 : decode cX10_otherwise 12 = .ok (.getfield 33, 3) := by decide +kernel
theorem dX10_otherwise_15 : decode cX10_otherwise 15 = .ok (.aload_n 0, 1) := by decide +kernel
theorem dX10_otherwise_16 : decode cX10_otherwise 16 = .ok (.getfield 11, 3) := by decide +kernel
theorem dX10_otherwise_19 : decode cX10_otherwise 19 = .ok (.iload_n 1, 1) := by decide +kernel
theorem dX10_otherwise_20 : decode cX10_otherwise 20 = .ok (.iconst 2, 1) := by decide +kernel
theorem dX10_otherwise_21 : decode cX10_otherwise 21 = .ok (.iload_n 3, 1) := by decide +kernel
theorem dX10_otherwise_22 : decode cX10_otherwise 22 = .ok (.imul, 1) := by decide +kernel
theorem dX10_otherwise_23 : decode cX10_otherwise 23 = .ok (.iadd, 1) := by decide +kernel
theorem dX10_otherwise_24 : decode cX10_otherwise 24 = .ok (.iaload, 1) := by decide +kernel
theorem dX10_otherwise_25 : decode cX10_otherwise 25 = .ok (.iaload, 1) := by decide +kernel
theorem dX10_otherwise_26 : decode cX10_otherwise 26 = .ok (.aload_n 0, 1) := by decide +kernel
theorem dX10_otherwise_27 : decode cX10_otherwise 27 = .ok (.getfield 11, 3) := by decide +kernel
theorem dX10_otherwise_30 : decode cX10_otherwise 30 = .ok (.iload_n 1, 1) := by decide +kernel
theorem dX10_otherwise_31 : decode cX10_otherwise 31 = .ok (.iconst 2, 1) := by decide +kernel
theorem dX10_otherwise_32 : decode cX10_otherwise 32 = .ok (.iload_n 3, 1) := by decide +kernel
theorem dX10_otherwise_33 : decode cX10_otherwise 33 = .ok (.imul, 1) := by decide +kernel
theorem dX10_otherwise_34 : decode cX10_otherwise 34 = .ok (.iadd, 1) := by decide +kernel
theorem dX10_otherwise_35 : decode cX10_otherwise 35 = .ok (.iconst 1, 1) := by decide +kernel
theorem dX10_otherwise_36 : decode cX10_otherwise 36 = .ok (.iadd, 1) := by decide +kernel
theorem dX10_otherwise_37 : decode cX10_otherwise 37 = .ok (.iaload, 1) := by decide +kernel
theorem dX10_otherwise_38 : decode cX10_otherwise 38 = .ok (.if_icmp .eq 5, 3) := by decide +kernel
theorem dX10_otherwise_41 : decode cX10_otherwise 41 = .ok (.iload_n 3, 1) := by decide +kernel
theorem dX10_otherwise_42 : decode cX10_otherwise 42 = .ok (.ireturn, 1) := by decide +kernel
theorem dX10_otherwise_43 : decode cX10_otherwise 43 = .ok (.iinc 3 1, 3) := by decide +kernel
theorem dX10_otherwise_46 : decode cX10_otherwise 46 = .ok (.goto (-40), 3) := by decide +kernel
theorem dX10_otherwise_49 : decode cX10_otherwise 49 = .ok (.bipush (-5), 2) := by decide +kernel
theorem dX10_otherwise_51 : decode cX10_otherwise 51 = .ok (.ireturn, 1) := by decide +kernel
set_option maxRecDepth 20000 in
theorem ggX10_fits_X10_isRain : GoodIn wsX10_fits wsX10_isRain := goodIn_r _ [5, 6, 7, 8, 4, 9] (by decide +kernel) (by decide +kernel)
set_option maxRecDepth 20000 in
theorem gX10_fits_X10_isRain : GoodIn wsX10_fits (va_wsS RX10 69 yX10_isRain wsX10_isRain) := goodIn_app (goodIn_of _ (by decide +kernel)) ggX10_fits_X10_isRain
set_option maxRecDepth 20000 in
theorem ggX10_fits_X10_in : GoodIn wsX10_fits wsX10_in := goodIn_r _ [9] (by decide +kernel) (by decide +kernel)
set_option maxRecDepth 20000 in
theorem gX10_fits_X10_in : GoodIn wsX10_fits (va_wsS RX10 61 yX10_in wsX10_in) := goodIn_app (goodIn_of _ (by decide +kernel)) ggX10_fits_X10_in
set_option maxRecDepth 20000 in
theorem ggX10_fits_X10_otherwise : GoodIn wsX10_fits wsX10_otherwise := goodIn_r _ [13, 14, 1, 15, 16, 17, 4, 18, 19, 20, 21, 22, 23, 24, 25, 26, 27, 28, 29, 30, 7, 8, 9, 31, 32, 33, 34, 35, 36, 37, 38, 39, 40, 41, 42, 43, 44, 45, 46, 47, 48, 49, 50, 51, 52, 53, 54, 55, 56, 57, 58, 59, 60, 61, 62, 63, 64, 65, 66] (by decide +kernel) (by decide +kernel)
set_option maxRecDepth 20000 in
theorem gX10_fits_X10_otherwise : GoodIn wsX10_fits (wsV RX10 231 RX10 yX10_otherwise wsX10_otherwise) := goodIn_app (goodIn_of _ (by decide +kernel)) ggX10_fits_X10_otherwise
theorem dX10_fits_0 : decode cX10_fits 0 = .ok (.iload_n 1, 1) := by decide +kernel
theorem dX10_fits_1 : decode cX10_fits 1 = .ok (.invokestatic 69, 3) := by decide +kernel
theorem dX10_fits_4 : decode cX10_fits 4 = .ok (.ifCond .eq 13, 3) := by decide +kernel
theorem dX10_fits_7 : decode cX10_fits 7 = .ok (.iload_n 2, 1) := by decide +kernel
theorem dX10_fits_8 : decode cX10_fits 8 = .ok (.i2l, 1) := by decide +kernel
theorem dX10_fits_9 : decode cX10_fits 9 = .ok (.lconst 0, 1) := by decide +kernel
theorem dX10_fits_10 : decode cX10_fits 10 = .ok (.lconst 1, 1) := by decide +kernel
theorem dX10_fits_11 : decode cX10_fits 11 = .ok (.invokestatic 61, 3) := by decide +kernel
theorem dX10_fits_14 : decode cX10_fits 14 = .ok (.ifCond .ne 5, 3) := by decide +kernel
theorem dX10_fits_17 : decode cX10_fits 17 = .ok (.iconst (-1), 1) := by decide +kernel
theorem dX10_fits_18 : decode cX10_fits 18 = .ok (.ireturn, 1) := by decide +kernel
theorem dX10_fits_19 : decode cX10_fits 19 = .ok (.aload_n 0, 1) := by decide +kernel
theorem dX10_fits_20 : decode cX10_fits 20 = .ok (.getfield 11, 3) := by decide +kernel
theorem dX10_fits_23 : decode cX10_fits 23 = .ok (.iload_n 1, 1) := by decide +kernel
theorem dX10_fits_24 : decode cX10_fits 24 = .ok (.iaload, 1) := by decide +kernel
theorem dX10_fits_25 : decode cX10_fits 25 = .ok (.istore_n 3, 1) := by decide +kernel
theorem dX10_fits_26 : decode cX10_fits 26 = .ok (.iconst 0, 1) := by decide +kernel
theorem dX10_fits_27 : decode cX10_fits 27 = .ok (.istore 4, 2) := by decide +kernel
theorem dX10_fits_29 : decode cX10_fits 29 = .ok (.bipush (-5), 2) := by decide +kernel
theorem dX10_fits_31 : decode cX10_fits 31 = .ok (.istore 5, 2) := by decide +kernel
theorem dX10_fits_33 : decode cX10_fits 33 = .ok (.bipush 20, 2) := by decide +kernel
theorem dX10_fits_35 : decode cX10_fits 35 = .ok (.istore 6, 2) := by decide +kernel
theorem dX10_fits_37 : decode cX10_fits 37 = .ok (.iload 6, 2) := by decide +kernel
theorem dX10_fits_39 : decode cX10_fits 39 = .ok (.ifCond .lt 71, 3) := by decide +kernel
theorem dX10_fits_42 : decode cX10_fits 42 = .ok (.aload_n 0, 1) := by decide +kernel
theorem dX10_fits_43 : decode cX10_fits 43 = .ok (.getfield 11, 3) := by decide +kernel
theorem dX10_fits_46 : decode cX10_fits 46 = .ok (.iload_n 1, 1) := by decide +kernel
theorem dX10_fits_47 : decode cX10_fits 47 = .ok (.iload 6, 2) := by decide +kernel
theorem dX10_fits_49 : decode cX10_fits 49 = .ok (.iastore, 1) := by decide +kernel
theorem dX10_fits_50 : decode cX10_fits 50 = .ok (.aload_n 0, 1) := by decide +kernel
theorem dX10_fits_51 : decode cX10_fits 51 = .ok (.bipush 46, 2) := by decide +kernel
theorem dX10_fits_53 : decode cX10_fits 53 = .ok (.aload_n 0, 1) := by decide +kernel
theorem dX10_fits_54 : decode cX10_fits 54 = .ok (.getfield 11, 3) := by decide +kernel
theorem dX10_fits_57 : decode cX10_fits 57 = .ok (.bipush 45, 2) := by decide +kernel
theorem dX10_fits_59 : decode cX10_fits 59 = .ok (.iaload, 1) := by decide +kernel
theorem dX10_fits_60 : decode cX10_fits 60 = .ok (.invokevirtual 231, 3) := by decide +kernel
theorem dX10_fits_63 : decode cX10_fits 63 = .ok (.bipush (-5), 2) := by decide +kernel
theorem dX10_fits_65 : decode cX10_fits 65 = .ok (.if_icmp .ne 7, 3) := by decide +kernel
theorem dX10_fits_68 : decode cX10_fits 68 = .ok (.iconst 1, 1) := by decide +kernel
theorem dX10_fits_69 : decode cX10_fits 69 = .ok (.goto 4, 3) := by decide +kernel
theorem dX10_fits_72 : decode cX10_fits 72 = .ok (.iconst 0, 1) := by decide +kernel
theorem dX10_fits_73 : decode cX10_fits 73 = .ok (.istore 7, 2) := by decide +kernel
theorem dX10_fits_75 : decode cX10_fits 75 = .ok (.iload 4, 2) := by decide +kernel
theorem dX10_fits_77 : decode cX10_fits 77 = .ok (.iload 7, 2) := by decide +kernel
theorem dX10_fits_79 : decode cX10_fits 79 = .ok (.ifCond .eq 7, 3) := by decide +kernel
theorem dX10_fits_82 : decode cX10_fits 82 = .ok (.iconst 1, 1) := by decide +kernel
theorem dX10_fits_83 : decode cX10_fits 83 = .ok (.goto 4, 3) := by decide +kernel
theorem dX10_fits_86 : decode cX10_fits 86 = .ok (.iconst 0, 1) := by decide +kernel
theorem dX10_fits_87 : decode cX10_fits 87 = .ok (.iadd, 1) := by decide +kernel
theorem dX10_fits_88 : decode cX10_fits 88 = .ok (.istore 4, 2) := by decide +kernel
theorem dX10_fits_90 : decode cX10_fits 90 = .ok (.iload 7, 2) := by decide +kernel
theorem dX10_fits_92 : decode cX10_fits 92 = .ok (.ifCond .eq 8, 3) := by decide +kernel
theorem dX10_fits_95 : decode cX10_fits 95 = .ok (.iload 6, 2) := by decide +kernel
theorem dX10_fits_97 : decode cX10_fits 97 = .ok (.goto 5, 3) := by decide +kernel
theorem dX10_fits_100 : decode cX10_fits 100 = .ok (.iload 5, 2) := by decide +kernel
theorem dX10_fits_102 : decode cX10_fits 102 = .ok (.istore 5, 2) := by decide +kernel
theorem dX10_fits_104 : decode cX10_fits 104 = .ok (.iinc 6 (-1), 3) := by decide +kernel
theorem dX10_fits_107 : decode cX10_fits 107 = .ok (.goto (-70), 3) := by decide +kernel
theorem dX10_fits_110 : decode cX10_fits 110 = .ok (.aload_n 0, 1) := by decide +kernel
theorem dX10_fits_111 : decode cX10_fits 111 = .ok (.getfield 11, 3) := by decide +kernel
theorem dX10_fits_114 : decode cX10_fits 114 = .ok (.iload_n 1, 1) := by decide +kernel
theorem dX10_fits_115 : decode cX10_fits 115 = .ok (.iload_n 3, 1) := by decide +kernel
theorem dX10_fits_116 : decode cX10_fits 116 = .ok (.iastore, 1) := by decide +kernel
theorem dX10_fits_117 : decode cX10_fits 117 = .ok (.iload_n 2, 1) := by decide +kernel
theorem dX10_fits_118 : decode cX10_fits 118 = .ok (.ifCond .ne 8, 3) := by decide +kernel
theorem dX10_fits_121 : decode cX10_fits 121 = .ok (.iload 4, 2) := by decide +kernel
theorem dX10_fits_123 : decode cX10_fits 123 = .ok (.goto 5, 3) := by decide +kernel
theorem dX10_fits_126 : decode cX10_fits 126 = .ok (.iload 5, 2) := by decide +kernel
theorem dX10_fits_128 : decode cX10_fits 128 = .ok (.ireturn, 1) := by decide +kernel
theorem dX10_lowest_0 : decode cX10_lowest 0 = .ok (.lload_n 0, 1) := by decide +kernel
theorem dX10_lowest_1 : decode cX10_lowest 1 = .ok (.lstore 5, 2) := by decide +kernel
theorem dX10_lowest_3 : decode cX10_lowest 3 = .ok (.lload_n 2, 1) := by decide +kernel
theorem dX10_lowest_4 : decode cX10_lowest 4 = .ok (.lstore 7, 2) := by decide +kernel
theorem dX10_lowest_6 : decode cX10_lowest 6 = .ok (.lload 7, 2) := by decide +kernel
theorem dX10_lowest_8 : decode cX10_lowest 8 = .ok (.lconst 0, 1) := by decide +kernel
theorem dX10_lowest_9 : decode cX10_lowest 9 = .ok (.lcmp, 1) := by decide +kernel
theorem dX10_lowest_10 : decode cX10_lowest 10 = .ok (.ifCond .eq 21, 3) := by decide +kernel
theorem dX10_lowest_13 : decode cX10_lowest 13 = .ok (.lload 5, 2) := by decide +kernel
theorem dX10_lowest_15 : decode cX10_lowest 15 = .ok (.lload 7, 2) := by decide +kernel
theorem dX10_lowest_17 : decode cX10_lowest 17 = .ok (.lrem, 1) := by decide +kernel
theorem dX10_lowest_18 : decode cX10_lowest 18 = .ok (.lstore 9, 2) := by decide +kernel
theorem dX10_lowest_20 : decode cX10_lowest 20 = .ok (.lload 7, 2) := by decide +kernel
theorem dX10_lowest_22 : decode cX10_lowest 22 = .ok (.lstore 5, 2) := by decide +kernel
theorem dX10_lowest_24 : decode cX10_lowest 24 = .ok (.lload 9, 2) := by decide +kernel
theorem dX10_lowest_26 : decode cX10_lowest 26 = .ok (.lstore 7, 2) := by decide +kernel
theorem dX10_lowest_28 : decode cX10_lowest 28 = .ok (.goto (-22), 3) := by decide +kernel
theorem dX10_lowest_31 : decode cX10_lowest 31 = .ok (.iload 4, 2) := by decide +kernel
theorem dX10_lowest_33 : decode cX10_lowest 33 = .ok (.ifCond .ne 7, 3) := by decide +kernel
theorem dX10_lowest_36 : decode cX10_lowest 36 = .ok (.lload_n 0, 1) := by decide +kernel
theorem dX10_lowest_37 : decode cX10_lowest 37 = .ok (.goto 4, 3) := by decide +kernel
theorem dX10_lowest_40 : decode cX10_lowest 40 = .ok (.lload_n 2, 1) := by decide +kernel
theorem dX10_lowest_41 : decode cX10_lowest 41 = .ok (.lload 5, 2) := by decide +kernel
theorem dX10_lowest_43 : decode cX10_lowest 43 = .ok (.ldiv, 1) := by decide +kernel
theorem dX10_lowest_44 : decode cX10_lowest 44 = .ok (.lreturn, 1) := by decide +kernel
set_option maxRecDepth 20000 in
theorem ggX10_odds_X10_isRain : GoodIn wsX10_odds wsX10_isRain := goodIn_r _ [8, 9, 10, 11, 7, 12] (by decide +kernel) (by decide +kernel)
set_option maxRecDepth 20000 in
theorem gX10_odds_X10_isRain : GoodIn wsX10_odds (va_wsS RX10 69 yX10_isRain wsX10_isRain) := goodIn_app (goodIn_of _ (by decide +kernel)) ggX10_odds_X10_isRain
set_option maxRecDepth 20000 in
theorem ggX10_odds_X10_in : GoodIn wsX10_odds wsX10_in := goodIn_r _ [12] (by decide +kernel) (by decide +kernel)
set_option maxRecDepth 20000 in
theorem gX10_odds_X10_in : GoodIn wsX10_odds (va_wsS RX10 61 yX10_in wsX10_in) := goodIn_app (goodIn_of _ (by decide +kernel)) ggX10_odds_X10_in
set_option maxRecDepth 20000 in
theorem ggX10_odds_X10_peak : GoodIn wsX10_odds wsX10_peak := goodIn_r _ [16, 17, 18, 19, 20, 7, 21, 3, 22, 23, 24, 25, 26, 27, 28, 29, 30, 31, 32, 33, 10, 11, 12, 34, 35, 36, 37, 38, 39, 40, 41, 42, 43, 44, 45, 46, 47, 48, 49, 50, 54, 55, 56, 57, 58, 59, 60, 61, 62, 63, 64, 65, 66, 67, 68, 69, 70, 71, 72, 73, 74, 75] (by decide +kernel) (by decide +kernel)
set_option maxRecDepth 20000 in
theorem gX10_odds_X10_peak : GoodIn wsX10_odds (wsV RX10 223 RX10 yX10_peak wsX10_peak) := goodIn_app (goodIn_of _ (by decide +kernel)) ggX10_odds_X10_peak
set_option maxRecDepth 20000 in
theorem ggX10_odds_X10_lowest : GoodIn wsX10_odds wsX10_lowest := goodIn_r _ [53] (by decide +kernel) (by decide +kernel)
set_option maxRecDepth 20000 in
theorem gX10_odds_X10_lowest : GoodIn wsX10_odds (va_wsS RX10 238 yX10_lowest wsX10_lowest) := goodIn_app (goodIn_of _ (by decide +kernel)) ggX10_odds_X10_lowest
theorem dX10_odds_0 : decode cX10_odds 0 = .ok (.iload_n 1, 1) := by decide +kernel
theorem dX10_odds_1 : decode cX10_odds 1 = .ok (.invokestatic 69, 3) := by decide +kernel
theorem dX10_odds_4 : decode cX10_odds 4 = .ok (.ifCond .eq 25, 3) := by decide +kernel
theorem dX10_odds_7 : decode cX10_odds 7 = .ok (.iload_n 2, 1) := by decide +kernel
theorem dX10_odds_8 : decode cX10_odds 8 = .ok (.i2l, 1) := by decide +kernel
theorem dX10_odds_9 : decode cX10_odds 9 = .ok (.lconst 0, 1) := by decide +kernel
theorem dX10_odds_10 : decode cX10_odds 10 = .ok (.ldc2_w 229, 3) := by decide +kernel
theorem dX10_odds_13 : decode cX10_odds 13 = .ok (.invokestatic 61, 3) := by decide +kernel
theorem dX10_odds_16 : decode cX10_odds 16 = .ok (.ifCond .eq 13, 3) := by decide +kernel
theorem dX10_odds_19 : decode cX10_odds 19 = .ok (.iload_n 3, 1) := by decide +kernel
theorem dX10_odds_20 : decode cX10_odds 20 = .ok (.i2l, 1) := by decide +kernel
theorem dX10_odds_21 : decode cX10_odds 21 = .ok (.lconst 0, 1) := by decide +kernel
theorem dX10_odds_22 : decode cX10_odds 22 = .ok (.lconst 1, 1) := by decide +kernel
theorem dX10_odds_23 : decode cX10_odds 23 = .ok (.invokestatic 61, 3) := by decide +kernel
theorem dX10_odds_26 : decode cX10_odds 26 = .ok (.ifCond .ne 7, 3) := by decide +kernel
theorem dX10_odds_29 : decode cX10_odds 29 = .ok (.ldc2_w 234, 3) := by decide +kernel
theorem dX10_odds_32 : decode cX10_odds 32 = .ok (.lreturn, 1) := by decide +kernel
theorem dX10_odds_33 : decode cX10_odds 33 = .ok (.aload_n 0, 1) := by decide +kernel
theorem dX10_odds_34 : decode cX10_odds 34 = .ok (.getfield 11, 3) := by decide +kernel
theorem dX10_odds_37 : decode cX10_odds 37 = .ok (.iload_n 1, 1) := by decide +kernel
theorem dX10_odds_38 : decode cX10_odds 38 = .ok (.iaload, 1) := by decide +kernel
theorem dX10_odds_39 : decode cX10_odds 39 = .ok (.istore 4, 2) := by decide +kernel
theorem dX10_odds_41 : decode cX10_odds 41 = .ok (.iconst 0, 1) := by decide +kernel
theorem dX10_odds_42 : decode cX10_odds 42 = .ok (.istore 5, 2) := by decide +kernel
theorem dX10_odds_44 : decode cX10_odds 44 = .ok (.iconst 0, 1) := by decide +kernel
theorem dX10_odds_45 : decode cX10_odds 45 = .ok (.istore 6, 2) := by decide +kernel
theorem dX10_odds_47 : decode cX10_odds 47 = .ok (.iload 6, 2) := by decide +kernel
theorem dX10_odds_49 : decode cX10_odds 49 = .ok (.bipush 20, 2) := by decide +kernel
theorem dX10_odds_51 : decode cX10_odds 51 = .ok (.if_icmp .gt 35, 3) := by decide +kernel
theorem dX10_odds_54 : decode cX10_odds 54 = .ok (.aload_n 0, 1) := by decide +kernel
theorem dX10_odds_55 : decode cX10_odds 55 = .ok (.getfield 11, 3) := by decide +kernel
theorem dX10_odds_58 : decode cX10_odds 58 = .ok (.iload_n 1, 1) := by decide +kernel
theorem dX10_odds_59 : decode cX10_odds 59 = .ok (.iload 6, 2) := by decide +kernel
theorem dX10_odds_61 : decode cX10_odds 61 = .ok (.iastore, 1) := by decide +kernel
theorem dX10_odds_62 : decode cX10_odds 62 = .ok (.iload 5, 2) := by decide +kernel
theorem dX10_odds_64 : decode cX10_odds 64 = .ok (.aload_n 0, 1) := by decide +kernel
theorem dX10_odds_65 : decode cX10_odds 65 = .ok (.invokevirtual 223, 3) := by decide +kernel
theorem dX10_odds_68 : decode cX10_odds 68 = .ok (.iload_n 2, 1) := by decide +kernel
theorem dX10_odds_69 : decode cX10_odds 69 = .ok (.if_icmp .le 7, 3) := by decide +kernel
theorem dX10_odds_72 : decode cX10_odds 72 = .ok (.iconst 1, 1) := by decide +kernel
theorem dX10_odds_73 : decode cX10_odds 73 = .ok (.goto 4, 3) := by decide +kernel
theorem dX10_odds_76 : decode cX10_odds 76 = .ok (.iconst 0, 1) := by decide +kernel
theorem dX10_odds_77 : decode cX10_odds 77 = .ok (.iadd, 1) := by decide +kernel
theorem dX10_odds_78 : decode cX10_odds 78 = .ok (.istore 5, 2) := by decide +kernel
theorem dX10_odds_80 : decode cX10_odds 80 = .ok (.iinc 6 1, 3) := by decide +kernel
theorem dX10_odds_83 : decode cX10_odds 83 = .ok (.goto (-36), 3) := by decide +kernel
theorem dX10_odds_86 : decode cX10_odds 86 = .ok (.aload_n 0, 1) := by decide +kernel
theorem dX10_odds_87 : decode cX10_odds 87 = .ok (.getfield 11, 3) := by decide +kernel
theorem dX10_odds_90 : decode cX10_odds 90 = .ok (.iload_n 1, 1) := by decide +kernel
theorem dX10_odds_91 : decode cX10_odds 91 = .ok (.iload 4, 2) := by decide +kernel
theorem dX10_odds_93 : decode cX10_odds 93 = .ok (.iastore, 1) := by decide +kernel
theorem dX10_odds_94 : decode cX10_odds 94 = .ok (.iload 5, 2) := by decide +kernel
theorem dX10_odds_96 : decode cX10_odds 96 = .ok (.i2l, 1) := by decide +kernel
theorem dX10_odds_97 : decode cX10_odds 97 = .ok (.ldc2_w 236, 3) := by decide +kernel
theorem dX10_odds_100 : decode cX10_odds 100 = .ok (.iload_n 3, 1) := by decide +kernel
theorem dX10_odds_101 : decode cX10_odds 101 = .ok (.invokestatic 238, 3) := by decide +kernel
theorem dX10_odds_104 : decode cX10_odds 104 = .ok (.lreturn, 1) := by decide +kernel
set_option maxRecDepth 20000 in
theorem ggX10_mean_X10_joins : GoodIn wsX10_mean wsX10_joins := goodIn_r _ [7, 1, 8, 9, 10, 11, 12, 6, 13, 14, 15, 16, 17, 18, 19, 20, 21, 22, 23, 24, 25, 26, 27, 28, 29, 30, 31, 32, 33, 34, 35, 36, 37, 44, 45, 46, 47, 48, 49, 50, 51, 52, 53, 54, 55, 56, 57, 58, 59, 60, 61, 62, 63, 64, 65] (by decide +kernel) (by decide +kernel)
set_option maxRecDepth 20000 in
theorem gX10_mean_X10_joins : GoodIn wsX10_mean (wsV RX10 179 RX10 yX10_joins wsX10_joins) := goodIn_app (goodIn_of _ (by decide +kernel)) ggX10_mean_X10_joins
set_option maxRecDepth 20000 in
theorem ggX10_mean_X10_in : GoodIn wsX10_mean wsX10_in := goodIn_r _ [23] (by decide +kernel) (by decide +kernel)
set_option maxRecDepth 20000 in
theorem gX10_mean_X10_in : GoodIn wsX10_mean (va_wsS RX10 61 yX10_in wsX10_in) := goodIn_app (goodIn_of _ (by decide +kernel)) ggX10_mean_X10_in
set_option maxRecDepth 20000 in
theorem ggX10_mean_X10_most : GoodIn wsX10_mean wsX10_most := goodIn_r _ [40] (by decide +kernel) (by decide +kernel)
set_option maxRecDepth 20000 in
theorem gX10_mean_X10_most : GoodIn wsX10_mean (va_wsS RX10 182 yX10_most wsX10_most) := goodIn_app (goodIn_of _ (by decide +kernel)) ggX10_mean_X10_most
set_option maxRecDepth 20000 in
theorem ggX10_mean_X10_lowest : GoodIn wsX10_mean wsX10_lowest := goodIn_r _ [43] (by decide +kernel) (by decide +kernel)
set_option maxRecDepth 20000 in
theorem gX10_mean_X10_lowest : GoodIn wsX10_mean (va_wsS RX10 238 yX10_lowest wsX10_lowest) := goodIn_app (goodIn_of _ (by decide +kernel)) ggX10_mean_X10_lowest
theorem dX10_mean_0 : decode cX10_mean 0 = .ok (.aload_n 0, 1) := by decide +kernel
theorem dX10_mean_1 : decode cX10_mean 1 = .ok (.invokevirtual 179, 3) := by decide +kernel
theorem dX10_mean_4 : decode cX10_mean 4 = .ok (.iconst 0, 1) := by decide +kernel
theorem dX10_mean_5 : decode cX10_mean 5 = .ok (.istore_n 2, 1) := by decide +kernel
theorem dX10_mean_6 : decode cX10_mean 6 = .ok (.iconst 0, 1) := by decide +kernel
theorem dX10_mean_7 : decode cX10_mean 7 = .ok (.istore_n 3, 1) := by decide +kernel
theorem dX10_mean_8 : decode cX10_mean 8 = .ok (.iload_n 3, 1) := by decide +kernel
theorem dX10_mean_9 : decode cX10_mean 9 = .ok (.bipush 30, 2) := by decide +kernel
theorem dX10_mean_11 : decode cX10_mean 11 = .ok (.if_icmp .ge 26, 3) := by decide +kernel
theorem dX10_mean_14 : decode cX10_mean 14 = .ok (.iload_n 2, 1) := by decide +kernel
theorem dX10_mean_15 : decode cX10_mean 15 = .ok (.aload_n 0, 1) := by decide +kernel
theorem dX10_mean_16 : decode cX10_mean 16 = .ok (.getfield 33, 3) := by decide +kernel
theorem dX10_mean_19 : decode cX10_mean 19 = .ok (.iload_n 3, 1) := by decide +kernel
theorem dX10_mean_20 : decode cX10_mean 20 = .ok (.iaload, 1) := by decide +kernel
theorem dX10_mean_21 : decode cX10_mean 21 = .ok (.ifCond .le 7, 3) := by decide +kernel
theorem dX10_mean_24 : decode cX10_mean 24 = .ok (.iconst 1, 1) := by decide +kernel
theorem dX10_mean_25 : decode cX10_mean 25 = .ok (.goto 4, 3) := by decide +kernel
theorem dX10_mean_28 : decode cX10_mean 28 = .ok (.iconst 0, 1) := by decide +kernel
theorem dX10_mean_29 : decode cX10_mean 29 = .ok (.iadd, 1) := by decide +kernel
theorem dX10_mean_30 : decode cX10_mean 30 = .ok (.istore_n 2, 1) := by decide +kernel
theorem dX10_mean_31 : decode cX10_mean 31 = .ok (.iinc 3 1, 3) := by decide +kernel
theorem dX10_mean_34 : decode cX10_mean 34 = .ok (.goto (-26), 3) := by decide +kernel
theorem dX10_mean_37 : decode cX10_mean 37 = .ok (.iload_n 2, 1) := by decide +kernel
theorem dX10_mean_38 : decode cX10_mean 38 = .ok (.ifCond .eq 13, 3) := by decide +kernel
theorem dX10_mean_41 : decode cX10_mean 41 = .ok (.iload_n 1, 1) := by decide +kernel
theorem dX10_mean_42 : decode cX10_mean 42 = .ok (.i2l, 1) := by decide +kernel
theorem dX10_mean_43 : decode cX10_mean 43 = .ok (.lconst 0, 1) := by decide +kernel
theorem dX10_mean_44 : decode cX10_mean 44 = .ok (.lconst 1, 1) := by decide +kernel
theorem dX10_mean_45 : decode cX10_mean 45 = .ok (.invokestatic 61, 3) := by decide +kernel
theorem dX10_mean_48 : decode cX10_mean 48 = .ok (.ifCond .ne 9, 3) := by decide +kernel
theorem dX10_mean_51 : decode cX10_mean 51 = .ok (.ldc2_w 234, 3) := by decide +kernel
theorem dX10_mean_54 : decode cX10_mean 54 = .ok (.goto 21, 3) := by decide +kernel
theorem dX10_mean_57 : decode cX10_mean 57 = .ok (.aload_n 0, 1) := by decide +kernel
theorem dX10_mean_58 : decode cX10_mean 58 = .ok (.getfield 33, 3) := by decide +kernel
theorem dX10_mean_61 : decode cX10_mean 61 = .ok (.iconst 0, 1) := by decide +kernel
theorem dX10_mean_62 : decode cX10_mean 62 = .ok (.bipush 30, 2) := by decide +kernel
theorem dX10_mean_64 : decode cX10_mean 64 = .ok (.iconst 0, 1) := by decide +kernel
theorem dX10_mean_65 : decode cX10_mean 65 = .ok (.invokestatic 182, 3) := by decide +kernel
theorem dX10_mean_68 : decode cX10_mean 68 = .ok (.i2l, 1) := by decide +kernel
theorem dX10_mean_69 : decode cX10_mean 69 = .ok (.iload_n 2, 1) := by decide +kernel
theorem dX10_mean_70 : decode cX10_mean 70 = .ok (.i2l, 1) := by decide +kernel
theorem dX10_mean_71 : decode cX10_mean 71 = .ok (.iload_n 1, 1) := by decide +kernel
theorem dX10_mean_72 : decode cX10_mean 72 = .ok (.invokestatic 238, 3) := by decide +kernel
theorem dX10_mean_75 : decode cX10_mean 75 = .ok (.lreturn, 1) := by decide +kernel
set_option maxRecDepth 20000 in
theorem ggX10_event_X10_in : GoodIn wsX10_event wsX10_in := goodIn_r _ [7] (by decide +kernel) (by decide +kernel)
set_option maxRecDepth 20000 in
theorem gX10_event_X10_in : GoodIn wsX10_event (va_wsS RX10 61 yX10_in wsX10_in) := goodIn_app (goodIn_of _ (by decide +kernel)) ggX10_event_X10_in
set_option maxRecDepth 20000 in
theorem ggX10_event_X10_isRain : GoodIn wsX10_event wsX10_isRain := goodIn_r _ [10, 3, 4, 5, 6, 7] (by decide +kernel) (by decide +kernel)
set_option maxRecDepth 20000 in
theorem gX10_event_X10_isRain : GoodIn wsX10_event (va_wsS RX10 69 yX10_isRain wsX10_isRain) := goodIn_app (goodIn_of _ (by decide +kernel)) ggX10_event_X10_isRain
set_option maxRecDepth 20000 in
theorem ggX10_event_X10_isBasin : GoodIn wsX10_event wsX10_isBasin := goodIn_r _ [14, 1, 4, 5, 6, 7, 15, 16, 17, 18, 19, 20, 21, 22, 23, 24, 25, 26, 27, 28, 29, 30, 31, 32, 33, 34, 35, 36] (by decide +kernel) (by decide +kernel)
set_option maxRecDepth 20000 in
theorem gX10_event_X10_isBasin : GoodIn wsX10_event (wsV RX10 81 RX10 yX10_isBasin wsX10_isBasin) := goodIn_app (goodIn_of _ (by decide +kernel)) ggX10_event_X10_isBasin
theorem dX10_event_0 : decode cX10_event 0 = .ok (.iload_n 1, 1) := by decide +kernel
theorem dX10_event_1 : decode cX10_event 1 = .ok (.iconst (-1), 1) := by decide +kernel
theorem dX10_event_2 : decode cX10_event 2 = .ok (.if_icmp .ne 13, 3) := by decide +kernel
theorem dX10_event_5 : decode cX10_event 5 = .ok (.aload_n 0, 1) := by decide +kernel
theorem dX10_event_6 : decode cX10_event 6 = .ok (.getfield 11, 3) := by decide +kernel
theorem dX10_event_9 : decode cX10_event 9 = .ok (.bipush 56, 2) := by decide +kernel
theorem dX10_event_11 : decode cX10_event 11 = .ok (.iconst 0, 1) := by decide +kernel
theorem dX10_event_12 : decode cX10_event 12 = .ok (.iastore, 1) := by decide +kernel
theorem dX10_event_13 : decode cX10_event 13 = .ok (.iconst 0, 1) := by decide +kernel
theorem dX10_event_14 : decode cX10_event 14 = .ok (.ireturn, 1) := by decide +kernel
theorem dX10_event_15 : decode cX10_event 15 = .ok (.iload_n 1, 1) := by decide +kernel
theorem dX10_event_16 : decode cX10_event 16 = .ok (.i2l, 1) := by decide +kernel
theorem dX10_event_17 : decode cX10_event 17 = .ok (.lconst 0, 1) := by decide +kernel
theorem dX10_event_18 : decode cX10_event 18 = .ok (.ldc2_w 212, 3) := by decide +kernel
theorem dX10_event_21 : decode cX10_event 21 = .ok (.invokestatic 61, 3) := by decide +kernel
theorem dX10_event_24 : decode cX10_event 24 = .ok (.ifCond .eq 28, 3) := by decide +kernel
theorem dX10_event_27 : decode cX10_event 27 = .ok (.iload_n 1, 1) := by decide +kernel
theorem dX10_event_28 : decode cX10_event 28 = .ok (.iconst 2, 1) := by decide +kernel
theorem dX10_event_29 : decode cX10_event 29 = .ok (.if_icmp .ge 10, 3) := by decide +kernel
theorem dX10_event_32 : decode cX10_event 32 = .ok (.iload_n 2, 1) := by decide +kernel
theorem dX10_event_33 : decode cX10_event 33 = .ok (.invokestatic 69, 3) := by decide +kernel
theorem dX10_event_36 : decode cX10_event 36 = .ok (.ifCond .eq 16, 3) := by decide +kernel
theorem dX10_event_39 : decode cX10_event 39 = .ok (.iload_n 1, 1) := by decide +kernel
theorem dX10_event_40 : decode cX10_event 40 = .ok (.iconst 2, 1) := by decide +kernel
theorem dX10_event_41 : decode cX10_event 41 = .ok (.if_icmp .ne 13, 3) := by decide +kernel
theorem dX10_event_44 : decode cX10_event 44 = .ok (.aload_n 0, 1) := by decide +kernel
theorem dX10_event_45 : decode cX10_event 45 = .ok (.iload_n 2, 1) := by decide +kernel
theorem dX10_event_46 : decode cX10_event 46 = .ok (.invokevirtual 81, 3) := by decide +kernel
theorem dX10_event_49 : decode cX10_event 49 = .ok (.ifCond .ne 5, 3) := by decide +kernel
theorem dX10_event_52 : decode cX10_event 52 = .ok (.iconst (-1), 1) := by decide +kernel
theorem dX10_event_53 : decode cX10_event 53 = .ok (.ireturn, 1) := by decide +kernel
theorem dX10_event_54 : decode cX10_event 54 = .ok (.iload_n 2, 1) := by decide +kernel
theorem dX10_event_55 : decode cX10_event 55 = .ok (.i2l, 1) := by decide +kernel
theorem dX10_event_56 : decode cX10_event 56 = .ok (.lconst 0, 1) := by decide +kernel
theorem dX10_event_57 : decode cX10_event 57 = .ok (.ldc2_w 67, 3) := by decide +kernel
theorem dX10_event_60 : decode cX10_event 60 = .ok (.invokestatic 61, 3) := by decide +kernel
theorem dX10_event_63 : decode cX10_event 63 = .ok (.ifCond .ne 6, 3) := by decide +kernel
theorem dX10_event_66 : decode cX10_event 66 = .ok (.bipush (-2), 2) := by decide +kernel
theorem dX10_event_68 : decode cX10_event 68 = .ok (.ireturn, 1) := by decide +kernel
theorem dX10_event_69 : decode cX10_event 69 = .ok (.aload_n 0, 1) := by decide +kernel
theorem dX10_event_70 : decode cX10_event 70 = .ok (.getfield 11, 3) := by decide +kernel
theorem dX10_event_73 : decode cX10_event 73 = .ok (.bipush 56, 2) := by decide +kernel
theorem dX10_event_75 : decode cX10_event 75 = .ok (.iaload, 1) := by decide +kernel
theorem dX10_event_76 : decode cX10_event 76 = .ok (.bipush 8, 2) := by decide +kernel
theorem dX10_event_78 : decode cX10_event 78 = .ok (.if_icmp .ne 6, 3) := by decide +kernel
theorem dX10_event_81 : decode cX10_event 81 = .ok (.bipush (-4), 2) := by decide +kernel
theorem dX10_event_83 : decode cX10_event 83 = .ok (.ireturn, 1) := by decide +kernel
theorem dX10_event_84 : decode cX10_event 84 = .ok (.bipush 57, 2) := by decide +kernel
theorem dX10_event_86 : decode cX10_event 86 = .ok (.iconst 2, 1) := by decide +kernel
theorem dX10_event_87 : decode cX10_event 87 = .ok (.aload_n 0, 1) := by decide +kernel
theorem dX10_event_88 : decode cX10_event 88 = .ok (.getfield 11, 3) := by decide +kernel
theorem dX10_event_91 : decode cX10_event 91 = .ok (.bipush 56, 2) := by decide +kernel
theorem dX10_event_93 : decode cX10_event 93 = .ok (.iaload, 1) := by decide +kernel
theorem dX10_event_94 : decode cX10_event 94 = .ok (.imul, 1) := by decide +kernel
theorem dX10_event_95 : decode cX10_event 95 = .ok (.iadd, 1) := by decide +kernel
theorem dX10_event_96 : decode cX10_event 96 = .ok (.istore_n 3, 1) := by decide +kernel
theorem dX10_event_97 : decode cX10_event 97 = .ok (.aload_n 0, 1) := by decide +kernel
theorem dX10_event_98 : decode cX10_event 98 = .ok (.getfield 11, 3) := by decide +kernel
theorem dX10_event_101 : decode cX10_event 101 = .ok (.iload_n 3, 1) := by decide +kernel
theorem dX10_event_102 : decode cX10_event 102 = .ok (.iload_n 1, 1) := by decide +kernel
theorem dX10_event_103 : decode cX10_event 103 = .ok (.iastore, 1) := by decide +kernel
theorem dX10_event_104 : decode cX10_event 104 = .ok (.aload_n 0, 1) := by decide +kernel
theorem dX10_event_105 : decode cX10_event 105 = .ok (.getfield 11, 3) := by decide +kernel
theorem dX10_event_108 : decode cX10_event 108 = .ok (.iload_n 3, 1) := by decide +kernel
theorem dX10_event_109 : decode cX10_event 109 = .ok (.iconst 1, 1) := by decide +kernel
theorem dX10_event_110 : decode cX10_event 110 = .ok (.iadd, 1) := by decide +kernel
theorem dX10_event_111 : decode cX10_event 111 = .ok (.iload_n 2, 1) := by decide +kernel
theorem dX10_event_112 : decode cX10_event 112 = .ok (.iastore, 1) := by decide +kernel
theorem dX10_event_113 : decode cX10_event 113 = .ok (.aload_n 0, 1) := by decide +kernel
theorem dX10_event_114 : decode cX10_event 114 = .ok (.getfield 11, 3) := by decide +kernel
theorem dX10_event_117 : decode cX10_event 117 = .ok (.bipush 56, 2) := by decide +kernel
theorem dX10_event_119 : decode cX10_event 119 = .ok (.dup2, 1) := by decide +kernel
theorem dX10_event_120 : decode cX10_event 120 = .ok (.iaload, 1) := by decide +kernel
theorem dX10_event_121 : decode cX10_event 121 = .ok (.iconst 1, 1) := by decide +kernel
theorem dX10_event_122 : decode cX10_event 122 = .ok (.iadd, 1) := by decide +kernel
theorem dX10_event_123 : decode cX10_event 123 = .ok (.iastore, 1) := by decide +kernel
theorem dX10_event_124 : decode cX10_event 124 = .ok (.aload_n 0, 1) := by decide +kernel
theorem dX10_event_125 : decode cX10_event 125 = .ok (.getfield 11, 3) := by decide +kernel
theorem dX10_event_128 : decode cX10_event 128 = .ok (.bipush 56, 2) := by decide +kernel
theorem dX10_event_130 : decode cX10_event 130 = .ok (.iaload, 1) := by decide +kernel
theorem dX10_event_131 : decode cX10_event 131 = .ok (.ireturn, 1) := by decide +kernel
theorem dX10_happens_0 : decode cX10_happens 0 = .ok (.iload_n 1, 1) := by decide +kernel
theorem dX10_happens_1 : decode cX10_happens 1 = .ok (.ifCond .ne 25, 3) := by decide +kernel
theorem dX10_happens_4 : decode cX10_happens 4 = .ok (.aload_n 0, 1) := by decide +kernel
theorem dX10_happens_5 : decode cX10_happens 5 = .ok (.getfield 11, 3) := by decide +kernel
theorem dX10_happens_8 : decode cX10_happens 8 = .ok (.iload_n 2, 1) := by decide +kernel
theorem dX10_happens_9 : decode cX10_happens 9 = .ok (.bipush 20, 2) := by decide +kernel
theorem dX10_happens_11 : decode cX10_happens 11 = .ok (.iconst 2, 1) := by decide +kernel
theorem dX10_happens_12 : decode cX10_happens 12 = .ok (.aload_n 0, 1) := by decide +kernel
theorem dX10_happens_13 : decode cX10_happens 13 = .ok (.getfield 11, 3) := by decide +kernel
theorem dX10_happens_16 : decode cX10_happens 16 = .ok (.iload_n 2, 1) := by decide +kernel
theorem dX10_happens_17 : decode cX10_happens 17 = .ok (.iaload, 1) := by decide +kernel
theorem dX10_happens_18 : decode cX10_happens 18 = .ok (.imul, 1) := by decide +kernel
theorem dX10_happens_19 : decode cX10_happens 19 = .ok (.invokestatic 159, 3) := by decide +kernel
theorem dX10_happens_22 : decode cX10_happens 22 = .ok (.iastore, 1) := by decide +kernel
theorem dX10_happens_23 : decode cX10_happens 23 = .ok (.goto 78, 3) := by decide +kernel
theorem dX10_happens_26 : decode cX10_happens 26 = .ok (.iload_n 1, 1) := by decide +kernel
theorem dX10_happens_27 : decode cX10_happens 27 = .ok (.iconst 1, 1) := by decide +kernel
theorem dX10_happens_28 : decode cX10_happens 28 = .ok (.if_icmp .ne 13, 3) := by decide +kernel
theorem dX10_happens_31 : decode cX10_happens 31 = .ok (.aload_n 0, 1) := by decide +kernel
theorem dX10_happens_32 : decode cX10_happens 32 = .ok (.getfield 11, 3) := by decide +kernel
theorem dX10_happens_35 : decode cX10_happens 35 = .ok (.iload_n 2, 1) := by decide +kernel
theorem dX10_happens_36 : decode cX10_happens 36 = .ok (.iconst 0, 1) := by decide +kernel
theorem dX10_happens_37 : decode cX10_happens 37 = .ok (.iastore, 1) := by decide +kernel
theorem dX10_happens_38 : decode cX10_happens 38 = .ok (.goto 63, 3) := by decide +kernel
theorem dX10_happens_41 : decode cX10_happens 41 = .ok (.iload_n 1, 1) := by decide +kernel
theorem dX10_happens_42 : decode cX10_happens 42 = .ok (.iconst 2, 1) := by decide +kernel
theorem dX10_happens_43 : decode cX10_happens 43 = .ok (.if_icmp .ne 22, 3) := by decide +kernel
theorem dX10_happens_46 : decode cX10_happens 46 = .ok (.aload_n 0, 1) := by decide +kernel
theorem dX10_happens_47 : decode cX10_happens 47 = .ok (.getfield 11, 3) := by decide +kernel
theorem dX10_happens_50 : decode cX10_happens 50 = .ok (.bipush 21, 2) := by decide +kernel
theorem dX10_happens_52 : decode cX10_happens 52 = .ok (.bipush 8, 2) := by decide +kernel
theorem dX10_happens_54 : decode cX10_happens 54 = .ok (.iload_n 2, 1) := by decide +kernel
theorem dX10_happens_55 : decode cX10_happens 55 = .ok (.imul, 1) := by decide +kernel
theorem dX10_happens_56 : decode cX10_happens 56 = .ok (.iadd, 1) := by decide +kernel
theorem dX10_happens_57 : decode cX10_happens 57 = .ok (.bipush 6, 2) := by decide +kernel
theorem dX10_happens_59 : decode cX10_happens 59 = .ok (.iadd, 1) := by decide +kernel
theorem dX10_happens_60 : decode cX10_happens 60 = .ok (.iconst 0, 1) := by decide +kernel
theorem dX10_happens_61 : decode cX10_happens 61 = .ok (.iastore, 1) := by decide +kernel
theorem dX10_happens_62 : decode cX10_happens 62 = .ok (.goto 39, 3) := by decide +kernel
theorem dX10_happens_65 : decode cX10_happens 65 = .ok (.bipush 7, 2) := by decide +kernel
theorem dX10_happens_67 : decode cX10_happens 67 = .ok (.istore_n 3, 1) := by decide +kernel
theorem dX10_happens_68 : decode cX10_happens 68 = .ok (.iload_n 3, 1) := by decide +kernel
theorem dX10_happens_69 : decode cX10_happens 69 = .ok (.ifCond .lt 32, 3) := by decide +kernel
theorem dX10_happens_72 : decode cX10_happens 72 = .ok (.aload_n 0, 1) := by decide +kernel
theorem dX10_happens_73 : decode cX10_happens 73 = .ok (.getfield 11, 3) := by decide +kernel
theorem dX10_happens_76 : decode cX10_happens 76 = .ok (.iload_n 3, 1) := by decide +kernel
theorem dX10_happens_77 : decode cX10_happens 77 = .ok (.iload_n 3, 1) := by decide +kernel
theorem dX10_happens_78 : decode cX10_happens 78 = .ok (.iload_n 2, 1) := by decide +kernel
theorem dX10_happens_79 : decode cX10_happens 79 = .ok (.if_icmp .ge 7, 3) := by decide +kernel
theorem dX10_happens_82 : decode cX10_happens 82 = .ok (.iconst 0, 1) := by decide +kernel
theorem dX10_happens_83 : decode cX10_happens 83 = .ok (.goto 11, 3) := by decide +kernel
theorem dX10_happens_86 : decode cX10_happens 86 = .ok (.aload_n 0, 1) := by decide +kernel
theorem dX10_happens_87 : decode cX10_happens 87 = .ok (.getfield 11, 3) := by decide +kernel
theorem dX10_happens_90 : decode cX10_happens 90 = .ok (.iload_n 3, 1) := by decide +kernel
theorem dX10_happens_91 : decode cX10_happens 91 = .ok (.iload_n 2, 1) := by decide +kernel
theorem dX10_happens_92 : decode cX10_happens 92 = .ok (.isub, 1) := by decide +kernel
theorem dX10_happens_93 : decode cX10_happens 93 = .ok (.iaload, 1) := by decide +kernel
theorem dX10_happens_94 : decode cX10_happens 94 = .ok (.iastore, 1) := by decide +kernel
theorem dX10_happens_95 : decode cX10_happens 95 = .ok (.iinc 3 (-1), 3) := by decide +kernel
theorem dX10_happens_98 : decode cX10_happens 98 = .ok (.goto (-30), 3) := by decide +kernel
theorem dX10_happens_101 : decode cX10_happens 101 = .ok (.return_, 1) := by decide +kernel
theorem dX10_copies_0 : decode cX10_copies 0 = .ok (.iconst 0, 1) := by decide +kernel
theorem dX10_copies_1 : decode cX10_copies 1 = .ok (.istore_n 2, 1) := by decide +kernel
theorem dX10_copies_2 : decode cX10_copies 2 = .ok (.iload_n 2, 1) := by decide +kernel
theorem dX10_copies_3 : decode cX10_copies 3 = .ok (.bipush 90, 2) := by decide +kernel
theorem dX10_copies_5 : decode cX10_copies 5 = .ok (.if_icmp .ge 15, 3) := by decide +kernel
theorem dX10_copies_8 : decode cX10_copies 8 = .ok (.aload_n 1, 1) := by decide +kernel
theorem dX10_copies_9 : decode cX10_copies 9 = .ok (.iload_n 2, 1) := by decide +kernel
theorem dX10_copies_10 : decode cX10_copies 10 = .ok (.aload_n 0, 1) := by decide +kernel
theorem dX10_copies_11 : decode cX10_copies 11 = .ok (.iload_n 2, 1) := by decide +kernel
theorem dX10_copies_12 : decode cX10_copies 12 = .ok (.iaload, 1) := by decide +kernel
theorem dX10_copies_13 : decode cX10_copies 13 = .ok (.iastore, 1) := by decide +kernel
theorem dX10_copies_14 : decode cX10_copies 14 = .ok (.iinc 2 1, 3) := by decide +kernel
theorem dX10_copies_17 : decode cX10_copies 17 = .ok (.goto (-15), 3) := by decide +kernel
theorem dX10_copies_20 : decode cX10_copies 20 = .ok (.return_, 1) := by decide +kernel
set_option maxRecDepth 20000 in
theorem ggX10_after_X10_in : GoodIn wsX10_after wsX10_in := goodIn_r _ [8] (by decide +kernel) (by decide +kernel)
set_option maxRecDepth 20000 in
theorem gX10_after_X10_in : GoodIn wsX10_after (va_wsS RX10 61 yX10_in wsX10_in) := goodIn_app (goodIn_of _ (by decide +kernel)) ggX10_after_X10_in
set_option maxRecDepth 20000 in
theorem ggX10_after_X10_copies : GoodIn wsX10_after wsX10_copies := goodIn_r _ [11] (by decide +kernel) (by decide +kernel)
set_option maxRecDepth 20000 in
theorem gX10_after_X10_copies : GoodIn wsX10_after (va_wsS RX10 242 yX10_copies wsX10_copies) := goodIn_app (goodIn_of _ (by decide +kernel)) ggX10_after_X10_copies
set_option maxRecDepth 20000 in
theorem ggX10_after_X10_happens : GoodIn wsX10_after wsX10_happens := goodIn_r _ [15, 2, 16, 17, 18, 19, 49, 50, 51, 52, 53, 54, 55, 56, 57, 58, 59, 60, 61, 62, 63, 64, 65, 66, 67, 68, 69, 70] (by decide +kernel) (by decide +kernel)
set_option maxRecDepth 20000 in
theorem gX10_after_X10_happens : GoodIn wsX10_after (wsV RX10 246 RX10 yX10_happens wsX10_happens) := goodIn_app (goodIn_of _ (by decide +kernel)) ggX10_after_X10_happens
set_option maxRecDepth 20000 in
theorem ggX10_after_X10_joins : GoodIn wsX10_after wsX10_joins := goodIn_r _ [23, 4, 2, 24, 25, 26, 27, 7, 28, 29, 30, 31, 32, 33, 34, 35, 5, 6, 8, 36, 37, 38, 39, 40, 41, 42, 16, 17, 18, 19, 43, 44, 45, 49, 50, 51, 52, 53, 54, 55, 56, 57, 58, 59, 60, 61, 62, 63, 64, 65, 66, 67, 68, 69, 70] (by decide +kernel) (by decide +kernel)
set_option maxRecDepth 20000 in
theorem gX10_after_X10_joins : GoodIn wsX10_after (wsV RX10 179 RX10 yX10_joins wsX10_joins) := goodIn_app (goodIn_of _ (by decide +kernel)) ggX10_after_X10_joins
set_option maxRecDepth 20000 in
theorem ggX10_after_X10_most : GoodIn wsX10_after wsX10_most := goodIn_r _ [48] (by decide +kernel) (by decide +kernel)
set_option maxRecDepth 20000 in
theorem gX10_after_X10_most : GoodIn wsX10_after (va_wsS RX10 182 yX10_most wsX10_most) := goodIn_app (goodIn_of _ (by decide +kernel)) ggX10_after_X10_most
theorem dX10_after_0 : decode cX10_after 0 = .ok (.iload_n 1, 1) := by decide +kernel
theorem dX10_after_1 : decode cX10_after 1 = .ok (.i2l, 1) := by decide +kernel
theorem dX10_after_2 : decode cX10_after 2 = .ok (.lconst 0, 1) := by decide +kernel
theorem dX10_after_3 : decode cX10_after 3 = .ok (.ldc2_w 191, 3) := by decide +kernel
theorem dX10_after_6 : decode cX10_after 6 = .ok (.invokestatic 61, 3) := by decide +kernel
theorem dX10_after_9 : decode cX10_after 9 = .ok (.ifCond .ne 5, 3) := by decide +kernel
theorem dX10_after_12 : decode cX10_after 12 = .ok (.iconst (-1), 1) := by decide +kernel
theorem dX10_after_13 : decode cX10_after 13 = .ok (.ireturn, 1) := by decide +kernel
theorem dX10_after_14 : decode cX10_after 14 = .ok (.aload_n 0, 1) := by decide +kernel
theorem dX10_after_15 : decode cX10_after 15 = .ok (.getfield 11, 3) := by decide +kernel
theorem dX10_after_18 : decode cX10_after 18 = .ok (.aload_n 0, 1) := by decide +kernel
theorem dX10_after_19 : decode cX10_after 19 = .ok (.getfield 48, 3) := by decide +kernel
theorem dX10_after_22 : decode cX10_after 22 = .ok (.invokestatic 242, 3) := by decide +kernel
theorem dX10_after_25 : decode cX10_after 25 = .ok (.iconst 0, 1) := by decide +kernel
theorem dX10_after_26 : decode cX10_after 26 = .ok (.istore_n 2, 1) := by decide +kernel
theorem dX10_after_27 : decode cX10_after 27 = .ok (.iload_n 2, 1) := by decide +kernel
theorem dX10_after_28 : decode cX10_after 28 = .ok (.aload_n 0, 1) := by decide +kernel
theorem dX10_after_29 : decode cX10_after 29 = .ok (.getfield 11, 3) := by decide +kernel
theorem dX10_after_32 : decode cX10_after 32 = .ok (.bipush 56, 2) := by decide +kernel
theorem dX10_after_34 : decode cX10_after 34 = .ok (.iaload, 1) := by decide +kernel
theorem dX10_after_35 : decode cX10_after 35 = .ok (.if_icmp .ge 37, 3) := by decide +kernel
theorem dX10_after_38 : decode cX10_after 38 = .ok (.aload_n 0, 1) := by decide +kernel
theorem dX10_after_39 : decode cX10_after 39 = .ok (.aload_n 0, 1) := by decide +kernel
theorem dX10_after_40 : decode cX10_after 40 = .ok (.getfield 11, 3) := by decide +kernel
theorem dX10_after_43 : decode cX10_after 43 = .ok (.bipush 57, 2) := by decide +kernel
theorem dX10_after_45 : decode cX10_after 45 = .ok (.iconst 2, 1) := by decide +kernel
theorem dX10_after_46 : decode cX10_after 46 = .ok (.iload_n 2, 1) := by decide +kernel
theorem dX10_after_47 : decode cX10_after 47 = .ok (.imul, 1) := by decide +kernel
theorem dX10_after_48 : decode cX10_after 48 = .ok (.iadd, 1) := by decide +kernel
theorem dX10_after_49 : decode cX10_after 49 = .ok (.iaload, 1) := by decide +kernel
theorem dX10_after_50 : decode cX10_after 50 = .ok (.aload_n 0, 1) := by decide +kernel
theorem dX10_after_51 : decode cX10_after 51 = .ok (.getfield 11, 3) := by decide +kernel
theorem dX10_after_54 : decode cX10_after 54 = .ok (.bipush 57, 2) := by decide +kernel
theorem dX10_after_56 : decode cX10_after 56 = .ok (.iconst 2, 1) := by decide +kernel
theorem dX10_after_57 : decode cX10_after 57 = .ok (.iload_n 2, 1) := by decide +kernel
theorem dX10_after_58 : decode cX10_after 58 = .ok (.imul, 1) := by decide +kernel
theorem dX10_after_59 : decode cX10_after 59 = .ok (.iadd, 1) := by decide +kernel
theorem dX10_after_60 : decode cX10_after 60 = .ok (.iconst 1, 1) := by decide +kernel
theorem dX10_after_61 : decode cX10_after 61 = .ok (.iadd, 1) := by decide +kernel
theorem dX10_after_62 : decode cX10_after 62 = .ok (.iaload, 1) := by decide +kernel
theorem dX10_after_63 : decode cX10_after 63 = .ok (.invokevirtual 246, 3) := by decide +kernel
theorem dX10_after_66 : decode cX10_after 66 = .ok (.iinc 2 1, 3) := by decide +kernel
theorem dX10_after_69 : decode cX10_after 69 = .ok (.goto (-42), 3) := by decide +kernel
theorem dX10_after_72 : decode cX10_after 72 = .ok (.aload_n 0, 1) := by decide +kernel
theorem dX10_after_73 : decode cX10_after 73 = .ok (.invokevirtual 179, 3) := by decide +kernel
theorem dX10_after_76 : decode cX10_after 76 = .ok (.aload_n 0, 1) := by decide +kernel
theorem dX10_after_77 : decode cX10_after 77 = .ok (.getfield 48, 3) := by decide +kernel
theorem dX10_after_80 : decode cX10_after 80 = .ok (.aload_n 0, 1) := by decide +kernel
theorem dX10_after_81 : decode cX10_after 81 = .ok (.getfield 11, 3) := by decide +kernel
theorem dX10_after_84 : decode cX10_after 84 = .ok (.invokestatic 242, 3) := by decide +kernel
theorem dX10_after_87 : decode cX10_after 87 = .ok (.aload_n 0, 1) := by decide +kernel
theorem dX10_after_88 : decode cX10_after 88 = .ok (.getfield 33, 3) := by decide +kernel
theorem dX10_after_91 : decode cX10_after 91 = .ok (.iconst 0, 1) := by decide +kernel
theorem dX10_after_92 : decode cX10_after 92 = .ok (.bipush 30, 2) := by decide +kernel
theorem dX10_after_94 : decode cX10_after 94 = .ok (.iload_n 1, 1) := by decide +kernel
theorem dX10_after_95 : decode cX10_after 95 = .ok (.ifCond .ne 7, 3) := by decide +kernel
theorem dX10_after_98 : decode cX10_after 98 = .ok (.iconst 1, 1) := by decide +kernel
theorem dX10_after_99 : decode cX10_after 99 = .ok (.goto 13, 3) := by decide +kernel
theorem dX10_after_102 : decode cX10_after 102 = .ok (.iload_n 1, 1) := by decide +kernel
theorem dX10_after_103 : decode cX10_after 103 = .ok (.iconst 1, 1) := by decide +kernel
theorem dX10_after_104 : decode cX10_after 104 = .ok (.if_icmp .ne 7, 3) := by decide +kernel
theorem dX10_after_107 : decode cX10_after 107 = .ok (.iconst 2, 1) := by decide +kernel
theorem dX10_after_108 : decode cX10_after 108 = .ok (.goto 4, 3) := by decide +kernel
theorem dX10_after_111 : decode cX10_after 111 = .ok (.iconst 0, 1) := by decide +kernel
theorem dX10_after_112 : decode cX10_after 112 = .ok (.invokestatic 182, 3) := by decide +kernel
theorem dX10_after_115 : decode cX10_after 115 = .ok (.ireturn, 1) := by decide +kernel
set_option maxRecDepth 20000 in
theorem ggX10_book_X10_isHour : GoodIn wsX10_book wsX10_isHour := goodIn_r _ [6, 7, 8, 9, 5, 10] (by decide +kernel) (by decide +kernel)
set_option maxRecDepth 20000 in
theorem gX10_book_X10_isHour : GoodIn wsX10_book (va_wsS RX10 186 yX10_isHour wsX10_isHour) := goodIn_app (goodIn_of _ (by decide +kernel)) ggX10_book_X10_isHour
set_option maxRecDepth 20000 in
theorem ggX10_book_X10_in : GoodIn wsX10_book wsX10_in := goodIn_r _ [10] (by decide +kernel) (by decide +kernel)
set_option maxRecDepth 20000 in
theorem gX10_book_X10_in : GoodIn wsX10_book (va_wsS RX10 61 yX10_in wsX10_in) := goodIn_app (goodIn_of _ (by decide +kernel)) ggX10_book_X10_in
theorem dX10_book_0 : decode cX10_book 0 = .ok (.iload_n 1, 1) := by decide +kernel
theorem dX10_book_1 : decode cX10_book 1 = .ok (.iconst (-1), 1) := by decide +kernel
theorem dX10_book_2 : decode cX10_book 2 = .ok (.if_icmp .ne 13, 3) := by decide +kernel
theorem dX10_book_5 : decode cX10_book 5 = .ok (.aload_n 0, 1) := by decide +kernel
theorem dX10_book_6 : decode cX10_book 6 = .ok (.getfield 11, 3) := by decide +kernel
theorem dX10_book_9 : decode cX10_book 9 = .ok (.bipush 73, 2) := by decide +kernel
theorem dX10_book_11 : decode cX10_book 11 = .ok (.iconst 0, 1) := by decide +kernel
theorem dX10_book_12 : decode cX10_book 12 = .ok (.iastore, 1) := by decide +kernel
theorem dX10_book_13 : decode cX10_book 13 = .ok (.iconst 0, 1) := by decide +kernel
theorem dX10_book_14 : decode cX10_book 14 = .ok (.ireturn, 1) := by decide +kernel
theorem dX10_book_15 : decode cX10_book 15 = .ok (.iload_n 1, 1) := by decide +kernel
theorem dX10_book_16 : decode cX10_book 16 = .ok (.invokestatic 186, 3) := by decide +kernel
theorem dX10_book_19 : decode cX10_book 19 = .ok (.ifCond .ne 5, 3) := by decide +kernel
theorem dX10_book_22 : decode cX10_book 22 = .ok (.iconst (-1), 1) := by decide +kernel
theorem dX10_book_23 : decode cX10_book 23 = .ok (.ireturn, 1) := by decide +kernel
theorem dX10_book_24 : decode cX10_book 24 = .ok (.iload_n 2, 1) := by decide +kernel
theorem dX10_book_25 : decode cX10_book 25 = .ok (.i2l, 1) := by decide +kernel
theorem dX10_book_26 : decode cX10_book 26 = .ok (.lconst 0, 1) := by decide +kernel
theorem dX10_book_27 : decode cX10_book 27 = .ok (.ldc2_w 229, 3) := by decide +kernel
theorem dX10_book_30 : decode cX10_book 30 = .ok (.invokestatic 61, 3) := by decide +kernel
theorem dX10_book_33 : decode cX10_book 33 = .ok (.ifCond .ne 6, 3) := by decide +kernel
theorem dX10_book_36 : decode cX10_book 36 = .ok (.bipush (-2), 2) := by decide +kernel
theorem dX10_book_38 : decode cX10_book 38 = .ok (.ireturn, 1) := by decide +kernel
theorem dX10_book_39 : decode cX10_book 39 = .ok (.aload_n 0, 1) := by decide +kernel
theorem dX10_book_40 : decode cX10_book 40 = .ok (.getfield 11, 3) := by decide +kernel
theorem dX10_book_43 : decode cX10_book 43 = .ok (.bipush 73, 2) := by decide +kernel
theorem dX10_book_45 : decode cX10_book 45 = .ok (.iaload, 1) := by decide +kernel
theorem dX10_book_46 : decode cX10_book 46 = .ok (.bipush 8, 2) := by decide +kernel
theorem dX10_book_48 : decode cX10_book 48 = .ok (.if_icmp .ne 6, 3) := by decide +kernel
theorem dX10_book_51 : decode cX10_book 51 = .ok (.bipush (-4), 2) := by decide +kernel
theorem dX10_book_53 : decode cX10_book 53 = .ok (.ireturn, 1) := by decide +kernel
theorem dX10_book_54 : decode cX10_book 54 = .ok (.bipush 74, 2) := by decide +kernel
theorem dX10_book_56 : decode cX10_book 56 = .ok (.iconst 2, 1) := by decide +kernel
theorem dX10_book_57 : decode cX10_book 57 = .ok (.aload_n 0, 1) := by decide +kernel
theorem dX10_book_58 : decode cX10_book 58 = .ok (.getfield 11, 3) := by decide +kernel
theorem dX10_book_61 : decode cX10_book 61 = .ok (.bipush 73, 2) := by decide +kernel
theorem dX10_book_63 : decode cX10_book 63 = .ok (.iaload, 1) := by decide +kernel
theorem dX10_book_64 : decode cX10_book 64 = .ok (.imul, 1) := by decide +kernel
theorem dX10_book_65 : decode cX10_book 65 = .ok (.iadd, 1) := by decide +kernel
theorem dX10_book_66 : decode cX10_book 66 = .ok (.istore_n 3, 1) := by decide +kernel
theorem dX10_book_67 : decode cX10_book 67 = .ok (.aload_n 0, 1) := by decide +kernel
theorem dX10_book_68 : decode cX10_book 68 = .ok (.getfield 11, 3) := by decide +kernel
theorem dX10_book_71 : decode cX10_book 71 = .ok (.iload_n 3, 1) := by decide +kernel
theorem dX10_book_72 : decode cX10_book 72 = .ok (.iload_n 1, 1) := by decide +kernel
theorem dX10_book_73 : decode cX10_book 73 = .ok (.iastore, 1) := by decide +kernel
theorem dX10_book_74 : decode cX10_book 74 = .ok (.aload_n 0, 1) := by decide +kernel
theorem dX10_book_75 : decode cX10_book 75 = .ok (.getfield 11, 3) := by decide +kernel
theorem dX10_book_78 : decode cX10_book 78 = .ok (.iload_n 3, 1) := by decide +kernel
theorem dX10_book_79 : decode cX10_book 79 = .ok (.iconst 1, 1) := by decide +kernel
theorem dX10_book_80 : decode cX10_book 80 = .ok (.iadd, 1) := by decide +kernel
theorem dX10_book_81 : decode cX10_book 81 = .ok (.iload_n 2, 1) := by decide +kernel
theorem dX10_book_82 : decode cX10_book 82 = .ok (.iastore, 1) := by decide +kernel
theorem dX10_book_83 : decode cX10_book 83 = .ok (.aload_n 0, 1) := by decide +kernel
theorem dX10_book_84 : decode cX10_book 84 = .ok (.getfield 11, 3) := by decide +kernel
theorem dX10_book_87 : decode cX10_book 87 = .ok (.bipush 73, 2) := by decide +kernel
theorem dX10_book_89 : decode cX10_book 89 = .ok (.dup2, 1) := by decide +kernel
theorem dX10_book_90 : decode cX10_book 90 = .ok (.iaload, 1) := by decide +kernel
theorem dX10_book_91 : decode cX10_book 91 = .ok (.iconst 1, 1) := by decide +kernel
theorem dX10_book_92 : decode cX10_book 92 = .ok (.iadd, 1) := by decide +kernel
theorem dX10_book_93 : decode cX10_book 93 = .ok (.iastore, 1) := by decide +kernel
theorem dX10_book_94 : decode cX10_book 94 = .ok (.aload_n 0, 1) := by decide +kernel
theorem dX10_book_95 : decode cX10_book 95 = .ok (.getfield 11, 3) := by decide +kernel
theorem dX10_book_98 : decode cX10_book 98 = .ok (.bipush 73, 2) := by decide +kernel
theorem dX10_book_100 : decode cX10_book 100 = .ok (.iaload, 1) := by decide +kernel
theorem dX10_book_101 : decode cX10_book 101 = .ok (.ireturn, 1) := by decide +kernel
set_option maxRecDepth 20000 in
theorem ggX10_looked_X10_otherwise : GoodIn wsX10_looked wsX10_otherwise := goodIn_r _ [6, 7, 1, 8, 9, 10, 5, 11, 12, 13, 14, 15, 16, 17, 18, 19, 20, 21, 22, 23, 24, 25, 26, 27, 28, 29, 30, 31, 32, 33, 34, 35, 36, 37, 38, 39, 40, 41, 42, 43, 44, 45, 46, 47, 48, 49, 50, 51, 52, 53, 54, 55, 56, 57, 58, 59, 60, 61, 62] (by decide +kernel) (by decide +kernel)
set_option maxRecDepth 20000 in
theorem gX10_looked_X10_otherwise : GoodIn wsX10_looked (wsV RX10 231 RX10 yX10_otherwise wsX10_otherwise) := goodIn_app (goodIn_of _ (by decide +kernel)) ggX10_looked_X10_otherwise
theorem dX10_looked_0 : decode cX10_looked 0 = .ok (.aload_n 0, 1) := by decide +kernel
theorem dX10_looked_1 : decode cX10_looked 1 = .ok (.bipush 74, 2) := by decide +kernel
theorem dX10_looked_3 : decode cX10_looked 3 = .ok (.aload_n 0, 1) := by decide +kernel
theorem dX10_looked_4 : decode cX10_looked 4 = .ok (.getfield 11, 3) := by decide +kernel
theorem dX10_looked_7 : decode cX10_looked 7 = .ok (.bipush 73, 2) := by decide +kernel
theorem dX10_looked_9 : decode cX10_looked 9 = .ok (.iaload, 1) := by decide +kernel
theorem dX10_looked_10 : decode cX10_looked 10 = .ok (.invokevirtual 231, 3) := by decide +kernel
theorem dX10_looked_13 : decode cX10_looked 13 = .ok (.ireturn, 1) := by decide +kernel
set_option maxRecDepth 20000 in
theorem ggX10_judge_X10_isBasin : GoodIn wsX10_judge wsX10_isBasin := goodIn_r _ [9, 10, 11, 12, 8, 13, 43, 44, 45, 46, 47, 48, 49, 50, 51, 52, 53, 54, 55, 56, 57, 58, 59, 60, 61, 62, 63, 64] (by decide +kernel) (by decide +kernel)
set_option maxRecDepth 20000 in
theorem gX10_judge_X10_isBasin : GoodIn wsX10_judge (wsV RX10 81 RX10 yX10_isBasin wsX10_isBasin) := goodIn_app (goodIn_of _ (by decide +kernel)) ggX10_judge_X10_isBasin
set_option maxRecDepth 20000 in
theorem ggX10_judge_X10_isTape : GoodIn wsX10_judge wsX10_isTape := goodIn_r _ [16, 17, 11, 12, 8, 13] (by decide +kernel) (by decide +kernel)
set_option maxRecDepth 20000 in
theorem gX10_judge_X10_isTape : GoodIn wsX10_judge (va_wsS RX10 249 yX10_isTape wsX10_isTape) := goodIn_app (goodIn_of _ (by decide +kernel)) ggX10_judge_X10_isTape
set_option maxRecDepth 20000 in
theorem ggX10_judge_X10_goes : GoodIn wsX10_judge wsX10_goes := goodIn_r _ [21, 10, 22, 4, 23, 24, 25, 26, 8, 27, 28, 11, 12, 13, 29, 30, 31, 32, 33, 34, 35, 36, 37, 38, 39, 40, 41, 42, 43, 44, 45, 46, 47, 48, 49, 50, 51, 52, 53, 54, 55, 56, 57, 58, 59, 60, 61, 62, 63, 64] (by decide +kernel) (by decide +kernel)
set_option maxRecDepth 20000 in
theorem gX10_judge_X10_goes : GoodIn wsX10_judge (wsV RX10 176 RX10 yX10_goes wsX10_goes) := goodIn_app (goodIn_of _ (by decide +kernel)) ggX10_judge_X10_goes
theorem dX10_judge_0 : decode cX10_judge 0 = .ok (.aload_n 0, 1) := by decide +kernel
theorem dX10_judge_1 : decode cX10_judge 1 = .ok (.iload_n 1, 1) := by decide +kernel
theorem dX10_judge_2 : decode cX10_judge 2 = .ok (.invokevirtual 81, 3) := by decide +kernel
theorem dX10_judge_5 : decode cX10_judge 5 = .ok (.ifCond .eq 10, 3) := by decide +kernel
theorem dX10_judge_8 : decode cX10_judge 8 = .ok (.iload_n 2, 1) := by decide +kernel
theorem dX10_judge_9 : decode cX10_judge 9 = .ok (.invokestatic 249, 3) := by decide +kernel
theorem dX10_judge_12 : decode cX10_judge 12 = .ok (.ifCond .ne 5, 3) := by decide +kernel
theorem dX10_judge_15 : decode cX10_judge 15 = .ok (.iconst (-1), 1) := by decide +kernel
theorem dX10_judge_16 : decode cX10_judge 16 = .ok (.ireturn, 1) := by decide +kernel
theorem dX10_judge_17 : decode cX10_judge 17 = .ok (.aload_n 0, 1) := by decide +kernel
theorem dX10_judge_18 : decode cX10_judge 18 = .ok (.getfield 51, 3) := by decide +kernel
theorem dX10_judge_21 : decode cX10_judge 21 = .ok (.iload_n 2, 1) := by decide +kernel
theorem dX10_judge_22 : decode cX10_judge 22 = .ok (.iaload, 1) := by decide +kernel
theorem dX10_judge_23 : decode cX10_judge 23 = .ok (.ifCond .lt 16, 3) := by decide +kernel
theorem dX10_judge_26 : decode cX10_judge 26 = .ok (.aload_n 0, 1) := by decide +kernel
theorem dX10_judge_27 : decode cX10_judge 27 = .ok (.getfield 51, 3) := by decide +kernel
theorem dX10_judge_30 : decode cX10_judge 30 = .ok (.iload_n 2, 1) := by decide +kernel
theorem dX10_judge_31 : decode cX10_judge 31 = .ok (.iaload, 1) := by decide +kernel
theorem dX10_judge_32 : decode cX10_judge 32 = .ok (.iconst 1, 1) := by decide +kernel
theorem dX10_judge_33 : decode cX10_judge 33 = .ok (.if_icmp .eq 6, 3) := by decide +kernel
theorem dX10_judge_36 : decode cX10_judge 36 = .ok (.bipush (-12), 2) := by decide +kernel
theorem dX10_judge_38 : decode cX10_judge 38 = .ok (.ireturn, 1) := by decide +kernel
theorem dX10_judge_39 : decode cX10_judge 39 = .ok (.aload_n 0, 1) := by decide +kernel
theorem dX10_judge_40 : decode cX10_judge 40 = .ok (.iload_n 1, 1) := by decide +kernel
theorem dX10_judge_41 : decode cX10_judge 41 = .ok (.invokevirtual 176, 3) := by decide +kernel
theorem dX10_judge_44 : decode cX10_judge 44 = .ok (.iconst 0, 1) := by decide +kernel
theorem dX10_judge_45 : decode cX10_judge 45 = .ok (.istore 4, 2) := by decide +kernel
theorem dX10_judge_47 : decode cX10_judge 47 = .ok (.iload 4, 2) := by decide +kernel
theorem dX10_judge_49 : decode cX10_judge 49 = .ok (.bipush 30, 2) := by decide +kernel
theorem dX10_judge_51 : decode cX10_judge 51 = .ok (.if_icmp .ge 65, 3) := by decide +kernel
theorem dX10_judge_54 : decode cX10_judge 54 = .ok (.iload_n 3, 1) := by decide +kernel
theorem dX10_judge_55 : decode cX10_judge 55 = .ok (.ifCond .lt 20, 3) := by decide +kernel
theorem dX10_judge_58 : decode cX10_judge 58 = .ok (.iload_n 3, 1) := by decide +kernel
theorem dX10_judge_59 : decode cX10_judge 59 = .ok (.i2l, 1) := by decide +kernel
theorem dX10_judge_60 : decode cX10_judge 60 = .ok (.iload 4, 2) := by decide +kernel
theorem dX10_judge_62 : decode cX10_judge 62 = .ok (.i2l, 1) := by decide +kernel
theorem dX10_judge_63 : decode cX10_judge 63 = .ok (.ladd, 1) := by decide +kernel
theorem dX10_judge_64 : decode cX10_judge 64 = .ok (.aload_n 0, 1) := by decide +kernel
theorem dX10_judge_65 : decode cX10_judge 65 = .ok (.getfield 54, 3) := by decide +kernel
theorem dX10_judge_68 : decode cX10_judge 68 = .ok (.iload_n 2, 1) := by decide +kernel
theorem dX10_judge_69 : decode cX10_judge 69 = .ok (.iaload, 1) := by decide +kernel
theorem dX10_judge_70 : decode cX10_judge 70 = .ok (.i2l, 1) := by decide +kernel
theorem dX10_judge_71 : decode cX10_judge 71 = .ok (.lcmp, 1) := by decide +kernel
theorem dX10_judge_72 : decode cX10_judge 72 = .ok (.ifCond .lt 9, 3) := by decide +kernel
theorem dX10_judge_75 : decode cX10_judge 75 = .ok (.bipush 100, 2) := by decide +kernel
theorem dX10_judge_77 : decode cX10_judge 77 = .ok (.iload 4, 2) := by decide +kernel
theorem dX10_judge_79 : decode cX10_judge 79 = .ok (.iadd, 1) := by decide +kernel
theorem dX10_judge_80 : decode cX10_judge 80 = .ok (.ireturn, 1) := by decide +kernel
theorem dX10_judge_81 : decode cX10_judge 81 = .ok (.aload_n 0, 1) := by decide +kernel
theorem dX10_judge_82 : decode cX10_judge 82 = .ok (.getfield 57, 3) := by decide +kernel
theorem dX10_judge_85 : decode cX10_judge 85 = .ok (.bipush 60, 2) := by decide +kernel
theorem dX10_judge_87 : decode cX10_judge 87 = .ok (.iload_n 2, 1) := by decide +kernel
theorem dX10_judge_88 : decode cX10_judge 88 = .ok (.imul, 1) := by decide +kernel
theorem dX10_judge_89 : decode cX10_judge 89 = .ok (.iload_n 3, 1) := by decide +kernel
theorem dX10_judge_90 : decode cX10_judge 90 = .ok (.iadd, 1) := by decide +kernel
theorem dX10_judge_91 : decode cX10_judge 91 = .ok (.iload 4, 2) := by decide +kernel
theorem dX10_judge_93 : decode cX10_judge 93 = .ok (.iadd, 1) := by decide +kernel
theorem dX10_judge_94 : decode cX10_judge 94 = .ok (.laload, 1) := by decide +kernel
theorem dX10_judge_95 : decode cX10_judge 95 = .ok (.aload_n 0, 1) := by decide +kernel
theorem dX10_judge_96 : decode cX10_judge 96 = .ok (.getfield 30, 3) := by decide +kernel
theorem dX10_judge_99 : decode cX10_judge 99 = .ok (.iload 4, 2) := by decide +kernel
theorem dX10_judge_101 : decode cX10_judge 101 = .ok (.iaload, 1) := by decide +kernel
theorem dX10_judge_102 : decode cX10_judge 102 = .ok (.i2l, 1) := by decide +kernel
theorem dX10_judge_103 : decode cX10_judge 103 = .ok (.lcmp, 1) := by decide +kernel
theorem dX10_judge_104 : decode cX10_judge 104 = .ok (.ifCond .eq 6, 3) := by decide +kernel
theorem dX10_judge_107 : decode cX10_judge 107 = .ok (.iload 4, 2) := by decide +kernel
theorem dX10_judge_109 : decode cX10_judge 109 = .ok (.ireturn, 1) := by decide +kernel
theorem dX10_judge_110 : decode cX10_judge 110 = .ok (.iinc 4 1, 3) := by decide +kernel
theorem dX10_judge_113 : decode cX10_judge 113 = .ok (.goto (-66), 3) := by decide +kernel
theorem dX10_judge_116 : decode cX10_judge 116 = .ok (.bipush (-5), 2) := by decide +kernel
theorem dX10_judge_118 : decode cX10_judge 118 = .ok (.ireturn, 1) := by decide +kernel
set_option maxRecDepth 20000 in
theorem ggX10_image_X10_copies : GoodIn wsX10_image wsX10_copies := goodIn_r _ [7] (by decide +kernel) (by decide +kernel)
set_option maxRecDepth 20000 in
theorem gX10_image_X10_copies : GoodIn wsX10_image (va_wsS RX10 242 yX10_copies wsX10_copies) := goodIn_app (goodIn_of _ (by decide +kernel)) ggX10_image_X10_copies
theorem dX10_image_0 : decode cX10_image 0 = .ok (.aload_n 0, 1) := by decide +kernel
theorem dX10_image_1 : decode cX10_image 1 = .ok (.iconst 1, 1) := by decide +kernel
theorem dX10_image_2 : decode cX10_image 2 = .ok (.putfield 252, 3) := by decide +kernel
theorem dX10_image_5 : decode cX10_image 5 = .ok (.aload_n 0, 1) := by decide +kernel
theorem dX10_image_6 : decode cX10_image 6 = .ok (.getfield 11, 3) := by decide +kernel
theorem dX10_image_9 : decode cX10_image 9 = .ok (.aload_n 0, 1) := by decide +kernel
theorem dX10_image_10 : decode cX10_image 10 = .ok (.getfield 15, 3) := by decide +kernel
theorem dX10_image_13 : decode cX10_image 13 = .ok (.invokestatic 242, 3) := by decide +kernel
theorem dX10_image_16 : decode cX10_image 16 = .ok (.aload_n 0, 1) := by decide +kernel
theorem dX10_image_17 : decode cX10_image 17 = .ok (.getfield 11, 3) := by decide +kernel
theorem dX10_image_20 : decode cX10_image 20 = .ok (.bipush 20, 2) := by decide +kernel
theorem dX10_image_22 : decode cX10_image 22 = .ok (.iaload, 1) := by decide +kernel
theorem dX10_image_23 : decode cX10_image 23 = .ok (.ireturn, 1) := by decide +kernel
set_option maxRecDepth 20000 in
theorem ggX10_undo_X10_copies : GoodIn wsX10_undo wsX10_copies := goodIn_r _ [7] (by decide +kernel) (by decide +kernel)
set_option maxRecDepth 20000 in
theorem gX10_undo_X10_copies : GoodIn wsX10_undo (va_wsS RX10 242 yX10_copies wsX10_copies) := goodIn_app (goodIn_of _ (by decide +kernel)) ggX10_undo_X10_copies
theorem dX10_undo_0 : decode cX10_undo 0 = .ok (.aload_n 0, 1) := by decide +kernel
theorem dX10_undo_1 : decode cX10_undo 1 = .ok (.getfield 252, 3) := by decide +kernel
theorem dX10_undo_4 : decode cX10_undo 4 = .ok (.ifCond .ne 6, 3) := by decide +kernel
theorem dX10_undo_7 : decode cX10_undo 7 = .ok (.bipush (-3), 2) := by decide +kernel
theorem dX10_undo_9 : decode cX10_undo 9 = .ok (.ireturn, 1) := by decide +kernel
theorem dX10_undo_10 : decode cX10_undo 10 = .ok (.aload_n 0, 1) := by decide +kernel
theorem dX10_undo_11 : decode cX10_undo 11 = .ok (.getfield 15, 3) := by decide +kernel
theorem dX10_undo_14 : decode cX10_undo 14 = .ok (.aload_n 0, 1) := by decide +kernel
theorem dX10_undo_15 : decode cX10_undo 15 = .ok (.getfield 11, 3) := by decide +kernel
theorem dX10_undo_18 : decode cX10_undo 18 = .ok (.invokestatic 242, 3) := by decide +kernel
theorem dX10_undo_21 : decode cX10_undo 21 = .ok (.aload_n 0, 1) := by decide +kernel
theorem dX10_undo_22 : decode cX10_undo 22 = .ok (.getfield 11, 3) := by decide +kernel
theorem dX10_undo_25 : decode cX10_undo 25 = .ok (.bipush 20, 2) := by decide +kernel
theorem dX10_undo_27 : decode cX10_undo 27 = .ok (.iaload, 1) := by decide +kernel
theorem dX10_undo_28 : decode cX10_undo 28 = .ok (.ireturn, 1) := by decide +kernel
theorem dX10_count_0 : decode cX10_count 0 = .ok (.iload_n 1, 1) := by decide +kernel
theorem dX10_count_1 : decode cX10_count 1 = .ok (.tableswitch 60 0 3 #[31, 39, 47, 55], 31) := by decide +kernel
theorem dX10_count_32 : decode cX10_count 32 = .ok (.aload_n 0, 1) := by decide +kernel
theorem dX10_count_33 : decode cX10_count 33 = .ok (.getfield 11, 3) := by decide +kernel
theorem dX10_count_36 : decode cX10_count 36 = .ok (.bipush 45, 2) := by decide +kernel
theorem dX10_count_38 : decode cX10_count 38 = .ok (.iaload, 1) := by decide +kernel
theorem dX10_count_39 : decode cX10_count 39 = .ok (.ireturn, 1) := by decide +kernel
theorem dX10_count_40 : decode cX10_count 40 = .ok (.aload_n 0, 1) := by decide +kernel
theorem dX10_count_41 : decode cX10_count 41 = .ok (.getfield 11, 3) := by decide +kernel
theorem dX10_count_44 : decode cX10_count 44 = .ok (.bipush 56, 2) := by decide +kernel
theorem dX10_count_46 : decode cX10_count 46 = .ok (.iaload, 1) := by decide +kernel
theorem dX10_count_47 : decode cX10_count 47 = .ok (.ireturn, 1) := by decide +kernel
theorem dX10_count_48 : decode cX10_count 48 = .ok (.aload_n 0, 1) := by decide +kernel
theorem dX10_count_49 : decode cX10_count 49 = .ok (.getfield 11, 3) := by decide +kernel
theorem dX10_count_52 : decode cX10_count 52 = .ok (.bipush 73, 2) := by decide +kernel
theorem dX10_count_54 : decode cX10_count 54 = .ok (.iaload, 1) := by decide +kernel
theorem dX10_count_55 : decode cX10_count 55 = .ok (.ireturn, 1) := by decide +kernel
theorem dX10_count_56 : decode cX10_count 56 = .ok (.aload_n 0, 1) := by decide +kernel
theorem dX10_count_57 : decode cX10_count 57 = .ok (.getfield 94, 3) := by decide +kernel
theorem dX10_count_60 : decode cX10_count 60 = .ok (.ireturn, 1) := by decide +kernel
theorem dX10_count_61 : decode cX10_count 61 = .ok (.bipush (-2), 2) := by decide +kernel
theorem dX10_count_63 : decode cX10_count 63 = .ok (.ireturn, 1) := by decide +kernel
set_option maxRecDepth 20000 in
theorem ggX10_isTape_X10_in : GoodIn wsX10_isTape wsX10_in := goodIn_r _ [5] (by decide +kernel) (by decide +kernel)
set_option maxRecDepth 20000 in
theorem gX10_isTape_X10_in : GoodIn wsX10_isTape (va_wsS RX10 61 yX10_in wsX10_in) := goodIn_app (goodIn_of _ (by decide +kernel)) ggX10_isTape_X10_in
theorem dX10_isTape_0 : decode cX10_isTape 0 = .ok (.iload_n 0, 1) := by decide +kernel
theorem dX10_isTape_1 : decode cX10_isTape 1 = .ok (.i2l, 1) := by decide +kernel
theorem dX10_isTape_2 : decode cX10_isTape 2 = .ok (.lconst 0, 1) := by decide +kernel
theorem dX10_isTape_3 : decode cX10_isTape 3 = .ok (.ldc2_w 256, 3) := by decide +kernel
theorem dX10_isTape_6 : decode cX10_isTape 6 = .ok (.invokestatic 61, 3) := by decide +kernel
theorem dX10_isTape_9 : decode cX10_isTape 9 = .ok (.ireturn, 1) := by decide +kernel
set_option maxRecDepth 20000 in
theorem ggX10_tape_X10_isTape : GoodIn wsX10_tape wsX10_isTape := goodIn_r _ [9, 10, 11, 12, 8, 13] (by decide +kernel) (by decide +kernel)
set_option maxRecDepth 20000 in
theorem gX10_tape_X10_isTape : GoodIn wsX10_tape (va_wsS RX10 249 yX10_isTape wsX10_isTape) := goodIn_app (goodIn_of _ (by decide +kernel)) ggX10_tape_X10_isTape
set_option maxRecDepth 20000 in
theorem ggX10_tape_X10_in : GoodIn wsX10_tape wsX10_in := goodIn_r _ [13] (by decide +kernel) (by decide +kernel)
set_option maxRecDepth 20000 in
theorem gX10_tape_X10_in : GoodIn wsX10_tape (va_wsS RX10 61 yX10_in wsX10_in) := goodIn_app (goodIn_of _ (by decide +kernel)) ggX10_tape_X10_in
theorem dX10_tape_0 : decode cX10_tape 0 = .ok (.iload_n 1, 1) := by decide +kernel
theorem dX10_tape_1 : decode cX10_tape 1 = .ok (.invokestatic 249, 3) := by decide +kernel
theorem dX10_tape_4 : decode cX10_tape 4 = .ok (.ifCond .ne 5, 3) := by decide +kernel
theorem dX10_tape_7 : decode cX10_tape 7 = .ok (.iconst (-1), 1) := by decide +kernel
theorem dX10_tape_8 : decode cX10_tape 8 = .ok (.ireturn, 1) := by decide +kernel
theorem dX10_tape_9 : decode cX10_tape 9 = .ok (.iload_n 2, 1) := by decide +kernel
theorem dX10_tape_10 : decode cX10_tape 10 = .ok (.i2l, 1) := by decide +kernel
theorem dX10_tape_11 : decode cX10_tape 11 = .ok (.ldc2_w 189, 3) := by decide +kernel
theorem dX10_tape_14 : decode cX10_tape 14 = .ok (.ldc2_w 84, 3) := by decide +kernel
theorem dX10_tape_17 : decode cX10_tape 17 = .ok (.invokestatic 61, 3) := by decide +kernel
theorem dX10_tape_20 : decode cX10_tape 20 = .ok (.ifCond .eq 13, 3) := by decide +kernel
theorem dX10_tape_23 : decode cX10_tape 23 = .ok (.iload_n 2, 1) := by decide +kernel
theorem dX10_tape_24 : decode cX10_tape 24 = .ok (.ifCond .lt 12, 3) := by decide +kernel
theorem dX10_tape_27 : decode cX10_tape 27 = .ok (.iload_n 3, 1) := by decide +kernel
theorem dX10_tape_28 : decode cX10_tape 28 = .ok (.bipush 60, 2) := by decide +kernel
theorem dX10_tape_30 : decode cX10_tape 30 = .ok (.if_icmp .le 6, 3) := by decide +kernel
theorem dX10_tape_33 : decode cX10_tape 33 = .ok (.bipush (-2), 2) := by decide +kernel
theorem dX10_tape_35 : decode cX10_tape 35 = .ok (.ireturn, 1) := by decide +kernel
theorem dX10_tape_36 : decode cX10_tape 36 = .ok (.iload_n 2, 1) := by decide +kernel
theorem dX10_tape_37 : decode cX10_tape 37 = .ok (.ifCond .lt 10, 3) := by decide +kernel
theorem dX10_tape_40 : decode cX10_tape 40 = .ok (.iload_n 3, 1) := by decide +kernel
theorem dX10_tape_41 : decode cX10_tape 41 = .ok (.ifCond .ge 6, 3) := by decide +kernel
theorem dX10_tape_44 : decode cX10_tape 44 = .ok (.bipush (-14), 2) := by decide +kernel
theorem dX10_tape_46 : decode cX10_tape 46 = .ok (.ireturn, 1) := by decide +kernel
theorem dX10_tape_47 : decode cX10_tape 47 = .ok (.aload_n 0, 1) := by decide +kernel
theorem dX10_tape_48 : decode cX10_tape 48 = .ok (.getfield 51, 3) := by decide +kernel
theorem dX10_tape_51 : decode cX10_tape 51 = .ok (.iload_n 1, 1) := by decide +kernel
theorem dX10_tape_52 : decode cX10_tape 52 = .ok (.iload_n 2, 1) := by decide +kernel
theorem dX10_tape_53 : decode cX10_tape 53 = .ok (.iastore, 1) := by decide +kernel
theorem dX10_tape_54 : decode cX10_tape 54 = .ok (.aload_n 0, 1) := by decide +kernel
theorem dX10_tape_55 : decode cX10_tape 55 = .ok (.getfield 54, 3) := by decide +kernel
theorem dX10_tape_58 : decode cX10_tape 58 = .ok (.iload_n 1, 1) := by decide +kernel
theorem dX10_tape_59 : decode cX10_tape 59 = .ok (.iload_n 2, 1) := by decide +kernel
theorem dX10_tape_60 : decode cX10_tape 60 = .ok (.ifCond .ge 7, 3) := by decide +kernel
theorem dX10_tape_63 : decode cX10_tape 63 = .ok (.iconst 0, 1) := by decide +kernel
theorem dX10_tape_64 : decode cX10_tape 64 = .ok (.goto 4, 3) := by decide +kernel
theorem dX10_tape_67 : decode cX10_tape 67 = .ok (.iload_n 3, 1) := by decide +kernel
theorem dX10_tape_68 : decode cX10_tape 68 = .ok (.iastore, 1) := by decide +kernel
theorem dX10_tape_69 : decode cX10_tape 69 = .ok (.iconst 0, 1) := by decide +kernel
theorem dX10_tape_70 : decode cX10_tape 70 = .ok (.istore 4, 2) := by decide +kernel
theorem dX10_tape_72 : decode cX10_tape 72 = .ok (.iload 4, 2) := by decide +kernel
theorem dX10_tape_74 : decode cX10_tape 74 = .ok (.bipush 60, 2) := by decide +kernel
theorem dX10_tape_76 : decode cX10_tape 76 = .ok (.if_icmp .ge 22, 3) := by decide +kernel
theorem dX10_tape_79 : decode cX10_tape 79 = .ok (.aload_n 0, 1) := by decide +kernel
theorem dX10_tape_80 : decode cX10_tape 80 = .ok (.getfield 57, 3) := by decide +kernel
theorem dX10_tape_83 : decode cX10_tape 83 = .ok (.bipush 60, 2) := by decide +kernel
theorem dX10_tape_85 : decode cX10_tape 85 = .ok (.iload_n 1, 1) := by decide +kernel
theorem dX10_tape_86 : decode cX10_tape 86 = .ok (.imul, 1) := by decide +kernel
theorem dX10_tape_87 : decode cX10_tape 87 = .ok (.iload 4, 2) := by decide +kernel
theorem dX10_tape_89 : decode cX10_tape 89 = .ok (.iadd, 1) := by decide +kernel
theorem dX10_tape_90 : decode cX10_tape 90 = .ok (.lconst 0, 1) := by decide +kernel
theorem dX10_tape_91 : decode cX10_tape 91 = .ok (.lastore, 1) := by decide +kernel
theorem dX10_tape_92 : decode cX10_tape 92 = .ok (.iinc 4 1, 3) := by decide +kernel
theorem dX10_tape_95 : decode cX10_tape 95 = .ok (.goto (-23), 3) := by decide +kernel
theorem dX10_tape_98 : decode cX10_tape 98 = .ok (.iconst 1, 1) := by decide +kernel
theorem dX10_tape_99 : decode cX10_tape 99 = .ok (.ireturn, 1) := by decide +kernel
theorem dX10_narrowed_0 : decode cX10_narrowed 0 = .ok (.iload_n 0, 1) := by decide +kernel
theorem dX10_narrowed_1 : decode cX10_narrowed 1 = .ok (.ifCond .ne 10, 3) := by decide +kernel
theorem dX10_narrowed_4 : decode cX10_narrowed 4 = .ok (.lload_n 1, 1) := by decide +kernel
theorem dX10_narrowed_5 : decode cX10_narrowed 5 = .ok (.l2i, 1) := by decide +kernel
theorem dX10_narrowed_6 : decode cX10_narrowed 6 = .ok (.i2b, 1) := by decide +kernel
theorem dX10_narrowed_7 : decode cX10_narrowed 7 = .ok (.i2l, 1) := by decide +kernel
theorem dX10_narrowed_8 : decode cX10_narrowed 8 = .ok (.goto 46, 3) := by decide +kernel
theorem dX10_narrowed_11 : decode cX10_narrowed 11 = .ok (.iload_n 0, 1) := by decide +kernel
theorem dX10_narrowed_12 : decode cX10_narrowed 12 = .ok (.iconst 1, 1) := by decide +kernel
theorem dX10_narrowed_13 : decode cX10_narrowed 13 = .ok (.if_icmp .ne 10, 3) := by decide +kernel
theorem dX10_narrowed_16 : decode cX10_narrowed 16 = .ok (.lload_n 1, 1) := by decide +kernel
theorem dX10_narrowed_17 : decode cX10_narrowed 17 = .ok (.l2i, 1) := by decide +kernel
theorem dX10_narrowed_18 : decode cX10_narrowed 18 = .ok (.i2s, 1) := by decide +kernel
theorem dX10_narrowed_19 : decode cX10_narrowed 19 = .ok (.i2l, 1) := by decide +kernel
theorem dX10_narrowed_20 : decode cX10_narrowed 20 = .ok (.goto 34, 3) := by decide +kernel
theorem dX10_narrowed_23 : decode cX10_narrowed 23 = .ok (.iload_n 0, 1) := by decide +kernel
theorem dX10_narrowed_24 : decode cX10_narrowed 24 = .ok (.iconst 2, 1) := by decide +kernel
theorem dX10_narrowed_25 : decode cX10_narrowed 25 = .ok (.if_icmp .ne 9, 3) := by decide +kernel
theorem dX10_narrowed_28 : decode cX10_narrowed 28 = .ok (.lload_n 1, 1) := by decide +kernel
theorem dX10_narrowed_29 : decode cX10_narrowed 29 = .ok (.l2i, 1) := by decide +kernel
theorem dX10_narrowed_30 : decode cX10_narrowed 30 = .ok (.i2l, 1) := by decide +kernel
theorem dX10_narrowed_31 : decode cX10_narrowed 31 = .ok (.goto 23, 3) := by decide +kernel
theorem dX10_narrowed_34 : decode cX10_narrowed 34 = .ok (.iload_n 0, 1) := by decide +kernel
theorem dX10_narrowed_35 : decode cX10_narrowed 35 = .ok (.iconst 3, 1) := by decide +kernel
theorem dX10_narrowed_36 : decode cX10_narrowed 36 = .ok (.if_icmp .ne 7, 3) := by decide +kernel
theorem dX10_narrowed_39 : decode cX10_narrowed 39 = .ok (.lload_n 1, 1) := by decide +kernel
theorem dX10_narrowed_40 : decode cX10_narrowed 40 = .ok (.goto 14, 3) := by decide +kernel
theorem dX10_narrowed_43 : decode cX10_narrowed 43 = .ok (.lload_n 1, 1) := by decide +kernel
theorem dX10_narrowed_44 : decode cX10_narrowed 44 = .ok (.lconst 0, 1) := by decide +kernel
theorem dX10_narrowed_45 : decode cX10_narrowed 45 = .ok (.lcmp, 1) := by decide +kernel
theorem dX10_narrowed_46 : decode cX10_narrowed 46 = .ok (.ifCond .eq 7, 3) := by decide +kernel
theorem dX10_narrowed_49 : decode cX10_narrowed 49 = .ok (.lconst 1, 1) := by decide +kernel
theorem dX10_narrowed_50 : decode cX10_narrowed 50 = .ok (.goto 4, 3) := by decide +kernel
theorem dX10_narrowed_53 : decode cX10_narrowed 53 = .ok (.lconst 0, 1) := by decide +kernel
theorem dX10_narrowed_54 : decode cX10_narrowed 54 = .ok (.lreturn, 1) := by decide +kernel
set_option maxRecDepth 20000 in
theorem ggX10_item_X10_isTape : GoodIn wsX10_item wsX10_isTape := goodIn_r _ [7, 8, 9, 10, 6, 11] (by decide +kernel) (by decide +kernel)
set_option maxRecDepth 20000 in
theorem gX10_item_X10_isTape : GoodIn wsX10_item (va_wsS RX10 249 yX10_isTape wsX10_isTape) := goodIn_app (goodIn_of _ (by decide +kernel)) ggX10_item_X10_isTape
set_option maxRecDepth 20000 in
theorem ggX10_item_X10_in : GoodIn wsX10_item wsX10_in := goodIn_r _ [11] (by decide +kernel) (by decide +kernel)
set_option maxRecDepth 20000 in
theorem gX10_item_X10_in : GoodIn wsX10_item (va_wsS RX10 61 yX10_in wsX10_in) := goodIn_app (goodIn_of _ (by decide +kernel)) ggX10_item_X10_in
set_option maxRecDepth 20000 in
theorem ggX10_item_X10_narrowed : GoodIn wsX10_item wsX10_narrowed := goodIn_r _ [14] (by decide +kernel) (by decide +kernel)
set_option maxRecDepth 20000 in
theorem gX10_item_X10_narrowed : GoodIn wsX10_item (va_wsS RX10 258 yX10_narrowed wsX10_narrowed) := goodIn_app (goodIn_of _ (by decide +kernel)) ggX10_item_X10_narrowed
theorem dX10_item_0 : decode cX10_item 0 = .ok (.iload_n 1, 1) := by decide +kernel
theorem dX10_item_1 : decode cX10_item 1 = .ok (.invokestatic 249, 3) := by decide +kernel
theorem dX10_item_4 : decode cX10_item 4 = .ok (.ifCond .ne 5, 3) := by decide +kernel
theorem dX10_item_7 : decode cX10_item 7 = .ok (.iconst (-1), 1) := by decide +kernel
theorem dX10_item_8 : decode cX10_item 8 = .ok (.ireturn, 1) := by decide +kernel
theorem dX10_item_9 : decode cX10_item 9 = .ok (.aload_n 0, 1) := by decide +kernel
theorem dX10_item_10 : decode cX10_item 10 = .ok (.getfield 51, 3) := by decide +kernel
theorem dX10_item_13 : decode cX10_item 13 = .ok (.iload_n 1, 1) := by decide +kernel
theorem dX10_item_14 : decode cX10_item 14 = .ok (.iaload, 1) := by decide +kernel
theorem dX10_item_15 : decode cX10_item 15 = .ok (.ifCond .ge 6, 3) := by decide +kernel
theorem dX10_item_18 : decode cX10_item 18 = .ok (.bipush (-11), 2) := by decide +kernel
theorem dX10_item_20 : decode cX10_item 20 = .ok (.ireturn, 1) := by decide +kernel
theorem dX10_item_21 : decode cX10_item 21 = .ok (.iload_n 2, 1) := by decide +kernel
theorem dX10_item_22 : decode cX10_item 22 = .ok (.i2l, 1) := by decide +kernel
theorem dX10_item_23 : decode cX10_item 23 = .ok (.lconst 0, 1) := by decide +kernel
theorem dX10_item_24 : decode cX10_item 24 = .ok (.aload_n 0, 1) := by decide +kernel
theorem dX10_item_25 : decode cX10_item 25 = .ok (.getfield 54, 3) := by decide +kernel
theorem dX10_item_28 : decode cX10_item 28 = .ok (.iload_n 1, 1) := by decide +kernel
theorem dX10_item_29 : decode cX10_item 29 = .ok (.iaload, 1) := by decide +kernel
theorem dX10_item_30 : decode cX10_item 30 = .ok (.iconst 1, 1) := by decide +kernel
theorem dX10_item_31 : decode cX10_item 31 = .ok (.isub, 1) := by decide +kernel
theorem dX10_item_32 : decode cX10_item 32 = .ok (.i2l, 1) := by decide +kernel
theorem dX10_item_33 : decode cX10_item 33 = .ok (.invokestatic 61, 3) := by decide +kernel
theorem dX10_item_36 : decode cX10_item 36 = .ok (.ifCond .ne 6, 3) := by decide +kernel
theorem dX10_item_39 : decode cX10_item 39 = .ok (.bipush (-13), 2) := by decide +kernel
theorem dX10_item_41 : decode cX10_item 41 = .ok (.ireturn, 1) := by decide +kernel
theorem dX10_item_42 : decode cX10_item 42 = .ok (.aload_n 0, 1) := by decide +kernel
theorem dX10_item_43 : decode cX10_item 43 = .ok (.getfield 57, 3) := by decide +kernel
theorem dX10_item_46 : decode cX10_item 46 = .ok (.bipush 60, 2) := by decide +kernel
theorem dX10_item_48 : decode cX10_item 48 = .ok (.iload_n 1, 1) := by decide +kernel
theorem dX10_item_49 : decode cX10_item 49 = .ok (.imul, 1) := by decide +kernel
theorem dX10_item_50 : decode cX10_item 50 = .ok (.iload_n 2, 1) := by decide +kernel
theorem dX10_item_51 : decode cX10_item 51 = .ok (.iadd, 1) := by decide +kernel
theorem dX10_item_52 : decode cX10_item 52 = .ok (.aload_n 0, 1) := by decide +kernel
theorem dX10_item_53 : decode cX10_item 53 = .ok (.getfield 51, 3) := by decide +kernel
theorem dX10_item_56 : decode cX10_item 56 = .ok (.iload_n 1, 1) := by decide +kernel
theorem dX10_item_57 : decode cX10_item 57 = .ok (.iaload, 1) := by decide +kernel
theorem dX10_item_58 : decode cX10_item 58 = .ok (.lload_n 3, 1) := by decide +kernel
theorem dX10_item_59 : decode cX10_item 59 = .ok (.invokestatic 258, 3) := by decide +kernel
theorem dX10_item_62 : decode cX10_item 62 = .ok (.lastore, 1) := by decide +kernel
theorem dX10_item_63 : decode cX10_item 63 = .ok (.iconst 1, 1) := by decide +kernel
theorem dX10_item_64 : decode cX10_item 64 = .ok (.ireturn, 1) := by decide +kernel
set_option maxRecDepth 20000 in
theorem ggX10_peek_X10_isTape : GoodIn wsX10_peek wsX10_isTape := goodIn_r _ [7, 8, 9, 10, 6, 11] (by decide +kernel) (by decide +kernel)
set_option maxRecDepth 20000 in
theorem gX10_peek_X10_isTape : GoodIn wsX10_peek (va_wsS RX10 249 yX10_isTape wsX10_isTape) := goodIn_app (goodIn_of _ (by decide +kernel)) ggX10_peek_X10_isTape
set_option maxRecDepth 20000 in
theorem ggX10_peek_X10_in : GoodIn wsX10_peek wsX10_in := goodIn_r _ [11] (by decide +kernel) (by decide +kernel)
set_option maxRecDepth 20000 in
theorem gX10_peek_X10_in : GoodIn wsX10_peek (va_wsS RX10 61 yX10_in wsX10_in) := goodIn_app (goodIn_of _ (by decide +kernel)) ggX10_peek_X10_in
theorem dX10_peek_0 : decode cX10_peek 0 = .ok (.iload_n 1, 1) := by decide +kernel
theorem dX10_peek_1 : decode cX10_peek 1 = .ok (.invokestatic 249, 3) := by decide +kernel
theorem dX10_peek_4 : decode cX10_peek 4 = .ok (.ifCond .eq 35, 3) := by decide +kernel
theorem dX10_peek_7 : decode cX10_peek 7 = .ok (.iload_n 2, 1) := by decide +kernel
theorem dX10_peek_8 : decode cX10_peek 8 = .ok (.i2l, 1) := by decide +kernel
theorem dX10_peek_9 : decode cX10_peek 9 = .ok (.lconst 0, 1) := by decide +kernel
theorem dX10_peek_10 : decode cX10_peek 10 = .ok (.aload_n 0, 1) := by decide +kernel
theorem dX10_peek_11 : decode cX10_peek 11 = .ok (.getfield 54, 3) := by decide +kernel
theorem dX10_peek_14 : decode cX10_peek 14 = .ok (.iload_n 1, 1) := by decide +kernel
theorem dX10_peek_15 : decode cX10_peek 15 = .ok (.iaload, 1) := by decide +kernel
theorem dX10_peek_16 : decode cX10_peek 16 = .ok (.iconst 1, 1) := by decide +kernel
theorem dX10_peek_17 : decode cX10_peek 17 = .ok (.isub, 1) := by decide +kernel
theorem dX10_peek_18 : decode cX10_peek 18 = .ok (.i2l, 1) := by decide +kernel
theorem dX10_peek_19 : decode cX10_peek 19 = .ok (.invokestatic 61, 3) := by decide +kernel
theorem dX10_peek_22 : decode cX10_peek 22 = .ok (.ifCond .eq 17, 3) := by decide +kernel
theorem dX10_peek_25 : decode cX10_peek 25 = .ok (.aload_n 0, 1) := by decide +kernel
theorem dX10_peek_26 : decode cX10_peek 26 = .ok (.getfield 57, 3) := by decide +kernel
theorem dX10_peek_29 : decode cX10_peek 29 = .ok (.bipush 60, 2) := by decide +kernel
theorem dX10_peek_31 : decode cX10_peek 31 = .ok (.iload_n 1, 1) := by decide +kernel
theorem dX10_peek_32 : decode cX10_peek 32 = .ok (.imul, 1) := by decide +kernel
theorem dX10_peek_33 : decode cX10_peek 33 = .ok (.iload_n 2, 1) := by decide +kernel
theorem dX10_peek_34 : decode cX10_peek 34 = .ok (.iadd, 1) := by decide +kernel
theorem dX10_peek_35 : decode cX10_peek 35 = .ok (.laload, 1) := by decide +kernel
theorem dX10_peek_36 : decode cX10_peek 36 = .ok (.goto 6, 3) := by decide +kernel
theorem dX10_peek_39 : decode cX10_peek 39 = .ok (.ldc2_w 234, 3) := by decide +kernel
theorem dX10_peek_42 : decode cX10_peek 42 = .ok (.lreturn, 1) := by decide +kernel
set_option maxRecDepth 20000 in
theorem ggX10_shift_X10_isTape : GoodIn wsX10_shift wsX10_isTape := goodIn_r _ [7, 8, 9, 10, 6, 11] (by decide +kernel) (by decide +kernel)
set_option maxRecDepth 20000 in
theorem gX10_shift_X10_isTape : GoodIn wsX10_shift (va_wsS RX10 249 yX10_isTape wsX10_isTape) := goodIn_app (goodIn_of _ (by decide +kernel)) ggX10_shift_X10_isTape
theorem dX10_shift_0 : decode cX10_shift 0 = .ok (.iload_n 1, 1) := by decide +kernel
theorem dX10_shift_1 : decode cX10_shift 1 = .ok (.invokestatic 249, 3) := by decide +kernel
theorem dX10_shift_4 : decode cX10_shift 4 = .ok (.ifCond .eq 10, 3) := by decide +kernel
theorem dX10_shift_7 : decode cX10_shift 7 = .ok (.iload_n 3, 1) := by decide +kernel
theorem dX10_shift_8 : decode cX10_shift 8 = .ok (.invokestatic 249, 3) := by decide +kernel
theorem dX10_shift_11 : decode cX10_shift 11 = .ok (.ifCond .ne 5, 3) := by decide +kernel
theorem dX10_shift_14 : decode cX10_shift 14 = .ok (.iconst (-1), 1) := by decide +kernel
theorem dX10_shift_15 : decode cX10_shift 15 = .ok (.ireturn, 1) := by decide +kernel
theorem dX10_shift_16 : decode cX10_shift 16 = .ok (.aload_n 0, 1) := by decide +kernel
theorem dX10_shift_17 : decode cX10_shift 17 = .ok (.getfield 51, 3) := by decide +kernel
theorem dX10_shift_20 : decode cX10_shift 20 = .ok (.iload_n 1, 1) := by decide +kernel
theorem dX10_shift_21 : decode cX10_shift 21 = .ok (.iaload, 1) := by decide +kernel
theorem dX10_shift_22 : decode cX10_shift 22 = .ok (.ifCond .lt 12, 3) := by decide +kernel
theorem dX10_shift_25 : decode cX10_shift 25 = .ok (.aload_n 0, 1) := by decide +kernel
theorem dX10_shift_26 : decode cX10_shift 26 = .ok (.getfield 51, 3) := by decide +kernel
theorem dX10_shift_29 : decode cX10_shift 29 = .ok (.iload_n 3, 1) := by decide +kernel
theorem dX10_shift_30 : decode cX10_shift 30 = .ok (.iaload, 1) := by decide +kernel
theorem dX10_shift_31 : decode cX10_shift 31 = .ok (.ifCond .ge 6, 3) := by decide +kernel
theorem dX10_shift_34 : decode cX10_shift 34 = .ok (.bipush (-11), 2) := by decide +kernel
theorem dX10_shift_36 : decode cX10_shift 36 = .ok (.ireturn, 1) := by decide +kernel
theorem dX10_shift_37 : decode cX10_shift 37 = .ok (.aload_n 0, 1) := by decide +kernel
theorem dX10_shift_38 : decode cX10_shift 38 = .ok (.getfield 51, 3) := by decide +kernel
theorem dX10_shift_41 : decode cX10_shift 41 = .ok (.iload_n 1, 1) := by decide +kernel
theorem dX10_shift_42 : decode cX10_shift 42 = .ok (.iaload, 1) := by decide +kernel
theorem dX10_shift_43 : decode cX10_shift 43 = .ok (.aload_n 0, 1) := by decide +kernel
theorem dX10_shift_44 : decode cX10_shift 44 = .ok (.getfield 51, 3) := by decide +kernel
theorem dX10_shift_47 : decode cX10_shift 47 = .ok (.iload_n 3, 1) := by decide +kernel
theorem dX10_shift_48 : decode cX10_shift 48 = .ok (.iaload, 1) := by decide +kernel
theorem dX10_shift_49 : decode cX10_shift 49 = .ok (.if_icmp .eq 6, 3) := by decide +kernel
theorem dX10_shift_52 : decode cX10_shift 52 = .ok (.bipush (-12), 2) := by decide +kernel
theorem dX10_shift_54 : decode cX10_shift 54 = .ok (.ireturn, 1) := by decide +kernel
theorem dX10_shift_55 : decode cX10_shift 55 = .ok (.iload 5, 2) := by decide +kernel
theorem dX10_shift_57 : decode cX10_shift 57 = .ok (.ifCond .lt 39, 3) := by decide +kernel
theorem dX10_shift_60 : decode cX10_shift 60 = .ok (.iload_n 2, 1) := by decide +kernel
theorem dX10_shift_61 : decode cX10_shift 61 = .ok (.ifCond .lt 35, 3) := by decide +kernel
theorem dX10_shift_64 : decode cX10_shift 64 = .ok (.iload 4, 2) := by decide +kernel
theorem dX10_shift_66 : decode cX10_shift 66 = .ok (.ifCond .lt 30, 3) := by decide +kernel
theorem dX10_shift_69 : decode cX10_shift 69 = .ok (.iload_n 2, 1) := by decide +kernel
theorem dX10_shift_70 : decode cX10_shift 70 = .ok (.aload_n 0, 1) := by decide +kernel
theorem dX10_shift_71 : decode cX10_shift 71 = .ok (.getfield 54, 3) := by decide +kernel
theorem dX10_shift_74 : decode cX10_shift 74 = .ok (.iload_n 1, 1) := by decide +kernel
theorem dX10_shift_75 : decode cX10_shift 75 = .ok (.iaload, 1) := by decide +kernel
theorem dX10_shift_76 : decode cX10_shift 76 = .ok (.iload 5, 2) := by decide +kernel
theorem dX10_shift_78 : decode cX10_shift 78 = .ok (.isub, 1) := by decide +kernel
theorem dX10_shift_79 : decode cX10_shift 79 = .ok (.if_icmp .gt 17, 3) := by decide +kernel
theorem dX10_shift_82 : decode cX10_shift 82 = .ok (.iload 4, 2) := by decide +kernel
theorem dX10_shift_84 : decode cX10_shift 84 = .ok (.aload_n 0, 1) := by decide +kernel
theorem dX10_shift_85 : decode cX10_shift 85 = .ok (.getfield 54, 3) := by decide +kernel
theorem dX10_shift_88 : decode cX10_shift 88 = .ok (.iload_n 3, 1) := by decide +kernel
theorem dX10_shift_89 : decode cX10_shift 89 = .ok (.iaload, 1) := by decide +kernel
theorem dX10_shift_90 : decode cX10_shift 90 = .ok (.iload 5, 2) := by decide +kernel
theorem dX10_shift_92 : decode cX10_shift 92 = .ok (.isub, 1) := by decide +kernel
theorem dX10_shift_93 : decode cX10_shift 93 = .ok (.if_icmp .le 6, 3) := by decide +kernel
theorem dX10_shift_96 : decode cX10_shift 96 = .ok (.bipush (-13), 2) := by decide +kernel
theorem dX10_shift_98 : decode cX10_shift 98 = .ok (.ireturn, 1) := by decide +kernel
theorem dX10_shift_99 : decode cX10_shift 99 = .ok (.iconst 0, 1) := by decide +kernel
theorem dX10_shift_100 : decode cX10_shift 100 = .ok (.istore 6, 2) := by decide +kernel
theorem dX10_shift_102 : decode cX10_shift 102 = .ok (.iload 6, 2) := by decide +kernel
theorem dX10_shift_104 : decode cX10_shift 104 = .ok (.iload 5, 2) := by decide +kernel
theorem dX10_shift_106 : decode cX10_shift 106 = .ok (.if_icmp .ge 58, 3) := by decide +kernel
theorem dX10_shift_109 : decode cX10_shift 109 = .ok (.iload_n 2, 1) := by decide +kernel
theorem dX10_shift_110 : decode cX10_shift 110 = .ok (.iload 4, 2) := by decide +kernel
theorem dX10_shift_112 : decode cX10_shift 112 = .ok (.if_icmp .ge 13, 3) := by decide +kernel
theorem dX10_shift_115 : decode cX10_shift 115 = .ok (.iload 5, 2) := by decide +kernel
theorem dX10_shift_117 : decode cX10_shift 117 = .ok (.iconst 1, 1) := by decide +kernel
theorem dX10_shift_118 : decode cX10_shift 118 = .ok (.isub, 1) := by decide +kernel
theorem dX10_shift_119 : decode cX10_shift 119 = .ok (.iload 6, 2) := by decide +kernel
theorem dX10_shift_121 : decode cX10_shift 121 = .ok (.isub, 1) := by decide +kernel
theorem dX10_shift_122 : decode cX10_shift 122 = .ok (.goto 5, 3) := by decide +kernel
theorem dX10_shift_125 : decode cX10_shift 125 = .ok (.iload 6, 2) := by decide +kernel
theorem dX10_shift_127 : decode cX10_shift 127 = .ok (.istore 7, 2) := by decide +kernel
theorem dX10_shift_129 : decode cX10_shift 129 = .ok (.aload_n 0, 1) := by decide +kernel
theorem dX10_shift_130 : decode cX10_shift 130 = .ok (.getfield 57, 3) := by decide +kernel
theorem dX10_shift_133 : decode cX10_shift 133 = .ok (.bipush 60, 2) := by decide +kernel
theorem dX10_shift_135 : decode cX10_shift 135 = .ok (.iload_n 3, 1) := by decide +kernel
theorem dX10_shift_136 : decode cX10_shift 136 = .ok (.imul, 1) := by decide +kernel
theorem dX10_shift_137 : decode cX10_shift 137 = .ok (.iload 4, 2) := by decide +kernel
theorem dX10_shift_139 : decode cX10_shift 139 = .ok (.iadd, 1) := by decide +kernel
theorem dX10_shift_140 : decode cX10_shift 140 = .ok (.iload 7, 2) := by decide +kernel
theorem dX10_shift_142 : decode cX10_shift 142 = .ok (.iadd, 1) := by decide +kernel
theorem dX10_shift_143 : decode cX10_shift 143 = .ok (.aload_n 0, 1) := by decide +kernel
theorem dX10_shift_144 : decode cX10_shift 144 = .ok (.getfield 57, 3) := by decide +kernel
theorem dX10_shift_147 : decode cX10_shift 147 = .ok (.bipush 60, 2) := by decide +kernel
theorem dX10_shift_149 : decode cX10_shift 149 = .ok (.iload_n 1, 1) := by decide +kernel
theorem dX10_shift_150 : decode cX10_shift 150 = .ok (.imul, 1) := by decide +kernel
theorem dX10_shift_151 : decode cX10_shift 151 = .ok (.iload_n 2, 1) := by decide +kernel
theorem dX10_shift_152 : decode cX10_shift 152 = .ok (.iadd, 1) := by decide +kernel
theorem dX10_shift_153 : decode cX10_shift 153 = .ok (.iload 7, 2) := by decide +kernel
theorem dX10_shift_155 : decode cX10_shift 155 = .ok (.iadd, 1) := by decide +kernel
theorem dX10_shift_156 : decode cX10_shift 156 = .ok (.laload, 1) := by decide +kernel
theorem dX10_shift_157 : decode cX10_shift 157 = .ok (.lastore, 1) := by decide +kernel
theorem dX10_shift_158 : decode cX10_shift 158 = .ok (.iinc 6 1, 3) := by decide +kernel
theorem dX10_shift_161 : decode cX10_shift 161 = .ok (.goto (-59), 3) := by decide +kernel
theorem dX10_shift_164 : decode cX10_shift 164 = .ok (.iload 5, 2) := by decide +kernel
theorem dX10_shift_166 : decode cX10_shift 166 = .ok (.ireturn, 1) := by decide +kernel
