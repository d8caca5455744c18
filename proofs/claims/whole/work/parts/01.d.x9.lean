set_option maxRecDepth 20000 in
theorem ggX9_init_X7_init : GoodIn wsX9_init wsX7_init := goodIn_r _ [35, 36, 2, 3, 37, 11, 12, 38, 39, 40, 41, 42, 43, 44, 45, 46, 47, 48, 49, 50, 51, 52, 53, 54, 55, 56, 57, 58, 59, 60, 61, 62, 63, 64, 65, 66, 67, 68, 69, 70, 120, 121, 122, 106, 107, 108, 109, 110, 142, 143, 144, 145, 146, 147, 148, 149] (by decide +kernel) (by decide +kernel)
set_option maxRecDepth 20000 in
theorem gX9_init_X7_init_n11 : GoodIn wsX9_init (wsX7_init) := ggX9_init_X7_init
set_option maxRecDepth 20000 in
theorem ggX9_init_X6_init : GoodIn wsX9_init wsX6_init := goodIn_r _ [48, 49, 2, 3, 39, 50, 51, 52, 53, 54, 55, 56, 57, 58, 59, 60, 61, 62, 120, 121, 122, 146, 147, 148, 149] (by decide +kernel) (by decide +kernel)
set_option maxRecDepth 20000 in
theorem gX9_init_X6_init_n27 : GoodIn wsX9_init (wsX6_init) := ggX9_init_X6_init
set_option maxRecDepth 20000 in
theorem ggX9_init_X1_init : GoodIn wsX9_init wsX1_init := goodIn_r _ [72, 73, 2, 3, 39, 74, 75, 76, 123, 124, 125] (by decide +kernel) (by decide +kernel)
set_option maxRecDepth 20000 in
theorem gX9_init_X1_init_n34 : GoodIn wsX9_init (wsX1_init) := ggX9_init_X1_init
set_option maxRecDepth 20000 in
theorem ggX9_init_X2_init : GoodIn wsX9_init wsX2_init := goodIn_r _ [78, 79, 2, 3, 39, 80, 81, 82, 126, 127, 128] (by decide +kernel) (by decide +kernel)
set_option maxRecDepth 20000 in
theorem gX9_init_X2_init_n41 : GoodIn wsX9_init (wsX2_init) := ggX9_init_X2_init
set_option maxRecDepth 20000 in
theorem ggX9_init_X3_init : GoodIn wsX9_init wsX3_init := goodIn_r _ [84, 85, 2, 3, 39, 86, 87, 88, 89, 129, 130, 131, 132] (by decide +kernel) (by decide +kernel)
set_option maxRecDepth 20000 in
theorem gX9_init_X3_init_n48 : GoodIn wsX9_init (wsX3_init) := ggX9_init_X3_init
set_option maxRecDepth 20000 in
theorem ggX9_init_X5_init : GoodIn wsX9_init wsX5_init := goodIn_r _ [91, 92, 2, 3, 39, 93, 94, 95, 96, 97, 98, 133, 134, 135, 136, 137, 138] (by decide +kernel) (by decide +kernel)
set_option maxRecDepth 20000 in
theorem gX9_init_X5_init_n55 : GoodIn wsX9_init (wsX5_init) := ggX9_init_X5_init
set_option maxRecDepth 20000 in
theorem ggX9_init_X8_init : GoodIn wsX9_init wsX8_init := goodIn_r _ [100, 101, 2, 3, 102, 103, 104, 105, 139, 140, 141] (by decide +kernel) (by decide +kernel)
set_option maxRecDepth 20000 in
theorem gX9_init_X8_init_n62 : GoodIn wsX9_init (wsX8_init) := ggX9_init_X8_init
theorem dX9_init_0 : decode cX9_init 0 = .ok (.aload_n 0, 1) := by decide +kernel
theorem dX9_init_1 : decode cX9_init 1 = .ok (.invokespecial 3, 3) := by decide +kernel
theorem dX9_init_4 : decode cX9_init 4 = .ok (.aload_n 0, 1) := by decide +kernel
theorem dX9_init_5 : decode cX9_init 5 = .ok (.new 9, 3) := by decide +kernel
theorem dX9_init_8 : decode cX9_init 8 = .ok (.dup, 1) := by decide +kernel
theorem dX9_init_9 : decode cX9_init 9 = .ok (.invokespecial 11, 3) := by decide +kernel
theorem dX9_init_12 : decode cX9_init 12 = .ok (.putfield 12, 3) := by decide +kernel
theorem dX9_init_15 : decode cX9_init 15 = .ok (.aload_n 0, 1) := by decide +kernel
theorem dX9_init_16 : decode cX9_init 16 = .ok (.new 9, 3) := by decide +kernel
theorem dX9_init_19 : decode cX9_init 19 = .ok (.dup, 1) := by decide +kernel
theorem dX9_init_20 : decode cX9_init 20 = .ok (.invokespecial 11, 3) := by decide +kernel
theorem dX9_init_23 : decode cX9_init 23 = .ok (.putfield 18, 3) := by decide +kernel
theorem dX9_init_26 : decode cX9_init 26 = .ok (.aload_n 0, 1) := by decide +kernel
theorem dX9_init_27 : decode cX9_init 27 = .ok (.iconst 0, 1) := by decide +kernel
theorem dX9_init_28 : decode cX9_init 28 = .ok (.putfield 21, 3) := by decide +kernel
theorem dX9_init_31 : decode cX9_init 31 = .ok (.aload_n 0, 1) := by decide +kernel
theorem dX9_init_32 : decode cX9_init 32 = .ok (.new 25, 3) := by decide +kernel
theorem dX9_init_35 : decode cX9_init 35 = .ok (.dup, 1) := by decide +kernel
theorem dX9_init_36 : decode cX9_init 36 = .ok (.invokespecial 27, 3) := by decide +kernel
theorem dX9_init_39 : decode cX9_init 39 = .ok (.putfield 28, 3) := by decide +kernel
theorem dX9_init_42 : decode cX9_init 42 = .ok (.aload_n 0, 1) := by decide +kernel
theorem dX9_init_43 : decode cX9_init 43 = .ok (.new 32, 3) := by decide +kernel
theorem dX9_init_46 : decode cX9_init 46 = .ok (.dup, 1) := by decide +kernel
theorem dX9_init_47 : decode cX9_init 47 = .ok (.invokespecial 34, 3) := by decide +kernel
theorem dX9_init_50 : decode cX9_init 50 = .ok (.putfield 35, 3) := by decide +kernel
theorem dX9_init_53 : decode cX9_init 53 = .ok (.aload_n 0, 1) := by decide +kernel
theorem dX9_init_54 : decode cX9_init 54 = .ok (.new 39, 3) := by decide +kernel
theorem dX9_init_57 : decode cX9_init 57 = .ok (.dup, 1) := by decide +kernel
theorem dX9_init_58 : decode cX9_init 58 = .ok (.invokespecial 41, 3) := by decide +kernel
theorem dX9_init_61 : decode cX9_init 61 = .ok (.putfield 42, 3) := by decide +kernel
theorem dX9_init_64 : decode cX9_init 64 = .ok (.aload_n 0, 1) := by decide +kernel
theorem dX9_init_65 : decode cX9_init 65 = .ok (.new 46, 3) := by decide +kernel
theorem dX9_init_68 : decode cX9_init 68 = .ok (.dup, 1) := by decide +kernel
theorem dX9_init_69 : decode cX9_init 69 = .ok (.invokespecial 48, 3) := by decide +kernel
theorem dX9_init_72 : decode cX9_init 72 = .ok (.putfield 49, 3) := by decide +kernel
theorem dX9_init_75 : decode cX9_init 75 = .ok (.aload_n 0, 1) := by decide +kernel
theorem dX9_init_76 : decode cX9_init 76 = .ok (.new 53, 3) := by decide +kernel
theorem dX9_init_79 : decode cX9_init 79 = .ok (.dup, 1) := by decide +kernel
theorem dX9_init_80 : decode cX9_init 80 = .ok (.invokespecial 55, 3) := by decide +kernel
theorem dX9_init_83 : decode cX9_init 83 = .ok (.putfield 56, 3) := by decide +kernel
theorem dX9_init_86 : decode cX9_init 86 = .ok (.aload_n 0, 1) := by decide +kernel
theorem dX9_init_87 : decode cX9_init 87 = .ok (.bipush 6, 2) := by decide +kernel
theorem dX9_init_89 : decode cX9_init 89 = .ok (.anewarray 60, 3) := by decide +kernel
theorem dX9_init_92 : decode cX9_init 92 = .ok (.dup, 1) := by decide +kernel
theorem dX9_init_93 : decode cX9_init 93 = .ok (.iconst 0, 1) := by decide +kernel
theorem dX9_init_94 : decode cX9_init 94 = .ok (.new 60, 3) := by decide +kernel
theorem dX9_init_97 : decode cX9_init 97 = .ok (.dup, 1) := by decide +kernel
theorem dX9_init_98 : decode cX9_init 98 = .ok (.invokespecial 62, 3) := by decide +kernel
theorem dX9_init_101 : decode cX9_init 101 = .ok (.aastore, 1) := by decide +kernel
theorem dX9_init_102 : decode cX9_init 102 = .ok (.dup, 1) := by decide +kernel
theorem dX9_init_103 : decode cX9_init 103 = .ok (.iconst 1, 1) := by decide +kernel
theorem dX9_init_104 : decode cX9_init 104 = .ok (.new 60, 3) := by decide +kernel
theorem dX9_init_107 : decode cX9_init 107 = .ok (.dup, 1) := by decide +kernel
theorem dX9_init_108 : decode cX9_init 108 = .ok (.invokespecial 62, 3) := by decide +kernel
theorem dX9_init_111 : decode cX9_init 111 = .ok (.aastore, 1) := by decide +kernel
theorem dX9_init_112 : decode cX9_init 112 = .ok (.dup, 1) := by decide +kernel
theorem dX9_init_113 : decode cX9_init 113 = .ok (.iconst 2, 1) := by decide +kernel
theorem dX9_init_114 : decode cX9_init 114 = .ok (.new 60, 3) := by decide +kernel
theorem dX9_init_117 : decode cX9_init 117 = .ok (.dup, 1) := by decide +kernel
theorem dX9_init_118 : decode cX9_init 118 = .ok (.invokespecial 62, 3) := by decide +kernel
theorem dX9_init_121 : decode cX9_init 121 = .ok (.aastore, 1) := by decide +kernel
theorem dX9_init_122 : decode cX9_init 122 = .ok (.dup, 1) := by decide +kernel
theorem dX9_init_123 : decode cX9_init 123 = .ok (.iconst 3, 1) := by decide +kernel
theorem dX9_init_124 : decode cX9_init 124 = .ok (.new 60, 3) := by decide +kernel
theorem dX9_init_127 : decode cX9_init 127 = .ok (.dup, 1) := by decide +kernel
theorem dX9_init_128 : decode cX9_init 128 = .ok (.invokespecial 62, 3) := by decide +kernel
theorem dX9_init_131 : decode cX9_init 131 = .ok (.aastore, 1) := by decide +kernel
theorem dX9_init_132 : decode cX9_init 132 = .ok (.dup, 1) := by decide +kernel
theorem dX9_init_133 : decode cX9_init 133 = .ok (.iconst 4, 1) := by decide +kernel
theorem dX9_init_134 : decode cX9_init 134 = .ok (.new 60, 3) := by decide +kernel
theorem dX9_init_137 : decode cX9_init 137 = .ok (.dup, 1) := by decide +kernel
theorem dX9_init_138 : decode cX9_init 138 = .ok (.invokespecial 62, 3) := by decide +kernel
theorem dX9_init_141 : decode cX9_init 141 = .ok (.aastore, 1) := by decide +kernel
theorem dX9_init_142 : decode cX9_init 142 = .ok (.dup, 1) := by decide +kernel
theorem dX9_init_143 : decode cX9_init 143 = .ok (.iconst 5, 1) := by decide +kernel
theorem dX9_init_144 : decode cX9_init 144 = .ok (.new 60, 3) := by decide +kernel
theorem dX9_init_147 : decode cX9_init 147 = .ok (.dup, 1) := by decide +kernel
theorem dX9_init_148 : decode cX9_init 148 = .ok (.invokespecial 62, 3) := by decide +kernel
theorem dX9_init_151 : decode cX9_init 151 = .ok (.aastore, 1) := by decide +kernel
theorem dX9_init_152 : decode cX9_init 152 = .ok (.putfield 63, 3) := by decide +kernel
theorem dX9_init_155 : decode cX9_init 155 = .ok (.return_, 1) := by decide +kernel
set_option maxRecDepth 20000 in
theorem ggX9_rain_X9_exchangeNumber : GoodIn wsX9_rain wsX9_exchangeNumber := goodIn_r _ [7, 8, 9, 6, 10] (by decide +kernel) (by decide +kernel)
set_option maxRecDepth 20000 in
theorem gX9_rain_X9_exchangeNumber : GoodIn wsX9_rain (va_wsS RX9 74 yX9_exchangeNumber wsX9_exchangeNumber) := goodIn_app (goodIn_of _ (by decide +kernel)) ggX9_rain_X9_exchangeNumber
theorem dX9_rain_0 : decode cX9_rain 0 = .ok (.aload_n 0, 1) := by decide +kernel
theorem dX9_rain_1 : decode cX9_rain 1 = .ok (.getfield 12, 3) := by decide +kernel
theorem dX9_rain_4 : decode cX9_rain 4 = .ok (.getfield 67, 3) := by decide +kernel
theorem dX9_rain_7 : decode cX9_rain 7 = .ok (.getfield 70, 3) := by decide +kernel
theorem dX9_rain_10 : decode cX9_rain 10 = .ok (.iload_n 1, 1) := by decide +kernel
theorem dX9_rain_11 : decode cX9_rain 11 = .ok (.iload_n 2, 1) := by decide +kernel
theorem dX9_rain_12 : decode cX9_rain 12 = .ok (.bipush 20, 2) := by decide +kernel
theorem dX9_rain_14 : decode cX9_rain 14 = .ok (.invokestatic 74, 3) := by decide +kernel
theorem dX9_rain_17 : decode cX9_rain 17 = .ok (.ireturn, 1) := by decide +kernel
set_option maxRecDepth 20000 in
theorem ggX9_basin_X9_between : GoodIn wsX9_basin wsX9_between := goodIn_r _ [9] (by decide +kernel) (by decide +kernel)
set_option maxRecDepth 20000 in
theorem gX9_basin_X9_between : GoodIn wsX9_basin (va_wsS RX9 79 yX9_between wsX9_between) := goodIn_app (goodIn_of _ (by decide +kernel)) ggX9_basin_X9_between
set_option maxRecDepth 20000 in
theorem ggX9_basin_X0_comeWith : GoodIn wsX9_basin wsX0_comeWith := goodIn_r _ [14, 15, 16, 17, 18, 36, 37, 38, 39] (by decide +kernel) (by decide +kernel)
set_option maxRecDepth 20000 in
theorem gX9_basin_X0_comeWith : GoodIn wsX9_basin (wsV RX9 91 RX0 yX0_comeWith wsX0_comeWith) := goodIn_app (goodIn_of _ (by decide +kernel)) ggX9_basin_X0_comeWith
theorem dX9_basin_0 : decode cX9_basin 0 = .ok (.iload_n 1, 1) := by decide +kernel
theorem dX9_basin_1 : decode cX9_basin 1 = .ok (.iconst 1, 1) := by decide +kernel
theorem dX9_basin_2 : decode cX9_basin 2 = .ok (.ldc 78, 2) := by decide +kernel
theorem dX9_basin_4 : decode cX9_basin 4 = .ok (.invokestatic 79, 3) := by decide +kernel
theorem dX9_basin_7 : decode cX9_basin 7 = .ok (.ifCond .ne 6, 3) := by decide +kernel
theorem dX9_basin_10 : decode cX9_basin 10 = .ok (.bipush (-2), 2) := by decide +kernel
theorem dX9_basin_12 : decode cX9_basin 12 = .ok (.ireturn, 1) := by decide +kernel
theorem dX9_basin_13 : decode cX9_basin 13 = .ok (.aload_n 0, 1) := by decide +kernel
theorem dX9_basin_14 : decode cX9_basin 14 = .ok (.getfield 12, 3) := by decide +kernel
theorem dX9_basin_17 : decode cX9_basin 17 = .ok (.getfield 67, 3) := by decide +kernel
theorem dX9_basin_20 : decode cX9_basin 20 = .ok (.astore_n 2, 1) := by decide +kernel
theorem dX9_basin_21 : decode cX9_basin 21 = .ok (.aload_n 2, 1) := by decide +kernel
theorem dX9_basin_22 : decode cX9_basin 22 = .ok (.getfield 83, 3) := by decide +kernel
theorem dX9_basin_25 : decode cX9_basin 25 = .ok (.istore_n 3, 1) := by decide +kernel
theorem dX9_basin_26 : decode cX9_basin 26 = .ok (.iload_n 3, 1) := by decide +kernel
theorem dX9_basin_27 : decode cX9_basin 27 = .ok (.ifCond .lt 12, 3) := by decide +kernel
theorem dX9_basin_30 : decode cX9_basin 30 = .ok (.iload_n 3, 1) := by decide +kernel
theorem dX9_basin_31 : decode cX9_basin 31 = .ok (.aload_n 2, 1) := by decide +kernel
theorem dX9_basin_32 : decode cX9_basin 32 = .ok (.getfield 87, 3) := by decide +kernel
theorem dX9_basin_35 : decode cX9_basin 35 = .ok (.arraylength, 1) := by decide +kernel
theorem dX9_basin_36 : decode cX9_basin 36 = .ok (.if_icmp .lt 6, 3) := by decide +kernel
theorem dX9_basin_39 : decode cX9_basin 39 = .ok (.bipush (-4), 2) := by decide +kernel
theorem dX9_basin_41 : decode cX9_basin 41 = .ok (.ireturn, 1) := by decide +kernel
theorem dX9_basin_42 : decode cX9_basin 42 = .ok (.aload_n 2, 1) := by decide +kernel
theorem dX9_basin_43 : decode cX9_basin 43 = .ok (.getfield 87, 3) := by decide +kernel
theorem dX9_basin_46 : decode cX9_basin 46 = .ok (.iload_n 3, 1) := by decide +kernel
theorem dX9_basin_47 : decode cX9_basin 47 = .ok (.aaload, 1) := by decide +kernel
theorem dX9_basin_48 : decode cX9_basin 48 = .ok (.iload_n 1, 1) := by decide +kernel
theorem dX9_basin_49 : decode cX9_basin 49 = .ok (.invokevirtual 91, 3) := by decide +kernel
theorem dX9_basin_52 : decode cX9_basin 52 = .ok (.aload_n 2, 1) := by decide +kernel
theorem dX9_basin_53 : decode cX9_basin 53 = .ok (.iload_n 3, 1) := by decide +kernel
theorem dX9_basin_54 : decode cX9_basin 54 = .ok (.iconst 1, 1) := by decide +kernel
theorem dX9_basin_55 : decode cX9_basin 55 = .ok (.iadd, 1) := by decide +kernel
theorem dX9_basin_56 : decode cX9_basin 56 = .ok (.putfield 83, 3) := by decide +kernel
theorem dX9_basin_59 : decode cX9_basin 59 = .ok (.iload_n 3, 1) := by decide +kernel
theorem dX9_basin_60 : decode cX9_basin 60 = .ok (.ireturn, 1) := by decide +kernel
set_option maxRecDepth 20000 in
theorem ggX9_hold_X6_has : GoodIn wsX9_hold wsX6_has := goodIn_r _ [10, 11, 12, 31, 32, 33] (by decide +kernel) (by decide +kernel)
set_option maxRecDepth 20000 in
theorem gX9_hold_X6_has : GoodIn wsX9_hold (wsV RX9 97 RX6 yX6_has wsX6_has) := goodIn_app (goodIn_of _ (by decide +kernel)) ggX9_hold_X6_has
set_option maxRecDepth 20000 in
theorem ggX9_hold_X9_between : GoodIn wsX9_hold wsX9_between := goodIn_r _ [16] (by decide +kernel) (by decide +kernel)
set_option maxRecDepth 20000 in
theorem gX9_hold_X9_between : GoodIn wsX9_hold (va_wsS RX9 79 yX9_between wsX9_between) := goodIn_app (goodIn_of _ (by decide +kernel)) ggX9_hold_X9_between
theorem dX9_hold_0 : decode cX9_hold 0 = .ok (.aload_n 0, 1) := by decide +kernel
theorem dX9_hold_1 : decode cX9_hold 1 = .ok (.getfield 12, 3) := by decide +kernel
theorem dX9_hold_4 : decode cX9_hold 4 = .ok (.getfield 67, 3) := by decide +kernel
theorem dX9_hold_7 : decode cX9_hold 7 = .ok (.iload_n 1, 1) := by decide +kernel
theorem dX9_hold_8 : decode cX9_hold 8 = .ok (.invokevirtual 97, 3) := by decide +kernel
theorem dX9_hold_11 : decode cX9_hold 11 = .ok (.ifCond .ne 5, 3) := by decide +kernel
theorem dX9_hold_14 : decode cX9_hold 14 = .ok (.iconst (-1), 1) := by decide +kernel
theorem dX9_hold_15 : decode cX9_hold 15 = .ok (.ireturn, 1) := by decide +kernel
theorem dX9_hold_16 : decode cX9_hold 16 = .ok (.iload_n 2, 1) := by decide +kernel
theorem dX9_hold_17 : decode cX9_hold 17 = .ok (.iconst 0, 1) := by decide +kernel
theorem dX9_hold_18 : decode cX9_hold 18 = .ok (.iconst 4, 1) := by decide +kernel
theorem dX9_hold_19 : decode cX9_hold 19 = .ok (.invokestatic 79, 3) := by decide +kernel
theorem dX9_hold_22 : decode cX9_hold 22 = .ok (.ifCond .eq 22, 3) := by decide +kernel
theorem dX9_hold_25 : decode cX9_hold 25 = .ok (.iload_n 3, 1) := by decide +kernel
theorem dX9_hold_26 : decode cX9_hold 26 = .ok (.iload_n 2, 1) := by decide +kernel
theorem dX9_hold_27 : decode cX9_hold 27 = .ok (.iconst 2, 1) := by decide +kernel
theorem dX9_hold_28 : decode cX9_hold 28 = .ok (.if_icmp .ne 7, 3) := by decide +kernel
theorem dX9_hold_31 : decode cX9_hold 31 = .ok (.iconst 1, 1) := by decide +kernel
theorem dX9_hold_32 : decode cX9_hold 32 = .ok (.goto 4, 3) := by decide +kernel
theorem dX9_hold_35 : decode cX9_hold 35 = .ok (.iconst 0, 1) := by decide +kernel
theorem dX9_hold_36 : decode cX9_hold 36 = .ok (.bipush 9, 2) := by decide +kernel
theorem dX9_hold_38 : decode cX9_hold 38 = .ok (.invokestatic 79, 3) := by decide +kernel
theorem dX9_hold_41 : decode cX9_hold 41 = .ok (.ifCond .ne 6, 3) := by decide +kernel
theorem dX9_hold_44 : decode cX9_hold 44 = .ok (.bipush (-2), 2) := by decide +kernel
theorem dX9_hold_46 : decode cX9_hold 46 = .ok (.ireturn, 1) := by decide +kernel
theorem dX9_hold_47 : decode cX9_hold 47 = .ok (.aload_n 0, 1) := by decide +kernel
theorem dX9_hold_48 : decode cX9_hold 48 = .ok (.getfield 12, 3) := by decide +kernel
theorem dX9_hold_51 : decode cX9_hold 51 = .ok (.getfield 67, 3) := by decide +kernel
theorem dX9_hold_54 : decode cX9_hold 54 = .ok (.getfield 87, 3) := by decide +kernel
theorem dX9_hold_57 : decode cX9_hold 57 = .ok (.iload_n 1, 1) := by decide +kernel
theorem dX9_hold_58 : decode cX9_hold 58 = .ok (.aaload, 1) := by decide +kernel
theorem dX9_hold_59 : decode cX9_hold 59 = .ok (.astore 4, 2) := by decide +kernel
theorem dX9_hold_61 : decode cX9_hold 61 = .ok (.bipush 10, 2) := by decide +kernel
theorem dX9_hold_63 : decode cX9_hold 63 = .ok (.aload 4, 2) := by decide +kernel
theorem dX9_hold_65 : decode cX9_hold 65 = .ok (.getfield 101, 3) := by decide +kernel
theorem dX9_hold_68 : decode cX9_hold 68 = .ok (.imul, 1) := by decide +kernel
theorem dX9_hold_69 : decode cX9_hold 69 = .ok (.aload 4, 2) := by decide +kernel
theorem dX9_hold_71 : decode cX9_hold 71 = .ok (.getfield 104, 3) := by decide +kernel
theorem dX9_hold_74 : decode cX9_hold 74 = .ok (.iadd, 1) := by decide +kernel
theorem dX9_hold_75 : decode cX9_hold 75 = .ok (.istore 5, 2) := by decide +kernel
theorem dX9_hold_77 : decode cX9_hold 77 = .ok (.aload 4, 2) := by decide +kernel
theorem dX9_hold_79 : decode cX9_hold 79 = .ok (.iload_n 2, 1) := by decide +kernel
theorem dX9_hold_80 : decode cX9_hold 80 = .ok (.putfield 101, 3) := by decide +kernel
theorem dX9_hold_83 : decode cX9_hold 83 = .ok (.aload 4, 2) := by decide +kernel
theorem dX9_hold_85 : decode cX9_hold 85 = .ok (.iload_n 3, 1) := by decide +kernel
theorem dX9_hold_86 : decode cX9_hold 86 = .ok (.putfield 104, 3) := by decide +kernel
theorem dX9_hold_89 : decode cX9_hold 89 = .ok (.iload 5, 2) := by decide +kernel
theorem dX9_hold_91 : decode cX9_hold 91 = .ok (.ireturn, 1) := by decide +kernel
set_option maxRecDepth 20000 in
theorem ggX9_tell_X9_exchangeNumber : GoodIn wsX9_tell wsX9_exchangeNumber := goodIn_r _ [6, 7, 8, 5, 9] (by decide +kernel) (by decide +kernel)
set_option maxRecDepth 20000 in
theorem gX9_tell_X9_exchangeNumber : GoodIn wsX9_tell (va_wsS RX9 74 yX9_exchangeNumber wsX9_exchangeNumber) := goodIn_app (goodIn_of _ (by decide +kernel)) ggX9_tell_X9_exchangeNumber
theorem dX9_tell_0 : decode cX9_tell 0 = .ok (.aload_n 0, 1) := by decide +kernel
theorem dX9_tell_1 : decode cX9_tell 1 = .ok (.getfield 12, 3) := by decide +kernel
theorem dX9_tell_4 : decode cX9_tell 4 = .ok (.getfield 107, 3) := by decide +kernel
theorem dX9_tell_7 : decode cX9_tell 7 = .ok (.iload_n 1, 1) := by decide +kernel
theorem dX9_tell_8 : decode cX9_tell 8 = .ok (.iload_n 2, 1) := by decide +kernel
theorem dX9_tell_9 : decode cX9_tell 9 = .ok (.sipush 999, 3) := by decide +kernel
theorem dX9_tell_12 : decode cX9_tell 12 = .ok (.invokestatic 74, 3) := by decide +kernel
theorem dX9_tell_15 : decode cX9_tell 15 = .ok (.ireturn, 1) := by decide +kernel
set_option maxRecDepth 20000 in
theorem ggX9_take_X6_has : GoodIn wsX9_take wsX6_has := goodIn_r _ [12, 13, 14, 57, 58, 59] (by decide +kernel) (by decide +kernel)
set_option maxRecDepth 20000 in
theorem gX9_take_X6_has : GoodIn wsX9_take (wsV RX9 97 RX6 yX6_has wsX6_has) := goodIn_app (goodIn_of _ (by decide +kernel)) ggX9_take_X6_has
set_option maxRecDepth 20000 in
theorem ggX9_take_X2_unfoldBy : GoodIn wsX9_take wsX2_unfoldBy := goodIn_r _ [19, 20, 21, 22, 23, 24, 25, 26, 27, 18, 28, 29, 30, 31, 32, 33, 34, 35, 36, 37, 38, 60, 61, 62, 63, 64, 65, 66] (by decide +kernel) (by decide +kernel)
set_option maxRecDepth 20000 in
theorem gX9_take_X2_unfoldBy : GoodIn wsX9_take (wsV RX9 110 RX2 yX2_unfoldBy wsX2_unfoldBy) := goodIn_app (goodIn_of _ (by decide +kernel)) ggX9_take_X2_unfoldBy
set_option maxRecDepth 20000 in
theorem ggX9_take_X9_copyNumbers : GoodIn wsX9_take wsX9_copyNumbers := goodIn_r _ [25] (by decide +kernel) (by decide +kernel)
set_option maxRecDepth 20000 in
theorem gX9_take_X9_copyNumbers : GoodIn wsX9_take (va_wsS RX9 115 yX9_copyNumbers wsX9_copyNumbers) := goodIn_app (goodIn_of _ (by decide +kernel)) ggX9_take_X9_copyNumbers
set_option maxRecDepth 20000 in
theorem ggX9_take_X9_measure : GoodIn wsX9_take wsX9_measure := goodIn_r _ [42] (by decide +kernel) (by decide +kernel)
set_option maxRecDepth 20000 in
theorem gX9_take_X9_measure : GoodIn wsX9_take (va_wsS RX9 119 yX9_measure wsX9_measure) := goodIn_app (goodIn_of _ (by decide +kernel)) ggX9_take_X9_measure
theorem dX9_take_0 : decode cX9_take 0 = .ok (.aload_n 0, 1) := by decide +kernel
theorem dX9_take_1 : decode cX9_take 1 = .ok (.getfield 12, 3) := by decide +kernel
theorem dX9_take_4 : decode cX9_take 4 = .ok (.getfield 67, 3) := by decide +kernel
theorem dX9_take_7 : decode cX9_take 7 = .ok (.iload_n 1, 1) := by decide +kernel
theorem dX9_take_8 : decode cX9_take 8 = .ok (.invokevirtual 97, 3) := by decide +kernel
theorem dX9_take_11 : decode cX9_take 11 = .ok (.ifCond .ne 5, 3) := by decide +kernel
theorem dX9_take_14 : decode cX9_take 14 = .ok (.iconst (-1), 1) := by decide +kernel
theorem dX9_take_15 : decode cX9_take 15 = .ok (.ireturn, 1) := by decide +kernel
theorem dX9_take_16 : decode cX9_take 16 = .ok (.aload_n 0, 1) := by decide +kernel
theorem dX9_take_17 : decode cX9_take 17 = .ok (.getfield 42, 3) := by decide +kernel
theorem dX9_take_20 : decode cX9_take 20 = .ok (.aload_n 0, 1) := by decide +kernel
theorem dX9_take_21 : decode cX9_take 21 = .ok (.getfield 12, 3) := by decide +kernel
theorem dX9_take_24 : decode cX9_take 24 = .ok (.getfield 67, 3) := by decide +kernel
theorem dX9_take_27 : decode cX9_take 27 = .ok (.getfield 87, 3) := by decide +kernel
theorem dX9_take_30 : decode cX9_take 30 = .ok (.iload_n 1, 1) := by decide +kernel
theorem dX9_take_31 : decode cX9_take 31 = .ok (.aaload, 1) := by decide +kernel
theorem dX9_take_32 : decode cX9_take 32 = .ok (.aload_n 0, 1) := by decide +kernel
theorem dX9_take_33 : decode cX9_take 33 = .ok (.getfield 12, 3) := by decide +kernel
theorem dX9_take_36 : decode cX9_take 36 = .ok (.getfield 107, 3) := by decide +kernel
theorem dX9_take_39 : decode cX9_take 39 = .ok (.invokevirtual 110, 3) := by decide +kernel
theorem dX9_take_42 : decode cX9_take 42 = .ok (.bipush (-5), 2) := by decide +kernel
theorem dX9_take_44 : decode cX9_take 44 = .ok (.if_icmp .eq 6, 3) := by decide +kernel
theorem dX9_take_47 : decode cX9_take 47 = .ok (.bipush (-3), 2) := by decide +kernel
theorem dX9_take_49 : decode cX9_take 49 = .ok (.ireturn, 1) := by decide +kernel
theorem dX9_take_50 : decode cX9_take 50 = .ok (.aload_n 0, 1) := by decide +kernel
theorem dX9_take_51 : decode cX9_take 51 = .ok (.getfield 42, 3) := by decide +kernel
theorem dX9_take_54 : decode cX9_take 54 = .ok (.getfield 114, 3) := by decide +kernel
theorem dX9_take_57 : decode cX9_take 57 = .ok (.aload_n 0, 1) := by decide +kernel
theorem dX9_take_58 : decode cX9_take 58 = .ok (.getfield 12, 3) := by decide +kernel
theorem dX9_take_61 : decode cX9_take 61 = .ok (.getfield 67, 3) := by decide +kernel
theorem dX9_take_64 : decode cX9_take 64 = .ok (.getfield 70, 3) := by decide +kernel
theorem dX9_take_67 : decode cX9_take 67 = .ok (.invokestatic 115, 3) := by decide +kernel
theorem dX9_take_70 : decode cX9_take 70 = .ok (.aload_n 0, 1) := by decide +kernel
theorem dX9_take_71 : decode cX9_take 71 = .ok (.getfield 12, 3) := by decide +kernel
theorem dX9_take_74 : decode cX9_take 74 = .ok (.getfield 67, 3) := by decide +kernel
theorem dX9_take_77 : decode cX9_take 77 = .ok (.getfield 70, 3) := by decide +kernel
theorem dX9_take_80 : decode cX9_take 80 = .ok (.iconst 0, 1) := by decide +kernel
theorem dX9_take_81 : decode cX9_take 81 = .ok (.invokestatic 119, 3) := by decide +kernel
theorem dX9_take_84 : decode cX9_take 84 = .ok (.ireturn, 1) := by decide +kernel
set_option maxRecDepth 20000 in
theorem ggX9_feed_X9_between : GoodIn wsX9_feed wsX9_between := goodIn_r _ [6] (by decide +kernel) (by decide +kernel)
set_option maxRecDepth 20000 in
theorem gX9_feed_X9_between : GoodIn wsX9_feed (va_wsS RX9 79 yX9_between wsX9_between) := goodIn_app (goodIn_of _ (by decide +kernel)) ggX9_feed_X9_between
set_option maxRecDepth 20000 in
theorem ggX9_feed_X5_addSign : GoodIn wsX9_feed wsX5_addSign := goodIn_r _ [11, 12, 13, 4, 5, 6, 23, 24, 25, 26, 27, 28] (by decide +kernel) (by decide +kernel)
set_option maxRecDepth 20000 in
theorem gX9_feed_X5_addSign : GoodIn wsX9_feed (wsV RX9 123 RX5 yX5_addSign wsX5_addSign) := goodIn_app (goodIn_of _ (by decide +kernel)) ggX9_feed_X5_addSign
theorem dX9_feed_0 : decode cX9_feed 0 = .ok (.iload_n 1, 1) := by decide +kernel
theorem dX9_feed_1 : decode cX9_feed 1 = .ok (.iconst 0, 1) := by decide +kernel
theorem dX9_feed_2 : decode cX9_feed 2 = .ok (.bipush 127, 2) := by decide +kernel
theorem dX9_feed_4 : decode cX9_feed 4 = .ok (.invokestatic 79, 3) := by decide +kernel
theorem dX9_feed_7 : decode cX9_feed 7 = .ok (.ifCond .ne 6, 3) := by decide +kernel
theorem dX9_feed_10 : decode cX9_feed 10 = .ok (.bipush (-2), 2) := by decide +kernel
theorem dX9_feed_12 : decode cX9_feed 12 = .ok (.ireturn, 1) := by decide +kernel
theorem dX9_feed_13 : decode cX9_feed 13 = .ok (.aload_n 0, 1) := by decide +kernel
theorem dX9_feed_14 : decode cX9_feed 14 = .ok (.getfield 56, 3) := by decide +kernel
theorem dX9_feed_17 : decode cX9_feed 17 = .ok (.iload_n 1, 1) := by decide +kernel
theorem dX9_feed_18 : decode cX9_feed 18 = .ok (.invokevirtual 123, 3) := by decide +kernel
theorem dX9_feed_21 : decode cX9_feed 21 = .ok (.ifCond .eq 13, 3) := by decide +kernel
theorem dX9_feed_24 : decode cX9_feed 24 = .ok (.aload_n 0, 1) := by decide +kernel
theorem dX9_feed_25 : decode cX9_feed 25 = .ok (.getfield 56, 3) := by decide +kernel
theorem dX9_feed_28 : decode cX9_feed 28 = .ok (.getfield 126, 3) := by decide +kernel
theorem dX9_feed_31 : decode cX9_feed 31 = .ok (.goto 5, 3) := by decide +kernel
theorem dX9_feed_34 : decode cX9_feed 34 = .ok (.bipush (-4), 2) := by decide +kernel
theorem dX9_feed_36 : decode cX9_feed 36 = .ok (.ireturn, 1) := by decide +kernel
set_option maxRecDepth 20000 in
theorem ggX9_read_X5_findFault : GoodIn wsX9_read wsX5_findFault := goodIn_r _ [7, 8, 9, 10, 11, 12, 6, 13, 14, 15, 16, 17, 18, 19, 20, 21, 22, 23, 24, 25, 26, 27, 28, 29, 30, 31, 32, 33, 34, 35, 36, 37, 38, 39, 40, 41, 42, 43, 44, 109, 110, 111, 112, 113, 114] (by decide +kernel) (by decide +kernel)
set_option maxRecDepth 20000 in
theorem gX9_read_X5_findFault : GoodIn wsX9_read (wsV RX9 129 RX5 yX5_findFault wsX5_findFault) := goodIn_app (goodIn_of _ (by decide +kernel)) ggX9_read_X5_findFault
set_option maxRecDepth 20000 in
theorem ggX9_read_X9_doClauses : GoodIn wsX9_read wsX9_doClauses := goodIn_r _ [48, 1, 49, 11, 12, 6, 13, 8, 50, 15, 16, 17, 18, 19, 20, 21, 22, 23, 9, 24, 25, 26, 27, 28, 29, 30, 31, 32, 33, 34, 35, 36, 37, 38, 39, 40, 41, 42, 43, 44, 51, 52, 53, 54, 55, 56, 57, 58, 59, 60, 61, 62, 63, 64, 65, 66, 67, 68, 69, 70, 71, 72, 73, 74, 75, 76, 77, 78, 79, 80, 81, 82, 83, 84, 85, 86, 87, 88, 89, 90, 91, 92, 93, 94, 95, 96, 97, 98, 99, 100, 101, 102, 103, 104, 105, 106, 107, 108, 109, 110, 111, 112, 113, 114, 115, 116, 117, 118, 119, 120, 121, 122, 123, 124, 125, 126] (by decide +kernel) (by decide +kernel)
set_option maxRecDepth 20000 in
theorem gX9_read_X9_doClauses : GoodIn wsX9_read (wsV RX9 133 RX9 yX9_doClauses wsX9_doClauses) := goodIn_app (goodIn_of _ (by decide +kernel)) ggX9_read_X9_doClauses
theorem dX9_read_0 : decode cX9_read 0 = .ok (.aload_n 0, 1) := by decide +kernel
theorem dX9_read_1 : decode cX9_read 1 = .ok (.getfield 56, 3) := by decide +kernel
theorem dX9_read_4 : decode cX9_read 4 = .ok (.invokevirtual 129, 3) := by decide +kernel
theorem dX9_read_7 : decode cX9_read 7 = .ok (.istore_n 1, 1) := by decide +kernel
theorem dX9_read_8 : decode cX9_read 8 = .ok (.iload_n 1, 1) := by decide +kernel
theorem dX9_read_9 : decode cX9_read 9 = .ok (.iconst (-1), 1) := by decide +kernel
theorem dX9_read_10 : decode cX9_read 10 = .ok (.if_icmp .ne 10, 3) := by decide +kernel
theorem dX9_read_13 : decode cX9_read 13 = .ok (.aload_n 0, 1) := by decide +kernel
theorem dX9_read_14 : decode cX9_read 14 = .ok (.invokevirtual 133, 3) := by decide +kernel
theorem dX9_read_17 : decode cX9_read 17 = .ok (.goto 7, 3) := by decide +kernel
theorem dX9_read_20 : decode cX9_read 20 = .ok (.bipush (-10), 2) := by decide +kernel
theorem dX9_read_22 : decode cX9_read 22 = .ok (.iload_n 1, 1) := by decide +kernel
theorem dX9_read_23 : decode cX9_read 23 = .ok (.isub, 1) := by decide +kernel
theorem dX9_read_24 : decode cX9_read 24 = .ok (.istore_n 2, 1) := by decide +kernel
theorem dX9_read_25 : decode cX9_read 25 = .ok (.aload_n 0, 1) := by decide +kernel
theorem dX9_read_26 : decode cX9_read 26 = .ok (.getfield 56, 3) := by decide +kernel
theorem dX9_read_29 : decode cX9_read 29 = .ok (.iconst 0, 1) := by decide +kernel
theorem dX9_read_30 : decode cX9_read 30 = .ok (.putfield 126, 3) := by decide +kernel
theorem dX9_read_33 : decode cX9_read 33 = .ok (.iload_n 2, 1) := by decide +kernel
theorem dX9_read_34 : decode cX9_read 34 = .ok (.ireturn, 1) := by decide +kernel
set_option maxRecDepth 20000 in
theorem ggX9_of_X9_numbersOf : GoodIn wsX9_of wsX9_numbersOf := goodIn_r _ [5, 6, 7, 8, 9, 10, 11, 12, 13, 14, 15, 16, 17, 18, 19, 20, 21, 22, 23, 24, 25, 26, 27, 28, 29, 30, 31, 32, 33, 34, 35, 36, 37, 38, 39, 40, 41, 42, 43, 44, 4, 45, 46, 47, 48, 49, 50, 51, 52, 53, 54, 55, 56, 58, 59, 60, 61, 62, 63, 64, 65, 66, 67, 68, 69, 70, 71, 72, 73, 74, 75, 76, 77, 78, 79, 80, 81] (by decide +kernel) (by decide +kernel)
set_option maxRecDepth 20000 in
theorem gX9_of_X9_numbersOf : GoodIn wsX9_of (wsV RX9 136 RX9 yX9_numbersOf wsX9_numbersOf) := goodIn_app (goodIn_of _ (by decide +kernel)) ggX9_of_X9_numbersOf
set_option maxRecDepth 20000 in
theorem ggX9_of_X9_between : GoodIn wsX9_of wsX9_between := goodIn_r _ [45] (by decide +kernel) (by decide +kernel)
set_option maxRecDepth 20000 in
theorem gX9_of_X9_between : GoodIn wsX9_of (va_wsS RX9 79 yX9_between wsX9_between) := goodIn_app (goodIn_of _ (by decide +kernel)) ggX9_of_X9_between
theorem dX9_of_0 : decode cX9_of 0 = .ok (.aload_n 0, 1) := by decide +kernel
theorem dX9_of_1 : decode cX9_of 1 = .ok (.iload_n 1, 1) := by decide +kernel
theorem dX9_of_2 : decode cX9_of 2 = .ok (.invokevirtual 136, 3) := by decide +kernel
theorem dX9_of_5 : decode cX9_of 5 = .ok (.astore_n 3, 1) := by decide +kernel
theorem dX9_of_6 : decode cX9_of 6 = .ok (.aload_n 3, 1) := by decide +kernel
theorem dX9_of_7 : decode cX9_of 7 = .ok (.ifnull 15, 3) := by decide +kernel
theorem dX9_of_10 : decode cX9_of 10 = .ok (.iload_n 2, 1) := by decide +kernel
theorem dX9_of_11 : decode cX9_of 11 = .ok (.iconst 0, 1) := by decide +kernel
theorem dX9_of_12 : decode cX9_of 12 = .ok (.aload_n 3, 1) := by decide +kernel
theorem dX9_of_13 : decode cX9_of 13 = .ok (.arraylength, 1) := by decide +kernel
theorem dX9_of_14 : decode cX9_of 14 = .ok (.iconst 1, 1) := by decide +kernel
theorem dX9_of_15 : decode cX9_of 15 = .ok (.isub, 1) := by decide +kernel
theorem dX9_of_16 : decode cX9_of 16 = .ok (.invokestatic 79, 3) := by decide +kernel
theorem dX9_of_19 : decode cX9_of 19 = .ok (.ifCond .ne 5, 3) := by decide +kernel
theorem dX9_of_22 : decode cX9_of 22 = .ok (.iconst (-1), 1) := by decide +kernel
theorem dX9_of_23 : decode cX9_of 23 = .ok (.ireturn, 1) := by decide +kernel
theorem dX9_of_24 : decode cX9_of 24 = .ok (.aload_n 3, 1) := by decide +kernel
theorem dX9_of_25 : decode cX9_of 25 = .ok (.iload_n 2, 1) := by decide +kernel
theorem dX9_of_26 : decode cX9_of 26 = .ok (.iaload, 1) := by decide +kernel
theorem dX9_of_27 : decode cX9_of 27 = .ok (.ireturn, 1) := by decide +kernel
set_option maxRecDepth 20000 in
theorem ggX9_told_X6_has : GoodIn wsX9_told wsX6_has := goodIn_r _ [14, 15, 16, 69, 70, 71] (by decide +kernel) (by decide +kernel)
set_option maxRecDepth 20000 in
theorem gX9_told_X6_has : GoodIn wsX9_told (wsV RX9 97 RX6 yX6_has wsX6_has) := goodIn_app (goodIn_of _ (by decide +kernel)) ggX9_told_X6_has
set_option maxRecDepth 20000 in
theorem ggX9_told_X9_between : GoodIn wsX9_told wsX9_between := goodIn_r _ [20] (by decide +kernel) (by decide +kernel)
set_option maxRecDepth 20000 in
theorem gX9_told_X9_between : GoodIn wsX9_told (va_wsS RX9 79 yX9_between wsX9_between) := goodIn_app (goodIn_of _ (by decide +kernel)) ggX9_told_X9_between
set_option maxRecDepth 20000 in
theorem ggX9_told_X1_runOff : GoodIn wsX9_told wsX1_runOff := goodIn_r _ [25, 26, 27, 28, 29, 30, 31, 32, 33, 34, 35, 36, 37, 38, 39, 40, 41, 42, 43, 18, 19, 20, 44, 45, 46, 47, 48, 49, 50, 51, 52, 53, 54, 76, 77, 78, 72, 73, 74, 75] (by decide +kernel) (by decide +kernel)
set_option maxRecDepth 20000 in
theorem gX9_told_X1_runOff : GoodIn wsX9_told (wsV RX9 143 RX1 yX1_runOff wsX1_runOff) := goodIn_app (goodIn_of _ (by decide +kernel)) ggX9_told_X1_runOff
theorem dX9_told_0 : decode cX9_told 0 = .ok (.aload_n 0, 1) := by decide +kernel
theorem dX9_told_1 : decode cX9_told 1 = .ok (.getfield 12, 3) := by decide +kernel
theorem dX9_told_4 : decode cX9_told 4 = .ok (.getfield 67, 3) := by decide +kernel
theorem dX9_told_7 : decode cX9_told 7 = .ok (.iload_n 1, 1) := by decide +kernel
theorem dX9_told_8 : decode cX9_told 8 = .ok (.invokevirtual 97, 3) := by decide +kernel
theorem dX9_told_11 : decode cX9_told 11 = .ok (.ifCond .eq 13, 3) := by decide +kernel
theorem dX9_told_14 : decode cX9_told 14 = .ok (.iload_n 2, 1) := by decide +kernel
theorem dX9_told_15 : decode cX9_told 15 = .ok (.iconst (-1), 1) := by decide +kernel
theorem dX9_told_16 : decode cX9_told 16 = .ok (.bipush 7, 2) := by decide +kernel
theorem dX9_told_18 : decode cX9_told 18 = .ok (.invokestatic 79, 3) := by decide +kernel
theorem dX9_told_21 : decode cX9_told 21 = .ok (.ifCond .ne 5, 3) := by decide +kernel
theorem dX9_told_24 : decode cX9_told 24 = .ok (.iconst (-1), 1) := by decide +kernel
theorem dX9_told_25 : decode cX9_told 25 = .ok (.ireturn, 1) := by decide +kernel
theorem dX9_told_26 : decode cX9_told 26 = .ok (.aload_n 0, 1) := by decide +kernel
theorem dX9_told_27 : decode cX9_told 27 = .ok (.getfield 12, 3) := by decide +kernel
theorem dX9_told_30 : decode cX9_told 30 = .ok (.getfield 67, 3) := by decide +kernel
theorem dX9_told_33 : decode cX9_told 33 = .ok (.getfield 87, 3) := by decide +kernel
theorem dX9_told_36 : decode cX9_told 36 = .ok (.iload_n 1, 1) := by decide +kernel
theorem dX9_told_37 : decode cX9_told 37 = .ok (.aaload, 1) := by decide +kernel
theorem dX9_told_38 : decode cX9_told 38 = .ok (.astore_n 3, 1) := by decide +kernel
theorem dX9_told_39 : decode cX9_told 39 = .ok (.iload_n 2, 1) := by decide +kernel
theorem dX9_told_40 : decode cX9_told 40 = .ok (.tableswitch 86 (-1) 7 #[52, 86, 86, 86, 86, 86, 57, 62, 67], 52) := by decide +kernel
theorem dX9_told_92 : decode cX9_told 92 = .ok (.aload_n 3, 1) := by decide +kernel
theorem dX9_told_93 : decode cX9_told 93 = .ok (.getfield 140, 3) := by decide +kernel
theorem dX9_told_96 : decode cX9_told 96 = .ok (.ireturn, 1) := by decide +kernel
theorem dX9_told_97 : decode cX9_told 97 = .ok (.aload_n 3, 1) := by decide +kernel
theorem dX9_told_98 : decode cX9_told 98 = .ok (.getfield 101, 3) := by decide +kernel
theorem dX9_told_101 : decode cX9_told 101 = .ok (.ireturn, 1) := by decide +kernel
theorem dX9_told_102 : decode cX9_told 102 = .ok (.aload_n 3, 1) := by decide +kernel
theorem dX9_told_103 : decode cX9_told 103 = .ok (.getfield 104, 3) := by decide +kernel
theorem dX9_told_106 : decode cX9_told 106 = .ok (.ireturn, 1) := by decide +kernel
theorem dX9_told_107 : decode cX9_told 107 = .ok (.aload_n 0, 1) := by decide +kernel
theorem dX9_told_108 : decode cX9_told 108 = .ok (.getfield 35, 3) := by decide +kernel
theorem dX9_told_111 : decode cX9_told 111 = .ok (.aload_n 3, 1) := by decide +kernel
theorem dX9_told_112 : decode cX9_told 112 = .ok (.aload_n 0, 1) := by decide +kernel
theorem dX9_told_113 : decode cX9_told 113 = .ok (.getfield 12, 3) := by decide +kernel
theorem dX9_told_116 : decode cX9_told 116 = .ok (.getfield 67, 3) := by decide +kernel
theorem dX9_told_119 : decode cX9_told 119 = .ok (.getfield 70, 3) := by decide +kernel
theorem dX9_told_122 : decode cX9_told 122 = .ok (.invokevirtual 143, 3) := by decide +kernel
theorem dX9_told_125 : decode cX9_told 125 = .ok (.ireturn, 1) := by decide +kernel
theorem dX9_told_126 : decode cX9_told 126 = .ok (.iload_n 2, 1) := by decide +kernel
theorem dX9_told_127 : decode cX9_told 127 = .ok (.aload_n 3, 1) := by decide +kernel
theorem dX9_told_128 : decode cX9_told 128 = .ok (.getfield 146, 3) := by decide +kernel
theorem dX9_told_131 : decode cX9_told 131 = .ok (.arraylength, 1) := by decide +kernel
theorem dX9_told_132 : decode cX9_told 132 = .ok (.if_icmp .ge 12, 3) := by decide +kernel
theorem dX9_told_135 : decode cX9_told 135 = .ok (.aload_n 3, 1) := by decide +kernel
theorem dX9_told_136 : decode cX9_told 136 = .ok (.getfield 146, 3) := by decide +kernel
theorem dX9_told_139 : decode cX9_told 139 = .ok (.iload_n 2, 1) := by decide +kernel
theorem dX9_told_140 : decode cX9_told 140 = .ok (.iaload, 1) := by decide +kernel
theorem dX9_told_141 : decode cX9_told 141 = .ok (.goto 4, 3) := by decide +kernel
theorem dX9_told_144 : decode cX9_told 144 = .ok (.iconst 0, 1) := by decide +kernel
theorem dX9_told_145 : decode cX9_told 145 = .ok (.ireturn, 1) := by decide +kernel
set_option maxRecDepth 20000 in
theorem ggX9_flow_X9_between : GoodIn wsX9_flow wsX9_between := goodIn_r _ [11] (by decide +kernel) (by decide +kernel)
set_option maxRecDepth 20000 in
theorem gX9_flow_X9_between : GoodIn wsX9_flow (va_wsS RX9 79 yX9_between wsX9_between) := goodIn_app (goodIn_of _ (by decide +kernel)) ggX9_flow_X9_between
set_option maxRecDepth 20000 in
theorem ggX9_flow_X6_has : GoodIn wsX9_flow wsX6_has := goodIn_r _ [16, 17, 18, 67, 68, 69] (by decide +kernel) (by decide +kernel)
set_option maxRecDepth 20000 in
theorem gX9_flow_X6_has : GoodIn wsX9_flow (wsV RX9 97 RX6 yX6_has wsX6_has) := goodIn_app (goodIn_of _ (by decide +kernel)) ggX9_flow_X6_has
set_option maxRecDepth 20000 in
theorem ggX9_flow_X1_runOff : GoodIn wsX9_flow wsX1_runOff := goodIn_r _ [23, 24, 25, 26, 27, 28, 29, 30, 31, 32, 33, 34, 35, 36, 37, 38, 39, 40, 41, 9, 10, 11, 42, 43, 44, 45, 46, 47, 48, 49, 50, 51, 52, 70, 71, 72, 73, 74, 75, 76] (by decide +kernel) (by decide +kernel)
set_option maxRecDepth 20000 in
theorem gX9_flow_X1_runOff : GoodIn wsX9_flow (wsV RX9 143 RX1 yX1_runOff wsX1_runOff) := goodIn_app (goodIn_of _ (by decide +kernel)) ggX9_flow_X1_runOff
theorem dX9_flow_0 : decode cX9_flow 0 = .ok (.iload_n 1, 1) := by decide +kernel
theorem dX9_flow_1 : decode cX9_flow 1 = .ok (.iconst 0, 1) := by decide +kernel
theorem dX9_flow_2 : decode cX9_flow 2 = .ok (.iconst 1, 1) := by decide +kernel
theorem dX9_flow_3 : decode cX9_flow 3 = .ok (.invokestatic 79, 3) := by decide +kernel
theorem dX9_flow_6 : decode cX9_flow 6 = .ok (.ifCond .eq 27, 3) := by decide +kernel
theorem dX9_flow_9 : decode cX9_flow 9 = .ok (.aload_n 0, 1) := by decide +kernel
theorem dX9_flow_10 : decode cX9_flow 10 = .ok (.getfield 12, 3) := by decide +kernel
theorem dX9_flow_13 : decode cX9_flow 13 = .ok (.getfield 67, 3) := by decide +kernel
theorem dX9_flow_16 : decode cX9_flow 16 = .ok (.iload_n 2, 1) := by decide +kernel
theorem dX9_flow_17 : decode cX9_flow 17 = .ok (.invokevirtual 97, 3) := by decide +kernel
theorem dX9_flow_20 : decode cX9_flow 20 = .ok (.ifCond .eq 13, 3) := by decide +kernel
theorem dX9_flow_23 : decode cX9_flow 23 = .ok (.iload_n 3, 1) := by decide +kernel
theorem dX9_flow_24 : decode cX9_flow 24 = .ok (.iconst 0, 1) := by decide +kernel
theorem dX9_flow_25 : decode cX9_flow 25 = .ok (.bipush 29, 2) := by decide +kernel
theorem dX9_flow_27 : decode cX9_flow 27 = .ok (.invokestatic 79, 3) := by decide +kernel
theorem dX9_flow_30 : decode cX9_flow 30 = .ok (.ifCond .ne 5, 3) := by decide +kernel
theorem dX9_flow_33 : decode cX9_flow 33 = .ok (.iconst (-1), 1) := by decide +kernel
theorem dX9_flow_34 : decode cX9_flow 34 = .ok (.ireturn, 1) := by decide +kernel
theorem dX9_flow_35 : decode cX9_flow 35 = .ok (.aload_n 0, 1) := by decide +kernel
theorem dX9_flow_36 : decode cX9_flow 36 = .ok (.getfield 35, 3) := by decide +kernel
theorem dX9_flow_39 : decode cX9_flow 39 = .ok (.aload_n 0, 1) := by decide +kernel
theorem dX9_flow_40 : decode cX9_flow 40 = .ok (.getfield 12, 3) := by decide +kernel
theorem dX9_flow_43 : decode cX9_flow 43 = .ok (.getfield 67, 3) := by decide +kernel
theorem dX9_flow_46 : decode cX9_flow 46 = .ok (.getfield 87, 3) := by decide +kernel
theorem dX9_flow_49 : decode cX9_flow 49 = .ok (.iload_n 2, 1) := by decide +kernel
theorem dX9_flow_50 : decode cX9_flow 50 = .ok (.aaload, 1) := by decide +kernel
theorem dX9_flow_51 : decode cX9_flow 51 = .ok (.aload_n 0, 1) := by decide +kernel
theorem dX9_flow_52 : decode cX9_flow 52 = .ok (.getfield 12, 3) := by decide +kernel
theorem dX9_flow_55 : decode cX9_flow 55 = .ok (.getfield 67, 3) := by decide +kernel
theorem dX9_flow_58 : decode cX9_flow 58 = .ok (.getfield 70, 3) := by decide +kernel
theorem dX9_flow_61 : decode cX9_flow 61 = .ok (.invokevirtual 143, 3) := by decide +kernel
theorem dX9_flow_64 : decode cX9_flow 64 = .ok (.pop, 1) := by decide +kernel
theorem dX9_flow_65 : decode cX9_flow 65 = .ok (.iload_n 1, 1) := by decide +kernel
theorem dX9_flow_66 : decode cX9_flow 66 = .ok (.ifCond .ne 15, 3) := by decide +kernel
theorem dX9_flow_69 : decode cX9_flow 69 = .ok (.aload_n 0, 1) := by decide +kernel
theorem dX9_flow_70 : decode cX9_flow 70 = .ok (.getfield 35, 3) := by decide +kernel
theorem dX9_flow_73 : decode cX9_flow 73 = .ok (.getfield 149, 3) := by decide +kernel
theorem dX9_flow_76 : decode cX9_flow 76 = .ok (.iload_n 3, 1) := by decide +kernel
theorem dX9_flow_77 : decode cX9_flow 77 = .ok (.iaload, 1) := by decide +kernel
theorem dX9_flow_78 : decode cX9_flow 78 = .ok (.goto 12, 3) := by decide +kernel
theorem dX9_flow_81 : decode cX9_flow 81 = .ok (.aload_n 0, 1) := by decide +kernel
theorem dX9_flow_82 : decode cX9_flow 82 = .ok (.getfield 35, 3) := by decide +kernel
theorem dX9_flow_85 : decode cX9_flow 85 = .ok (.getfield 152, 3) := by decide +kernel
theorem dX9_flow_88 : decode cX9_flow 88 = .ok (.iload_n 3, 1) := by decide +kernel
theorem dX9_flow_89 : decode cX9_flow 89 = .ok (.iaload, 1) := by decide +kernel
theorem dX9_flow_90 : decode cX9_flow 90 = .ok (.ireturn, 1) := by decide +kernel
set_option maxRecDepth 20000 in
theorem ggX9_row_X9_numbersOf : GoodIn wsX9_row wsX9_numbersOf := goodIn_r _ [5, 6, 7, 8, 9, 10, 11, 12, 13, 14, 15, 16, 17, 18, 19, 20, 21, 22, 23, 24, 25, 26, 27, 28, 29, 30, 31, 32, 33, 34, 35, 36, 37, 38, 39, 40, 41, 42, 43, 44, 4, 45, 46, 47, 48, 49, 50, 51, 52, 53, 54, 55, 56, 75, 76, 77, 78, 79, 80, 81, 82, 83, 84, 85, 86, 87, 88, 89, 90, 91, 92, 93, 94, 95, 96, 97, 98] (by decide +kernel) (by decide +kernel)
set_option maxRecDepth 20000 in
theorem gX9_row_X9_numbersOf : GoodIn wsX9_row (wsV RX9 136 RX9 yX9_numbersOf wsX9_numbersOf) := goodIn_app (goodIn_of _ (by decide +kernel)) ggX9_row_X9_numbersOf
set_option maxRecDepth 20000 in
theorem ggX9_row_X9_outOf : GoodIn wsX9_row wsX9_outOf := goodIn_r _ [60, 6, 7, 10, 61, 8, 62, 63, 64, 65, 66, 67, 68, 69, 70, 27, 28, 15, 29, 30, 21, 31, 32, 33, 34, 35, 36, 37, 23, 24, 25, 38, 39, 40, 41, 42, 43, 44, 4, 45, 46, 47, 48, 49, 50, 51, 52, 53, 54, 55, 56, 75, 76, 77, 78, 79, 80, 81, 82, 83, 84, 85, 86, 87, 88, 89, 90, 91, 92, 93, 94, 95, 96, 97, 98] (by decide +kernel) (by decide +kernel)
set_option maxRecDepth 20000 in
theorem gX9_row_X9_outOf : GoodIn wsX9_row (wsV RX9 155 RX9 yX9_outOf wsX9_outOf) := goodIn_app (goodIn_of _ (by decide +kernel)) ggX9_row_X9_outOf
set_option maxRecDepth 20000 in
theorem ggX9_row_X9_between : GoodIn wsX9_row wsX9_between := goodIn_r _ [45] (by decide +kernel) (by decide +kernel)
set_option maxRecDepth 20000 in
theorem gX9_row_X9_between : GoodIn wsX9_row (va_wsS RX9 79 yX9_between wsX9_between) := goodIn_app (goodIn_of _ (by decide +kernel)) ggX9_row_X9_between
set_option maxRecDepth 20000 in
theorem ggX9_row_X9_measure : GoodIn wsX9_row wsX9_measure := goodIn_r _ [74] (by decide +kernel) (by decide +kernel)
set_option maxRecDepth 20000 in
theorem gX9_row_X9_measure : GoodIn wsX9_row (va_wsS RX9 119 yX9_measure wsX9_measure) := goodIn_app (goodIn_of _ (by decide +kernel)) ggX9_row_X9_measure
theorem dX9_row_0 : decode cX9_row 0 = .ok (.iload_n 1, 1) := by decide +kernel
theorem dX9_row_1 : decode cX9_row 1 = .ok (.iconst 3, 1) := by decide +kernel
theorem dX9_row_2 : decode cX9_row 2 = .ok (.if_icmp .ge 11, 3) := by decide +kernel
theorem dX9_row_5 : decode cX9_row 5 = .ok (.aload_n 0, 1) := by decide +kernel
theorem dX9_row_6 : decode cX9_row 6 = .ok (.iload_n 1, 1) := by decide +kernel
theorem dX9_row_7 : decode cX9_row 7 = .ok (.invokevirtual 136, 3) := by decide +kernel
theorem dX9_row_10 : decode cX9_row 10 = .ok (.goto 10, 3) := by decide +kernel
theorem dX9_row_13 : decode cX9_row 13 = .ok (.aload_n 0, 1) := by decide +kernel
theorem dX9_row_14 : decode cX9_row 14 = .ok (.iload_n 1, 1) := by decide +kernel
theorem dX9_row_15 : decode cX9_row 15 = .ok (.iconst 3, 1) := by decide +kernel
theorem dX9_row_16 : decode cX9_row 16 = .ok (.isub, 1) := by decide +kernel
theorem dX9_row_17 : decode cX9_row 17 = .ok (.invokevirtual 155, 3) := by decide +kernel
theorem dX9_row_20 : decode cX9_row 20 = .ok (.astore_n 3, 1) := by decide +kernel
theorem dX9_row_21 : decode cX9_row 21 = .ok (.aload_n 3, 1) := by decide +kernel
theorem dX9_row_22 : decode cX9_row 22 = .ok (.ifnull 12, 3) := by decide +kernel
theorem dX9_row_25 : decode cX9_row 25 = .ok (.iload_n 2, 1) := by decide +kernel
theorem dX9_row_26 : decode cX9_row 26 = .ok (.iconst 0, 1) := by decide +kernel
theorem dX9_row_27 : decode cX9_row 27 = .ok (.iconst 2, 1) := by decide +kernel
theorem dX9_row_28 : decode cX9_row 28 = .ok (.invokestatic 79, 3) := by decide +kernel
theorem dX9_row_31 : decode cX9_row 31 = .ok (.ifCond .ne 5, 3) := by decide +kernel
theorem dX9_row_34 : decode cX9_row 34 = .ok (.iconst (-1), 1) := by decide +kernel
theorem dX9_row_35 : decode cX9_row 35 = .ok (.ireturn, 1) := by decide +kernel
theorem dX9_row_36 : decode cX9_row 36 = .ok (.aload_n 3, 1) := by decide +kernel
theorem dX9_row_37 : decode cX9_row 37 = .ok (.iload_n 2, 1) := by decide +kernel
theorem dX9_row_38 : decode cX9_row 38 = .ok (.invokestatic 119, 3) := by decide +kernel
theorem dX9_row_41 : decode cX9_row 41 = .ok (.ireturn, 1) := by decide +kernel
theorem dX9_basins_0 : decode cX9_basins 0 = .ok (.aload_n 0, 1) := by decide +kernel
theorem dX9_basins_1 : decode cX9_basins 1 = .ok (.getfield 12, 3) := by decide +kernel
theorem dX9_basins_4 : decode cX9_basins 4 = .ok (.getfield 67, 3) := by decide +kernel
theorem dX9_basins_7 : decode cX9_basins 7 = .ok (.getfield 83, 3) := by decide +kernel
theorem dX9_basins_10 : decode cX9_basins 10 = .ok (.ireturn, 1) := by decide +kernel
set_option maxRecDepth 20000 in
theorem ggX9_flaw_X6_has : GoodIn wsX9_flaw wsX6_has := goodIn_r _ [10, 11, 12, 51, 52, 53] (by decide +kernel) (by decide +kernel)
set_option maxRecDepth 20000 in
theorem gX9_flaw_X6_has : GoodIn wsX9_flaw (wsV RX9 97 RX6 yX6_has wsX6_has) := goodIn_app (goodIn_of _ (by decide +kernel)) ggX9_flaw_X6_has
set_option maxRecDepth 20000 in
theorem ggX9_flaw_X2_unfoldBy : GoodIn wsX9_flaw wsX2_unfoldBy := goodIn_r _ [17, 18, 19, 20, 21, 22, 23, 24, 25, 16, 26, 27, 28, 29, 30, 31, 32, 33, 34, 35, 36, 54, 55, 56, 57, 58, 59, 60] (by decide +kernel) (by decide +kernel)
set_option maxRecDepth 20000 in
theorem gX9_flaw_X2_unfoldBy : GoodIn wsX9_flaw (wsV RX9 110 RX2 yX2_unfoldBy wsX2_unfoldBy) := goodIn_app (goodIn_of _ (by decide +kernel)) ggX9_flaw_X2_unfoldBy
theorem dX9_flaw_0 : decode cX9_flaw 0 = .ok (.aload_n 0, 1) := by decide +kernel
theorem dX9_flaw_1 : decode cX9_flaw 1 = .ok (.getfield 12, 3) := by decide +kernel
theorem dX9_flaw_4 : decode cX9_flaw 4 = .ok (.getfield 67, 3) := by decide +kernel
theorem dX9_flaw_7 : decode cX9_flaw 7 = .ok (.iload_n 1, 1) := by decide +kernel
theorem dX9_flaw_8 : decode cX9_flaw 8 = .ok (.invokevirtual 97, 3) := by decide +kernel
theorem dX9_flaw_11 : decode cX9_flaw 11 = .ok (.ifCond .ne 5, 3) := by decide +kernel
theorem dX9_flaw_14 : decode cX9_flaw 14 = .ok (.iconst (-1), 1) := by decide +kernel
theorem dX9_flaw_15 : decode cX9_flaw 15 = .ok (.ireturn, 1) := by decide +kernel
theorem dX9_flaw_16 : decode cX9_flaw 16 = .ok (.aload_n 0, 1) := by decide +kernel
theorem dX9_flaw_17 : decode cX9_flaw 17 = .ok (.getfield 42, 3) := by decide +kernel
theorem dX9_flaw_20 : decode cX9_flaw 20 = .ok (.aload_n 0, 1) := by decide +kernel
theorem dX9_flaw_21 : decode cX9_flaw 21 = .ok (.getfield 12, 3) := by decide +kernel
theorem dX9_flaw_24 : decode cX9_flaw 24 = .ok (.getfield 67, 3) := by decide +kernel
theorem dX9_flaw_27 : decode cX9_flaw 27 = .ok (.getfield 87, 3) := by decide +kernel
theorem dX9_flaw_30 : decode cX9_flaw 30 = .ok (.iload_n 1, 1) := by decide +kernel
theorem dX9_flaw_31 : decode cX9_flaw 31 = .ok (.aaload, 1) := by decide +kernel
theorem dX9_flaw_32 : decode cX9_flaw 32 = .ok (.aload_n 0, 1) := by decide +kernel
theorem dX9_flaw_33 : decode cX9_flaw 33 = .ok (.getfield 12, 3) := by decide +kernel
theorem dX9_flaw_36 : decode cX9_flaw 36 = .ok (.getfield 107, 3) := by decide +kernel
theorem dX9_flaw_39 : decode cX9_flaw 39 = .ok (.invokevirtual 110, 3) := by decide +kernel
theorem dX9_flaw_42 : decode cX9_flaw 42 = .ok (.ireturn, 1) := by decide +kernel
set_option maxRecDepth 20000 in
theorem ggX9_unfold_X6_has : GoodIn wsX9_unfold wsX6_has := goodIn_r _ [11, 12, 13, 53, 54, 55] (by decide +kernel) (by decide +kernel)
set_option maxRecDepth 20000 in
theorem gX9_unfold_X6_has : GoodIn wsX9_unfold (wsV RX9 97 RX6 yX6_has wsX6_has) := goodIn_app (goodIn_of _ (by decide +kernel)) ggX9_unfold_X6_has
set_option maxRecDepth 20000 in
theorem ggX9_unfold_X9_between : GoodIn wsX9_unfold wsX9_between := goodIn_r _ [17] (by decide +kernel) (by decide +kernel)
set_option maxRecDepth 20000 in
theorem gX9_unfold_X9_between : GoodIn wsX9_unfold (va_wsS RX9 79 yX9_between wsX9_between) := goodIn_app (goodIn_of _ (by decide +kernel)) ggX9_unfold_X9_between
set_option maxRecDepth 20000 in
theorem ggX9_unfold_X2_unfoldBy : GoodIn wsX9_unfold wsX2_unfoldBy := goodIn_r _ [22, 23, 24, 25, 26, 16, 27, 28, 29, 21, 30, 31, 32, 33, 34, 15, 17, 35, 36, 37, 38, 56, 57, 58, 59, 60, 61, 62] (by decide +kernel) (by decide +kernel)
set_option maxRecDepth 20000 in
theorem gX9_unfold_X2_unfoldBy : GoodIn wsX9_unfold (wsV RX9 110 RX2 yX2_unfoldBy wsX2_unfoldBy) := goodIn_app (goodIn_of _ (by decide +kernel)) ggX9_unfold_X2_unfoldBy
theorem dX9_unfold_0 : decode cX9_unfold 0 = .ok (.aload_n 0, 1) := by decide +kernel
theorem dX9_unfold_1 : decode cX9_unfold 1 = .ok (.getfield 12, 3) := by decide +kernel
theorem dX9_unfold_4 : decode cX9_unfold 4 = .ok (.getfield 67, 3) := by decide +kernel
theorem dX9_unfold_7 : decode cX9_unfold 7 = .ok (.iload_n 1, 1) := by decide +kernel
theorem dX9_unfold_8 : decode cX9_unfold 8 = .ok (.invokevirtual 97, 3) := by decide +kernel
theorem dX9_unfold_11 : decode cX9_unfold 11 = .ok (.ifCond .eq 13, 3) := by decide +kernel
theorem dX9_unfold_14 : decode cX9_unfold 14 = .ok (.iload_n 2, 1) := by decide +kernel
theorem dX9_unfold_15 : decode cX9_unfold 15 = .ok (.iconst 0, 1) := by decide +kernel
theorem dX9_unfold_16 : decode cX9_unfold 16 = .ok (.bipush 7, 2) := by decide +kernel
theorem dX9_unfold_18 : decode cX9_unfold 18 = .ok (.invokestatic 79, 3) := by decide +kernel
theorem dX9_unfold_21 : decode cX9_unfold 21 = .ok (.ifCond .ne 5, 3) := by decide +kernel
theorem dX9_unfold_24 : decode cX9_unfold 24 = .ok (.iconst (-1), 1) := by decide +kernel
theorem dX9_unfold_25 : decode cX9_unfold 25 = .ok (.ireturn, 1) := by decide +kernel
theorem dX9_unfold_26 : decode cX9_unfold 26 = .ok (.aload_n 0, 1) := by decide +kernel
theorem dX9_unfold_27 : decode cX9_unfold 27 = .ok (.getfield 42, 3) := by decide +kernel
theorem dX9_unfold_30 : decode cX9_unfold 30 = .ok (.aload_n 0, 1) := by decide +kernel
theorem dX9_unfold_31 : decode cX9_unfold 31 = .ok (.getfield 12, 3) := by decide +kernel
theorem dX9_unfold_34 : decode cX9_unfold 34 = .ok (.getfield 67, 3) := by decide +kernel
theorem dX9_unfold_37 : decode cX9_unfold 37 = .ok (.getfield 87, 3) := by decide +kernel
theorem dX9_unfold_40 : decode cX9_unfold 40 = .ok (.iload_n 1, 1) := by decide +kernel
theorem dX9_unfold_41 : decode cX9_unfold 41 = .ok (.aaload, 1) := by decide +kernel
theorem dX9_unfold_42 : decode cX9_unfold 42 = .ok (.aload_n 0, 1) := by decide +kernel
theorem dX9_unfold_43 : decode cX9_unfold 43 = .ok (.getfield 12, 3) := by decide +kernel
theorem dX9_unfold_46 : decode cX9_unfold 46 = .ok (.getfield 107, 3) := by decide +kernel
theorem dX9_unfold_49 : decode cX9_unfold 49 = .ok (.invokevirtual 110, 3) := by decide +kernel
theorem dX9_unfold_52 : decode cX9_unfold 52 = .ok (.bipush (-5), 2) := by decide +kernel
theorem dX9_unfold_54 : decode cX9_unfold 54 = .ok (.if_icmp .eq 6, 3) := by decide +kernel
theorem dX9_unfold_57 : decode cX9_unfold 57 = .ok (.bipush (-3), 2) := by decide +kernel
theorem dX9_unfold_59 : decode cX9_unfold 59 = .ok (.ireturn, 1) := by decide +kernel
theorem dX9_unfold_60 : decode cX9_unfold 60 = .ok (.aload_n 0, 1) := by decide +kernel
theorem dX9_unfold_61 : decode cX9_unfold 61 = .ok (.getfield 42, 3) := by decide +kernel
theorem dX9_unfold_64 : decode cX9_unfold 64 = .ok (.getfield 114, 3) := by decide +kernel
theorem dX9_unfold_67 : decode cX9_unfold 67 = .ok (.iload_n 2, 1) := by decide +kernel
theorem dX9_unfold_68 : decode cX9_unfold 68 = .ok (.iaload, 1) := by decide +kernel
theorem dX9_unfold_69 : decode cX9_unfold 69 = .ok (.ireturn, 1) := by decide +kernel
set_option maxRecDepth 20000 in
theorem ggX9_backFlaw_X2_findBack : GoodIn wsX9_backFlaw wsX2_findBack := goodIn_r _ [10, 11, 12, 13, 14, 9, 15, 16, 17, 18, 19, 20, 21, 22, 23, 24, 25, 26, 27, 28, 29, 30, 31, 49, 50, 51] (by decide +kernel) (by decide +kernel)
set_option maxRecDepth 20000 in
theorem gX9_backFlaw_X2_findBack : GoodIn wsX9_backFlaw (wsV RX9 158 RX2 yX2_findBack wsX2_findBack) := goodIn_app (goodIn_of _ (by decide +kernel)) ggX9_backFlaw_X2_findBack
theorem dX9_backFlaw_0 : decode cX9_backFlaw 0 = .ok (.aload_n 0, 1) := by decide +kernel
theorem dX9_backFlaw_1 : decode cX9_backFlaw 1 = .ok (.getfield 42, 3) := by decide +kernel
theorem dX9_backFlaw_4 : decode cX9_backFlaw 4 = .ok (.aload_n 0, 1) := by decide +kernel
theorem dX9_backFlaw_5 : decode cX9_backFlaw 5 = .ok (.getfield 12, 3) := by decide +kernel
theorem dX9_backFlaw_8 : decode cX9_backFlaw 8 = .ok (.getfield 67, 3) := by decide +kernel
theorem dX9_backFlaw_11 : decode cX9_backFlaw 11 = .ok (.getfield 70, 3) := by decide +kernel
theorem dX9_backFlaw_14 : decode cX9_backFlaw 14 = .ok (.aload_n 0, 1) := by decide +kernel
theorem dX9_backFlaw_15 : decode cX9_backFlaw 15 = .ok (.getfield 12, 3) := by decide +kernel
theorem dX9_backFlaw_18 : decode cX9_backFlaw 18 = .ok (.getfield 107, 3) := by decide +kernel
theorem dX9_backFlaw_21 : decode cX9_backFlaw 21 = .ok (.invokevirtual 158, 3) := by decide +kernel
theorem dX9_backFlaw_24 : decode cX9_backFlaw 24 = .ok (.ireturn, 1) := by decide +kernel
set_option maxRecDepth 20000 in
theorem ggX9_back_X9_between : GoodIn wsX9_back wsX9_between := goodIn_r _ [10] (by decide +kernel) (by decide +kernel)
set_option maxRecDepth 20000 in
theorem gX9_back_X9_between : GoodIn wsX9_back (va_wsS RX9 79 yX9_between wsX9_between) := goodIn_app (goodIn_of _ (by decide +kernel)) ggX9_back_X9_between
set_option maxRecDepth 20000 in
theorem ggX9_back_X2_findBack : GoodIn wsX9_back wsX2_findBack := goodIn_r _ [15, 16, 17, 18, 19, 14, 20, 21, 9, 22, 23, 24, 25, 26, 27, 28, 29, 8, 10, 30, 31, 32, 33, 51, 52, 53] (by decide +kernel) (by decide +kernel)
set_option maxRecDepth 20000 in
theorem gX9_back_X2_findBack : GoodIn wsX9_back (wsV RX9 158 RX2 yX2_findBack wsX2_findBack) := goodIn_app (goodIn_of _ (by decide +kernel)) ggX9_back_X2_findBack
theorem dX9_back_0 : decode cX9_back 0 = .ok (.iload_n 1, 1) := by decide +kernel
theorem dX9_back_1 : decode cX9_back 1 = .ok (.iconst 0, 1) := by decide +kernel
theorem dX9_back_2 : decode cX9_back 2 = .ok (.iconst 4, 1) := by decide +kernel
theorem dX9_back_3 : decode cX9_back 3 = .ok (.invokestatic 79, 3) := by decide +kernel
theorem dX9_back_6 : decode cX9_back 6 = .ok (.ifCond .ne 5, 3) := by decide +kernel
theorem dX9_back_9 : decode cX9_back 9 = .ok (.iconst (-1), 1) := by decide +kernel
theorem dX9_back_10 : decode cX9_back 10 = .ok (.ireturn, 1) := by decide +kernel
theorem dX9_back_11 : decode cX9_back 11 = .ok (.aload_n 0, 1) := by decide +kernel
theorem dX9_back_12 : decode cX9_back 12 = .ok (.getfield 42, 3) := by decide +kernel
theorem dX9_back_15 : decode cX9_back 15 = .ok (.aload_n 0, 1) := by decide +kernel
theorem dX9_back_16 : decode cX9_back 16 = .ok (.getfield 12, 3) := by decide +kernel
theorem dX9_back_19 : decode cX9_back 19 = .ok (.getfield 67, 3) := by decide +kernel
theorem dX9_back_22 : decode cX9_back 22 = .ok (.getfield 70, 3) := by decide +kernel
theorem dX9_back_25 : decode cX9_back 25 = .ok (.aload_n 0, 1) := by decide +kernel
theorem dX9_back_26 : decode cX9_back 26 = .ok (.getfield 12, 3) := by decide +kernel
theorem dX9_back_29 : decode cX9_back 29 = .ok (.getfield 107, 3) := by decide +kernel
theorem dX9_back_32 : decode cX9_back 32 = .ok (.invokevirtual 158, 3) := by decide +kernel
theorem dX9_back_35 : decode cX9_back 35 = .ok (.bipush (-6), 2) := by decide +kernel
theorem dX9_back_37 : decode cX9_back 37 = .ok (.if_icmp .eq 6, 3) := by decide +kernel
theorem dX9_back_40 : decode cX9_back 40 = .ok (.bipush (-3), 2) := by decide +kernel
theorem dX9_back_42 : decode cX9_back 42 = .ok (.ireturn, 1) := by decide +kernel
theorem dX9_back_43 : decode cX9_back 43 = .ok (.aload_n 0, 1) := by decide +kernel
theorem dX9_back_44 : decode cX9_back 44 = .ok (.getfield 42, 3) := by decide +kernel
theorem dX9_back_47 : decode cX9_back 47 = .ok (.getfield 162, 3) := by decide +kernel
theorem dX9_back_50 : decode cX9_back 50 = .ok (.iload_n 1, 1) := by decide +kernel
theorem dX9_back_51 : decode cX9_back 51 = .ok (.iaload, 1) := by decide +kernel
theorem dX9_back_52 : decode cX9_back 52 = .ok (.ireturn, 1) := by decide +kernel
set_option maxRecDepth 20000 in
theorem ggX9_nearest_X6_has : GoodIn wsX9_nearest wsX6_has := goodIn_r _ [12, 13, 14, 62, 63, 64] (by decide +kernel) (by decide +kernel)
set_option maxRecDepth 20000 in
theorem gX9_nearest_X6_has : GoodIn wsX9_nearest (wsV RX9 97 RX6 yX6_has wsX6_has) := goodIn_app (goodIn_of _ (by decide +kernel)) ggX9_nearest_X6_has
set_option maxRecDepth 20000 in
theorem ggX9_nearest_X9_between : GoodIn wsX9_nearest wsX9_between := goodIn_r _ [18] (by decide +kernel) (by decide +kernel)
set_option maxRecDepth 20000 in
theorem gX9_nearest_X9_between : GoodIn wsX9_nearest (va_wsS RX9 79 yX9_between wsX9_between) := goodIn_app (goodIn_of _ (by decide +kernel)) ggX9_nearest_X9_between
set_option maxRecDepth 20000 in
theorem ggX9_nearest_X3_seek : GoodIn wsX9_nearest wsX3_seek := goodIn_r _ [23, 24, 25, 26, 27, 28, 29, 30, 22, 31, 32, 33, 34, 35, 36, 37, 38, 39, 40, 41, 42, 43, 44, 45, 46, 17, 47, 65, 66, 67, 68, 69, 70, 71, 72] (by decide +kernel) (by decide +kernel)
set_option maxRecDepth 20000 in
theorem gX9_nearest_X3_seek : GoodIn wsX9_nearest (wsV RX9 163 RX3 yX3_seek wsX3_seek) := goodIn_app (goodIn_of _ (by decide +kernel)) ggX9_nearest_X3_seek
theorem dX9_nearest_0 : decode cX9_nearest 0 = .ok (.aload_n 0, 1) := by decide +kernel
theorem dX9_nearest_1 : decode cX9_nearest 1 = .ok (.getfield 12, 3) := by decide +kernel
theorem dX9_nearest_4 : decode cX9_nearest 4 = .ok (.getfield 67, 3) := by decide +kernel
theorem dX9_nearest_7 : decode cX9_nearest 7 = .ok (.iload_n 1, 1) := by decide +kernel
theorem dX9_nearest_8 : decode cX9_nearest 8 = .ok (.invokevirtual 97, 3) := by decide +kernel
theorem dX9_nearest_11 : decode cX9_nearest 11 = .ok (.ifCond .eq 12, 3) := by decide +kernel
theorem dX9_nearest_14 : decode cX9_nearest 14 = .ok (.iload_n 2, 1) := by decide +kernel
theorem dX9_nearest_15 : decode cX9_nearest 15 = .ok (.iconst 0, 1) := by decide +kernel
theorem dX9_nearest_16 : decode cX9_nearest 16 = .ok (.iconst 3, 1) := by decide +kernel
theorem dX9_nearest_17 : decode cX9_nearest 17 = .ok (.invokestatic 79, 3) := by decide +kernel
theorem dX9_nearest_20 : decode cX9_nearest 20 = .ok (.ifCond .ne 5, 3) := by decide +kernel
theorem dX9_nearest_23 : decode cX9_nearest 23 = .ok (.iconst (-1), 1) := by decide +kernel
theorem dX9_nearest_24 : decode cX9_nearest 24 = .ok (.ireturn, 1) := by decide +kernel
theorem dX9_nearest_25 : decode cX9_nearest 25 = .ok (.aload_n 0, 1) := by decide +kernel
theorem dX9_nearest_26 : decode cX9_nearest 26 = .ok (.getfield 49, 3) := by decide +kernel
theorem dX9_nearest_29 : decode cX9_nearest 29 = .ok (.aload_n 0, 1) := by decide +kernel
theorem dX9_nearest_30 : decode cX9_nearest 30 = .ok (.getfield 12, 3) := by decide +kernel
theorem dX9_nearest_33 : decode cX9_nearest 33 = .ok (.getfield 67, 3) := by decide +kernel
theorem dX9_nearest_36 : decode cX9_nearest 36 = .ok (.getfield 87, 3) := by decide +kernel
theorem dX9_nearest_39 : decode cX9_nearest 39 = .ok (.iload_n 1, 1) := by decide +kernel
theorem dX9_nearest_40 : decode cX9_nearest 40 = .ok (.aaload, 1) := by decide +kernel
theorem dX9_nearest_41 : decode cX9_nearest 41 = .ok (.aload_n 0, 1) := by decide +kernel
theorem dX9_nearest_42 : decode cX9_nearest 42 = .ok (.getfield 12, 3) := by decide +kernel
theorem dX9_nearest_45 : decode cX9_nearest 45 = .ok (.getfield 107, 3) := by decide +kernel
theorem dX9_nearest_48 : decode cX9_nearest 48 = .ok (.invokevirtual 163, 3) := by decide +kernel
theorem dX9_nearest_51 : decode cX9_nearest 51 = .ok (.iload_n 2, 1) := by decide +kernel
theorem dX9_nearest_52 : decode cX9_nearest 52 = .ok (.aload_n 0, 1) := by decide +kernel
theorem dX9_nearest_53 : decode cX9_nearest 53 = .ok (.getfield 49, 3) := by decide +kernel
theorem dX9_nearest_56 : decode cX9_nearest 56 = .ok (.getfield 167, 3) := by decide +kernel
theorem dX9_nearest_59 : decode cX9_nearest 59 = .ok (.arraylength, 1) := by decide +kernel
theorem dX9_nearest_60 : decode cX9_nearest 60 = .ok (.if_icmp .ge 15, 3) := by decide +kernel
theorem dX9_nearest_63 : decode cX9_nearest 63 = .ok (.aload_n 0, 1) := by decide +kernel
theorem dX9_nearest_64 : decode cX9_nearest 64 = .ok (.getfield 49, 3) := by decide +kernel
theorem dX9_nearest_67 : decode cX9_nearest 67 = .ok (.getfield 167, 3) := by decide +kernel
theorem dX9_nearest_70 : decode cX9_nearest 70 = .ok (.iload_n 2, 1) := by decide +kernel
theorem dX9_nearest_71 : decode cX9_nearest 71 = .ok (.iaload, 1) := by decide +kernel
theorem dX9_nearest_72 : decode cX9_nearest 72 = .ok (.goto 10, 3) := by decide +kernel
theorem dX9_nearest_75 : decode cX9_nearest 75 = .ok (.aload_n 0, 1) := by decide +kernel
theorem dX9_nearest_76 : decode cX9_nearest 76 = .ok (.getfield 49, 3) := by decide +kernel
theorem dX9_nearest_79 : decode cX9_nearest 79 = .ok (.getfield 170, 3) := by decide +kernel
theorem dX9_nearest_82 : decode cX9_nearest 82 = .ok (.ireturn, 1) := by decide +kernel
set_option maxRecDepth 20000 in
theorem ggX9_exchange_X9_between : GoodIn wsX9_exchange wsX9_between := goodIn_r _ [9] (by decide +kernel) (by decide +kernel)
set_option maxRecDepth 20000 in
theorem gX9_exchange_X9_between : GoodIn wsX9_exchange (va_wsS RX9 79 yX9_between wsX9_between) := goodIn_app (goodIn_of _ (by decide +kernel)) ggX9_exchange_X9_between
set_option maxRecDepth 20000 in
theorem ggX9_exchange_X6_become : GoodIn wsX9_exchange wsX6_become := goodIn_r _ [14, 15, 16, 17, 18, 8, 19, 20, 21, 22, 23, 24, 25, 26, 27, 28, 91, 92, 93, 94, 95, 96, 97] (by decide +kernel) (by decide +kernel)
set_option maxRecDepth 20000 in
theorem gX9_exchange_X6_become : GoodIn wsX9_exchange (wsV RX9 173 RX6 yX6_become wsX6_become) := goodIn_app (goodIn_of _ (by decide +kernel)) ggX9_exchange_X6_become
set_option maxRecDepth 20000 in
theorem ggX9_exchange_X1_peakOf : GoodIn wsX9_exchange wsX1_peakOf := goodIn_r _ [33, 34, 35, 36, 37, 32, 38, 39, 40, 41, 42, 43, 44, 45, 46, 47, 48, 49, 50, 51, 52, 53, 54, 23, 55, 25, 56, 57, 58, 59, 60, 27, 28, 7, 8, 9, 61, 62, 63, 64, 65, 66, 67, 68, 69, 70, 71, 72, 73, 98, 99, 100, 91, 92, 93, 94, 95, 96, 97] (by decide +kernel) (by decide +kernel)
set_option maxRecDepth 20000 in
theorem gX9_exchange_X1_peakOf : GoodIn wsX9_exchange (wsV RX9 177 RX1 yX1_peakOf wsX1_peakOf) := goodIn_app (goodIn_of _ (by decide +kernel)) ggX9_exchange_X1_peakOf
set_option maxRecDepth 20000 in
theorem ggX9_exchange_X9_swap : GoodIn wsX9_exchange wsX9_swap := goodIn_r _ [76, 6, 7, 8, 9] (by decide +kernel) (by decide +kernel)
set_option maxRecDepth 20000 in
theorem gX9_exchange_X9_swap : GoodIn wsX9_exchange (va_wsS RX9 181 yX9_swap wsX9_swap) := goodIn_app (goodIn_of _ (by decide +kernel)) ggX9_exchange_X9_swap
theorem dX9_exchange_0 : decode cX9_exchange 0 = .ok (.iload_n 1, 1) := by decide +kernel
theorem dX9_exchange_1 : decode cX9_exchange 1 = .ok (.iconst 0, 1) := by decide +kernel
theorem dX9_exchange_2 : decode cX9_exchange 2 = .ok (.iconst 1, 1) := by decide +kernel
theorem dX9_exchange_3 : decode cX9_exchange 3 = .ok (.invokestatic 79, 3) := by decide +kernel
theorem dX9_exchange_6 : decode cX9_exchange 6 = .ok (.ifCond .ne 5, 3) := by decide +kernel
theorem dX9_exchange_9 : decode cX9_exchange 9 = .ok (.iconst (-1), 1) := by decide +kernel
theorem dX9_exchange_10 : decode cX9_exchange 10 = .ok (.ireturn, 1) := by decide +kernel
theorem dX9_exchange_11 : decode cX9_exchange 11 = .ok (.aload_n 0, 1) := by decide +kernel
theorem dX9_exchange_12 : decode cX9_exchange 12 = .ok (.getfield 28, 3) := by decide +kernel
theorem dX9_exchange_15 : decode cX9_exchange 15 = .ok (.aload_n 0, 1) := by decide +kernel
theorem dX9_exchange_16 : decode cX9_exchange 16 = .ok (.getfield 12, 3) := by decide +kernel
theorem dX9_exchange_19 : decode cX9_exchange 19 = .ok (.getfield 67, 3) := by decide +kernel
theorem dX9_exchange_22 : decode cX9_exchange 22 = .ok (.invokevirtual 173, 3) := by decide +kernel
theorem dX9_exchange_25 : decode cX9_exchange 25 = .ok (.aload_n 0, 1) := by decide +kernel
theorem dX9_exchange_26 : decode cX9_exchange 26 = .ok (.getfield 35, 3) := by decide +kernel
theorem dX9_exchange_29 : decode cX9_exchange 29 = .ok (.aload_n 0, 1) := by decide +kernel
theorem dX9_exchange_30 : decode cX9_exchange 30 = .ok (.getfield 28, 3) := by decide +kernel
theorem dX9_exchange_33 : decode cX9_exchange 33 = .ok (.invokevirtual 177, 3) := by decide +kernel
theorem dX9_exchange_36 : decode cX9_exchange 36 = .ok (.istore_n 2, 1) := by decide +kernel
theorem dX9_exchange_37 : decode cX9_exchange 37 = .ok (.bipush (-5), 2) := by decide +kernel
theorem dX9_exchange_39 : decode cX9_exchange 39 = .ok (.istore_n 3, 1) := by decide +kernel
theorem dX9_exchange_40 : decode cX9_exchange 40 = .ok (.iconst 0, 1) := by decide +kernel
theorem dX9_exchange_41 : decode cX9_exchange 41 = .ok (.istore 4, 2) := by decide +kernel
theorem dX9_exchange_43 : decode cX9_exchange 43 = .ok (.iload 4, 2) := by decide +kernel
theorem dX9_exchange_45 : decode cX9_exchange 45 = .ok (.bipush 8, 2) := by decide +kernel
theorem dX9_exchange_47 : decode cX9_exchange 47 = .ok (.if_icmp .ge 87, 3) := by decide +kernel
theorem dX9_exchange_50 : decode cX9_exchange 50 = .ok (.iload 4, 2) := by decide +kernel
theorem dX9_exchange_52 : decode cX9_exchange 52 = .ok (.iconst 1, 1) := by decide +kernel
theorem dX9_exchange_53 : decode cX9_exchange 53 = .ok (.iadd, 1) := by decide +kernel
theorem dX9_exchange_54 : decode cX9_exchange 54 = .ok (.istore 5, 2) := by decide +kernel
theorem dX9_exchange_56 : decode cX9_exchange 56 = .ok (.iload 5, 2) := by decide +kernel
theorem dX9_exchange_58 : decode cX9_exchange 58 = .ok (.bipush 8, 2) := by decide +kernel
theorem dX9_exchange_60 : decode cX9_exchange 60 = .ok (.if_icmp .ge 68, 3) := by decide +kernel
theorem dX9_exchange_63 : decode cX9_exchange 63 = .ok (.aload_n 0, 1) := by decide +kernel
theorem dX9_exchange_64 : decode cX9_exchange 64 = .ok (.getfield 28, 3) := by decide +kernel
theorem dX9_exchange_67 : decode cX9_exchange 67 = .ok (.getfield 70, 3) := by decide +kernel
theorem dX9_exchange_70 : decode cX9_exchange 70 = .ok (.iload 4, 2) := by decide +kernel
theorem dX9_exchange_72 : decode cX9_exchange 72 = .ok (.iload 5, 2) := by decide +kernel
theorem dX9_exchange_74 : decode cX9_exchange 74 = .ok (.invokestatic 181, 3) := by decide +kernel
theorem dX9_exchange_77 : decode cX9_exchange 77 = .ok (.aload_n 0, 1) := by decide +kernel
theorem dX9_exchange_78 : decode cX9_exchange 78 = .ok (.getfield 35, 3) := by decide +kernel
theorem dX9_exchange_81 : decode cX9_exchange 81 = .ok (.aload_n 0, 1) := by decide +kernel
theorem dX9_exchange_82 : decode cX9_exchange 82 = .ok (.getfield 28, 3) := by decide +kernel
theorem dX9_exchange_85 : decode cX9_exchange 85 = .ok (.invokevirtual 177, 3) := by decide +kernel
theorem dX9_exchange_88 : decode cX9_exchange 88 = .ok (.istore 6, 2) := by decide +kernel
theorem dX9_exchange_90 : decode cX9_exchange 90 = .ok (.aload_n 0, 1) := by decide +kernel
theorem dX9_exchange_91 : decode cX9_exchange 91 = .ok (.getfield 28, 3) := by decide +kernel
theorem dX9_exchange_94 : decode cX9_exchange 94 = .ok (.getfield 70, 3) := by decide +kernel
theorem dX9_exchange_97 : decode cX9_exchange 97 = .ok (.iload 4, 2) := by decide +kernel
theorem dX9_exchange_99 : decode cX9_exchange 99 = .ok (.iload 5, 2) := by decide +kernel
theorem dX9_exchange_101 : decode cX9_exchange 101 = .ok (.invokestatic 181, 3) := by decide +kernel
theorem dX9_exchange_104 : decode cX9_exchange 104 = .ok (.iload 6, 2) := by decide +kernel
theorem dX9_exchange_106 : decode cX9_exchange 106 = .ok (.iload_n 2, 1) := by decide +kernel
theorem dX9_exchange_107 : decode cX9_exchange 107 = .ok (.if_icmp .ge 15, 3) := by decide +kernel
theorem dX9_exchange_110 : decode cX9_exchange 110 = .ok (.iload 6, 2) := by decide +kernel
theorem dX9_exchange_112 : decode cX9_exchange 112 = .ok (.istore_n 2, 1) := by decide +kernel
theorem dX9_exchange_113 : decode cX9_exchange 113 = .ok (.bipush 10, 2) := by decide +kernel
theorem dX9_exchange_115 : decode cX9_exchange 115 = .ok (.iload 4, 2) := by decide +kernel
theorem dX9_exchange_117 : decode cX9_exchange 117 = .ok (.imul, 1) := by decide +kernel
theorem dX9_exchange_118 : decode cX9_exchange 118 = .ok (.iload 5, 2) := by decide +kernel
theorem dX9_exchange_120 : decode cX9_exchange 120 = .ok (.iadd, 1) := by decide +kernel
theorem dX9_exchange_121 : decode cX9_exchange 121 = .ok (.istore_n 3, 1) := by decide +kernel
theorem dX9_exchange_122 : decode cX9_exchange 122 = .ok (.iinc 5 1, 3) := by decide +kernel
theorem dX9_exchange_125 : decode cX9_exchange 125 = .ok (.goto (-69), 3) := by decide +kernel
theorem dX9_exchange_128 : decode cX9_exchange 128 = .ok (.iinc 4 1, 3) := by decide +kernel
theorem dX9_exchange_131 : decode cX9_exchange 131 = .ok (.goto (-88), 3) := by decide +kernel
theorem dX9_exchange_134 : decode cX9_exchange 134 = .ok (.iload_n 1, 1) := by decide +kernel
theorem dX9_exchange_135 : decode cX9_exchange 135 = .ok (.ifCond .ne 7, 3) := by decide +kernel
theorem dX9_exchange_138 : decode cX9_exchange 138 = .ok (.iload_n 3, 1) := by decide +kernel
theorem dX9_exchange_139 : decode cX9_exchange 139 = .ok (.goto 4, 3) := by decide +kernel
theorem dX9_exchange_142 : decode cX9_exchange 142 = .ok (.iload_n 2, 1) := by decide +kernel
theorem dX9_exchange_143 : decode cX9_exchange 143 = .ok (.ireturn, 1) := by decide +kernel
set_option maxRecDepth 20000 in
theorem ggX9_see_X9_tellByHand : GoodIn wsX9_see wsX9_tellByHand := goodIn_r _ [6, 7, 8, 9, 5, 10, 11, 12, 13, 14, 15, 16, 17, 18, 19, 34, 35, 36, 37] (by decide +kernel) (by decide +kernel)
set_option maxRecDepth 20000 in
theorem gX9_see_X9_tellByHand : GoodIn wsX9_see (va_wsS RX9 189 yX9_tellByHand wsX9_tellByHand) := goodIn_app (goodIn_of _ (by decide +kernel)) ggX9_see_X9_tellByHand
theorem dX9_see_0 : decode cX9_see 0 = .ok (.aload_n 0, 1) := by decide +kernel
theorem dX9_see_1 : decode cX9_see 1 = .ok (.getfield 12, 3) := by decide +kernel
theorem dX9_see_4 : decode cX9_see 4 = .ok (.getfield 185, 3) := by decide +kernel
theorem dX9_see_7 : decode cX9_see 7 = .ok (.iload_n 1, 1) := by decide +kernel
theorem dX9_see_8 : decode cX9_see 8 = .ok (.iload_n 2, 1) := by decide +kernel
theorem dX9_see_9 : decode cX9_see 9 = .ok (.invokestatic 189, 3) := by decide +kernel
theorem dX9_see_12 : decode cX9_see 12 = .ok (.ireturn, 1) := by decide +kernel
set_option maxRecDepth 20000 in
theorem ggX9_fits_X9_between : GoodIn wsX9_fits wsX9_between := goodIn_r _ [11] (by decide +kernel) (by decide +kernel)
set_option maxRecDepth 20000 in
theorem gX9_fits_X9_between : GoodIn wsX9_fits (va_wsS RX9 79 yX9_between wsX9_between) := goodIn_app (goodIn_of _ (by decide +kernel)) ggX9_fits_X9_between
set_option maxRecDepth 20000 in
theorem ggX9_fits_X6_become : GoodIn wsX9_fits wsX6_become := goodIn_r _ [16, 17, 18, 19, 20, 10, 21, 22, 23, 24, 25, 26, 27, 28, 29, 30, 92, 93, 94, 98, 99, 100, 101] (by decide +kernel) (by decide +kernel)
set_option maxRecDepth 20000 in
theorem gX9_fits_X6_become : GoodIn wsX9_fits (wsV RX9 173 RX6 yX6_become wsX6_become) := goodIn_app (goodIn_of _ (by decide +kernel)) ggX9_fits_X6_become
set_option maxRecDepth 20000 in
theorem ggX9_fits_X1_join : GoodIn wsX9_fits wsX1_join := goodIn_r _ [35, 36, 37, 38, 39, 40, 41, 42, 43, 44, 45, 46, 47, 34, 48, 49, 50, 51, 52, 25, 53, 27, 54, 55, 56, 57, 58, 29, 30, 9, 10, 11, 59, 60, 61, 62, 63, 64, 65, 66, 67, 68, 69, 95, 96, 97, 92, 93, 94, 98, 99, 100, 101] (by decide +kernel) (by decide +kernel)
set_option maxRecDepth 20000 in
theorem gX9_fits_X1_join : GoodIn wsX9_fits (wsV RX9 193 RX1 yX1_join wsX1_join) := goodIn_app (goodIn_of _ (by decide +kernel)) ggX9_fits_X1_join
set_option maxRecDepth 20000 in
theorem ggX9_fits_X4_firstOtherwise : GoodIn wsX9_fits wsX4_firstOtherwise := goodIn_r _ [74, 75, 76, 77, 9, 10, 11, 102, 103, 104, 105] (by decide +kernel) (by decide +kernel)
set_option maxRecDepth 20000 in
theorem gX9_fits_X4_firstOtherwise : GoodIn wsX9_fits (wsV RX9 199 RX4 yX4_firstOtherwise wsX4_firstOtherwise) := goodIn_app (goodIn_of _ (by decide +kernel)) ggX9_fits_X4_firstOtherwise
theorem dX9_fits_0 : decode cX9_fits 0 = .ok (.iload_n 1, 1) := by decide +kernel
theorem dX9_fits_1 : decode cX9_fits 1 = .ok (.iconst 0, 1) := by decide +kernel
theorem dX9_fits_2 : decode cX9_fits 2 = .ok (.bipush 7, 2) := by decide +kernel
theorem dX9_fits_4 : decode cX9_fits 4 = .ok (.invokestatic 79, 3) := by decide +kernel
theorem dX9_fits_7 : decode cX9_fits 7 = .ok (.ifCond .eq 12, 3) := by decide +kernel
theorem dX9_fits_10 : decode cX9_fits 10 = .ok (.iload_n 2, 1) := by decide +kernel
theorem dX9_fits_11 : decode cX9_fits 11 = .ok (.iconst 0, 1) := by decide +kernel
theorem dX9_fits_12 : decode cX9_fits 12 = .ok (.iconst 1, 1) := by decide +kernel
theorem dX9_fits_13 : decode cX9_fits 13 = .ok (.invokestatic 79, 3) := by decide +kernel
theorem dX9_fits_16 : decode cX9_fits 16 = .ok (.ifCond .ne 5, 3) := by decide +kernel
theorem dX9_fits_19 : decode cX9_fits 19 = .ok (.iconst (-1), 1) := by decide +kernel
theorem dX9_fits_20 : decode cX9_fits 20 = .ok (.ireturn, 1) := by decide +kernel
theorem dX9_fits_21 : decode cX9_fits 21 = .ok (.iconst 0, 1) := by decide +kernel
theorem dX9_fits_22 : decode cX9_fits 22 = .ok (.istore_n 3, 1) := by decide +kernel
theorem dX9_fits_23 : decode cX9_fits 23 = .ok (.bipush (-5), 2) := by decide +kernel
theorem dX9_fits_25 : decode cX9_fits 25 = .ok (.istore 4, 2) := by decide +kernel
theorem dX9_fits_27 : decode cX9_fits 27 = .ok (.aload_n 0, 1) := by decide +kernel
theorem dX9_fits_28 : decode cX9_fits 28 = .ok (.getfield 28, 3) := by decide +kernel
theorem dX9_fits_31 : decode cX9_fits 31 = .ok (.aload_n 0, 1) := by decide +kernel
theorem dX9_fits_32 : decode cX9_fits 32 = .ok (.getfield 12, 3) := by decide +kernel
theorem dX9_fits_35 : decode cX9_fits 35 = .ok (.getfield 67, 3) := by decide +kernel
theorem dX9_fits_38 : decode cX9_fits 38 = .ok (.invokevirtual 173, 3) := by decide +kernel
theorem dX9_fits_41 : decode cX9_fits 41 = .ok (.bipush 20, 2) := by decide +kernel
theorem dX9_fits_43 : decode cX9_fits 43 = .ok (.istore 5, 2) := by decide +kernel
theorem dX9_fits_45 : decode cX9_fits 45 = .ok (.iload 5, 2) := by decide +kernel
theorem dX9_fits_47 : decode cX9_fits 47 = .ok (.ifCond .lt 60, 3) := by decide +kernel
theorem dX9_fits_50 : decode cX9_fits 50 = .ok (.aload_n 0, 1) := by decide +kernel
theorem dX9_fits_51 : decode cX9_fits 51 = .ok (.getfield 28, 3) := by decide +kernel
theorem dX9_fits_54 : decode cX9_fits 54 = .ok (.getfield 70, 3) := by decide +kernel
theorem dX9_fits_57 : decode cX9_fits 57 = .ok (.iload_n 1, 1) := by decide +kernel
theorem dX9_fits_58 : decode cX9_fits 58 = .ok (.iload 5, 2) := by decide +kernel
theorem dX9_fits_60 : decode cX9_fits 60 = .ok (.iastore, 1) := by decide +kernel
theorem dX9_fits_61 : decode cX9_fits 61 = .ok (.aload_n 0, 1) := by decide +kernel
theorem dX9_fits_62 : decode cX9_fits 62 = .ok (.getfield 35, 3) := by decide +kernel
theorem dX9_fits_65 : decode cX9_fits 65 = .ok (.aload_n 0, 1) := by decide +kernel
theorem dX9_fits_66 : decode cX9_fits 66 = .ok (.getfield 28, 3) := by decide +kernel
theorem dX9_fits_69 : decode cX9_fits 69 = .ok (.invokevirtual 193, 3) := by decide +kernel
theorem dX9_fits_72 : decode cX9_fits 72 = .ok (.aload_n 0, 1) := by decide +kernel
theorem dX9_fits_73 : decode cX9_fits 73 = .ok (.getfield 12, 3) := by decide +kernel
theorem dX9_fits_76 : decode cX9_fits 76 = .ok (.getfield 185, 3) := by decide +kernel
theorem dX9_fits_79 : decode cX9_fits 79 = .ok (.aload_n 0, 1) := by decide +kernel
theorem dX9_fits_80 : decode cX9_fits 80 = .ok (.getfield 35, 3) := by decide +kernel
theorem dX9_fits_83 : decode cX9_fits 83 = .ok (.getfield 196, 3) := by decide +kernel
theorem dX9_fits_86 : decode cX9_fits 86 = .ok (.invokevirtual 199, 3) := by decide +kernel
theorem dX9_fits_89 : decode cX9_fits 89 = .ok (.bipush (-5), 2) := by decide +kernel
theorem dX9_fits_91 : decode cX9_fits 91 = .ok (.if_icmp .ne 10, 3) := by decide +kernel
theorem dX9_fits_94 : decode cX9_fits 94 = .ok (.iinc 3 1, 3) := by decide +kernel
theorem dX9_fits_97 : decode cX9_fits 97 = .ok (.iload 5, 2) := by decide +kernel
theorem dX9_fits_99 : decode cX9_fits 99 = .ok (.istore 4, 2) := by decide +kernel
theorem dX9_fits_101 : decode cX9_fits 101 = .ok (.iinc 5 (-1), 3) := by decide +kernel
theorem dX9_fits_104 : decode cX9_fits 104 = .ok (.goto (-59), 3) := by decide +kernel
theorem dX9_fits_107 : decode cX9_fits 107 = .ok (.iload_n 2, 1) := by decide +kernel
theorem dX9_fits_108 : decode cX9_fits 108 = .ok (.ifCond .ne 7, 3) := by decide +kernel
theorem dX9_fits_111 : decode cX9_fits 111 = .ok (.iload_n 3, 1) := by decide +kernel
theorem dX9_fits_112 : decode cX9_fits 112 = .ok (.goto 5, 3) := by decide +kernel
theorem dX9_fits_115 : decode cX9_fits 115 = .ok (.iload 4, 2) := by decide +kernel
theorem dX9_fits_117 : decode cX9_fits 117 = .ok (.ireturn, 1) := by decide +kernel
set_option maxRecDepth 20000 in
theorem ggX9_odds_X9_between : GoodIn wsX9_odds wsX9_between := goodIn_r _ [10] (by decide +kernel) (by decide +kernel)
set_option maxRecDepth 20000 in
theorem gX9_odds_X9_between : GoodIn wsX9_odds (va_wsS RX9 79 yX9_between wsX9_between) := goodIn_app (goodIn_of _ (by decide +kernel)) ggX9_odds_X9_between
set_option maxRecDepth 20000 in
theorem ggX9_odds_X6_become : GoodIn wsX9_odds wsX6_become := goodIn_r _ [15, 16, 17, 18, 19, 9, 20, 21, 22, 23, 24, 25, 26, 27, 28, 29, 96, 97, 98, 99, 100, 101, 102] (by decide +kernel) (by decide +kernel)
set_option maxRecDepth 20000 in
theorem gX9_odds_X6_become : GoodIn wsX9_odds (wsV RX9 173 RX6 yX6_become wsX6_become) := goodIn_app (goodIn_of _ (by decide +kernel)) ggX9_odds_X6_become
set_option maxRecDepth 20000 in
theorem ggX9_odds_X1_peakOf : GoodIn wsX9_odds wsX1_peakOf := goodIn_r _ [34, 35, 36, 37, 38, 33, 39, 40, 41, 42, 43, 44, 45, 46, 47, 48, 49, 50, 51, 52, 53, 54, 55, 24, 56, 26, 57, 58, 59, 60, 61, 28, 29, 8, 9, 10, 62, 63, 64, 65, 66, 67, 68, 69, 70, 71, 72, 73, 74, 103, 104, 105, 96, 97, 98, 99, 100, 101, 102] (by decide +kernel) (by decide +kernel)
set_option maxRecDepth 20000 in
theorem gX9_odds_X1_peakOf : GoodIn wsX9_odds (wsV RX9 177 RX1 yX1_peakOf wsX1_peakOf) := goodIn_app (goodIn_of _ (by decide +kernel)) ggX9_odds_X1_peakOf
set_option maxRecDepth 20000 in
theorem ggX9_odds_X9_inLowestTerms : GoodIn wsX9_odds wsX9_inLowestTerms := goodIn_r _ [77, 1, 7, 8, 9, 10, 78, 79, 80, 81, 71, 68, 72] (by decide +kernel) (by decide +kernel)
set_option maxRecDepth 20000 in
theorem gX9_odds_X9_inLowestTerms : GoodIn wsX9_odds (va_wsS RX9 207 yX9_inLowestTerms wsX9_inLowestTerms) := goodIn_app (goodIn_of _ (by decide +kernel)) ggX9_odds_X9_inLowestTerms
theorem dX9_odds_0 : decode cX9_odds 0 = .ok (.iload_n 1, 1) := by decide +kernel
theorem dX9_odds_1 : decode cX9_odds 1 = .ok (.iconst 0, 1) := by decide +kernel
theorem dX9_odds_2 : decode cX9_odds 2 = .ok (.bipush 7, 2) := by decide +kernel
theorem dX9_odds_4 : decode cX9_odds 4 = .ok (.invokestatic 79, 3) := by decide +kernel
theorem dX9_odds_7 : decode cX9_odds 7 = .ok (.ifCond .eq 14, 3) := by decide +kernel
theorem dX9_odds_10 : decode cX9_odds 10 = .ok (.iload_n 2, 1) := by decide +kernel
theorem dX9_odds_11 : decode cX9_odds 11 = .ok (.iconst 0, 1) := by decide +kernel
theorem dX9_odds_12 : decode cX9_odds 12 = .ok (.sipush 9999, 3) := by decide +kernel
theorem dX9_odds_15 : decode cX9_odds 15 = .ok (.invokestatic 79, 3) := by decide +kernel
theorem dX9_odds_18 : decode cX9_odds 18 = .ok (.ifCond .ne 7, 3) := by decide +kernel
theorem dX9_odds_21 : decode cX9_odds 21 = .ok (.ldc2_w 205, 3) := by decide +kernel
theorem dX9_odds_24 : decode cX9_odds 24 = .ok (.lreturn, 1) := by decide +kernel
theorem dX9_odds_25 : decode cX9_odds 25 = .ok (.iconst 0, 1) := by decide +kernel
theorem dX9_odds_26 : decode cX9_odds 26 = .ok (.istore 4, 2) := by decide +kernel
theorem dX9_odds_28 : decode cX9_odds 28 = .ok (.aload_n 0, 1) := by decide +kernel
theorem dX9_odds_29 : decode cX9_odds 29 = .ok (.getfield 28, 3) := by decide +kernel
theorem dX9_odds_32 : decode cX9_odds 32 = .ok (.aload_n 0, 1) := by decide +kernel
theorem dX9_odds_33 : decode cX9_odds 33 = .ok (.getfield 12, 3) := by decide +kernel
theorem dX9_odds_36 : decode cX9_odds 36 = .ok (.getfield 67, 3) := by decide +kernel
theorem dX9_odds_39 : decode cX9_odds 39 = .ok (.invokevirtual 173, 3) := by decide +kernel
theorem dX9_odds_42 : decode cX9_odds 42 = .ok (.iconst 0, 1) := by decide +kernel
theorem dX9_odds_43 : decode cX9_odds 43 = .ok (.istore 5, 2) := by decide +kernel
theorem dX9_odds_45 : decode cX9_odds 45 = .ok (.iload 5, 2) := by decide +kernel
theorem dX9_odds_47 : decode cX9_odds 47 = .ok (.bipush 20, 2) := by decide +kernel
theorem dX9_odds_49 : decode cX9_odds 49 = .ok (.if_icmp .gt 38, 3) := by decide +kernel
theorem dX9_odds_52 : decode cX9_odds 52 = .ok (.aload_n 0, 1) := by decide +kernel
theorem dX9_odds_53 : decode cX9_odds 53 = .ok (.getfield 28, 3) := by decide +kernel
theorem dX9_odds_56 : decode cX9_odds 56 = .ok (.getfield 70, 3) := by decide +kernel
theorem dX9_odds_59 : decode cX9_odds 59 = .ok (.iload_n 1, 1) := by decide +kernel
theorem dX9_odds_60 : decode cX9_odds 60 = .ok (.iload 5, 2) := by decide +kernel
theorem dX9_odds_62 : decode cX9_odds 62 = .ok (.iastore, 1) := by decide +kernel
theorem dX9_odds_63 : decode cX9_odds 63 = .ok (.aload_n 0, 1) := by decide +kernel
theorem dX9_odds_64 : decode cX9_odds 64 = .ok (.getfield 35, 3) := by decide +kernel
theorem dX9_odds_67 : decode cX9_odds 67 = .ok (.aload_n 0, 1) := by decide +kernel
theorem dX9_odds_68 : decode cX9_odds 68 = .ok (.getfield 28, 3) := by decide +kernel
theorem dX9_odds_71 : decode cX9_odds 71 = .ok (.invokevirtual 177, 3) := by decide +kernel
theorem dX9_odds_74 : decode cX9_odds 74 = .ok (.iload_n 2, 1) := by decide +kernel
theorem dX9_odds_75 : decode cX9_odds 75 = .ok (.if_icmp .le 6, 3) := by decide +kernel
theorem dX9_odds_78 : decode cX9_odds 78 = .ok (.iinc 4 1, 3) := by decide +kernel
theorem dX9_odds_81 : decode cX9_odds 81 = .ok (.iinc 5 1, 3) := by decide +kernel
theorem dX9_odds_84 : decode cX9_odds 84 = .ok (.goto (-39), 3) := by decide +kernel
theorem dX9_odds_87 : decode cX9_odds 87 = .ok (.iload 4, 2) := by decide +kernel
theorem dX9_odds_89 : decode cX9_odds 89 = .ok (.bipush 21, 2) := by decide +kernel
theorem dX9_odds_91 : decode cX9_odds 91 = .ok (.iload_n 3, 1) := by decide +kernel
theorem dX9_odds_92 : decode cX9_odds 92 = .ok (.invokestatic 207, 3) := by decide +kernel
theorem dX9_odds_95 : decode cX9_odds 95 = .ok (.lreturn, 1) := by decide +kernel
set_option maxRecDepth 20000 in
theorem ggX9_mean_X1_join : GoodIn wsX9_mean wsX1_join := goodIn_r _ [9, 10, 11, 12, 13, 14, 15, 16, 17, 18, 19, 20, 21, 8, 22, 23, 24, 25, 26, 27, 28, 29, 30, 31, 32, 33, 34, 35, 36, 37, 38, 39, 40, 41, 42, 43, 44, 45, 46, 47, 48, 49, 50, 77, 78, 79, 80, 81, 82, 83, 84, 85, 86] (by decide +kernel) (by decide +kernel)
set_option maxRecDepth 20000 in
theorem gX9_mean_X1_join : GoodIn wsX9_mean (wsV RX9 193 RX1 yX1_join wsX1_join) := goodIn_app (goodIn_of _ (by decide +kernel)) ggX9_mean_X1_join
set_option maxRecDepth 20000 in
theorem ggX9_mean_X9_measure : GoodIn wsX9_mean wsX9_measure := goodIn_r _ [53] (by decide +kernel) (by decide +kernel)
set_option maxRecDepth 20000 in
theorem gX9_mean_X9_measure : GoodIn wsX9_mean (va_wsS RX9 119 yX9_measure wsX9_measure) := goodIn_app (goodIn_of _ (by decide +kernel)) ggX9_mean_X9_measure
set_option maxRecDepth 20000 in
theorem ggX9_mean_X9_inLowestTerms : GoodIn wsX9_mean wsX9_inLowestTerms := goodIn_r _ [56, 57, 58, 37, 38, 39, 59, 60, 61, 62, 49, 46, 50] (by decide +kernel) (by decide +kernel)
set_option maxRecDepth 20000 in
theorem gX9_mean_X9_inLowestTerms : GoodIn wsX9_mean (va_wsS RX9 207 yX9_inLowestTerms wsX9_inLowestTerms) := goodIn_app (goodIn_of _ (by decide +kernel)) ggX9_mean_X9_inLowestTerms
theorem dX9_mean_0 : decode cX9_mean 0 = .ok (.aload_n 0, 1) := by decide +kernel
theorem dX9_mean_1 : decode cX9_mean 1 = .ok (.getfield 35, 3) := by decide +kernel
theorem dX9_mean_4 : decode cX9_mean 4 = .ok (.aload_n 0, 1) := by decide +kernel
theorem dX9_mean_5 : decode cX9_mean 5 = .ok (.getfield 12, 3) := by decide +kernel
theorem dX9_mean_8 : decode cX9_mean 8 = .ok (.getfield 67, 3) := by decide +kernel
theorem dX9_mean_11 : decode cX9_mean 11 = .ok (.invokevirtual 193, 3) := by decide +kernel
theorem dX9_mean_14 : decode cX9_mean 14 = .ok (.iconst 0, 1) := by decide +kernel
theorem dX9_mean_15 : decode cX9_mean 15 = .ok (.istore_n 2, 1) := by decide +kernel
theorem dX9_mean_16 : decode cX9_mean 16 = .ok (.iconst 0, 1) := by decide +kernel
theorem dX9_mean_17 : decode cX9_mean 17 = .ok (.istore_n 3, 1) := by decide +kernel
theorem dX9_mean_18 : decode cX9_mean 18 = .ok (.iload_n 3, 1) := by decide +kernel
theorem dX9_mean_19 : decode cX9_mean 19 = .ok (.aload_n 0, 1) := by decide +kernel
theorem dX9_mean_20 : decode cX9_mean 20 = .ok (.getfield 35, 3) := by decide +kernel
theorem dX9_mean_23 : decode cX9_mean 23 = .ok (.getfield 196, 3) := by decide +kernel
theorem dX9_mean_26 : decode cX9_mean 26 = .ok (.arraylength, 1) := by decide +kernel
theorem dX9_mean_27 : decode cX9_mean 27 = .ok (.if_icmp .ge 24, 3) := by decide +kernel
theorem dX9_mean_30 : decode cX9_mean 30 = .ok (.aload_n 0, 1) := by decide +kernel
theorem dX9_mean_31 : decode cX9_mean 31 = .ok (.getfield 35, 3) := by decide +kernel
theorem dX9_mean_34 : decode cX9_mean 34 = .ok (.getfield 196, 3) := by decide +kernel
theorem dX9_mean_37 : decode cX9_mean 37 = .ok (.iload_n 3, 1) := by decide +kernel
theorem dX9_mean_38 : decode cX9_mean 38 = .ok (.iaload, 1) := by decide +kernel
theorem dX9_mean_39 : decode cX9_mean 39 = .ok (.ifCond .le 6, 3) := by decide +kernel
theorem dX9_mean_42 : decode cX9_mean 42 = .ok (.iinc 2 1, 3) := by decide +kernel
theorem dX9_mean_45 : decode cX9_mean 45 = .ok (.iinc 3 1, 3) := by decide +kernel
theorem dX9_mean_48 : decode cX9_mean 48 = .ok (.goto (-30), 3) := by decide +kernel
theorem dX9_mean_51 : decode cX9_mean 51 = .ok (.aload_n 0, 1) := by decide +kernel
theorem dX9_mean_52 : decode cX9_mean 52 = .ok (.getfield 35, 3) := by decide +kernel
theorem dX9_mean_55 : decode cX9_mean 55 = .ok (.getfield 196, 3) := by decide +kernel
theorem dX9_mean_58 : decode cX9_mean 58 = .ok (.iconst 0, 1) := by decide +kernel
theorem dX9_mean_59 : decode cX9_mean 59 = .ok (.invokestatic 119, 3) := by decide +kernel
theorem dX9_mean_62 : decode cX9_mean 62 = .ok (.iload_n 2, 1) := by decide +kernel
theorem dX9_mean_63 : decode cX9_mean 63 = .ok (.iload_n 1, 1) := by decide +kernel
theorem dX9_mean_64 : decode cX9_mean 64 = .ok (.invokestatic 207, 3) := by decide +kernel
theorem dX9_mean_67 : decode cX9_mean 67 = .ok (.lreturn, 1) := by decide +kernel
set_option maxRecDepth 20000 in
theorem ggX9_event_X9_between : GoodIn wsX9_event wsX9_between := goodIn_r _ [8] (by decide +kernel) (by decide +kernel)
set_option maxRecDepth 20000 in
theorem gX9_event_X9_between : GoodIn wsX9_event (va_wsS RX9 79 yX9_between wsX9_between) := goodIn_app (goodIn_of _ (by decide +kernel)) ggX9_event_X9_between
set_option maxRecDepth 20000 in
theorem ggX9_event_X4_addRow : GoodIn wsX9_event wsX4_addRow := goodIn_r _ [13, 14, 15, 16, 17, 39, 40, 41, 42] (by decide +kernel) (by decide +kernel)
set_option maxRecDepth 20000 in
theorem gX9_event_X4_addRow : GoodIn wsX9_event (wsV RX9 215 RX4 yX4_addRow wsX4_addRow) := goodIn_app (goodIn_of _ (by decide +kernel)) ggX9_event_X4_addRow
set_option maxRecDepth 20000 in
theorem ggX9_event_X6_has : GoodIn wsX9_event wsX6_has := goodIn_r _ [22, 23, 24, 43, 44, 45] (by decide +kernel) (by decide +kernel)
set_option maxRecDepth 20000 in
theorem gX9_event_X6_has : GoodIn wsX9_event (wsV RX9 97 RX6 yX6_has wsX6_has) := goodIn_app (goodIn_of _ (by decide +kernel)) ggX9_event_X6_has
theorem dX9_event_0 : decode cX9_event 0 = .ok (.iload_n 1, 1) := by decide +kernel
theorem dX9_event_1 : decode cX9_event 1 = .ok (.iconst (-1), 1) := by decide +kernel
theorem dX9_event_2 : decode cX9_event 2 = .ok (.if_icmp .ne 16, 3) := by decide +kernel
theorem dX9_event_5 : decode cX9_event 5 = .ok (.aload_n 0, 1) := by decide +kernel
theorem dX9_event_6 : decode cX9_event 6 = .ok (.getfield 12, 3) := by decide +kernel
theorem dX9_event_9 : decode cX9_event 9 = .ok (.getfield 211, 3) := by decide +kernel
theorem dX9_event_12 : decode cX9_event 12 = .ok (.iconst 0, 1) := by decide +kernel
theorem dX9_event_13 : decode cX9_event 13 = .ok (.putfield 214, 3) := by decide +kernel
theorem dX9_event_16 : decode cX9_event 16 = .ok (.iconst 0, 1) := by decide +kernel
theorem dX9_event_17 : decode cX9_event 17 = .ok (.ireturn, 1) := by decide +kernel
theorem dX9_event_18 : decode cX9_event 18 = .ok (.iload_n 1, 1) := by decide +kernel
theorem dX9_event_19 : decode cX9_event 19 = .ok (.iconst 0, 1) := by decide +kernel
theorem dX9_event_20 : decode cX9_event 20 = .ok (.iconst 3, 1) := by decide +kernel
theorem dX9_event_21 : decode cX9_event 21 = .ok (.invokestatic 79, 3) := by decide +kernel
theorem dX9_event_24 : decode cX9_event 24 = .ok (.ifCond .ne 5, 3) := by decide +kernel
theorem dX9_event_27 : decode cX9_event 27 = .ok (.iconst (-1), 1) := by decide +kernel
theorem dX9_event_28 : decode cX9_event 28 = .ok (.ireturn, 1) := by decide +kernel
theorem dX9_event_29 : decode cX9_event 29 = .ok (.iload_n 1, 1) := by decide +kernel
theorem dX9_event_30 : decode cX9_event 30 = .ok (.iconst 3, 1) := by decide +kernel
theorem dX9_event_31 : decode cX9_event 31 = .ok (.if_icmp .ne 31, 3) := by decide +kernel
theorem dX9_event_34 : decode cX9_event 34 = .ok (.iload_n 2, 1) := by decide +kernel
theorem dX9_event_35 : decode cX9_event 35 = .ok (.iconst 0, 1) := by decide +kernel
theorem dX9_event_36 : decode cX9_event 36 = .ok (.bipush 7, 2) := by decide +kernel
theorem dX9_event_38 : decode cX9_event 38 = .ok (.invokestatic 79, 3) := by decide +kernel
theorem dX9_event_41 : decode cX9_event 41 = .ok (.ifCond .eq 18, 3) := by decide +kernel
theorem dX9_event_44 : decode cX9_event 44 = .ok (.aload_n 0, 1) := by decide +kernel
theorem dX9_event_45 : decode cX9_event 45 = .ok (.getfield 12, 3) := by decide +kernel
theorem dX9_event_48 : decode cX9_event 48 = .ok (.getfield 211, 3) := by decide +kernel
theorem dX9_event_51 : decode cX9_event 51 = .ok (.iload_n 1, 1) := by decide +kernel
theorem dX9_event_52 : decode cX9_event 52 = .ok (.iload_n 2, 1) := by decide +kernel
theorem dX9_event_53 : decode cX9_event 53 = .ok (.invokevirtual 215, 3) := by decide +kernel
theorem dX9_event_56 : decode cX9_event 56 = .ok (.goto 5, 3) := by decide +kernel
theorem dX9_event_59 : decode cX9_event 59 = .ok (.bipush (-2), 2) := by decide +kernel
theorem dX9_event_61 : decode cX9_event 61 = .ok (.ireturn, 1) := by decide +kernel
theorem dX9_event_62 : decode cX9_event 62 = .ok (.iload_n 1, 1) := by decide +kernel
theorem dX9_event_63 : decode cX9_event 63 = .ok (.iconst 2, 1) := by decide +kernel
theorem dX9_event_64 : decode cX9_event 64 = .ok (.if_icmp .ne 17, 3) := by decide +kernel
theorem dX9_event_67 : decode cX9_event 67 = .ok (.aload_n 0, 1) := by decide +kernel
theorem dX9_event_68 : decode cX9_event 68 = .ok (.getfield 12, 3) := by decide +kernel
theorem dX9_event_71 : decode cX9_event 71 = .ok (.getfield 67, 3) := by decide +kernel
theorem dX9_event_74 : decode cX9_event 74 = .ok (.iload_n 2, 1) := by decide +kernel
theorem dX9_event_75 : decode cX9_event 75 = .ok (.invokevirtual 97, 3) := by decide +kernel
theorem dX9_event_78 : decode cX9_event 78 = .ok (.goto 10, 3) := by decide +kernel
theorem dX9_event_81 : decode cX9_event 81 = .ok (.iload_n 2, 1) := by decide +kernel
theorem dX9_event_82 : decode cX9_event 82 = .ok (.iconst 0, 1) := by decide +kernel
theorem dX9_event_83 : decode cX9_event 83 = .ok (.bipush 7, 2) := by decide +kernel
theorem dX9_event_85 : decode cX9_event 85 = .ok (.invokestatic 79, 3) := by decide +kernel
theorem dX9_event_88 : decode cX9_event 88 = .ok (.istore_n 3, 1) := by decide +kernel
theorem dX9_event_89 : decode cX9_event 89 = .ok (.iload_n 3, 1) := by decide +kernel
theorem dX9_event_90 : decode cX9_event 90 = .ok (.ifCond .eq 18, 3) := by decide +kernel
theorem dX9_event_93 : decode cX9_event 93 = .ok (.aload_n 0, 1) := by decide +kernel
theorem dX9_event_94 : decode cX9_event 94 = .ok (.getfield 12, 3) := by decide +kernel
theorem dX9_event_97 : decode cX9_event 97 = .ok (.getfield 211, 3) := by decide +kernel
theorem dX9_event_100 : decode cX9_event 100 = .ok (.iload_n 1, 1) := by decide +kernel
theorem dX9_event_101 : decode cX9_event 101 = .ok (.iload_n 2, 1) := by decide +kernel
theorem dX9_event_102 : decode cX9_event 102 = .ok (.invokevirtual 215, 3) := by decide +kernel
theorem dX9_event_105 : decode cX9_event 105 = .ok (.goto 4, 3) := by decide +kernel
theorem dX9_event_108 : decode cX9_event 108 = .ok (.iconst (-1), 1) := by decide +kernel
theorem dX9_event_109 : decode cX9_event 109 = .ok (.ireturn, 1) := by decide +kernel
set_option maxRecDepth 20000 in
theorem ggX9_after_X9_between : GoodIn wsX9_after wsX9_between := goodIn_r _ [13] (by decide +kernel) (by decide +kernel)
set_option maxRecDepth 20000 in
theorem gX9_after_X9_between : GoodIn wsX9_after (va_wsS RX9 79 yX9_between wsX9_between) := goodIn_app (goodIn_of _ (by decide +kernel)) ggX9_after_X9_between
set_option maxRecDepth 20000 in
theorem ggX9_after_X6_become : GoodIn wsX9_after wsX6_become := goodIn_r _ [18, 19, 20, 21, 22, 12, 23, 24, 25, 26, 27, 28, 29, 30, 31, 32, 110, 111, 112, 113, 114, 115, 116] (by decide +kernel) (by decide +kernel)
set_option maxRecDepth 20000 in
theorem gX9_after_X6_become : GoodIn wsX9_after (wsV RX9 173 RX6 yX6_become wsX6_become) := goodIn_app (goodIn_of _ (by decide +kernel)) ggX9_after_X6_become
set_option maxRecDepth 20000 in
theorem ggX9_after_X6_undergo : GoodIn wsX9_after wsX6_undergo := goodIn_r _ [36, 20, 37, 19, 38, 39, 40, 17, 41, 21, 11, 12, 13, 42, 43, 44, 45, 46, 47, 48, 49, 110, 111, 112, 113, 114, 115, 116] (by decide +kernel) (by decide +kernel)
set_option maxRecDepth 20000 in
theorem gX9_after_X6_undergo : GoodIn wsX9_after (wsV RX9 225 RX6 yX6_undergo wsX6_undergo) := goodIn_app (goodIn_of _ (by decide +kernel)) ggX9_after_X6_undergo
set_option maxRecDepth 20000 in
theorem ggX9_after_X1_join : GoodIn wsX9_after wsX1_join := goodIn_r _ [54, 55, 56, 57, 58, 59, 60, 61, 62, 63, 64, 65, 66, 53, 67, 68, 69, 70, 71, 27, 72, 29, 73, 74, 75, 76, 77, 31, 32, 11, 12, 13, 78, 79, 80, 81, 82, 47, 48, 49, 83, 84, 85, 107, 108, 109, 110, 111, 112, 113, 114, 115, 116] (by decide +kernel) (by decide +kernel)
set_option maxRecDepth 20000 in
theorem gX9_after_X1_join : GoodIn wsX9_after (wsV RX9 193 RX1 yX1_join wsX1_join) := goodIn_app (goodIn_of _ (by decide +kernel)) ggX9_after_X1_join
set_option maxRecDepth 20000 in
theorem ggX9_after_X9_measure : GoodIn wsX9_after wsX9_measure := goodIn_r _ [88] (by decide +kernel) (by decide +kernel)
set_option maxRecDepth 20000 in
theorem gX9_after_X9_measure : GoodIn wsX9_after (va_wsS RX9 119 yX9_measure wsX9_measure) := goodIn_app (goodIn_of _ (by decide +kernel)) ggX9_after_X9_measure
theorem dX9_after_0 : decode cX9_after 0 = .ok (.iload_n 1, 1) := by decide +kernel
theorem dX9_after_1 : decode cX9_after 1 = .ok (.iconst 0, 1) := by decide +kernel
theorem dX9_after_2 : decode cX9_after 2 = .ok (.iconst 2, 1) := by decide +kernel
theorem dX9_after_3 : decode cX9_after 3 = .ok (.invokestatic 79, 3) := by decide +kernel
theorem dX9_after_6 : decode cX9_after 6 = .ok (.ifCond .ne 5, 3) := by decide +kernel
theorem dX9_after_9 : decode cX9_after 9 = .ok (.iconst (-1), 1) := by decide +kernel
theorem dX9_after_10 : decode cX9_after 10 = .ok (.ireturn, 1) := by decide +kernel
theorem dX9_after_11 : decode cX9_after 11 = .ok (.aload_n 0, 1) := by decide +kernel
theorem dX9_after_12 : decode cX9_after 12 = .ok (.getfield 28, 3) := by decide +kernel
theorem dX9_after_15 : decode cX9_after 15 = .ok (.aload_n 0, 1) := by decide +kernel
theorem dX9_after_16 : decode cX9_after 16 = .ok (.getfield 12, 3) := by decide +kernel
theorem dX9_after_19 : decode cX9_after 19 = .ok (.getfield 67, 3) := by decide +kernel
theorem dX9_after_22 : decode cX9_after 22 = .ok (.invokevirtual 173, 3) := by decide +kernel
theorem dX9_after_25 : decode cX9_after 25 = .ok (.aload_n 0, 1) := by decide +kernel
theorem dX9_after_26 : decode cX9_after 26 = .ok (.getfield 12, 3) := by decide +kernel
theorem dX9_after_29 : decode cX9_after 29 = .ok (.getfield 211, 3) := by decide +kernel
theorem dX9_after_32 : decode cX9_after 32 = .ok (.astore_n 2, 1) := by decide +kernel
theorem dX9_after_33 : decode cX9_after 33 = .ok (.iconst 0, 1) := by decide +kernel
theorem dX9_after_34 : decode cX9_after 34 = .ok (.istore_n 3, 1) := by decide +kernel
theorem dX9_after_35 : decode cX9_after 35 = .ok (.iload_n 3, 1) := by decide +kernel
theorem dX9_after_36 : decode cX9_after 36 = .ok (.aload_n 2, 1) := by decide +kernel
theorem dX9_after_37 : decode cX9_after 37 = .ok (.getfield 214, 3) := by decide +kernel
theorem dX9_after_40 : decode cX9_after 40 = .ok (.if_icmp .ge 46, 3) := by decide +kernel
theorem dX9_after_43 : decode cX9_after 43 = .ok (.iload_n 3, 1) := by decide +kernel
theorem dX9_after_44 : decode cX9_after 44 = .ok (.aload_n 2, 1) := by decide +kernel
theorem dX9_after_45 : decode cX9_after 45 = .ok (.getfield 219, 3) := by decide +kernel
theorem dX9_after_48 : decode cX9_after 48 = .ok (.arraylength, 1) := by decide +kernel
theorem dX9_after_49 : decode cX9_after 49 = .ok (.if_icmp .ge 37, 3) := by decide +kernel
theorem dX9_after_52 : decode cX9_after 52 = .ok (.iload_n 3, 1) := by decide +kernel
theorem dX9_after_53 : decode cX9_after 53 = .ok (.aload_n 2, 1) := by decide +kernel
theorem dX9_after_54 : decode cX9_after 54 = .ok (.getfield 222, 3) := by decide +kernel
theorem dX9_after_57 : decode cX9_after 57 = .ok (.arraylength, 1) := by decide +kernel
theorem dX9_after_58 : decode cX9_after 58 = .ok (.if_icmp .ge 28, 3) := by decide +kernel
theorem dX9_after_61 : decode cX9_after 61 = .ok (.aload_n 0, 1) := by decide +kernel
theorem dX9_after_62 : decode cX9_after 62 = .ok (.getfield 28, 3) := by decide +kernel
theorem dX9_after_65 : decode cX9_after 65 = .ok (.aload_n 2, 1) := by decide +kernel
theorem dX9_after_66 : decode cX9_after 66 = .ok (.getfield 219, 3) := by decide +kernel
theorem dX9_after_69 : decode cX9_after 69 = .ok (.iload_n 3, 1) := by decide +kernel
theorem dX9_after_70 : decode cX9_after 70 = .ok (.iaload, 1) := by decide +kernel
theorem dX9_after_71 : decode cX9_after 71 = .ok (.aload_n 2, 1) := by decide +kernel
theorem dX9_after_72 : decode cX9_after 72 = .ok (.getfield 222, 3) := by decide +kernel
theorem dX9_after_75 : decode cX9_after 75 = .ok (.iload_n 3, 1) := by decide +kernel
theorem dX9_after_76 : decode cX9_after 76 = .ok (.iaload, 1) := by decide +kernel
theorem dX9_after_77 : decode cX9_after 77 = .ok (.invokevirtual 225, 3) := by decide +kernel
theorem dX9_after_80 : decode cX9_after 80 = .ok (.iinc 3 1, 3) := by decide +kernel
theorem dX9_after_83 : decode cX9_after 83 = .ok (.goto (-48), 3) := by decide +kernel
theorem dX9_after_86 : decode cX9_after 86 = .ok (.aload_n 0, 1) := by decide +kernel
theorem dX9_after_87 : decode cX9_after 87 = .ok (.getfield 35, 3) := by decide +kernel
theorem dX9_after_90 : decode cX9_after 90 = .ok (.aload_n 0, 1) := by decide +kernel
theorem dX9_after_91 : decode cX9_after 91 = .ok (.getfield 28, 3) := by decide +kernel
theorem dX9_after_94 : decode cX9_after 94 = .ok (.invokevirtual 193, 3) := by decide +kernel
theorem dX9_after_97 : decode cX9_after 97 = .ok (.iload_n 1, 1) := by decide +kernel
theorem dX9_after_98 : decode cX9_after 98 = .ok (.lookupswitch 50 #[(0, 26), (1, 38)], 26) := by decide +kernel
theorem dX9_after_124 : decode cX9_after 124 = .ok (.aload_n 0, 1) := by decide +kernel
theorem dX9_after_125 : decode cX9_after 125 = .ok (.getfield 35, 3) := by decide +kernel
theorem dX9_after_128 : decode cX9_after 128 = .ok (.getfield 196, 3) := by decide +kernel
theorem dX9_after_131 : decode cX9_after 131 = .ok (.iconst 1, 1) := by decide +kernel
theorem dX9_after_132 : decode cX9_after 132 = .ok (.invokestatic 119, 3) := by decide +kernel
theorem dX9_after_135 : decode cX9_after 135 = .ok (.ireturn, 1) := by decide +kernel
theorem dX9_after_136 : decode cX9_after 136 = .ok (.aload_n 0, 1) := by decide +kernel
theorem dX9_after_137 : decode cX9_after 137 = .ok (.getfield 35, 3) := by decide +kernel
theorem dX9_after_140 : decode cX9_after 140 = .ok (.getfield 196, 3) := by decide +kernel
theorem dX9_after_143 : decode cX9_after 143 = .ok (.iconst 2, 1) := by decide +kernel
theorem dX9_after_144 : decode cX9_after 144 = .ok (.invokestatic 119, 3) := by decide +kernel
theorem dX9_after_147 : decode cX9_after 147 = .ok (.ireturn, 1) := by decide +kernel
theorem dX9_after_148 : decode cX9_after 148 = .ok (.aload_n 0, 1) := by decide +kernel
theorem dX9_after_149 : decode cX9_after 149 = .ok (.getfield 35, 3) := by decide +kernel
theorem dX9_after_152 : decode cX9_after 152 = .ok (.getfield 196, 3) := by decide +kernel
theorem dX9_after_155 : decode cX9_after 155 = .ok (.iconst 0, 1) := by decide +kernel
theorem dX9_after_156 : decode cX9_after 156 = .ok (.invokestatic 119, 3) := by decide +kernel
theorem dX9_after_159 : decode cX9_after 159 = .ok (.ireturn, 1) := by decide +kernel
set_option maxRecDepth 20000 in
theorem ggX9_book_X9_tellByHand : GoodIn wsX9_book wsX9_tellByHand := goodIn_r _ [6, 7, 8, 9, 5, 10, 11, 12, 13, 14, 15, 16, 17, 18, 19, 34, 35, 36, 37] (by decide +kernel) (by decide +kernel)
set_option maxRecDepth 20000 in
theorem gX9_book_X9_tellByHand : GoodIn wsX9_book (va_wsS RX9 189 yX9_tellByHand wsX9_tellByHand) := goodIn_app (goodIn_of _ (by decide +kernel)) ggX9_book_X9_tellByHand
theorem dX9_book_0 : decode cX9_book 0 = .ok (.aload_n 0, 1) := by decide +kernel
theorem dX9_book_1 : decode cX9_book 1 = .ok (.getfield 12, 3) := by decide +kernel
theorem dX9_book_4 : decode cX9_book 4 = .ok (.getfield 229, 3) := by decide +kernel
theorem dX9_book_7 : decode cX9_book 7 = .ok (.iload_n 1, 1) := by decide +kernel
theorem dX9_book_8 : decode cX9_book 8 = .ok (.iload_n 2, 1) := by decide +kernel
theorem dX9_book_9 : decode cX9_book 9 = .ok (.invokestatic 189, 3) := by decide +kernel
theorem dX9_book_12 : decode cX9_book 12 = .ok (.ireturn, 1) := by decide +kernel
set_option maxRecDepth 20000 in
theorem ggX9_looked_X1_join : GoodIn wsX9_looked wsX1_join := goodIn_r _ [10, 11, 12, 13, 14, 15, 16, 17, 18, 19, 20, 21, 22, 9, 23, 24, 25, 26, 27, 28, 29, 30, 31, 32, 33, 34, 35, 36, 37, 38, 39, 40, 41, 42, 43, 44, 45, 46, 47, 48, 49, 50, 51, 74, 75, 76, 77, 78, 79, 80, 81, 82, 83] (by decide +kernel) (by decide +kernel)
set_option maxRecDepth 20000 in
theorem gX9_looked_X1_join : GoodIn wsX9_looked (wsV RX9 193 RX1 yX1_join wsX1_join) := goodIn_app (goodIn_of _ (by decide +kernel)) ggX9_looked_X1_join
set_option maxRecDepth 20000 in
theorem ggX9_looked_X4_firstOtherwise : GoodIn wsX9_looked wsX4_firstOtherwise := goodIn_r _ [56, 57, 58, 59, 38, 39, 40, 84, 85, 86, 87] (by decide +kernel) (by decide +kernel)
set_option maxRecDepth 20000 in
theorem gX9_looked_X4_firstOtherwise : GoodIn wsX9_looked (wsV RX9 199 RX4 yX4_firstOtherwise wsX4_firstOtherwise) := goodIn_app (goodIn_of _ (by decide +kernel)) ggX9_looked_X4_firstOtherwise
theorem dX9_looked_0 : decode cX9_looked 0 = .ok (.aload_n 0, 1) := by decide +kernel
theorem dX9_looked_1 : decode cX9_looked 1 = .ok (.getfield 35, 3) := by decide +kernel
theorem dX9_looked_4 : decode cX9_looked 4 = .ok (.aload_n 0, 1) := by decide +kernel
theorem dX9_looked_5 : decode cX9_looked 5 = .ok (.getfield 12, 3) := by decide +kernel
theorem dX9_looked_8 : decode cX9_looked 8 = .ok (.getfield 67, 3) := by decide +kernel
theorem dX9_looked_11 : decode cX9_looked 11 = .ok (.invokevirtual 193, 3) := by decide +kernel
theorem dX9_looked_14 : decode cX9_looked 14 = .ok (.aload_n 0, 1) := by decide +kernel
theorem dX9_looked_15 : decode cX9_looked 15 = .ok (.getfield 12, 3) := by decide +kernel
theorem dX9_looked_18 : decode cX9_looked 18 = .ok (.getfield 229, 3) := by decide +kernel
theorem dX9_looked_21 : decode cX9_looked 21 = .ok (.aload_n 0, 1) := by decide +kernel
theorem dX9_looked_22 : decode cX9_looked 22 = .ok (.getfield 35, 3) := by decide +kernel
theorem dX9_looked_25 : decode cX9_looked 25 = .ok (.getfield 196, 3) := by decide +kernel
theorem dX9_looked_28 : decode cX9_looked 28 = .ok (.invokevirtual 199, 3) := by decide +kernel
theorem dX9_looked_31 : decode cX9_looked 31 = .ok (.ireturn, 1) := by decide +kernel
set_option maxRecDepth 20000 in
theorem ggX9_judge_X6_has : GoodIn wsX9_judge wsX6_has := goodIn_r _ [15, 16, 17, 77, 78, 79] (by decide +kernel) (by decide +kernel)
set_option maxRecDepth 20000 in
theorem gX9_judge_X6_has : GoodIn wsX9_judge (wsV RX9 97 RX6 yX6_has wsX6_has) := goodIn_app (goodIn_of _ (by decide +kernel)) ggX9_judge_X6_has
set_option maxRecDepth 20000 in
theorem ggX9_judge_X9_isTape : GoodIn wsX9_judge wsX9_isTape := goodIn_r _ [22, 3, 23, 24, 21, 25, 60, 61, 62, 63, 64, 65, 66, 67, 68] (by decide +kernel) (by decide +kernel)
set_option maxRecDepth 20000 in
theorem gX9_judge_X9_isTape : GoodIn wsX9_judge (wsV RX9 232 RX9 yX9_isTape wsX9_isTape) := goodIn_app (goodIn_of _ (by decide +kernel)) ggX9_judge_X9_isTape
set_option maxRecDepth 20000 in
theorem ggX9_judge_X1_runOff : GoodIn wsX9_judge wsX1_runOff := goodIn_r _ [30, 31, 32, 33, 34, 35, 36, 37, 38, 39, 40, 41, 42, 43, 44, 45, 46, 47, 48, 24, 21, 25, 49, 50, 51, 52, 53, 54, 55, 56, 57, 58, 59, 80, 81, 82, 83, 84, 85, 86] (by decide +kernel) (by decide +kernel)
set_option maxRecDepth 20000 in
theorem gX9_judge_X1_runOff : GoodIn wsX9_judge (wsV RX9 143 RX1 yX1_runOff wsX1_runOff) := goodIn_app (goodIn_of _ (by decide +kernel)) ggX9_judge_X1_runOff
set_option maxRecDepth 20000 in
theorem ggX9_judge_X9_between : GoodIn wsX9_judge wsX9_between := goodIn_r _ [25] (by decide +kernel) (by decide +kernel)
set_option maxRecDepth 20000 in
theorem gX9_judge_X9_between : GoodIn wsX9_judge (va_wsS RX9 79 yX9_between wsX9_between) := goodIn_app (goodIn_of _ (by decide +kernel)) ggX9_judge_X9_between
theorem dX9_judge_0 : decode cX9_judge 0 = .ok (.aload_n 0, 1) := by decide +kernel
theorem dX9_judge_1 : decode cX9_judge 1 = .ok (.getfield 12, 3) := by decide +kernel
theorem dX9_judge_4 : decode cX9_judge 4 = .ok (.getfield 67, 3) := by decide +kernel
theorem dX9_judge_7 : decode cX9_judge 7 = .ok (.iload_n 1, 1) := by decide +kernel
theorem dX9_judge_8 : decode cX9_judge 8 = .ok (.invokevirtual 97, 3) := by decide +kernel
theorem dX9_judge_11 : decode cX9_judge 11 = .ok (.ifCond .eq 11, 3) := by decide +kernel
theorem dX9_judge_14 : decode cX9_judge 14 = .ok (.aload_n 0, 1) := by decide +kernel
theorem dX9_judge_15 : decode cX9_judge 15 = .ok (.iload_n 2, 1) := by decide +kernel
theorem dX9_judge_16 : decode cX9_judge 16 = .ok (.invokevirtual 232, 3) := by decide +kernel
theorem dX9_judge_19 : decode cX9_judge 19 = .ok (.ifCond .ne 5, 3) := by decide +kernel
theorem dX9_judge_22 : decode cX9_judge 22 = .ok (.iconst (-1), 1) := by decide +kernel
theorem dX9_judge_23 : decode cX9_judge 23 = .ok (.ireturn, 1) := by decide +kernel
theorem dX9_judge_24 : decode cX9_judge 24 = .ok (.aload_n 0, 1) := by decide +kernel
theorem dX9_judge_25 : decode cX9_judge 25 = .ok (.getfield 63, 3) := by decide +kernel
theorem dX9_judge_28 : decode cX9_judge 28 = .ok (.iload_n 2, 1) := by decide +kernel
theorem dX9_judge_29 : decode cX9_judge 29 = .ok (.aaload, 1) := by decide +kernel
theorem dX9_judge_30 : decode cX9_judge 30 = .ok (.astore 4, 2) := by decide +kernel
theorem dX9_judge_32 : decode cX9_judge 32 = .ok (.aload 4, 2) := by decide +kernel
theorem dX9_judge_34 : decode cX9_judge 34 = .ok (.getfield 235, 3) := by decide +kernel
theorem dX9_judge_37 : decode cX9_judge 37 = .ok (.iconst (-1), 1) := by decide +kernel
theorem dX9_judge_38 : decode cX9_judge 38 = .ok (.if_icmp .ne 6, 3) := by decide +kernel
theorem dX9_judge_41 : decode cX9_judge 41 = .ok (.bipush 100, 2) := by decide +kernel
theorem dX9_judge_43 : decode cX9_judge 43 = .ok (.ireturn, 1) := by decide +kernel
theorem dX9_judge_44 : decode cX9_judge 44 = .ok (.aload 4, 2) := by decide +kernel
theorem dX9_judge_46 : decode cX9_judge 46 = .ok (.getfield 235, 3) := by decide +kernel
theorem dX9_judge_49 : decode cX9_judge 49 = .ok (.iconst 1, 1) := by decide +kernel
theorem dX9_judge_50 : decode cX9_judge 50 = .ok (.if_icmp .eq 6, 3) := by decide +kernel
theorem dX9_judge_53 : decode cX9_judge 53 = .ok (.bipush (-12), 2) := by decide +kernel
theorem dX9_judge_55 : decode cX9_judge 55 = .ok (.ireturn, 1) := by decide +kernel
theorem dX9_judge_56 : decode cX9_judge 56 = .ok (.aload_n 0, 1) := by decide +kernel
theorem dX9_judge_57 : decode cX9_judge 57 = .ok (.getfield 35, 3) := by decide +kernel
theorem dX9_judge_60 : decode cX9_judge 60 = .ok (.aload_n 0, 1) := by decide +kernel
theorem dX9_judge_61 : decode cX9_judge 61 = .ok (.getfield 12, 3) := by decide +kernel
theorem dX9_judge_64 : decode cX9_judge 64 = .ok (.getfield 67, 3) := by decide +kernel
theorem dX9_judge_67 : decode cX9_judge 67 = .ok (.getfield 87, 3) := by decide +kernel
theorem dX9_judge_70 : decode cX9_judge 70 = .ok (.iload_n 1, 1) := by decide +kernel
theorem dX9_judge_71 : decode cX9_judge 71 = .ok (.aaload, 1) := by decide +kernel
theorem dX9_judge_72 : decode cX9_judge 72 = .ok (.aload_n 0, 1) := by decide +kernel
theorem dX9_judge_73 : decode cX9_judge 73 = .ok (.getfield 12, 3) := by decide +kernel
theorem dX9_judge_76 : decode cX9_judge 76 = .ok (.getfield 67, 3) := by decide +kernel
theorem dX9_judge_79 : decode cX9_judge 79 = .ok (.getfield 70, 3) := by decide +kernel
theorem dX9_judge_82 : decode cX9_judge 82 = .ok (.invokevirtual 143, 3) := by decide +kernel
theorem dX9_judge_85 : decode cX9_judge 85 = .ok (.pop, 1) := by decide +kernel
theorem dX9_judge_86 : decode cX9_judge 86 = .ok (.iconst 0, 1) := by decide +kernel
theorem dX9_judge_87 : decode cX9_judge 87 = .ok (.istore 5, 2) := by decide +kernel
theorem dX9_judge_89 : decode cX9_judge 89 = .ok (.iload 5, 2) := by decide +kernel
theorem dX9_judge_91 : decode cX9_judge 91 = .ok (.bipush 30, 2) := by decide +kernel
theorem dX9_judge_93 : decode cX9_judge 93 = .ok (.if_icmp .ge 61, 3) := by decide +kernel
theorem dX9_judge_96 : decode cX9_judge 96 = .ok (.iload_n 3, 1) := by decide +kernel
theorem dX9_judge_97 : decode cX9_judge 97 = .ok (.iconst 0, 1) := by decide +kernel
theorem dX9_judge_98 : decode cX9_judge 98 = .ok (.aload 4, 2) := by decide +kernel
theorem dX9_judge_100 : decode cX9_judge 100 = .ok (.getfield 238, 3) := by decide +kernel
theorem dX9_judge_103 : decode cX9_judge 103 = .ok (.iconst 1, 1) := by decide +kernel
theorem dX9_judge_104 : decode cX9_judge 104 = .ok (.isub, 1) := by decide +kernel
theorem dX9_judge_105 : decode cX9_judge 105 = .ok (.iload 5, 2) := by decide +kernel
theorem dX9_judge_107 : decode cX9_judge 107 = .ok (.isub, 1) := by decide +kernel
theorem dX9_judge_108 : decode cX9_judge 108 = .ok (.invokestatic 79, 3) := by decide +kernel
theorem dX9_judge_111 : decode cX9_judge 111 = .ok (.ifCond .ne 9, 3) := by decide +kernel
theorem dX9_judge_114 : decode cX9_judge 114 = .ok (.bipush 100, 2) := by decide +kernel
theorem dX9_judge_116 : decode cX9_judge 116 = .ok (.iload 5, 2) := by decide +kernel
theorem dX9_judge_118 : decode cX9_judge 118 = .ok (.iadd, 1) := by decide +kernel
theorem dX9_judge_119 : decode cX9_judge 119 = .ok (.ireturn, 1) := by decide +kernel
theorem dX9_judge_120 : decode cX9_judge 120 = .ok (.aload 4, 2) := by decide +kernel
theorem dX9_judge_122 : decode cX9_judge 122 = .ok (.getfield 241, 3) := by decide +kernel
theorem dX9_judge_125 : decode cX9_judge 125 = .ok (.iload_n 3, 1) := by decide +kernel
theorem dX9_judge_126 : decode cX9_judge 126 = .ok (.iload 5, 2) := by decide +kernel
theorem dX9_judge_128 : decode cX9_judge 128 = .ok (.iadd, 1) := by decide +kernel
theorem dX9_judge_129 : decode cX9_judge 129 = .ok (.laload, 1) := by decide +kernel
theorem dX9_judge_130 : decode cX9_judge 130 = .ok (.aload_n 0, 1) := by decide +kernel
theorem dX9_judge_131 : decode cX9_judge 131 = .ok (.getfield 35, 3) := by decide +kernel
theorem dX9_judge_134 : decode cX9_judge 134 = .ok (.getfield 152, 3) := by decide +kernel
theorem dX9_judge_137 : decode cX9_judge 137 = .ok (.iload 5, 2) := by decide +kernel
theorem dX9_judge_139 : decode cX9_judge 139 = .ok (.iaload, 1) := by decide +kernel
theorem dX9_judge_140 : decode cX9_judge 140 = .ok (.i2l, 1) := by decide +kernel
theorem dX9_judge_141 : decode cX9_judge 141 = .ok (.lcmp, 1) := by decide +kernel
theorem dX9_judge_142 : decode cX9_judge 142 = .ok (.ifCond .eq 6, 3) := by decide +kernel
theorem dX9_judge_145 : decode cX9_judge 145 = .ok (.iload 5, 2) := by decide +kernel
theorem dX9_judge_147 : decode cX9_judge 147 = .ok (.ireturn, 1) := by decide +kernel
theorem dX9_judge_148 : decode cX9_judge 148 = .ok (.iinc 5 1, 3) := by decide +kernel
theorem dX9_judge_151 : decode cX9_judge 151 = .ok (.goto (-62), 3) := by decide +kernel
theorem dX9_judge_154 : decode cX9_judge 154 = .ok (.bipush (-5), 2) := by decide +kernel
theorem dX9_judge_156 : decode cX9_judge 156 = .ok (.ireturn, 1) := by decide +kernel
set_option maxRecDepth 20000 in
theorem ggX9_image_X7_become : GoodIn wsX9_image wsX7_become := goodIn_r _ [10, 11, 12, 13, 14, 15, 16, 17, 18, 19, 20, 21, 22, 23, 24, 25, 26, 27, 28, 29, 30, 31, 32, 33, 34, 35, 36, 37, 38, 39, 40, 41, 42, 43, 53, 54, 55, 56, 57, 58, 59, 60, 61, 62, 63, 64, 65, 66, 67, 68] (by decide +kernel) (by decide +kernel)
set_option maxRecDepth 20000 in
theorem gX9_image_X7_become : GoodIn wsX9_image (wsV RX9 245 RX7 yX7_become wsX7_become) := goodIn_app (goodIn_of _ (by decide +kernel)) ggX9_image_X7_become
theorem dX9_image_0 : decode cX9_image 0 = .ok (.aload_n 0, 1) := by decide +kernel
theorem dX9_image_1 : decode cX9_image 1 = .ok (.getfield 18, 3) := by decide +kernel
theorem dX9_image_4 : decode cX9_image 4 = .ok (.aload_n 0, 1) := by decide +kernel
theorem dX9_image_5 : decode cX9_image 5 = .ok (.getfield 12, 3) := by decide +kernel
theorem dX9_image_8 : decode cX9_image 8 = .ok (.invokevirtual 245, 3) := by decide +kernel
theorem dX9_image_11 : decode cX9_image 11 = .ok (.aload_n 0, 1) := by decide +kernel
theorem dX9_image_12 : decode cX9_image 12 = .ok (.iconst 1, 1) := by decide +kernel
theorem dX9_image_13 : decode cX9_image 13 = .ok (.putfield 21, 3) := by decide +kernel
theorem dX9_image_16 : decode cX9_image 16 = .ok (.aload_n 0, 1) := by decide +kernel
theorem dX9_image_17 : decode cX9_image 17 = .ok (.getfield 12, 3) := by decide +kernel
theorem dX9_image_20 : decode cX9_image 20 = .ok (.getfield 67, 3) := by decide +kernel
theorem dX9_image_23 : decode cX9_image 23 = .ok (.getfield 83, 3) := by decide +kernel
theorem dX9_image_26 : decode cX9_image 26 = .ok (.ireturn, 1) := by decide +kernel
set_option maxRecDepth 20000 in
theorem ggX9_undo_X7_become : GoodIn wsX9_undo wsX7_become := goodIn_r _ [10, 11, 12, 13, 14, 15, 16, 17, 18, 19, 20, 21, 22, 23, 24, 25, 26, 27, 28, 29, 30, 31, 32, 33, 34, 35, 36, 37, 38, 39, 40, 41, 42, 43, 53, 54, 55, 56, 57, 58, 59, 60, 61, 62, 63, 64, 65, 66, 67, 68] (by decide +kernel) (by decide +kernel)
set_option maxRecDepth 20000 in
theorem gX9_undo_X7_become : GoodIn wsX9_undo (wsV RX9 245 RX7 yX7_become wsX7_become) := goodIn_app (goodIn_of _ (by decide +kernel)) ggX9_undo_X7_become
theorem dX9_undo_0 : decode cX9_undo 0 = .ok (.aload_n 0, 1) := by decide +kernel
theorem dX9_undo_1 : decode cX9_undo 1 = .ok (.getfield 21, 3) := by decide +kernel
theorem dX9_undo_4 : decode cX9_undo 4 = .ok (.ifCond .ne 6, 3) := by decide +kernel
theorem dX9_undo_7 : decode cX9_undo 7 = .ok (.bipush (-3), 2) := by decide +kernel
theorem dX9_undo_9 : decode cX9_undo 9 = .ok (.ireturn, 1) := by decide +kernel
theorem dX9_undo_10 : decode cX9_undo 10 = .ok (.aload_n 0, 1) := by decide +kernel
theorem dX9_undo_11 : decode cX9_undo 11 = .ok (.getfield 12, 3) := by decide +kernel
theorem dX9_undo_14 : decode cX9_undo 14 = .ok (.aload_n 0, 1) := by decide +kernel
theorem dX9_undo_15 : decode cX9_undo 15 = .ok (.getfield 18, 3) := by decide +kernel
theorem dX9_undo_18 : decode cX9_undo 18 = .ok (.invokevirtual 245, 3) := by decide +kernel
theorem dX9_undo_21 : decode cX9_undo 21 = .ok (.aload_n 0, 1) := by decide +kernel
theorem dX9_undo_22 : decode cX9_undo 22 = .ok (.getfield 12, 3) := by decide +kernel
theorem dX9_undo_25 : decode cX9_undo 25 = .ok (.getfield 67, 3) := by decide +kernel
theorem dX9_undo_28 : decode cX9_undo 28 = .ok (.getfield 83, 3) := by decide +kernel
theorem dX9_undo_31 : decode cX9_undo 31 = .ok (.ireturn, 1) := by decide +kernel
theorem dX9_count_0 : decode cX9_count 0 = .ok (.iload_n 1, 1) := by decide +kernel
theorem dX9_count_1 : decode cX9_count 1 = .ok (.tableswitch 72 0 3 #[31, 42, 53, 64], 31) := by decide +kernel
theorem dX9_count_32 : decode cX9_count 32 = .ok (.aload_n 0, 1) := by decide +kernel
theorem dX9_count_33 : decode cX9_count 33 = .ok (.getfield 12, 3) := by decide +kernel
theorem dX9_count_36 : decode cX9_count 36 = .ok (.getfield 185, 3) := by decide +kernel
theorem dX9_count_39 : decode cX9_count 39 = .ok (.getfield 214, 3) := by decide +kernel
theorem dX9_count_42 : decode cX9_count 42 = .ok (.ireturn, 1) := by decide +kernel
theorem dX9_count_43 : decode cX9_count 43 = .ok (.aload_n 0, 1) := by decide +kernel
theorem dX9_count_44 : decode cX9_count 44 = .ok (.getfield 12, 3) := by decide +kernel
theorem dX9_count_47 : decode cX9_count 47 = .ok (.getfield 211, 3) := by decide +kernel
theorem dX9_count_50 : decode cX9_count 50 = .ok (.getfield 214, 3) := by decide +kernel
theorem dX9_count_53 : decode cX9_count 53 = .ok (.ireturn, 1) := by decide +kernel
theorem dX9_count_54 : decode cX9_count 54 = .ok (.aload_n 0, 1) := by decide +kernel
theorem dX9_count_55 : decode cX9_count 55 = .ok (.getfield 12, 3) := by decide +kernel
theorem dX9_count_58 : decode cX9_count 58 = .ok (.getfield 229, 3) := by decide +kernel
theorem dX9_count_61 : decode cX9_count 61 = .ok (.getfield 214, 3) := by decide +kernel
theorem dX9_count_64 : decode cX9_count 64 = .ok (.ireturn, 1) := by decide +kernel
theorem dX9_count_65 : decode cX9_count 65 = .ok (.aload_n 0, 1) := by decide +kernel
theorem dX9_count_66 : decode cX9_count 66 = .ok (.getfield 56, 3) := by decide +kernel
theorem dX9_count_69 : decode cX9_count 69 = .ok (.getfield 126, 3) := by decide +kernel
theorem dX9_count_72 : decode cX9_count 72 = .ok (.ireturn, 1) := by decide +kernel
theorem dX9_count_73 : decode cX9_count 73 = .ok (.bipush (-2), 2) := by decide +kernel
theorem dX9_count_75 : decode cX9_count 75 = .ok (.ireturn, 1) := by decide +kernel
set_option maxRecDepth 20000 in
theorem ggX9_tape_X9_isTape : GoodIn wsX9_tape wsX9_isTape := goodIn_r _ [6, 1, 7, 8, 5, 9, 22, 23, 24, 25, 26, 27, 28, 29, 30] (by decide +kernel) (by decide +kernel)
set_option maxRecDepth 20000 in
theorem gX9_tape_X9_isTape : GoodIn wsX9_tape (wsV RX9 232 RX9 yX9_isTape wsX9_isTape) := goodIn_app (goodIn_of _ (by decide +kernel)) ggX9_tape_X9_isTape
set_option maxRecDepth 20000 in
theorem ggX9_tape_X9_between : GoodIn wsX9_tape wsX9_between := goodIn_r _ [9] (by decide +kernel) (by decide +kernel)
set_option maxRecDepth 20000 in
theorem gX9_tape_X9_between : GoodIn wsX9_tape (va_wsS RX9 79 yX9_between wsX9_between) := goodIn_app (goodIn_of _ (by decide +kernel)) ggX9_tape_X9_between
set_option maxRecDepth 20000 in
theorem ggX9_tape_X8_begin : GoodIn wsX9_tape wsX8_begin := goodIn_r _ [14, 15, 16, 17, 18, 19, 20, 21, 31, 32, 33] (by decide +kernel) (by decide +kernel)
set_option maxRecDepth 20000 in
theorem gX9_tape_X8_begin : GoodIn wsX9_tape (wsV RX9 248 RX8 yX8_begin wsX8_begin) := goodIn_app (goodIn_of _ (by decide +kernel)) ggX9_tape_X8_begin
theorem dX9_tape_0 : decode cX9_tape 0 = .ok (.aload_n 0, 1) := by decide +kernel
theorem dX9_tape_1 : decode cX9_tape 1 = .ok (.iload_n 1, 1) := by decide +kernel
theorem dX9_tape_2 : decode cX9_tape 2 = .ok (.invokevirtual 232, 3) := by decide +kernel
theorem dX9_tape_5 : decode cX9_tape 5 = .ok (.ifCond .ne 5, 3) := by decide +kernel
theorem dX9_tape_8 : decode cX9_tape 8 = .ok (.iconst (-1), 1) := by decide +kernel
theorem dX9_tape_9 : decode cX9_tape 9 = .ok (.ireturn, 1) := by decide +kernel
theorem dX9_tape_10 : decode cX9_tape 10 = .ok (.iload_n 2, 1) := by decide +kernel
theorem dX9_tape_11 : decode cX9_tape 11 = .ok (.iconst (-1), 1) := by decide +kernel
theorem dX9_tape_12 : decode cX9_tape 12 = .ok (.iconst 4, 1) := by decide +kernel
theorem dX9_tape_13 : decode cX9_tape 13 = .ok (.invokestatic 79, 3) := by decide +kernel
theorem dX9_tape_16 : decode cX9_tape 16 = .ok (.ifCond .ne 6, 3) := by decide +kernel
theorem dX9_tape_19 : decode cX9_tape 19 = .ok (.bipush (-2), 2) := by decide +kernel
theorem dX9_tape_21 : decode cX9_tape 21 = .ok (.ireturn, 1) := by decide +kernel
theorem dX9_tape_22 : decode cX9_tape 22 = .ok (.iload_n 2, 1) := by decide +kernel
theorem dX9_tape_23 : decode cX9_tape 23 = .ok (.iconst (-1), 1) := by decide +kernel
theorem dX9_tape_24 : decode cX9_tape 24 = .ok (.if_icmp .eq 12, 3) := by decide +kernel
theorem dX9_tape_27 : decode cX9_tape 27 = .ok (.iload_n 3, 1) := by decide +kernel
theorem dX9_tape_28 : decode cX9_tape 28 = .ok (.bipush 60, 2) := by decide +kernel
theorem dX9_tape_30 : decode cX9_tape 30 = .ok (.if_icmp .le 6, 3) := by decide +kernel
theorem dX9_tape_33 : decode cX9_tape 33 = .ok (.bipush (-2), 2) := by decide +kernel
theorem dX9_tape_35 : decode cX9_tape 35 = .ok (.ireturn, 1) := by decide +kernel
theorem dX9_tape_36 : decode cX9_tape 36 = .ok (.iload_n 2, 1) := by decide +kernel
theorem dX9_tape_37 : decode cX9_tape 37 = .ok (.iconst (-1), 1) := by decide +kernel
theorem dX9_tape_38 : decode cX9_tape 38 = .ok (.if_icmp .eq 10, 3) := by decide +kernel
theorem dX9_tape_41 : decode cX9_tape 41 = .ok (.iload_n 3, 1) := by decide +kernel
theorem dX9_tape_42 : decode cX9_tape 42 = .ok (.ifCond .ge 6, 3) := by decide +kernel
theorem dX9_tape_45 : decode cX9_tape 45 = .ok (.bipush (-14), 2) := by decide +kernel
theorem dX9_tape_47 : decode cX9_tape 47 = .ok (.ireturn, 1) := by decide +kernel
theorem dX9_tape_48 : decode cX9_tape 48 = .ok (.aload_n 0, 1) := by decide +kernel
theorem dX9_tape_49 : decode cX9_tape 49 = .ok (.getfield 63, 3) := by decide +kernel
theorem dX9_tape_52 : decode cX9_tape 52 = .ok (.iload_n 1, 1) := by decide +kernel
theorem dX9_tape_53 : decode cX9_tape 53 = .ok (.aaload, 1) := by decide +kernel
theorem dX9_tape_54 : decode cX9_tape 54 = .ok (.iload_n 2, 1) := by decide +kernel
theorem dX9_tape_55 : decode cX9_tape 55 = .ok (.iload_n 2, 1) := by decide +kernel
theorem dX9_tape_56 : decode cX9_tape 56 = .ok (.iconst (-1), 1) := by decide +kernel
theorem dX9_tape_57 : decode cX9_tape 57 = .ok (.if_icmp .ne 7, 3) := by decide +kernel
theorem dX9_tape_60 : decode cX9_tape 60 = .ok (.iconst 0, 1) := by decide +kernel
theorem dX9_tape_61 : decode cX9_tape 61 = .ok (.goto 4, 3) := by decide +kernel
theorem dX9_tape_64 : decode cX9_tape 64 = .ok (.iload_n 3, 1) := by decide +kernel
theorem dX9_tape_65 : decode cX9_tape 65 = .ok (.invokevirtual 248, 3) := by decide +kernel
theorem dX9_tape_68 : decode cX9_tape 68 = .ok (.iconst 1, 1) := by decide +kernel
theorem dX9_tape_69 : decode cX9_tape 69 = .ok (.ireturn, 1) := by decide +kernel
set_option maxRecDepth 20000 in
theorem ggX9_item_X9_isTape : GoodIn wsX9_item wsX9_isTape := goodIn_r _ [8, 1, 9, 10, 7, 11, 22, 23, 24, 25, 26, 27, 28, 29, 30] (by decide +kernel) (by decide +kernel)
set_option maxRecDepth 20000 in
theorem gX9_item_X9_isTape : GoodIn wsX9_item (wsV RX9 232 RX9 yX9_isTape wsX9_isTape) := goodIn_app (goodIn_of _ (by decide +kernel)) ggX9_item_X9_isTape
set_option maxRecDepth 20000 in
theorem ggX9_item_X8_hasPlace : GoodIn wsX9_item wsX8_hasPlace := goodIn_r _ [16, 17, 18, 31, 32, 33] (by decide +kernel) (by decide +kernel)
set_option maxRecDepth 20000 in
theorem gX9_item_X8_hasPlace : GoodIn wsX9_item (wsV RX9 251 RX8 yX8_hasPlace wsX8_hasPlace) := goodIn_app (goodIn_of _ (by decide +kernel)) ggX9_item_X8_hasPlace
set_option maxRecDepth 20000 in
theorem ggX9_item_X9_cutTo : GoodIn wsX9_item wsX9_cutTo := goodIn_r _ [21] (by decide +kernel) (by decide +kernel)
set_option maxRecDepth 20000 in
theorem gX9_item_X9_cutTo : GoodIn wsX9_item (va_wsS RX9 254 yX9_cutTo wsX9_cutTo) := goodIn_app (goodIn_of _ (by decide +kernel)) ggX9_item_X9_cutTo
theorem dX9_item_0 : decode cX9_item 0 = .ok (.aload_n 0, 1) := by decide +kernel
theorem dX9_item_1 : decode cX9_item 1 = .ok (.iload_n 1, 1) := by decide +kernel
theorem dX9_item_2 : decode cX9_item 2 = .ok (.invokevirtual 232, 3) := by decide +kernel
theorem dX9_item_5 : decode cX9_item 5 = .ok (.ifCond .ne 5, 3) := by decide +kernel
theorem dX9_item_8 : decode cX9_item 8 = .ok (.iconst (-1), 1) := by decide +kernel
theorem dX9_item_9 : decode cX9_item 9 = .ok (.ireturn, 1) := by decide +kernel
theorem dX9_item_10 : decode cX9_item 10 = .ok (.aload_n 0, 1) := by decide +kernel
theorem dX9_item_11 : decode cX9_item 11 = .ok (.getfield 63, 3) := by decide +kernel
theorem dX9_item_14 : decode cX9_item 14 = .ok (.iload_n 1, 1) := by decide +kernel
theorem dX9_item_15 : decode cX9_item 15 = .ok (.aaload, 1) := by decide +kernel
theorem dX9_item_16 : decode cX9_item 16 = .ok (.astore 5, 2) := by decide +kernel
theorem dX9_item_18 : decode cX9_item 18 = .ok (.aload 5, 2) := by decide +kernel
theorem dX9_item_20 : decode cX9_item 20 = .ok (.getfield 235, 3) := by decide +kernel
theorem dX9_item_23 : decode cX9_item 23 = .ok (.iconst (-1), 1) := by decide +kernel
theorem dX9_item_24 : decode cX9_item 24 = .ok (.if_icmp .ne 6, 3) := by decide +kernel
theorem dX9_item_27 : decode cX9_item 27 = .ok (.bipush (-11), 2) := by decide +kernel
theorem dX9_item_29 : decode cX9_item 29 = .ok (.ireturn, 1) := by decide +kernel
theorem dX9_item_30 : decode cX9_item 30 = .ok (.aload 5, 2) := by decide +kernel
theorem dX9_item_32 : decode cX9_item 32 = .ok (.iload_n 2, 1) := by decide +kernel
theorem dX9_item_33 : decode cX9_item 33 = .ok (.invokevirtual 251, 3) := by decide +kernel
theorem dX9_item_36 : decode cX9_item 36 = .ok (.ifCond .ne 6, 3) := by decide +kernel
theorem dX9_item_39 : decode cX9_item 39 = .ok (.bipush (-13), 2) := by decide +kernel
theorem dX9_item_41 : decode cX9_item 41 = .ok (.ireturn, 1) := by decide +kernel
theorem dX9_item_42 : decode cX9_item 42 = .ok (.aload 5, 2) := by decide +kernel
theorem dX9_item_44 : decode cX9_item 44 = .ok (.getfield 241, 3) := by decide +kernel
theorem dX9_item_47 : decode cX9_item 47 = .ok (.iload_n 2, 1) := by decide +kernel
theorem dX9_item_48 : decode cX9_item 48 = .ok (.aload 5, 2) := by decide +kernel
theorem dX9_item_50 : decode cX9_item 50 = .ok (.getfield 235, 3) := by decide +kernel
theorem dX9_item_53 : decode cX9_item 53 = .ok (.lload_n 3, 1) := by decide +kernel
theorem dX9_item_54 : decode cX9_item 54 = .ok (.invokestatic 254, 3) := by decide +kernel
theorem dX9_item_57 : decode cX9_item 57 = .ok (.lastore, 1) := by decide +kernel
theorem dX9_item_58 : decode cX9_item 58 = .ok (.iconst 1, 1) := by decide +kernel
theorem dX9_item_59 : decode cX9_item 59 = .ok (.ireturn, 1) := by decide +kernel
set_option maxRecDepth 20000 in
theorem ggX9_peek_X9_isTape : GoodIn wsX9_peek wsX9_isTape := goodIn_r _ [8, 1, 9, 10, 7, 11, 19, 20, 21, 22, 23, 24, 25, 26, 27] (by decide +kernel) (by decide +kernel)
set_option maxRecDepth 20000 in
theorem gX9_peek_X9_isTape : GoodIn wsX9_peek (wsV RX9 232 RX9 yX9_isTape wsX9_isTape) := goodIn_app (goodIn_of _ (by decide +kernel)) ggX9_peek_X9_isTape
set_option maxRecDepth 20000 in
theorem ggX9_peek_X8_hasPlace : GoodIn wsX9_peek wsX8_hasPlace := goodIn_r _ [16, 17, 18, 28, 29, 30] (by decide +kernel) (by decide +kernel)
set_option maxRecDepth 20000 in
theorem gX9_peek_X8_hasPlace : GoodIn wsX9_peek (wsV RX9 251 RX8 yX8_hasPlace wsX8_hasPlace) := goodIn_app (goodIn_of _ (by decide +kernel)) ggX9_peek_X8_hasPlace
theorem dX9_peek_0 : decode cX9_peek 0 = .ok (.aload_n 0, 1) := by decide +kernel
theorem dX9_peek_1 : decode cX9_peek 1 = .ok (.iload_n 1, 1) := by decide +kernel
theorem dX9_peek_2 : decode cX9_peek 2 = .ok (.invokevirtual 232, 3) := by decide +kernel
theorem dX9_peek_5 : decode cX9_peek 5 = .ok (.ifCond .eq 16, 3) := by decide +kernel
theorem dX9_peek_8 : decode cX9_peek 8 = .ok (.aload_n 0, 1) := by decide +kernel
theorem dX9_peek_9 : decode cX9_peek 9 = .ok (.getfield 63, 3) := by decide +kernel
theorem dX9_peek_12 : decode cX9_peek 12 = .ok (.iload_n 1, 1) := by decide +kernel
theorem dX9_peek_13 : decode cX9_peek 13 = .ok (.aaload, 1) := by decide +kernel
theorem dX9_peek_14 : decode cX9_peek 14 = .ok (.iload_n 2, 1) := by decide +kernel
theorem dX9_peek_15 : decode cX9_peek 15 = .ok (.invokevirtual 251, 3) := by decide +kernel
theorem dX9_peek_18 : decode cX9_peek 18 = .ok (.ifCond .ne 7, 3) := by decide +kernel
theorem dX9_peek_21 : decode cX9_peek 21 = .ok (.ldc2_w 205, 3) := by decide +kernel
theorem dX9_peek_24 : decode cX9_peek 24 = .ok (.lreturn, 1) := by decide +kernel
theorem dX9_peek_25 : decode cX9_peek 25 = .ok (.aload_n 0, 1) := by decide +kernel
theorem dX9_peek_26 : decode cX9_peek 26 = .ok (.getfield 63, 3) := by decide +kernel
theorem dX9_peek_29 : decode cX9_peek 29 = .ok (.iload_n 1, 1) := by decide +kernel
theorem dX9_peek_30 : decode cX9_peek 30 = .ok (.aaload, 1) := by decide +kernel
theorem dX9_peek_31 : decode cX9_peek 31 = .ok (.getfield 241, 3) := by decide +kernel
theorem dX9_peek_34 : decode cX9_peek 34 = .ok (.iload_n 2, 1) := by decide +kernel
theorem dX9_peek_35 : decode cX9_peek 35 = .ok (.laload, 1) := by decide +kernel
theorem dX9_peek_36 : decode cX9_peek 36 = .ok (.lreturn, 1) := by decide +kernel
set_option maxRecDepth 20000 in
theorem ggX9_shift_X9_isTape : GoodIn wsX9_shift wsX9_isTape := goodIn_r _ [12, 1, 13, 14, 11, 15, 23, 24, 25, 26, 27, 28, 29, 30, 31] (by decide +kernel) (by decide +kernel)
set_option maxRecDepth 20000 in
theorem gX9_shift_X9_isTape : GoodIn wsX9_shift (wsV RX9 232 RX9 yX9_isTape wsX9_isTape) := goodIn_app (goodIn_of _ (by decide +kernel)) ggX9_shift_X9_isTape
set_option maxRecDepth 20000 in
theorem ggX9_shift_X8_hasStretch : GoodIn wsX9_shift wsX8_hasStretch := goodIn_r _ [20, 21, 22, 32, 33, 34] (by decide +kernel) (by decide +kernel)
set_option maxRecDepth 20000 in
theorem gX9_shift_X8_hasStretch : GoodIn wsX9_shift (wsV RX9 258 RX8 yX8_hasStretch wsX8_hasStretch) := goodIn_app (goodIn_of _ (by decide +kernel)) ggX9_shift_X8_hasStretch
theorem dX9_shift_0 : decode cX9_shift 0 = .ok (.aload_n 0, 1) := by decide +kernel
theorem dX9_shift_1 : decode cX9_shift 1 = .ok (.iload_n 1, 1) := by decide +kernel
theorem dX9_shift_2 : decode cX9_shift 2 = .ok (.invokevirtual 232, 3) := by decide +kernel
theorem dX9_shift_5 : decode cX9_shift 5 = .ok (.ifCond .eq 11, 3) := by decide +kernel
theorem dX9_shift_8 : decode cX9_shift 8 = .ok (.aload_n 0, 1) := by decide +kernel
theorem dX9_shift_9 : decode cX9_shift 9 = .ok (.iload_n 3, 1) := by decide +kernel
theorem dX9_shift_10 : decode cX9_shift 10 = .ok (.invokevirtual 232, 3) := by decide +kernel
theorem dX9_shift_13 : decode cX9_shift 13 = .ok (.ifCond .ne 5, 3) := by decide +kernel
theorem dX9_shift_16 : decode cX9_shift 16 = .ok (.iconst (-1), 1) := by decide +kernel
theorem dX9_shift_17 : decode cX9_shift 17 = .ok (.ireturn, 1) := by decide +kernel
theorem dX9_shift_18 : decode cX9_shift 18 = .ok (.aload_n 0, 1) := by decide +kernel
theorem dX9_shift_19 : decode cX9_shift 19 = .ok (.getfield 63, 3) := by decide +kernel
theorem dX9_shift_22 : decode cX9_shift 22 = .ok (.iload_n 1, 1) := by decide +kernel
theorem dX9_shift_23 : decode cX9_shift 23 = .ok (.aaload, 1) := by decide +kernel
theorem dX9_shift_24 : decode cX9_shift 24 = .ok (.astore 6, 2) := by decide +kernel
theorem dX9_shift_26 : decode cX9_shift 26 = .ok (.aload_n 0, 1) := by decide +kernel
theorem dX9_shift_27 : decode cX9_shift 27 = .ok (.getfield 63, 3) := by decide +kernel
theorem dX9_shift_30 : decode cX9_shift 30 = .ok (.iload_n 3, 1) := by decide +kernel
theorem dX9_shift_31 : decode cX9_shift 31 = .ok (.aaload, 1) := by decide +kernel
theorem dX9_shift_32 : decode cX9_shift 32 = .ok (.astore 7, 2) := by decide +kernel
theorem dX9_shift_34 : decode cX9_shift 34 = .ok (.aload 6, 2) := by decide +kernel
theorem dX9_shift_36 : decode cX9_shift 36 = .ok (.getfield 235, 3) := by decide +kernel
theorem dX9_shift_39 : decode cX9_shift 39 = .ok (.iconst (-1), 1) := by decide +kernel
theorem dX9_shift_40 : decode cX9_shift 40 = .ok (.if_icmp .eq 12, 3) := by decide +kernel
theorem dX9_shift_43 : decode cX9_shift 43 = .ok (.aload 7, 2) := by decide +kernel
theorem dX9_shift_45 : decode cX9_shift 45 = .ok (.getfield 235, 3) := by decide +kernel
theorem dX9_shift_48 : decode cX9_shift 48 = .ok (.iconst (-1), 1) := by decide +kernel
theorem dX9_shift_49 : decode cX9_shift 49 = .ok (.if_icmp .ne 6, 3) := by decide +kernel
theorem dX9_shift_52 : decode cX9_shift 52 = .ok (.bipush (-11), 2) := by decide +kernel
theorem dX9_shift_54 : decode cX9_shift 54 = .ok (.ireturn, 1) := by decide +kernel
theorem dX9_shift_55 : decode cX9_shift 55 = .ok (.aload 6, 2) := by decide +kernel
theorem dX9_shift_57 : decode cX9_shift 57 = .ok (.getfield 235, 3) := by decide +kernel
theorem dX9_shift_60 : decode cX9_shift 60 = .ok (.aload 7, 2) := by decide +kernel
theorem dX9_shift_62 : decode cX9_shift 62 = .ok (.getfield 235, 3) := by decide +kernel
theorem dX9_shift_65 : decode cX9_shift 65 = .ok (.if_icmp .eq 6, 3) := by decide +kernel
theorem dX9_shift_68 : decode cX9_shift 68 = .ok (.bipush (-12), 2) := by decide +kernel
theorem dX9_shift_70 : decode cX9_shift 70 = .ok (.ireturn, 1) := by decide +kernel
theorem dX9_shift_71 : decode cX9_shift 71 = .ok (.aload 6, 2) := by decide +kernel
theorem dX9_shift_73 : decode cX9_shift 73 = .ok (.iload_n 2, 1) := by decide +kernel
theorem dX9_shift_74 : decode cX9_shift 74 = .ok (.iload 5, 2) := by decide +kernel
theorem dX9_shift_76 : decode cX9_shift 76 = .ok (.invokevirtual 258, 3) := by decide +kernel
theorem dX9_shift_79 : decode cX9_shift 79 = .ok (.ifCond .eq 15, 3) := by decide +kernel
theorem dX9_shift_82 : decode cX9_shift 82 = .ok (.aload 7, 2) := by decide +kernel
theorem dX9_shift_84 : decode cX9_shift 84 = .ok (.iload 4, 2) := by decide +kernel
theorem dX9_shift_86 : decode cX9_shift 86 = .ok (.iload 5, 2) := by decide +kernel
theorem dX9_shift_88 : decode cX9_shift 88 = .ok (.invokevirtual 258, 3) := by decide +kernel
theorem dX9_shift_91 : decode cX9_shift 91 = .ok (.ifCond .ne 6, 3) := by decide +kernel
theorem dX9_shift_94 : decode cX9_shift 94 = .ok (.bipush (-13), 2) := by decide +kernel
theorem dX9_shift_96 : decode cX9_shift 96 = .ok (.ireturn, 1) := by decide +kernel
theorem dX9_shift_97 : decode cX9_shift 97 = .ok (.aload 6, 2) := by decide +kernel
theorem dX9_shift_99 : decode cX9_shift 99 = .ok (.getfield 241, 3) := by decide +kernel
theorem dX9_shift_102 : decode cX9_shift 102 = .ok (.iload_n 2, 1) := by decide +kernel
theorem dX9_shift_103 : decode cX9_shift 103 = .ok (.aload 7, 2) := by decide +kernel
theorem dX9_shift_105 : decode cX9_shift 105 = .ok (.getfield 241, 3) := by decide +kernel
theorem dX9_shift_108 : decode cX9_shift 108 = .ok (.iload 4, 2) := by decide +kernel
theorem dX9_shift_110 : decode cX9_shift 110 = .ok (.iload 5, 2) := by decide +kernel
theorem dX9_shift_112 : decode cX9_shift 112 = .ok (.invokestatic 262, 3) := by decide +kernel
theorem dX9_shift_115 : decode cX9_shift 115 = .ok (.iload 5, 2) := by decide +kernel
theorem dX9_shift_117 : decode cX9_shift 117 = .ok (.ireturn, 1) := by decide +kernel
theorem dX9_between_0 : decode cX9_between 0 = .ok (.iload_n 0, 1) := by decide +kernel
theorem dX9_between_1 : decode cX9_between 1 = .ok (.iload_n 1, 1) := by decide +kernel
theorem dX9_between_2 : decode cX9_between 2 = .ok (.if_icmp .lt 12, 3) := by decide +kernel
theorem dX9_between_5 : decode cX9_between 5 = .ok (.iload_n 0, 1) := by decide +kernel
theorem dX9_between_6 : decode cX9_between 6 = .ok (.iload_n 2, 1) := by decide +kernel
theorem dX9_between_7 : decode cX9_between 7 = .ok (.if_icmp .gt 7, 3) := by decide +kernel
theorem dX9_between_10 : decode cX9_between 10 = .ok (.iconst 1, 1) := by decide +kernel
theorem dX9_between_11 : decode cX9_between 11 = .ok (.goto 4, 3) := by decide +kernel
theorem dX9_between_14 : decode cX9_between 14 = .ok (.iconst 0, 1) := by decide +kernel
theorem dX9_between_15 : decode cX9_between 15 = .ok (.ireturn, 1) := by decide +kernel
set_option maxRecDepth 20000 in
theorem ggX9_isTape_X9_between : GoodIn wsX9_isTape wsX9_between := goodIn_r _ [5] (by decide +kernel) (by decide +kernel)
set_option maxRecDepth 20000 in
theorem gX9_isTape_X9_between : GoodIn wsX9_isTape (va_wsS RX9 79 yX9_between wsX9_between) := goodIn_app (goodIn_of _ (by decide +kernel)) ggX9_isTape_X9_between
theorem dX9_isTape_0 : decode cX9_isTape 0 = .ok (.iload_n 1, 1) := by decide +kernel
theorem dX9_isTape_1 : decode cX9_isTape 1 = .ok (.iconst 0, 1) := by decide +kernel
theorem dX9_isTape_2 : decode cX9_isTape 2 = .ok (.aload_n 0, 1) := by decide +kernel
theorem dX9_isTape_3 : decode cX9_isTape 3 = .ok (.getfield 63, 3) := by decide +kernel
theorem dX9_isTape_6 : decode cX9_isTape 6 = .ok (.arraylength, 1) := by decide +kernel
theorem dX9_isTape_7 : decode cX9_isTape 7 = .ok (.iconst 1, 1) := by decide +kernel
theorem dX9_isTape_8 : decode cX9_isTape 8 = .ok (.isub, 1) := by decide +kernel
theorem dX9_isTape_9 : decode cX9_isTape 9 = .ok (.invokestatic 79, 3) := by decide +kernel
theorem dX9_isTape_12 : decode cX9_isTape 12 = .ok (.ireturn, 1) := by decide +kernel
set_option maxRecDepth 20000 in
theorem ggX9_exchangeNumber_X9_between : GoodIn wsX9_exchangeNumber wsX9_between := goodIn_r _ [4] (by decide +kernel) (by decide +kernel)
set_option maxRecDepth 20000 in
theorem gX9_exchangeNumber_X9_between : GoodIn wsX9_exchangeNumber (va_wsS RX9 79 yX9_between wsX9_between) := goodIn_app (goodIn_of _ (by decide +kernel)) ggX9_exchangeNumber_X9_between
theorem dX9_exchangeNumber_0 : decode cX9_exchangeNumber 0 = .ok (.iload_n 1, 1) := by decide +kernel
theorem dX9_exchangeNumber_1 : decode cX9_exchangeNumber 1 = .ok (.iconst 0, 1) := by decide +kernel
theorem dX9_exchangeNumber_2 : decode cX9_exchangeNumber 2 = .ok (.aload_n 0, 1) := by decide +kernel
theorem dX9_exchangeNumber_3 : decode cX9_exchangeNumber 3 = .ok (.arraylength, 1) := by decide +kernel
theorem dX9_exchangeNumber_4 : decode cX9_exchangeNumber 4 = .ok (.iconst 1, 1) := by decide +kernel
theorem dX9_exchangeNumber_5 : decode cX9_exchangeNumber 5 = .ok (.isub, 1) := by decide +kernel
theorem dX9_exchangeNumber_6 : decode cX9_exchangeNumber 6 = .ok (.invokestatic 79, 3) := by decide +kernel
theorem dX9_exchangeNumber_9 : decode cX9_exchangeNumber 9 = .ok (.ifCond .ne 5, 3) := by decide +kernel
theorem dX9_exchangeNumber_12 : decode cX9_exchangeNumber 12 = .ok (.iconst (-1), 1) := by decide +kernel
theorem dX9_exchangeNumber_13 : decode cX9_exchangeNumber 13 = .ok (.ireturn, 1) := by decide +kernel
theorem dX9_exchangeNumber_14 : decode cX9_exchangeNumber 14 = .ok (.iload_n 2, 1) := by decide +kernel
theorem dX9_exchangeNumber_15 : decode cX9_exchangeNumber 15 = .ok (.iconst 0, 1) := by decide +kernel
theorem dX9_exchangeNumber_16 : decode cX9_exchangeNumber 16 = .ok (.iload_n 3, 1) := by decide +kernel
theorem dX9_exchangeNumber_17 : decode cX9_exchangeNumber 17 = .ok (.invokestatic 79, 3) := by decide +kernel
theorem dX9_exchangeNumber_20 : decode cX9_exchangeNumber 20 = .ok (.ifCond .ne 6, 3) := by decide +kernel
theorem dX9_exchangeNumber_23 : decode cX9_exchangeNumber 23 = .ok (.bipush (-2), 2) := by decide +kernel
theorem dX9_exchangeNumber_25 : decode cX9_exchangeNumber 25 = .ok (.ireturn, 1) := by decide +kernel
theorem dX9_exchangeNumber_26 : decode cX9_exchangeNumber 26 = .ok (.aload_n 0, 1) := by decide +kernel
theorem dX9_exchangeNumber_27 : decode cX9_exchangeNumber 27 = .ok (.iload_n 1, 1) := by decide +kernel
theorem dX9_exchangeNumber_28 : decode cX9_exchangeNumber 28 = .ok (.iaload, 1) := by decide +kernel
theorem dX9_exchangeNumber_29 : decode cX9_exchangeNumber 29 = .ok (.istore 4, 2) := by decide +kernel
theorem dX9_exchangeNumber_31 : decode cX9_exchangeNumber 31 = .ok (.aload_n 0, 1) := by decide +kernel
theorem dX9_exchangeNumber_32 : decode cX9_exchangeNumber 32 = .ok (.iload_n 1, 1) := by decide +kernel
theorem dX9_exchangeNumber_33 : decode cX9_exchangeNumber 33 = .ok (.iload_n 2, 1) := by decide +kernel
theorem dX9_exchangeNumber_34 : decode cX9_exchangeNumber 34 = .ok (.iastore, 1) := by decide +kernel
theorem dX9_exchangeNumber_35 : decode cX9_exchangeNumber 35 = .ok (.iload 4, 2) := by decide +kernel
theorem dX9_exchangeNumber_37 : decode cX9_exchangeNumber 37 = .ok (.ireturn, 1) := by decide +kernel
set_option maxRecDepth 20000 in
theorem ggX9_tellByHand_X9_between : GoodIn wsX9_tellByHand wsX9_between := goodIn_r _ [5] (by decide +kernel) (by decide +kernel)
set_option maxRecDepth 20000 in
theorem gX9_tellByHand_X9_between : GoodIn wsX9_tellByHand (va_wsS RX9 79 yX9_between wsX9_between) := goodIn_app (goodIn_of _ (by decide +kernel)) ggX9_tellByHand_X9_between
set_option maxRecDepth 20000 in
theorem ggX9_tellByHand_X4_addRow : GoodIn wsX9_tellByHand wsX4_addRow := goodIn_r _ [10, 11, 12, 13, 14, 15, 16, 17, 18] (by decide +kernel) (by decide +kernel)
set_option maxRecDepth 20000 in
theorem gX9_tellByHand_X4_addRow : GoodIn wsX9_tellByHand (wsV RX9 215 RX4 yX4_addRow wsX4_addRow) := goodIn_app (goodIn_of _ (by decide +kernel)) ggX9_tellByHand_X4_addRow
theorem dX9_tellByHand_0 : decode cX9_tellByHand 0 = .ok (.iload_n 1, 1) := by decide +kernel
theorem dX9_tellByHand_1 : decode cX9_tellByHand 1 = .ok (.iconst (-1), 1) := by decide +kernel
theorem dX9_tellByHand_2 : decode cX9_tellByHand 2 = .ok (.if_icmp .ne 10, 3) := by decide +kernel
theorem dX9_tellByHand_5 : decode cX9_tellByHand 5 = .ok (.aload_n 0, 1) := by decide +kernel
theorem dX9_tellByHand_6 : decode cX9_tellByHand 6 = .ok (.iconst 0, 1) := by decide +kernel
theorem dX9_tellByHand_7 : decode cX9_tellByHand 7 = .ok (.putfield 214, 3) := by decide +kernel
theorem dX9_tellByHand_10 : decode cX9_tellByHand 10 = .ok (.iconst 0, 1) := by decide +kernel
theorem dX9_tellByHand_11 : decode cX9_tellByHand 11 = .ok (.ireturn, 1) := by decide +kernel
theorem dX9_tellByHand_12 : decode cX9_tellByHand 12 = .ok (.iload_n 1, 1) := by decide +kernel
theorem dX9_tellByHand_13 : decode cX9_tellByHand 13 = .ok (.iconst 0, 1) := by decide +kernel
theorem dX9_tellByHand_14 : decode cX9_tellByHand 14 = .ok (.bipush 29, 2) := by decide +kernel
theorem dX9_tellByHand_16 : decode cX9_tellByHand 16 = .ok (.invokestatic 79, 3) := by decide +kernel
theorem dX9_tellByHand_19 : decode cX9_tellByHand 19 = .ok (.ifCond .ne 5, 3) := by decide +kernel
theorem dX9_tellByHand_22 : decode cX9_tellByHand 22 = .ok (.iconst (-1), 1) := by decide +kernel
theorem dX9_tellByHand_23 : decode cX9_tellByHand 23 = .ok (.ireturn, 1) := by decide +kernel
theorem dX9_tellByHand_24 : decode cX9_tellByHand 24 = .ok (.iload_n 2, 1) := by decide +kernel
theorem dX9_tellByHand_25 : decode cX9_tellByHand 25 = .ok (.iconst 0, 1) := by decide +kernel
theorem dX9_tellByHand_26 : decode cX9_tellByHand 26 = .ok (.sipush 9999, 3) := by decide +kernel
theorem dX9_tellByHand_29 : decode cX9_tellByHand 29 = .ok (.invokestatic 79, 3) := by decide +kernel
theorem dX9_tellByHand_32 : decode cX9_tellByHand 32 = .ok (.ifCond .ne 6, 3) := by decide +kernel
theorem dX9_tellByHand_35 : decode cX9_tellByHand 35 = .ok (.bipush (-2), 2) := by decide +kernel
theorem dX9_tellByHand_37 : decode cX9_tellByHand 37 = .ok (.ireturn, 1) := by decide +kernel
theorem dX9_tellByHand_38 : decode cX9_tellByHand 38 = .ok (.aload_n 0, 1) := by decide +kernel
theorem dX9_tellByHand_39 : decode cX9_tellByHand 39 = .ok (.iload_n 1, 1) := by decide +kernel
theorem dX9_tellByHand_40 : decode cX9_tellByHand 40 = .ok (.iload_n 2, 1) := by decide +kernel
theorem dX9_tellByHand_41 : decode cX9_tellByHand 41 = .ok (.invokevirtual 215, 3) := by decide +kernel
theorem dX9_tellByHand_44 : decode cX9_tellByHand 44 = .ok (.ireturn, 1) := by decide +kernel
set_option maxRecDepth 20000 in
theorem ggX9_numbersOf_X1_join : GoodIn wsX9_numbersOf wsX1_join := goodIn_r _ [11, 12, 13, 14, 15, 16, 17, 18, 19, 20, 21, 22, 23, 10, 24, 25, 26, 27, 28, 29, 30, 31, 32, 33, 34, 35, 36, 37, 38, 39, 40, 41, 42, 43, 44, 45, 46, 47, 48, 49, 50, 51, 52, 70, 71, 72, 67, 68, 69, 73, 74, 75, 76] (by decide +kernel) (by decide +kernel)
set_option maxRecDepth 20000 in
theorem gX9_numbersOf_X1_join : GoodIn wsX9_numbersOf (wsV RX9 193 RX1 yX1_join wsX1_join) := goodIn_app (goodIn_of _ (by decide +kernel)) ggX9_numbersOf_X1_join
theorem dX9_numbersOf_0 : decode cX9_numbersOf 0 = .ok (.iload_n 1, 1) := by decide +kernel
theorem dX9_numbersOf_1 : decode cX9_numbersOf 1 = .ok (.tableswitch 68 0 2 #[27, 38, 46], 27) := by decide +kernel
theorem dX9_numbersOf_28 : decode cX9_numbersOf 28 = .ok (.aload_n 0, 1) := by decide +kernel
theorem dX9_numbersOf_29 : decode cX9_numbersOf 29 = .ok (.getfield 12, 3) := by decide +kernel
theorem dX9_numbersOf_32 : decode cX9_numbersOf 32 = .ok (.getfield 67, 3) := by decide +kernel
theorem dX9_numbersOf_35 : decode cX9_numbersOf 35 = .ok (.getfield 70, 3) := by decide +kernel
theorem dX9_numbersOf_38 : decode cX9_numbersOf 38 = .ok (.areturn, 1) := by decide +kernel
theorem dX9_numbersOf_39 : decode cX9_numbersOf 39 = .ok (.aload_n 0, 1) := by decide +kernel
theorem dX9_numbersOf_40 : decode cX9_numbersOf 40 = .ok (.getfield 12, 3) := by decide +kernel
theorem dX9_numbersOf_43 : decode cX9_numbersOf 43 = .ok (.getfield 107, 3) := by decide +kernel
theorem dX9_numbersOf_46 : decode cX9_numbersOf 46 = .ok (.areturn, 1) := by decide +kernel
theorem dX9_numbersOf_47 : decode cX9_numbersOf 47 = .ok (.aload_n 0, 1) := by decide +kernel
theorem dX9_numbersOf_48 : decode cX9_numbersOf 48 = .ok (.getfield 35, 3) := by decide +kernel
theorem dX9_numbersOf_51 : decode cX9_numbersOf 51 = .ok (.aload_n 0, 1) := by decide +kernel
theorem dX9_numbersOf_52 : decode cX9_numbersOf 52 = .ok (.getfield 12, 3) := by decide +kernel
theorem dX9_numbersOf_55 : decode cX9_numbersOf 55 = .ok (.getfield 67, 3) := by decide +kernel
theorem dX9_numbersOf_58 : decode cX9_numbersOf 58 = .ok (.invokevirtual 193, 3) := by decide +kernel
theorem dX9_numbersOf_61 : decode cX9_numbersOf 61 = .ok (.aload_n 0, 1) := by decide +kernel
theorem dX9_numbersOf_62 : decode cX9_numbersOf 62 = .ok (.getfield 35, 3) := by decide +kernel
theorem dX9_numbersOf_65 : decode cX9_numbersOf 65 = .ok (.getfield 196, 3) := by decide +kernel
theorem dX9_numbersOf_68 : decode cX9_numbersOf 68 = .ok (.areturn, 1) := by decide +kernel
theorem dX9_numbersOf_69 : decode cX9_numbersOf 69 = .ok (.aconst_null, 1) := by decide +kernel
theorem dX9_numbersOf_70 : decode cX9_numbersOf 70 = .ok (.areturn, 1) := by decide +kernel
set_option maxRecDepth 20000 in
theorem ggX9_outOf_X6_has : GoodIn wsX9_outOf wsX6_has := goodIn_r _ [11, 12, 13, 65, 66, 67] (by decide +kernel) (by decide +kernel)
set_option maxRecDepth 20000 in
theorem gX9_outOf_X6_has : GoodIn wsX9_outOf (wsV RX9 97 RX6 yX6_has wsX6_has) := goodIn_app (goodIn_of _ (by decide +kernel)) ggX9_outOf_X6_has
set_option maxRecDepth 20000 in
theorem ggX9_outOf_X1_runOff : GoodIn wsX9_outOf wsX1_runOff := goodIn_r _ [18, 19, 20, 21, 22, 23, 24, 25, 26, 27, 28, 29, 30, 31, 32, 33, 34, 35, 36, 37, 38, 39, 40, 41, 42, 43, 44, 45, 46, 47, 48, 49, 50, 68, 69, 70, 71, 72, 73, 74] (by decide +kernel) (by decide +kernel)
set_option maxRecDepth 20000 in
theorem gX9_outOf_X1_runOff : GoodIn wsX9_outOf (wsV RX9 143 RX1 yX1_runOff wsX1_runOff) := goodIn_app (goodIn_of _ (by decide +kernel)) ggX9_outOf_X1_runOff
theorem dX9_outOf_0 : decode cX9_outOf 0 = .ok (.aload_n 0, 1) := by decide +kernel
theorem dX9_outOf_1 : decode cX9_outOf 1 = .ok (.getfield 12, 3) := by decide +kernel
theorem dX9_outOf_4 : decode cX9_outOf 4 = .ok (.getfield 67, 3) := by decide +kernel
theorem dX9_outOf_7 : decode cX9_outOf 7 = .ok (.iload_n 1, 1) := by decide +kernel
theorem dX9_outOf_8 : decode cX9_outOf 8 = .ok (.invokevirtual 97, 3) := by decide +kernel
theorem dX9_outOf_11 : decode cX9_outOf 11 = .ok (.ifCond .ne 5, 3) := by decide +kernel
theorem dX9_outOf_14 : decode cX9_outOf 14 = .ok (.aconst_null, 1) := by decide +kernel
theorem dX9_outOf_15 : decode cX9_outOf 15 = .ok (.areturn, 1) := by decide +kernel
theorem dX9_outOf_16 : decode cX9_outOf 16 = .ok (.aload_n 0, 1) := by decide +kernel
theorem dX9_outOf_17 : decode cX9_outOf 17 = .ok (.getfield 35, 3) := by decide +kernel
theorem dX9_outOf_20 : decode cX9_outOf 20 = .ok (.aload_n 0, 1) := by decide +kernel
theorem dX9_outOf_21 : decode cX9_outOf 21 = .ok (.getfield 12, 3) := by decide +kernel
theorem dX9_outOf_24 : decode cX9_outOf 24 = .ok (.getfield 67, 3) := by decide +kernel
theorem dX9_outOf_27 : decode cX9_outOf 27 = .ok (.getfield 87, 3) := by decide +kernel
theorem dX9_outOf_30 : decode cX9_outOf 30 = .ok (.iload_n 1, 1) := by decide +kernel
theorem dX9_outOf_31 : decode cX9_outOf 31 = .ok (.aaload, 1) := by decide +kernel
theorem dX9_outOf_32 : decode cX9_outOf 32 = .ok (.aload_n 0, 1) := by decide +kernel
theorem dX9_outOf_33 : decode cX9_outOf 33 = .ok (.getfield 12, 3) := by decide +kernel
theorem dX9_outOf_36 : decode cX9_outOf 36 = .ok (.getfield 67, 3) := by decide +kernel
theorem dX9_outOf_39 : decode cX9_outOf 39 = .ok (.getfield 70, 3) := by decide +kernel
theorem dX9_outOf_42 : decode cX9_outOf 42 = .ok (.invokevirtual 143, 3) := by decide +kernel
theorem dX9_outOf_45 : decode cX9_outOf 45 = .ok (.pop, 1) := by decide +kernel
theorem dX9_outOf_46 : decode cX9_outOf 46 = .ok (.aload_n 0, 1) := by decide +kernel
theorem dX9_outOf_47 : decode cX9_outOf 47 = .ok (.getfield 35, 3) := by decide +kernel
theorem dX9_outOf_50 : decode cX9_outOf 50 = .ok (.getfield 152, 3) := by decide +kernel
theorem dX9_outOf_53 : decode cX9_outOf 53 = .ok (.areturn, 1) := by decide +kernel
theorem dX9_measure_0 : decode cX9_measure 0 = .ok (.iconst 0, 1) := by decide +kernel
theorem dX9_measure_1 : decode cX9_measure 1 = .ok (.istore_n 2, 1) := by decide +kernel
theorem dX9_measure_2 : decode cX9_measure 2 = .ok (.iconst 0, 1) := by decide +kernel
theorem dX9_measure_3 : decode cX9_measure 3 = .ok (.istore_n 3, 1) := by decide +kernel
theorem dX9_measure_4 : decode cX9_measure 4 = .ok (.iconst 0, 1) := by decide +kernel
theorem dX9_measure_5 : decode cX9_measure 5 = .ok (.istore 4, 2) := by decide +kernel
theorem dX9_measure_7 : decode cX9_measure 7 = .ok (.iconst 0, 1) := by decide +kernel
theorem dX9_measure_8 : decode cX9_measure 8 = .ok (.istore 5, 2) := by decide +kernel
theorem dX9_measure_10 : decode cX9_measure 10 = .ok (.iload 5, 2) := by decide +kernel
theorem dX9_measure_12 : decode cX9_measure 12 = .ok (.aload_n 0, 1) := by decide +kernel
theorem dX9_measure_13 : decode cX9_measure 13 = .ok (.arraylength, 1) := by decide +kernel
theorem dX9_measure_14 : decode cX9_measure 14 = .ok (.if_icmp .ge 33, 3) := by decide +kernel
theorem dX9_measure_17 : decode cX9_measure 17 = .ok (.iload_n 2, 1) := by decide +kernel
theorem dX9_measure_18 : decode cX9_measure 18 = .ok (.aload_n 0, 1) := by decide +kernel
theorem dX9_measure_19 : decode cX9_measure 19 = .ok (.iload 5, 2) := by decide +kernel
theorem dX9_measure_21 : decode cX9_measure 21 = .ok (.iaload, 1) := by decide +kernel
theorem dX9_measure_22 : decode cX9_measure 22 = .ok (.iadd, 1) := by decide +kernel
theorem dX9_measure_23 : decode cX9_measure 23 = .ok (.istore_n 2, 1) := by decide +kernel
theorem dX9_measure_24 : decode cX9_measure 24 = .ok (.aload_n 0, 1) := by decide +kernel
theorem dX9_measure_25 : decode cX9_measure 25 = .ok (.iload 5, 2) := by decide +kernel
theorem dX9_measure_27 : decode cX9_measure 27 = .ok (.iaload, 1) := by decide +kernel
theorem dX9_measure_28 : decode cX9_measure 28 = .ok (.iload_n 3, 1) := by decide +kernel
theorem dX9_measure_29 : decode cX9_measure 29 = .ok (.if_icmp .le 12, 3) := by decide +kernel
theorem dX9_measure_32 : decode cX9_measure 32 = .ok (.aload_n 0, 1) := by decide +kernel
theorem dX9_measure_33 : decode cX9_measure 33 = .ok (.iload 5, 2) := by decide +kernel
theorem dX9_measure_35 : decode cX9_measure 35 = .ok (.iaload, 1) := by decide +kernel
theorem dX9_measure_36 : decode cX9_measure 36 = .ok (.istore_n 3, 1) := by decide +kernel
theorem dX9_measure_37 : decode cX9_measure 37 = .ok (.iload 5, 2) := by decide +kernel
theorem dX9_measure_39 : decode cX9_measure 39 = .ok (.istore 4, 2) := by decide +kernel
theorem dX9_measure_41 : decode cX9_measure 41 = .ok (.iinc 5 1, 3) := by decide +kernel
theorem dX9_measure_44 : decode cX9_measure 44 = .ok (.goto (-34), 3) := by decide +kernel
theorem dX9_measure_47 : decode cX9_measure 47 = .ok (.iload_n 1, 1) := by decide +kernel
theorem dX9_measure_48 : decode cX9_measure 48 = .ok (.lookupswitch 32 #[(0, 28), (1, 30)], 28) := by decide +kernel
theorem dX9_measure_76 : decode cX9_measure 76 = .ok (.iload_n 2, 1) := by decide +kernel
theorem dX9_measure_77 : decode cX9_measure 77 = .ok (.ireturn, 1) := by decide +kernel
theorem dX9_measure_78 : decode cX9_measure 78 = .ok (.iload_n 3, 1) := by decide +kernel
theorem dX9_measure_79 : decode cX9_measure 79 = .ok (.ireturn, 1) := by decide +kernel
theorem dX9_measure_80 : decode cX9_measure 80 = .ok (.iload 4, 2) := by decide +kernel
theorem dX9_measure_82 : decode cX9_measure 82 = .ok (.ireturn, 1) := by decide +kernel
set_option maxRecDepth 20000 in
theorem ggX9_inLowestTerms_X9_between : GoodIn wsX9_inLowestTerms wsX9_between := goodIn_r _ [5] (by decide +kernel) (by decide +kernel)
set_option maxRecDepth 20000 in
theorem gX9_inLowestTerms_X9_between : GoodIn wsX9_inLowestTerms (va_wsS RX9 79 yX9_between wsX9_between) := goodIn_app (goodIn_of _ (by decide +kernel)) ggX9_inLowestTerms_X9_between
set_option maxRecDepth 20000 in
theorem ggX9_inLowestTerms_X9_greatestDivisor : GoodIn wsX9_inLowestTerms wsX9_greatestDivisor := goodIn_r _ [8, 9, 10, 11, 12] (by decide +kernel) (by decide +kernel)
set_option maxRecDepth 20000 in
theorem gX9_inLowestTerms_X9_greatestDivisor : GoodIn wsX9_inLowestTerms (va_wsS RX9 268 yX9_greatestDivisor wsX9_greatestDivisor) := goodIn_app (goodIn_of _ (by decide +kernel)) ggX9_inLowestTerms_X9_greatestDivisor
theorem dX9_inLowestTerms_0 : decode cX9_inLowestTerms 0 = .ok (.iload_n 0, 1) := by decide +kernel
theorem dX9_inLowestTerms_1 : decode cX9_inLowestTerms 1 = .ok (.ifCond .lt 16, 3) := by decide +kernel
theorem dX9_inLowestTerms_4 : decode cX9_inLowestTerms 4 = .ok (.iload_n 1, 1) := by decide +kernel
theorem dX9_inLowestTerms_5 : decode cX9_inLowestTerms 5 = .ok (.ifCond .le 12, 3) := by decide +kernel
theorem dX9_inLowestTerms_8 : decode cX9_inLowestTerms 8 = .ok (.iload_n 2, 1) := by decide +kernel
theorem dX9_inLowestTerms_9 : decode cX9_inLowestTerms 9 = .ok (.iconst 0, 1) := by decide +kernel
theorem dX9_inLowestTerms_10 : decode cX9_inLowestTerms 10 = .ok (.iconst 1, 1) := by decide +kernel
theorem dX9_inLowestTerms_11 : decode cX9_inLowestTerms 11 = .ok (.invokestatic 79, 3) := by decide +kernel
theorem dX9_inLowestTerms_14 : decode cX9_inLowestTerms 14 = .ok (.ifCond .ne 7, 3) := by decide +kernel
theorem dX9_inLowestTerms_17 : decode cX9_inLowestTerms 17 = .ok (.ldc2_w 205, 3) := by decide +kernel
theorem dX9_inLowestTerms_20 : decode cX9_inLowestTerms 20 = .ok (.lreturn, 1) := by decide +kernel
theorem dX9_inLowestTerms_21 : decode cX9_inLowestTerms 21 = .ok (.iload_n 0, 1) := by decide +kernel
theorem dX9_inLowestTerms_22 : decode cX9_inLowestTerms 22 = .ok (.iload_n 1, 1) := by decide +kernel
theorem dX9_inLowestTerms_23 : decode cX9_inLowestTerms 23 = .ok (.invokestatic 268, 3) := by decide +kernel
theorem dX9_inLowestTerms_26 : decode cX9_inLowestTerms 26 = .ok (.istore_n 3, 1) := by decide +kernel
theorem dX9_inLowestTerms_27 : decode cX9_inLowestTerms 27 = .ok (.iload_n 2, 1) := by decide +kernel
theorem dX9_inLowestTerms_28 : decode cX9_inLowestTerms 28 = .ok (.ifCond .ne 7, 3) := by decide +kernel
theorem dX9_inLowestTerms_31 : decode cX9_inLowestTerms 31 = .ok (.iload_n 0, 1) := by decide +kernel
theorem dX9_inLowestTerms_32 : decode cX9_inLowestTerms 32 = .ok (.goto 4, 3) := by decide +kernel
theorem dX9_inLowestTerms_35 : decode cX9_inLowestTerms 35 = .ok (.iload_n 1, 1) := by decide +kernel
theorem dX9_inLowestTerms_36 : decode cX9_inLowestTerms 36 = .ok (.iload_n 3, 1) := by decide +kernel
theorem dX9_inLowestTerms_37 : decode cX9_inLowestTerms 37 = .ok (.idiv, 1) := by decide +kernel
theorem dX9_inLowestTerms_38 : decode cX9_inLowestTerms 38 = .ok (.i2l, 1) := by decide +kernel
theorem dX9_inLowestTerms_39 : decode cX9_inLowestTerms 39 = .ok (.lreturn, 1) := by decide +kernel
theorem dX9_greatestDivisor_0 : decode cX9_greatestDivisor 0 = .ok (.iload_n 1, 1) := by decide +kernel
theorem dX9_greatestDivisor_1 : decode cX9_greatestDivisor 1 = .ok (.istore_n 2, 1) := by decide +kernel
theorem dX9_greatestDivisor_2 : decode cX9_greatestDivisor 2 = .ok (.iload_n 0, 1) := by decide +kernel
theorem dX9_greatestDivisor_3 : decode cX9_greatestDivisor 3 = .ok (.istore_n 3, 1) := by decide +kernel
theorem dX9_greatestDivisor_4 : decode cX9_greatestDivisor 4 = .ok (.iconst 0, 1) := by decide +kernel
theorem dX9_greatestDivisor_5 : decode cX9_greatestDivisor 5 = .ok (.istore 4, 2) := by decide +kernel
theorem dX9_greatestDivisor_7 : decode cX9_greatestDivisor 7 = .ok (.iload 4, 2) := by decide +kernel
theorem dX9_greatestDivisor_9 : decode cX9_greatestDivisor 9 = .ok (.bipush 100, 2) := by decide +kernel
theorem dX9_greatestDivisor_11 : decode cX9_greatestDivisor 11 = .ok (.if_icmp .ge 23, 3) := by decide +kernel
theorem dX9_greatestDivisor_14 : decode cX9_greatestDivisor 14 = .ok (.iload_n 3, 1) := by decide +kernel
theorem dX9_greatestDivisor_15 : decode cX9_greatestDivisor 15 = .ok (.ifCond .le 19, 3) := by decide +kernel
theorem dX9_greatestDivisor_18 : decode cX9_greatestDivisor 18 = .ok (.iload_n 2, 1) := by decide +kernel
theorem dX9_greatestDivisor_19 : decode cX9_greatestDivisor 19 = .ok (.iload_n 3, 1) := by decide +kernel
theorem dX9_greatestDivisor_20 : decode cX9_greatestDivisor 20 = .ok (.irem, 1) := by decide +kernel
theorem dX9_greatestDivisor_21 : decode cX9_greatestDivisor 21 = .ok (.istore 5, 2) := by decide +kernel
theorem dX9_greatestDivisor_23 : decode cX9_greatestDivisor 23 = .ok (.iload_n 3, 1) := by decide +kernel
theorem dX9_greatestDivisor_24 : decode cX9_greatestDivisor 24 = .ok (.istore_n 2, 1) := by decide +kernel
theorem dX9_greatestDivisor_25 : decode cX9_greatestDivisor 25 = .ok (.iload 5, 2) := by decide +kernel
theorem dX9_greatestDivisor_27 : decode cX9_greatestDivisor 27 = .ok (.istore_n 3, 1) := by decide +kernel
theorem dX9_greatestDivisor_28 : decode cX9_greatestDivisor 28 = .ok (.iinc 4 1, 3) := by decide +kernel
theorem dX9_greatestDivisor_31 : decode cX9_greatestDivisor 31 = .ok (.goto (-24), 3) := by decide +kernel
theorem dX9_greatestDivisor_34 : decode cX9_greatestDivisor 34 = .ok (.iload_n 2, 1) := by decide +kernel
theorem dX9_greatestDivisor_35 : decode cX9_greatestDivisor 35 = .ok (.iconst 1, 1) := by decide +kernel
theorem dX9_greatestDivisor_36 : decode cX9_greatestDivisor 36 = .ok (.invokestatic 271, 3) := by decide +kernel
theorem dX9_greatestDivisor_39 : decode cX9_greatestDivisor 39 = .ok (.ireturn, 1) := by decide +kernel
theorem dX9_copyNumbers_0 : decode cX9_copyNumbers 0 = .ok (.iconst 0, 1) := by decide +kernel
theorem dX9_copyNumbers_1 : decode cX9_copyNumbers 1 = .ok (.istore_n 2, 1) := by decide +kernel
theorem dX9_copyNumbers_2 : decode cX9_copyNumbers 2 = .ok (.iload_n 2, 1) := by decide +kernel
theorem dX9_copyNumbers_3 : decode cX9_copyNumbers 3 = .ok (.aload_n 0, 1) := by decide +kernel
theorem dX9_copyNumbers_4 : decode cX9_copyNumbers 4 = .ok (.arraylength, 1) := by decide +kernel
theorem dX9_copyNumbers_5 : decode cX9_copyNumbers 5 = .ok (.if_icmp .ge 21, 3) := by decide +kernel
theorem dX9_copyNumbers_8 : decode cX9_copyNumbers 8 = .ok (.iload_n 2, 1) := by decide +kernel
theorem dX9_copyNumbers_9 : decode cX9_copyNumbers 9 = .ok (.aload_n 1, 1) := by decide +kernel
theorem dX9_copyNumbers_10 : decode cX9_copyNumbers 10 = .ok (.arraylength, 1) := by decide +kernel
theorem dX9_copyNumbers_11 : decode cX9_copyNumbers 11 = .ok (.if_icmp .ge 15, 3) := by decide +kernel
theorem dX9_copyNumbers_14 : decode cX9_copyNumbers 14 = .ok (.aload_n 1, 1) := by decide +kernel
theorem dX9_copyNumbers_15 : decode cX9_copyNumbers 15 = .ok (.iload_n 2, 1) := by decide +kernel
theorem dX9_copyNumbers_16 : decode cX9_copyNumbers 16 = .ok (.aload_n 0, 1) := by decide +kernel
theorem dX9_copyNumbers_17 : decode cX9_copyNumbers 17 = .ok (.iload_n 2, 1) := by decide +kernel
theorem dX9_copyNumbers_18 : decode cX9_copyNumbers 18 = .ok (.iaload, 1) := by decide +kernel
theorem dX9_copyNumbers_19 : decode cX9_copyNumbers 19 = .ok (.iastore, 1) := by decide +kernel
theorem dX9_copyNumbers_20 : decode cX9_copyNumbers 20 = .ok (.iinc 2 1, 3) := by decide +kernel
theorem dX9_copyNumbers_23 : decode cX9_copyNumbers 23 = .ok (.goto (-21), 3) := by decide +kernel
theorem dX9_copyNumbers_26 : decode cX9_copyNumbers 26 = .ok (.return_, 1) := by decide +kernel
set_option maxRecDepth 20000 in
theorem ggX9_swap_X9_between : GoodIn wsX9_swap wsX9_between := goodIn_r _ [4] (by decide +kernel) (by decide +kernel)
set_option maxRecDepth 20000 in
theorem gX9_swap_X9_between : GoodIn wsX9_swap (va_wsS RX9 79 yX9_between wsX9_between) := goodIn_app (goodIn_of _ (by decide +kernel)) ggX9_swap_X9_between
theorem dX9_swap_0 : decode cX9_swap 0 = .ok (.iload_n 1, 1) := by decide +kernel
theorem dX9_swap_1 : decode cX9_swap 1 = .ok (.iconst 0, 1) := by decide +kernel
theorem dX9_swap_2 : decode cX9_swap 2 = .ok (.aload_n 0, 1) := by decide +kernel
theorem dX9_swap_3 : decode cX9_swap 3 = .ok (.arraylength, 1) := by decide +kernel
theorem dX9_swap_4 : decode cX9_swap 4 = .ok (.iconst 1, 1) := by decide +kernel
theorem dX9_swap_5 : decode cX9_swap 5 = .ok (.isub, 1) := by decide +kernel
theorem dX9_swap_6 : decode cX9_swap 6 = .ok (.invokestatic 79, 3) := by decide +kernel
theorem dX9_swap_9 : decode cX9_swap 9 = .ok (.ifCond .eq 29, 3) := by decide +kernel
theorem dX9_swap_12 : decode cX9_swap 12 = .ok (.iload_n 2, 1) := by decide +kernel
theorem dX9_swap_13 : decode cX9_swap 13 = .ok (.iconst 0, 1) := by decide +kernel
theorem dX9_swap_14 : decode cX9_swap 14 = .ok (.aload_n 0, 1) := by decide +kernel
theorem dX9_swap_15 : decode cX9_swap 15 = .ok (.arraylength, 1) := by decide +kernel
theorem dX9_swap_16 : decode cX9_swap 16 = .ok (.iconst 1, 1) := by decide +kernel
theorem dX9_swap_17 : decode cX9_swap 17 = .ok (.isub, 1) := by decide +kernel
theorem dX9_swap_18 : decode cX9_swap 18 = .ok (.invokestatic 79, 3) := by decide +kernel
theorem dX9_swap_21 : decode cX9_swap 21 = .ok (.ifCond .eq 17, 3) := by decide +kernel
theorem dX9_swap_24 : decode cX9_swap 24 = .ok (.aload_n 0, 1) := by decide +kernel
theorem dX9_swap_25 : decode cX9_swap 25 = .ok (.iload_n 1, 1) := by decide +kernel
theorem dX9_swap_26 : decode cX9_swap 26 = .ok (.iaload, 1) := by decide +kernel
theorem dX9_swap_27 : decode cX9_swap 27 = .ok (.istore_n 3, 1) := by decide +kernel
theorem dX9_swap_28 : decode cX9_swap 28 = .ok (.aload_n 0, 1) := by decide +kernel
theorem dX9_swap_29 : decode cX9_swap 29 = .ok (.iload_n 1, 1) := by decide +kernel
theorem dX9_swap_30 : decode cX9_swap 30 = .ok (.aload_n 0, 1) := by decide +kernel
theorem dX9_swap_31 : decode cX9_swap 31 = .ok (.iload_n 2, 1) := by decide +kernel
theorem dX9_swap_32 : decode cX9_swap 32 = .ok (.iaload, 1) := by decide +kernel
theorem dX9_swap_33 : decode cX9_swap 33 = .ok (.iastore, 1) := by decide +kernel
theorem dX9_swap_34 : decode cX9_swap 34 = .ok (.aload_n 0, 1) := by decide +kernel
theorem dX9_swap_35 : decode cX9_swap 35 = .ok (.iload_n 2, 1) := by decide +kernel
theorem dX9_swap_36 : decode cX9_swap 36 = .ok (.iload_n 3, 1) := by decide +kernel
theorem dX9_swap_37 : decode cX9_swap 37 = .ok (.iastore, 1) := by decide +kernel
theorem dX9_swap_38 : decode cX9_swap 38 = .ok (.return_, 1) := by decide +kernel
theorem dX9_cutTo_0 : decode cX9_cutTo 0 = .ok (.iload_n 0, 1) := by decide +kernel
theorem dX9_cutTo_1 : decode cX9_cutTo 1 = .ok (.tableswitch 61 0 4 #[35, 40, 45, 61, 49], 35) := by decide +kernel
theorem dX9_cutTo_36 : decode cX9_cutTo 36 = .ok (.lload_n 1, 1) := by decide +kernel
theorem dX9_cutTo_37 : decode cX9_cutTo 37 = .ok (.l2i, 1) := by decide +kernel
theorem dX9_cutTo_38 : decode cX9_cutTo 38 = .ok (.i2b, 1) := by decide +kernel
theorem dX9_cutTo_39 : decode cX9_cutTo 39 = .ok (.i2l, 1) := by decide +kernel
theorem dX9_cutTo_40 : decode cX9_cutTo 40 = .ok (.lreturn, 1) := by decide +kernel
theorem dX9_cutTo_41 : decode cX9_cutTo 41 = .ok (.lload_n 1, 1) := by decide +kernel
theorem dX9_cutTo_42 : decode cX9_cutTo 42 = .ok (.l2i, 1) := by decide +kernel
theorem dX9_cutTo_43 : decode cX9_cutTo 43 = .ok (.i2s, 1) := by decide +kernel
theorem dX9_cutTo_44 : decode cX9_cutTo 44 = .ok (.i2l, 1) := by decide +kernel
theorem dX9_cutTo_45 : decode cX9_cutTo 45 = .ok (.lreturn, 1) := by decide +kernel
theorem dX9_cutTo_46 : decode cX9_cutTo 46 = .ok (.lload_n 1, 1) := by decide +kernel
theorem dX9_cutTo_47 : decode cX9_cutTo 47 = .ok (.l2i, 1) := by decide +kernel
theorem dX9_cutTo_48 : decode cX9_cutTo 48 = .ok (.i2l, 1) := by decide +kernel
theorem dX9_cutTo_49 : decode cX9_cutTo 49 = .ok (.lreturn, 1) := by decide +kernel
theorem dX9_cutTo_50 : decode cX9_cutTo 50 = .ok (.lload_n 1, 1) := by decide +kernel
theorem dX9_cutTo_51 : decode cX9_cutTo 51 = .ok (.lconst 0, 1) := by decide +kernel
theorem dX9_cutTo_52 : decode cX9_cutTo 52 = .ok (.lcmp, 1) := by decide +kernel
theorem dX9_cutTo_53 : decode cX9_cutTo 53 = .ok (.ifCond .eq 7, 3) := by decide +kernel
theorem dX9_cutTo_56 : decode cX9_cutTo 56 = .ok (.lconst 1, 1) := by decide +kernel
theorem dX9_cutTo_57 : decode cX9_cutTo 57 = .ok (.goto 4, 3) := by decide +kernel
theorem dX9_cutTo_60 : decode cX9_cutTo 60 = .ok (.lconst 0, 1) := by decide +kernel
theorem dX9_cutTo_61 : decode cX9_cutTo 61 = .ok (.lreturn, 1) := by decide +kernel
theorem dX9_cutTo_62 : decode cX9_cutTo 62 = .ok (.lload_n 1, 1) := by decide +kernel
theorem dX9_cutTo_63 : decode cX9_cutTo 63 = .ok (.lreturn, 1) := by decide +kernel
set_option maxRecDepth 20000 in
theorem ggX9_doClauses_X5_begin : GoodIn wsX9_doClauses wsX5_begin := goodIn_r _ [6, 7, 98, 99, 100, 101, 102, 103] (by decide +kernel) (by decide +kernel)
set_option maxRecDepth 20000 in
theorem gX9_doClauses_X5_begin : GoodIn wsX9_doClauses (wsV RX9 276 RX5 yX5_begin wsX5_begin) := goodIn_app (goodIn_of _ (by decide +kernel)) ggX9_doClauses_X5_begin
set_option maxRecDepth 20000 in
theorem ggX9_doClauses_X5_readClause : GoodIn wsX9_doClauses wsX5_readClause := goodIn_r _ [11, 12, 13, 7, 14, 15, 16, 5, 17, 18, 19, 20, 21, 22, 23, 24, 25, 26, 27, 28, 29, 30, 31, 32, 33, 34, 35, 36, 37, 38, 39, 98, 99, 100, 101, 102, 103] (by decide +kernel) (by decide +kernel)
set_option maxRecDepth 20000 in
theorem gX9_doClauses_X5_readClause : GoodIn wsX9_doClauses (wsV RX9 278 RX5 yX5_readClause wsX5_readClause) := goodIn_app (goodIn_of _ (by decide +kernel)) ggX9_doClauses_X5_readClause
set_option maxRecDepth 20000 in
theorem ggX9_doClauses_X9_doClause : GoodIn wsX9_doClauses wsX9_doClause := goodIn_r _ [43, 1, 44, 45, 46, 47, 48, 49, 50, 51, 52, 5, 53, 13, 28, 54, 55, 56, 30, 57, 58, 59, 60, 61, 29, 31, 62, 63, 64, 65, 66, 67, 68, 69, 70, 71, 72, 73, 74, 75, 76, 77, 78, 79, 80, 81, 82, 83, 84, 85, 86, 87, 89, 90, 91, 92, 93, 94, 95, 96, 97, 98, 99, 100, 101, 102, 103, 104, 105, 106, 107, 108, 109, 110, 111, 112, 113, 114, 115] (by decide +kernel) (by decide +kernel)
set_option maxRecDepth 20000 in
theorem gX9_doClauses_X9_doClause : GoodIn wsX9_doClauses (wsV RX9 282 RX9 yX9_doClause wsX9_doClause) := goodIn_app (goodIn_of _ (by decide +kernel)) ggX9_doClauses_X9_doClause
set_option maxRecDepth 20000 in
theorem ggX9_doClauses_X5_stepOver : GoodIn wsX9_doClauses wsX5_stepOver := goodIn_r _ [39, 7, 14, 15, 16, 5, 17, 18, 19, 98, 99, 100, 101, 102, 103] (by decide +kernel) (by decide +kernel)
set_option maxRecDepth 20000 in
theorem gX9_doClauses_X5_stepOver : GoodIn wsX9_doClauses (wsV RX9 285 RX5 yX5_stepOver wsX5_stepOver) := goodIn_app (goodIn_of _ (by decide +kernel)) ggX9_doClauses_X5_stepOver
theorem dX9_doClauses_0 : decode cX9_doClauses 0 = .ok (.iconst 0, 1) := by decide +kernel
theorem dX9_doClauses_1 : decode cX9_doClauses 1 = .ok (.istore_n 1, 1) := by decide +kernel
theorem dX9_doClauses_2 : decode cX9_doClauses 2 = .ok (.aload_n 0, 1) := by decide +kernel
theorem dX9_doClauses_3 : decode cX9_doClauses 3 = .ok (.getfield 56, 3) := by decide +kernel
theorem dX9_doClauses_6 : decode cX9_doClauses 6 = .ok (.invokevirtual 276, 3) := by decide +kernel
theorem dX9_doClauses_9 : decode cX9_doClauses 9 = .ok (.iconst 0, 1) := by decide +kernel
theorem dX9_doClauses_10 : decode cX9_doClauses 10 = .ok (.istore_n 2, 1) := by decide +kernel
theorem dX9_doClauses_11 : decode cX9_doClauses 11 = .ok (.iload_n 2, 1) := by decide +kernel
theorem dX9_doClauses_12 : decode cX9_doClauses 12 = .ok (.bipush 12, 2) := by decide +kernel
theorem dX9_doClauses_14 : decode cX9_doClauses 14 = .ok (.if_icmp .ge 39, 3) := by decide +kernel
theorem dX9_doClauses_17 : decode cX9_doClauses 17 = .ok (.aload_n 0, 1) := by decide +kernel
theorem dX9_doClauses_18 : decode cX9_doClauses 18 = .ok (.getfield 56, 3) := by decide +kernel
theorem dX9_doClauses_21 : decode cX9_doClauses 21 = .ok (.invokevirtual 278, 3) := by decide +kernel
theorem dX9_doClauses_24 : decode cX9_doClauses 24 = .ok (.ifCond .eq 29, 3) := by decide +kernel
theorem dX9_doClauses_27 : decode cX9_doClauses 27 = .ok (.aload_n 0, 1) := by decide +kernel
theorem dX9_doClauses_28 : decode cX9_doClauses 28 = .ok (.invokevirtual 282, 3) := by decide +kernel
theorem dX9_doClauses_31 : decode cX9_doClauses 31 = .ok (.ifCond .eq 6, 3) := by decide +kernel
theorem dX9_doClauses_34 : decode cX9_doClauses 34 = .ok (.iinc 1 1, 3) := by decide +kernel
theorem dX9_doClauses_37 : decode cX9_doClauses 37 = .ok (.aload_n 0, 1) := by decide +kernel
theorem dX9_doClauses_38 : decode cX9_doClauses 38 = .ok (.getfield 56, 3) := by decide +kernel
theorem dX9_doClauses_41 : decode cX9_doClauses 41 = .ok (.bipush 59, 2) := by decide +kernel
theorem dX9_doClauses_43 : decode cX9_doClauses 43 = .ok (.invokevirtual 285, 3) := by decide +kernel
theorem dX9_doClauses_46 : decode cX9_doClauses 46 = .ok (.pop, 1) := by decide +kernel
theorem dX9_doClauses_47 : decode cX9_doClauses 47 = .ok (.iinc 2 1, 3) := by decide +kernel
theorem dX9_doClauses_50 : decode cX9_doClauses 50 = .ok (.goto (-39), 3) := by decide +kernel
theorem dX9_doClauses_53 : decode cX9_doClauses 53 = .ok (.iload_n 1, 1) := by decide +kernel
theorem dX9_doClauses_54 : decode cX9_doClauses 54 = .ok (.ireturn, 1) := by decide +kernel
set_option maxRecDepth 20000 in
theorem ggX9_doClause_X5_digitsTogether : GoodIn wsX9_doClause wsX5_digitsTogether := goodIn_r _ [12, 13, 14, 61, 62, 63, 64, 65, 66] (by decide +kernel) (by decide +kernel)
set_option maxRecDepth 20000 in
theorem gX9_doClause_X5_digitsTogether : GoodIn wsX9_doClause (wsV RX9 295 RX5 yX5_digitsTogether wsX5_digitsTogether) := goodIn_app (goodIn_of _ (by decide +kernel)) ggX9_doClause_X5_digitsTogether
set_option maxRecDepth 20000 in
theorem ggX9_doClause_X9_basin : GoodIn wsX9_doClause wsX9_basin := goodIn_r _ [19, 20, 4, 5, 21, 22, 23, 24, 18, 25, 26, 27, 28, 29, 30, 31, 32, 33, 34, 52, 53, 54, 55, 56, 57, 58, 59, 60, 67, 68, 69, 70, 71, 72, 73, 74, 75, 76, 77, 78] (by decide +kernel) (by decide +kernel)
set_option maxRecDepth 20000 in
theorem gX9_doClause_X9_basin : GoodIn wsX9_doClause (wsV RX9 298 RX9 yX9_basin wsX9_basin) := goodIn_app (goodIn_of _ (by decide +kernel)) ggX9_doClause_X9_basin
set_option maxRecDepth 20000 in
theorem ggX9_doClause_X9_hold : GoodIn wsX9_doClause wsX9_hold := goodIn_r _ [38, 4, 5, 22, 39, 40, 41, 42, 43, 44, 45, 46, 47, 23, 24, 18, 25, 52, 53, 54, 55, 56, 57, 58, 59, 60, 67, 68, 69, 70, 71, 72, 73, 74, 75, 76, 77, 78] (by decide +kernel) (by decide +kernel)
set_option maxRecDepth 20000 in
theorem gX9_doClause_X9_hold : GoodIn wsX9_doClause (wsV RX9 302 RX9 yX9_hold wsX9_hold) := goodIn_app (goodIn_of _ (by decide +kernel)) ggX9_doClause_X9_hold
set_option maxRecDepth 20000 in
theorem ggX9_doClause_X5_copyNumbersTo : GoodIn wsX9_doClause wsX5_copyNumbersTo := goodIn_r _ [51, 13, 14, 61, 62, 63, 64, 65, 66] (by decide +kernel) (by decide +kernel)
set_option maxRecDepth 20000 in
theorem gX9_doClause_X5_copyNumbersTo : GoodIn wsX9_doClause (wsV RX9 306 RX5 yX5_copyNumbersTo wsX5_copyNumbersTo) := goodIn_app (goodIn_of _ (by decide +kernel)) ggX9_doClause_X5_copyNumbersTo
theorem dX9_doClause_0 : decode cX9_doClause 0 = .ok (.aload_n 0, 1) := by decide +kernel
theorem dX9_doClause_1 : decode cX9_doClause 1 = .ok (.getfield 56, 3) := by decide +kernel
theorem dX9_doClause_4 : decode cX9_doClause 4 = .ok (.getfield 289, 3) := by decide +kernel
theorem dX9_doClause_7 : decode cX9_doClause 7 = .ok (.astore_n 1, 1) := by decide +kernel
theorem dX9_doClause_8 : decode cX9_doClause 8 = .ok (.aload_n 0, 1) := by decide +kernel
theorem dX9_doClause_9 : decode cX9_doClause 9 = .ok (.getfield 56, 3) := by decide +kernel
theorem dX9_doClause_12 : decode cX9_doClause 12 = .ok (.getfield 292, 3) := by decide +kernel
theorem dX9_doClause_15 : decode cX9_doClause 15 = .ok (.lookupswitch 101 #[(98, 33), (107, 59), (119, 81)], 33) := by decide +kernel
theorem dX9_doClause_48 : decode cX9_doClause 48 = .ok (.aload_n 1, 1) := by decide +kernel
theorem dX9_doClause_49 : decode cX9_doClause 49 = .ok (.iconst 0, 1) := by decide +kernel
theorem dX9_doClause_50 : decode cX9_doClause 50 = .ok (.iaload, 1) := by decide +kernel
theorem dX9_doClause_51 : decode cX9_doClause 51 = .ok (.ifCond .le 21, 3) := by decide +kernel
theorem dX9_doClause_54 : decode cX9_doClause 54 = .ok (.aload_n 0, 1) := by decide +kernel
theorem dX9_doClause_55 : decode cX9_doClause 55 = .ok (.aload_n 0, 1) := by decide +kernel
theorem dX9_doClause_56 : decode cX9_doClause 56 = .ok (.getfield 56, 3) := by decide +kernel
theorem dX9_doClause_59 : decode cX9_doClause 59 = .ok (.invokevirtual 295, 3) := by decide +kernel
theorem dX9_doClause_62 : decode cX9_doClause 62 = .ok (.invokevirtual 298, 3) := by decide +kernel
theorem dX9_doClause_65 : decode cX9_doClause 65 = .ok (.ifCond .lt 7, 3) := by decide +kernel
theorem dX9_doClause_68 : decode cX9_doClause 68 = .ok (.iconst 1, 1) := by decide +kernel
theorem dX9_doClause_69 : decode cX9_doClause 69 = .ok (.goto 4, 3) := by decide +kernel
theorem dX9_doClause_72 : decode cX9_doClause 72 = .ok (.iconst 0, 1) := by decide +kernel
theorem dX9_doClause_73 : decode cX9_doClause 73 = .ok (.ireturn, 1) := by decide +kernel
theorem dX9_doClause_74 : decode cX9_doClause 74 = .ok (.aload_n 0, 1) := by decide +kernel
theorem dX9_doClause_75 : decode cX9_doClause 75 = .ok (.aload_n 1, 1) := by decide +kernel
theorem dX9_doClause_76 : decode cX9_doClause 76 = .ok (.iconst 0, 1) := by decide +kernel
theorem dX9_doClause_77 : decode cX9_doClause 77 = .ok (.iaload, 1) := by decide +kernel
theorem dX9_doClause_78 : decode cX9_doClause 78 = .ok (.aload_n 1, 1) := by decide +kernel
theorem dX9_doClause_79 : decode cX9_doClause 79 = .ok (.iconst 1, 1) := by decide +kernel
theorem dX9_doClause_80 : decode cX9_doClause 80 = .ok (.iaload, 1) := by decide +kernel
theorem dX9_doClause_81 : decode cX9_doClause 81 = .ok (.aload_n 1, 1) := by decide +kernel
theorem dX9_doClause_82 : decode cX9_doClause 82 = .ok (.iconst 2, 1) := by decide +kernel
theorem dX9_doClause_83 : decode cX9_doClause 83 = .ok (.iaload, 1) := by decide +kernel
theorem dX9_doClause_84 : decode cX9_doClause 84 = .ok (.invokevirtual 302, 3) := by decide +kernel
theorem dX9_doClause_87 : decode cX9_doClause 87 = .ok (.ifCond .lt 7, 3) := by decide +kernel
theorem dX9_doClause_90 : decode cX9_doClause 90 = .ok (.iconst 1, 1) := by decide +kernel
theorem dX9_doClause_91 : decode cX9_doClause 91 = .ok (.goto 4, 3) := by decide +kernel
theorem dX9_doClause_94 : decode cX9_doClause 94 = .ok (.iconst 0, 1) := by decide +kernel
theorem dX9_doClause_95 : decode cX9_doClause 95 = .ok (.ireturn, 1) := by decide +kernel
theorem dX9_doClause_96 : decode cX9_doClause 96 = .ok (.aload_n 0, 1) := by decide +kernel
theorem dX9_doClause_97 : decode cX9_doClause 97 = .ok (.getfield 56, 3) := by decide +kernel
theorem dX9_doClause_100 : decode cX9_doClause 100 = .ok (.aload_n 0, 1) := by decide +kernel
theorem dX9_doClause_101 : decode cX9_doClause 101 = .ok (.getfield 12, 3) := by decide +kernel
theorem dX9_doClause_104 : decode cX9_doClause 104 = .ok (.getfield 67, 3) := by decide +kernel
theorem dX9_doClause_107 : decode cX9_doClause 107 = .ok (.getfield 70, 3) := by decide +kernel
theorem dX9_doClause_110 : decode cX9_doClause 110 = .ok (.bipush 20, 2) := by decide +kernel
theorem dX9_doClause_112 : decode cX9_doClause 112 = .ok (.invokevirtual 306, 3) := by decide +kernel
theorem dX9_doClause_115 : decode cX9_doClause 115 = .ok (.ireturn, 1) := by decide +kernel
theorem dX9_doClause_116 : decode cX9_doClause 116 = .ok (.aload_n 0, 1) := by decide +kernel
theorem dX9_doClause_117 : decode cX9_doClause 117 = .ok (.getfield 56, 3) := by decide +kernel
theorem dX9_doClause_120 : decode cX9_doClause 120 = .ok (.aload_n 0, 1) := by decide +kernel
theorem dX9_doClause_121 : decode cX9_doClause 121 = .ok (.getfield 12, 3) := by decide +kernel
theorem dX9_doClause_124 : decode cX9_doClause 124 = .ok (.getfield 107, 3) := by decide +kernel
theorem dX9_doClause_127 : decode cX9_doClause 127 = .ok (.sipush 999, 3) := by decide +kernel
theorem dX9_doClause_130 : decode cX9_doClause 130 = .ok (.invokevirtual 306, 3) := by decide +kernel
theorem dX9_doClause_133 : decode cX9_doClause 133 = .ok (.ireturn, 1) := by decide +kernel
