theorem dX10_init_0 : decode cX10_init 0 = .ok (.aload_n 0, 1) := by decide +kernel
theorem dX10_init_1 : decode cX10_init 1 = .ok (.invokespecial 3, 3) := by decide +kernel
theorem dX10_init_4 : decode cX10_init 4 = .ok (.aload_n 0, 1) := by decide +kernel
theorem dX10_init_5 : decode cX10_init 5 = .ok (.bipush 90, 2) := by decide +kernel
theorem dX10_init_7 : decode cX10_init 7 = .ok (.newarray .int, 2) := by decide +kernel
theorem dX10_init_9 : decode cX10_init 9 = .ok (.putfield 11, 3) := by decide +kernel
theorem dX10_init_12 : decode cX10_init 12 = .ok (.aload_n 0, 1) := by decide +kernel
theorem dX10_init_13 : decode cX10_init 13 = .ok (.bipush 90, 2) := by decide +kernel
theorem dX10_init_15 : decode cX10_init 15 = .ok (.newarray .int, 2) := by decide +kernel
theorem dX10_init_17 : decode cX10_init 17 = .ok (.putfield 15, 3) := by decide +kernel
theorem dX10_init_20 : decode cX10_init 20 = .ok (.aload_n 0, 1) := by decide +kernel
theorem dX10_init_21 : decode cX10_init 21 = .ok (.iconst 5, 1) := by decide +kernel
theorem dX10_init_22 : decode cX10_init 22 = .ok (.newarray .int, 2) := by decide +kernel
theorem dX10_init_24 : decode cX10_init 24 = .ok (.putfield 18, 3) := by decide +kernel
theorem dX10_init_27 : decode cX10_init 27 = .ok (.aload_n 0, 1) := by decide +kernel
theorem dX10_init_28 : decode cX10_init 28 = .ok (.bipush 100, 2) := by decide +kernel
theorem dX10_init_30 : decode cX10_init 30 = .ok (.newarray .int, 2) := by decide +kernel
theorem dX10_init_32 : decode cX10_init 32 = .ok (.putfield 21, 3) := by decide +kernel
theorem dX10_init_35 : decode cX10_init 35 = .ok (.aload_n 0, 1) := by decide +kernel
theorem dX10_init_36 : decode cX10_init 36 = .ok (.sipush 168, 3) := by decide +kernel
theorem dX10_init_39 : decode cX10_init 39 = .ok (.newarray .int, 2) := by decide +kernel
theorem dX10_init_41 : decode cX10_init 41 = .ok (.putfield 24, 3) := by decide +kernel
theorem dX10_init_44 : decode cX10_init 44 = .ok (.aload_n 0, 1) := by decide +kernel
theorem dX10_init_45 : decode cX10_init 45 = .ok (.bipush 30, 2) := by decide +kernel
theorem dX10_init_47 : decode cX10_init 47 = .ok (.newarray .int, 2) := by decide +kernel
theorem dX10_init_49 : decode cX10_init 49 = .ok (.putfield 27, 3) := by decide +kernel
theorem dX10_init_52 : decode cX10_init 52 = .ok (.aload_n 0, 1) := by decide +kernel
theorem dX10_init_53 : decode cX10_init 53 = .ok (.bipush 30, 2) := by decide +kernel
theorem dX10_init_55 : decode cX10_init 55 = .ok (.newarray .int, 2) := by decide +kernel
theorem dX10_init_57 : decode cX10_init 57 = .ok (.putfield 30, 3) := by decide +kernel
theorem dX10_init_60 : decode cX10_init 60 = .ok (.aload_n 0, 1) := by decide +kernel
theorem dX10_init_61 : decode cX10_init 61 = .ok (.bipush 30, 2) := by decide +kernel
theorem dX10_init_63 : decode cX10_init 63 = .ok (.newarray .int, 2) := by decide +kernel
theorem dX10_init_65 : decode cX10_init 65 = .ok (.putfield 33, 3) := by decide +kernel
theorem dX10_init_68 : decode cX10_init 68 = .ok (.aload_n 0, 1) := by decide +kernel
theorem dX10_init_69 : decode cX10_init 69 = .ok (.bipush 12, 2) := by decide +kernel
theorem dX10_init_71 : decode cX10_init 71 = .ok (.newarray .int, 2) := by decide +kernel
theorem dX10_init_73 : decode cX10_init 73 = .ok (.putfield 36, 3) := by decide +kernel
theorem dX10_init_76 : decode cX10_init 76 = .ok (.aload_n 0, 1) := by decide +kernel
theorem dX10_init_77 : decode cX10_init 77 = .ok (.bipush 8, 2) := by decide +kernel
theorem dX10_init_79 : decode cX10_init 79 = .ok (.newarray .int, 2) := by decide +kernel
theorem dX10_init_81 : decode cX10_init 81 = .ok (.putfield 39, 3) := by decide +kernel
theorem dX10_init_84 : decode cX10_init 84 = .ok (.aload_n 0, 1) := by decide +kernel
theorem dX10_init_85 : decode cX10_init 85 = .ok (.iconst 5, 1) := by decide +kernel
theorem dX10_init_86 : decode cX10_init 86 = .ok (.newarray .int, 2) := by decide +kernel
theorem dX10_init_88 : decode cX10_init 88 = .ok (.putfield 42, 3) := by decide +kernel
theorem dX10_init_91 : decode cX10_init 91 = .ok (.aload_n 0, 1) := by decide +kernel
theorem dX10_init_92 : decode cX10_init 92 = .ok (.bipush 8, 2) := by decide +kernel
theorem dX10_init_94 : decode cX10_init 94 = .ok (.newarray .int, 2) := by decide +kernel
theorem dX10_init_96 : decode cX10_init 96 = .ok (.putfield 45, 3) := by decide +kernel
theorem dX10_init_99 : decode cX10_init 99 = .ok (.aload_n 0, 1) := by decide +kernel
theorem dX10_init_100 : decode cX10_init 100 = .ok (.bipush 90, 2) := by decide +kernel
theorem dX10_init_102 : decode cX10_init 102 = .ok (.newarray .int, 2) := by decide +kernel
theorem dX10_init_104 : decode cX10_init 104 = .ok (.putfield 48, 3) := by decide +kernel
theorem dX10_init_107 : decode cX10_init 107 = .ok (.aload_n 0, 1) := by decide +kernel
theorem dX10_init_108 : decode cX10_init 108 = .ok (.bipush 6, 2) := by decide +kernel
theorem dX10_init_110 : decode cX10_init 110 = .ok (.newarray .int, 2) := by decide +kernel
theorem dX10_init_112 : decode cX10_init 112 = .ok (.dup, 1) := by decide +kernel
theorem dX10_init_113 : decode cX10_init 113 = .ok (.iconst 0, 1) := by decide +kernel
theorem dX10_init_114 : decode cX10_init 114 = .ok (.iconst (-1), 1) := by decide +kernel
theorem dX10_init_115 : decode cX10_init 115 = .ok (.iastore, 1) := by decide +kernel
theorem dX10_init_116 : decode cX10_init 116 = .ok (.dup, 1) := by decide +kernel
theorem dX10_init_117 : decode cX10_init 117 = .ok (.iconst 1, 1) := by decide +kernel
theorem dX10_init_118 : decode cX10_init 118 = .ok (.iconst (-1), 1) := by decide +kernel
theorem dX10_init_119 : decode cX10_init 119 = .ok (.iastore, 1) := by decide +kernel
theorem dX10_init_120 : decode cX10_init 120 = .ok (.dup, 1) := by decide +kernel
theorem dX10_init_121 : decode cX10_init 121 = .ok (.iconst 2, 1) := by decide +kernel
theorem dX10_init_122 : decode cX10_init 122 = .ok (.iconst (-1), 1) := by decide +kernel
theorem dX10_init_123 : decode cX10_init 123 = .ok (.iastore, 1) := by decide +kernel
theorem dX10_init_124 : decode cX10_init 124 = .ok (.dup, 1) := by decide +kernel
theorem dX10_init_125 : decode cX10_init 125 = .ok (.iconst 3, 1) := by decide +kernel
theorem dX10_init_126 : decode cX10_init 126 = .ok (.iconst (-1), 1) := by decide +kernel
theorem dX10_init_127 : decode cX10_init 127 = .ok (.iastore, 1) := by decide +kernel
theorem dX10_init_128 : decode cX10_init 128 = .ok (.dup, 1) := by decide +kernel
theorem dX10_init_129 : decode cX10_init 129 = .ok (.iconst 4, 1) := by decide +kernel
theorem dX10_init_130 : decode cX10_init 130 = .ok (.iconst (-1), 1) := by decide +kernel
theorem dX10_init_131 : decode cX10_init 131 = .ok (.iastore, 1) := by decide +kernel
theorem dX10_init_132 : decode cX10_init 132 = .ok (.dup, 1) := by decide +kernel
theorem dX10_init_133 : decode cX10_init 133 = .ok (.iconst 5, 1) := by decide +kernel
theorem dX10_init_134 : decode cX10_init 134 = .ok (.iconst (-1), 1) := by decide +kernel
theorem dX10_init_135 : decode cX10_init 135 = .ok (.iastore, 1) := by decide +kernel
theorem dX10_init_136 : decode cX10_init 136 = .ok (.putfield 51, 3) := by decide +kernel
theorem dX10_init_139 : decode cX10_init 139 = .ok (.aload_n 0, 1) := by decide +kernel
theorem dX10_init_140 : decode cX10_init 140 = .ok (.bipush 6, 2) := by decide +kernel
theorem dX10_init_142 : decode cX10_init 142 = .ok (.newarray .int, 2) := by decide +kernel
theorem dX10_init_144 : decode cX10_init 144 = .ok (.putfield 54, 3) := by decide +kernel
theorem dX10_init_147 : decode cX10_init 147 = .ok (.aload_n 0, 1) := by decide +kernel
theorem dX10_init_148 : decode cX10_init 148 = .ok (.sipush 360, 3) := by decide +kernel
theorem dX10_init_151 : decode cX10_init 151 = .ok (.newarray .long, 2) := by decide +kernel
theorem dX10_init_153 : decode cX10_init 153 = .ok (.putfield 57, 3) := by decide +kernel
theorem dX10_init_156 : decode cX10_init 156 = .ok (.return_, 1) := by decide +kernel
theorem dX10_in_0 : decode cX10_in 0 = .ok (.lload_n 0, 1) := by decide +kernel
theorem dX10_in_1 : decode cX10_in 1 = .ok (.lload_n 2, 1) := by decide +kernel
theorem dX10_in_2 : decode cX10_in 2 = .ok (.lcmp, 1) := by decide +kernel
theorem dX10_in_3 : decode cX10_in 3 = .ok (.ifCond .lt 14, 3) := by decide +kernel
theorem dX10_in_6 : decode cX10_in 6 = .ok (.lload_n 0, 1) := by decide +kernel
theorem dX10_in_7 : decode cX10_in 7 = .ok (.lload 4, 2) := by decide +kernel
theorem dX10_in_9 : decode cX10_in 9 = .ok (.lcmp, 1) := by decide +kernel
theorem dX10_in_10 : decode cX10_in 10 = .ok (.ifCond .gt 7, 3) := by decide +kernel
theorem dX10_in_13 : decode cX10_in 13 = .ok (.iconst 1, 1) := by decide +kernel
theorem dX10_in_14 : decode cX10_in 14 = .ok (.goto 4, 3) := by decide +kernel
theorem dX10_in_17 : decode cX10_in 17 = .ok (.iconst 0, 1) := by decide +kernel
theorem dX10_in_18 : decode cX10_in 18 = .ok (.ireturn, 1) := by decide +kernel
set_option maxRecDepth 20000 in
theorem ggX10_isBasin_X10_in : GoodIn wsX10_isBasin wsX10_in := goodIn_r _ [5] (by decide +kernel) (by decide +kernel)
set_option maxRecDepth 20000 in
theorem gX10_isBasin_X10_in : GoodIn wsX10_isBasin (va_wsS RX10 61 yX10_in wsX10_in) := goodIn_app (goodIn_of _ (by decide +kernel)) ggX10_isBasin_X10_in
theorem dX10_isBasin_0 : decode cX10_isBasin 0 = .ok (.iload_n 1, 1) := by decide +kernel
theorem dX10_isBasin_1 : decode cX10_isBasin 1 = .ok (.i2l, 1) := by decide +kernel
theorem dX10_isBasin_2 : decode cX10_isBasin 2 = .ok (.lconst 0, 1) := by decide +kernel
theorem dX10_isBasin_3 : decode cX10_isBasin 3 = .ok (.aload_n 0, 1) := by decide +kernel
theorem dX10_isBasin_4 : decode cX10_isBasin 4 = .ok (.getfield 11, 3) := by decide +kernel
theorem dX10_isBasin_7 : decode cX10_isBasin 7 = .ok (.bipush 20, 2) := by decide +kernel
theorem dX10_isBasin_9 : decode cX10_isBasin 9 = .ok (.iaload, 1) := by decide +kernel
theorem dX10_isBasin_10 : decode cX10_isBasin 10 = .ok (.iconst 1, 1) := by decide +kernel
theorem dX10_isBasin_11 : decode cX10_isBasin 11 = .ok (.isub, 1) := by decide +kernel
theorem dX10_isBasin_12 : decode cX10_isBasin 12 = .ok (.i2l, 1) := by decide +kernel
theorem dX10_isBasin_13 : decode cX10_isBasin 13 = .ok (.invokestatic 61, 3) := by decide +kernel
theorem dX10_isBasin_16 : decode cX10_isBasin 16 = .ok (.ireturn, 1) := by decide +kernel
set_option maxRecDepth 20000 in
theorem ggX10_isHour_X10_in : GoodIn wsX10_isHour wsX10_in := goodIn_r _ [5] (by decide +kernel) (by decide +kernel)
set_option maxRecDepth 20000 in
theorem gX10_isHour_X10_in : GoodIn wsX10_isHour (va_wsS RX10 61 yX10_in wsX10_in) := goodIn_app (goodIn_of _ (by decide +kernel)) ggX10_isHour_X10_in
theorem dX10_isHour_0 : decode cX10_isHour 0 = .ok (.iload_n 0, 1) := by decide +kernel
theorem dX10_isHour_1 : decode cX10_isHour 1 = .ok (.i2l, 1) := by decide +kernel
theorem dX10_isHour_2 : decode cX10_isHour 2 = .ok (.lconst 0, 1) := by decide +kernel
theorem dX10_isHour_3 : decode cX10_isHour 3 = .ok (.ldc2_w 65, 3) := by decide +kernel
theorem dX10_isHour_6 : decode cX10_isHour 6 = .ok (.invokestatic 61, 3) := by decide +kernel
theorem dX10_isHour_9 : decode cX10_isHour 9 = .ok (.ireturn, 1) := by decide +kernel
set_option maxRecDepth 20000 in
theorem ggX10_isRain_X10_in : GoodIn wsX10_isRain wsX10_in := goodIn_r _ [5] (by decide +kernel) (by decide +kernel)
set_option maxRecDepth 20000 in
theorem gX10_isRain_X10_in : GoodIn wsX10_isRain (va_wsS RX10 61 yX10_in wsX10_in) := goodIn_app (goodIn_of _ (by decide +kernel)) ggX10_isRain_X10_in
theorem dX10_isRain_0 : decode cX10_isRain 0 = .ok (.iload_n 0, 1) := by decide +kernel
theorem dX10_isRain_1 : decode cX10_isRain 1 = .ok (.i2l, 1) := by decide +kernel
theorem dX10_isRain_2 : decode cX10_isRain 2 = .ok (.lconst 0, 1) := by decide +kernel
theorem dX10_isRain_3 : decode cX10_isRain 3 = .ok (.ldc2_w 67, 3) := by decide +kernel
theorem dX10_isRain_6 : decode cX10_isRain 6 = .ok (.invokestatic 61, 3) := by decide +kernel
theorem dX10_isRain_9 : decode cX10_isRain 9 = .ok (.ireturn, 1) := by decide +kernel
theorem dX10_answer_0 : decode cX10_answer 0 = .ok (.aload_n 0, 1) := by decide +kernel
theorem dX10_answer_1 : decode cX10_answer 1 = .ok (.getfield 11, 3) := by decide +kernel
theorem dX10_answer_4 : decode cX10_answer 4 = .ok (.bipush 21, 2) := by decide +kernel
theorem dX10_answer_6 : decode cX10_answer 6 = .ok (.bipush 8, 2) := by decide +kernel
theorem dX10_answer_8 : decode cX10_answer 8 = .ok (.iload_n 1, 1) := by decide +kernel
theorem dX10_answer_9 : decode cX10_answer 9 = .ok (.imul, 1) := by decide +kernel
theorem dX10_answer_10 : decode cX10_answer 10 = .ok (.iadd, 1) := by decide +kernel
theorem dX10_answer_11 : decode cX10_answer 11 = .ok (.iconst 1, 1) := by decide +kernel
theorem dX10_answer_12 : decode cX10_answer 12 = .ok (.iadd, 1) := by decide +kernel
theorem dX10_answer_13 : decode cX10_answer 13 = .ok (.iload_n 2, 1) := by decide +kernel
theorem dX10_answer_14 : decode cX10_answer 14 = .ok (.iadd, 1) := by decide +kernel
theorem dX10_answer_15 : decode cX10_answer 15 = .ok (.iaload, 1) := by decide +kernel
theorem dX10_answer_16 : decode cX10_answer 16 = .ok (.ireturn, 1) := by decide +kernel
set_option maxRecDepth 20000 in
theorem ggX10_rain_X10_isRain : GoodIn wsX10_rain wsX10_isRain := goodIn_r _ [6, 7, 8, 9, 5, 10] (by decide +kernel) (by decide +kernel)
set_option maxRecDepth 20000 in
theorem gX10_rain_X10_isRain : GoodIn wsX10_rain (va_wsS RX10 69 yX10_isRain wsX10_isRain) := goodIn_app (goodIn_of _ (by decide +kernel)) ggX10_rain_X10_isRain
set_option maxRecDepth 20000 in
theorem ggX10_rain_X10_in : GoodIn wsX10_rain wsX10_in := goodIn_r _ [10] (by decide +kernel) (by decide +kernel)
set_option maxRecDepth 20000 in
theorem gX10_rain_X10_in : GoodIn wsX10_rain (va_wsS RX10 61 yX10_in wsX10_in) := goodIn_app (goodIn_of _ (by decide +kernel)) ggX10_rain_X10_in
theorem dX10_rain_0 : decode cX10_rain 0 = .ok (.iload_n 1, 1) := by decide +kernel
theorem dX10_rain_1 : decode cX10_rain 1 = .ok (.invokestatic 69, 3) := by decide +kernel
theorem dX10_rain_4 : decode cX10_rain 4 = .ok (.ifCond .ne 5, 3) := by decide +kernel
theorem dX10_rain_7 : decode cX10_rain 7 = .ok (.iconst (-1), 1) := by decide +kernel
theorem dX10_rain_8 : decode cX10_rain 8 = .ok (.ireturn, 1) := by decide +kernel
theorem dX10_rain_9 : decode cX10_rain 9 = .ok (.iload_n 2, 1) := by decide +kernel
theorem dX10_rain_10 : decode cX10_rain 10 = .ok (.i2l, 1) := by decide +kernel
theorem dX10_rain_11 : decode cX10_rain 11 = .ok (.lconst 0, 1) := by decide +kernel
theorem dX10_rain_12 : decode cX10_rain 12 = .ok (.ldc2_w 73, 3) := by decide +kernel
theorem dX10_rain_15 : decode cX10_rain 15 = .ok (.invokestatic 61, 3) := by decide +kernel
theorem dX10_rain_18 : decode cX10_rain 18 = .ok (.ifCond .ne 6, 3) := by decide +kernel
theorem dX10_rain_21 : decode cX10_rain 21 = .ok (.bipush (-2), 2) := by decide +kernel
theorem dX10_rain_23 : decode cX10_rain 23 = .ok (.ireturn, 1) := by decide +kernel
theorem dX10_rain_24 : decode cX10_rain 24 = .ok (.aload_n 0, 1) := by decide +kernel
theorem dX10_rain_25 : decode cX10_rain 25 = .ok (.getfield 11, 3) := by decide +kernel
theorem dX10_rain_28 : decode cX10_rain 28 = .ok (.iload_n 1, 1) := by decide +kernel
theorem dX10_rain_29 : decode cX10_rain 29 = .ok (.iaload, 1) := by decide +kernel
theorem dX10_rain_30 : decode cX10_rain 30 = .ok (.istore_n 3, 1) := by decide +kernel
theorem dX10_rain_31 : decode cX10_rain 31 = .ok (.aload_n 0, 1) := by decide +kernel
theorem dX10_rain_32 : decode cX10_rain 32 = .ok (.getfield 11, 3) := by decide +kernel
theorem dX10_rain_35 : decode cX10_rain 35 = .ok (.iload_n 1, 1) := by decide +kernel
theorem dX10_rain_36 : decode cX10_rain 36 = .ok (.iload_n 2, 1) := by decide +kernel
theorem dX10_rain_37 : decode cX10_rain 37 = .ok (.iastore, 1) := by decide +kernel
theorem dX10_rain_38 : decode cX10_rain 38 = .ok (.iload_n 3, 1) := by decide +kernel
theorem dX10_rain_39 : decode cX10_rain 39 = .ok (.ireturn, 1) := by decide +kernel
theorem dX10_comes_0 : decode cX10_comes 0 = .ok (.aload_n 0, 1) := by decide +kernel
theorem dX10_comes_1 : decode cX10_comes 1 = .ok (.getfield 11, 3) := by decide +kernel
theorem dX10_comes_4 : decode cX10_comes 4 = .ok (.bipush 20, 2) := by decide +kernel
theorem dX10_comes_6 : decode cX10_comes 6 = .ok (.iaload, 1) := by decide +kernel
theorem dX10_comes_7 : decode cX10_comes 7 = .ok (.iconst 3, 1) := by decide +kernel
theorem dX10_comes_8 : decode cX10_comes 8 = .ok (.if_icmp .ne 6, 3) := by decide +kernel
theorem dX10_comes_11 : decode cX10_comes 11 = .ok (.bipush (-4), 2) := by decide +kernel
theorem dX10_comes_13 : decode cX10_comes 13 = .ok (.ireturn, 1) := by decide +kernel
theorem dX10_comes_14 : decode cX10_comes 14 = .ok (.bipush 21, 2) := by decide +kernel
theorem dX10_comes_16 : decode cX10_comes 16 = .ok (.bipush 8, 2) := by decide +kernel
theorem dX10_comes_18 : decode cX10_comes 18 = .ok (.aload_n 0, 1) := by decide +kernel
theorem dX10_comes_19 : decode cX10_comes 19 = .ok (.getfield 11, 3) := by decide +kernel
theorem dX10_comes_22 : decode cX10_comes 22 = .ok (.bipush 20, 2) := by decide +kernel
theorem dX10_comes_24 : decode cX10_comes 24 = .ok (.iaload, 1) := by decide +kernel
theorem dX10_comes_25 : decode cX10_comes 25 = .ok (.imul, 1) := by decide +kernel
theorem dX10_comes_26 : decode cX10_comes 26 = .ok (.iadd, 1) := by decide +kernel
theorem dX10_comes_27 : decode cX10_comes 27 = .ok (.istore_n 2, 1) := by decide +kernel
theorem dX10_comes_28 : decode cX10_comes 28 = .ok (.aload_n 0, 1) := by decide +kernel
theorem dX10_comes_29 : decode cX10_comes 29 = .ok (.getfield 11, 3) := by decide +kernel
theorem dX10_comes_32 : decode cX10_comes 32 = .ok (.iload_n 2, 1) := by decide +kernel
theorem dX10_comes_33 : decode cX10_comes 33 = .ok (.iload_n 1, 1) := by decide +kernel
theorem dX10_comes_34 : decode cX10_comes 34 = .ok (.iastore, 1) := by decide +kernel
theorem dX10_comes_35 : decode cX10_comes 35 = .ok (.iconst 0, 1) := by decide +kernel
theorem dX10_comes_36 : decode cX10_comes 36 = .ok (.istore_n 3, 1) := by decide +kernel
theorem dX10_comes_37 : decode cX10_comes 37 = .ok (.iload_n 3, 1) := by decide +kernel
theorem dX10_comes_38 : decode cX10_comes 38 = .ok (.iconst 5, 1) := by decide +kernel
theorem dX10_comes_39 : decode cX10_comes 39 = .ok (.if_icmp .ge 34, 3) := by decide +kernel
theorem dX10_comes_42 : decode cX10_comes 42 = .ok (.aload_n 0, 1) := by decide +kernel
theorem dX10_comes_43 : decode cX10_comes 43 = .ok (.getfield 11, 3) := by decide +kernel
theorem dX10_comes_46 : decode cX10_comes 46 = .ok (.iload_n 2, 1) := by decide +kernel
theorem dX10_comes_47 : decode cX10_comes 47 = .ok (.iconst 1, 1) := by decide +kernel
theorem dX10_comes_48 : decode cX10_comes 48 = .ok (.iadd, 1) := by decide +kernel
theorem dX10_comes_49 : decode cX10_comes 49 = .ok (.iload_n 3, 1) := by decide +kernel
theorem dX10_comes_50 : decode cX10_comes 50 = .ok (.iadd, 1) := by decide +kernel
theorem dX10_comes_51 : decode cX10_comes 51 = .ok (.iload_n 3, 1) := by decide +kernel
theorem dX10_comes_52 : decode cX10_comes 52 = .ok (.iload_n 1, 1) := by decide +kernel
theorem dX10_comes_53 : decode cX10_comes 53 = .ok (.if_icmp .ge 12, 3) := by decide +kernel
theorem dX10_comes_56 : decode cX10_comes 56 = .ok (.aload_n 0, 1) := by decide +kernel
theorem dX10_comes_57 : decode cX10_comes 57 = .ok (.getfield 18, 3) := by decide +kernel
theorem dX10_comes_60 : decode cX10_comes 60 = .ok (.iload_n 3, 1) := by decide +kernel
theorem dX10_comes_61 : decode cX10_comes 61 = .ok (.iaload, 1) := by decide +kernel
theorem dX10_comes_62 : decode cX10_comes 62 = .ok (.goto 4, 3) := by decide +kernel
theorem dX10_comes_65 : decode cX10_comes 65 = .ok (.iconst 0, 1) := by decide +kernel
theorem dX10_comes_66 : decode cX10_comes 66 = .ok (.iastore, 1) := by decide +kernel
theorem dX10_comes_67 : decode cX10_comes 67 = .ok (.iinc 3 1, 3) := by decide +kernel
theorem dX10_comes_70 : decode cX10_comes 70 = .ok (.goto (-33), 3) := by decide +kernel
theorem dX10_comes_73 : decode cX10_comes 73 = .ok (.aload_n 0, 1) := by decide +kernel
theorem dX10_comes_74 : decode cX10_comes 74 = .ok (.getfield 11, 3) := by decide +kernel
theorem dX10_comes_77 : decode cX10_comes 77 = .ok (.iload_n 2, 1) := by decide +kernel
theorem dX10_comes_78 : decode cX10_comes 78 = .ok (.bipush 6, 2) := by decide +kernel
theorem dX10_comes_80 : decode cX10_comes 80 = .ok (.iadd, 1) := by decide +kernel
theorem dX10_comes_81 : decode cX10_comes 81 = .ok (.iconst 0, 1) := by decide +kernel
theorem dX10_comes_82 : decode cX10_comes 82 = .ok (.iastore, 1) := by decide +kernel
theorem dX10_comes_83 : decode cX10_comes 83 = .ok (.aload_n 0, 1) := by decide +kernel
theorem dX10_comes_84 : decode cX10_comes 84 = .ok (.getfield 11, 3) := by decide +kernel
theorem dX10_comes_87 : decode cX10_comes 87 = .ok (.iload_n 2, 1) := by decide +kernel
theorem dX10_comes_88 : decode cX10_comes 88 = .ok (.bipush 7, 2) := by decide +kernel
theorem dX10_comes_90 : decode cX10_comes 90 = .ok (.iadd, 1) := by decide +kernel
theorem dX10_comes_91 : decode cX10_comes 91 = .ok (.iconst 0, 1) := by decide +kernel
theorem dX10_comes_92 : decode cX10_comes 92 = .ok (.iastore, 1) := by decide +kernel
theorem dX10_comes_93 : decode cX10_comes 93 = .ok (.aload_n 0, 1) := by decide +kernel
theorem dX10_comes_94 : decode cX10_comes 94 = .ok (.getfield 11, 3) := by decide +kernel
theorem dX10_comes_97 : decode cX10_comes 97 = .ok (.bipush 20, 2) := by decide +kernel
theorem dX10_comes_99 : decode cX10_comes 99 = .ok (.dup2, 1) := by decide +kernel
theorem dX10_comes_100 : decode cX10_comes 100 = .ok (.iaload, 1) := by decide +kernel
theorem dX10_comes_101 : decode cX10_comes 101 = .ok (.iconst 1, 1) := by decide +kernel
theorem dX10_comes_102 : decode cX10_comes 102 = .ok (.iadd, 1) := by decide +kernel
theorem dX10_comes_103 : decode cX10_comes 103 = .ok (.iastore, 1) := by decide +kernel
theorem dX10_comes_104 : decode cX10_comes 104 = .ok (.aload_n 0, 1) := by decide +kernel
theorem dX10_comes_105 : decode cX10_comes 105 = .ok (.getfield 11, 3) := by decide +kernel
theorem dX10_comes_108 : decode cX10_comes 108 = .ok (.bipush 20, 2) := by decide +kernel
theorem dX10_comes_110 : decode cX10_comes 110 = .ok (.iaload, 1) := by decide +kernel
theorem dX10_comes_111 : decode cX10_comes 111 = .ok (.iconst 1, 1) := by decide +kernel
theorem dX10_comes_112 : decode cX10_comes 112 = .ok (.isub, 1) := by decide +kernel
theorem dX10_comes_113 : decode cX10_comes 113 = .ok (.ireturn, 1) := by decide +kernel
set_option maxRecDepth 20000 in
theorem ggX10_basin_X10_in : GoodIn wsX10_basin wsX10_in := goodIn_r _ [6] (by decide +kernel) (by decide +kernel)
set_option maxRecDepth 20000 in
theorem gX10_basin_X10_in : GoodIn wsX10_basin (va_wsS RX10 61 yX10_in wsX10_in) := goodIn_app (goodIn_of _ (by decide +kernel)) ggX10_basin_X10_in
set_option maxRecDepth 20000 in
theorem ggX10_basin_X10_comes : GoodIn wsX10_basin wsX10_comes := goodIn_r _ [10, 11, 2, 12, 13, 14, 15, 16, 17, 18, 19, 20, 21, 22, 23, 24, 25, 26, 27, 28, 29, 30, 31, 32, 33] (by decide +kernel) (by decide +kernel)
set_option maxRecDepth 20000 in
theorem gX10_basin_X10_comes : GoodIn wsX10_basin (wsV RX10 77 RX10 yX10_comes wsX10_comes) := goodIn_app (goodIn_of _ (by decide +kernel)) ggX10_basin_X10_comes
theorem dX10_basin_0 : decode cX10_basin 0 = .ok (.iload_n 1, 1) := by decide +kernel
theorem dX10_basin_1 : decode cX10_basin 1 = .ok (.i2l, 1) := by decide +kernel
theorem dX10_basin_2 : decode cX10_basin 2 = .ok (.lconst 1, 1) := by decide +kernel
theorem dX10_basin_3 : decode cX10_basin 3 = .ok (.ldc2_w 75, 3) := by decide +kernel
theorem dX10_basin_6 : decode cX10_basin 6 = .ok (.invokestatic 61, 3) := by decide +kernel
theorem dX10_basin_9 : decode cX10_basin 9 = .ok (.ifCond .ne 6, 3) := by decide +kernel
theorem dX10_basin_12 : decode cX10_basin 12 = .ok (.bipush (-2), 2) := by decide +kernel
theorem dX10_basin_14 : decode cX10_basin 14 = .ok (.ireturn, 1) := by decide +kernel
theorem dX10_basin_15 : decode cX10_basin 15 = .ok (.iconst 0, 1) := by decide +kernel
theorem dX10_basin_16 : decode cX10_basin 16 = .ok (.istore_n 2, 1) := by decide +kernel
theorem dX10_basin_17 : decode cX10_basin 17 = .ok (.iload_n 1, 1) := by decide +kernel
theorem dX10_basin_18 : decode cX10_basin 18 = .ok (.istore_n 3, 1) := by decide +kernel
theorem dX10_basin_19 : decode cX10_basin 19 = .ok (.iload_n 3, 1) := by decide +kernel
theorem dX10_basin_20 : decode cX10_basin 20 = .ok (.ifCond .le 14, 3) := by decide +kernel
theorem dX10_basin_23 : decode cX10_basin 23 = .ok (.iinc 2 1, 3) := by decide +kernel
theorem dX10_basin_26 : decode cX10_basin 26 = .ok (.iload_n 3, 1) := by decide +kernel
theorem dX10_basin_27 : decode cX10_basin 27 = .ok (.bipush 10, 2) := by decide +kernel
theorem dX10_basin_29 : decode cX10_basin 29 = .ok (.idiv, 1) := by decide +kernel
theorem dX10_basin_30 : decode cX10_basin 30 = .ok (.istore_n 3, 1) := by decide +kernel
theorem dX10_basin_31 : decode cX10_basin 31 = .ok (.goto (-12), 3) := by decide +kernel
theorem dX10_basin_34 : decode cX10_basin 34 = .ok (.iload_n 1, 1) := by decide +kernel
theorem dX10_basin_35 : decode cX10_basin 35 = .ok (.istore_n 3, 1) := by decide +kernel
theorem dX10_basin_36 : decode cX10_basin 36 = .ok (.iload_n 2, 1) := by decide +kernel
theorem dX10_basin_37 : decode cX10_basin 37 = .ok (.iconst 1, 1) := by decide +kernel
theorem dX10_basin_38 : decode cX10_basin 38 = .ok (.isub, 1) := by decide +kernel
theorem dX10_basin_39 : decode cX10_basin 39 = .ok (.istore 4, 2) := by decide +kernel
theorem dX10_basin_41 : decode cX10_basin 41 = .ok (.iload 4, 2) := by decide +kernel
theorem dX10_basin_43 : decode cX10_basin 43 = .ok (.ifCond .lt 25, 3) := by decide +kernel
theorem dX10_basin_46 : decode cX10_basin 46 = .ok (.aload_n 0, 1) := by decide +kernel
theorem dX10_basin_47 : decode cX10_basin 47 = .ok (.getfield 18, 3) := by decide +kernel
theorem dX10_basin_50 : decode cX10_basin 50 = .ok (.iload 4, 2) := by decide +kernel
theorem dX10_basin_52 : decode cX10_basin 52 = .ok (.iload_n 3, 1) := by decide +kernel
theorem dX10_basin_53 : decode cX10_basin 53 = .ok (.bipush 10, 2) := by decide +kernel
theorem dX10_basin_55 : decode cX10_basin 55 = .ok (.irem, 1) := by decide +kernel
theorem dX10_basin_56 : decode cX10_basin 56 = .ok (.iastore, 1) := by decide +kernel
theorem dX10_basin_57 : decode cX10_basin 57 = .ok (.iload_n 3, 1) := by decide +kernel
theorem dX10_basin_58 : decode cX10_basin 58 = .ok (.bipush 10, 2) := by decide +kernel
theorem dX10_basin_60 : decode cX10_basin 60 = .ok (.idiv, 1) := by decide +kernel
theorem dX10_basin_61 : decode cX10_basin 61 = .ok (.istore_n 3, 1) := by decide +kernel
theorem dX10_basin_62 : decode cX10_basin 62 = .ok (.iinc 4 (-1), 3) := by decide +kernel
theorem dX10_basin_65 : decode cX10_basin 65 = .ok (.goto (-24), 3) := by decide +kernel
theorem dX10_basin_68 : decode cX10_basin 68 = .ok (.aload_n 0, 1) := by decide +kernel
theorem dX10_basin_69 : decode cX10_basin 69 = .ok (.iload_n 2, 1) := by decide +kernel
theorem dX10_basin_70 : decode cX10_basin 70 = .ok (.invokevirtual 77, 3) := by decide +kernel
theorem dX10_basin_73 : decode cX10_basin 73 = .ok (.ireturn, 1) := by decide +kernel
set_option maxRecDepth 20000 in
theorem ggX10_hold_X10_isBasin : GoodIn wsX10_hold wsX10_isBasin := goodIn_r _ [8, 3, 9, 10, 7, 11, 12, 13, 14, 15, 16, 17, 18, 19, 20, 21, 22, 23, 24, 25, 26, 27, 28, 29, 30, 31, 32, 33] (by decide +kernel) (by decide +kernel)
set_option maxRecDepth 20000 in
theorem gX10_hold_X10_isBasin : GoodIn wsX10_hold (wsV RX10 81 RX10 yX10_isBasin wsX10_isBasin) := goodIn_app (goodIn_of _ (by decide +kernel)) ggX10_hold_X10_isBasin
set_option maxRecDepth 20000 in
theorem ggX10_hold_X10_in : GoodIn wsX10_hold wsX10_in := goodIn_r _ [11] (by decide +kernel) (by decide +kernel)
set_option maxRecDepth 20000 in
theorem gX10_hold_X10_in : GoodIn wsX10_hold (va_wsS RX10 61 yX10_in wsX10_in) := goodIn_app (goodIn_of _ (by decide +kernel)) ggX10_hold_X10_in
theorem dX10_hold_0 : decode cX10_hold 0 = .ok (.aload_n 0, 1) := by decide +kernel
theorem dX10_hold_1 : decode cX10_hold 1 = .ok (.iload_n 1, 1) := by decide +kernel
theorem dX10_hold_2 : decode cX10_hold 2 = .ok (.invokevirtual 81, 3) := by decide +kernel
theorem dX10_hold_5 : decode cX10_hold 5 = .ok (.ifCond .ne 5, 3) := by decide +kernel
theorem dX10_hold_8 : decode cX10_hold 8 = .ok (.iconst (-1), 1) := by decide +kernel
theorem dX10_hold_9 : decode cX10_hold 9 = .ok (.ireturn, 1) := by decide +kernel
theorem dX10_hold_10 : decode cX10_hold 10 = .ok (.iload_n 2, 1) := by decide +kernel
theorem dX10_hold_11 : decode cX10_hold 11 = .ok (.i2l, 1) := by decide +kernel
theorem dX10_hold_12 : decode cX10_hold 12 = .ok (.lconst 0, 1) := by decide +kernel
theorem dX10_hold_13 : decode cX10_hold 13 = .ok (.ldc2_w 84, 3) := by decide +kernel
theorem dX10_hold_16 : decode cX10_hold 16 = .ok (.invokestatic 61, 3) := by decide +kernel
theorem dX10_hold_19 : decode cX10_hold 19 = .ok (.ifCond .eq 24, 3) := by decide +kernel
theorem dX10_hold_22 : decode cX10_hold 22 = .ok (.iload_n 3, 1) := by decide +kernel
theorem dX10_hold_23 : decode cX10_hold 23 = .ok (.i2l, 1) := by decide +kernel
theorem dX10_hold_24 : decode cX10_hold 24 = .ok (.iload_n 2, 1) := by decide +kernel
theorem dX10_hold_25 : decode cX10_hold 25 = .ok (.iconst 2, 1) := by decide +kernel
theorem dX10_hold_26 : decode cX10_hold 26 = .ok (.if_icmp .ne 7, 3) := by decide +kernel
theorem dX10_hold_29 : decode cX10_hold 29 = .ok (.lconst 1, 1) := by decide +kernel
theorem dX10_hold_30 : decode cX10_hold 30 = .ok (.goto 4, 3) := by decide +kernel
theorem dX10_hold_33 : decode cX10_hold 33 = .ok (.lconst 0, 1) := by decide +kernel
theorem dX10_hold_34 : decode cX10_hold 34 = .ok (.ldc2_w 86, 3) := by decide +kernel
theorem dX10_hold_37 : decode cX10_hold 37 = .ok (.invokestatic 61, 3) := by decide +kernel
theorem dX10_hold_40 : decode cX10_hold 40 = .ok (.ifCond .ne 6, 3) := by decide +kernel
theorem dX10_hold_43 : decode cX10_hold 43 = .ok (.bipush (-2), 2) := by decide +kernel
theorem dX10_hold_45 : decode cX10_hold 45 = .ok (.ireturn, 1) := by decide +kernel
theorem dX10_hold_46 : decode cX10_hold 46 = .ok (.bipush 21, 2) := by decide +kernel
theorem dX10_hold_48 : decode cX10_hold 48 = .ok (.bipush 8, 2) := by decide +kernel
theorem dX10_hold_50 : decode cX10_hold 50 = .ok (.iload_n 1, 1) := by decide +kernel
theorem dX10_hold_51 : decode cX10_hold 51 = .ok (.imul, 1) := by decide +kernel
theorem dX10_hold_52 : decode cX10_hold 52 = .ok (.iadd, 1) := by decide +kernel
theorem dX10_hold_53 : decode cX10_hold 53 = .ok (.istore 4, 2) := by decide +kernel
theorem dX10_hold_55 : decode cX10_hold 55 = .ok (.bipush 10, 2) := by decide +kernel
theorem dX10_hold_57 : decode cX10_hold 57 = .ok (.aload_n 0, 1) := by decide +kernel
theorem dX10_hold_58 : decode cX10_hold 58 = .ok (.getfield 11, 3) := by decide +kernel
theorem dX10_hold_61 : decode cX10_hold 61 = .ok (.iload 4, 2) := by decide +kernel
theorem dX10_hold_63 : decode cX10_hold 63 = .ok (.bipush 6, 2) := by decide +kernel
theorem dX10_hold_65 : decode cX10_hold 65 = .ok (.iadd, 1) := by decide +kernel
theorem dX10_hold_66 : decode cX10_hold 66 = .ok (.iaload, 1) := by decide +kernel
theorem dX10_hold_67 : decode cX10_hold 67 = .ok (.imul, 1) := by decide +kernel
theorem dX10_hold_68 : decode cX10_hold 68 = .ok (.aload_n 0, 1) := by decide +kernel
theorem dX10_hold_69 : decode cX10_hold 69 = .ok (.getfield 11, 3) := by decide +kernel
theorem dX10_hold_72 : decode cX10_hold 72 = .ok (.iload 4, 2) := by decide +kernel
theorem dX10_hold_74 : decode cX10_hold 74 = .ok (.bipush 7, 2) := by decide +kernel
theorem dX10_hold_76 : decode cX10_hold 76 = .ok (.iadd, 1) := by decide +kernel
theorem dX10_hold_77 : decode cX10_hold 77 = .ok (.iaload, 1) := by decide +kernel
theorem dX10_hold_78 : decode cX10_hold 78 = .ok (.iadd, 1) := by decide +kernel
theorem dX10_hold_79 : decode cX10_hold 79 = .ok (.istore 5, 2) := by decide +kernel
theorem dX10_hold_81 : decode cX10_hold 81 = .ok (.aload_n 0, 1) := by decide +kernel
theorem dX10_hold_82 : decode cX10_hold 82 = .ok (.getfield 11, 3) := by decide +kernel
theorem dX10_hold_85 : decode cX10_hold 85 = .ok (.iload 4, 2) := by decide +kernel
theorem dX10_hold_87 : decode cX10_hold 87 = .ok (.bipush 6, 2) := by decide +kernel
theorem dX10_hold_89 : decode cX10_hold 89 = .ok (.iadd, 1) := by decide +kernel
theorem dX10_hold_90 : decode cX10_hold 90 = .ok (.iload_n 2, 1) := by decide +kernel
theorem dX10_hold_91 : decode cX10_hold 91 = .ok (.iastore, 1) := by decide +kernel
theorem dX10_hold_92 : decode cX10_hold 92 = .ok (.aload_n 0, 1) := by decide +kernel
theorem dX10_hold_93 : decode cX10_hold 93 = .ok (.getfield 11, 3) := by decide +kernel
theorem dX10_hold_96 : decode cX10_hold 96 = .ok (.iload 4, 2) := by decide +kernel
theorem dX10_hold_98 : decode cX10_hold 98 = .ok (.bipush 7, 2) := by decide +kernel
theorem dX10_hold_100 : decode cX10_hold 100 = .ok (.iadd, 1) := by decide +kernel
theorem dX10_hold_101 : decode cX10_hold 101 = .ok (.iload_n 3, 1) := by decide +kernel
theorem dX10_hold_102 : decode cX10_hold 102 = .ok (.iastore, 1) := by decide +kernel
theorem dX10_hold_103 : decode cX10_hold 103 = .ok (.iload 5, 2) := by decide +kernel
theorem dX10_hold_105 : decode cX10_hold 105 = .ok (.ireturn, 1) := by decide +kernel
set_option maxRecDepth 20000 in
theorem ggX10_tell_X10_in : GoodIn wsX10_tell wsX10_in := goodIn_r _ [7] (by decide +kernel) (by decide +kernel)
set_option maxRecDepth 20000 in
theorem gX10_tell_X10_in : GoodIn wsX10_tell (va_wsS RX10 61 yX10_in wsX10_in) := goodIn_app (goodIn_of _ (by decide +kernel)) ggX10_tell_X10_in
theorem dX10_tell_0 : decode cX10_tell 0 = .ok (.iload_n 1, 1) := by decide +kernel
theorem dX10_tell_1 : decode cX10_tell 1 = .ok (.i2l, 1) := by decide +kernel
theorem dX10_tell_2 : decode cX10_tell 2 = .ok (.lconst 0, 1) := by decide +kernel
theorem dX10_tell_3 : decode cX10_tell 3 = .ok (.ldc2_w 88, 3) := by decide +kernel
theorem dX10_tell_6 : decode cX10_tell 6 = .ok (.invokestatic 61, 3) := by decide +kernel
theorem dX10_tell_9 : decode cX10_tell 9 = .ok (.ifCond .ne 5, 3) := by decide +kernel
theorem dX10_tell_12 : decode cX10_tell 12 = .ok (.iconst (-1), 1) := by decide +kernel
theorem dX10_tell_13 : decode cX10_tell 13 = .ok (.ireturn, 1) := by decide +kernel
theorem dX10_tell_14 : decode cX10_tell 14 = .ok (.iload_n 2, 1) := by decide +kernel
theorem dX10_tell_15 : decode cX10_tell 15 = .ok (.i2l, 1) := by decide +kernel
theorem dX10_tell_16 : decode cX10_tell 16 = .ok (.lconst 0, 1) := by decide +kernel
theorem dX10_tell_17 : decode cX10_tell 17 = .ok (.ldc2_w 90, 3) := by decide +kernel
theorem dX10_tell_20 : decode cX10_tell 20 = .ok (.invokestatic 61, 3) := by decide +kernel
theorem dX10_tell_23 : decode cX10_tell 23 = .ok (.ifCond .ne 6, 3) := by decide +kernel
theorem dX10_tell_26 : decode cX10_tell 26 = .ok (.bipush (-2), 2) := by decide +kernel
theorem dX10_tell_28 : decode cX10_tell 28 = .ok (.ireturn, 1) := by decide +kernel
theorem dX10_tell_29 : decode cX10_tell 29 = .ok (.aload_n 0, 1) := by decide +kernel
theorem dX10_tell_30 : decode cX10_tell 30 = .ok (.getfield 11, 3) := by decide +kernel
theorem dX10_tell_33 : decode cX10_tell 33 = .ok (.bipush 8, 2) := by decide +kernel
theorem dX10_tell_35 : decode cX10_tell 35 = .ok (.iload_n 1, 1) := by decide +kernel
theorem dX10_tell_36 : decode cX10_tell 36 = .ok (.iadd, 1) := by decide +kernel
theorem dX10_tell_37 : decode cX10_tell 37 = .ok (.iaload, 1) := by decide +kernel
theorem dX10_tell_38 : decode cX10_tell 38 = .ok (.istore_n 3, 1) := by decide +kernel
theorem dX10_tell_39 : decode cX10_tell 39 = .ok (.aload_n 0, 1) := by decide +kernel
theorem dX10_tell_40 : decode cX10_tell 40 = .ok (.getfield 11, 3) := by decide +kernel
theorem dX10_tell_43 : decode cX10_tell 43 = .ok (.bipush 8, 2) := by decide +kernel
theorem dX10_tell_45 : decode cX10_tell 45 = .ok (.iload_n 1, 1) := by decide +kernel
theorem dX10_tell_46 : decode cX10_tell 46 = .ok (.iadd, 1) := by decide +kernel
theorem dX10_tell_47 : decode cX10_tell 47 = .ok (.iload_n 2, 1) := by decide +kernel
theorem dX10_tell_48 : decode cX10_tell 48 = .ok (.iastore, 1) := by decide +kernel
theorem dX10_tell_49 : decode cX10_tell 49 = .ok (.iload_n 3, 1) := by decide +kernel
theorem dX10_tell_50 : decode cX10_tell 50 = .ok (.ireturn, 1) := by decide +kernel
set_option maxRecDepth 20000 in
theorem ggX10_feed_X10_in : GoodIn wsX10_feed wsX10_in := goodIn_r _ [7] (by decide +kernel) (by decide +kernel)
set_option maxRecDepth 20000 in
theorem gX10_feed_X10_in : GoodIn wsX10_feed (va_wsS RX10 61 yX10_in wsX10_in) := goodIn_app (goodIn_of _ (by decide +kernel)) ggX10_feed_X10_in
theorem dX10_feed_0 : decode cX10_feed 0 = .ok (.iload_n 1, 1) := by decide +kernel
theorem dX10_feed_1 : decode cX10_feed 1 = .ok (.i2l, 1) := by decide +kernel
theorem dX10_feed_2 : decode cX10_feed 2 = .ok (.lconst 0, 1) := by decide +kernel
theorem dX10_feed_3 : decode cX10_feed 3 = .ok (.ldc2_w 92, 3) := by decide +kernel
theorem dX10_feed_6 : decode cX10_feed 6 = .ok (.invokestatic 61, 3) := by decide +kernel
theorem dX10_feed_9 : decode cX10_feed 9 = .ok (.ifCond .ne 6, 3) := by decide +kernel
theorem dX10_feed_12 : decode cX10_feed 12 = .ok (.bipush (-2), 2) := by decide +kernel
theorem dX10_feed_14 : decode cX10_feed 14 = .ok (.ireturn, 1) := by decide +kernel
theorem dX10_feed_15 : decode cX10_feed 15 = .ok (.aload_n 0, 1) := by decide +kernel
theorem dX10_feed_16 : decode cX10_feed 16 = .ok (.getfield 94, 3) := by decide +kernel
theorem dX10_feed_19 : decode cX10_feed 19 = .ok (.bipush 100, 2) := by decide +kernel
theorem dX10_feed_21 : decode cX10_feed 21 = .ok (.if_icmp .ne 6, 3) := by decide +kernel
theorem dX10_feed_24 : decode cX10_feed 24 = .ok (.bipush (-4), 2) := by decide +kernel
theorem dX10_feed_26 : decode cX10_feed 26 = .ok (.ireturn, 1) := by decide +kernel
theorem dX10_feed_27 : decode cX10_feed 27 = .ok (.aload_n 0, 1) := by decide +kernel
theorem dX10_feed_28 : decode cX10_feed 28 = .ok (.getfield 21, 3) := by decide +kernel
theorem dX10_feed_31 : decode cX10_feed 31 = .ok (.aload_n 0, 1) := by decide +kernel
theorem dX10_feed_32 : decode cX10_feed 32 = .ok (.getfield 94, 3) := by decide +kernel
theorem dX10_feed_35 : decode cX10_feed 35 = .ok (.iload_n 1, 1) := by decide +kernel
theorem dX10_feed_36 : decode cX10_feed 36 = .ok (.iastore, 1) := by decide +kernel
theorem dX10_feed_37 : decode cX10_feed 37 = .ok (.aload_n 0, 1) := by decide +kernel
theorem dX10_feed_38 : decode cX10_feed 38 = .ok (.dup, 1) := by decide +kernel
theorem dX10_feed_39 : decode cX10_feed 39 = .ok (.getfield 94, 3) := by decide +kernel
theorem dX10_feed_42 : decode cX10_feed 42 = .ok (.iconst 1, 1) := by decide +kernel
theorem dX10_feed_43 : decode cX10_feed 43 = .ok (.iadd, 1) := by decide +kernel
theorem dX10_feed_44 : decode cX10_feed 44 = .ok (.putfield 94, 3) := by decide +kernel
theorem dX10_feed_47 : decode cX10_feed 47 = .ok (.aload_n 0, 1) := by decide +kernel
theorem dX10_feed_48 : decode cX10_feed 48 = .ok (.getfield 94, 3) := by decide +kernel
theorem dX10_feed_51 : decode cX10_feed 51 = .ok (.ireturn, 1) := by decide +kernel
theorem dX10_here_0 : decode cX10_here 0 = .ok (.aload_n 0, 1) := by decide +kernel
theorem dX10_here_1 : decode cX10_here 1 = .ok (.getfield 98, 3) := by decide +kernel
theorem dX10_here_4 : decode cX10_here 4 = .ok (.ifCond .ge 26, 3) := by decide +kernel
theorem dX10_here_7 : decode cX10_here 7 = .ok (.aload_n 0, 1) := by decide +kernel
theorem dX10_here_8 : decode cX10_here 8 = .ok (.getfield 101, 3) := by decide +kernel
theorem dX10_here_11 : decode cX10_here 11 = .ok (.aload_n 0, 1) := by decide +kernel
theorem dX10_here_12 : decode cX10_here 12 = .ok (.getfield 94, 3) := by decide +kernel
theorem dX10_here_15 : decode cX10_here 15 = .ok (.if_icmp .ge 15, 3) := by decide +kernel
theorem dX10_here_18 : decode cX10_here 18 = .ok (.aload_n 0, 1) := by decide +kernel
theorem dX10_here_19 : decode cX10_here 19 = .ok (.getfield 21, 3) := by decide +kernel
theorem dX10_here_22 : decode cX10_here 22 = .ok (.aload_n 0, 1) := by decide +kernel
theorem dX10_here_23 : decode cX10_here 23 = .ok (.getfield 101, 3) := by decide +kernel
theorem dX10_here_26 : decode cX10_here 26 = .ok (.iaload, 1) := by decide +kernel
theorem dX10_here_27 : decode cX10_here 27 = .ok (.goto 4, 3) := by decide +kernel
theorem dX10_here_30 : decode cX10_here 30 = .ok (.iconst (-1), 1) := by decide +kernel
theorem dX10_here_31 : decode cX10_here 31 = .ok (.ireturn, 1) := by decide +kernel
set_option maxRecDepth 20000 in
theorem ggX10_isDigit_X10_here : GoodIn wsX10_isDigit wsX10_here := goodIn_r _ [7, 8, 9, 10, 11, 15, 16, 17, 18, 19, 20, 21, 22, 23, 24, 25, 26, 27, 28, 29, 30, 31, 32, 33, 34, 35, 36] (by decide +kernel) (by decide +kernel)
set_option maxRecDepth 20000 in
theorem gX10_isDigit_X10_here : GoodIn wsX10_isDigit (wsV RX10 104 RX10 yX10_here wsX10_here) := goodIn_app (goodIn_of _ (by decide +kernel)) ggX10_isDigit_X10_here
set_option maxRecDepth 20000 in
theorem ggX10_isDigit_X10_in : GoodIn wsX10_isDigit wsX10_in := goodIn_r _ [14] (by decide +kernel) (by decide +kernel)
set_option maxRecDepth 20000 in
theorem gX10_isDigit_X10_in : GoodIn wsX10_isDigit (va_wsS RX10 61 yX10_in wsX10_in) := goodIn_app (goodIn_of _ (by decide +kernel)) ggX10_isDigit_X10_in
theorem dX10_isDigit_0 : decode cX10_isDigit 0 = .ok (.aload_n 0, 1) := by decide +kernel
theorem dX10_isDigit_1 : decode cX10_isDigit 1 = .ok (.invokevirtual 104, 3) := by decide +kernel
theorem dX10_isDigit_4 : decode cX10_isDigit 4 = .ok (.i2l, 1) := by decide +kernel
theorem dX10_isDigit_5 : decode cX10_isDigit 5 = .ok (.ldc2_w 108, 3) := by decide +kernel
theorem dX10_isDigit_8 : decode cX10_isDigit 8 = .ok (.ldc2_w 110, 3) := by decide +kernel
theorem dX10_isDigit_11 : decode cX10_isDigit 11 = .ok (.invokestatic 61, 3) := by decide +kernel
theorem dX10_isDigit_14 : decode cX10_isDigit 14 = .ok (.ireturn, 1) := by decide +kernel
set_option maxRecDepth 20000 in
theorem ggX10_figure_X10_isDigit : GoodIn wsX10_figure wsX10_isDigit := goodIn_r _ [8, 9, 10, 11, 12, 13, 7, 14, 1, 2, 15, 3, 16, 17, 18, 19, 20, 21, 22, 23, 24, 25, 26, 27, 28, 29, 30, 31, 32, 33, 34, 35, 36, 37, 38, 39, 40] (by decide +kernel) (by decide +kernel)
set_option maxRecDepth 20000 in
theorem gX10_figure_X10_isDigit : GoodIn wsX10_figure (wsV RX10 112 RX10 yX10_isDigit wsX10_isDigit) := goodIn_app (goodIn_of _ (by decide +kernel)) ggX10_figure_X10_isDigit
theorem dX10_figure_0 : decode cX10_figure 0 = .ok (.aload_n 0, 1) := by decide +kernel
theorem dX10_figure_1 : decode cX10_figure 1 = .ok (.invokevirtual 112, 3) := by decide +kernel
theorem dX10_figure_4 : decode cX10_figure 4 = .ok (.ifCond .ne 27, 3) := by decide +kernel
theorem dX10_figure_7 : decode cX10_figure 7 = .ok (.aload_n 0, 1) := by decide +kernel
theorem dX10_figure_8 : decode cX10_figure 8 = .ok (.aload_n 0, 1) := by decide +kernel
theorem dX10_figure_9 : decode cX10_figure 9 = .ok (.getfield 98, 3) := by decide +kernel
theorem dX10_figure_12 : decode cX10_figure 12 = .ok (.ifCond .ge 10, 3) := by decide +kernel
theorem dX10_figure_15 : decode cX10_figure 15 = .ok (.aload_n 0, 1) := by decide +kernel
theorem dX10_figure_16 : decode cX10_figure 16 = .ok (.getfield 101, 3) := by decide +kernel
theorem dX10_figure_19 : decode cX10_figure 19 = .ok (.goto 7, 3) := by decide +kernel
theorem dX10_figure_22 : decode cX10_figure 22 = .ok (.aload_n 0, 1) := by decide +kernel
theorem dX10_figure_23 : decode cX10_figure 23 = .ok (.getfield 98, 3) := by decide +kernel
theorem dX10_figure_26 : decode cX10_figure 26 = .ok (.putfield 98, 3) := by decide +kernel
theorem dX10_figure_29 : decode cX10_figure 29 = .ok (.iconst 0, 1) := by decide +kernel
theorem dX10_figure_30 : decode cX10_figure 30 = .ok (.ireturn, 1) := by decide +kernel
theorem dX10_figure_31 : decode cX10_figure 31 = .ok (.aload_n 0, 1) := by decide +kernel
theorem dX10_figure_32 : decode cX10_figure 32 = .ok (.dup, 1) := by decide +kernel
theorem dX10_figure_33 : decode cX10_figure 33 = .ok (.getfield 101, 3) := by decide +kernel
theorem dX10_figure_36 : decode cX10_figure 36 = .ok (.iconst 1, 1) := by decide +kernel
theorem dX10_figure_37 : decode cX10_figure 37 = .ok (.iadd, 1) := by decide +kernel
theorem dX10_figure_38 : decode cX10_figure 38 = .ok (.putfield 101, 3) := by decide +kernel
theorem dX10_figure_41 : decode cX10_figure 41 = .ok (.aload_n 0, 1) := by decide +kernel
theorem dX10_figure_42 : decode cX10_figure 42 = .ok (.getfield 21, 3) := by decide +kernel
theorem dX10_figure_45 : decode cX10_figure 45 = .ok (.aload_n 0, 1) := by decide +kernel
theorem dX10_figure_46 : decode cX10_figure 46 = .ok (.getfield 101, 3) := by decide +kernel
theorem dX10_figure_49 : decode cX10_figure 49 = .ok (.iconst 1, 1) := by decide +kernel
theorem dX10_figure_50 : decode cX10_figure 50 = .ok (.isub, 1) := by decide +kernel
theorem dX10_figure_51 : decode cX10_figure 51 = .ok (.iaload, 1) := by decide +kernel
theorem dX10_figure_52 : decode cX10_figure 52 = .ok (.bipush 48, 2) := by decide +kernel
theorem dX10_figure_54 : decode cX10_figure 54 = .ok (.isub, 1) := by decide +kernel
theorem dX10_figure_55 : decode cX10_figure 55 = .ok (.ireturn, 1) := by decide +kernel
set_option maxRecDepth 20000 in
theorem ggX10_number_X10_figure : GoodIn wsX10_number wsX10_figure := goodIn_r _ [5, 6, 7, 8, 9, 10, 11, 4, 12, 13, 14, 15, 16, 17, 18, 19, 20, 21, 22, 23, 24, 25, 26, 27, 28, 29, 30, 31, 32, 33, 34, 35, 36, 37, 38, 39, 40, 41, 42, 43, 44] (by decide +kernel) (by decide +kernel)
set_option maxRecDepth 20000 in
theorem gX10_number_X10_figure : GoodIn wsX10_number (wsV RX10 116 RX10 yX10_figure wsX10_figure) := goodIn_app (goodIn_of _ (by decide +kernel)) ggX10_number_X10_figure
set_option maxRecDepth 20000 in
theorem ggX10_number_X10_isDigit : GoodIn wsX10_number wsX10_isDigit := goodIn_r _ [12, 13, 14, 15, 16, 17, 4, 18, 6, 7, 19, 8, 20, 21, 22, 23, 24, 25, 26, 27, 28, 29, 30, 31, 32, 33, 34, 35, 36, 37, 38, 39, 40, 41, 42, 43, 44] (by decide +kernel) (by decide +kernel)
set_option maxRecDepth 20000 in
theorem gX10_number_X10_isDigit : GoodIn wsX10_number (wsV RX10 112 RX10 yX10_isDigit wsX10_isDigit) := goodIn_app (goodIn_of _ (by decide +kernel)) ggX10_number_X10_isDigit
theorem dX10_number_0 : decode cX10_number 0 = .ok (.aload_n 0, 1) := by decide +kernel
theorem dX10_number_1 : decode cX10_number 1 = .ok (.invokevirtual 116, 3) := by decide +kernel
theorem dX10_number_4 : decode cX10_number 4 = .ok (.istore_n 1, 1) := by decide +kernel
theorem dX10_number_5 : decode cX10_number 5 = .ok (.iconst 0, 1) := by decide +kernel
theorem dX10_number_6 : decode cX10_number 6 = .ok (.istore_n 2, 1) := by decide +kernel
theorem dX10_number_7 : decode cX10_number 7 = .ok (.iload_n 2, 1) := by decide +kernel
theorem dX10_number_8 : decode cX10_number 8 = .ok (.iconst 2, 1) := by decide +kernel
theorem dX10_number_9 : decode cX10_number 9 = .ok (.if_icmp .ge 26, 3) := by decide +kernel
theorem dX10_number_12 : decode cX10_number 12 = .ok (.aload_n 0, 1) := by decide +kernel
theorem dX10_number_13 : decode cX10_number 13 = .ok (.invokevirtual 112, 3) := by decide +kernel
theorem dX10_number_16 : decode cX10_number 16 = .ok (.ifCond .eq 19, 3) := by decide +kernel
theorem dX10_number_19 : decode cX10_number 19 = .ok (.bipush 10, 2) := by decide +kernel
theorem dX10_number_21 : decode cX10_number 21 = .ok (.iload_n 1, 1) := by decide +kernel
theorem dX10_number_22 : decode cX10_number 22 = .ok (.imul, 1) := by decide +kernel
theorem dX10_number_23 : decode cX10_number 23 = .ok (.aload_n 0, 1) := by decide +kernel
theorem dX10_number_24 : decode cX10_number 24 = .ok (.invokevirtual 116, 3) := by decide +kernel
theorem dX10_number_27 : decode cX10_number 27 = .ok (.iadd, 1) := by decide +kernel
theorem dX10_number_28 : decode cX10_number 28 = .ok (.istore_n 1, 1) := by decide +kernel
theorem dX10_number_29 : decode cX10_number 29 = .ok (.iinc 2 1, 3) := by decide +kernel
theorem dX10_number_32 : decode cX10_number 32 = .ok (.goto (-25), 3) := by decide +kernel
theorem dX10_number_35 : decode cX10_number 35 = .ok (.iload_n 1, 1) := by decide +kernel
theorem dX10_number_36 : decode cX10_number 36 = .ok (.ireturn, 1) := by decide +kernel
theorem dX10_tells_0 : decode cX10_tells 0 = .ok (.bipush 14, 2) := by decide +kernel
theorem dX10_tells_2 : decode cX10_tells 2 = .ok (.aload_n 0, 1) := by decide +kernel
theorem dX10_tells_3 : decode cX10_tells 3 = .ok (.getfield 119, 3) := by decide +kernel
theorem dX10_tells_6 : decode cX10_tells 6 = .ok (.imul, 1) := by decide +kernel
theorem dX10_tells_7 : decode cX10_tells 7 = .ok (.istore_n 2, 1) := by decide +kernel
theorem dX10_tells_8 : decode cX10_tells 8 = .ok (.aload_n 0, 1) := by decide +kernel
theorem dX10_tells_9 : decode cX10_tells 9 = .ok (.getfield 24, 3) := by decide +kernel
theorem dX10_tells_12 : decode cX10_tells 12 = .ok (.iload_n 2, 1) := by decide +kernel
theorem dX10_tells_13 : decode cX10_tells 13 = .ok (.iconst 2, 1) := by decide +kernel
theorem dX10_tells_14 : decode cX10_tells 14 = .ok (.iadd, 1) := by decide +kernel
theorem dX10_tells_15 : decode cX10_tells 15 = .ok (.aload_n 0, 1) := by decide +kernel
theorem dX10_tells_16 : decode cX10_tells 16 = .ok (.getfield 24, 3) := by decide +kernel
theorem dX10_tells_19 : decode cX10_tells 19 = .ok (.iload_n 2, 1) := by decide +kernel
theorem dX10_tells_20 : decode cX10_tells 20 = .ok (.iconst 1, 1) := by decide +kernel
theorem dX10_tells_21 : decode cX10_tells 21 = .ok (.iadd, 1) := by decide +kernel
theorem dX10_tells_22 : decode cX10_tells 22 = .ok (.iaload, 1) := by decide +kernel
theorem dX10_tells_23 : decode cX10_tells 23 = .ok (.iadd, 1) := by decide +kernel
theorem dX10_tells_24 : decode cX10_tells 24 = .ok (.iload_n 1, 1) := by decide +kernel
theorem dX10_tells_25 : decode cX10_tells 25 = .ok (.iastore, 1) := by decide +kernel
theorem dX10_tells_26 : decode cX10_tells 26 = .ok (.aload_n 0, 1) := by decide +kernel
theorem dX10_tells_27 : decode cX10_tells 27 = .ok (.getfield 24, 3) := by decide +kernel
theorem dX10_tells_30 : decode cX10_tells 30 = .ok (.iload_n 2, 1) := by decide +kernel
theorem dX10_tells_31 : decode cX10_tells 31 = .ok (.iconst 1, 1) := by decide +kernel
theorem dX10_tells_32 : decode cX10_tells 32 = .ok (.iadd, 1) := by decide +kernel
theorem dX10_tells_33 : decode cX10_tells 33 = .ok (.dup2, 1) := by decide +kernel
theorem dX10_tells_34 : decode cX10_tells 34 = .ok (.iaload, 1) := by decide +kernel
theorem dX10_tells_35 : decode cX10_tells 35 = .ok (.iconst 1, 1) := by decide +kernel
theorem dX10_tells_36 : decode cX10_tells 36 = .ok (.iadd, 1) := by decide +kernel
theorem dX10_tells_37 : decode cX10_tells 37 = .ok (.iastore, 1) := by decide +kernel
theorem dX10_tells_38 : decode cX10_tells 38 = .ok (.return_, 1) := by decide +kernel
set_option maxRecDepth 20000 in
theorem ggX10_readsNumbers_X10_number : GoodIn wsX10_readsNumbers wsX10_number := goodIn_r _ [8, 9, 10, 11, 7, 12, 13, 3, 14, 15, 16, 17, 18, 19, 20, 21, 22, 23, 24, 25, 26, 27, 28, 33, 34, 35, 36, 37, 38, 39, 40, 41, 42, 43, 44, 45, 46, 47, 48, 49, 50, 51, 52, 53, 54] (by decide +kernel) (by decide +kernel)
set_option maxRecDepth 20000 in
theorem gX10_readsNumbers_X10_number : GoodIn wsX10_readsNumbers (wsV RX10 122 RX10 yX10_number wsX10_number) := goodIn_app (goodIn_of _ (by decide +kernel)) ggX10_readsNumbers_X10_number
set_option maxRecDepth 20000 in
theorem ggX10_readsNumbers_X10_tells : GoodIn wsX10_readsNumbers wsX10_tells := goodIn_r _ [32, 1, 2, 33, 34, 35, 36, 37, 38, 39, 40, 41, 42, 43, 44, 45, 46, 47, 48, 49, 50, 51, 52, 53, 54] (by decide +kernel) (by decide +kernel)
set_option maxRecDepth 20000 in
theorem gX10_readsNumbers_X10_tells : GoodIn wsX10_readsNumbers (wsV RX10 125 RX10 yX10_tells wsX10_tells) := goodIn_app (goodIn_of _ (by decide +kernel)) ggX10_readsNumbers_X10_tells
set_option maxRecDepth 20000 in
theorem ggX10_readsNumbers_X10_here : GoodIn wsX10_readsNumbers wsX10_here := goodIn_r _ [24, 13, 3, 25, 14, 33, 34, 35, 36, 37, 38, 39, 40, 41, 42, 43, 44, 45, 46, 47, 48, 49, 50, 51, 52, 53, 54] (by decide +kernel) (by decide +kernel)
set_option maxRecDepth 20000 in
theorem gX10_readsNumbers_X10_here : GoodIn wsX10_readsNumbers (wsV RX10 104 RX10 yX10_here wsX10_here) := goodIn_app (goodIn_of _ (by decide +kernel)) ggX10_readsNumbers_X10_here
theorem dX10_readsNumbers_0 : decode cX10_readsNumbers 0 = .ok (.aload_n 0, 1) := by decide +kernel
theorem dX10_readsNumbers_1 : decode cX10_readsNumbers 1 = .ok (.aload_n 0, 1) := by decide +kernel
theorem dX10_readsNumbers_2 : decode cX10_readsNumbers 2 = .ok (.invokevirtual 122, 3) := by decide +kernel
theorem dX10_readsNumbers_5 : decode cX10_readsNumbers 5 = .ok (.invokevirtual 125, 3) := by decide +kernel
theorem dX10_readsNumbers_8 : decode cX10_readsNumbers 8 = .ok (.bipush 14, 2) := by decide +kernel
theorem dX10_readsNumbers_10 : decode cX10_readsNumbers 10 = .ok (.aload_n 0, 1) := by decide +kernel
theorem dX10_readsNumbers_11 : decode cX10_readsNumbers 11 = .ok (.getfield 119, 3) := by decide +kernel
theorem dX10_readsNumbers_14 : decode cX10_readsNumbers 14 = .ok (.imul, 1) := by decide +kernel
theorem dX10_readsNumbers_15 : decode cX10_readsNumbers 15 = .ok (.istore_n 2, 1) := by decide +kernel
theorem dX10_readsNumbers_16 : decode cX10_readsNumbers 16 = .ok (.aload_n 0, 1) := by decide +kernel
theorem dX10_readsNumbers_17 : decode cX10_readsNumbers 17 = .ok (.invokevirtual 104, 3) := by decide +kernel
theorem dX10_readsNumbers_20 : decode cX10_readsNumbers 20 = .ok (.bipush 44, 2) := by decide +kernel
theorem dX10_readsNumbers_22 : decode cX10_readsNumbers 22 = .ok (.if_icmp .ne 36, 3) := by decide +kernel
theorem dX10_readsNumbers_25 : decode cX10_readsNumbers 25 = .ok (.aload_n 0, 1) := by decide +kernel
theorem dX10_readsNumbers_26 : decode cX10_readsNumbers 26 = .ok (.getfield 24, 3) := by decide +kernel
theorem dX10_readsNumbers_29 : decode cX10_readsNumbers 29 = .ok (.iload_n 2, 1) := by decide +kernel
theorem dX10_readsNumbers_30 : decode cX10_readsNumbers 30 = .ok (.iconst 1, 1) := by decide +kernel
theorem dX10_readsNumbers_31 : decode cX10_readsNumbers 31 = .ok (.iadd, 1) := by decide +kernel
theorem dX10_readsNumbers_32 : decode cX10_readsNumbers 32 = .ok (.iaload, 1) := by decide +kernel
theorem dX10_readsNumbers_33 : decode cX10_readsNumbers 33 = .ok (.iload_n 1, 1) := by decide +kernel
theorem dX10_readsNumbers_34 : decode cX10_readsNumbers 34 = .ok (.if_icmp .ge 24, 3) := by decide +kernel
theorem dX10_readsNumbers_37 : decode cX10_readsNumbers 37 = .ok (.aload_n 0, 1) := by decide +kernel
theorem dX10_readsNumbers_38 : decode cX10_readsNumbers 38 = .ok (.dup, 1) := by decide +kernel
theorem dX10_readsNumbers_39 : decode cX10_readsNumbers 39 = .ok (.getfield 101, 3) := by decide +kernel
theorem dX10_readsNumbers_42 : decode cX10_readsNumbers 42 = .ok (.iconst 1, 1) := by decide +kernel
theorem dX10_readsNumbers_43 : decode cX10_readsNumbers 43 = .ok (.iadd, 1) := by decide +kernel
theorem dX10_readsNumbers_44 : decode cX10_readsNumbers 44 = .ok (.putfield 101, 3) := by decide +kernel
theorem dX10_readsNumbers_47 : decode cX10_readsNumbers 47 = .ok (.aload_n 0, 1) := by decide +kernel
theorem dX10_readsNumbers_48 : decode cX10_readsNumbers 48 = .ok (.aload_n 0, 1) := by decide +kernel
theorem dX10_readsNumbers_49 : decode cX10_readsNumbers 49 = .ok (.invokevirtual 122, 3) := by decide +kernel
theorem dX10_readsNumbers_52 : decode cX10_readsNumbers 52 = .ok (.invokevirtual 125, 3) := by decide +kernel
theorem dX10_readsNumbers_55 : decode cX10_readsNumbers 55 = .ok (.goto (-39), 3) := by decide +kernel
theorem dX10_readsNumbers_58 : decode cX10_readsNumbers 58 = .ok (.return_, 1) := by decide +kernel
set_option maxRecDepth 20000 in
theorem ggX10_readsDigits_X10_isDigit : GoodIn wsX10_readsDigits wsX10_isDigit := goodIn_r _ [7, 8, 9, 10, 11, 12, 6, 13, 14, 15, 16, 17, 18, 19, 20, 29, 30, 31, 32, 33, 34, 35, 36, 37, 38, 39, 40, 41, 42, 43, 44, 45, 46, 47, 48, 49, 50] (by decide +kernel) (by decide +kernel)
set_option maxRecDepth 20000 in
theorem gX10_readsDigits_X10_isDigit : GoodIn wsX10_readsDigits (wsV RX10 112 RX10 yX10_isDigit wsX10_isDigit) := goodIn_app (goodIn_of _ (by decide +kernel)) ggX10_readsDigits_X10_isDigit
set_option maxRecDepth 20000 in
theorem ggX10_readsDigits_X10_figure : GoodIn wsX10_readsDigits wsX10_figure := goodIn_r _ [24, 14, 15, 17, 3, 4, 5, 6, 7, 8, 9, 10, 11, 12, 13, 16, 18, 19, 20, 29, 30, 31, 32, 33, 34, 35, 36, 37, 38, 39, 40, 41, 42, 43, 44, 45, 46, 47, 48, 49, 50] (by decide +kernel) (by decide +kernel)
set_option maxRecDepth 20000 in
theorem gX10_readsDigits_X10_figure : GoodIn wsX10_readsDigits (wsV RX10 116 RX10 yX10_figure wsX10_figure) := goodIn_app (goodIn_of _ (by decide +kernel)) ggX10_readsDigits_X10_figure
set_option maxRecDepth 20000 in
theorem ggX10_readsDigits_X10_tells : GoodIn wsX10_readsDigits wsX10_tells := goodIn_r _ [28, 1, 2, 29, 30, 31, 32, 33, 34, 35, 36, 37, 38, 39, 40, 41, 42, 43, 44, 45, 46, 47, 48, 49, 50] (by decide +kernel) (by decide +kernel)
set_option maxRecDepth 20000 in
theorem gX10_readsDigits_X10_tells : GoodIn wsX10_readsDigits (wsV RX10 125 RX10 yX10_tells wsX10_tells) := goodIn_app (goodIn_of _ (by decide +kernel)) ggX10_readsDigits_X10_tells
theorem dX10_readsDigits_0 : decode cX10_readsDigits 0 = .ok (.bipush 14, 2) := by decide +kernel
theorem dX10_readsDigits_2 : decode cX10_readsDigits 2 = .ok (.aload_n 0, 1) := by decide +kernel
theorem dX10_readsDigits_3 : decode cX10_readsDigits 3 = .ok (.getfield 119, 3) := by decide +kernel
theorem dX10_readsDigits_6 : decode cX10_readsDigits 6 = .ok (.imul, 1) := by decide +kernel
theorem dX10_readsDigits_7 : decode cX10_readsDigits 7 = .ok (.istore_n 3, 1) := by decide +kernel
theorem dX10_readsDigits_8 : decode cX10_readsDigits 8 = .ok (.aload_n 0, 1) := by decide +kernel
theorem dX10_readsDigits_9 : decode cX10_readsDigits 9 = .ok (.getfield 24, 3) := by decide +kernel
theorem dX10_readsDigits_12 : decode cX10_readsDigits 12 = .ok (.iload_n 3, 1) := by decide +kernel
theorem dX10_readsDigits_13 : decode cX10_readsDigits 13 = .ok (.iconst 1, 1) := by decide +kernel
theorem dX10_readsDigits_14 : decode cX10_readsDigits 14 = .ok (.iadd, 1) := by decide +kernel
theorem dX10_readsDigits_15 : decode cX10_readsDigits 15 = .ok (.iaload, 1) := by decide +kernel
theorem dX10_readsDigits_16 : decode cX10_readsDigits 16 = .ok (.iload_n 1, 1) := by decide +kernel
theorem dX10_readsDigits_17 : decode cX10_readsDigits 17 = .ok (.if_icmp .lt 22, 3) := by decide +kernel
theorem dX10_readsDigits_20 : decode cX10_readsDigits 20 = .ok (.aload_n 0, 1) := by decide +kernel
theorem dX10_readsDigits_21 : decode cX10_readsDigits 21 = .ok (.invokevirtual 112, 3) := by decide +kernel
theorem dX10_readsDigits_24 : decode cX10_readsDigits 24 = .ok (.ifCond .eq 26, 3) := by decide +kernel
theorem dX10_readsDigits_27 : decode cX10_readsDigits 27 = .ok (.aload_n 0, 1) := by decide +kernel
theorem dX10_readsDigits_28 : decode cX10_readsDigits 28 = .ok (.getfield 24, 3) := by decide +kernel
theorem dX10_readsDigits_31 : decode cX10_readsDigits 31 = .ok (.iload_n 3, 1) := by decide +kernel
theorem dX10_readsDigits_32 : decode cX10_readsDigits 32 = .ok (.iconst 1, 1) := by decide +kernel
theorem dX10_readsDigits_33 : decode cX10_readsDigits 33 = .ok (.iadd, 1) := by decide +kernel
theorem dX10_readsDigits_34 : decode cX10_readsDigits 34 = .ok (.iaload, 1) := by decide +kernel
theorem dX10_readsDigits_35 : decode cX10_readsDigits 35 = .ok (.iload_n 2, 1) := by decide +kernel
theorem dX10_readsDigits_36 : decode cX10_readsDigits 36 = .ok (.if_icmp .ge 14, 3) := by decide +kernel
theorem dX10_readsDigits_39 : decode cX10_readsDigits 39 = .ok (.aload_n 0, 1) := by decide +kernel
theorem dX10_readsDigits_40 : decode cX10_readsDigits 40 = .ok (.aload_n 0, 1) := by decide +kernel
theorem dX10_readsDigits_41 : decode cX10_readsDigits 41 = .ok (.invokevirtual 116, 3) := by decide +kernel
theorem dX10_readsDigits_44 : decode cX10_readsDigits 44 = .ok (.invokevirtual 125, 3) := by decide +kernel
theorem dX10_readsDigits_47 : decode cX10_readsDigits 47 = .ok (.goto (-39), 3) := by decide +kernel
theorem dX10_readsDigits_50 : decode cX10_readsDigits 50 = .ok (.return_, 1) := by decide +kernel
set_option maxRecDepth 20000 in
theorem ggX10_readsClause_X10_here : GoodIn wsX10_readsClause wsX10_here := goodIn_r _ [9, 3, 4, 10, 11, 41, 42, 43, 44, 45, 46, 47, 48, 49, 50, 51, 52, 53, 54, 55, 56, 57, 58, 59, 60, 61, 62] (by decide +kernel) (by decide +kernel)
set_option maxRecDepth 20000 in
theorem gX10_readsClause_X10_here : GoodIn wsX10_readsClause (wsV RX10 104 RX10 yX10_here wsX10_here) := goodIn_app (goodIn_of _ (by decide +kernel)) ggX10_readsClause_X10_here
set_option maxRecDepth 20000 in
theorem ggX10_readsClause_X10_readsDigits : GoodIn wsX10_readsClause wsX10_readsDigits := goodIn_r _ [15, 1, 2, 16, 17, 18, 8, 19, 20, 21, 5, 6, 7, 9, 3, 4, 10, 11, 22, 23, 24, 25, 26, 27, 28, 29, 30, 31, 32, 41, 42, 43, 44, 45, 46, 47, 48, 49, 50, 51, 52, 53, 54, 55, 56, 57, 58, 59, 60, 61, 62] (by decide +kernel) (by decide +kernel)
set_option maxRecDepth 20000 in
theorem gX10_readsClause_X10_readsDigits : GoodIn wsX10_readsClause (wsV RX10 129 RX10 yX10_readsDigits wsX10_readsDigits) := goodIn_app (goodIn_of _ (by decide +kernel)) ggX10_readsClause_X10_readsDigits
set_option maxRecDepth 20000 in
theorem ggX10_readsClause_X10_readsNumbers : GoodIn wsX10_readsClause wsX10_readsNumbers := goodIn_r _ [36, 1, 2, 4, 37, 38, 39, 8, 40, 25, 26, 27, 28, 3, 11, 16, 17, 18, 19, 20, 21, 5, 6, 7, 9, 10, 22, 23, 24, 29, 30, 31, 32, 41, 42, 43, 44, 45, 46, 47, 48, 49, 50, 51, 52, 53, 54, 55, 56, 57, 58, 59, 60, 61, 62] (by decide +kernel) (by decide +kernel)
set_option maxRecDepth 20000 in
theorem gX10_readsClause_X10_readsNumbers : GoodIn wsX10_readsClause (wsV RX10 133 RX10 yX10_readsNumbers wsX10_readsNumbers) := goodIn_app (goodIn_of _ (by decide +kernel)) ggX10_readsClause_X10_readsNumbers
theorem dX10_readsClause_0 : decode cX10_readsClause 0 = .ok (.aload_n 0, 1) := by decide +kernel
theorem dX10_readsClause_1 : decode cX10_readsClause 1 = .ok (.invokevirtual 104, 3) := by decide +kernel
theorem dX10_readsClause_4 : decode cX10_readsClause 4 = .ok (.istore_n 1, 1) := by decide +kernel
theorem dX10_readsClause_5 : decode cX10_readsClause 5 = .ok (.bipush 14, 2) := by decide +kernel
theorem dX10_readsClause_7 : decode cX10_readsClause 7 = .ok (.aload_n 0, 1) := by decide +kernel
theorem dX10_readsClause_8 : decode cX10_readsClause 8 = .ok (.getfield 119, 3) := by decide +kernel
theorem dX10_readsClause_11 : decode cX10_readsClause 11 = .ok (.imul, 1) := by decide +kernel
theorem dX10_readsClause_12 : decode cX10_readsClause 12 = .ok (.istore_n 2, 1) := by decide +kernel
theorem dX10_readsClause_13 : decode cX10_readsClause 13 = .ok (.aload_n 0, 1) := by decide +kernel
theorem dX10_readsClause_14 : decode cX10_readsClause 14 = .ok (.getfield 24, 3) := by decide +kernel
theorem dX10_readsClause_17 : decode cX10_readsClause 17 = .ok (.iload_n 2, 1) := by decide +kernel
theorem dX10_readsClause_18 : decode cX10_readsClause 18 = .ok (.iload_n 1, 1) := by decide +kernel
theorem dX10_readsClause_19 : decode cX10_readsClause 19 = .ok (.iastore, 1) := by decide +kernel
theorem dX10_readsClause_20 : decode cX10_readsClause 20 = .ok (.aload_n 0, 1) := by decide +kernel
theorem dX10_readsClause_21 : decode cX10_readsClause 21 = .ok (.getfield 24, 3) := by decide +kernel
theorem dX10_readsClause_24 : decode cX10_readsClause 24 = .ok (.iload_n 2, 1) := by decide +kernel
theorem dX10_readsClause_25 : decode cX10_readsClause 25 = .ok (.iconst 1, 1) := by decide +kernel
theorem dX10_readsClause_26 : decode cX10_readsClause 26 = .ok (.iadd, 1) := by decide +kernel
theorem dX10_readsClause_27 : decode cX10_readsClause 27 = .ok (.iconst 0, 1) := by decide +kernel
theorem dX10_readsClause_28 : decode cX10_readsClause 28 = .ok (.iastore, 1) := by decide +kernel
theorem dX10_readsClause_29 : decode cX10_readsClause 29 = .ok (.iload_n 1, 1) := by decide +kernel
theorem dX10_readsClause_30 : decode cX10_readsClause 30 = .ok (.bipush 98, 2) := by decide +kernel
theorem dX10_readsClause_32 : decode cX10_readsClause 32 = .ok (.if_icmp .eq 44, 3) := by decide +kernel
theorem dX10_readsClause_35 : decode cX10_readsClause 35 = .ok (.iload_n 1, 1) := by decide +kernel
theorem dX10_readsClause_36 : decode cX10_readsClause 36 = .ok (.bipush 119, 2) := by decide +kernel
theorem dX10_readsClause_38 : decode cX10_readsClause 38 = .ok (.if_icmp .eq 38, 3) := by decide +kernel
theorem dX10_readsClause_41 : decode cX10_readsClause 41 = .ok (.iload_n 1, 1) := by decide +kernel
theorem dX10_readsClause_42 : decode cX10_readsClause 42 = .ok (.bipush 107, 2) := by decide +kernel
theorem dX10_readsClause_44 : decode cX10_readsClause 44 = .ok (.if_icmp .eq 32, 3) := by decide +kernel
theorem dX10_readsClause_47 : decode cX10_readsClause 47 = .ok (.iload_n 1, 1) := by decide +kernel
theorem dX10_readsClause_48 : decode cX10_readsClause 48 = .ok (.bipush 116, 2) := by decide +kernel
theorem dX10_readsClause_50 : decode cX10_readsClause 50 = .ok (.if_icmp .eq 26, 3) := by decide +kernel
theorem dX10_readsClause_53 : decode cX10_readsClause 53 = .ok (.aload_n 0, 1) := by decide +kernel
theorem dX10_readsClause_54 : decode cX10_readsClause 54 = .ok (.aload_n 0, 1) := by decide +kernel
theorem dX10_readsClause_55 : decode cX10_readsClause 55 = .ok (.getfield 98, 3) := by decide +kernel
theorem dX10_readsClause_58 : decode cX10_readsClause 58 = .ok (.ifCond .ge 10, 3) := by decide +kernel
theorem dX10_readsClause_61 : decode cX10_readsClause 61 = .ok (.aload_n 0, 1) := by decide +kernel
theorem dX10_readsClause_62 : decode cX10_readsClause 62 = .ok (.getfield 101, 3) := by decide +kernel
theorem dX10_readsClause_65 : decode cX10_readsClause 65 = .ok (.goto 7, 3) := by decide +kernel
theorem dX10_readsClause_68 : decode cX10_readsClause 68 = .ok (.aload_n 0, 1) := by decide +kernel
theorem dX10_readsClause_69 : decode cX10_readsClause 69 = .ok (.getfield 98, 3) := by decide +kernel
theorem dX10_readsClause_72 : decode cX10_readsClause 72 = .ok (.putfield 98, 3) := by decide +kernel
theorem dX10_readsClause_75 : decode cX10_readsClause 75 = .ok (.return_, 1) := by decide +kernel
theorem dX10_readsClause_76 : decode cX10_readsClause 76 = .ok (.aload_n 0, 1) := by decide +kernel
theorem dX10_readsClause_77 : decode cX10_readsClause 77 = .ok (.dup, 1) := by decide +kernel
theorem dX10_readsClause_78 : decode cX10_readsClause 78 = .ok (.getfield 101, 3) := by decide +kernel
theorem dX10_readsClause_81 : decode cX10_readsClause 81 = .ok (.iconst 1, 1) := by decide +kernel
theorem dX10_readsClause_82 : decode cX10_readsClause 82 = .ok (.iadd, 1) := by decide +kernel
theorem dX10_readsClause_83 : decode cX10_readsClause 83 = .ok (.putfield 101, 3) := by decide +kernel
theorem dX10_readsClause_86 : decode cX10_readsClause 86 = .ok (.iload_n 1, 1) := by decide +kernel
theorem dX10_readsClause_87 : decode cX10_readsClause 87 = .ok (.bipush 98, 2) := by decide +kernel
theorem dX10_readsClause_89 : decode cX10_readsClause 89 = .ok (.if_icmp .ne 12, 3) := by decide +kernel
theorem dX10_readsClause_92 : decode cX10_readsClause 92 = .ok (.aload_n 0, 1) := by decide +kernel
theorem dX10_readsClause_93 : decode cX10_readsClause 93 = .ok (.iconst 1, 1) := by decide +kernel
theorem dX10_readsClause_94 : decode cX10_readsClause 94 = .ok (.iconst 5, 1) := by decide +kernel
theorem dX10_readsClause_95 : decode cX10_readsClause 95 = .ok (.invokevirtual 129, 3) := by decide +kernel
theorem dX10_readsClause_98 : decode cX10_readsClause 98 = .ok (.goto 35, 3) := by decide +kernel
theorem dX10_readsClause_101 : decode cX10_readsClause 101 = .ok (.iload_n 1, 1) := by decide +kernel
theorem dX10_readsClause_102 : decode cX10_readsClause 102 = .ok (.bipush 107, 2) := by decide +kernel
theorem dX10_readsClause_104 : decode cX10_readsClause 104 = .ok (.if_icmp .ne 12, 3) := by decide +kernel
theorem dX10_readsClause_107 : decode cX10_readsClause 107 = .ok (.aload_n 0, 1) := by decide +kernel
theorem dX10_readsClause_108 : decode cX10_readsClause 108 = .ok (.iconst 3, 1) := by decide +kernel
theorem dX10_readsClause_109 : decode cX10_readsClause 109 = .ok (.iconst 3, 1) := by decide +kernel
theorem dX10_readsClause_110 : decode cX10_readsClause 110 = .ok (.invokevirtual 129, 3) := by decide +kernel
theorem dX10_readsClause_113 : decode cX10_readsClause 113 = .ok (.goto 20, 3) := by decide +kernel
theorem dX10_readsClause_116 : decode cX10_readsClause 116 = .ok (.aload_n 0, 1) := by decide +kernel
theorem dX10_readsClause_117 : decode cX10_readsClause 117 = .ok (.iload_n 1, 1) := by decide +kernel
theorem dX10_readsClause_118 : decode cX10_readsClause 118 = .ok (.bipush 119, 2) := by decide +kernel
theorem dX10_readsClause_120 : decode cX10_readsClause 120 = .ok (.if_icmp .ne 8, 3) := by decide +kernel
theorem dX10_readsClause_123 : decode cX10_readsClause 123 = .ok (.bipush 8, 2) := by decide +kernel
theorem dX10_readsClause_125 : decode cX10_readsClause 125 = .ok (.goto 5, 3) := by decide +kernel
theorem dX10_readsClause_128 : decode cX10_readsClause 128 = .ok (.bipush 12, 2) := by decide +kernel
theorem dX10_readsClause_130 : decode cX10_readsClause 130 = .ok (.invokevirtual 133, 3) := by decide +kernel
theorem dX10_readsClause_133 : decode cX10_readsClause 133 = .ok (.aload_n 0, 1) := by decide +kernel
theorem dX10_readsClause_134 : decode cX10_readsClause 134 = .ok (.dup, 1) := by decide +kernel
theorem dX10_readsClause_135 : decode cX10_readsClause 135 = .ok (.getfield 119, 3) := by decide +kernel
theorem dX10_readsClause_138 : decode cX10_readsClause 138 = .ok (.iconst 1, 1) := by decide +kernel
theorem dX10_readsClause_139 : decode cX10_readsClause 139 = .ok (.iadd, 1) := by decide +kernel
theorem dX10_readsClause_140 : decode cX10_readsClause 140 = .ok (.putfield 119, 3) := by decide +kernel
theorem dX10_readsClause_143 : decode cX10_readsClause 143 = .ok (.return_, 1) := by decide +kernel
theorem dX10_rains_0 : decode cX10_rains 0 = .ok (.iconst 0, 1) := by decide +kernel
theorem dX10_rains_1 : decode cX10_rains 1 = .ok (.istore_n 2, 1) := by decide +kernel
theorem dX10_rains_2 : decode cX10_rains 2 = .ok (.iload_n 2, 1) := by decide +kernel
theorem dX10_rains_3 : decode cX10_rains 3 = .ok (.aload_n 0, 1) := by decide +kernel
theorem dX10_rains_4 : decode cX10_rains 4 = .ok (.getfield 24, 3) := by decide +kernel
theorem dX10_rains_7 : decode cX10_rains 7 = .ok (.iload_n 1, 1) := by decide +kernel
theorem dX10_rains_8 : decode cX10_rains 8 = .ok (.iconst 1, 1) := by decide +kernel
theorem dX10_rains_9 : decode cX10_rains 9 = .ok (.iadd, 1) := by decide +kernel
theorem dX10_rains_10 : decode cX10_rains 10 = .ok (.iaload, 1) := by decide +kernel
theorem dX10_rains_11 : decode cX10_rains 11 = .ok (.if_icmp .ge 26, 3) := by decide +kernel
theorem dX10_rains_14 : decode cX10_rains 14 = .ok (.aload_n 0, 1) := by decide +kernel
theorem dX10_rains_15 : decode cX10_rains 15 = .ok (.getfield 24, 3) := by decide +kernel
theorem dX10_rains_18 : decode cX10_rains 18 = .ok (.iload_n 1, 1) := by decide +kernel
theorem dX10_rains_19 : decode cX10_rains 19 = .ok (.iconst 2, 1) := by decide +kernel
theorem dX10_rains_20 : decode cX10_rains 20 = .ok (.iadd, 1) := by decide +kernel
theorem dX10_rains_21 : decode cX10_rains 21 = .ok (.iload_n 2, 1) := by decide +kernel
theorem dX10_rains_22 : decode cX10_rains 22 = .ok (.iadd, 1) := by decide +kernel
theorem dX10_rains_23 : decode cX10_rains 23 = .ok (.iaload, 1) := by decide +kernel
theorem dX10_rains_24 : decode cX10_rains 24 = .ok (.bipush 20, 2) := by decide +kernel
theorem dX10_rains_26 : decode cX10_rains 26 = .ok (.if_icmp .le 5, 3) := by decide +kernel
theorem dX10_rains_29 : decode cX10_rains 29 = .ok (.iconst 0, 1) := by decide +kernel
theorem dX10_rains_30 : decode cX10_rains 30 = .ok (.ireturn, 1) := by decide +kernel
theorem dX10_rains_31 : decode cX10_rains 31 = .ok (.iinc 2 1, 3) := by decide +kernel
theorem dX10_rains_34 : decode cX10_rains 34 = .ok (.goto (-32), 3) := by decide +kernel
theorem dX10_rains_37 : decode cX10_rains 37 = .ok (.iconst 0, 1) := by decide +kernel
theorem dX10_rains_38 : decode cX10_rains 38 = .ok (.istore_n 2, 1) := by decide +kernel
theorem dX10_rains_39 : decode cX10_rains 39 = .ok (.iload_n 2, 1) := by decide +kernel
theorem dX10_rains_40 : decode cX10_rains 40 = .ok (.bipush 8, 2) := by decide +kernel
theorem dX10_rains_42 : decode cX10_rains 42 = .ok (.if_icmp .ge 41, 3) := by decide +kernel
theorem dX10_rains_45 : decode cX10_rains 45 = .ok (.aload_n 0, 1) := by decide +kernel
theorem dX10_rains_46 : decode cX10_rains 46 = .ok (.getfield 11, 3) := by decide +kernel
theorem dX10_rains_49 : decode cX10_rains 49 = .ok (.iload_n 2, 1) := by decide +kernel
theorem dX10_rains_50 : decode cX10_rains 50 = .ok (.iload_n 2, 1) := by decide +kernel
theorem dX10_rains_51 : decode cX10_rains 51 = .ok (.aload_n 0, 1) := by decide +kernel
theorem dX10_rains_52 : decode cX10_rains 52 = .ok (.getfield 24, 3) := by decide +kernel
theorem dX10_rains_55 : decode cX10_rains 55 = .ok (.iload_n 1, 1) := by decide +kernel
theorem dX10_rains_56 : decode cX10_rains 56 = .ok (.iconst 1, 1) := by decide +kernel
theorem dX10_rains_57 : decode cX10_rains 57 = .ok (.iadd, 1) := by decide +kernel
theorem dX10_rains_58 : decode cX10_rains 58 = .ok (.iaload, 1) := by decide +kernel
theorem dX10_rains_59 : decode cX10_rains 59 = .ok (.if_icmp .ge 16, 3) := by decide +kernel
theorem dX10_rains_62 : decode cX10_rains 62 = .ok (.aload_n 0, 1) := by decide +kernel
theorem dX10_rains_63 : decode cX10_rains 63 = .ok (.getfield 24, 3) := by decide +kernel
theorem dX10_rains_66 : decode cX10_rains 66 = .ok (.iload_n 1, 1) := by decide +kernel
theorem dX10_rains_67 : decode cX10_rains 67 = .ok (.iconst 2, 1) := by decide +kernel
theorem dX10_rains_68 : decode cX10_rains 68 = .ok (.iadd, 1) := by decide +kernel
theorem dX10_rains_69 : decode cX10_rains 69 = .ok (.iload_n 2, 1) := by decide +kernel
theorem dX10_rains_70 : decode cX10_rains 70 = .ok (.iadd, 1) := by decide +kernel
theorem dX10_rains_71 : decode cX10_rains 71 = .ok (.iaload, 1) := by decide +kernel
theorem dX10_rains_72 : decode cX10_rains 72 = .ok (.goto 4, 3) := by decide +kernel
theorem dX10_rains_75 : decode cX10_rains 75 = .ok (.iconst 0, 1) := by decide +kernel
theorem dX10_rains_76 : decode cX10_rains 76 = .ok (.iastore, 1) := by decide +kernel
theorem dX10_rains_77 : decode cX10_rains 77 = .ok (.iinc 2 1, 3) := by decide +kernel
theorem dX10_rains_80 : decode cX10_rains 80 = .ok (.goto (-41), 3) := by decide +kernel
theorem dX10_rains_83 : decode cX10_rains 83 = .ok (.iconst 1, 1) := by decide +kernel
theorem dX10_rains_84 : decode cX10_rains 84 = .ok (.ireturn, 1) := by decide +kernel
theorem dX10_tellsAll_0 : decode cX10_tellsAll 0 = .ok (.iconst 0, 1) := by decide +kernel
theorem dX10_tellsAll_1 : decode cX10_tellsAll 1 = .ok (.istore_n 2, 1) := by decide +kernel
theorem dX10_tellsAll_2 : decode cX10_tellsAll 2 = .ok (.iload_n 2, 1) := by decide +kernel
theorem dX10_tellsAll_3 : decode cX10_tellsAll 3 = .ok (.bipush 12, 2) := by decide +kernel
theorem dX10_tellsAll_5 : decode cX10_tellsAll 5 = .ok (.if_icmp .ge 44, 3) := by decide +kernel
theorem dX10_tellsAll_8 : decode cX10_tellsAll 8 = .ok (.aload_n 0, 1) := by decide +kernel
theorem dX10_tellsAll_9 : decode cX10_tellsAll 9 = .ok (.getfield 11, 3) := by decide +kernel
theorem dX10_tellsAll_12 : decode cX10_tellsAll 12 = .ok (.bipush 8, 2) := by decide +kernel
theorem dX10_tellsAll_14 : decode cX10_tellsAll 14 = .ok (.iload_n 2, 1) := by decide +kernel
theorem dX10_tellsAll_15 : decode cX10_tellsAll 15 = .ok (.iadd, 1) := by decide +kernel
theorem dX10_tellsAll_16 : decode cX10_tellsAll 16 = .ok (.iload_n 2, 1) := by decide +kernel
theorem dX10_tellsAll_17 : decode cX10_tellsAll 17 = .ok (.aload_n 0, 1) := by decide +kernel
theorem dX10_tellsAll_18 : decode cX10_tellsAll 18 = .ok (.getfield 24, 3) := by decide +kernel
theorem dX10_tellsAll_21 : decode cX10_tellsAll 21 = .ok (.iload_n 1, 1) := by decide +kernel
theorem dX10_tellsAll_22 : decode cX10_tellsAll 22 = .ok (.iconst 1, 1) := by decide +kernel
theorem dX10_tellsAll_23 : decode cX10_tellsAll 23 = .ok (.iadd, 1) := by decide +kernel
theorem dX10_tellsAll_24 : decode cX10_tellsAll 24 = .ok (.iaload, 1) := by decide +kernel
theorem dX10_tellsAll_25 : decode cX10_tellsAll 25 = .ok (.if_icmp .ge 16, 3) := by decide +kernel
theorem dX10_tellsAll_28 : decode cX10_tellsAll 28 = .ok (.aload_n 0, 1) := by decide +kernel
theorem dX10_tellsAll_29 : decode cX10_tellsAll 29 = .ok (.getfield 24, 3) := by decide +kernel
theorem dX10_tellsAll_32 : decode cX10_tellsAll 32 = .ok (.iload_n 1, 1) := by decide +kernel
theorem dX10_tellsAll_33 : decode cX10_tellsAll 33 = .ok (.iconst 2, 1) := by decide +kernel
theorem dX10_tellsAll_34 : decode cX10_tellsAll 34 = .ok (.iadd, 1) := by decide +kernel
theorem dX10_tellsAll_35 : decode cX10_tellsAll 35 = .ok (.iload_n 2, 1) := by decide +kernel
theorem dX10_tellsAll_36 : decode cX10_tellsAll 36 = .ok (.iadd, 1) := by decide +kernel
theorem dX10_tellsAll_37 : decode cX10_tellsAll 37 = .ok (.iaload, 1) := by decide +kernel
theorem dX10_tellsAll_38 : decode cX10_tellsAll 38 = .ok (.goto 4, 3) := by decide +kernel
theorem dX10_tellsAll_41 : decode cX10_tellsAll 41 = .ok (.iconst 0, 1) := by decide +kernel
theorem dX10_tellsAll_42 : decode cX10_tellsAll 42 = .ok (.iastore, 1) := by decide +kernel
theorem dX10_tellsAll_43 : decode cX10_tellsAll 43 = .ok (.iinc 2 1, 3) := by decide +kernel
theorem dX10_tellsAll_46 : decode cX10_tellsAll 46 = .ok (.goto (-44), 3) := by decide +kernel
theorem dX10_tellsAll_49 : decode cX10_tellsAll 49 = .ok (.iconst 1, 1) := by decide +kernel
theorem dX10_tellsAll_50 : decode cX10_tellsAll 50 = .ok (.ireturn, 1) := by decide +kernel
set_option maxRecDepth 20000 in
theorem ggX10_basinComes_X10_comes : GoodIn wsX10_basinComes wsX10_comes := goodIn_r _ [7, 8, 2, 9, 10, 11, 12, 13, 14, 15, 16, 17, 18, 19, 20, 21, 22, 23, 24, 25, 26, 27, 28, 29, 30] (by decide +kernel) (by decide +kernel)
set_option maxRecDepth 20000 in
theorem gX10_basinComes_X10_comes : GoodIn wsX10_basinComes (wsV RX10 77 RX10 yX10_comes wsX10_comes) := goodIn_app (goodIn_of _ (by decide +kernel)) ggX10_basinComes_X10_comes
theorem dX10_basinComes_0 : decode cX10_basinComes 0 = .ok (.iconst 0, 1) := by decide +kernel
theorem dX10_basinComes_1 : decode cX10_basinComes 1 = .ok (.istore_n 2, 1) := by decide +kernel
theorem dX10_basinComes_2 : decode cX10_basinComes 2 = .ok (.iload_n 2, 1) := by decide +kernel
theorem dX10_basinComes_3 : decode cX10_basinComes 3 = .ok (.aload_n 0, 1) := by decide +kernel
theorem dX10_basinComes_4 : decode cX10_basinComes 4 = .ok (.getfield 24, 3) := by decide +kernel
theorem dX10_basinComes_7 : decode cX10_basinComes 7 = .ok (.iload_n 1, 1) := by decide +kernel
theorem dX10_basinComes_8 : decode cX10_basinComes 8 = .ok (.iconst 1, 1) := by decide +kernel
theorem dX10_basinComes_9 : decode cX10_basinComes 9 = .ok (.iadd, 1) := by decide +kernel
theorem dX10_basinComes_10 : decode cX10_basinComes 10 = .ok (.iaload, 1) := by decide +kernel
theorem dX10_basinComes_11 : decode cX10_basinComes 11 = .ok (.if_icmp .ge 25, 3) := by decide +kernel
theorem dX10_basinComes_14 : decode cX10_basinComes 14 = .ok (.aload_n 0, 1) := by decide +kernel
theorem dX10_basinComes_15 : decode cX10_basinComes 15 = .ok (.getfield 18, 3) := by decide +kernel
theorem dX10_basinComes_18 : decode cX10_basinComes 18 = .ok (.iload_n 2, 1) := by decide +kernel
theorem dX10_basinComes_19 : decode cX10_basinComes 19 = .ok (.aload_n 0, 1) := by decide +kernel
theorem dX10_basinComes_20 : decode cX10_basinComes 20 = .ok (.getfield 24, 3) := by decide +kernel
theorem dX10_basinComes_23 : decode cX10_basinComes 23 = .ok (.iload_n 1, 1) := by decide +kernel
theorem dX10_basinComes_24 : decode cX10_basinComes 24 = .ok (.iconst 2, 1) := by decide +kernel
theorem dX10_basinComes_25 : decode cX10_basinComes 25 = .ok (.iadd, 1) := by decide +kernel
theorem dX10_basinComes_26 : decode cX10_basinComes 26 = .ok (.iload_n 2, 1) := by decide +kernel
theorem dX10_basinComes_27 : decode cX10_basinComes 27 = .ok (.iadd, 1) := by decide +kernel
theorem dX10_basinComes_28 : decode cX10_basinComes 28 = .ok (.iaload, 1) := by decide +kernel
theorem dX10_basinComes_29 : decode cX10_basinComes 29 = .ok (.iastore, 1) := by decide +kernel
theorem dX10_basinComes_30 : decode cX10_basinComes 30 = .ok (.iinc 2 1, 3) := by decide +kernel
theorem dX10_basinComes_33 : decode cX10_basinComes 33 = .ok (.goto (-31), 3) := by decide +kernel
theorem dX10_basinComes_36 : decode cX10_basinComes 36 = .ok (.aload_n 0, 1) := by decide +kernel
theorem dX10_basinComes_37 : decode cX10_basinComes 37 = .ok (.getfield 18, 3) := by decide +kernel
theorem dX10_basinComes_40 : decode cX10_basinComes 40 = .ok (.iconst 0, 1) := by decide +kernel
theorem dX10_basinComes_41 : decode cX10_basinComes 41 = .ok (.iaload, 1) := by decide +kernel
theorem dX10_basinComes_42 : decode cX10_basinComes 42 = .ok (.ifCond .le 22, 3) := by decide +kernel
theorem dX10_basinComes_45 : decode cX10_basinComes 45 = .ok (.aload_n 0, 1) := by decide +kernel
theorem dX10_basinComes_46 : decode cX10_basinComes 46 = .ok (.aload_n 0, 1) := by decide +kernel
theorem dX10_basinComes_47 : decode cX10_basinComes 47 = .ok (.getfield 24, 3) := by decide +kernel
theorem dX10_basinComes_50 : decode cX10_basinComes 50 = .ok (.iload_n 1, 1) := by decide +kernel
theorem dX10_basinComes_51 : decode cX10_basinComes 51 = .ok (.iconst 1, 1) := by decide +kernel
theorem dX10_basinComes_52 : decode cX10_basinComes 52 = .ok (.iadd, 1) := by decide +kernel
theorem dX10_basinComes_53 : decode cX10_basinComes 53 = .ok (.iaload, 1) := by decide +kernel
theorem dX10_basinComes_54 : decode cX10_basinComes 54 = .ok (.invokevirtual 77, 3) := by decide +kernel
theorem dX10_basinComes_57 : decode cX10_basinComes 57 = .ok (.ifCond .lt 7, 3) := by decide +kernel
theorem dX10_basinComes_60 : decode cX10_basinComes 60 = .ok (.iconst 1, 1) := by decide +kernel
theorem dX10_basinComes_61 : decode cX10_basinComes 61 = .ok (.goto 4, 3) := by decide +kernel
theorem dX10_basinComes_64 : decode cX10_basinComes 64 = .ok (.iconst 0, 1) := by decide +kernel
theorem dX10_basinComes_65 : decode cX10_basinComes 65 = .ok (.ireturn, 1) := by decide +kernel
set_option maxRecDepth 20000 in
theorem ggX10_isDone_X10_basinComes : GoodIn wsX10_isDone wsX10_basinComes := goodIn_r _ [6, 1, 7, 8, 9, 10, 5, 11, 12, 34, 35, 36, 37, 38, 39, 40, 41, 42, 43, 44, 45, 46, 47, 48, 49, 50, 51, 52, 53, 54, 55] (by decide +kernel) (by decide +kernel)
set_option maxRecDepth 20000 in
theorem gX10_isDone_X10_basinComes : GoodIn wsX10_isDone (wsV RX10 136 RX10 yX10_basinComes wsX10_basinComes) := goodIn_app (goodIn_of _ (by decide +kernel)) ggX10_isDone_X10_basinComes
set_option maxRecDepth 20000 in
theorem ggX10_isDone_X10_rains : GoodIn wsX10_isDone wsX10_rains := goodIn_r _ [16, 1, 12, 34, 35, 36, 37, 38, 39, 40, 41, 42, 43, 44, 45, 46, 47, 48, 49, 50, 51, 52, 53, 54, 55] (by decide +kernel) (by decide +kernel)
set_option maxRecDepth 20000 in
theorem gX10_isDone_X10_rains : GoodIn wsX10_isDone (wsV RX10 139 RX10 yX10_rains wsX10_rains) := goodIn_app (goodIn_of _ (by decide +kernel)) ggX10_isDone_X10_rains
set_option maxRecDepth 20000 in
theorem ggX10_isDone_X10_hold : GoodIn wsX10_isDone wsX10_hold := goodIn_r _ [20, 21, 22, 12, 23, 24, 25, 5, 26, 27, 28, 29, 34, 35, 36, 37, 38, 39, 40, 41, 42, 43, 44, 45, 46, 47, 48, 49, 50, 51, 52, 53, 54, 55] (by decide +kernel) (by decide +kernel)
set_option maxRecDepth 20000 in
theorem gX10_isDone_X10_hold : GoodIn wsX10_isDone (wsV RX10 142 RX10 yX10_hold wsX10_hold) := goodIn_app (goodIn_of _ (by decide +kernel)) ggX10_isDone_X10_hold
set_option maxRecDepth 20000 in
theorem ggX10_isDone_X10_tellsAll : GoodIn wsX10_isDone wsX10_tellsAll := goodIn_r _ [33, 12, 1, 34, 35, 36, 37, 38, 39, 40, 41, 42, 43, 44, 45, 46, 47, 48, 49, 50, 51, 52, 53, 54, 55] (by decide +kernel) (by decide +kernel)
set_option maxRecDepth 20000 in
theorem gX10_isDone_X10_tellsAll : GoodIn wsX10_isDone (wsV RX10 146 RX10 yX10_tellsAll wsX10_tellsAll) := goodIn_app (goodIn_of _ (by decide +kernel)) ggX10_isDone_X10_tellsAll
theorem dX10_isDone_0 : decode cX10_isDone 0 = .ok (.aload_n 0, 1) := by decide +kernel
theorem dX10_isDone_1 : decode cX10_isDone 1 = .ok (.getfield 24, 3) := by decide +kernel
theorem dX10_isDone_4 : decode cX10_isDone 4 = .ok (.iload_n 1, 1) := by decide +kernel
theorem dX10_isDone_5 : decode cX10_isDone 5 = .ok (.iaload, 1) := by decide +kernel
theorem dX10_isDone_6 : decode cX10_isDone 6 = .ok (.lookupswitch 83 #[(98, 34), (107, 46), (119, 40)], 34) := by decide +kernel
theorem dX10_isDone_40 : decode cX10_isDone 40 = .ok (.aload_n 0, 1) := by decide +kernel
theorem dX10_isDone_41 : decode cX10_isDone 41 = .ok (.iload_n 1, 1) := by decide +kernel
theorem dX10_isDone_42 : decode cX10_isDone 42 = .ok (.invokevirtual 136, 3) := by decide +kernel
theorem dX10_isDone_45 : decode cX10_isDone 45 = .ok (.ireturn, 1) := by decide +kernel
theorem dX10_isDone_46 : decode cX10_isDone 46 = .ok (.aload_n 0, 1) := by decide +kernel
theorem dX10_isDone_47 : decode cX10_isDone 47 = .ok (.iload_n 1, 1) := by decide +kernel
theorem dX10_isDone_48 : decode cX10_isDone 48 = .ok (.invokevirtual 139, 3) := by decide +kernel
theorem dX10_isDone_51 : decode cX10_isDone 51 = .ok (.ireturn, 1) := by decide +kernel
theorem dX10_isDone_52 : decode cX10_isDone 52 = .ok (.aload_n 0, 1) := by decide +kernel
theorem dX10_isDone_53 : decode cX10_isDone 53 = .ok (.aload_n 0, 1) := by decide +kernel
theorem dX10_isDone_54 : decode cX10_isDone 54 = .ok (.getfield 24, 3) := by decide +kernel
theorem dX10_isDone_57 : decode cX10_isDone 57 = .ok (.iload_n 1, 1) := by decide +kernel
theorem dX10_isDone_58 : decode cX10_isDone 58 = .ok (.iconst 2, 1) := by decide +kernel
theorem dX10_isDone_59 : decode cX10_isDone 59 = .ok (.iadd, 1) := by decide +kernel
theorem dX10_isDone_60 : decode cX10_isDone 60 = .ok (.iaload, 1) := by decide +kernel
theorem dX10_isDone_61 : decode cX10_isDone 61 = .ok (.aload_n 0, 1) := by decide +kernel
theorem dX10_isDone_62 : decode cX10_isDone 62 = .ok (.getfield 24, 3) := by decide +kernel
theorem dX10_isDone_65 : decode cX10_isDone 65 = .ok (.iload_n 1, 1) := by decide +kernel
theorem dX10_isDone_66 : decode cX10_isDone 66 = .ok (.iconst 3, 1) := by decide +kernel
theorem dX10_isDone_67 : decode cX10_isDone 67 = .ok (.iadd, 1) := by decide +kernel
theorem dX10_isDone_68 : decode cX10_isDone 68 = .ok (.iaload, 1) := by decide +kernel
theorem dX10_isDone_69 : decode cX10_isDone 69 = .ok (.aload_n 0, 1) := by decide +kernel
theorem dX10_isDone_70 : decode cX10_isDone 70 = .ok (.getfield 24, 3) := by decide +kernel
theorem dX10_isDone_73 : decode cX10_isDone 73 = .ok (.iload_n 1, 1) := by decide +kernel
theorem dX10_isDone_74 : decode cX10_isDone 74 = .ok (.iconst 4, 1) := by decide +kernel
theorem dX10_isDone_75 : decode cX10_isDone 75 = .ok (.iadd, 1) := by decide +kernel
theorem dX10_isDone_76 : decode cX10_isDone 76 = .ok (.iaload, 1) := by decide +kernel
theorem dX10_isDone_77 : decode cX10_isDone 77 = .ok (.invokevirtual 142, 3) := by decide +kernel
theorem dX10_isDone_80 : decode cX10_isDone 80 = .ok (.ifCond .lt 7, 3) := by decide +kernel
theorem dX10_isDone_83 : decode cX10_isDone 83 = .ok (.iconst 1, 1) := by decide +kernel
theorem dX10_isDone_84 : decode cX10_isDone 84 = .ok (.goto 4, 3) := by decide +kernel
theorem dX10_isDone_87 : decode cX10_isDone 87 = .ok (.iconst 0, 1) := by decide +kernel
theorem dX10_isDone_88 : decode cX10_isDone 88 = .ok (.ireturn, 1) := by decide +kernel
theorem dX10_isDone_89 : decode cX10_isDone 89 = .ok (.aload_n 0, 1) := by decide +kernel
theorem dX10_isDone_90 : decode cX10_isDone 90 = .ok (.iload_n 1, 1) := by decide +kernel
theorem dX10_isDone_91 : decode cX10_isDone 91 = .ok (.invokevirtual 146, 3) := by decide +kernel
theorem dX10_isDone_94 : decode cX10_isDone 94 = .ok (.ireturn, 1) := by decide +kernel
set_option maxRecDepth 20000 in
theorem ggX10_read_X10_readsClause : GoodIn wsX10_read wsX10_readsClause := goodIn_r _ [9, 3, 10, 2, 1, 11, 12, 13, 8, 14, 4, 15, 16, 17, 18, 19, 20, 21, 22, 23, 24, 25, 26, 27, 28, 29, 30, 31, 32, 33, 34, 35, 36, 37, 38, 39, 40, 41, 42, 43, 44, 77, 78, 79, 80, 81, 82, 83, 84, 85, 86, 87, 88, 89, 90, 91, 92, 93, 94, 95, 96, 97, 98] (by decide +kernel) (by decide +kernel)
set_option maxRecDepth 20000 in
theorem gX10_read_X10_readsClause : GoodIn wsX10_read (wsV RX10 149 RX10 yX10_readsClause wsX10_readsClause) := goodIn_app (goodIn_of _ (by decide +kernel)) ggX10_read_X10_readsClause
set_option maxRecDepth 20000 in
theorem ggX10_read_X10_here : GoodIn wsX10_read wsX10_here := goodIn_r _ [14, 2, 1, 4, 15, 77, 78, 79, 80, 81, 82, 83, 84, 85, 86, 87, 88, 89, 90, 91, 92, 93, 94, 95, 96, 97, 98] (by decide +kernel) (by decide +kernel)
set_option maxRecDepth 20000 in
theorem gX10_read_X10_here : GoodIn wsX10_read (wsV RX10 104 RX10 yX10_here wsX10_here) := goodIn_app (goodIn_of _ (by decide +kernel)) ggX10_read_X10_here
set_option maxRecDepth 20000 in
theorem ggX10_read_X10_isDone : GoodIn wsX10_read wsX10_isDone := goodIn_r _ [48, 10, 49, 50, 51, 8, 52, 53, 54, 55, 56, 57, 58, 59, 60, 61, 62, 63, 64, 65, 66, 67, 68, 69, 70, 71, 72, 26, 27, 28, 73, 74, 75, 76, 77, 78, 79, 80, 81, 82, 83, 84, 85, 86, 87, 88, 89, 90, 91, 92, 93, 94, 95, 96, 97, 98] (by decide +kernel) (by decide +kernel)
set_option maxRecDepth 20000 in
theorem gX10_read_X10_isDone : GoodIn wsX10_read (wsV RX10 152 RX10 yX10_isDone wsX10_isDone) := goodIn_app (goodIn_of _ (by decide +kernel)) ggX10_read_X10_isDone
theorem dX10_read_0 : decode cX10_read 0 = .ok (.aload_n 0, 1) := by decide +kernel
theorem dX10_read_1 : decode cX10_read 1 = .ok (.iconst 0, 1) := by decide +kernel
theorem dX10_read_2 : decode cX10_read 2 = .ok (.putfield 101, 3) := by decide +kernel
theorem dX10_read_5 : decode cX10_read 5 = .ok (.aload_n 0, 1) := by decide +kernel
theorem dX10_read_6 : decode cX10_read 6 = .ok (.iconst (-1), 1) := by decide +kernel
theorem dX10_read_7 : decode cX10_read 7 = .ok (.putfield 98, 3) := by decide +kernel
theorem dX10_read_10 : decode cX10_read 10 = .ok (.aload_n 0, 1) := by decide +kernel
theorem dX10_read_11 : decode cX10_read 11 = .ok (.iconst 0, 1) := by decide +kernel
theorem dX10_read_12 : decode cX10_read 12 = .ok (.putfield 119, 3) := by decide +kernel
theorem dX10_read_15 : decode cX10_read 15 = .ok (.iconst 1, 1) := by decide +kernel
theorem dX10_read_16 : decode cX10_read 16 = .ok (.istore_n 1, 1) := by decide +kernel
theorem dX10_read_17 : decode cX10_read 17 = .ok (.iload_n 1, 1) := by decide +kernel
theorem dX10_read_18 : decode cX10_read 18 = .ok (.ifCond .eq 52, 3) := by decide +kernel
theorem dX10_read_21 : decode cX10_read 21 = .ok (.aload_n 0, 1) := by decide +kernel
theorem dX10_read_22 : decode cX10_read 22 = .ok (.invokevirtual 149, 3) := by decide +kernel
theorem dX10_read_25 : decode cX10_read 25 = .ok (.aload_n 0, 1) := by decide +kernel
theorem dX10_read_26 : decode cX10_read 26 = .ok (.invokevirtual 104, 3) := by decide +kernel
theorem dX10_read_29 : decode cX10_read 29 = .ok (.bipush 59, 2) := by decide +kernel
theorem dX10_read_31 : decode cX10_read 31 = .ok (.if_icmp .ne 16, 3) := by decide +kernel
theorem dX10_read_34 : decode cX10_read 34 = .ok (.aload_n 0, 1) := by decide +kernel
theorem dX10_read_35 : decode cX10_read 35 = .ok (.getfield 119, 3) := by decide +kernel
theorem dX10_read_38 : decode cX10_read 38 = .ok (.bipush 12, 2) := by decide +kernel
theorem dX10_read_40 : decode cX10_read 40 = .ok (.if_icmp .ge 7, 3) := by decide +kernel
theorem dX10_read_43 : decode cX10_read 43 = .ok (.iconst 1, 1) := by decide +kernel
theorem dX10_read_44 : decode cX10_read 44 = .ok (.goto 4, 3) := by decide +kernel
theorem dX10_read_47 : decode cX10_read 47 = .ok (.iconst 0, 1) := by decide +kernel
theorem dX10_read_48 : decode cX10_read 48 = .ok (.istore_n 1, 1) := by decide +kernel
theorem dX10_read_49 : decode cX10_read 49 = .ok (.aload_n 0, 1) := by decide +kernel
theorem dX10_read_50 : decode cX10_read 50 = .ok (.dup, 1) := by decide +kernel
theorem dX10_read_51 : decode cX10_read 51 = .ok (.getfield 101, 3) := by decide +kernel
theorem dX10_read_54 : decode cX10_read 54 = .ok (.iload_n 1, 1) := by decide +kernel
theorem dX10_read_55 : decode cX10_read 55 = .ok (.ifCond .eq 7, 3) := by decide +kernel
theorem dX10_read_58 : decode cX10_read 58 = .ok (.iconst 1, 1) := by decide +kernel
theorem dX10_read_59 : decode cX10_read 59 = .ok (.goto 4, 3) := by decide +kernel
theorem dX10_read_62 : decode cX10_read 62 = .ok (.iconst 0, 1) := by decide +kernel
theorem dX10_read_63 : decode cX10_read 63 = .ok (.iadd, 1) := by decide +kernel
theorem dX10_read_64 : decode cX10_read 64 = .ok (.putfield 101, 3) := by decide +kernel
theorem dX10_read_67 : decode cX10_read 67 = .ok (.goto (-50), 3) := by decide +kernel
theorem dX10_read_70 : decode cX10_read 70 = .ok (.aload_n 0, 1) := by decide +kernel
theorem dX10_read_71 : decode cX10_read 71 = .ok (.getfield 98, 3) := by decide +kernel
theorem dX10_read_74 : decode cX10_read 74 = .ok (.ifCond .ge 22, 3) := by decide +kernel
theorem dX10_read_77 : decode cX10_read 77 = .ok (.aload_n 0, 1) := by decide +kernel
theorem dX10_read_78 : decode cX10_read 78 = .ok (.getfield 101, 3) := by decide +kernel
theorem dX10_read_81 : decode cX10_read 81 = .ok (.aload_n 0, 1) := by decide +kernel
theorem dX10_read_82 : decode cX10_read 82 = .ok (.getfield 94, 3) := by decide +kernel
theorem dX10_read_85 : decode cX10_read 85 = .ok (.if_icmp .ge 11, 3) := by decide +kernel
theorem dX10_read_88 : decode cX10_read 88 = .ok (.aload_n 0, 1) := by decide +kernel
theorem dX10_read_89 : decode cX10_read 89 = .ok (.aload_n 0, 1) := by decide +kernel
theorem dX10_read_90 : decode cX10_read 90 = .ok (.getfield 101, 3) := by decide +kernel
theorem dX10_read_93 : decode cX10_read 93 = .ok (.putfield 98, 3) := by decide +kernel
theorem dX10_read_96 : decode cX10_read 96 = .ok (.aload_n 0, 1) := by decide +kernel
theorem dX10_read_97 : decode cX10_read 97 = .ok (.iconst 0, 1) := by decide +kernel
theorem dX10_read_98 : decode cX10_read 98 = .ok (.putfield 94, 3) := by decide +kernel
theorem dX10_read_101 : decode cX10_read 101 = .ok (.aload_n 0, 1) := by decide +kernel
theorem dX10_read_102 : decode cX10_read 102 = .ok (.getfield 98, 3) := by decide +kernel
theorem dX10_read_105 : decode cX10_read 105 = .ok (.ifCond .lt 11, 3) := by decide +kernel
theorem dX10_read_108 : decode cX10_read 108 = .ok (.bipush (-10), 2) := by decide +kernel
theorem dX10_read_110 : decode cX10_read 110 = .ok (.aload_n 0, 1) := by decide +kernel
theorem dX10_read_111 : decode cX10_read 111 = .ok (.getfield 98, 3) := by decide +kernel
theorem dX10_read_114 : decode cX10_read 114 = .ok (.isub, 1) := by decide +kernel
theorem dX10_read_115 : decode cX10_read 115 = .ok (.ireturn, 1) := by decide +kernel
theorem dX10_read_116 : decode cX10_read 116 = .ok (.iconst 0, 1) := by decide +kernel
theorem dX10_read_117 : decode cX10_read 117 = .ok (.istore_n 2, 1) := by decide +kernel
theorem dX10_read_118 : decode cX10_read 118 = .ok (.iconst 0, 1) := by decide +kernel
theorem dX10_read_119 : decode cX10_read 119 = .ok (.istore_n 3, 1) := by decide +kernel
theorem dX10_read_120 : decode cX10_read 120 = .ok (.iload_n 3, 1) := by decide +kernel
theorem dX10_read_121 : decode cX10_read 121 = .ok (.aload_n 0, 1) := by decide +kernel
theorem dX10_read_122 : decode cX10_read 122 = .ok (.getfield 119, 3) := by decide +kernel
theorem dX10_read_125 : decode cX10_read 125 = .ok (.if_icmp .ge 28, 3) := by decide +kernel
theorem dX10_read_128 : decode cX10_read 128 = .ok (.iload_n 2, 1) := by decide +kernel
theorem dX10_read_129 : decode cX10_read 129 = .ok (.aload_n 0, 1) := by decide +kernel
theorem dX10_read_130 : decode cX10_read 130 = .ok (.bipush 14, 2) := by decide +kernel
theorem dX10_read_132 : decode cX10_read 132 = .ok (.iload_n 3, 1) := by decide +kernel
theorem dX10_read_133 : decode cX10_read 133 = .ok (.imul, 1) := by decide +kernel
theorem dX10_read_134 : decode cX10_read 134 = .ok (.invokevirtual 152, 3) := by decide +kernel
theorem dX10_read_137 : decode cX10_read 137 = .ok (.ifCond .eq 7, 3) := by decide +kernel
theorem dX10_read_140 : decode cX10_read 140 = .ok (.iconst 1, 1) := by decide +kernel
theorem dX10_read_141 : decode cX10_read 141 = .ok (.goto 4, 3) := by decide +kernel
theorem dX10_read_144 : decode cX10_read 144 = .ok (.iconst 0, 1) := by decide +kernel
theorem dX10_read_145 : decode cX10_read 145 = .ok (.iadd, 1) := by decide +kernel
theorem dX10_read_146 : decode cX10_read 146 = .ok (.istore_n 2, 1) := by decide +kernel
theorem dX10_read_147 : decode cX10_read 147 = .ok (.iinc 3 1, 3) := by decide +kernel
theorem dX10_read_150 : decode cX10_read 150 = .ok (.goto (-30), 3) := by decide +kernel
theorem dX10_read_153 : decode cX10_read 153 = .ok (.iload_n 2, 1) := by decide +kernel
theorem dX10_read_154 : decode cX10_read 154 = .ok (.ireturn, 1) := by decide +kernel
set_option maxRecDepth 20000 in
theorem ggX10_flows_X10_in : GoodIn wsX10_flows wsX10_in := goodIn_r _ [7] (by decide +kernel) (by decide +kernel)
set_option maxRecDepth 20000 in
theorem gX10_flows_X10_in : GoodIn wsX10_flows (va_wsS RX10 61 yX10_in wsX10_in) := goodIn_app (goodIn_of _ (by decide +kernel)) ggX10_flows_X10_in
set_option maxRecDepth 20000 in
theorem ggX10_flows_X10_answer : GoodIn wsX10_flows wsX10_answer := goodIn_r _ [11, 3, 12, 13, 14, 15, 16, 17, 18, 19, 20, 21, 22, 23, 24, 25, 26, 27, 28, 29, 30, 31, 32, 33] (by decide +kernel) (by decide +kernel)
set_option maxRecDepth 20000 in
theorem gX10_flows_X10_answer : GoodIn wsX10_flows (wsV RX10 155 RX10 yX10_answer wsX10_answer) := goodIn_app (goodIn_of _ (by decide +kernel)) ggX10_flows_X10_answer
theorem dX10_flows_0 : decode cX10_flows 0 = .ok (.iconst 0, 1) := by decide +kernel
theorem dX10_flows_1 : decode cX10_flows 1 = .ok (.istore_n 2, 1) := by decide +kernel
theorem dX10_flows_2 : decode cX10_flows 2 = .ok (.iload_n 2, 1) := by decide +kernel
theorem dX10_flows_3 : decode cX10_flows 3 = .ok (.bipush 30, 2) := by decide +kernel
theorem dX10_flows_5 : decode cX10_flows 5 = .ok (.if_icmp .ge 72, 3) := by decide +kernel
theorem dX10_flows_8 : decode cX10_flows 8 = .ok (.aload_n 0, 1) := by decide +kernel
theorem dX10_flows_9 : decode cX10_flows 9 = .ok (.getfield 27, 3) := by decide +kernel
theorem dX10_flows_12 : decode cX10_flows 12 = .ok (.iload_n 2, 1) := by decide +kernel
theorem dX10_flows_13 : decode cX10_flows 13 = .ok (.iconst 0, 1) := by decide +kernel
theorem dX10_flows_14 : decode cX10_flows 14 = .ok (.iastore, 1) := by decide +kernel
theorem dX10_flows_15 : decode cX10_flows 15 = .ok (.iconst 0, 1) := by decide +kernel
theorem dX10_flows_16 : decode cX10_flows 16 = .ok (.istore_n 3, 1) := by decide +kernel
theorem dX10_flows_17 : decode cX10_flows 17 = .ok (.iload_n 3, 1) := by decide +kernel
theorem dX10_flows_18 : decode cX10_flows 18 = .ok (.bipush 8, 2) := by decide +kernel
theorem dX10_flows_20 : decode cX10_flows 20 = .ok (.if_icmp .ge 51, 3) := by decide +kernel
theorem dX10_flows_23 : decode cX10_flows 23 = .ok (.aload_n 0, 1) := by decide +kernel
theorem dX10_flows_24 : decode cX10_flows 24 = .ok (.getfield 27, 3) := by decide +kernel
theorem dX10_flows_27 : decode cX10_flows 27 = .ok (.iload_n 2, 1) := by decide +kernel
theorem dX10_flows_28 : decode cX10_flows 28 = .ok (.dup2, 1) := by decide +kernel
theorem dX10_flows_29 : decode cX10_flows 29 = .ok (.iaload, 1) := by decide +kernel
theorem dX10_flows_30 : decode cX10_flows 30 = .ok (.iload_n 2, 1) := by decide +kernel
theorem dX10_flows_31 : decode cX10_flows 31 = .ok (.iload_n 3, 1) := by decide +kernel
theorem dX10_flows_32 : decode cX10_flows 32 = .ok (.isub, 1) := by decide +kernel
theorem dX10_flows_33 : decode cX10_flows 33 = .ok (.i2l, 1) := by decide +kernel
theorem dX10_flows_34 : decode cX10_flows 34 = .ok (.lconst 0, 1) := by decide +kernel
theorem dX10_flows_35 : decode cX10_flows 35 = .ok (.ldc2_w 84, 3) := by decide +kernel
theorem dX10_flows_38 : decode cX10_flows 38 = .ok (.invokestatic 61, 3) := by decide +kernel
theorem dX10_flows_41 : decode cX10_flows 41 = .ok (.ifCond .eq 21, 3) := by decide +kernel
theorem dX10_flows_44 : decode cX10_flows 44 = .ok (.aload_n 0, 1) := by decide +kernel
theorem dX10_flows_45 : decode cX10_flows 45 = .ok (.getfield 11, 3) := by decide +kernel
theorem dX10_flows_48 : decode cX10_flows 48 = .ok (.iload_n 3, 1) := by decide +kernel
theorem dX10_flows_49 : decode cX10_flows 49 = .ok (.iaload, 1) := by decide +kernel
theorem dX10_flows_50 : decode cX10_flows 50 = .ok (.aload_n 0, 1) := by decide +kernel
theorem dX10_flows_51 : decode cX10_flows 51 = .ok (.iload_n 1, 1) := by decide +kernel
theorem dX10_flows_52 : decode cX10_flows 52 = .ok (.iload_n 2, 1) := by decide +kernel
theorem dX10_flows_53 : decode cX10_flows 53 = .ok (.iload_n 3, 1) := by decide +kernel
theorem dX10_flows_54 : decode cX10_flows 54 = .ok (.isub, 1) := by decide +kernel
theorem dX10_flows_55 : decode cX10_flows 55 = .ok (.invokevirtual 155, 3) := by decide +kernel
theorem dX10_flows_58 : decode cX10_flows 58 = .ok (.imul, 1) := by decide +kernel
theorem dX10_flows_59 : decode cX10_flows 59 = .ok (.goto 4, 3) := by decide +kernel
theorem dX10_flows_62 : decode cX10_flows 62 = .ok (.iconst 0, 1) := by decide +kernel
theorem dX10_flows_63 : decode cX10_flows 63 = .ok (.iadd, 1) := by decide +kernel
theorem dX10_flows_64 : decode cX10_flows 64 = .ok (.iastore, 1) := by decide +kernel
theorem dX10_flows_65 : decode cX10_flows 65 = .ok (.iinc 3 1, 3) := by decide +kernel
theorem dX10_flows_68 : decode cX10_flows 68 = .ok (.goto (-51), 3) := by decide +kernel
theorem dX10_flows_71 : decode cX10_flows 71 = .ok (.iinc 2 1, 3) := by decide +kernel
theorem dX10_flows_74 : decode cX10_flows 74 = .ok (.goto (-72), 3) := by decide +kernel
theorem dX10_flows_77 : decode cX10_flows 77 = .ok (.return_, 1) := by decide +kernel
theorem dX10_goesOut_0 : decode cX10_goesOut 0 = .ok (.iload_n 0, 1) := by decide +kernel
theorem dX10_goesOut_1 : decode cX10_goesOut 1 = .ok (.iconst 2, 1) := by decide +kernel
theorem dX10_goesOut_2 : decode cX10_goesOut 2 = .ok (.if_icmp .ne 9, 3) := by decide +kernel
theorem dX10_goesOut_5 : decode cX10_goesOut 5 = .ok (.iload_n 2, 1) := by decide +kernel
theorem dX10_goesOut_6 : decode cX10_goesOut 6 = .ok (.iload_n 1, 1) := by decide +kernel
theorem dX10_goesOut_7 : decode cX10_goesOut 7 = .ok (.idiv, 1) := by decide +kernel
theorem dX10_goesOut_8 : decode cX10_goesOut 8 = .ok (.goto 23, 3) := by decide +kernel
theorem dX10_goesOut_11 : decode cX10_goesOut 11 = .ok (.iload_n 0, 1) := by decide +kernel
theorem dX10_goesOut_12 : decode cX10_goesOut 12 = .ok (.iconst 3, 1) := by decide +kernel
theorem dX10_goesOut_13 : decode cX10_goesOut 13 = .ok (.if_icmp .ne 11, 3) := by decide +kernel
theorem dX10_goesOut_16 : decode cX10_goesOut 16 = .ok (.iload_n 2, 1) := by decide +kernel
theorem dX10_goesOut_17 : decode cX10_goesOut 17 = .ok (.iload_n 1, 1) := by decide +kernel
theorem dX10_goesOut_18 : decode cX10_goesOut 18 = .ok (.invokestatic 159, 3) := by decide +kernel
theorem dX10_goesOut_21 : decode cX10_goesOut 21 = .ok (.goto 10, 3) := by decide +kernel
theorem dX10_goesOut_24 : decode cX10_goesOut 24 = .ok (.iconst 0, 1) := by decide +kernel
theorem dX10_goesOut_25 : decode cX10_goesOut 25 = .ok (.iload_n 2, 1) := by decide +kernel
theorem dX10_goesOut_26 : decode cX10_goesOut 26 = .ok (.iload_n 1, 1) := by decide +kernel
theorem dX10_goesOut_27 : decode cX10_goesOut 27 = .ok (.isub, 1) := by decide +kernel
theorem dX10_goesOut_28 : decode cX10_goesOut 28 = .ok (.invokestatic 164, 3) := by decide +kernel
theorem dX10_goesOut_31 : decode cX10_goesOut 31 = .ok (.ireturn, 1) := by decide +kernel
set_option maxRecDepth 20000 in
theorem ggX10_goes_X10_flows : GoodIn wsX10_goes wsX10_flows := goodIn_r _ [9, 4, 10, 1, 11, 12, 8, 13, 14, 15, 16, 17, 28, 29, 30, 31, 32, 33, 34, 35, 36, 37, 38, 39, 40, 41, 42, 43, 44, 45, 46, 47, 48, 49] (by decide +kernel) (by decide +kernel)
set_option maxRecDepth 20000 in
theorem gX10_goes_X10_flows : GoodIn wsX10_goes (wsV RX10 167 RX10 yX10_flows wsX10_flows) := goodIn_app (goodIn_of _ (by decide +kernel)) ggX10_goes_X10_flows
set_option maxRecDepth 20000 in
theorem ggX10_goes_X10_goesOut : GoodIn wsX10_goes wsX10_goesOut := goodIn_r _ [20, 21, 22, 23, 24, 25, 26, 27] (by decide +kernel) (by decide +kernel)
set_option maxRecDepth 20000 in
theorem gX10_goes_X10_goesOut : GoodIn wsX10_goes (va_wsS RX10 173 yX10_goesOut wsX10_goesOut) := goodIn_app (goodIn_of _ (by decide +kernel)) ggX10_goes_X10_goesOut
theorem dX10_goes_0 : decode cX10_goes 0 = .ok (.aload_n 0, 1) := by decide +kernel
theorem dX10_goes_1 : decode cX10_goes 1 = .ok (.iload_n 1, 1) := by decide +kernel
theorem dX10_goes_2 : decode cX10_goes 2 = .ok (.invokevirtual 167, 3) := by decide +kernel
theorem dX10_goes_5 : decode cX10_goes 5 = .ok (.aload_n 0, 1) := by decide +kernel
theorem dX10_goes_6 : decode cX10_goes 6 = .ok (.getfield 11, 3) := by decide +kernel
theorem dX10_goes_9 : decode cX10_goes 9 = .ok (.bipush 21, 2) := by decide +kernel
theorem dX10_goes_11 : decode cX10_goes 11 = .ok (.bipush 8, 2) := by decide +kernel
theorem dX10_goes_13 : decode cX10_goes 13 = .ok (.iload_n 1, 1) := by decide +kernel
theorem dX10_goes_14 : decode cX10_goes 14 = .ok (.imul, 1) := by decide +kernel
theorem dX10_goes_15 : decode cX10_goes 15 = .ok (.iadd, 1) := by decide +kernel
theorem dX10_goes_16 : decode cX10_goes 16 = .ok (.bipush 6, 2) := by decide +kernel
theorem dX10_goes_18 : decode cX10_goes 18 = .ok (.iadd, 1) := by decide +kernel
theorem dX10_goes_19 : decode cX10_goes 19 = .ok (.iaload, 1) := by decide +kernel
theorem dX10_goes_20 : decode cX10_goes 20 = .ok (.istore_n 2, 1) := by decide +kernel
theorem dX10_goes_21 : decode cX10_goes 21 = .ok (.aload_n 0, 1) := by decide +kernel
theorem dX10_goes_22 : decode cX10_goes 22 = .ok (.getfield 11, 3) := by decide +kernel
theorem dX10_goes_25 : decode cX10_goes 25 = .ok (.bipush 21, 2) := by decide +kernel
theorem dX10_goes_27 : decode cX10_goes 27 = .ok (.bipush 8, 2) := by decide +kernel
theorem dX10_goes_29 : decode cX10_goes 29 = .ok (.iload_n 1, 1) := by decide +kernel
theorem dX10_goes_30 : decode cX10_goes 30 = .ok (.imul, 1) := by decide +kernel
theorem dX10_goes_31 : decode cX10_goes 31 = .ok (.iadd, 1) := by decide +kernel
theorem dX10_goes_32 : decode cX10_goes 32 = .ok (.bipush 7, 2) := by decide +kernel
theorem dX10_goes_34 : decode cX10_goes 34 = .ok (.iadd, 1) := by decide +kernel
theorem dX10_goes_35 : decode cX10_goes 35 = .ok (.iaload, 1) := by decide +kernel
theorem dX10_goes_36 : decode cX10_goes 36 = .ok (.istore_n 3, 1) := by decide +kernel
theorem dX10_goes_37 : decode cX10_goes 37 = .ok (.aload_n 0, 1) := by decide +kernel
theorem dX10_goes_38 : decode cX10_goes 38 = .ok (.iconst 0, 1) := by decide +kernel
theorem dX10_goes_39 : decode cX10_goes 39 = .ok (.putfield 170, 3) := by decide +kernel
theorem dX10_goes_42 : decode cX10_goes 42 = .ok (.iconst 0, 1) := by decide +kernel
theorem dX10_goes_43 : decode cX10_goes 43 = .ok (.istore 4, 2) := by decide +kernel
theorem dX10_goes_45 : decode cX10_goes 45 = .ok (.iload 4, 2) := by decide +kernel
theorem dX10_goes_47 : decode cX10_goes 47 = .ok (.bipush 30, 2) := by decide +kernel
theorem dX10_goes_49 : decode cX10_goes 49 = .ok (.if_icmp .ge 112, 3) := by decide +kernel
theorem dX10_goes_52 : decode cX10_goes 52 = .ok (.iload_n 2, 1) := by decide +kernel
theorem dX10_goes_53 : decode cX10_goes 53 = .ok (.ifCond .ne 20, 3) := by decide +kernel
theorem dX10_goes_56 : decode cX10_goes 56 = .ok (.aload_n 0, 1) := by decide +kernel
theorem dX10_goes_57 : decode cX10_goes 57 = .ok (.getfield 30, 3) := by decide +kernel
theorem dX10_goes_60 : decode cX10_goes 60 = .ok (.iload 4, 2) := by decide +kernel
theorem dX10_goes_62 : decode cX10_goes 62 = .ok (.aload_n 0, 1) := by decide +kernel
theorem dX10_goes_63 : decode cX10_goes 63 = .ok (.getfield 27, 3) := by decide +kernel
theorem dX10_goes_66 : decode cX10_goes 66 = .ok (.iload 4, 2) := by decide +kernel
theorem dX10_goes_68 : decode cX10_goes 68 = .ok (.iaload, 1) := by decide +kernel
theorem dX10_goes_69 : decode cX10_goes 69 = .ok (.iastore, 1) := by decide +kernel
theorem dX10_goes_70 : decode cX10_goes 70 = .ok (.goto 85, 3) := by decide +kernel
theorem dX10_goes_73 : decode cX10_goes 73 = .ok (.iload_n 2, 1) := by decide +kernel
theorem dX10_goes_74 : decode cX10_goes 74 = .ok (.iconst 1, 1) := by decide +kernel
theorem dX10_goes_75 : decode cX10_goes 75 = .ok (.if_icmp .ne 32, 3) := by decide +kernel
theorem dX10_goes_78 : decode cX10_goes 78 = .ok (.aload_n 0, 1) := by decide +kernel
theorem dX10_goes_79 : decode cX10_goes 79 = .ok (.getfield 30, 3) := by decide +kernel
theorem dX10_goes_82 : decode cX10_goes 82 = .ok (.iload 4, 2) := by decide +kernel
theorem dX10_goes_84 : decode cX10_goes 84 = .ok (.iload 4, 2) := by decide +kernel
theorem dX10_goes_86 : decode cX10_goes 86 = .ok (.iload_n 3, 1) := by decide +kernel
theorem dX10_goes_87 : decode cX10_goes 87 = .ok (.if_icmp .ge 7, 3) := by decide +kernel
theorem dX10_goes_90 : decode cX10_goes 90 = .ok (.iconst 0, 1) := by decide +kernel
theorem dX10_goes_91 : decode cX10_goes 91 = .ok (.goto 12, 3) := by decide +kernel
theorem dX10_goes_94 : decode cX10_goes 94 = .ok (.aload_n 0, 1) := by decide +kernel
theorem dX10_goes_95 : decode cX10_goes 95 = .ok (.getfield 27, 3) := by decide +kernel
theorem dX10_goes_98 : decode cX10_goes 98 = .ok (.iload 4, 2) := by decide +kernel
theorem dX10_goes_100 : decode cX10_goes 100 = .ok (.iload_n 3, 1) := by decide +kernel
theorem dX10_goes_101 : decode cX10_goes 101 = .ok (.isub, 1) := by decide +kernel
theorem dX10_goes_102 : decode cX10_goes 102 = .ok (.iaload, 1) := by decide +kernel
theorem dX10_goes_103 : decode cX10_goes 103 = .ok (.iastore, 1) := by decide +kernel
theorem dX10_goes_104 : decode cX10_goes 104 = .ok (.goto 51, 3) := by decide +kernel
theorem dX10_goes_107 : decode cX10_goes 107 = .ok (.aload_n 0, 1) := by decide +kernel
theorem dX10_goes_108 : decode cX10_goes 108 = .ok (.dup, 1) := by decide +kernel
theorem dX10_goes_109 : decode cX10_goes 109 = .ok (.getfield 170, 3) := by decide +kernel
theorem dX10_goes_112 : decode cX10_goes 112 = .ok (.aload_n 0, 1) := by decide +kernel
theorem dX10_goes_113 : decode cX10_goes 113 = .ok (.getfield 27, 3) := by decide +kernel
theorem dX10_goes_116 : decode cX10_goes 116 = .ok (.iload 4, 2) := by decide +kernel
theorem dX10_goes_118 : decode cX10_goes 118 = .ok (.iaload, 1) := by decide +kernel
theorem dX10_goes_119 : decode cX10_goes 119 = .ok (.iadd, 1) := by decide +kernel
theorem dX10_goes_120 : decode cX10_goes 120 = .ok (.putfield 170, 3) := by decide +kernel
theorem dX10_goes_123 : decode cX10_goes 123 = .ok (.aload_n 0, 1) := by decide +kernel
theorem dX10_goes_124 : decode cX10_goes 124 = .ok (.getfield 30, 3) := by decide +kernel
theorem dX10_goes_127 : decode cX10_goes 127 = .ok (.iload 4, 2) := by decide +kernel
theorem dX10_goes_129 : decode cX10_goes 129 = .ok (.iload_n 2, 1) := by decide +kernel
theorem dX10_goes_130 : decode cX10_goes 130 = .ok (.iload_n 3, 1) := by decide +kernel
theorem dX10_goes_131 : decode cX10_goes 131 = .ok (.aload_n 0, 1) := by decide +kernel
theorem dX10_goes_132 : decode cX10_goes 132 = .ok (.getfield 170, 3) := by decide +kernel
theorem dX10_goes_135 : decode cX10_goes 135 = .ok (.invokestatic 173, 3) := by decide +kernel
theorem dX10_goes_138 : decode cX10_goes 138 = .ok (.iastore, 1) := by decide +kernel
theorem dX10_goes_139 : decode cX10_goes 139 = .ok (.aload_n 0, 1) := by decide +kernel
theorem dX10_goes_140 : decode cX10_goes 140 = .ok (.dup, 1) := by decide +kernel
theorem dX10_goes_141 : decode cX10_goes 141 = .ok (.getfield 170, 3) := by decide +kernel
theorem dX10_goes_144 : decode cX10_goes 144 = .ok (.aload_n 0, 1) := by decide +kernel
theorem dX10_goes_145 : decode cX10_goes 145 = .ok (.getfield 30, 3) := by decide +kernel
theorem dX10_goes_148 : decode cX10_goes 148 = .ok (.iload 4, 2) := by decide +kernel
theorem dX10_goes_150 : decode cX10_goes 150 = .ok (.iaload, 1) := by decide +kernel
theorem dX10_goes_151 : decode cX10_goes 151 = .ok (.isub, 1) := by decide +kernel
theorem dX10_goes_152 : decode cX10_goes 152 = .ok (.putfield 170, 3) := by decide +kernel
theorem dX10_goes_155 : decode cX10_goes 155 = .ok (.iinc 4 1, 3) := by decide +kernel
theorem dX10_goes_158 : decode cX10_goes 158 = .ok (.goto (-113), 3) := by decide +kernel
theorem dX10_goes_161 : decode cX10_goes 161 = .ok (.return_, 1) := by decide +kernel
set_option maxRecDepth 20000 in
theorem ggX10_joins_X10_goes : GoodIn wsX10_joins wsX10_goes := goodIn_r _ [8, 2, 9, 3, 10, 11, 12, 13, 7, 14, 15, 16, 17, 18, 19, 20, 21, 22, 23, 24, 25, 26, 27, 28, 29, 30, 31, 32, 33, 34, 35, 36, 37, 38, 39, 40, 41, 42, 43, 44, 45, 46, 47, 48, 49, 50, 51, 52, 53, 54] (by decide +kernel) (by decide +kernel)
set_option maxRecDepth 20000 in
theorem gX10_joins_X10_goes : GoodIn wsX10_joins (wsV RX10 176 RX10 yX10_goes wsX10_goes) := goodIn_app (goodIn_of _ (by decide +kernel)) ggX10_joins_X10_goes
theorem dX10_joins_0 : decode cX10_joins 0 = .ok (.iconst 0, 1) := by decide +kernel
theorem dX10_joins_1 : decode cX10_joins 1 = .ok (.istore_n 1, 1) := by decide +kernel
theorem dX10_joins_2 : decode cX10_joins 2 = .ok (.iload_n 1, 1) := by decide +kernel
theorem dX10_joins_3 : decode cX10_joins 3 = .ok (.bipush 30, 2) := by decide +kernel
theorem dX10_joins_5 : decode cX10_joins 5 = .ok (.if_icmp .ge 16, 3) := by decide +kernel
theorem dX10_joins_8 : decode cX10_joins 8 = .ok (.aload_n 0, 1) := by decide +kernel
theorem dX10_joins_9 : decode cX10_joins 9 = .ok (.getfield 33, 3) := by decide +kernel
theorem dX10_joins_12 : decode cX10_joins 12 = .ok (.iload_n 1, 1) := by decide +kernel
theorem dX10_joins_13 : decode cX10_joins 13 = .ok (.iconst 0, 1) := by decide +kernel
theorem dX10_joins_14 : decode cX10_joins 14 = .ok (.iastore, 1) := by decide +kernel
theorem dX10_joins_15 : decode cX10_joins 15 = .ok (.iinc 1 1, 3) := by decide +kernel
theorem dX10_joins_18 : decode cX10_joins 18 = .ok (.goto (-16), 3) := by decide +kernel
theorem dX10_joins_21 : decode cX10_joins 21 = .ok (.iconst 0, 1) := by decide +kernel
theorem dX10_joins_22 : decode cX10_joins 22 = .ok (.istore_n 1, 1) := by decide +kernel
theorem dX10_joins_23 : decode cX10_joins 23 = .ok (.iload_n 1, 1) := by decide +kernel
theorem dX10_joins_24 : decode cX10_joins 24 = .ok (.aload_n 0, 1) := by decide +kernel
theorem dX10_joins_25 : decode cX10_joins 25 = .ok (.getfield 11, 3) := by decide +kernel
theorem dX10_joins_28 : decode cX10_joins 28 = .ok (.bipush 20, 2) := by decide +kernel
theorem dX10_joins_30 : decode cX10_joins 30 = .ok (.iaload, 1) := by decide +kernel
theorem dX10_joins_31 : decode cX10_joins 31 = .ok (.if_icmp .ge 43, 3) := by decide +kernel
theorem dX10_joins_34 : decode cX10_joins 34 = .ok (.aload_n 0, 1) := by decide +kernel
theorem dX10_joins_35 : decode cX10_joins 35 = .ok (.iload_n 1, 1) := by decide +kernel
theorem dX10_joins_36 : decode cX10_joins 36 = .ok (.invokevirtual 176, 3) := by decide +kernel
theorem dX10_joins_39 : decode cX10_joins 39 = .ok (.iconst 0, 1) := by decide +kernel
theorem dX10_joins_40 : decode cX10_joins 40 = .ok (.istore_n 2, 1) := by decide +kernel
theorem dX10_joins_41 : decode cX10_joins 41 = .ok (.iload_n 2, 1) := by decide +kernel
theorem dX10_joins_42 : decode cX10_joins 42 = .ok (.bipush 30, 2) := by decide +kernel
theorem dX10_joins_44 : decode cX10_joins 44 = .ok (.if_icmp .ge 24, 3) := by decide +kernel
theorem dX10_joins_47 : decode cX10_joins 47 = .ok (.aload_n 0, 1) := by decide +kernel
theorem dX10_joins_48 : decode cX10_joins 48 = .ok (.getfield 33, 3) := by decide +kernel
theorem dX10_joins_51 : decode cX10_joins 51 = .ok (.iload_n 2, 1) := by decide +kernel
theorem dX10_joins_52 : decode cX10_joins 52 = .ok (.dup2, 1) := by decide +kernel
theorem dX10_joins_53 : decode cX10_joins 53 = .ok (.iaload, 1) := by decide +kernel
theorem dX10_joins_54 : decode cX10_joins 54 = .ok (.aload_n 0, 1) := by decide +kernel
theorem dX10_joins_55 : decode cX10_joins 55 = .ok (.getfield 30, 3) := by decide +kernel
theorem dX10_joins_58 : decode cX10_joins 58 = .ok (.iload_n 2, 1) := by decide +kernel
theorem dX10_joins_59 : decode cX10_joins 59 = .ok (.iaload, 1) := by decide +kernel
theorem dX10_joins_60 : decode cX10_joins 60 = .ok (.iadd, 1) := by decide +kernel
theorem dX10_joins_61 : decode cX10_joins 61 = .ok (.iastore, 1) := by decide +kernel
theorem dX10_joins_62 : decode cX10_joins 62 = .ok (.iinc 2 1, 3) := by decide +kernel
theorem dX10_joins_65 : decode cX10_joins 65 = .ok (.goto (-24), 3) := by decide +kernel
theorem dX10_joins_68 : decode cX10_joins 68 = .ok (.iinc 1 1, 3) := by decide +kernel
theorem dX10_joins_71 : decode cX10_joins 71 = .ok (.goto (-48), 3) := by decide +kernel
theorem dX10_joins_74 : decode cX10_joins 74 = .ok (.return_, 1) := by decide +kernel
set_option maxRecDepth 20000 in
theorem ggX10_peak_X10_joins : GoodIn wsX10_peak wsX10_joins := goodIn_r _ [6, 1, 7, 8, 9, 10, 11, 5, 12, 13, 14, 15, 16, 17, 18, 19, 20, 21, 22, 23, 24, 25, 26, 27, 28, 29, 30, 31, 32, 33, 34, 35, 36, 40, 41, 42, 43, 44, 45, 46, 47, 48, 49, 50, 51, 52, 53, 54, 55, 56, 57, 58, 59, 60, 61] (by decide +kernel) (by decide +kernel)
set_option maxRecDepth 20000 in
theorem gX10_peak_X10_joins : GoodIn wsX10_peak (wsV RX10 179 RX10 yX10_joins wsX10_joins) := goodIn_app (goodIn_of _ (by decide +kernel)) ggX10_peak_X10_joins
set_option maxRecDepth 20000 in
theorem ggX10_peak_X10_most : GoodIn wsX10_peak wsX10_most := goodIn_r _ [39] (by decide +kernel) (by decide +kernel)
set_option maxRecDepth 20000 in
theorem gX10_peak_X10_most : GoodIn wsX10_peak (va_wsS RX10 182 yX10_most wsX10_most) := goodIn_app (goodIn_of _ (by decide +kernel)) ggX10_peak_X10_most
theorem dX10_peak_0 : decode cX10_peak 0 = .ok (.aload_n 0, 1) := by decide +kernel
theorem dX10_peak_1 : decode cX10_peak 1 = .ok (.invokevirtual 179, 3) := by decide +kernel
theorem dX10_peak_4 : decode cX10_peak 4 = .ok (.aload_n 0, 1) := by decide +kernel
theorem dX10_peak_5 : decode cX10_peak 5 = .ok (.getfield 33, 3) := by decide +kernel
theorem dX10_peak_8 : decode cX10_peak 8 = .ok (.iconst 0, 1) := by decide +kernel
theorem dX10_peak_9 : decode cX10_peak 9 = .ok (.bipush 30, 2) := by decide +kernel
theorem dX10_peak_11 : decode cX10_peak 11 = .ok (.iconst 1, 1) := by decide +kernel
theorem dX10_peak_12 : decode cX10_peak 12 = .ok (.invokestatic 182, 3) := by decide +kernel
theorem dX10_peak_15 : decode cX10_peak 15 = .ok (.ireturn, 1) := by decide +kernel
theorem dX10_most_0 : decode cX10_most 0 = .ok (.iconst 0, 1) := by decide +kernel
theorem dX10_most_1 : decode cX10_most 1 = .ok (.istore 4, 2) := by decide +kernel
theorem dX10_most_3 : decode cX10_most 3 = .ok (.iconst 0, 1) := by decide +kernel
theorem dX10_most_4 : decode cX10_most 4 = .ok (.istore 5, 2) := by decide +kernel
theorem dX10_most_6 : decode cX10_most 6 = .ok (.iconst 0, 1) := by decide +kernel
theorem dX10_most_7 : decode cX10_most 7 = .ok (.istore 6, 2) := by decide +kernel
theorem dX10_most_9 : decode cX10_most 9 = .ok (.iload 6, 2) := by decide +kernel
theorem dX10_most_11 : decode cX10_most 11 = .ok (.iload_n 2, 1) := by decide +kernel
theorem dX10_most_12 : decode cX10_most 12 = .ok (.if_icmp .ge 44, 3) := by decide +kernel
theorem dX10_most_15 : decode cX10_most 15 = .ok (.iload 4, 2) := by decide +kernel
theorem dX10_most_17 : decode cX10_most 17 = .ok (.aload_n 0, 1) := by decide +kernel
theorem dX10_most_18 : decode cX10_most 18 = .ok (.iload_n 1, 1) := by decide +kernel
theorem dX10_most_19 : decode cX10_most 19 = .ok (.iload 6, 2) := by decide +kernel
theorem dX10_most_21 : decode cX10_most 21 = .ok (.iadd, 1) := by decide +kernel
theorem dX10_most_22 : decode cX10_most 22 = .ok (.iaload, 1) := by decide +kernel
theorem dX10_most_23 : decode cX10_most 23 = .ok (.iadd, 1) := by decide +kernel
theorem dX10_most_24 : decode cX10_most 24 = .ok (.istore 4, 2) := by decide +kernel
theorem dX10_most_26 : decode cX10_most 26 = .ok (.aload_n 0, 1) := by decide +kernel
theorem dX10_most_27 : decode cX10_most 27 = .ok (.iload_n 1, 1) := by decide +kernel
theorem dX10_most_28 : decode cX10_most 28 = .ok (.iload 6, 2) := by decide +kernel
theorem dX10_most_30 : decode cX10_most 30 = .ok (.iadd, 1) := by decide +kernel
theorem dX10_most_31 : decode cX10_most 31 = .ok (.iaload, 1) := by decide +kernel
theorem dX10_most_32 : decode cX10_most 32 = .ok (.aload_n 0, 1) := by decide +kernel
theorem dX10_most_33 : decode cX10_most 33 = .ok (.iload_n 1, 1) := by decide +kernel
theorem dX10_most_34 : decode cX10_most 34 = .ok (.iload 5, 2) := by decide +kernel
theorem dX10_most_36 : decode cX10_most 36 = .ok (.iadd, 1) := by decide +kernel
theorem dX10_most_37 : decode cX10_most 37 = .ok (.iaload, 1) := by decide +kernel
theorem dX10_most_38 : decode cX10_most 38 = .ok (.if_icmp .le 8, 3) := by decide +kernel
theorem dX10_most_41 : decode cX10_most 41 = .ok (.iload 6, 2) := by decide +kernel
theorem dX10_most_43 : decode cX10_most 43 = .ok (.goto 5, 3) := by decide +kernel
theorem dX10_most_46 : decode cX10_most 46 = .ok (.iload 5, 2) := by decide +kernel
theorem dX10_most_48 : decode cX10_most 48 = .ok (.istore 5, 2) := by decide +kernel
theorem dX10_most_50 : decode cX10_most 50 = .ok (.iinc 6 1, 3) := by decide +kernel
theorem dX10_most_53 : decode cX10_most 53 = .ok (.goto (-44), 3) := by decide +kernel
theorem dX10_most_56 : decode cX10_most 56 = .ok (.iload_n 3, 1) := by decide +kernel
theorem dX10_most_57 : decode cX10_most 57 = .ok (.ifCond .ne 8, 3) := by decide +kernel
theorem dX10_most_60 : decode cX10_most 60 = .ok (.iload 4, 2) := by decide +kernel
theorem dX10_most_62 : decode cX10_most 62 = .ok (.goto 19, 3) := by decide +kernel
theorem dX10_most_65 : decode cX10_most 65 = .ok (.iload_n 3, 1) := by decide +kernel
theorem dX10_most_66 : decode cX10_most 66 = .ok (.iconst 1, 1) := by decide +kernel
theorem dX10_most_67 : decode cX10_most 67 = .ok (.if_icmp .ne 12, 3) := by decide +kernel
theorem dX10_most_70 : decode cX10_most 70 = .ok (.aload_n 0, 1) := by decide +kernel
theorem dX10_most_71 : decode cX10_most 71 = .ok (.iload_n 1, 1) := by decide +kernel
theorem dX10_most_72 : decode cX10_most 72 = .ok (.iload 5, 2) := by decide +kernel
theorem dX10_most_74 : decode cX10_most 74 = .ok (.iadd, 1) := by decide +kernel
theorem dX10_most_75 : decode cX10_most 75 = .ok (.iaload, 1) := by decide +kernel
theorem dX10_most_76 : decode cX10_most 76 = .ok (.goto 5, 3) := by decide +kernel
theorem dX10_most_79 : decode cX10_most 79 = .ok (.iload 5, 2) := by decide +kernel
theorem dX10_most_81 : decode cX10_most 81 = .ok (.ireturn, 1) := by decide +kernel
set_option maxRecDepth 20000 in
theorem ggX10_of_X10_isRain : GoodIn wsX10_of wsX10_isRain := goodIn_r _ [7, 8, 9, 10, 6, 11] (by decide +kernel) (by decide +kernel)
set_option maxRecDepth 20000 in
theorem gX10_of_X10_isRain : GoodIn wsX10_of (va_wsS RX10 69 yX10_isRain wsX10_isRain) := goodIn_app (goodIn_of _ (by decide +kernel)) ggX10_of_X10_isRain
set_option maxRecDepth 20000 in
theorem ggX10_of_X10_in : GoodIn wsX10_of wsX10_in := goodIn_r _ [11] (by decide +kernel) (by decide +kernel)
set_option maxRecDepth 20000 in
theorem gX10_of_X10_in : GoodIn wsX10_of (va_wsS RX10 61 yX10_in wsX10_in) := goodIn_app (goodIn_of _ (by decide +kernel)) ggX10_of_X10_in
set_option maxRecDepth 20000 in
theorem ggX10_of_X10_isHour : GoodIn wsX10_of wsX10_isHour := goodIn_r _ [14, 15, 9, 10, 6, 11] (by decide +kernel) (by decide +kernel)
set_option maxRecDepth 20000 in
theorem gX10_of_X10_isHour : GoodIn wsX10_of (va_wsS RX10 186 yX10_isHour wsX10_isHour) := goodIn_app (goodIn_of _ (by decide +kernel)) ggX10_of_X10_isHour
set_option maxRecDepth 20000 in
theorem ggX10_of_X10_joins : GoodIn wsX10_of wsX10_joins := goodIn_r _ [19, 3, 1, 20, 21, 22, 23, 6, 24, 25, 26, 27, 28, 29, 30, 31, 9, 10, 11, 32, 33, 34, 35, 36, 37, 38, 39, 40, 41, 42, 43, 44, 45, 46, 47, 48, 49, 50, 51, 52, 53, 54, 55, 56, 57, 58, 59, 60, 61, 62, 63, 64, 65, 66, 67] (by decide +kernel) (by decide +kernel)
set_option maxRecDepth 20000 in
theorem gX10_of_X10_joins : GoodIn wsX10_of (wsV RX10 179 RX10 yX10_joins wsX10_joins) := goodIn_app (goodIn_of _ (by decide +kernel)) ggX10_of_X10_joins
theorem dX10_of_0 : decode cX10_of 0 = .ok (.iload_n 1, 1) := by decide +kernel
theorem dX10_of_1 : decode cX10_of 1 = .ok (.ifCond .ne 21, 3) := by decide +kernel
theorem dX10_of_4 : decode cX10_of 4 = .ok (.iload_n 2, 1) := by decide +kernel
theorem dX10_of_5 : decode cX10_of 5 = .ok (.invokestatic 69, 3) := by decide +kernel
theorem dX10_of_8 : decode cX10_of 8 = .ok (.ifCond .eq 12, 3) := by decide +kernel
theorem dX10_of_11 : decode cX10_of 11 = .ok (.aload_n 0, 1) := by decide +kernel
theorem dX10_of_12 : decode cX10_of 12 = .ok (.getfield 11, 3) := by decide +kernel
theorem dX10_of_15 : decode cX10_of 15 = .ok (.iload_n 2, 1) := by decide +kernel
theorem dX10_of_16 : decode cX10_of 16 = .ok (.iaload, 1) := by decide +kernel
theorem dX10_of_17 : decode cX10_of 17 = .ok (.goto 4, 3) := by decide +kernel
theorem dX10_of_20 : decode cX10_of 20 = .ok (.iconst (-1), 1) := by decide +kernel
theorem dX10_of_21 : decode cX10_of 21 = .ok (.ireturn, 1) := by decide +kernel
theorem dX10_of_22 : decode cX10_of 22 = .ok (.iload_n 1, 1) := by decide +kernel
theorem dX10_of_23 : decode cX10_of 23 = .ok (.iconst 1, 1) := by decide +kernel
theorem dX10_of_24 : decode cX10_of 24 = .ok (.if_icmp .ne 29, 3) := by decide +kernel
theorem dX10_of_27 : decode cX10_of 27 = .ok (.iload_n 2, 1) := by decide +kernel
theorem dX10_of_28 : decode cX10_of 28 = .ok (.i2l, 1) := by decide +kernel
theorem dX10_of_29 : decode cX10_of 29 = .ok (.lconst 0, 1) := by decide +kernel
theorem dX10_of_30 : decode cX10_of 30 = .ok (.ldc2_w 88, 3) := by decide +kernel
theorem dX10_of_33 : decode cX10_of 33 = .ok (.invokestatic 61, 3) := by decide +kernel
theorem dX10_of_36 : decode cX10_of 36 = .ok (.ifCond .eq 15, 3) := by decide +kernel
theorem dX10_of_39 : decode cX10_of 39 = .ok (.aload_n 0, 1) := by decide +kernel
theorem dX10_of_40 : decode cX10_of 40 = .ok (.getfield 11, 3) := by decide +kernel
theorem dX10_of_43 : decode cX10_of 43 = .ok (.bipush 8, 2) := by decide +kernel
theorem dX10_of_45 : decode cX10_of 45 = .ok (.iload_n 2, 1) := by decide +kernel
theorem dX10_of_46 : decode cX10_of 46 = .ok (.iadd, 1) := by decide +kernel
theorem dX10_of_47 : decode cX10_of 47 = .ok (.iaload, 1) := by decide +kernel
theorem dX10_of_48 : decode cX10_of 48 = .ok (.goto 4, 3) := by decide +kernel
theorem dX10_of_51 : decode cX10_of 51 = .ok (.iconst (-1), 1) := by decide +kernel
theorem dX10_of_52 : decode cX10_of 52 = .ok (.ireturn, 1) := by decide +kernel
theorem dX10_of_53 : decode cX10_of 53 = .ok (.iload_n 1, 1) := by decide +kernel
theorem dX10_of_54 : decode cX10_of 54 = .ok (.iconst 2, 1) := by decide +kernel
theorem dX10_of_55 : decode cX10_of 55 = .ok (.if_icmp .ne 10, 3) := by decide +kernel
theorem dX10_of_58 : decode cX10_of 58 = .ok (.iload_n 2, 1) := by decide +kernel
theorem dX10_of_59 : decode cX10_of 59 = .ok (.invokestatic 186, 3) := by decide +kernel
theorem dX10_of_62 : decode cX10_of 62 = .ok (.ifCond .ne 5, 3) := by decide +kernel
theorem dX10_of_65 : decode cX10_of 65 = .ok (.iconst (-1), 1) := by decide +kernel
theorem dX10_of_66 : decode cX10_of 66 = .ok (.ireturn, 1) := by decide +kernel
theorem dX10_of_67 : decode cX10_of 67 = .ok (.aload_n 0, 1) := by decide +kernel
theorem dX10_of_68 : decode cX10_of 68 = .ok (.invokevirtual 179, 3) := by decide +kernel
theorem dX10_of_71 : decode cX10_of 71 = .ok (.aload_n 0, 1) := by decide +kernel
theorem dX10_of_72 : decode cX10_of 72 = .ok (.getfield 33, 3) := by decide +kernel
theorem dX10_of_75 : decode cX10_of 75 = .ok (.iload_n 2, 1) := by decide +kernel
theorem dX10_of_76 : decode cX10_of 76 = .ok (.iaload, 1) := by decide +kernel
theorem dX10_of_77 : decode cX10_of 77 = .ok (.ireturn, 1) := by decide +kernel
set_option maxRecDepth 20000 in
theorem ggX10_told_X10_isBasin : GoodIn wsX10_told wsX10_isBasin := goodIn_r _ [9, 4, 10, 11, 8, 12, 38, 39, 40, 41, 42, 43, 44, 45, 46, 47, 48, 49, 50, 51, 52, 53, 54, 55, 56, 57, 58, 59] (by decide +kernel) (by decide +kernel)
set_option maxRecDepth 20000 in
theorem gX10_told_X10_isBasin : GoodIn wsX10_told (wsV RX10 81 RX10 yX10_isBasin wsX10_isBasin) := goodIn_app (goodIn_of _ (by decide +kernel)) ggX10_told_X10_isBasin
set_option maxRecDepth 20000 in
theorem ggX10_told_X10_in : GoodIn wsX10_told wsX10_in := goodIn_r _ [12] (by decide +kernel) (by decide +kernel)
set_option maxRecDepth 20000 in
theorem gX10_told_X10_in : GoodIn wsX10_told (va_wsS RX10 61 yX10_in wsX10_in) := goodIn_app (goodIn_of _ (by decide +kernel)) ggX10_told_X10_in
set_option maxRecDepth 20000 in
theorem ggX10_told_X10_goes : GoodIn wsX10_told wsX10_goes := goodIn_r _ [16, 4, 3, 17, 18, 19, 20, 21, 8, 22, 23, 10, 11, 12, 24, 25, 26, 27, 28, 29, 30, 31, 32, 33, 34, 35, 36, 37, 38, 39, 40, 41, 42, 43, 44, 45, 46, 47, 48, 49, 50, 51, 52, 53, 54, 55, 56, 57, 58, 59] (by decide +kernel) (by decide +kernel)
set_option maxRecDepth 20000 in
theorem gX10_told_X10_goes : GoodIn wsX10_told (wsV RX10 176 RX10 yX10_goes wsX10_goes) := goodIn_app (goodIn_of _ (by decide +kernel)) ggX10_told_X10_goes
theorem dX10_told_0 : decode cX10_told 0 = .ok (.aload_n 0, 1) := by decide +kernel
theorem dX10_told_1 : decode cX10_told 1 = .ok (.iload_n 1, 1) := by decide +kernel
theorem dX10_told_2 : decode cX10_told 2 = .ok (.invokevirtual 81, 3) := by decide +kernel
theorem dX10_told_5 : decode cX10_told 5 = .ok (.ifCond .eq 17, 3) := by decide +kernel
theorem dX10_told_8 : decode cX10_told 8 = .ok (.iload_n 2, 1) := by decide +kernel
theorem dX10_told_9 : decode cX10_told 9 = .ok (.i2l, 1) := by decide +kernel
theorem dX10_told_10 : decode cX10_told 10 = .ok (.ldc2_w 189, 3) := by decide +kernel
theorem dX10_told_13 : decode cX10_told 13 = .ok (.ldc2_w 67, 3) := by decide +kernel
theorem dX10_told_16 : decode cX10_told 16 = .ok (.invokestatic 61, 3) := by decide +kernel
theorem dX10_told_19 : decode cX10_told 19 = .ok (.ifCond .ne 5, 3) := by decide +kernel
theorem dX10_told_22 : decode cX10_told 22 = .ok (.iconst (-1), 1) := by decide +kernel
theorem dX10_told_23 : decode cX10_told 23 = .ok (.ireturn, 1) := by decide +kernel
theorem dX10_told_24 : decode cX10_told 24 = .ok (.iload_n 2, 1) := by decide +kernel
theorem dX10_told_25 : decode cX10_told 25 = .ok (.bipush 7, 2) := by decide +kernel
theorem dX10_told_27 : decode cX10_told 27 = .ok (.if_icmp .ne 13, 3) := by decide +kernel
theorem dX10_told_30 : decode cX10_told 30 = .ok (.aload_n 0, 1) := by decide +kernel
theorem dX10_told_31 : decode cX10_told 31 = .ok (.iload_n 1, 1) := by decide +kernel
theorem dX10_told_32 : decode cX10_told 32 = .ok (.invokevirtual 176, 3) := by decide +kernel
theorem dX10_told_35 : decode cX10_told 35 = .ok (.aload_n 0, 1) := by decide +kernel
theorem dX10_told_36 : decode cX10_told 36 = .ok (.getfield 170, 3) := by decide +kernel
theorem dX10_told_39 : decode cX10_told 39 = .ok (.ireturn, 1) := by decide +kernel
theorem dX10_told_40 : decode cX10_told 40 = .ok (.aload_n 0, 1) := by decide +kernel
theorem dX10_told_41 : decode cX10_told 41 = .ok (.getfield 11, 3) := by decide +kernel
theorem dX10_told_44 : decode cX10_told 44 = .ok (.bipush 21, 2) := by decide +kernel
theorem dX10_told_46 : decode cX10_told 46 = .ok (.bipush 8, 2) := by decide +kernel
theorem dX10_told_48 : decode cX10_told 48 = .ok (.iload_n 1, 1) := by decide +kernel
theorem dX10_told_49 : decode cX10_told 49 = .ok (.imul, 1) := by decide +kernel
theorem dX10_told_50 : decode cX10_told 50 = .ok (.iadd, 1) := by decide +kernel
theorem dX10_told_51 : decode cX10_told 51 = .ok (.iconst 1, 1) := by decide +kernel
theorem dX10_told_52 : decode cX10_told 52 = .ok (.iadd, 1) := by decide +kernel
theorem dX10_told_53 : decode cX10_told 53 = .ok (.iload_n 2, 1) := by decide +kernel
theorem dX10_told_54 : decode cX10_told 54 = .ok (.iadd, 1) := by decide +kernel
theorem dX10_told_55 : decode cX10_told 55 = .ok (.iaload, 1) := by decide +kernel
theorem dX10_told_56 : decode cX10_told 56 = .ok (.ireturn, 1) := by decide +kernel
set_option maxRecDepth 20000 in
theorem ggX10_flow_X10_in : GoodIn wsX10_flow wsX10_in := goodIn_r _ [6] (by decide +kernel) (by decide +kernel)
set_option maxRecDepth 20000 in
theorem gX10_flow_X10_in : GoodIn wsX10_flow (va_wsS RX10 61 yX10_in wsX10_in) := goodIn_app (goodIn_of _ (by decide +kernel)) ggX10_flow_X10_in
set_option maxRecDepth 20000 in
theorem ggX10_flow_X10_isBasin : GoodIn wsX10_flow wsX10_isBasin := goodIn_r _ [10, 11, 3, 4, 5, 6, 40, 41, 42, 43, 44, 45, 46, 47, 48, 49, 50, 51, 52, 53, 54, 55, 56, 57, 58, 59, 60, 61] (by decide +kernel) (by decide +kernel)
set_option maxRecDepth 20000 in
theorem gX10_flow_X10_isBasin : GoodIn wsX10_flow (wsV RX10 81 RX10 yX10_isBasin wsX10_isBasin) := goodIn_app (goodIn_of _ (by decide +kernel)) ggX10_flow_X10_isBasin
set_option maxRecDepth 20000 in
theorem ggX10_flow_X10_isHour : GoodIn wsX10_flow wsX10_isHour := goodIn_r _ [14, 15, 3, 4, 5, 6] (by decide +kernel) (by decide +kernel)
set_option maxRecDepth 20000 in
theorem gX10_flow_X10_isHour : GoodIn wsX10_flow (va_wsS RX10 186 yX10_isHour wsX10_isHour) := goodIn_app (goodIn_of _ (by decide +kernel)) ggX10_flow_X10_isHour
set_option maxRecDepth 20000 in
theorem ggX10_flow_X10_goes : GoodIn wsX10_flow wsX10_goes := goodIn_r _ [19, 11, 20, 2, 1, 21, 22, 23, 5, 24, 25, 3, 4, 6, 26, 27, 28, 29, 30, 31, 32, 33, 34, 35, 36, 37, 38, 39, 40, 41, 42, 43, 44, 45, 46, 47, 48, 49, 50, 51, 52, 53, 54, 55, 56, 57, 58, 59, 60, 61] (by decide +kernel) (by decide +kernel)
set_option maxRecDepth 20000 in
theorem gX10_flow_X10_goes : GoodIn wsX10_flow (wsV RX10 176 RX10 yX10_goes wsX10_goes) := goodIn_app (goodIn_of _ (by decide +kernel)) ggX10_flow_X10_goes
theorem dX10_flow_0 : decode cX10_flow 0 = .ok (.iload_n 1, 1) := by decide +kernel
theorem dX10_flow_1 : decode cX10_flow 1 = .ok (.i2l, 1) := by decide +kernel
theorem dX10_flow_2 : decode cX10_flow 2 = .ok (.lconst 0, 1) := by decide +kernel
theorem dX10_flow_3 : decode cX10_flow 3 = .ok (.lconst 1, 1) := by decide +kernel
theorem dX10_flow_4 : decode cX10_flow 4 = .ok (.invokestatic 61, 3) := by decide +kernel
theorem dX10_flow_7 : decode cX10_flow 7 = .ok (.ifCond .eq 18, 3) := by decide +kernel
theorem dX10_flow_10 : decode cX10_flow 10 = .ok (.aload_n 0, 1) := by decide +kernel
theorem dX10_flow_11 : decode cX10_flow 11 = .ok (.iload_n 2, 1) := by decide +kernel
theorem dX10_flow_12 : decode cX10_flow 12 = .ok (.invokevirtual 81, 3) := by decide +kernel
theorem dX10_flow_15 : decode cX10_flow 15 = .ok (.ifCond .eq 10, 3) := by decide +kernel
theorem dX10_flow_18 : decode cX10_flow 18 = .ok (.iload_n 3, 1) := by decide +kernel
theorem dX10_flow_19 : decode cX10_flow 19 = .ok (.invokestatic 186, 3) := by decide +kernel
theorem dX10_flow_22 : decode cX10_flow 22 = .ok (.ifCond .ne 5, 3) := by decide +kernel
theorem dX10_flow_25 : decode cX10_flow 25 = .ok (.iconst (-1), 1) := by decide +kernel
theorem dX10_flow_26 : decode cX10_flow 26 = .ok (.ireturn, 1) := by decide +kernel
theorem dX10_flow_27 : decode cX10_flow 27 = .ok (.aload_n 0, 1) := by decide +kernel
theorem dX10_flow_28 : decode cX10_flow 28 = .ok (.iload_n 2, 1) := by decide +kernel
theorem dX10_flow_29 : decode cX10_flow 29 = .ok (.invokevirtual 176, 3) := by decide +kernel
theorem dX10_flow_32 : decode cX10_flow 32 = .ok (.iload_n 1, 1) := by decide +kernel
theorem dX10_flow_33 : decode cX10_flow 33 = .ok (.ifCond .ne 12, 3) := by decide +kernel
theorem dX10_flow_36 : decode cX10_flow 36 = .ok (.aload_n 0, 1) := by decide +kernel
theorem dX10_flow_37 : decode cX10_flow 37 = .ok (.getfield 27, 3) := by decide +kernel
theorem dX10_flow_40 : decode cX10_flow 40 = .ok (.iload_n 3, 1) := by decide +kernel
theorem dX10_flow_41 : decode cX10_flow 41 = .ok (.iaload, 1) := by decide +kernel
theorem dX10_flow_42 : decode cX10_flow 42 = .ok (.goto 9, 3) := by decide +kernel
theorem dX10_flow_45 : decode cX10_flow 45 = .ok (.aload_n 0, 1) := by decide +kernel
theorem dX10_flow_46 : decode cX10_flow 46 = .ok (.getfield 30, 3) := by decide +kernel
theorem dX10_flow_49 : decode cX10_flow 49 = .ok (.iload_n 3, 1) := by decide +kernel
theorem dX10_flow_50 : decode cX10_flow 50 = .ok (.iaload, 1) := by decide +kernel
theorem dX10_flow_51 : decode cX10_flow 51 = .ok (.ireturn, 1) := by decide +kernel
set_option maxRecDepth 20000 in
theorem ggX10_row_X10_in : GoodIn wsX10_row wsX10_in := goodIn_r _ [8] (by decide +kernel) (by decide +kernel)
set_option maxRecDepth 20000 in
theorem gX10_row_X10_in : GoodIn wsX10_row (va_wsS RX10 61 yX10_in wsX10_in) := goodIn_app (goodIn_of _ (by decide +kernel)) ggX10_row_X10_in
set_option maxRecDepth 20000 in
theorem ggX10_row_X10_isBasin : GoodIn wsX10_row wsX10_isBasin := goodIn_r _ [12, 2, 5, 6, 7, 8, 45, 46, 47, 48, 49, 50, 51, 52, 53, 54, 55, 56, 57, 58, 59, 60, 61, 62, 63, 64, 65, 66] (by decide +kernel) (by decide +kernel)
set_option maxRecDepth 20000 in
theorem gX10_row_X10_isBasin : GoodIn wsX10_row (wsV RX10 81 RX10 yX10_isBasin wsX10_isBasin) := goodIn_app (goodIn_of _ (by decide +kernel)) ggX10_row_X10_isBasin
set_option maxRecDepth 20000 in
theorem ggX10_row_X10_most : GoodIn wsX10_row wsX10_most := goodIn_r _ [15] (by decide +kernel) (by decide +kernel)
set_option maxRecDepth 20000 in
theorem gX10_row_X10_most : GoodIn wsX10_row (va_wsS RX10 182 yX10_most wsX10_most) := goodIn_app (goodIn_of _ (by decide +kernel)) ggX10_row_X10_most
set_option maxRecDepth 20000 in
theorem ggX10_row_X10_joins : GoodIn wsX10_row wsX10_joins := goodIn_r _ [19, 3, 2, 4, 20, 21, 22, 7, 23, 24, 25, 26, 27, 28, 29, 30, 5, 6, 8, 31, 32, 33, 34, 35, 36, 37, 38, 39, 40, 41, 42, 43, 44, 45, 46, 47, 48, 49, 50, 51, 52, 53, 54, 55, 56, 57, 58, 59, 60, 61, 62, 63, 64, 65, 66] (by decide +kernel) (by decide +kernel)
set_option maxRecDepth 20000 in
theorem gX10_row_X10_joins : GoodIn wsX10_row (wsV RX10 179 RX10 yX10_joins wsX10_joins) := goodIn_app (goodIn_of _ (by decide +kernel)) ggX10_row_X10_joins
set_option maxRecDepth 20000 in
theorem ggX10_row_X10_goes : GoodIn wsX10_row wsX10_goes := goodIn_r _ [23, 2, 24, 4, 25, 26, 27, 28, 7, 29, 30, 5, 6, 8, 31, 32, 33, 34, 35, 36, 37, 38, 39, 40, 41, 42, 43, 44, 45, 46, 47, 48, 49, 50, 51, 52, 53, 54, 55, 56, 57, 58, 59, 60, 61, 62, 63, 64, 65, 66] (by decide +kernel) (by decide +kernel)
set_option maxRecDepth 20000 in
theorem gX10_row_X10_goes : GoodIn wsX10_row (wsV RX10 176 RX10 yX10_goes wsX10_goes) := goodIn_app (goodIn_of _ (by decide +kernel)) ggX10_row_X10_goes
theorem dX10_row_0 : decode cX10_row 0 = .ok (.iload_n 1, 1) := by decide +kernel
theorem dX10_row_1 : decode cX10_row 1 = .ok (.i2l, 1) := by decide +kernel
theorem dX10_row_2 : decode cX10_row 2 = .ok (.lconst 0, 1) := by decide +kernel
theorem dX10_row_3 : decode cX10_row 3 = .ok (.ldc2_w 191, 3) := by decide +kernel
theorem dX10_row_6 : decode cX10_row 6 = .ok (.invokestatic 61, 3) := by decide +kernel
theorem dX10_row_9 : decode cX10_row 9 = .ok (.ifCond .ne 13, 3) := by decide +kernel
theorem dX10_row_12 : decode cX10_row 12 = .ok (.aload_n 0, 1) := by decide +kernel
theorem dX10_row_13 : decode cX10_row 13 = .ok (.iload_n 1, 1) := by decide +kernel
theorem dX10_row_14 : decode cX10_row 14 = .ok (.iconst 3, 1) := by decide +kernel
theorem dX10_row_15 : decode cX10_row 15 = .ok (.isub, 1) := by decide +kernel
theorem dX10_row_16 : decode cX10_row 16 = .ok (.invokevirtual 81, 3) := by decide +kernel
theorem dX10_row_19 : decode cX10_row 19 = .ok (.ifCond .eq 15, 3) := by decide +kernel
theorem dX10_row_22 : decode cX10_row 22 = .ok (.iload_n 2, 1) := by decide +kernel
theorem dX10_row_23 : decode cX10_row 23 = .ok (.i2l, 1) := by decide +kernel
theorem dX10_row_24 : decode cX10_row 24 = .ok (.lconst 0, 1) := by decide +kernel
theorem dX10_row_25 : decode cX10_row 25 = .ok (.ldc2_w 191, 3) := by decide +kernel
theorem dX10_row_28 : decode cX10_row 28 = .ok (.invokestatic 61, 3) := by decide +kernel
theorem dX10_row_31 : decode cX10_row 31 = .ok (.ifCond .ne 5, 3) := by decide +kernel
theorem dX10_row_34 : decode cX10_row 34 = .ok (.iconst (-1), 1) := by decide +kernel
theorem dX10_row_35 : decode cX10_row 35 = .ok (.ireturn, 1) := by decide +kernel
theorem dX10_row_36 : decode cX10_row 36 = .ok (.iload_n 1, 1) := by decide +kernel
theorem dX10_row_37 : decode cX10_row 37 = .ok (.ifCond .ne 15, 3) := by decide +kernel
theorem dX10_row_40 : decode cX10_row 40 = .ok (.aload_n 0, 1) := by decide +kernel
theorem dX10_row_41 : decode cX10_row 41 = .ok (.getfield 11, 3) := by decide +kernel
theorem dX10_row_44 : decode cX10_row 44 = .ok (.iconst 0, 1) := by decide +kernel
theorem dX10_row_45 : decode cX10_row 45 = .ok (.bipush 8, 2) := by decide +kernel
theorem dX10_row_47 : decode cX10_row 47 = .ok (.iload_n 2, 1) := by decide +kernel
theorem dX10_row_48 : decode cX10_row 48 = .ok (.invokestatic 182, 3) := by decide +kernel
theorem dX10_row_51 : decode cX10_row 51 = .ok (.ireturn, 1) := by decide +kernel
theorem dX10_row_52 : decode cX10_row 52 = .ok (.iload_n 1, 1) := by decide +kernel
theorem dX10_row_53 : decode cX10_row 53 = .ok (.iconst 1, 1) := by decide +kernel
theorem dX10_row_54 : decode cX10_row 54 = .ok (.if_icmp .ne 16, 3) := by decide +kernel
theorem dX10_row_57 : decode cX10_row 57 = .ok (.aload_n 0, 1) := by decide +kernel
theorem dX10_row_58 : decode cX10_row 58 = .ok (.getfield 11, 3) := by decide +kernel
theorem dX10_row_61 : decode cX10_row 61 = .ok (.bipush 8, 2) := by decide +kernel
theorem dX10_row_63 : decode cX10_row 63 = .ok (.bipush 12, 2) := by decide +kernel
theorem dX10_row_65 : decode cX10_row 65 = .ok (.iload_n 2, 1) := by decide +kernel
theorem dX10_row_66 : decode cX10_row 66 = .ok (.invokestatic 182, 3) := by decide +kernel
theorem dX10_row_69 : decode cX10_row 69 = .ok (.ireturn, 1) := by decide +kernel
theorem dX10_row_70 : decode cX10_row 70 = .ok (.iload_n 1, 1) := by decide +kernel
theorem dX10_row_71 : decode cX10_row 71 = .ok (.iconst 2, 1) := by decide +kernel
theorem dX10_row_72 : decode cX10_row 72 = .ok (.if_icmp .ne 19, 3) := by decide +kernel
theorem dX10_row_75 : decode cX10_row 75 = .ok (.aload_n 0, 1) := by decide +kernel
theorem dX10_row_76 : decode cX10_row 76 = .ok (.invokevirtual 179, 3) := by decide +kernel
theorem dX10_row_79 : decode cX10_row 79 = .ok (.aload_n 0, 1) := by decide +kernel
theorem dX10_row_80 : decode cX10_row 80 = .ok (.getfield 33, 3) := by decide +kernel
theorem dX10_row_83 : decode cX10_row 83 = .ok (.iconst 0, 1) := by decide +kernel
theorem dX10_row_84 : decode cX10_row 84 = .ok (.bipush 30, 2) := by decide +kernel
theorem dX10_row_86 : decode cX10_row 86 = .ok (.iload_n 2, 1) := by decide +kernel
theorem dX10_row_87 : decode cX10_row 87 = .ok (.invokestatic 182, 3) := by decide +kernel
theorem dX10_row_90 : decode cX10_row 90 = .ok (.ireturn, 1) := by decide +kernel
theorem dX10_row_91 : decode cX10_row 91 = .ok (.aload_n 0, 1) := by decide +kernel
theorem dX10_row_92 : decode cX10_row 92 = .ok (.iload_n 1, 1) := by decide +kernel
theorem dX10_row_93 : decode cX10_row 93 = .ok (.iconst 3, 1) := by decide +kernel
theorem dX10_row_94 : decode cX10_row 94 = .ok (.isub, 1) := by decide +kernel
theorem dX10_row_95 : decode cX10_row 95 = .ok (.invokevirtual 176, 3) := by decide +kernel
theorem dX10_row_98 : decode cX10_row 98 = .ok (.aload_n 0, 1) := by decide +kernel
theorem dX10_row_99 : decode cX10_row 99 = .ok (.getfield 30, 3) := by decide +kernel
theorem dX10_row_102 : decode cX10_row 102 = .ok (.iconst 0, 1) := by decide +kernel
theorem dX10_row_103 : decode cX10_row 103 = .ok (.bipush 30, 2) := by decide +kernel
theorem dX10_row_105 : decode cX10_row 105 = .ok (.iload_n 2, 1) := by decide +kernel
theorem dX10_row_106 : decode cX10_row 106 = .ok (.invokestatic 182, 3) := by decide +kernel
theorem dX10_row_109 : decode cX10_row 109 = .ok (.ireturn, 1) := by decide +kernel
theorem dX10_basins_0 : decode cX10_basins 0 = .ok (.aload_n 0, 1) := by decide +kernel
theorem dX10_basins_1 : decode cX10_basins 1 = .ok (.getfield 11, 3) := by decide +kernel
theorem dX10_basins_4 : decode cX10_basins 4 = .ok (.bipush 20, 2) := by decide +kernel
theorem dX10_basins_6 : decode cX10_basins 6 = .ok (.iaload, 1) := by decide +kernel
theorem dX10_basins_7 : decode cX10_basins 7 = .ok (.ireturn, 1) := by decide +kernel
theorem dX10_begins_0 : decode cX10_begins 0 = .ok (.iconst 0, 1) := by decide +kernel
theorem dX10_begins_1 : decode cX10_begins 1 = .ok (.istore_n 1, 1) := by decide +kernel
theorem dX10_begins_2 : decode cX10_begins 2 = .ok (.iload_n 1, 1) := by decide +kernel
theorem dX10_begins_3 : decode cX10_begins 3 = .ok (.bipush 12, 2) := by decide +kernel
theorem dX10_begins_5 : decode cX10_begins 5 = .ok (.if_icmp .ge 24, 3) := by decide +kernel
theorem dX10_begins_8 : decode cX10_begins 8 = .ok (.aload_n 0, 1) := by decide +kernel
theorem dX10_begins_9 : decode cX10_begins 9 = .ok (.getfield 36, 3) := by decide +kernel
theorem dX10_begins_12 : decode cX10_begins 12 = .ok (.iload_n 1, 1) := by decide +kernel
theorem dX10_begins_13 : decode cX10_begins 13 = .ok (.aload_n 0, 1) := by decide +kernel
theorem dX10_begins_14 : decode cX10_begins 14 = .ok (.getfield 11, 3) := by decide +kernel
theorem dX10_begins_17 : decode cX10_begins 17 = .ok (.bipush 8, 2) := by decide +kernel
theorem dX10_begins_19 : decode cX10_begins 19 = .ok (.iload_n 1, 1) := by decide +kernel
theorem dX10_begins_20 : decode cX10_begins 20 = .ok (.iadd, 1) := by decide +kernel
theorem dX10_begins_21 : decode cX10_begins 21 = .ok (.iaload, 1) := by decide +kernel
theorem dX10_begins_22 : decode cX10_begins 22 = .ok (.iastore, 1) := by decide +kernel
theorem dX10_begins_23 : decode cX10_begins 23 = .ok (.iinc 1 1, 3) := by decide +kernel
theorem dX10_begins_26 : decode cX10_begins 26 = .ok (.goto (-24), 3) := by decide +kernel
theorem dX10_begins_29 : decode cX10_begins 29 = .ok (.return_, 1) := by decide +kernel
theorem dX10_isWhole_0 : decode cX10_isWhole 0 = .ok (.iload_n 0, 1) := by decide +kernel
theorem dX10_isWhole_1 : decode cX10_isWhole 1 = .ok (.ifCond .lt 20, 3) := by decide +kernel
theorem dX10_isWhole_4 : decode cX10_isWhole 4 = .ok (.iload_n 0, 1) := by decide +kernel
theorem dX10_isWhole_5 : decode cX10_isWhole 5 = .ok (.iload_n 1, 1) := by decide +kernel
theorem dX10_isWhole_6 : decode cX10_isWhole 6 = .ok (.irem, 1) := by decide +kernel
theorem dX10_isWhole_7 : decode cX10_isWhole 7 = .ok (.ifCond .ne 14, 3) := by decide +kernel
theorem dX10_isWhole_10 : decode cX10_isWhole 10 = .ok (.iload_n 0, 1) := by decide +kernel
theorem dX10_isWhole_11 : decode cX10_isWhole 11 = .ok (.iload_n 1, 1) := by decide +kernel
theorem dX10_isWhole_12 : decode cX10_isWhole 12 = .ok (.idiv, 1) := by decide +kernel
theorem dX10_isWhole_13 : decode cX10_isWhole 13 = .ok (.iload_n 2, 1) := by decide +kernel
theorem dX10_isWhole_14 : decode cX10_isWhole 14 = .ok (.if_icmp .gt 7, 3) := by decide +kernel
theorem dX10_isWhole_17 : decode cX10_isWhole 17 = .ok (.iconst 1, 1) := by decide +kernel
theorem dX10_isWhole_18 : decode cX10_isWhole 18 = .ok (.goto 4, 3) := by decide +kernel
theorem dX10_isWhole_21 : decode cX10_isWhole 21 = .ok (.iconst 0, 1) := by decide +kernel
theorem dX10_isWhole_22 : decode cX10_isWhole 22 = .ok (.ireturn, 1) := by decide +kernel
theorem dX10_rest_0 : decode cX10_rest 0 = .ok (.iload_n 1, 1) := by decide +kernel
theorem dX10_rest_1 : decode cX10_rest 1 = .ok (.istore_n 2, 1) := by decide +kernel
theorem dX10_rest_2 : decode cX10_rest 2 = .ok (.iload_n 2, 1) := by decide +kernel
theorem dX10_rest_3 : decode cX10_rest 3 = .ok (.bipush 12, 2) := by decide +kernel
theorem dX10_rest_5 : decode cX10_rest 5 = .ok (.if_icmp .ge 20, 3) := by decide +kernel
theorem dX10_rest_8 : decode cX10_rest 8 = .ok (.aload_n 0, 1) := by decide +kernel
theorem dX10_rest_9 : decode cX10_rest 9 = .ok (.getfield 36, 3) := by decide +kernel
theorem dX10_rest_12 : decode cX10_rest 12 = .ok (.iload_n 2, 1) := by decide +kernel
theorem dX10_rest_13 : decode cX10_rest 13 = .ok (.iaload, 1) := by decide +kernel
theorem dX10_rest_14 : decode cX10_rest 14 = .ok (.ifCond .eq 5, 3) := by decide +kernel
theorem dX10_rest_17 : decode cX10_rest 17 = .ok (.iload_n 2, 1) := by decide +kernel
theorem dX10_rest_18 : decode cX10_rest 18 = .ok (.ireturn, 1) := by decide +kernel
theorem dX10_rest_19 : decode cX10_rest 19 = .ok (.iinc 2 1, 3) := by decide +kernel
theorem dX10_rest_22 : decode cX10_rest 22 = .ok (.goto (-20), 3) := by decide +kernel
theorem dX10_rest_25 : decode cX10_rest 25 = .ok (.bipush (-5), 2) := by decide +kernel
theorem dX10_rest_27 : decode cX10_rest 27 = .ok (.ireturn, 1) := by decide +kernel
set_option maxRecDepth 20000 in
theorem ggX10_unfolds_X10_begins : GoodIn wsX10_unfolds wsX10_begins := goodIn_r _ [7, 1, 8, 20, 21, 22, 23, 24, 25, 26, 27, 28, 29, 30, 31, 32, 33, 34, 35, 36, 37, 38, 39, 40, 41] (by decide +kernel) (by decide +kernel)
set_option maxRecDepth 20000 in
theorem gX10_unfolds_X10_begins : GoodIn wsX10_unfolds (wsV RX10 193 RX10 yX10_begins wsX10_begins) := goodIn_app (goodIn_of _ (by decide +kernel)) ggX10_unfolds_X10_begins
set_option maxRecDepth 20000 in
theorem ggX10_unfolds_X10_answer : GoodIn wsX10_unfolds wsX10_answer := goodIn_r _ [12, 8, 20, 21, 22, 23, 24, 25, 26, 27, 28, 29, 30, 31, 32, 33, 34, 35, 36, 37, 38, 39, 40, 41] (by decide +kernel) (by decide +kernel)
set_option maxRecDepth 20000 in
theorem gX10_unfolds_X10_answer : GoodIn wsX10_unfolds (wsV RX10 155 RX10 yX10_answer wsX10_answer) := goodIn_app (goodIn_of _ (by decide +kernel)) ggX10_unfolds_X10_answer
set_option maxRecDepth 20000 in
theorem ggX10_unfolds_X10_isWhole : GoodIn wsX10_unfolds wsX10_isWhole := goodIn_r _ [15] (by decide +kernel) (by decide +kernel)
set_option maxRecDepth 20000 in
theorem gX10_unfolds_X10_isWhole : GoodIn wsX10_unfolds (va_wsS RX10 196 yX10_isWhole wsX10_isWhole) := goodIn_app (goodIn_of _ (by decide +kernel)) ggX10_unfolds_X10_isWhole
set_option maxRecDepth 20000 in
theorem ggX10_unfolds_X10_rest : GoodIn wsX10_unfolds wsX10_rest := goodIn_r _ [19, 1, 20, 21, 22, 23, 24, 25, 26, 27, 28, 29, 30, 31, 32, 33, 34, 35, 36, 37, 38, 39, 40, 41] (by decide +kernel) (by decide +kernel)
set_option maxRecDepth 20000 in
theorem gX10_unfolds_X10_rest : GoodIn wsX10_unfolds (wsV RX10 200 RX10 yX10_rest wsX10_rest) := goodIn_app (goodIn_of _ (by decide +kernel)) ggX10_unfolds_X10_rest
theorem dX10_unfolds_0 : decode cX10_unfolds 0 = .ok (.aload_n 0, 1) := by decide +kernel
theorem dX10_unfolds_1 : decode cX10_unfolds 1 = .ok (.invokevirtual 193, 3) := by decide +kernel
theorem dX10_unfolds_4 : decode cX10_unfolds 4 = .ok (.iconst 0, 1) := by decide +kernel
theorem dX10_unfolds_5 : decode cX10_unfolds 5 = .ok (.istore_n 2, 1) := by decide +kernel
theorem dX10_unfolds_6 : decode cX10_unfolds 6 = .ok (.iload_n 2, 1) := by decide +kernel
theorem dX10_unfolds_7 : decode cX10_unfolds 7 = .ok (.bipush 8, 2) := by decide +kernel
theorem dX10_unfolds_9 : decode cX10_unfolds 9 = .ok (.if_icmp .ge 87, 3) := by decide +kernel
theorem dX10_unfolds_12 : decode cX10_unfolds 12 = .ok (.aload_n 0, 1) := by decide +kernel
theorem dX10_unfolds_13 : decode cX10_unfolds 13 = .ok (.getfield 36, 3) := by decide +kernel
theorem dX10_unfolds_16 : decode cX10_unfolds 16 = .ok (.iload_n 2, 1) := by decide +kernel
theorem dX10_unfolds_17 : decode cX10_unfolds 17 = .ok (.iaload, 1) := by decide +kernel
theorem dX10_unfolds_18 : decode cX10_unfolds 18 = .ok (.aload_n 0, 1) := by decide +kernel
theorem dX10_unfolds_19 : decode cX10_unfolds 19 = .ok (.iload_n 1, 1) := by decide +kernel
theorem dX10_unfolds_20 : decode cX10_unfolds 20 = .ok (.iconst 0, 1) := by decide +kernel
theorem dX10_unfolds_21 : decode cX10_unfolds 21 = .ok (.invokevirtual 155, 3) := by decide +kernel
theorem dX10_unfolds_24 : decode cX10_unfolds 24 = .ok (.bipush 20, 2) := by decide +kernel
theorem dX10_unfolds_26 : decode cX10_unfolds 26 = .ok (.invokestatic 196, 3) := by decide +kernel
theorem dX10_unfolds_29 : decode cX10_unfolds 29 = .ok (.ifCond .ne 5, 3) := by decide +kernel
theorem dX10_unfolds_32 : decode cX10_unfolds 32 = .ok (.iload_n 2, 1) := by decide +kernel
theorem dX10_unfolds_33 : decode cX10_unfolds 33 = .ok (.ireturn, 1) := by decide +kernel
theorem dX10_unfolds_34 : decode cX10_unfolds 34 = .ok (.aload_n 0, 1) := by decide +kernel
theorem dX10_unfolds_35 : decode cX10_unfolds 35 = .ok (.getfield 39, 3) := by decide +kernel
theorem dX10_unfolds_38 : decode cX10_unfolds 38 = .ok (.iload_n 2, 1) := by decide +kernel
theorem dX10_unfolds_39 : decode cX10_unfolds 39 = .ok (.aload_n 0, 1) := by decide +kernel
theorem dX10_unfolds_40 : decode cX10_unfolds 40 = .ok (.getfield 36, 3) := by decide +kernel
theorem dX10_unfolds_43 : decode cX10_unfolds 43 = .ok (.iload_n 2, 1) := by decide +kernel
theorem dX10_unfolds_44 : decode cX10_unfolds 44 = .ok (.iaload, 1) := by decide +kernel
theorem dX10_unfolds_45 : decode cX10_unfolds 45 = .ok (.aload_n 0, 1) := by decide +kernel
theorem dX10_unfolds_46 : decode cX10_unfolds 46 = .ok (.iload_n 1, 1) := by decide +kernel
theorem dX10_unfolds_47 : decode cX10_unfolds 47 = .ok (.iconst 0, 1) := by decide +kernel
theorem dX10_unfolds_48 : decode cX10_unfolds 48 = .ok (.invokevirtual 155, 3) := by decide +kernel
theorem dX10_unfolds_51 : decode cX10_unfolds 51 = .ok (.idiv, 1) := by decide +kernel
theorem dX10_unfolds_52 : decode cX10_unfolds 52 = .ok (.iastore, 1) := by decide +kernel
theorem dX10_unfolds_53 : decode cX10_unfolds 53 = .ok (.iconst 0, 1) := by decide +kernel
theorem dX10_unfolds_54 : decode cX10_unfolds 54 = .ok (.istore_n 3, 1) := by decide +kernel
theorem dX10_unfolds_55 : decode cX10_unfolds 55 = .ok (.iload_n 3, 1) := by decide +kernel
theorem dX10_unfolds_56 : decode cX10_unfolds 56 = .ok (.iconst 5, 1) := by decide +kernel
theorem dX10_unfolds_57 : decode cX10_unfolds 57 = .ok (.if_icmp .ge 33, 3) := by decide +kernel
theorem dX10_unfolds_60 : decode cX10_unfolds 60 = .ok (.aload_n 0, 1) := by decide +kernel
theorem dX10_unfolds_61 : decode cX10_unfolds 61 = .ok (.getfield 36, 3) := by decide +kernel
theorem dX10_unfolds_64 : decode cX10_unfolds 64 = .ok (.iload_n 2, 1) := by decide +kernel
theorem dX10_unfolds_65 : decode cX10_unfolds 65 = .ok (.iload_n 3, 1) := by decide +kernel
theorem dX10_unfolds_66 : decode cX10_unfolds 66 = .ok (.iadd, 1) := by decide +kernel
theorem dX10_unfolds_67 : decode cX10_unfolds 67 = .ok (.dup2, 1) := by decide +kernel
theorem dX10_unfolds_68 : decode cX10_unfolds 68 = .ok (.iaload, 1) := by decide +kernel
