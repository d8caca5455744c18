theorem dJ9_max_7cf53_0 : decode cJ9_max_7cf53 0 = .ok (.iload_n 0, 1) := by decide +kernel
theorem dJ9_max_7cf53_1 : decode cJ9_max_7cf53 1 = .ok (.iload_n 1, 1) := by decide +kernel
theorem dJ9_max_7cf53_2 : decode cJ9_max_7cf53 2 = .ok (.if_icmp .lt 7, 3) := by decide +kernel
theorem dJ9_max_7cf53_5 : decode cJ9_max_7cf53 5 = .ok (.iload_n 0, 1) := by decide +kernel
theorem dJ9_max_7cf53_6 : decode cJ9_max_7cf53 6 = .ok (.goto 4, 3) := by decide +kernel
theorem dJ9_max_7cf53_9 : decode cJ9_max_7cf53 9 = .ok (.iload_n 1, 1) := by decide +kernel
theorem dJ9_max_7cf53_10 : decode cJ9_max_7cf53 10 = .ok (.ireturn, 1) := by decide +kernel
theorem dJ9_min_7cf53_0 : decode cJ9_min_7cf53 0 = .ok (.iload_n 0, 1) := by decide +kernel
theorem dJ9_min_7cf53_1 : decode cJ9_min_7cf53 1 = .ok (.iload_n 1, 1) := by decide +kernel
theorem dJ9_min_7cf53_2 : decode cJ9_min_7cf53 2 = .ok (.if_icmp .gt 7, 3) := by decide +kernel
theorem dJ9_min_7cf53_5 : decode cJ9_min_7cf53 5 = .ok (.iload_n 0, 1) := by decide +kernel
theorem dJ9_min_7cf53_6 : decode cJ9_min_7cf53 6 = .ok (.goto 4, 3) := by decide +kernel
theorem dJ9_min_7cf53_9 : decode cJ9_min_7cf53 9 = .ok (.iload_n 1, 1) := by decide +kernel
theorem dJ9_min_7cf53_10 : decode cJ9_min_7cf53 10 = .ok (.ireturn, 1) := by decide +kernel
theorem dJ7_fill_d0a16_0 : decode cJ7_fill_d0a16 0 = .ok (.iconst 0, 1) := by decide +kernel
theorem dJ7_fill_d0a16_1 : decode cJ7_fill_d0a16 1 = .ok (.istore_n 3, 1) := by decide +kernel
theorem dJ7_fill_d0a16_2 : decode cJ7_fill_d0a16 2 = .ok (.aload_n 0, 1) := by decide +kernel
theorem dJ7_fill_d0a16_3 : decode cJ7_fill_d0a16 3 = .ok (.arraylength, 1) := by decide +kernel
theorem dJ7_fill_d0a16_4 : decode cJ7_fill_d0a16 4 = .ok (.istore 4, 2) := by decide +kernel
theorem dJ7_fill_d0a16_6 : decode cJ7_fill_d0a16 6 = .ok (.iload_n 3, 1) := by decide +kernel
theorem dJ7_fill_d0a16_7 : decode cJ7_fill_d0a16 7 = .ok (.iload 4, 2) := by decide +kernel
theorem dJ7_fill_d0a16_9 : decode cJ7_fill_d0a16 9 = .ok (.if_icmp .ge 13, 3) := by decide +kernel
theorem dJ7_fill_d0a16_12 : decode cJ7_fill_d0a16 12 = .ok (.aload_n 0, 1) := by decide +kernel
theorem dJ7_fill_d0a16_13 : decode cJ7_fill_d0a16 13 = .ok (.iload_n 3, 1) := by decide +kernel
theorem dJ7_fill_d0a16_14 : decode cJ7_fill_d0a16 14 = .ok (.lload_n 1, 1) := by decide +kernel
theorem dJ7_fill_d0a16_15 : decode cJ7_fill_d0a16 15 = .ok (.lastore, 1) := by decide +kernel
theorem dJ7_fill_d0a16_16 : decode cJ7_fill_d0a16 16 = .ok (.iinc 3 1, 3) := by decide +kernel
theorem dJ7_fill_d0a16_19 : decode cJ7_fill_d0a16 19 = .ok (.goto (-13), 3) := by decide +kernel
theorem dJ7_fill_d0a16_22 : decode cJ7_fill_d0a16 22 = .ok (.return_, 1) := by decide +kernel
theorem dJ7_fill_53178_0 : decode cJ7_fill_53178 0 = .ok (.iconst 0, 1) := by decide +kernel
theorem dJ7_fill_53178_1 : decode cJ7_fill_53178 1 = .ok (.istore_n 2, 1) := by decide +kernel
theorem dJ7_fill_53178_2 : decode cJ7_fill_53178 2 = .ok (.aload_n 0, 1) := by decide +kernel
theorem dJ7_fill_53178_3 : decode cJ7_fill_53178 3 = .ok (.arraylength, 1) := by decide +kernel
theorem dJ7_fill_53178_4 : decode cJ7_fill_53178 4 = .ok (.istore_n 3, 1) := by decide +kernel
theorem dJ7_fill_53178_5 : decode cJ7_fill_53178 5 = .ok (.iload_n 2, 1) := by decide +kernel
theorem dJ7_fill_53178_6 : decode cJ7_fill_53178 6 = .ok (.iload_n 3, 1) := by decide +kernel
theorem dJ7_fill_53178_7 : decode cJ7_fill_53178 7 = .ok (.if_icmp .ge 13, 3) := by decide +kernel
theorem dJ7_fill_53178_10 : decode cJ7_fill_53178 10 = .ok (.aload_n 0, 1) := by decide +kernel
theorem dJ7_fill_53178_11 : decode cJ7_fill_53178 11 = .ok (.iload_n 2, 1) := by decide +kernel
theorem dJ7_fill_53178_12 : decode cJ7_fill_53178 12 = .ok (.iload_n 1, 1) := by decide +kernel
theorem dJ7_fill_53178_13 : decode cJ7_fill_53178 13 = .ok (.iastore, 1) := by decide +kernel
theorem dJ7_fill_53178_14 : decode cJ7_fill_53178 14 = .ok (.iinc 2 1, 3) := by decide +kernel
theorem dJ7_fill_53178_17 : decode cJ7_fill_53178 17 = .ok (.goto (-12), 3) := by decide +kernel
theorem dJ7_fill_53178_20 : decode cJ7_fill_53178 20 = .ok (.return_, 1) := by decide +kernel
theorem dX0_init_0 : decode cX0_init 0 = .ok (.aload_n 0, 1) := by decide +kernel
theorem dX0_init_1 : decode cX0_init 1 = .ok (.invokespecial 3, 3) := by decide +kernel
theorem dX0_init_4 : decode cX0_init 4 = .ok (.aload_n 0, 1) := by decide +kernel
theorem dX0_init_5 : decode cX0_init 5 = .ok (.iconst 5, 1) := by decide +kernel
theorem dX0_init_6 : decode cX0_init 6 = .ok (.newarray .int, 2) := by decide +kernel
theorem dX0_init_8 : decode cX0_init 8 = .ok (.putfield 9, 3) := by decide +kernel
theorem dX0_init_11 : decode cX0_init 11 = .ok (.aload_n 0, 1) := by decide +kernel
theorem dX0_init_12 : decode cX0_init 12 = .ok (.iconst 0, 1) := by decide +kernel
theorem dX0_init_13 : decode cX0_init 13 = .ok (.putfield 15, 3) := by decide +kernel
theorem dX0_init_16 : decode cX0_init 16 = .ok (.aload_n 0, 1) := by decide +kernel
theorem dX0_init_17 : decode cX0_init 17 = .ok (.iconst 0, 1) := by decide +kernel
theorem dX0_init_18 : decode cX0_init 18 = .ok (.putfield 19, 3) := by decide +kernel
theorem dX0_init_21 : decode cX0_init 21 = .ok (.aload_n 0, 1) := by decide +kernel
theorem dX0_init_22 : decode cX0_init 22 = .ok (.iconst 0, 1) := by decide +kernel
theorem dX0_init_23 : decode cX0_init 23 = .ok (.putfield 22, 3) := by decide +kernel
theorem dX0_init_26 : decode cX0_init 26 = .ok (.return_, 1) := by decide +kernel
set_option maxRecDepth 20000 in
theorem ggX0_become_X9_copyNumbers : GoodIn wsX0_become wsX9_copyNumbers := goodIn_r _ [7] (by decide +kernel) (by decide +kernel)
set_option maxRecDepth 20000 in
theorem gX0_become_X9_copyNumbers_n25 : GoodIn wsX0_become (wsX9_copyNumbers) := ggX0_become_X9_copyNumbers
theorem dX0_become_0 : decode cX0_become 0 = .ok (.aload_n 1, 1) := by decide +kernel
theorem dX0_become_1 : decode cX0_become 1 = .ok (.getfield 9, 3) := by decide +kernel
theorem dX0_become_4 : decode cX0_become 4 = .ok (.aload_n 0, 1) := by decide +kernel
theorem dX0_become_5 : decode cX0_become 5 = .ok (.getfield 9, 3) := by decide +kernel
theorem dX0_become_8 : decode cX0_become 8 = .ok (.invokestatic 25, 3) := by decide +kernel
theorem dX0_become_11 : decode cX0_become 11 = .ok (.aload_n 0, 1) := by decide +kernel
theorem dX0_become_12 : decode cX0_become 12 = .ok (.aload_n 1, 1) := by decide +kernel
theorem dX0_become_13 : decode cX0_become 13 = .ok (.getfield 15, 3) := by decide +kernel
theorem dX0_become_16 : decode cX0_become 16 = .ok (.putfield 15, 3) := by decide +kernel
theorem dX0_become_19 : decode cX0_become 19 = .ok (.aload_n 0, 1) := by decide +kernel
theorem dX0_become_20 : decode cX0_become 20 = .ok (.aload_n 1, 1) := by decide +kernel
theorem dX0_become_21 : decode cX0_become 21 = .ok (.getfield 19, 3) := by decide +kernel
theorem dX0_become_24 : decode cX0_become 24 = .ok (.putfield 19, 3) := by decide +kernel
theorem dX0_become_27 : decode cX0_become 27 = .ok (.aload_n 0, 1) := by decide +kernel
theorem dX0_become_28 : decode cX0_become 28 = .ok (.aload_n 1, 1) := by decide +kernel
theorem dX0_become_29 : decode cX0_become 29 = .ok (.getfield 22, 3) := by decide +kernel
theorem dX0_become_32 : decode cX0_become 32 = .ok (.putfield 22, 3) := by decide +kernel
theorem dX0_become_35 : decode cX0_become 35 = .ok (.return_, 1) := by decide +kernel
theorem dX0_comeWith_0 : decode cX0_comeWith 0 = .ok (.aload_n 0, 1) := by decide +kernel
theorem dX0_comeWith_1 : decode cX0_comeWith 1 = .ok (.iconst 0, 1) := by decide +kernel
theorem dX0_comeWith_2 : decode cX0_comeWith 2 = .ok (.putfield 15, 3) := by decide +kernel
theorem dX0_comeWith_5 : decode cX0_comeWith 5 = .ok (.iload_n 1, 1) := by decide +kernel
theorem dX0_comeWith_6 : decode cX0_comeWith 6 = .ok (.istore_n 2, 1) := by decide +kernel
theorem dX0_comeWith_7 : decode cX0_comeWith 7 = .ok (.iload_n 2, 1) := by decide +kernel
theorem dX0_comeWith_8 : decode cX0_comeWith 8 = .ok (.ifCond .le 33, 3) := by decide +kernel
theorem dX0_comeWith_11 : decode cX0_comeWith 11 = .ok (.aload_n 0, 1) := by decide +kernel
theorem dX0_comeWith_12 : decode cX0_comeWith 12 = .ok (.getfield 15, 3) := by decide +kernel
theorem dX0_comeWith_15 : decode cX0_comeWith 15 = .ok (.aload_n 0, 1) := by decide +kernel
theorem dX0_comeWith_16 : decode cX0_comeWith 16 = .ok (.getfield 9, 3) := by decide +kernel
theorem dX0_comeWith_19 : decode cX0_comeWith 19 = .ok (.arraylength, 1) := by decide +kernel
theorem dX0_comeWith_20 : decode cX0_comeWith 20 = .ok (.if_icmp .ge 21, 3) := by decide +kernel
theorem dX0_comeWith_23 : decode cX0_comeWith 23 = .ok (.aload_n 0, 1) := by decide +kernel
theorem dX0_comeWith_24 : decode cX0_comeWith 24 = .ok (.dup, 1) := by decide +kernel
theorem dX0_comeWith_25 : decode cX0_comeWith 25 = .ok (.getfield 15, 3) := by decide +kernel
theorem dX0_comeWith_28 : decode cX0_comeWith 28 = .ok (.iconst 1, 1) := by decide +kernel
theorem dX0_comeWith_29 : decode cX0_comeWith 29 = .ok (.iadd, 1) := by decide +kernel
theorem dX0_comeWith_30 : decode cX0_comeWith 30 = .ok (.putfield 15, 3) := by decide +kernel
theorem dX0_comeWith_33 : decode cX0_comeWith 33 = .ok (.iload_n 2, 1) := by decide +kernel
theorem dX0_comeWith_34 : decode cX0_comeWith 34 = .ok (.bipush 10, 2) := by decide +kernel
theorem dX0_comeWith_36 : decode cX0_comeWith 36 = .ok (.idiv, 1) := by decide +kernel
theorem dX0_comeWith_37 : decode cX0_comeWith 37 = .ok (.istore_n 2, 1) := by decide +kernel
theorem dX0_comeWith_38 : decode cX0_comeWith 38 = .ok (.goto (-31), 3) := by decide +kernel
theorem dX0_comeWith_41 : decode cX0_comeWith 41 = .ok (.iload_n 1, 1) := by decide +kernel
theorem dX0_comeWith_42 : decode cX0_comeWith 42 = .ok (.istore_n 2, 1) := by decide +kernel
theorem dX0_comeWith_43 : decode cX0_comeWith 43 = .ok (.aload_n 0, 1) := by decide +kernel
theorem dX0_comeWith_44 : decode cX0_comeWith 44 = .ok (.getfield 9, 3) := by decide +kernel
theorem dX0_comeWith_47 : decode cX0_comeWith 47 = .ok (.arraylength, 1) := by decide +kernel
theorem dX0_comeWith_48 : decode cX0_comeWith 48 = .ok (.iconst 1, 1) := by decide +kernel
theorem dX0_comeWith_49 : decode cX0_comeWith 49 = .ok (.isub, 1) := by decide +kernel
theorem dX0_comeWith_50 : decode cX0_comeWith 50 = .ok (.istore_n 3, 1) := by decide +kernel
theorem dX0_comeWith_51 : decode cX0_comeWith 51 = .ok (.iload_n 3, 1) := by decide +kernel
theorem dX0_comeWith_52 : decode cX0_comeWith 52 = .ok (.ifCond .lt 48, 3) := by decide +kernel
theorem dX0_comeWith_55 : decode cX0_comeWith 55 = .ok (.aload_n 0, 1) := by decide +kernel
theorem dX0_comeWith_56 : decode cX0_comeWith 56 = .ok (.getfield 9, 3) := by decide +kernel
theorem dX0_comeWith_59 : decode cX0_comeWith 59 = .ok (.iload_n 3, 1) := by decide +kernel
theorem dX0_comeWith_60 : decode cX0_comeWith 60 = .ok (.iload_n 3, 1) := by decide +kernel
theorem dX0_comeWith_61 : decode cX0_comeWith 61 = .ok (.aload_n 0, 1) := by decide +kernel
theorem dX0_comeWith_62 : decode cX0_comeWith 62 = .ok (.getfield 15, 3) := by decide +kernel
theorem dX0_comeWith_65 : decode cX0_comeWith 65 = .ok (.if_icmp .ge 10, 3) := by decide +kernel
theorem dX0_comeWith_68 : decode cX0_comeWith 68 = .ok (.iload_n 2, 1) := by decide +kernel
theorem dX0_comeWith_69 : decode cX0_comeWith 69 = .ok (.bipush 10, 2) := by decide +kernel
theorem dX0_comeWith_71 : decode cX0_comeWith 71 = .ok (.irem, 1) := by decide +kernel
theorem dX0_comeWith_72 : decode cX0_comeWith 72 = .ok (.goto 4, 3) := by decide +kernel
theorem dX0_comeWith_75 : decode cX0_comeWith 75 = .ok (.iconst 0, 1) := by decide +kernel
theorem dX0_comeWith_76 : decode cX0_comeWith 76 = .ok (.iastore, 1) := by decide +kernel
theorem dX0_comeWith_77 : decode cX0_comeWith 77 = .ok (.iload_n 3, 1) := by decide +kernel
theorem dX0_comeWith_78 : decode cX0_comeWith 78 = .ok (.aload_n 0, 1) := by decide +kernel
theorem dX0_comeWith_79 : decode cX0_comeWith 79 = .ok (.getfield 15, 3) := by decide +kernel
theorem dX0_comeWith_82 : decode cX0_comeWith 82 = .ok (.if_icmp .ge 10, 3) := by decide +kernel
theorem dX0_comeWith_85 : decode cX0_comeWith 85 = .ok (.iload_n 2, 1) := by decide +kernel
theorem dX0_comeWith_86 : decode cX0_comeWith 86 = .ok (.bipush 10, 2) := by decide +kernel
theorem dX0_comeWith_88 : decode cX0_comeWith 88 = .ok (.idiv, 1) := by decide +kernel
theorem dX0_comeWith_89 : decode cX0_comeWith 89 = .ok (.goto 4, 3) := by decide +kernel
theorem dX0_comeWith_92 : decode cX0_comeWith 92 = .ok (.iload_n 2, 1) := by decide +kernel
theorem dX0_comeWith_93 : decode cX0_comeWith 93 = .ok (.istore_n 2, 1) := by decide +kernel
theorem dX0_comeWith_94 : decode cX0_comeWith 94 = .ok (.iinc 3 (-1), 3) := by decide +kernel
theorem dX0_comeWith_97 : decode cX0_comeWith 97 = .ok (.goto (-46), 3) := by decide +kernel
theorem dX0_comeWith_100 : decode cX0_comeWith 100 = .ok (.aload_n 0, 1) := by decide +kernel
theorem dX0_comeWith_101 : decode cX0_comeWith 101 = .ok (.iconst 0, 1) := by decide +kernel
theorem dX0_comeWith_102 : decode cX0_comeWith 102 = .ok (.putfield 19, 3) := by decide +kernel
theorem dX0_comeWith_105 : decode cX0_comeWith 105 = .ok (.aload_n 0, 1) := by decide +kernel
theorem dX0_comeWith_106 : decode cX0_comeWith 106 = .ok (.iconst 0, 1) := by decide +kernel
theorem dX0_comeWith_107 : decode cX0_comeWith 107 = .ok (.putfield 22, 3) := by decide +kernel
theorem dX0_comeWith_110 : decode cX0_comeWith 110 = .ok (.return_, 1) := by decide +kernel
set_option maxRecDepth 20000 in
theorem ggX0_flowBy_J7_fill_53178 : GoodIn wsX0_flowBy wsJ7_fill_53178 := goodIn_r _ [5] (by decide +kernel) (by decide +kernel)
set_option maxRecDepth 20000 in
theorem gX0_flowBy_J7_fill_53178 : GoodIn wsX0_flowBy (va_wsS RX0 29 yJ7_fill_53178 wsJ7_fill_53178) := goodIn_app (goodIn_of _ (by decide +kernel)) ggX0_flowBy_J7_fill_53178
theorem dX0_flowBy_0 : decode cX0_flowBy 0 = .ok (.aload_n 2, 1) := by decide +kernel
theorem dX0_flowBy_1 : decode cX0_flowBy 1 = .ok (.iconst 0, 1) := by decide +kernel
theorem dX0_flowBy_2 : decode cX0_flowBy 2 = .ok (.invokestatic 29, 3) := by decide +kernel
theorem dX0_flowBy_5 : decode cX0_flowBy 5 = .ok (.iconst 0, 1) := by decide +kernel
theorem dX0_flowBy_6 : decode cX0_flowBy 6 = .ok (.istore_n 3, 1) := by decide +kernel
theorem dX0_flowBy_7 : decode cX0_flowBy 7 = .ok (.iload_n 3, 1) := by decide +kernel
theorem dX0_flowBy_8 : decode cX0_flowBy 8 = .ok (.aload_n 1, 1) := by decide +kernel
theorem dX0_flowBy_9 : decode cX0_flowBy 9 = .ok (.arraylength, 1) := by decide +kernel
theorem dX0_flowBy_10 : decode cX0_flowBy 10 = .ok (.if_icmp .ge 57, 3) := by decide +kernel
theorem dX0_flowBy_13 : decode cX0_flowBy 13 = .ok (.iconst 0, 1) := by decide +kernel
theorem dX0_flowBy_14 : decode cX0_flowBy 14 = .ok (.istore 4, 2) := by decide +kernel
theorem dX0_flowBy_16 : decode cX0_flowBy 16 = .ok (.iload 4, 2) := by decide +kernel
theorem dX0_flowBy_18 : decode cX0_flowBy 18 = .ok (.aload_n 0, 1) := by decide +kernel
theorem dX0_flowBy_19 : decode cX0_flowBy 19 = .ok (.getfield 9, 3) := by decide +kernel
theorem dX0_flowBy_22 : decode cX0_flowBy 22 = .ok (.arraylength, 1) := by decide +kernel
theorem dX0_flowBy_23 : decode cX0_flowBy 23 = .ok (.if_icmp .ge 38, 3) := by decide +kernel
theorem dX0_flowBy_26 : decode cX0_flowBy 26 = .ok (.iload_n 3, 1) := by decide +kernel
theorem dX0_flowBy_27 : decode cX0_flowBy 27 = .ok (.iload 4, 2) := by decide +kernel
theorem dX0_flowBy_29 : decode cX0_flowBy 29 = .ok (.iadd, 1) := by decide +kernel
theorem dX0_flowBy_30 : decode cX0_flowBy 30 = .ok (.aload_n 2, 1) := by decide +kernel
theorem dX0_flowBy_31 : decode cX0_flowBy 31 = .ok (.arraylength, 1) := by decide +kernel
theorem dX0_flowBy_32 : decode cX0_flowBy 32 = .ok (.if_icmp .ge 29, 3) := by decide +kernel
theorem dX0_flowBy_35 : decode cX0_flowBy 35 = .ok (.aload_n 2, 1) := by decide +kernel
theorem dX0_flowBy_36 : decode cX0_flowBy 36 = .ok (.iload_n 3, 1) := by decide +kernel
theorem dX0_flowBy_37 : decode cX0_flowBy 37 = .ok (.iload 4, 2) := by decide +kernel
theorem dX0_flowBy_39 : decode cX0_flowBy 39 = .ok (.iadd, 1) := by decide +kernel
theorem dX0_flowBy_40 : decode cX0_flowBy 40 = .ok (.dup2, 1) := by decide +kernel
theorem dX0_flowBy_41 : decode cX0_flowBy 41 = .ok (.iaload, 1) := by decide +kernel
theorem dX0_flowBy_42 : decode cX0_flowBy 42 = .ok (.aload_n 1, 1) := by decide +kernel
theorem dX0_flowBy_43 : decode cX0_flowBy 43 = .ok (.iload_n 3, 1) := by decide +kernel
theorem dX0_flowBy_44 : decode cX0_flowBy 44 = .ok (.iaload, 1) := by decide +kernel
theorem dX0_flowBy_45 : decode cX0_flowBy 45 = .ok (.aload_n 0, 1) := by decide +kernel
theorem dX0_flowBy_46 : decode cX0_flowBy 46 = .ok (.getfield 9, 3) := by decide +kernel
theorem dX0_flowBy_49 : decode cX0_flowBy 49 = .ok (.iload 4, 2) := by decide +kernel
theorem dX0_flowBy_51 : decode cX0_flowBy 51 = .ok (.iaload, 1) := by decide +kernel
theorem dX0_flowBy_52 : decode cX0_flowBy 52 = .ok (.imul, 1) := by decide +kernel
theorem dX0_flowBy_53 : decode cX0_flowBy 53 = .ok (.iadd, 1) := by decide +kernel
theorem dX0_flowBy_54 : decode cX0_flowBy 54 = .ok (.iastore, 1) := by decide +kernel
theorem dX0_flowBy_55 : decode cX0_flowBy 55 = .ok (.iinc 4 1, 3) := by decide +kernel
theorem dX0_flowBy_58 : decode cX0_flowBy 58 = .ok (.goto (-42), 3) := by decide +kernel
theorem dX0_flowBy_61 : decode cX0_flowBy 61 = .ok (.iinc 3 1, 3) := by decide +kernel
theorem dX0_flowBy_64 : decode cX0_flowBy 64 = .ok (.goto (-57), 3) := by decide +kernel
theorem dX0_flowBy_67 : decode cX0_flowBy 67 = .ok (.return_, 1) := by decide +kernel
set_option maxRecDepth 20000 in
theorem ggX0_letThrough_X9_between : GoodIn wsX0_letThrough wsX9_between := goodIn_r _ [5] (by decide +kernel) (by decide +kernel)
set_option maxRecDepth 20000 in
theorem gX0_letThrough_X9_between_n35 : GoodIn wsX0_letThrough (wsX9_between) := ggX0_letThrough_X9_between
set_option maxRecDepth 20000 in
theorem ggX0_letThrough_X0_outOfStore : GoodIn wsX0_letThrough wsX0_outOfStore := goodIn_r _ [10, 1, 2, 11, 12, 13, 14, 15, 16, 17, 18, 19, 20, 21] (by decide +kernel) (by decide +kernel)
set_option maxRecDepth 20000 in
theorem gX0_letThrough_X0_outOfStore : GoodIn wsX0_letThrough (wsV RX0 39 RX0 yX0_outOfStore wsX0_outOfStore) := goodIn_app (goodIn_of _ (by decide +kernel)) ggX0_letThrough_X0_outOfStore
theorem dX0_letThrough_0 : decode cX0_letThrough 0 = .ok (.iconst 0, 1) := by decide +kernel
theorem dX0_letThrough_1 : decode cX0_letThrough 1 = .ok (.istore_n 3, 1) := by decide +kernel
theorem dX0_letThrough_2 : decode cX0_letThrough 2 = .ok (.iconst 0, 1) := by decide +kernel
theorem dX0_letThrough_3 : decode cX0_letThrough 3 = .ok (.istore 4, 2) := by decide +kernel
theorem dX0_letThrough_5 : decode cX0_letThrough 5 = .ok (.iload 4, 2) := by decide +kernel
theorem dX0_letThrough_7 : decode cX0_letThrough 7 = .ok (.aload_n 1, 1) := by decide +kernel
theorem dX0_letThrough_8 : decode cX0_letThrough 8 = .ok (.arraylength, 1) := by decide +kernel
theorem dX0_letThrough_9 : decode cX0_letThrough 9 = .ok (.if_icmp .ge 85, 3) := by decide +kernel
theorem dX0_letThrough_12 : decode cX0_letThrough 12 = .ok (.iload 4, 2) := by decide +kernel
theorem dX0_letThrough_14 : decode cX0_letThrough 14 = .ok (.aload_n 2, 1) := by decide +kernel
theorem dX0_letThrough_15 : decode cX0_letThrough 15 = .ok (.arraylength, 1) := by decide +kernel
theorem dX0_letThrough_16 : decode cX0_letThrough 16 = .ok (.if_icmp .ge 78, 3) := by decide +kernel
theorem dX0_letThrough_19 : decode cX0_letThrough 19 = .ok (.aload_n 0, 1) := by decide +kernel
theorem dX0_letThrough_20 : decode cX0_letThrough 20 = .ok (.getfield 19, 3) := by decide +kernel
theorem dX0_letThrough_23 : decode cX0_letThrough 23 = .ok (.iconst 1, 1) := by decide +kernel
theorem dX0_letThrough_24 : decode cX0_letThrough 24 = .ok (.if_icmp .ne 41, 3) := by decide +kernel
theorem dX0_letThrough_27 : decode cX0_letThrough 27 = .ok (.aload_n 2, 1) := by decide +kernel
theorem dX0_letThrough_28 : decode cX0_letThrough 28 = .ok (.iload 4, 2) := by decide +kernel
theorem dX0_letThrough_30 : decode cX0_letThrough 30 = .ok (.iload 4, 2) := by decide +kernel
theorem dX0_letThrough_32 : decode cX0_letThrough 32 = .ok (.aload_n 0, 1) := by decide +kernel
theorem dX0_letThrough_33 : decode cX0_letThrough 33 = .ok (.getfield 22, 3) := by decide +kernel
theorem dX0_letThrough_36 : decode cX0_letThrough 36 = .ok (.isub, 1) := by decide +kernel
theorem dX0_letThrough_37 : decode cX0_letThrough 37 = .ok (.iconst 0, 1) := by decide +kernel
theorem dX0_letThrough_38 : decode cX0_letThrough 38 = .ok (.aload_n 1, 1) := by decide +kernel
theorem dX0_letThrough_39 : decode cX0_letThrough 39 = .ok (.arraylength, 1) := by decide +kernel
theorem dX0_letThrough_40 : decode cX0_letThrough 40 = .ok (.iconst 1, 1) := by decide +kernel
theorem dX0_letThrough_41 : decode cX0_letThrough 41 = .ok (.isub, 1) := by decide +kernel
theorem dX0_letThrough_42 : decode cX0_letThrough 42 = .ok (.invokestatic 35, 3) := by decide +kernel
theorem dX0_letThrough_45 : decode cX0_letThrough 45 = .ok (.ifCond .eq 15, 3) := by decide +kernel
theorem dX0_letThrough_48 : decode cX0_letThrough 48 = .ok (.aload_n 1, 1) := by decide +kernel
theorem dX0_letThrough_49 : decode cX0_letThrough 49 = .ok (.iload 4, 2) := by decide +kernel
theorem dX0_letThrough_51 : decode cX0_letThrough 51 = .ok (.aload_n 0, 1) := by decide +kernel
theorem dX0_letThrough_52 : decode cX0_letThrough 52 = .ok (.getfield 22, 3) := by decide +kernel
theorem dX0_letThrough_55 : decode cX0_letThrough 55 = .ok (.isub, 1) := by decide +kernel
theorem dX0_letThrough_56 : decode cX0_letThrough 56 = .ok (.iaload, 1) := by decide +kernel
theorem dX0_letThrough_57 : decode cX0_letThrough 57 = .ok (.goto 4, 3) := by decide +kernel
theorem dX0_letThrough_60 : decode cX0_letThrough 60 = .ok (.iconst 0, 1) := by decide +kernel
theorem dX0_letThrough_61 : decode cX0_letThrough 61 = .ok (.iastore, 1) := by decide +kernel
theorem dX0_letThrough_62 : decode cX0_letThrough 62 = .ok (.goto 26, 3) := by decide +kernel
theorem dX0_letThrough_65 : decode cX0_letThrough 65 = .ok (.iload_n 3, 1) := by decide +kernel
theorem dX0_letThrough_66 : decode cX0_letThrough 66 = .ok (.aload_n 1, 1) := by decide +kernel
theorem dX0_letThrough_67 : decode cX0_letThrough 67 = .ok (.iload 4, 2) := by decide +kernel
theorem dX0_letThrough_69 : decode cX0_letThrough 69 = .ok (.iaload, 1) := by decide +kernel
theorem dX0_letThrough_70 : decode cX0_letThrough 70 = .ok (.iadd, 1) := by decide +kernel
theorem dX0_letThrough_71 : decode cX0_letThrough 71 = .ok (.istore_n 3, 1) := by decide +kernel
theorem dX0_letThrough_72 : decode cX0_letThrough 72 = .ok (.aload_n 2, 1) := by decide +kernel
theorem dX0_letThrough_73 : decode cX0_letThrough 73 = .ok (.iload 4, 2) := by decide +kernel
theorem dX0_letThrough_75 : decode cX0_letThrough 75 = .ok (.aload_n 0, 1) := by decide +kernel
theorem dX0_letThrough_76 : decode cX0_letThrough 76 = .ok (.iload_n 3, 1) := by decide +kernel
theorem dX0_letThrough_77 : decode cX0_letThrough 77 = .ok (.invokevirtual 39, 3) := by decide +kernel
theorem dX0_letThrough_80 : decode cX0_letThrough 80 = .ok (.iastore, 1) := by decide +kernel
theorem dX0_letThrough_81 : decode cX0_letThrough 81 = .ok (.iload_n 3, 1) := by decide +kernel
theorem dX0_letThrough_82 : decode cX0_letThrough 82 = .ok (.aload_n 2, 1) := by decide +kernel
theorem dX0_letThrough_83 : decode cX0_letThrough 83 = .ok (.iload 4, 2) := by decide +kernel
theorem dX0_letThrough_85 : decode cX0_letThrough 85 = .ok (.iaload, 1) := by decide +kernel
theorem dX0_letThrough_86 : decode cX0_letThrough 86 = .ok (.isub, 1) := by decide +kernel
theorem dX0_letThrough_87 : decode cX0_letThrough 87 = .ok (.istore_n 3, 1) := by decide +kernel
theorem dX0_letThrough_88 : decode cX0_letThrough 88 = .ok (.iinc 4 1, 3) := by decide +kernel
theorem dX0_letThrough_91 : decode cX0_letThrough 91 = .ok (.goto (-86), 3) := by decide +kernel
theorem dX0_letThrough_94 : decode cX0_letThrough 94 = .ok (.iload_n 3, 1) := by decide +kernel
theorem dX0_letThrough_95 : decode cX0_letThrough 95 = .ok (.ireturn, 1) := by decide +kernel
theorem dX0_outOfStore_0 : decode cX0_outOfStore 0 = .ok (.aload_n 0, 1) := by decide +kernel
theorem dX0_outOfStore_1 : decode cX0_outOfStore 1 = .ok (.getfield 19, 3) := by decide +kernel
theorem dX0_outOfStore_4 : decode cX0_outOfStore 4 = .ok (.tableswitch 66 2 4 #[28, 46, 55], 28) := by decide +kernel
theorem dX0_outOfStore_32 : decode cX0_outOfStore 32 = .ok (.aload_n 0, 1) := by decide +kernel
theorem dX0_outOfStore_33 : decode cX0_outOfStore 33 = .ok (.getfield 22, 3) := by decide +kernel
theorem dX0_outOfStore_36 : decode cX0_outOfStore 36 = .ok (.ifCond .le 12, 3) := by decide +kernel
theorem dX0_outOfStore_39 : decode cX0_outOfStore 39 = .ok (.iload_n 1, 1) := by decide +kernel
theorem dX0_outOfStore_40 : decode cX0_outOfStore 40 = .ok (.aload_n 0, 1) := by decide +kernel
theorem dX0_outOfStore_41 : decode cX0_outOfStore 41 = .ok (.getfield 22, 3) := by decide +kernel
theorem dX0_outOfStore_44 : decode cX0_outOfStore 44 = .ok (.idiv, 1) := by decide +kernel
theorem dX0_outOfStore_45 : decode cX0_outOfStore 45 = .ok (.goto 4, 3) := by decide +kernel
theorem dX0_outOfStore_48 : decode cX0_outOfStore 48 = .ok (.iconst 0, 1) := by decide +kernel
theorem dX0_outOfStore_49 : decode cX0_outOfStore 49 = .ok (.ireturn, 1) := by decide +kernel
theorem dX0_outOfStore_50 : decode cX0_outOfStore 50 = .ok (.iload_n 1, 1) := by decide +kernel
theorem dX0_outOfStore_51 : decode cX0_outOfStore 51 = .ok (.aload_n 0, 1) := by decide +kernel
theorem dX0_outOfStore_52 : decode cX0_outOfStore 52 = .ok (.getfield 22, 3) := by decide +kernel
theorem dX0_outOfStore_55 : decode cX0_outOfStore 55 = .ok (.invokestatic 43, 3) := by decide +kernel
theorem dX0_outOfStore_58 : decode cX0_outOfStore 58 = .ok (.ireturn, 1) := by decide +kernel
theorem dX0_outOfStore_59 : decode cX0_outOfStore 59 = .ok (.iload_n 1, 1) := by decide +kernel
theorem dX0_outOfStore_60 : decode cX0_outOfStore 60 = .ok (.aload_n 0, 1) := by decide +kernel
theorem dX0_outOfStore_61 : decode cX0_outOfStore 61 = .ok (.getfield 22, 3) := by decide +kernel
theorem dX0_outOfStore_64 : decode cX0_outOfStore 64 = .ok (.isub, 1) := by decide +kernel
theorem dX0_outOfStore_65 : decode cX0_outOfStore 65 = .ok (.iconst 0, 1) := by decide +kernel
theorem dX0_outOfStore_66 : decode cX0_outOfStore 66 = .ok (.invokestatic 49, 3) := by decide +kernel
theorem dX0_outOfStore_69 : decode cX0_outOfStore 69 = .ok (.ireturn, 1) := by decide +kernel
theorem dX0_outOfStore_70 : decode cX0_outOfStore 70 = .ok (.iload_n 1, 1) := by decide +kernel
theorem dX0_outOfStore_71 : decode cX0_outOfStore 71 = .ok (.ireturn, 1) := by decide +kernel
theorem dX1_init_0 : decode cX1_init 0 = .ok (.aload_n 0, 1) := by decide +kernel
theorem dX1_init_1 : decode cX1_init 1 = .ok (.invokespecial 3, 3) := by decide +kernel
theorem dX1_init_4 : decode cX1_init 4 = .ok (.aload_n 0, 1) := by decide +kernel
theorem dX1_init_5 : decode cX1_init 5 = .ok (.bipush 30, 2) := by decide +kernel
theorem dX1_init_7 : decode cX1_init 7 = .ok (.newarray .int, 2) := by decide +kernel
theorem dX1_init_9 : decode cX1_init 9 = .ok (.putfield 9, 3) := by decide +kernel
theorem dX1_init_12 : decode cX1_init 12 = .ok (.aload_n 0, 1) := by decide +kernel
theorem dX1_init_13 : decode cX1_init 13 = .ok (.bipush 30, 2) := by decide +kernel
theorem dX1_init_15 : decode cX1_init 15 = .ok (.newarray .int, 2) := by decide +kernel
theorem dX1_init_17 : decode cX1_init 17 = .ok (.putfield 15, 3) := by decide +kernel
theorem dX1_init_20 : decode cX1_init 20 = .ok (.aload_n 0, 1) := by decide +kernel
theorem dX1_init_21 : decode cX1_init 21 = .ok (.bipush 30, 2) := by decide +kernel
theorem dX1_init_23 : decode cX1_init 23 = .ok (.newarray .int, 2) := by decide +kernel
theorem dX1_init_25 : decode cX1_init 25 = .ok (.putfield 18, 3) := by decide +kernel
theorem dX1_init_28 : decode cX1_init 28 = .ok (.return_, 1) := by decide +kernel
set_option maxRecDepth 20000 in
theorem ggX1_runOff_X0_flowBy : GoodIn wsX1_runOff wsX0_flowBy := goodIn_r _ [7, 8, 9, 10, 11, 12, 36, 37, 38, 39] (by decide +kernel) (by decide +kernel)
set_option maxRecDepth 20000 in
theorem gX1_runOff_X0_flowBy : GoodIn wsX1_runOff (wsV RX1 21 RX0 yX0_flowBy wsX0_flowBy) := goodIn_app (goodIn_of _ (by decide +kernel)) ggX1_runOff_X0_flowBy
set_option maxRecDepth 20000 in
theorem ggX1_runOff_X0_letThrough : GoodIn wsX1_runOff wsX0_letThrough := goodIn_r _ [16, 17, 18, 19, 20, 21, 22, 23, 24, 6, 25, 26, 27, 28, 29, 30, 31, 32, 36, 37, 38, 39] (by decide +kernel) (by decide +kernel)
set_option maxRecDepth 20000 in
theorem gX1_runOff_X0_letThrough : GoodIn wsX1_runOff (wsV RX1 27 RX0 yX0_letThrough wsX0_letThrough) := goodIn_app (goodIn_of _ (by decide +kernel)) ggX1_runOff_X0_letThrough
theorem dX1_runOff_0 : decode cX1_runOff 0 = .ok (.aload_n 1, 1) := by decide +kernel
theorem dX1_runOff_1 : decode cX1_runOff 1 = .ok (.aload_n 2, 1) := by decide +kernel
theorem dX1_runOff_2 : decode cX1_runOff 2 = .ok (.aload_n 0, 1) := by decide +kernel
theorem dX1_runOff_3 : decode cX1_runOff 3 = .ok (.getfield 9, 3) := by decide +kernel
theorem dX1_runOff_6 : decode cX1_runOff 6 = .ok (.invokevirtual 21, 3) := by decide +kernel
theorem dX1_runOff_9 : decode cX1_runOff 9 = .ok (.aload_n 1, 1) := by decide +kernel
theorem dX1_runOff_10 : decode cX1_runOff 10 = .ok (.aload_n 0, 1) := by decide +kernel
theorem dX1_runOff_11 : decode cX1_runOff 11 = .ok (.getfield 9, 3) := by decide +kernel
theorem dX1_runOff_14 : decode cX1_runOff 14 = .ok (.aload_n 0, 1) := by decide +kernel
theorem dX1_runOff_15 : decode cX1_runOff 15 = .ok (.getfield 15, 3) := by decide +kernel
theorem dX1_runOff_18 : decode cX1_runOff 18 = .ok (.invokevirtual 27, 3) := by decide +kernel
theorem dX1_runOff_21 : decode cX1_runOff 21 = .ok (.ireturn, 1) := by decide +kernel
set_option maxRecDepth 20000 in
theorem ggX1_join_J7_fill_53178 : GoodIn wsX1_join wsJ7_fill_53178 := goodIn_r _ [9] (by decide +kernel) (by decide +kernel)
set_option maxRecDepth 20000 in
theorem gX1_join_J7_fill_53178 : GoodIn wsX1_join (va_wsS RX1 31 yJ7_fill_53178 wsJ7_fill_53178) := goodIn_app (goodIn_of _ (by decide +kernel)) ggX1_join_J7_fill_53178
set_option maxRecDepth 20000 in
theorem ggX1_join_X1_runOff : GoodIn wsX1_join wsX1_runOff := goodIn_r _ [14, 15, 5, 16, 17, 18, 19, 20, 21, 22, 7, 8, 9, 23, 24, 25, 26, 27, 28, 29, 30, 31, 32, 33, 34, 35, 36, 37, 38, 39, 40, 41, 42, 43, 44, 45, 49, 50, 51, 52] (by decide +kernel) (by decide +kernel)
set_option maxRecDepth 20000 in
theorem gX1_join_X1_runOff : GoodIn wsX1_join (wsV RX1 50 RX1 yX1_runOff wsX1_runOff) := goodIn_app (goodIn_of _ (by decide +kernel)) ggX1_join_X1_runOff
theorem dX1_join_0 : decode cX1_join 0 = .ok (.aload_n 0, 1) := by decide +kernel
theorem dX1_join_1 : decode cX1_join 1 = .ok (.getfield 18, 3) := by decide +kernel
theorem dX1_join_4 : decode cX1_join 4 = .ok (.iconst 0, 1) := by decide +kernel
theorem dX1_join_5 : decode cX1_join 5 = .ok (.invokestatic 31, 3) := by decide +kernel
theorem dX1_join_8 : decode cX1_join 8 = .ok (.iconst 0, 1) := by decide +kernel
theorem dX1_join_9 : decode cX1_join 9 = .ok (.istore_n 2, 1) := by decide +kernel
theorem dX1_join_10 : decode cX1_join 10 = .ok (.iload_n 2, 1) := by decide +kernel
theorem dX1_join_11 : decode cX1_join 11 = .ok (.aload_n 1, 1) := by decide +kernel
theorem dX1_join_12 : decode cX1_join 12 = .ok (.getfield 37, 3) := by decide +kernel
theorem dX1_join_15 : decode cX1_join 15 = .ok (.if_icmp .ge 74, 3) := by decide +kernel
theorem dX1_join_18 : decode cX1_join 18 = .ok (.iload_n 2, 1) := by decide +kernel
theorem dX1_join_19 : decode cX1_join 19 = .ok (.aload_n 1, 1) := by decide +kernel
theorem dX1_join_20 : decode cX1_join 20 = .ok (.getfield 43, 3) := by decide +kernel
theorem dX1_join_23 : decode cX1_join 23 = .ok (.arraylength, 1) := by decide +kernel
theorem dX1_join_24 : decode cX1_join 24 = .ok (.if_icmp .ge 65, 3) := by decide +kernel
theorem dX1_join_27 : decode cX1_join 27 = .ok (.aload_n 0, 1) := by decide +kernel
theorem dX1_join_28 : decode cX1_join 28 = .ok (.aload_n 1, 1) := by decide +kernel
theorem dX1_join_29 : decode cX1_join 29 = .ok (.getfield 43, 3) := by decide +kernel
theorem dX1_join_32 : decode cX1_join 32 = .ok (.iload_n 2, 1) := by decide +kernel
theorem dX1_join_33 : decode cX1_join 33 = .ok (.aaload, 1) := by decide +kernel
theorem dX1_join_34 : decode cX1_join 34 = .ok (.aload_n 1, 1) := by decide +kernel
theorem dX1_join_35 : decode cX1_join 35 = .ok (.getfield 47, 3) := by decide +kernel
theorem dX1_join_38 : decode cX1_join 38 = .ok (.invokevirtual 50, 3) := by decide +kernel
theorem dX1_join_41 : decode cX1_join 41 = .ok (.pop, 1) := by decide +kernel
theorem dX1_join_42 : decode cX1_join 42 = .ok (.iconst 0, 1) := by decide +kernel
theorem dX1_join_43 : decode cX1_join 43 = .ok (.istore_n 3, 1) := by decide +kernel
theorem dX1_join_44 : decode cX1_join 44 = .ok (.iload_n 3, 1) := by decide +kernel
theorem dX1_join_45 : decode cX1_join 45 = .ok (.aload_n 0, 1) := by decide +kernel
theorem dX1_join_46 : decode cX1_join 46 = .ok (.getfield 18, 3) := by decide +kernel
theorem dX1_join_49 : decode cX1_join 49 = .ok (.arraylength, 1) := by decide +kernel
theorem dX1_join_50 : decode cX1_join 50 = .ok (.if_icmp .ge 33, 3) := by decide +kernel
theorem dX1_join_53 : decode cX1_join 53 = .ok (.iload_n 3, 1) := by decide +kernel
theorem dX1_join_54 : decode cX1_join 54 = .ok (.aload_n 0, 1) := by decide +kernel
theorem dX1_join_55 : decode cX1_join 55 = .ok (.getfield 15, 3) := by decide +kernel
theorem dX1_join_58 : decode cX1_join 58 = .ok (.arraylength, 1) := by decide +kernel
theorem dX1_join_59 : decode cX1_join 59 = .ok (.if_icmp .ge 24, 3) := by decide +kernel
theorem dX1_join_62 : decode cX1_join 62 = .ok (.aload_n 0, 1) := by decide +kernel
theorem dX1_join_63 : decode cX1_join 63 = .ok (.getfield 18, 3) := by decide +kernel
theorem dX1_join_66 : decode cX1_join 66 = .ok (.iload_n 3, 1) := by decide +kernel
theorem dX1_join_67 : decode cX1_join 67 = .ok (.dup2, 1) := by decide +kernel
theorem dX1_join_68 : decode cX1_join 68 = .ok (.iaload, 1) := by decide +kernel
theorem dX1_join_69 : decode cX1_join 69 = .ok (.aload_n 0, 1) := by decide +kernel
theorem dX1_join_70 : decode cX1_join 70 = .ok (.getfield 15, 3) := by decide +kernel
theorem dX1_join_73 : decode cX1_join 73 = .ok (.iload_n 3, 1) := by decide +kernel
theorem dX1_join_74 : decode cX1_join 74 = .ok (.iaload, 1) := by decide +kernel
theorem dX1_join_75 : decode cX1_join 75 = .ok (.iadd, 1) := by decide +kernel
theorem dX1_join_76 : decode cX1_join 76 = .ok (.iastore, 1) := by decide +kernel
theorem dX1_join_77 : decode cX1_join 77 = .ok (.iinc 3 1, 3) := by decide +kernel
theorem dX1_join_80 : decode cX1_join 80 = .ok (.goto (-36), 3) := by decide +kernel
theorem dX1_join_83 : decode cX1_join 83 = .ok (.iinc 2 1, 3) := by decide +kernel
theorem dX1_join_86 : decode cX1_join 86 = .ok (.goto (-76), 3) := by decide +kernel
theorem dX1_join_89 : decode cX1_join 89 = .ok (.return_, 1) := by decide +kernel
set_option maxRecDepth 20000 in
theorem ggX1_peakOf_X1_join : GoodIn wsX1_peakOf wsX1_join := goodIn_r _ [6, 1, 7, 8, 9, 10, 11, 12, 13, 14, 15, 16, 17, 5, 18, 19, 20, 21, 22, 23, 24, 25, 26, 27, 28, 29, 30, 31, 32, 33, 34, 35, 36, 37, 38, 39, 40, 41, 42, 43, 44, 45, 46, 49, 50, 51, 52, 53, 54, 55, 56, 57, 58] (by decide +kernel) (by decide +kernel)
set_option maxRecDepth 20000 in
theorem gX1_peakOf_X1_join : GoodIn wsX1_peakOf (wsV RX1 54 RX1 yX1_join wsX1_join) := goodIn_app (goodIn_of _ (by decide +kernel)) ggX1_peakOf_X1_join
set_option maxRecDepth 20000 in
theorem ggX1_peakOf_X9_measure : GoodIn wsX1_peakOf wsX9_measure := goodIn_r _ [48] (by decide +kernel) (by decide +kernel)
set_option maxRecDepth 20000 in
theorem gX1_peakOf_X9_measure_n58 : GoodIn wsX1_peakOf (wsX9_measure) := ggX1_peakOf_X9_measure
theorem dX1_peakOf_0 : decode cX1_peakOf 0 = .ok (.aload_n 0, 1) := by decide +kernel
theorem dX1_peakOf_1 : decode cX1_peakOf 1 = .ok (.aload_n 1, 1) := by decide +kernel
theorem dX1_peakOf_2 : decode cX1_peakOf 2 = .ok (.invokevirtual 54, 3) := by decide +kernel
theorem dX1_peakOf_5 : decode cX1_peakOf 5 = .ok (.aload_n 0, 1) := by decide +kernel
theorem dX1_peakOf_6 : decode cX1_peakOf 6 = .ok (.getfield 18, 3) := by decide +kernel
theorem dX1_peakOf_9 : decode cX1_peakOf 9 = .ok (.iconst 1, 1) := by decide +kernel
theorem dX1_peakOf_10 : decode cX1_peakOf 10 = .ok (.invokestatic 58, 3) := by decide +kernel
theorem dX1_peakOf_13 : decode cX1_peakOf 13 = .ok (.ireturn, 1) := by decide +kernel
theorem dX2_init_0 : decode cX2_init 0 = .ok (.aload_n 0, 1) := by decide +kernel
theorem dX2_init_1 : decode cX2_init 1 = .ok (.invokespecial 3, 3) := by decide +kernel
theorem dX2_init_4 : decode cX2_init 4 = .ok (.aload_n 0, 1) := by decide +kernel
theorem dX2_init_5 : decode cX2_init 5 = .ok (.bipush 12, 2) := by decide +kernel
theorem dX2_init_7 : decode cX2_init 7 = .ok (.newarray .int, 2) := by decide +kernel
theorem dX2_init_9 : decode cX2_init 9 = .ok (.putfield 9, 3) := by decide +kernel
theorem dX2_init_12 : decode cX2_init 12 = .ok (.aload_n 0, 1) := by decide +kernel
theorem dX2_init_13 : decode cX2_init 13 = .ok (.bipush 8, 2) := by decide +kernel
theorem dX2_init_15 : decode cX2_init 15 = .ok (.newarray .int, 2) := by decide +kernel
theorem dX2_init_17 : decode cX2_init 17 = .ok (.putfield 15, 3) := by decide +kernel
theorem dX2_init_20 : decode cX2_init 20 = .ok (.aload_n 0, 1) := by decide +kernel
theorem dX2_init_21 : decode cX2_init 21 = .ok (.iconst 5, 1) := by decide +kernel
theorem dX2_init_22 : decode cX2_init 22 = .ok (.newarray .int, 2) := by decide +kernel
theorem dX2_init_24 : decode cX2_init 24 = .ok (.putfield 18, 3) := by decide +kernel
theorem dX2_init_27 : decode cX2_init 27 = .ok (.return_, 1) := by decide +kernel
set_option maxRecDepth 20000 in
theorem ggX2_unfoldBy_X9_copyNumbers : GoodIn wsX2_unfoldBy wsX9_copyNumbers := goodIn_r _ [6] (by decide +kernel) (by decide +kernel)
set_option maxRecDepth 20000 in
theorem gX2_unfoldBy_X9_copyNumbers_n21 : GoodIn wsX2_unfoldBy (wsX9_copyNumbers) := ggX2_unfoldBy_X9_copyNumbers
set_option maxRecDepth 20000 in
theorem ggX2_unfoldBy_X2_wholePart : GoodIn wsX2_unfoldBy wsX2_wholePart := goodIn_r _ [10] (by decide +kernel) (by decide +kernel)
set_option maxRecDepth 20000 in
theorem gX2_unfoldBy_X2_wholePart : GoodIn wsX2_unfoldBy (va_wsS RX2 28 yX2_wholePart wsX2_wholePart) := goodIn_app (goodIn_of _ (by decide +kernel)) ggX2_unfoldBy_X2_wholePart
set_option maxRecDepth 20000 in
theorem ggX2_unfoldBy_X2_takeAway : GoodIn wsX2_unfoldBy wsX2_takeAway := goodIn_r _ [14, 1, 15, 5, 16, 21, 22, 23] (by decide +kernel) (by decide +kernel)
set_option maxRecDepth 20000 in
theorem gX2_unfoldBy_X2_takeAway : GoodIn wsX2_unfoldBy (wsV RX2 32 RX2 yX2_takeAway wsX2_takeAway) := goodIn_app (goodIn_of _ (by decide +kernel)) ggX2_unfoldBy_X2_takeAway
set_option maxRecDepth 20000 in
theorem ggX2_unfoldBy_X2_firstLeft : GoodIn wsX2_unfoldBy wsX2_firstLeft := goodIn_r _ [20, 1, 21, 22, 23] (by decide +kernel) (by decide +kernel)
set_option maxRecDepth 20000 in
theorem gX2_unfoldBy_X2_firstLeft : GoodIn wsX2_unfoldBy (wsV RX2 36 RX2 yX2_firstLeft wsX2_firstLeft) := goodIn_app (goodIn_of _ (by decide +kernel)) ggX2_unfoldBy_X2_firstLeft
theorem dX2_unfoldBy_0 : decode cX2_unfoldBy 0 = .ok (.aload_n 2, 1) := by decide +kernel
theorem dX2_unfoldBy_1 : decode cX2_unfoldBy 1 = .ok (.aload_n 0, 1) := by decide +kernel
theorem dX2_unfoldBy_2 : decode cX2_unfoldBy 2 = .ok (.getfield 9, 3) := by decide +kernel
theorem dX2_unfoldBy_5 : decode cX2_unfoldBy 5 = .ok (.invokestatic 21, 3) := by decide +kernel
theorem dX2_unfoldBy_8 : decode cX2_unfoldBy 8 = .ok (.iconst 0, 1) := by decide +kernel
theorem dX2_unfoldBy_9 : decode cX2_unfoldBy 9 = .ok (.istore_n 3, 1) := by decide +kernel
theorem dX2_unfoldBy_10 : decode cX2_unfoldBy 10 = .ok (.iload_n 3, 1) := by decide +kernel
theorem dX2_unfoldBy_11 : decode cX2_unfoldBy 11 = .ok (.aload_n 0, 1) := by decide +kernel
theorem dX2_unfoldBy_12 : decode cX2_unfoldBy 12 = .ok (.getfield 15, 3) := by decide +kernel
theorem dX2_unfoldBy_15 : decode cX2_unfoldBy 15 = .ok (.arraylength, 1) := by decide +kernel
theorem dX2_unfoldBy_16 : decode cX2_unfoldBy 16 = .ok (.if_icmp .ge 67, 3) := by decide +kernel
theorem dX2_unfoldBy_19 : decode cX2_unfoldBy 19 = .ok (.iload_n 3, 1) := by decide +kernel
theorem dX2_unfoldBy_20 : decode cX2_unfoldBy 20 = .ok (.aload_n 0, 1) := by decide +kernel
theorem dX2_unfoldBy_21 : decode cX2_unfoldBy 21 = .ok (.getfield 9, 3) := by decide +kernel
theorem dX2_unfoldBy_24 : decode cX2_unfoldBy 24 = .ok (.arraylength, 1) := by decide +kernel
theorem dX2_unfoldBy_25 : decode cX2_unfoldBy 25 = .ok (.if_icmp .ge 58, 3) := by decide +kernel
theorem dX2_unfoldBy_28 : decode cX2_unfoldBy 28 = .ok (.aload_n 0, 1) := by decide +kernel
theorem dX2_unfoldBy_29 : decode cX2_unfoldBy 29 = .ok (.getfield 15, 3) := by decide +kernel
theorem dX2_unfoldBy_32 : decode cX2_unfoldBy 32 = .ok (.iload_n 3, 1) := by decide +kernel
theorem dX2_unfoldBy_33 : decode cX2_unfoldBy 33 = .ok (.aload_n 0, 1) := by decide +kernel
theorem dX2_unfoldBy_34 : decode cX2_unfoldBy 34 = .ok (.getfield 9, 3) := by decide +kernel
theorem dX2_unfoldBy_37 : decode cX2_unfoldBy 37 = .ok (.iload_n 3, 1) := by decide +kernel
theorem dX2_unfoldBy_38 : decode cX2_unfoldBy 38 = .ok (.iaload, 1) := by decide +kernel
theorem dX2_unfoldBy_39 : decode cX2_unfoldBy 39 = .ok (.aload_n 1, 1) := by decide +kernel
theorem dX2_unfoldBy_40 : decode cX2_unfoldBy 40 = .ok (.getfield 25, 3) := by decide +kernel
theorem dX2_unfoldBy_43 : decode cX2_unfoldBy 43 = .ok (.iconst 0, 1) := by decide +kernel
theorem dX2_unfoldBy_44 : decode cX2_unfoldBy 44 = .ok (.iaload, 1) := by decide +kernel
theorem dX2_unfoldBy_45 : decode cX2_unfoldBy 45 = .ok (.bipush 20, 2) := by decide +kernel
theorem dX2_unfoldBy_47 : decode cX2_unfoldBy 47 = .ok (.invokestatic 28, 3) := by decide +kernel
theorem dX2_unfoldBy_50 : decode cX2_unfoldBy 50 = .ok (.iastore, 1) := by decide +kernel
theorem dX2_unfoldBy_51 : decode cX2_unfoldBy 51 = .ok (.aload_n 0, 1) := by decide +kernel
theorem dX2_unfoldBy_52 : decode cX2_unfoldBy 52 = .ok (.getfield 15, 3) := by decide +kernel
theorem dX2_unfoldBy_55 : decode cX2_unfoldBy 55 = .ok (.iload_n 3, 1) := by decide +kernel
theorem dX2_unfoldBy_56 : decode cX2_unfoldBy 56 = .ok (.iaload, 1) := by decide +kernel
theorem dX2_unfoldBy_57 : decode cX2_unfoldBy 57 = .ok (.ifCond .ge 5, 3) := by decide +kernel
theorem dX2_unfoldBy_60 : decode cX2_unfoldBy 60 = .ok (.iload_n 3, 1) := by decide +kernel
theorem dX2_unfoldBy_61 : decode cX2_unfoldBy 61 = .ok (.ireturn, 1) := by decide +kernel
theorem dX2_unfoldBy_62 : decode cX2_unfoldBy 62 = .ok (.aload_n 0, 1) := by decide +kernel
theorem dX2_unfoldBy_63 : decode cX2_unfoldBy 63 = .ok (.iload_n 3, 1) := by decide +kernel
theorem dX2_unfoldBy_64 : decode cX2_unfoldBy 64 = .ok (.aload_n 0, 1) := by decide +kernel
theorem dX2_unfoldBy_65 : decode cX2_unfoldBy 65 = .ok (.getfield 15, 3) := by decide +kernel
theorem dX2_unfoldBy_68 : decode cX2_unfoldBy 68 = .ok (.iload_n 3, 1) := by decide +kernel
theorem dX2_unfoldBy_69 : decode cX2_unfoldBy 69 = .ok (.iaload, 1) := by decide +kernel
theorem dX2_unfoldBy_70 : decode cX2_unfoldBy 70 = .ok (.aload_n 1, 1) := by decide +kernel
theorem dX2_unfoldBy_71 : decode cX2_unfoldBy 71 = .ok (.getfield 25, 3) := by decide +kernel
theorem dX2_unfoldBy_74 : decode cX2_unfoldBy 74 = .ok (.invokevirtual 32, 3) := by decide +kernel
theorem dX2_unfoldBy_77 : decode cX2_unfoldBy 77 = .ok (.iinc 3 1, 3) := by decide +kernel
theorem dX2_unfoldBy_80 : decode cX2_unfoldBy 80 = .ok (.goto (-70), 3) := by decide +kernel
theorem dX2_unfoldBy_83 : decode cX2_unfoldBy 83 = .ok (.aload_n 0, 1) := by decide +kernel
theorem dX2_unfoldBy_84 : decode cX2_unfoldBy 84 = .ok (.invokevirtual 36, 3) := by decide +kernel
theorem dX2_unfoldBy_87 : decode cX2_unfoldBy 87 = .ok (.istore_n 3, 1) := by decide +kernel
theorem dX2_unfoldBy_88 : decode cX2_unfoldBy 88 = .ok (.iload_n 3, 1) := by decide +kernel
theorem dX2_unfoldBy_89 : decode cX2_unfoldBy 89 = .ok (.ifCond .ge 8, 3) := by decide +kernel
theorem dX2_unfoldBy_92 : decode cX2_unfoldBy 92 = .ok (.bipush (-5), 2) := by decide +kernel
theorem dX2_unfoldBy_94 : decode cX2_unfoldBy 94 = .ok (.goto 4, 3) := by decide +kernel
theorem dX2_unfoldBy_97 : decode cX2_unfoldBy 97 = .ok (.iload_n 3, 1) := by decide +kernel
theorem dX2_unfoldBy_98 : decode cX2_unfoldBy 98 = .ok (.ireturn, 1) := by decide +kernel
set_option maxRecDepth 20000 in
theorem ggX2_findBack_X2_firstWet : GoodIn wsX2_findBack wsX2_firstWet := goodIn_r _ [6] (by decide +kernel) (by decide +kernel)
set_option maxRecDepth 20000 in
theorem gX2_findBack_X2_firstWet : GoodIn wsX2_findBack (va_wsS RX2 40 yX2_firstWet wsX2_firstWet) := goodIn_app (goodIn_of _ (by decide +kernel)) ggX2_findBack_X2_firstWet
set_option maxRecDepth 20000 in
theorem ggX2_findBack_X9_copyNumbers : GoodIn wsX2_findBack wsX9_copyNumbers := goodIn_r _ [9] (by decide +kernel) (by decide +kernel)
set_option maxRecDepth 20000 in
theorem gX2_findBack_X9_copyNumbers_n21 : GoodIn wsX2_findBack (wsX9_copyNumbers) := ggX2_findBack_X9_copyNumbers
set_option maxRecDepth 20000 in
theorem ggX2_findBack_X2_wholePart : GoodIn wsX2_findBack wsX2_wholePart := goodIn_r _ [12] (by decide +kernel) (by decide +kernel)
set_option maxRecDepth 20000 in
theorem gX2_findBack_X2_wholePart : GoodIn wsX2_findBack (va_wsS RX2 28 yX2_wholePart wsX2_wholePart) := goodIn_app (goodIn_of _ (by decide +kernel)) ggX2_findBack_X2_wholePart
set_option maxRecDepth 20000 in
theorem ggX2_findBack_X2_takeAway : GoodIn wsX2_findBack wsX2_takeAway := goodIn_r _ [16, 1, 17, 8, 18, 23, 24, 25] (by decide +kernel) (by decide +kernel)
set_option maxRecDepth 20000 in
theorem gX2_findBack_X2_takeAway : GoodIn wsX2_findBack (wsV RX2 32 RX2 yX2_takeAway wsX2_takeAway) := goodIn_app (goodIn_of _ (by decide +kernel)) ggX2_findBack_X2_takeAway
set_option maxRecDepth 20000 in
theorem ggX2_findBack_X2_firstLeft : GoodIn wsX2_findBack wsX2_firstLeft := goodIn_r _ [22, 1, 23, 24, 25] (by decide +kernel) (by decide +kernel)
set_option maxRecDepth 20000 in
theorem gX2_findBack_X2_firstLeft : GoodIn wsX2_findBack (wsV RX2 36 RX2 yX2_firstLeft wsX2_firstLeft) := goodIn_app (goodIn_of _ (by decide +kernel)) ggX2_findBack_X2_firstLeft
theorem dX2_findBack_0 : decode cX2_findBack 0 = .ok (.aload_n 1, 1) := by decide +kernel
theorem dX2_findBack_1 : decode cX2_findBack 1 = .ok (.invokestatic 40, 3) := by decide +kernel
theorem dX2_findBack_4 : decode cX2_findBack 4 = .ok (.istore_n 3, 1) := by decide +kernel
theorem dX2_findBack_5 : decode cX2_findBack 5 = .ok (.iload_n 3, 1) := by decide +kernel
theorem dX2_findBack_6 : decode cX2_findBack 6 = .ok (.ifCond .ge 6, 3) := by decide +kernel
theorem dX2_findBack_9 : decode cX2_findBack 9 = .ok (.bipush (-5), 2) := by decide +kernel
theorem dX2_findBack_11 : decode cX2_findBack 11 = .ok (.ireturn, 1) := by decide +kernel
theorem dX2_findBack_12 : decode cX2_findBack 12 = .ok (.aload_n 2, 1) := by decide +kernel
theorem dX2_findBack_13 : decode cX2_findBack 13 = .ok (.aload_n 0, 1) := by decide +kernel
theorem dX2_findBack_14 : decode cX2_findBack 14 = .ok (.getfield 9, 3) := by decide +kernel
theorem dX2_findBack_17 : decode cX2_findBack 17 = .ok (.invokestatic 21, 3) := by decide +kernel
theorem dX2_findBack_20 : decode cX2_findBack 20 = .ok (.iconst 0, 1) := by decide +kernel
theorem dX2_findBack_21 : decode cX2_findBack 21 = .ok (.istore 4, 2) := by decide +kernel
theorem dX2_findBack_23 : decode cX2_findBack 23 = .ok (.iload 4, 2) := by decide +kernel
theorem dX2_findBack_25 : decode cX2_findBack 25 = .ok (.aload_n 0, 1) := by decide +kernel
theorem dX2_findBack_26 : decode cX2_findBack 26 = .ok (.getfield 18, 3) := by decide +kernel
theorem dX2_findBack_29 : decode cX2_findBack 29 = .ok (.arraylength, 1) := by decide +kernel
theorem dX2_findBack_30 : decode cX2_findBack 30 = .ok (.if_icmp .ge 72, 3) := by decide +kernel
theorem dX2_findBack_33 : decode cX2_findBack 33 = .ok (.iload_n 3, 1) := by decide +kernel
theorem dX2_findBack_34 : decode cX2_findBack 34 = .ok (.iload 4, 2) := by decide +kernel
theorem dX2_findBack_36 : decode cX2_findBack 36 = .ok (.iadd, 1) := by decide +kernel
theorem dX2_findBack_37 : decode cX2_findBack 37 = .ok (.aload_n 0, 1) := by decide +kernel
theorem dX2_findBack_38 : decode cX2_findBack 38 = .ok (.getfield 9, 3) := by decide +kernel
theorem dX2_findBack_41 : decode cX2_findBack 41 = .ok (.arraylength, 1) := by decide +kernel
theorem dX2_findBack_42 : decode cX2_findBack 42 = .ok (.if_icmp .ge 60, 3) := by decide +kernel
theorem dX2_findBack_45 : decode cX2_findBack 45 = .ok (.aload_n 0, 1) := by decide +kernel
theorem dX2_findBack_46 : decode cX2_findBack 46 = .ok (.getfield 18, 3) := by decide +kernel
theorem dX2_findBack_49 : decode cX2_findBack 49 = .ok (.iload 4, 2) := by decide +kernel
theorem dX2_findBack_51 : decode cX2_findBack 51 = .ok (.aload_n 0, 1) := by decide +kernel
theorem dX2_findBack_52 : decode cX2_findBack 52 = .ok (.getfield 9, 3) := by decide +kernel
theorem dX2_findBack_55 : decode cX2_findBack 55 = .ok (.iload_n 3, 1) := by decide +kernel
theorem dX2_findBack_56 : decode cX2_findBack 56 = .ok (.iload 4, 2) := by decide +kernel
theorem dX2_findBack_58 : decode cX2_findBack 58 = .ok (.iadd, 1) := by decide +kernel
theorem dX2_findBack_59 : decode cX2_findBack 59 = .ok (.iaload, 1) := by decide +kernel
theorem dX2_findBack_60 : decode cX2_findBack 60 = .ok (.aload_n 1, 1) := by decide +kernel
theorem dX2_findBack_61 : decode cX2_findBack 61 = .ok (.iload_n 3, 1) := by decide +kernel
theorem dX2_findBack_62 : decode cX2_findBack 62 = .ok (.iaload, 1) := by decide +kernel
theorem dX2_findBack_63 : decode cX2_findBack 63 = .ok (.bipush 9, 2) := by decide +kernel
theorem dX2_findBack_65 : decode cX2_findBack 65 = .ok (.invokestatic 28, 3) := by decide +kernel
theorem dX2_findBack_68 : decode cX2_findBack 68 = .ok (.iastore, 1) := by decide +kernel
theorem dX2_findBack_69 : decode cX2_findBack 69 = .ok (.aload_n 0, 1) := by decide +kernel
theorem dX2_findBack_70 : decode cX2_findBack 70 = .ok (.getfield 18, 3) := by decide +kernel
theorem dX2_findBack_73 : decode cX2_findBack 73 = .ok (.iload 4, 2) := by decide +kernel
theorem dX2_findBack_75 : decode cX2_findBack 75 = .ok (.iaload, 1) := by decide +kernel
theorem dX2_findBack_76 : decode cX2_findBack 76 = .ok (.ifCond .ge 6, 3) := by decide +kernel
theorem dX2_findBack_79 : decode cX2_findBack 79 = .ok (.iload 4, 2) := by decide +kernel
theorem dX2_findBack_81 : decode cX2_findBack 81 = .ok (.ireturn, 1) := by decide +kernel
theorem dX2_findBack_82 : decode cX2_findBack 82 = .ok (.aload_n 0, 1) := by decide +kernel
theorem dX2_findBack_83 : decode cX2_findBack 83 = .ok (.iload 4, 2) := by decide +kernel
theorem dX2_findBack_85 : decode cX2_findBack 85 = .ok (.aload_n 0, 1) := by decide +kernel
theorem dX2_findBack_86 : decode cX2_findBack 86 = .ok (.getfield 18, 3) := by decide +kernel
theorem dX2_findBack_89 : decode cX2_findBack 89 = .ok (.iload 4, 2) := by decide +kernel
theorem dX2_findBack_91 : decode cX2_findBack 91 = .ok (.iaload, 1) := by decide +kernel
theorem dX2_findBack_92 : decode cX2_findBack 92 = .ok (.aload_n 1, 1) := by decide +kernel
theorem dX2_findBack_93 : decode cX2_findBack 93 = .ok (.invokevirtual 32, 3) := by decide +kernel
theorem dX2_findBack_96 : decode cX2_findBack 96 = .ok (.iinc 4 1, 3) := by decide +kernel
theorem dX2_findBack_99 : decode cX2_findBack 99 = .ok (.goto (-76), 3) := by decide +kernel
theorem dX2_findBack_102 : decode cX2_findBack 102 = .ok (.aload_n 0, 1) := by decide +kernel
theorem dX2_findBack_103 : decode cX2_findBack 103 = .ok (.invokevirtual 36, 3) := by decide +kernel
theorem dX2_findBack_106 : decode cX2_findBack 106 = .ok (.istore 4, 2) := by decide +kernel
theorem dX2_findBack_108 : decode cX2_findBack 108 = .ok (.iload 4, 2) := by decide +kernel
theorem dX2_findBack_110 : decode cX2_findBack 110 = .ok (.ifCond .ge 8, 3) := by decide +kernel
theorem dX2_findBack_113 : decode cX2_findBack 113 = .ok (.bipush (-6), 2) := by decide +kernel
theorem dX2_findBack_115 : decode cX2_findBack 115 = .ok (.goto 8, 3) := by decide +kernel
theorem dX2_findBack_118 : decode cX2_findBack 118 = .ok (.bipush 10, 2) := by decide +kernel
theorem dX2_findBack_120 : decode cX2_findBack 120 = .ok (.iload 4, 2) := by decide +kernel
theorem dX2_findBack_122 : decode cX2_findBack 122 = .ok (.iadd, 1) := by decide +kernel
theorem dX2_findBack_123 : decode cX2_findBack 123 = .ok (.ireturn, 1) := by decide +kernel
theorem dX2_firstWet_0 : decode cX2_firstWet 0 = .ok (.iconst 0, 1) := by decide +kernel
theorem dX2_firstWet_1 : decode cX2_firstWet 1 = .ok (.istore_n 1, 1) := by decide +kernel
theorem dX2_firstWet_2 : decode cX2_firstWet 2 = .ok (.iload_n 1, 1) := by decide +kernel
theorem dX2_firstWet_3 : decode cX2_firstWet 3 = .ok (.aload_n 0, 1) := by decide +kernel
theorem dX2_firstWet_4 : decode cX2_firstWet 4 = .ok (.arraylength, 1) := by decide +kernel
theorem dX2_firstWet_5 : decode cX2_firstWet 5 = .ok (.if_icmp .ge 17, 3) := by decide +kernel
theorem dX2_firstWet_8 : decode cX2_firstWet 8 = .ok (.aload_n 0, 1) := by decide +kernel
theorem dX2_firstWet_9 : decode cX2_firstWet 9 = .ok (.iload_n 1, 1) := by decide +kernel
theorem dX2_firstWet_10 : decode cX2_firstWet 10 = .ok (.iaload, 1) := by decide +kernel
theorem dX2_firstWet_11 : decode cX2_firstWet 11 = .ok (.ifCond .le 5, 3) := by decide +kernel
theorem dX2_firstWet_14 : decode cX2_firstWet 14 = .ok (.iload_n 1, 1) := by decide +kernel
theorem dX2_firstWet_15 : decode cX2_firstWet 15 = .ok (.ireturn, 1) := by decide +kernel
theorem dX2_firstWet_16 : decode cX2_firstWet 16 = .ok (.iinc 1 1, 3) := by decide +kernel
theorem dX2_firstWet_19 : decode cX2_firstWet 19 = .ok (.goto (-17), 3) := by decide +kernel
theorem dX2_firstWet_22 : decode cX2_firstWet 22 = .ok (.iconst (-1), 1) := by decide +kernel
theorem dX2_firstWet_23 : decode cX2_firstWet 23 = .ok (.ireturn, 1) := by decide +kernel
theorem dX2_wholePart_0 : decode cX2_wholePart 0 = .ok (.iload_n 1, 1) := by decide +kernel
theorem dX2_wholePart_1 : decode cX2_wholePart 1 = .ok (.ifCond .le 20, 3) := by decide +kernel
theorem dX2_wholePart_4 : decode cX2_wholePart 4 = .ok (.iload_n 0, 1) := by decide +kernel
theorem dX2_wholePart_5 : decode cX2_wholePart 5 = .ok (.ifCond .lt 16, 3) := by decide +kernel
theorem dX2_wholePart_8 : decode cX2_wholePart 8 = .ok (.iload_n 0, 1) := by decide +kernel
theorem dX2_wholePart_9 : decode cX2_wholePart 9 = .ok (.iload_n 1, 1) := by decide +kernel
theorem dX2_wholePart_10 : decode cX2_wholePart 10 = .ok (.irem, 1) := by decide +kernel
theorem dX2_wholePart_11 : decode cX2_wholePart 11 = .ok (.ifCond .ne 10, 3) := by decide +kernel
theorem dX2_wholePart_14 : decode cX2_wholePart 14 = .ok (.iload_n 0, 1) := by decide +kernel
theorem dX2_wholePart_15 : decode cX2_wholePart 15 = .ok (.iload_n 1, 1) := by decide +kernel
theorem dX2_wholePart_16 : decode cX2_wholePart 16 = .ok (.idiv, 1) := by decide +kernel
theorem dX2_wholePart_17 : decode cX2_wholePart 17 = .ok (.iload_n 2, 1) := by decide +kernel
theorem dX2_wholePart_18 : decode cX2_wholePart 18 = .ok (.if_icmp .le 5, 3) := by decide +kernel
theorem dX2_wholePart_21 : decode cX2_wholePart 21 = .ok (.iconst (-1), 1) := by decide +kernel
theorem dX2_wholePart_22 : decode cX2_wholePart 22 = .ok (.ireturn, 1) := by decide +kernel
theorem dX2_wholePart_23 : decode cX2_wholePart 23 = .ok (.iload_n 0, 1) := by decide +kernel
theorem dX2_wholePart_24 : decode cX2_wholePart 24 = .ok (.iload_n 1, 1) := by decide +kernel
theorem dX2_wholePart_25 : decode cX2_wholePart 25 = .ok (.idiv, 1) := by decide +kernel
theorem dX2_wholePart_26 : decode cX2_wholePart 26 = .ok (.ireturn, 1) := by decide +kernel
set_option maxRecDepth 20000 in
theorem ggX2_takeAway_X9_between : GoodIn wsX2_takeAway wsX9_between := goodIn_r _ [4] (by decide +kernel) (by decide +kernel)
set_option maxRecDepth 20000 in
theorem gX2_takeAway_X9_between_n44 : GoodIn wsX2_takeAway (wsX9_between) := ggX2_takeAway_X9_between
theorem dX2_takeAway_0 : decode cX2_takeAway 0 = .ok (.iconst 0, 1) := by decide +kernel
theorem dX2_takeAway_1 : decode cX2_takeAway 1 = .ok (.istore 4, 2) := by decide +kernel
theorem dX2_takeAway_3 : decode cX2_takeAway 3 = .ok (.iload 4, 2) := by decide +kernel
theorem dX2_takeAway_5 : decode cX2_takeAway 5 = .ok (.aload_n 3, 1) := by decide +kernel
theorem dX2_takeAway_6 : decode cX2_takeAway 6 = .ok (.arraylength, 1) := by decide +kernel
theorem dX2_takeAway_7 : decode cX2_takeAway 7 = .ok (.if_icmp .ge 45, 3) := by decide +kernel
theorem dX2_takeAway_10 : decode cX2_takeAway 10 = .ok (.iload_n 1, 1) := by decide +kernel
theorem dX2_takeAway_11 : decode cX2_takeAway 11 = .ok (.iload 4, 2) := by decide +kernel
theorem dX2_takeAway_13 : decode cX2_takeAway 13 = .ok (.iadd, 1) := by decide +kernel
theorem dX2_takeAway_14 : decode cX2_takeAway 14 = .ok (.iconst 0, 1) := by decide +kernel
theorem dX2_takeAway_15 : decode cX2_takeAway 15 = .ok (.aload_n 0, 1) := by decide +kernel
theorem dX2_takeAway_16 : decode cX2_takeAway 16 = .ok (.getfield 9, 3) := by decide +kernel
theorem dX2_takeAway_19 : decode cX2_takeAway 19 = .ok (.arraylength, 1) := by decide +kernel
theorem dX2_takeAway_20 : decode cX2_takeAway 20 = .ok (.iconst 1, 1) := by decide +kernel
theorem dX2_takeAway_21 : decode cX2_takeAway 21 = .ok (.isub, 1) := by decide +kernel
theorem dX2_takeAway_22 : decode cX2_takeAway 22 = .ok (.invokestatic 44, 3) := by decide +kernel
theorem dX2_takeAway_25 : decode cX2_takeAway 25 = .ok (.ifCond .eq 27, 3) := by decide +kernel
theorem dX2_takeAway_28 : decode cX2_takeAway 28 = .ok (.aload_n 0, 1) := by decide +kernel
theorem dX2_takeAway_29 : decode cX2_takeAway 29 = .ok (.getfield 9, 3) := by decide +kernel
theorem dX2_takeAway_32 : decode cX2_takeAway 32 = .ok (.iload_n 1, 1) := by decide +kernel
theorem dX2_takeAway_33 : decode cX2_takeAway 33 = .ok (.iload 4, 2) := by decide +kernel
theorem dX2_takeAway_35 : decode cX2_takeAway 35 = .ok (.iadd, 1) := by decide +kernel
theorem dX2_takeAway_36 : decode cX2_takeAway 36 = .ok (.dup2, 1) := by decide +kernel
theorem dX2_takeAway_37 : decode cX2_takeAway 37 = .ok (.iaload, 1) := by decide +kernel
theorem dX2_takeAway_38 : decode cX2_takeAway 38 = .ok (.iload_n 2, 1) := by decide +kernel
theorem dX2_takeAway_39 : decode cX2_takeAway 39 = .ok (.aload_n 3, 1) := by decide +kernel
theorem dX2_takeAway_40 : decode cX2_takeAway 40 = .ok (.iload 4, 2) := by decide +kernel
theorem dX2_takeAway_42 : decode cX2_takeAway 42 = .ok (.iaload, 1) := by decide +kernel
theorem dX2_takeAway_43 : decode cX2_takeAway 43 = .ok (.imul, 1) := by decide +kernel
theorem dX2_takeAway_44 : decode cX2_takeAway 44 = .ok (.isub, 1) := by decide +kernel
theorem dX2_takeAway_45 : decode cX2_takeAway 45 = .ok (.iastore, 1) := by decide +kernel
theorem dX2_takeAway_46 : decode cX2_takeAway 46 = .ok (.iinc 4 1, 3) := by decide +kernel
theorem dX2_takeAway_49 : decode cX2_takeAway 49 = .ok (.goto (-46), 3) := by decide +kernel
theorem dX2_takeAway_52 : decode cX2_takeAway 52 = .ok (.return_, 1) := by decide +kernel
theorem dX2_firstLeft_0 : decode cX2_firstLeft 0 = .ok (.iconst 0, 1) := by decide +kernel
theorem dX2_firstLeft_1 : decode cX2_firstLeft 1 = .ok (.istore_n 1, 1) := by decide +kernel
theorem dX2_firstLeft_2 : decode cX2_firstLeft 2 = .ok (.iload_n 1, 1) := by decide +kernel
theorem dX2_firstLeft_3 : decode cX2_firstLeft 3 = .ok (.aload_n 0, 1) := by decide +kernel
theorem dX2_firstLeft_4 : decode cX2_firstLeft 4 = .ok (.getfield 9, 3) := by decide +kernel
theorem dX2_firstLeft_7 : decode cX2_firstLeft 7 = .ok (.arraylength, 1) := by decide +kernel
theorem dX2_firstLeft_8 : decode cX2_firstLeft 8 = .ok (.if_icmp .ge 20, 3) := by decide +kernel
theorem dX2_firstLeft_11 : decode cX2_firstLeft 11 = .ok (.aload_n 0, 1) := by decide +kernel
theorem dX2_firstLeft_12 : decode cX2_firstLeft 12 = .ok (.getfield 9, 3) := by decide +kernel
theorem dX2_firstLeft_15 : decode cX2_firstLeft 15 = .ok (.iload_n 1, 1) := by decide +kernel
theorem dX2_firstLeft_16 : decode cX2_firstLeft 16 = .ok (.iaload, 1) := by decide +kernel
theorem dX2_firstLeft_17 : decode cX2_firstLeft 17 = .ok (.ifCond .eq 5, 3) := by decide +kernel
theorem dX2_firstLeft_20 : decode cX2_firstLeft 20 = .ok (.iload_n 1, 1) := by decide +kernel
theorem dX2_firstLeft_21 : decode cX2_firstLeft 21 = .ok (.ireturn, 1) := by decide +kernel
theorem dX2_firstLeft_22 : decode cX2_firstLeft 22 = .ok (.iinc 1 1, 3) := by decide +kernel
theorem dX2_firstLeft_25 : decode cX2_firstLeft 25 = .ok (.goto (-23), 3) := by decide +kernel
theorem dX2_firstLeft_28 : decode cX2_firstLeft 28 = .ok (.iconst (-1), 1) := by decide +kernel
theorem dX2_firstLeft_29 : decode cX2_firstLeft 29 = .ok (.ireturn, 1) := by decide +kernel
theorem dX3_init_0 : decode cX3_init 0 = .ok (.aload_n 0, 1) := by decide +kernel
theorem dX3_init_1 : decode cX3_init 1 = .ok (.invokespecial 3, 3) := by decide +kernel
theorem dX3_init_4 : decode cX3_init 4 = .ok (.aload_n 0, 1) := by decide +kernel
theorem dX3_init_5 : decode cX3_init 5 = .ok (.iconst 3, 1) := by decide +kernel
theorem dX3_init_6 : decode cX3_init 6 = .ok (.newarray .int, 2) := by decide +kernel
theorem dX3_init_8 : decode cX3_init 8 = .ok (.putfield 9, 3) := by decide +kernel
theorem dX3_init_11 : decode cX3_init 11 = .ok (.aload_n 0, 1) := by decide +kernel
theorem dX3_init_12 : decode cX3_init 12 = .ok (.iconst 3, 1) := by decide +kernel
theorem dX3_init_13 : decode cX3_init 13 = .ok (.newarray .int, 2) := by decide +kernel
theorem dX3_init_15 : decode cX3_init 15 = .ok (.putfield 15, 3) := by decide +kernel
theorem dX3_init_18 : decode cX3_init 18 = .ok (.aload_n 0, 1) := by decide +kernel
theorem dX3_init_19 : decode cX3_init 19 = .ok (.bipush 12, 2) := by decide +kernel
theorem dX3_init_21 : decode cX3_init 21 = .ok (.newarray .int, 2) := by decide +kernel
theorem dX3_init_23 : decode cX3_init 23 = .ok (.putfield 18, 3) := by decide +kernel
theorem dX3_init_26 : decode cX3_init 26 = .ok (.aload_n 0, 1) := by decide +kernel
theorem dX3_init_27 : decode cX3_init 27 = .ok (.iconst 0, 1) := by decide +kernel
theorem dX3_init_28 : decode cX3_init 28 = .ok (.putfield 21, 3) := by decide +kernel
theorem dX3_init_31 : decode cX3_init 31 = .ok (.return_, 1) := by decide +kernel
set_option maxRecDepth 20000 in
theorem ggX3_seek_X3_spread : GoodIn wsX3_seek wsX3_spread := goodIn_r _ [9, 1, 27, 28, 29, 30] (by decide +kernel) (by decide +kernel)
set_option maxRecDepth 20000 in
theorem gX3_seek_X3_spread : GoodIn wsX3_seek (wsV RX3 25 RX3 yX3_spread wsX3_spread) := goodIn_app (goodIn_of _ (by decide +kernel)) ggX3_seek_X3_spread
set_option maxRecDepth 20000 in
theorem ggX3_seek_X0_flowBy : GoodIn wsX3_seek wsX0_flowBy := goodIn_r _ [14, 15, 16, 17, 18, 19, 31, 32, 33, 34] (by decide +kernel) (by decide +kernel)
set_option maxRecDepth 20000 in
theorem gX3_seek_X0_flowBy : GoodIn wsX3_seek (wsV RX3 29 RX0 yX0_flowBy wsX0_flowBy) := goodIn_app (goodIn_of _ (by decide +kernel)) ggX3_seek_X0_flowBy
set_option maxRecDepth 20000 in
theorem ggX3_seek_X3_squaresFrom : GoodIn wsX3_seek wsX3_squaresFrom := goodIn_r _ [23, 2, 27, 28, 29, 30] (by decide +kernel) (by decide +kernel)
set_option maxRecDepth 20000 in
theorem gX3_seek_X3_squaresFrom : GoodIn wsX3_seek (wsV RX3 35 RX3 yX3_squaresFrom wsX3_squaresFrom) := goodIn_app (goodIn_of _ (by decide +kernel)) ggX3_seek_X3_squaresFrom
set_option maxRecDepth 20000 in
theorem ggX3_seek_X9_copyNumbers : GoodIn wsX3_seek wsX9_copyNumbers := goodIn_r _ [26] (by decide +kernel) (by decide +kernel)
set_option maxRecDepth 20000 in
theorem gX3_seek_X9_copyNumbers_n39 : GoodIn wsX3_seek (wsX9_copyNumbers) := ggX3_seek_X9_copyNumbers
theorem dX3_seek_0 : decode cX3_seek 0 = .ok (.iconst 0, 1) := by decide +kernel
theorem dX3_seek_1 : decode cX3_seek 1 = .ok (.istore_n 3, 1) := by decide +kernel
theorem dX3_seek_2 : decode cX3_seek 2 = .ok (.iload_n 3, 1) := by decide +kernel
theorem dX3_seek_3 : decode cX3_seek 3 = .ok (.sipush 343, 3) := by decide +kernel
theorem dX3_seek_6 : decode cX3_seek 6 = .ok (.if_icmp .ge 63, 3) := by decide +kernel
theorem dX3_seek_9 : decode cX3_seek 9 = .ok (.aload_n 0, 1) := by decide +kernel
theorem dX3_seek_10 : decode cX3_seek 10 = .ok (.iload_n 3, 1) := by decide +kernel
theorem dX3_seek_11 : decode cX3_seek 11 = .ok (.invokevirtual 25, 3) := by decide +kernel
theorem dX3_seek_14 : decode cX3_seek 14 = .ok (.aload_n 1, 1) := by decide +kernel
theorem dX3_seek_15 : decode cX3_seek 15 = .ok (.aload_n 0, 1) := by decide +kernel
theorem dX3_seek_16 : decode cX3_seek 16 = .ok (.getfield 9, 3) := by decide +kernel
theorem dX3_seek_19 : decode cX3_seek 19 = .ok (.aload_n 0, 1) := by decide +kernel
theorem dX3_seek_20 : decode cX3_seek 20 = .ok (.getfield 18, 3) := by decide +kernel
theorem dX3_seek_23 : decode cX3_seek 23 = .ok (.invokevirtual 29, 3) := by decide +kernel
theorem dX3_seek_26 : decode cX3_seek 26 = .ok (.aload_n 0, 1) := by decide +kernel
theorem dX3_seek_27 : decode cX3_seek 27 = .ok (.aload_n 2, 1) := by decide +kernel
theorem dX3_seek_28 : decode cX3_seek 28 = .ok (.invokevirtual 35, 3) := by decide +kernel
theorem dX3_seek_31 : decode cX3_seek 31 = .ok (.istore 4, 2) := by decide +kernel
theorem dX3_seek_33 : decode cX3_seek 33 = .ok (.iload_n 3, 1) := by decide +kernel
theorem dX3_seek_34 : decode cX3_seek 34 = .ok (.ifCond .eq 12, 3) := by decide +kernel
theorem dX3_seek_37 : decode cX3_seek 37 = .ok (.iload 4, 2) := by decide +kernel
theorem dX3_seek_39 : decode cX3_seek 39 = .ok (.aload_n 0, 1) := by decide +kernel
theorem dX3_seek_40 : decode cX3_seek 40 = .ok (.getfield 21, 3) := by decide +kernel
theorem dX3_seek_43 : decode cX3_seek 43 = .ok (.if_icmp .ge 20, 3) := by decide +kernel
theorem dX3_seek_46 : decode cX3_seek 46 = .ok (.aload_n 0, 1) := by decide +kernel
theorem dX3_seek_47 : decode cX3_seek 47 = .ok (.iload 4, 2) := by decide +kernel
theorem dX3_seek_49 : decode cX3_seek 49 = .ok (.putfield 21, 3) := by decide +kernel
theorem dX3_seek_52 : decode cX3_seek 52 = .ok (.aload_n 0, 1) := by decide +kernel
theorem dX3_seek_53 : decode cX3_seek 53 = .ok (.getfield 9, 3) := by decide +kernel
theorem dX3_seek_56 : decode cX3_seek 56 = .ok (.aload_n 0, 1) := by decide +kernel
theorem dX3_seek_57 : decode cX3_seek 57 = .ok (.getfield 15, 3) := by decide +kernel
theorem dX3_seek_60 : decode cX3_seek 60 = .ok (.invokestatic 39, 3) := by decide +kernel
theorem dX3_seek_63 : decode cX3_seek 63 = .ok (.iinc 3 1, 3) := by decide +kernel
theorem dX3_seek_66 : decode cX3_seek 66 = .ok (.goto (-64), 3) := by decide +kernel
theorem dX3_seek_69 : decode cX3_seek 69 = .ok (.return_, 1) := by decide +kernel
theorem dX3_spread_0 : decode cX3_spread 0 = .ok (.iload_n 1, 1) := by decide +kernel
theorem dX3_spread_1 : decode cX3_spread 1 = .ok (.istore_n 2, 1) := by decide +kernel
theorem dX3_spread_2 : decode cX3_spread 2 = .ok (.aload_n 0, 1) := by decide +kernel
theorem dX3_spread_3 : decode cX3_spread 3 = .ok (.getfield 9, 3) := by decide +kernel
theorem dX3_spread_6 : decode cX3_spread 6 = .ok (.arraylength, 1) := by decide +kernel
theorem dX3_spread_7 : decode cX3_spread 7 = .ok (.iconst 1, 1) := by decide +kernel
theorem dX3_spread_8 : decode cX3_spread 8 = .ok (.isub, 1) := by decide +kernel
theorem dX3_spread_9 : decode cX3_spread 9 = .ok (.istore_n 3, 1) := by decide +kernel
theorem dX3_spread_10 : decode cX3_spread 10 = .ok (.iload_n 3, 1) := by decide +kernel
theorem dX3_spread_11 : decode cX3_spread 11 = .ok (.ifCond .lt 24, 3) := by decide +kernel
theorem dX3_spread_14 : decode cX3_spread 14 = .ok (.aload_n 0, 1) := by decide +kernel
theorem dX3_spread_15 : decode cX3_spread 15 = .ok (.getfield 9, 3) := by decide +kernel
theorem dX3_spread_18 : decode cX3_spread 18 = .ok (.iload_n 3, 1) := by decide +kernel
theorem dX3_spread_19 : decode cX3_spread 19 = .ok (.iload_n 2, 1) := by decide +kernel
theorem dX3_spread_20 : decode cX3_spread 20 = .ok (.bipush 7, 2) := by decide +kernel
theorem dX3_spread_22 : decode cX3_spread 22 = .ok (.irem, 1) := by decide +kernel
theorem dX3_spread_23 : decode cX3_spread 23 = .ok (.iastore, 1) := by decide +kernel
theorem dX3_spread_24 : decode cX3_spread 24 = .ok (.iload_n 2, 1) := by decide +kernel
theorem dX3_spread_25 : decode cX3_spread 25 = .ok (.bipush 7, 2) := by decide +kernel
theorem dX3_spread_27 : decode cX3_spread 27 = .ok (.idiv, 1) := by decide +kernel
theorem dX3_spread_28 : decode cX3_spread 28 = .ok (.istore_n 2, 1) := by decide +kernel
theorem dX3_spread_29 : decode cX3_spread 29 = .ok (.iinc 3 (-1), 3) := by decide +kernel
theorem dX3_spread_32 : decode cX3_spread 32 = .ok (.goto (-22), 3) := by decide +kernel
theorem dX3_spread_35 : decode cX3_spread 35 = .ok (.return_, 1) := by decide +kernel
theorem dX3_squaresFrom_0 : decode cX3_squaresFrom 0 = .ok (.iconst 0, 1) := by decide +kernel
theorem dX3_squaresFrom_1 : decode cX3_squaresFrom 1 = .ok (.istore_n 2, 1) := by decide +kernel
theorem dX3_squaresFrom_2 : decode cX3_squaresFrom 2 = .ok (.iconst 0, 1) := by decide +kernel
theorem dX3_squaresFrom_3 : decode cX3_squaresFrom 3 = .ok (.istore_n 3, 1) := by decide +kernel
theorem dX3_squaresFrom_4 : decode cX3_squaresFrom 4 = .ok (.iload_n 3, 1) := by decide +kernel
theorem dX3_squaresFrom_5 : decode cX3_squaresFrom 5 = .ok (.aload_n 0, 1) := by decide +kernel
theorem dX3_squaresFrom_6 : decode cX3_squaresFrom 6 = .ok (.getfield 18, 3) := by decide +kernel
theorem dX3_squaresFrom_9 : decode cX3_squaresFrom 9 = .ok (.arraylength, 1) := by decide +kernel
theorem dX3_squaresFrom_10 : decode cX3_squaresFrom 10 = .ok (.if_icmp .ge 35, 3) := by decide +kernel
theorem dX3_squaresFrom_13 : decode cX3_squaresFrom 13 = .ok (.iload_n 3, 1) := by decide +kernel
theorem dX3_squaresFrom_14 : decode cX3_squaresFrom 14 = .ok (.aload_n 1, 1) := by decide +kernel
theorem dX3_squaresFrom_15 : decode cX3_squaresFrom 15 = .ok (.arraylength, 1) := by decide +kernel
theorem dX3_squaresFrom_16 : decode cX3_squaresFrom 16 = .ok (.if_icmp .ge 29, 3) := by decide +kernel
theorem dX3_squaresFrom_19 : decode cX3_squaresFrom 19 = .ok (.aload_n 0, 1) := by decide +kernel
theorem dX3_squaresFrom_20 : decode cX3_squaresFrom 20 = .ok (.getfield 18, 3) := by decide +kernel
theorem dX3_squaresFrom_23 : decode cX3_squaresFrom 23 = .ok (.iload_n 3, 1) := by decide +kernel
theorem dX3_squaresFrom_24 : decode cX3_squaresFrom 24 = .ok (.iaload, 1) := by decide +kernel
theorem dX3_squaresFrom_25 : decode cX3_squaresFrom 25 = .ok (.aload_n 1, 1) := by decide +kernel
theorem dX3_squaresFrom_26 : decode cX3_squaresFrom 26 = .ok (.iload_n 3, 1) := by decide +kernel
theorem dX3_squaresFrom_27 : decode cX3_squaresFrom 27 = .ok (.iaload, 1) := by decide +kernel
theorem dX3_squaresFrom_28 : decode cX3_squaresFrom 28 = .ok (.isub, 1) := by decide +kernel
theorem dX3_squaresFrom_29 : decode cX3_squaresFrom 29 = .ok (.istore 4, 2) := by decide +kernel
theorem dX3_squaresFrom_31 : decode cX3_squaresFrom 31 = .ok (.iload_n 2, 1) := by decide +kernel
theorem dX3_squaresFrom_32 : decode cX3_squaresFrom 32 = .ok (.iload 4, 2) := by decide +kernel
theorem dX3_squaresFrom_34 : decode cX3_squaresFrom 34 = .ok (.iload 4, 2) := by decide +kernel
theorem dX3_squaresFrom_36 : decode cX3_squaresFrom 36 = .ok (.imul, 1) := by decide +kernel
theorem dX3_squaresFrom_37 : decode cX3_squaresFrom 37 = .ok (.iadd, 1) := by decide +kernel
theorem dX3_squaresFrom_38 : decode cX3_squaresFrom 38 = .ok (.istore_n 2, 1) := by decide +kernel
theorem dX3_squaresFrom_39 : decode cX3_squaresFrom 39 = .ok (.iinc 3 1, 3) := by decide +kernel
theorem dX3_squaresFrom_42 : decode cX3_squaresFrom 42 = .ok (.goto (-38), 3) := by decide +kernel
theorem dX3_squaresFrom_45 : decode cX3_squaresFrom 45 = .ok (.iload_n 2, 1) := by decide +kernel
theorem dX3_squaresFrom_46 : decode cX3_squaresFrom 46 = .ok (.ireturn, 1) := by decide +kernel
theorem dX4_init_0 : decode cX4_init 0 = .ok (.aload_n 0, 1) := by decide +kernel
theorem dX4_init_1 : decode cX4_init 1 = .ok (.invokespecial 3, 3) := by decide +kernel
theorem dX4_init_4 : decode cX4_init 4 = .ok (.aload_n 0, 1) := by decide +kernel
theorem dX4_init_5 : decode cX4_init 5 = .ok (.bipush 8, 2) := by decide +kernel
theorem dX4_init_7 : decode cX4_init 7 = .ok (.newarray .int, 2) := by decide +kernel
theorem dX4_init_9 : decode cX4_init 9 = .ok (.putfield 9, 3) := by decide +kernel
theorem dX4_init_12 : decode cX4_init 12 = .ok (.aload_n 0, 1) := by decide +kernel
theorem dX4_init_13 : decode cX4_init 13 = .ok (.bipush 8, 2) := by decide +kernel
theorem dX4_init_15 : decode cX4_init 15 = .ok (.newarray .int, 2) := by decide +kernel
theorem dX4_init_17 : decode cX4_init 17 = .ok (.putfield 15, 3) := by decide +kernel
theorem dX4_init_20 : decode cX4_init 20 = .ok (.aload_n 0, 1) := by decide +kernel
theorem dX4_init_21 : decode cX4_init 21 = .ok (.iconst 0, 1) := by decide +kernel
theorem dX4_init_22 : decode cX4_init 22 = .ok (.putfield 18, 3) := by decide +kernel
theorem dX4_init_25 : decode cX4_init 25 = .ok (.aload_n 0, 1) := by decide +kernel
theorem dX4_init_26 : decode cX4_init 26 = .ok (.iload_n 1, 1) := by decide +kernel
theorem dX4_init_27 : decode cX4_init 27 = .ok (.putfield 22, 3) := by decide +kernel
theorem dX4_init_30 : decode cX4_init 30 = .ok (.return_, 1) := by decide +kernel
set_option maxRecDepth 20000 in
theorem ggX4_become_X9_copyNumbers : GoodIn wsX4_become wsX9_copyNumbers := goodIn_r _ [6] (by decide +kernel) (by decide +kernel)
set_option maxRecDepth 20000 in
theorem gX4_become_X9_copyNumbers_n25 : GoodIn wsX4_become (wsX9_copyNumbers) := ggX4_become_X9_copyNumbers
theorem dX4_become_0 : decode cX4_become 0 = .ok (.aload_n 1, 1) := by decide +kernel
theorem dX4_become_1 : decode cX4_become 1 = .ok (.getfield 9, 3) := by decide +kernel
theorem dX4_become_4 : decode cX4_become 4 = .ok (.aload_n 0, 1) := by decide +kernel
theorem dX4_become_5 : decode cX4_become 5 = .ok (.getfield 9, 3) := by decide +kernel
theorem dX4_become_8 : decode cX4_become 8 = .ok (.invokestatic 25, 3) := by decide +kernel
theorem dX4_become_11 : decode cX4_become 11 = .ok (.aload_n 1, 1) := by decide +kernel
theorem dX4_become_12 : decode cX4_become 12 = .ok (.getfield 15, 3) := by decide +kernel
theorem dX4_become_15 : decode cX4_become 15 = .ok (.aload_n 0, 1) := by decide +kernel
theorem dX4_become_16 : decode cX4_become 16 = .ok (.getfield 15, 3) := by decide +kernel
theorem dX4_become_19 : decode cX4_become 19 = .ok (.invokestatic 25, 3) := by decide +kernel
theorem dX4_become_22 : decode cX4_become 22 = .ok (.aload_n 0, 1) := by decide +kernel
theorem dX4_become_23 : decode cX4_become 23 = .ok (.aload_n 1, 1) := by decide +kernel
theorem dX4_become_24 : decode cX4_become 24 = .ok (.getfield 18, 3) := by decide +kernel
theorem dX4_become_27 : decode cX4_become 27 = .ok (.putfield 18, 3) := by decide +kernel
theorem dX4_become_30 : decode cX4_become 30 = .ok (.return_, 1) := by decide +kernel
theorem dX4_addRow_0 : decode cX4_addRow 0 = .ok (.aload_n 0, 1) := by decide +kernel
theorem dX4_addRow_1 : decode cX4_addRow 1 = .ok (.getfield 18, 3) := by decide +kernel
theorem dX4_addRow_4 : decode cX4_addRow 4 = .ok (.ifCond .lt 38, 3) := by decide +kernel
theorem dX4_addRow_7 : decode cX4_addRow 7 = .ok (.aload_n 0, 1) := by decide +kernel
theorem dX4_addRow_8 : decode cX4_addRow 8 = .ok (.getfield 18, 3) := by decide +kernel
theorem dX4_addRow_11 : decode cX4_addRow 11 = .ok (.aload_n 0, 1) := by decide +kernel
theorem dX4_addRow_12 : decode cX4_addRow 12 = .ok (.getfield 22, 3) := by decide +kernel
theorem dX4_addRow_15 : decode cX4_addRow 15 = .ok (.if_icmp .ge 27, 3) := by decide +kernel
theorem dX4_addRow_18 : decode cX4_addRow 18 = .ok (.aload_n 0, 1) := by decide +kernel
theorem dX4_addRow_19 : decode cX4_addRow 19 = .ok (.getfield 18, 3) := by decide +kernel
theorem dX4_addRow_22 : decode cX4_addRow 22 = .ok (.aload_n 0, 1) := by decide +kernel
theorem dX4_addRow_23 : decode cX4_addRow 23 = .ok (.getfield 9, 3) := by decide +kernel
theorem dX4_addRow_26 : decode cX4_addRow 26 = .ok (.arraylength, 1) := by decide +kernel
theorem dX4_addRow_27 : decode cX4_addRow 27 = .ok (.if_icmp .ge 15, 3) := by decide +kernel
theorem dX4_addRow_30 : decode cX4_addRow 30 = .ok (.aload_n 0, 1) := by decide +kernel
theorem dX4_addRow_31 : decode cX4_addRow 31 = .ok (.getfield 18, 3) := by decide +kernel
theorem dX4_addRow_34 : decode cX4_addRow 34 = .ok (.aload_n 0, 1) := by decide +kernel
theorem dX4_addRow_35 : decode cX4_addRow 35 = .ok (.getfield 15, 3) := by decide +kernel
theorem dX4_addRow_38 : decode cX4_addRow 38 = .ok (.arraylength, 1) := by decide +kernel
theorem dX4_addRow_39 : decode cX4_addRow 39 = .ok (.if_icmp .lt 6, 3) := by decide +kernel
theorem dX4_addRow_42 : decode cX4_addRow 42 = .ok (.bipush (-4), 2) := by decide +kernel
theorem dX4_addRow_44 : decode cX4_addRow 44 = .ok (.ireturn, 1) := by decide +kernel
theorem dX4_addRow_45 : decode cX4_addRow 45 = .ok (.aload_n 0, 1) := by decide +kernel
theorem dX4_addRow_46 : decode cX4_addRow 46 = .ok (.getfield 9, 3) := by decide +kernel
theorem dX4_addRow_49 : decode cX4_addRow 49 = .ok (.aload_n 0, 1) := by decide +kernel
theorem dX4_addRow_50 : decode cX4_addRow 50 = .ok (.getfield 18, 3) := by decide +kernel
theorem dX4_addRow_53 : decode cX4_addRow 53 = .ok (.iload_n 1, 1) := by decide +kernel
theorem dX4_addRow_54 : decode cX4_addRow 54 = .ok (.iastore, 1) := by decide +kernel
theorem dX4_addRow_55 : decode cX4_addRow 55 = .ok (.aload_n 0, 1) := by decide +kernel
theorem dX4_addRow_56 : decode cX4_addRow 56 = .ok (.getfield 15, 3) := by decide +kernel
theorem dX4_addRow_59 : decode cX4_addRow 59 = .ok (.aload_n 0, 1) := by decide +kernel
theorem dX4_addRow_60 : decode cX4_addRow 60 = .ok (.getfield 18, 3) := by decide +kernel
theorem dX4_addRow_63 : decode cX4_addRow 63 = .ok (.iload_n 2, 1) := by decide +kernel
theorem dX4_addRow_64 : decode cX4_addRow 64 = .ok (.iastore, 1) := by decide +kernel
theorem dX4_addRow_65 : decode cX4_addRow 65 = .ok (.aload_n 0, 1) := by decide +kernel
theorem dX4_addRow_66 : decode cX4_addRow 66 = .ok (.dup, 1) := by decide +kernel
theorem dX4_addRow_67 : decode cX4_addRow 67 = .ok (.getfield 18, 3) := by decide +kernel
theorem dX4_addRow_70 : decode cX4_addRow 70 = .ok (.iconst 1, 1) := by decide +kernel
theorem dX4_addRow_71 : decode cX4_addRow 71 = .ok (.iadd, 1) := by decide +kernel
theorem dX4_addRow_72 : decode cX4_addRow 72 = .ok (.putfield 18, 3) := by decide +kernel
theorem dX4_addRow_75 : decode cX4_addRow 75 = .ok (.aload_n 0, 1) := by decide +kernel
theorem dX4_addRow_76 : decode cX4_addRow 76 = .ok (.getfield 18, 3) := by decide +kernel
theorem dX4_addRow_79 : decode cX4_addRow 79 = .ok (.ireturn, 1) := by decide +kernel
set_option maxRecDepth 20000 in
theorem ggX4_firstOtherwise_X9_between : GoodIn wsX4_firstOtherwise wsX9_between := goodIn_r _ [6] (by decide +kernel) (by decide +kernel)
set_option maxRecDepth 20000 in
theorem gX4_firstOtherwise_X9_between_n29 : GoodIn wsX4_firstOtherwise (wsX9_between) := ggX4_firstOtherwise_X9_between
theorem dX4_firstOtherwise_0 : decode cX4_firstOtherwise 0 = .ok (.iconst 0, 1) := by decide +kernel
theorem dX4_firstOtherwise_1 : decode cX4_firstOtherwise 1 = .ok (.istore_n 2, 1) := by decide +kernel
theorem dX4_firstOtherwise_2 : decode cX4_firstOtherwise 2 = .ok (.iload_n 2, 1) := by decide +kernel
theorem dX4_firstOtherwise_3 : decode cX4_firstOtherwise 3 = .ok (.aload_n 0, 1) := by decide +kernel
theorem dX4_firstOtherwise_4 : decode cX4_firstOtherwise 4 = .ok (.getfield 18, 3) := by decide +kernel
theorem dX4_firstOtherwise_7 : decode cX4_firstOtherwise 7 = .ok (.if_icmp .ge 60, 3) := by decide +kernel
theorem dX4_firstOtherwise_10 : decode cX4_firstOtherwise 10 = .ok (.iload_n 2, 1) := by decide +kernel
theorem dX4_firstOtherwise_11 : decode cX4_firstOtherwise 11 = .ok (.aload_n 0, 1) := by decide +kernel
theorem dX4_firstOtherwise_12 : decode cX4_firstOtherwise 12 = .ok (.getfield 9, 3) := by decide +kernel
theorem dX4_firstOtherwise_15 : decode cX4_firstOtherwise 15 = .ok (.arraylength, 1) := by decide +kernel
theorem dX4_firstOtherwise_16 : decode cX4_firstOtherwise 16 = .ok (.if_icmp .ge 51, 3) := by decide +kernel
theorem dX4_firstOtherwise_19 : decode cX4_firstOtherwise 19 = .ok (.iload_n 2, 1) := by decide +kernel
theorem dX4_firstOtherwise_20 : decode cX4_firstOtherwise 20 = .ok (.aload_n 0, 1) := by decide +kernel
theorem dX4_firstOtherwise_21 : decode cX4_firstOtherwise 21 = .ok (.getfield 15, 3) := by decide +kernel
theorem dX4_firstOtherwise_24 : decode cX4_firstOtherwise 24 = .ok (.arraylength, 1) := by decide +kernel
theorem dX4_firstOtherwise_25 : decode cX4_firstOtherwise 25 = .ok (.if_icmp .ge 42, 3) := by decide +kernel
theorem dX4_firstOtherwise_28 : decode cX4_firstOtherwise 28 = .ok (.aload_n 0, 1) := by decide +kernel
theorem dX4_firstOtherwise_29 : decode cX4_firstOtherwise 29 = .ok (.getfield 9, 3) := by decide +kernel
theorem dX4_firstOtherwise_32 : decode cX4_firstOtherwise 32 = .ok (.iload_n 2, 1) := by decide +kernel
theorem dX4_firstOtherwise_33 : decode cX4_firstOtherwise 33 = .ok (.iaload, 1) := by decide +kernel
theorem dX4_firstOtherwise_34 : decode cX4_firstOtherwise 34 = .ok (.istore_n 3, 1) := by decide +kernel
theorem dX4_firstOtherwise_35 : decode cX4_firstOtherwise 35 = .ok (.iload_n 3, 1) := by decide +kernel
theorem dX4_firstOtherwise_36 : decode cX4_firstOtherwise 36 = .ok (.iconst 0, 1) := by decide +kernel
theorem dX4_firstOtherwise_37 : decode cX4_firstOtherwise 37 = .ok (.aload_n 1, 1) := by decide +kernel
theorem dX4_firstOtherwise_38 : decode cX4_firstOtherwise 38 = .ok (.arraylength, 1) := by decide +kernel
theorem dX4_firstOtherwise_39 : decode cX4_firstOtherwise 39 = .ok (.iconst 1, 1) := by decide +kernel
theorem dX4_firstOtherwise_40 : decode cX4_firstOtherwise 40 = .ok (.isub, 1) := by decide +kernel
theorem dX4_firstOtherwise_41 : decode cX4_firstOtherwise 41 = .ok (.invokestatic 29, 3) := by decide +kernel
theorem dX4_firstOtherwise_44 : decode cX4_firstOtherwise 44 = .ok (.ifCond .eq 15, 3) := by decide +kernel
theorem dX4_firstOtherwise_47 : decode cX4_firstOtherwise 47 = .ok (.aload_n 1, 1) := by decide +kernel
theorem dX4_firstOtherwise_48 : decode cX4_firstOtherwise 48 = .ok (.iload_n 3, 1) := by decide +kernel
theorem dX4_firstOtherwise_49 : decode cX4_firstOtherwise 49 = .ok (.iaload, 1) := by decide +kernel
theorem dX4_firstOtherwise_50 : decode cX4_firstOtherwise 50 = .ok (.aload_n 0, 1) := by decide +kernel
theorem dX4_firstOtherwise_51 : decode cX4_firstOtherwise 51 = .ok (.getfield 15, 3) := by decide +kernel
theorem dX4_firstOtherwise_54 : decode cX4_firstOtherwise 54 = .ok (.iload_n 2, 1) := by decide +kernel
theorem dX4_firstOtherwise_55 : decode cX4_firstOtherwise 55 = .ok (.iaload, 1) := by decide +kernel
theorem dX4_firstOtherwise_56 : decode cX4_firstOtherwise 56 = .ok (.if_icmp .eq 5, 3) := by decide +kernel
theorem dX4_firstOtherwise_59 : decode cX4_firstOtherwise 59 = .ok (.iload_n 2, 1) := by decide +kernel
theorem dX4_firstOtherwise_60 : decode cX4_firstOtherwise 60 = .ok (.ireturn, 1) := by decide +kernel
theorem dX4_firstOtherwise_61 : decode cX4_firstOtherwise 61 = .ok (.iinc 2 1, 3) := by decide +kernel
theorem dX4_firstOtherwise_64 : decode cX4_firstOtherwise 64 = .ok (.goto (-62), 3) := by decide +kernel
theorem dX4_firstOtherwise_67 : decode cX4_firstOtherwise 67 = .ok (.bipush (-5), 2) := by decide +kernel
theorem dX4_firstOtherwise_69 : decode cX4_firstOtherwise 69 = .ok (.ireturn, 1) := by decide +kernel
