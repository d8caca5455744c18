theorem dX5_init_0 : decode cX5_init 0 = .ok (.aload_n 0, 1) := by decide +kernel
theorem dX5_init_1 : decode cX5_init 1 = .ok (.invokespecial 3, 3) := by decide +kernel
theorem dX5_init_4 : decode cX5_init 4 = .ok (.aload_n 0, 1) := by decide +kernel
theorem dX5_init_5 : decode cX5_init 5 = .ok (.bipush 100, 2) := by decide +kernel
theorem dX5_init_7 : decode cX5_init 7 = .ok (.newarray .int, 2) := by decide +kernel
theorem dX5_init_9 : decode cX5_init 9 = .ok (.putfield 9, 3) := by decide +kernel
theorem dX5_init_12 : decode cX5_init 12 = .ok (.aload_n 0, 1) := by decide +kernel
theorem dX5_init_13 : decode cX5_init 13 = .ok (.iconst 0, 1) := by decide +kernel
theorem dX5_init_14 : decode cX5_init 14 = .ok (.putfield 15, 3) := by decide +kernel
theorem dX5_init_17 : decode cX5_init 17 = .ok (.aload_n 0, 1) := by decide +kernel
theorem dX5_init_18 : decode cX5_init 18 = .ok (.iconst 0, 1) := by decide +kernel
theorem dX5_init_19 : decode cX5_init 19 = .ok (.putfield 19, 3) := by decide +kernel
theorem dX5_init_22 : decode cX5_init 22 = .ok (.aload_n 0, 1) := by decide +kernel
theorem dX5_init_23 : decode cX5_init 23 = .ok (.iconst (-1), 1) := by decide +kernel
theorem dX5_init_24 : decode cX5_init 24 = .ok (.putfield 22, 3) := by decide +kernel
theorem dX5_init_27 : decode cX5_init 27 = .ok (.aload_n 0, 1) := by decide +kernel
theorem dX5_init_28 : decode cX5_init 28 = .ok (.bipush 12, 2) := by decide +kernel
theorem dX5_init_30 : decode cX5_init 30 = .ok (.newarray .int, 2) := by decide +kernel
theorem dX5_init_32 : decode cX5_init 32 = .ok (.putfield 25, 3) := by decide +kernel
theorem dX5_init_35 : decode cX5_init 35 = .ok (.aload_n 0, 1) := by decide +kernel
theorem dX5_init_36 : decode cX5_init 36 = .ok (.iconst 0, 1) := by decide +kernel
theorem dX5_init_37 : decode cX5_init 37 = .ok (.putfield 28, 3) := by decide +kernel
theorem dX5_init_40 : decode cX5_init 40 = .ok (.return_, 1) := by decide +kernel
set_option maxRecDepth 20000 in
theorem ggX5_addSign_X9_between : GoodIn wsX5_addSign wsX9_between := goodIn_r _ [5] (by decide +kernel) (by decide +kernel)
set_option maxRecDepth 20000 in
theorem gX5_addSign_X9_between_n31 : GoodIn wsX5_addSign (wsX9_between) := ggX5_addSign_X9_between
theorem dX5_addSign_0 : decode cX5_addSign 0 = .ok (.aload_n 0, 1) := by decide +kernel
theorem dX5_addSign_1 : decode cX5_addSign 1 = .ok (.getfield 15, 3) := by decide +kernel
theorem dX5_addSign_4 : decode cX5_addSign 4 = .ok (.iconst 0, 1) := by decide +kernel
theorem dX5_addSign_5 : decode cX5_addSign 5 = .ok (.aload_n 0, 1) := by decide +kernel
theorem dX5_addSign_6 : decode cX5_addSign 6 = .ok (.getfield 9, 3) := by decide +kernel
theorem dX5_addSign_9 : decode cX5_addSign 9 = .ok (.arraylength, 1) := by decide +kernel
theorem dX5_addSign_10 : decode cX5_addSign 10 = .ok (.iconst 1, 1) := by decide +kernel
theorem dX5_addSign_11 : decode cX5_addSign 11 = .ok (.isub, 1) := by decide +kernel
theorem dX5_addSign_12 : decode cX5_addSign 12 = .ok (.invokestatic 31, 3) := by decide +kernel
theorem dX5_addSign_15 : decode cX5_addSign 15 = .ok (.ifCond .ne 5, 3) := by decide +kernel
theorem dX5_addSign_18 : decode cX5_addSign 18 = .ok (.iconst 0, 1) := by decide +kernel
theorem dX5_addSign_19 : decode cX5_addSign 19 = .ok (.ireturn, 1) := by decide +kernel
theorem dX5_addSign_20 : decode cX5_addSign 20 = .ok (.aload_n 0, 1) := by decide +kernel
theorem dX5_addSign_21 : decode cX5_addSign 21 = .ok (.getfield 9, 3) := by decide +kernel
theorem dX5_addSign_24 : decode cX5_addSign 24 = .ok (.aload_n 0, 1) := by decide +kernel
theorem dX5_addSign_25 : decode cX5_addSign 25 = .ok (.getfield 15, 3) := by decide +kernel
theorem dX5_addSign_28 : decode cX5_addSign 28 = .ok (.iload_n 1, 1) := by decide +kernel
theorem dX5_addSign_29 : decode cX5_addSign 29 = .ok (.iastore, 1) := by decide +kernel
theorem dX5_addSign_30 : decode cX5_addSign 30 = .ok (.aload_n 0, 1) := by decide +kernel
theorem dX5_addSign_31 : decode cX5_addSign 31 = .ok (.dup, 1) := by decide +kernel
theorem dX5_addSign_32 : decode cX5_addSign 32 = .ok (.getfield 15, 3) := by decide +kernel
theorem dX5_addSign_35 : decode cX5_addSign 35 = .ok (.iconst 1, 1) := by decide +kernel
theorem dX5_addSign_36 : decode cX5_addSign 36 = .ok (.iadd, 1) := by decide +kernel
theorem dX5_addSign_37 : decode cX5_addSign 37 = .ok (.putfield 15, 3) := by decide +kernel
theorem dX5_addSign_40 : decode cX5_addSign 40 = .ok (.iconst 1, 1) := by decide +kernel
theorem dX5_addSign_41 : decode cX5_addSign 41 = .ok (.ireturn, 1) := by decide +kernel
theorem dX5_begin_0 : decode cX5_begin 0 = .ok (.aload_n 0, 1) := by decide +kernel
theorem dX5_begin_1 : decode cX5_begin 1 = .ok (.iconst 0, 1) := by decide +kernel
theorem dX5_begin_2 : decode cX5_begin 2 = .ok (.putfield 19, 3) := by decide +kernel
theorem dX5_begin_5 : decode cX5_begin 5 = .ok (.return_, 1) := by decide +kernel
set_option maxRecDepth 20000 in
theorem ggX5_findFault_X5_begin : GoodIn wsX5_findFault wsX5_begin := goodIn_r _ [7, 1, 39, 40, 41, 42, 43, 44] (by decide +kernel) (by decide +kernel)
set_option maxRecDepth 20000 in
theorem gX5_findFault_X5_begin : GoodIn wsX5_findFault (wsV RX5 35 RX5 yX5_begin wsX5_begin) := goodIn_app (goodIn_of _ (by decide +kernel)) ggX5_findFault_X5_begin
set_option maxRecDepth 20000 in
theorem ggX5_findFault_X5_readClause : GoodIn wsX5_findFault wsX5_readClause := goodIn_r _ [11, 12, 13, 1, 14, 15, 16, 6, 17, 2, 18, 19, 20, 21, 22, 23, 24, 25, 26, 27, 28, 29, 30, 31, 32, 33, 34, 35, 36, 37, 38, 39, 40, 41, 42, 43, 44] (by decide +kernel) (by decide +kernel)
set_option maxRecDepth 20000 in
theorem gX5_findFault_X5_readClause : GoodIn wsX5_findFault (wsV RX5 38 RX5 yX5_readClause wsX5_readClause) := goodIn_app (goodIn_of _ (by decide +kernel)) ggX5_findFault_X5_readClause
set_option maxRecDepth 20000 in
theorem ggX5_findFault_X5_stepOver : GoodIn wsX5_findFault wsX5_stepOver := goodIn_r _ [38, 1, 14, 15, 16, 6, 17, 2, 18, 39, 40, 41, 42, 43, 44] (by decide +kernel) (by decide +kernel)
set_option maxRecDepth 20000 in
theorem gX5_findFault_X5_stepOver : GoodIn wsX5_findFault (wsV RX5 42 RX5 yX5_stepOver wsX5_stepOver) := goodIn_app (goodIn_of _ (by decide +kernel)) ggX5_findFault_X5_stepOver
theorem dX5_findFault_0 : decode cX5_findFault 0 = .ok (.aload_n 0, 1) := by decide +kernel
theorem dX5_findFault_1 : decode cX5_findFault 1 = .ok (.invokevirtual 35, 3) := by decide +kernel
theorem dX5_findFault_4 : decode cX5_findFault 4 = .ok (.iconst 1, 1) := by decide +kernel
theorem dX5_findFault_5 : decode cX5_findFault 5 = .ok (.istore_n 1, 1) := by decide +kernel
theorem dX5_findFault_6 : decode cX5_findFault 6 = .ok (.iload_n 1, 1) := by decide +kernel
theorem dX5_findFault_7 : decode cX5_findFault 7 = .ok (.bipush 12, 2) := by decide +kernel
theorem dX5_findFault_9 : decode cX5_findFault 9 = .ok (.if_icmp .gt 54, 3) := by decide +kernel
theorem dX5_findFault_12 : decode cX5_findFault 12 = .ok (.aload_n 0, 1) := by decide +kernel
theorem dX5_findFault_13 : decode cX5_findFault 13 = .ok (.invokevirtual 38, 3) := by decide +kernel
theorem dX5_findFault_16 : decode cX5_findFault 16 = .ok (.ifCond .ne 8, 3) := by decide +kernel
theorem dX5_findFault_19 : decode cX5_findFault 19 = .ok (.aload_n 0, 1) := by decide +kernel
theorem dX5_findFault_20 : decode cX5_findFault 20 = .ok (.getfield 19, 3) := by decide +kernel
theorem dX5_findFault_23 : decode cX5_findFault 23 = .ok (.ireturn, 1) := by decide +kernel
theorem dX5_findFault_24 : decode cX5_findFault 24 = .ok (.aload_n 0, 1) := by decide +kernel
theorem dX5_findFault_25 : decode cX5_findFault 25 = .ok (.getfield 19, 3) := by decide +kernel
theorem dX5_findFault_28 : decode cX5_findFault 28 = .ok (.aload_n 0, 1) := by decide +kernel
theorem dX5_findFault_29 : decode cX5_findFault 29 = .ok (.getfield 15, 3) := by decide +kernel
theorem dX5_findFault_32 : decode cX5_findFault 32 = .ok (.if_icmp .lt 5, 3) := by decide +kernel
theorem dX5_findFault_35 : decode cX5_findFault 35 = .ok (.iconst (-1), 1) := by decide +kernel
theorem dX5_findFault_36 : decode cX5_findFault 36 = .ok (.ireturn, 1) := by decide +kernel
theorem dX5_findFault_37 : decode cX5_findFault 37 = .ok (.iload_n 1, 1) := by decide +kernel
theorem dX5_findFault_38 : decode cX5_findFault 38 = .ok (.bipush 12, 2) := by decide +kernel
theorem dX5_findFault_40 : decode cX5_findFault 40 = .ok (.if_icmp .eq 12, 3) := by decide +kernel
theorem dX5_findFault_43 : decode cX5_findFault 43 = .ok (.aload_n 0, 1) := by decide +kernel
theorem dX5_findFault_44 : decode cX5_findFault 44 = .ok (.bipush 59, 2) := by decide +kernel
theorem dX5_findFault_46 : decode cX5_findFault 46 = .ok (.invokevirtual 42, 3) := by decide +kernel
theorem dX5_findFault_49 : decode cX5_findFault 49 = .ok (.ifCond .ne 8, 3) := by decide +kernel
theorem dX5_findFault_52 : decode cX5_findFault 52 = .ok (.aload_n 0, 1) := by decide +kernel
theorem dX5_findFault_53 : decode cX5_findFault 53 = .ok (.getfield 19, 3) := by decide +kernel
theorem dX5_findFault_56 : decode cX5_findFault 56 = .ok (.ireturn, 1) := by decide +kernel
theorem dX5_findFault_57 : decode cX5_findFault 57 = .ok (.iinc 1 1, 3) := by decide +kernel
theorem dX5_findFault_60 : decode cX5_findFault 60 = .ok (.goto (-54), 3) := by decide +kernel
theorem dX5_findFault_63 : decode cX5_findFault 63 = .ok (.aload_n 0, 1) := by decide +kernel
theorem dX5_findFault_64 : decode cX5_findFault 64 = .ok (.getfield 19, 3) := by decide +kernel
theorem dX5_findFault_67 : decode cX5_findFault 67 = .ok (.ireturn, 1) := by decide +kernel
set_option maxRecDepth 20000 in
theorem ggX5_readClause_X5_sign : GoodIn wsX5_readClause wsX5_sign := goodIn_r _ [8, 3, 9, 10, 31, 32, 33, 34, 35, 36] (by decide +kernel) (by decide +kernel)
set_option maxRecDepth 20000 in
theorem gX5_readClause_X5_sign : GoodIn wsX5_readClause (wsV RX5 46 RX5 yX5_sign wsX5_sign) := goodIn_app (goodIn_of _ (by decide +kernel)) ggX5_readClause_X5_sign
set_option maxRecDepth 20000 in
theorem ggX5_readClause_X5_readDigits : GoodIn wsX5_readClause wsX5_readDigits := goodIn_r _ [14, 2, 15, 16, 17, 7, 18, 3, 19, 4, 5, 6, 8, 9, 10, 20, 21, 22, 31, 32, 33, 34, 35, 36] (by decide +kernel) (by decide +kernel)
set_option maxRecDepth 20000 in
theorem gX5_readClause_X5_readDigits : GoodIn wsX5_readClause (wsV RX5 50 RX5 yX5_readDigits wsX5_readDigits) := goodIn_app (goodIn_of _ (by decide +kernel)) ggX5_readClause_X5_readDigits
set_option maxRecDepth 20000 in
theorem ggX5_readClause_X5_readNumbers : GoodIn wsX5_readClause wsX5_readNumbers := goodIn_r _ [26, 15, 16, 17, 7, 18, 3, 2, 19, 4, 5, 6, 8, 9, 10, 20, 21, 22, 27, 28, 29, 30, 31, 32, 33, 34, 35, 36] (by decide +kernel) (by decide +kernel)
set_option maxRecDepth 20000 in
theorem gX5_readClause_X5_readNumbers : GoodIn wsX5_readClause (wsV RX5 54 RX5 yX5_readNumbers wsX5_readNumbers) := goodIn_app (goodIn_of _ (by decide +kernel)) ggX5_readClause_X5_readNumbers
theorem dX5_readClause_0 : decode cX5_readClause 0 = .ok (.aload_n 0, 1) := by decide +kernel
theorem dX5_readClause_1 : decode cX5_readClause 1 = .ok (.aload_n 0, 1) := by decide +kernel
theorem dX5_readClause_2 : decode cX5_readClause 2 = .ok (.invokevirtual 46, 3) := by decide +kernel
theorem dX5_readClause_5 : decode cX5_readClause 5 = .ok (.putfield 22, 3) := by decide +kernel
theorem dX5_readClause_8 : decode cX5_readClause 8 = .ok (.aload_n 0, 1) := by decide +kernel
theorem dX5_readClause_9 : decode cX5_readClause 9 = .ok (.iconst 0, 1) := by decide +kernel
theorem dX5_readClause_10 : decode cX5_readClause 10 = .ok (.putfield 28, 3) := by decide +kernel
theorem dX5_readClause_13 : decode cX5_readClause 13 = .ok (.aload_n 0, 1) := by decide +kernel
theorem dX5_readClause_14 : decode cX5_readClause 14 = .ok (.getfield 22, 3) := by decide +kernel
theorem dX5_readClause_17 : decode cX5_readClause 17 = .ok (.lookupswitch 111 #[(98, 43), (107, 60), (116, 94), (119, 77)], 43) := by decide +kernel
theorem dX5_readClause_60 : decode cX5_readClause 60 = .ok (.aload_n 0, 1) := by decide +kernel
theorem dX5_readClause_61 : decode cX5_readClause 61 = .ok (.dup, 1) := by decide +kernel
theorem dX5_readClause_62 : decode cX5_readClause 62 = .ok (.getfield 19, 3) := by decide +kernel
theorem dX5_readClause_65 : decode cX5_readClause 65 = .ok (.iconst 1, 1) := by decide +kernel
theorem dX5_readClause_66 : decode cX5_readClause 66 = .ok (.iadd, 1) := by decide +kernel
theorem dX5_readClause_67 : decode cX5_readClause 67 = .ok (.putfield 19, 3) := by decide +kernel
theorem dX5_readClause_70 : decode cX5_readClause 70 = .ok (.aload_n 0, 1) := by decide +kernel
theorem dX5_readClause_71 : decode cX5_readClause 71 = .ok (.iconst 1, 1) := by decide +kernel
theorem dX5_readClause_72 : decode cX5_readClause 72 = .ok (.iconst 5, 1) := by decide +kernel
theorem dX5_readClause_73 : decode cX5_readClause 73 = .ok (.invokevirtual 50, 3) := by decide +kernel
theorem dX5_readClause_76 : decode cX5_readClause 76 = .ok (.ireturn, 1) := by decide +kernel
theorem dX5_readClause_77 : decode cX5_readClause 77 = .ok (.aload_n 0, 1) := by decide +kernel
theorem dX5_readClause_78 : decode cX5_readClause 78 = .ok (.dup, 1) := by decide +kernel
theorem dX5_readClause_79 : decode cX5_readClause 79 = .ok (.getfield 19, 3) := by decide +kernel
theorem dX5_readClause_82 : decode cX5_readClause 82 = .ok (.iconst 1, 1) := by decide +kernel
theorem dX5_readClause_83 : decode cX5_readClause 83 = .ok (.iadd, 1) := by decide +kernel
theorem dX5_readClause_84 : decode cX5_readClause 84 = .ok (.putfield 19, 3) := by decide +kernel
theorem dX5_readClause_87 : decode cX5_readClause 87 = .ok (.aload_n 0, 1) := by decide +kernel
theorem dX5_readClause_88 : decode cX5_readClause 88 = .ok (.iconst 3, 1) := by decide +kernel
theorem dX5_readClause_89 : decode cX5_readClause 89 = .ok (.iconst 3, 1) := by decide +kernel
theorem dX5_readClause_90 : decode cX5_readClause 90 = .ok (.invokevirtual 50, 3) := by decide +kernel
theorem dX5_readClause_93 : decode cX5_readClause 93 = .ok (.ireturn, 1) := by decide +kernel
theorem dX5_readClause_94 : decode cX5_readClause 94 = .ok (.aload_n 0, 1) := by decide +kernel
theorem dX5_readClause_95 : decode cX5_readClause 95 = .ok (.dup, 1) := by decide +kernel
theorem dX5_readClause_96 : decode cX5_readClause 96 = .ok (.getfield 19, 3) := by decide +kernel
theorem dX5_readClause_99 : decode cX5_readClause 99 = .ok (.iconst 1, 1) := by decide +kernel
theorem dX5_readClause_100 : decode cX5_readClause 100 = .ok (.iadd, 1) := by decide +kernel
theorem dX5_readClause_101 : decode cX5_readClause 101 = .ok (.putfield 19, 3) := by decide +kernel
theorem dX5_readClause_104 : decode cX5_readClause 104 = .ok (.aload_n 0, 1) := by decide +kernel
theorem dX5_readClause_105 : decode cX5_readClause 105 = .ok (.bipush 8, 2) := by decide +kernel
theorem dX5_readClause_107 : decode cX5_readClause 107 = .ok (.invokevirtual 54, 3) := by decide +kernel
theorem dX5_readClause_110 : decode cX5_readClause 110 = .ok (.ireturn, 1) := by decide +kernel
theorem dX5_readClause_111 : decode cX5_readClause 111 = .ok (.aload_n 0, 1) := by decide +kernel
theorem dX5_readClause_112 : decode cX5_readClause 112 = .ok (.dup, 1) := by decide +kernel
theorem dX5_readClause_113 : decode cX5_readClause 113 = .ok (.getfield 19, 3) := by decide +kernel
theorem dX5_readClause_116 : decode cX5_readClause 116 = .ok (.iconst 1, 1) := by decide +kernel
theorem dX5_readClause_117 : decode cX5_readClause 117 = .ok (.iadd, 1) := by decide +kernel
theorem dX5_readClause_118 : decode cX5_readClause 118 = .ok (.putfield 19, 3) := by decide +kernel
theorem dX5_readClause_121 : decode cX5_readClause 121 = .ok (.aload_n 0, 1) := by decide +kernel
theorem dX5_readClause_122 : decode cX5_readClause 122 = .ok (.bipush 12, 2) := by decide +kernel
theorem dX5_readClause_124 : decode cX5_readClause 124 = .ok (.invokevirtual 54, 3) := by decide +kernel
theorem dX5_readClause_127 : decode cX5_readClause 127 = .ok (.ireturn, 1) := by decide +kernel
theorem dX5_readClause_128 : decode cX5_readClause 128 = .ok (.iconst 0, 1) := by decide +kernel
theorem dX5_readClause_129 : decode cX5_readClause 129 = .ok (.ireturn, 1) := by decide +kernel
set_option maxRecDepth 20000 in
theorem ggX5_stepOver_X5_sign : GoodIn wsX5_stepOver wsX5_sign := goodIn_r _ [6, 1, 7, 8, 9, 10, 11, 12, 13, 14] (by decide +kernel) (by decide +kernel)
set_option maxRecDepth 20000 in
theorem gX5_stepOver_X5_sign : GoodIn wsX5_stepOver (wsV RX5 46 RX5 yX5_sign wsX5_sign) := goodIn_app (goodIn_of _ (by decide +kernel)) ggX5_stepOver_X5_sign
theorem dX5_stepOver_0 : decode cX5_stepOver 0 = .ok (.aload_n 0, 1) := by decide +kernel
theorem dX5_stepOver_1 : decode cX5_stepOver 1 = .ok (.invokevirtual 46, 3) := by decide +kernel
theorem dX5_stepOver_4 : decode cX5_stepOver 4 = .ok (.iload_n 1, 1) := by decide +kernel
theorem dX5_stepOver_5 : decode cX5_stepOver 5 = .ok (.if_icmp .eq 5, 3) := by decide +kernel
theorem dX5_stepOver_8 : decode cX5_stepOver 8 = .ok (.iconst 0, 1) := by decide +kernel
theorem dX5_stepOver_9 : decode cX5_stepOver 9 = .ok (.ireturn, 1) := by decide +kernel
theorem dX5_stepOver_10 : decode cX5_stepOver 10 = .ok (.aload_n 0, 1) := by decide +kernel
theorem dX5_stepOver_11 : decode cX5_stepOver 11 = .ok (.dup, 1) := by decide +kernel
theorem dX5_stepOver_12 : decode cX5_stepOver 12 = .ok (.getfield 19, 3) := by decide +kernel
theorem dX5_stepOver_15 : decode cX5_stepOver 15 = .ok (.iconst 1, 1) := by decide +kernel
theorem dX5_stepOver_16 : decode cX5_stepOver 16 = .ok (.iadd, 1) := by decide +kernel
theorem dX5_stepOver_17 : decode cX5_stepOver 17 = .ok (.putfield 19, 3) := by decide +kernel
theorem dX5_stepOver_20 : decode cX5_stepOver 20 = .ok (.iconst 1, 1) := by decide +kernel
theorem dX5_stepOver_21 : decode cX5_stepOver 21 = .ok (.ireturn, 1) := by decide +kernel
theorem dX5_digitsTogether_0 : decode cX5_digitsTogether 0 = .ok (.iconst 0, 1) := by decide +kernel
theorem dX5_digitsTogether_1 : decode cX5_digitsTogether 1 = .ok (.istore_n 1, 1) := by decide +kernel
theorem dX5_digitsTogether_2 : decode cX5_digitsTogether 2 = .ok (.iconst 0, 1) := by decide +kernel
theorem dX5_digitsTogether_3 : decode cX5_digitsTogether 3 = .ok (.istore_n 2, 1) := by decide +kernel
theorem dX5_digitsTogether_4 : decode cX5_digitsTogether 4 = .ok (.iload_n 2, 1) := by decide +kernel
theorem dX5_digitsTogether_5 : decode cX5_digitsTogether 5 = .ok (.aload_n 0, 1) := by decide +kernel
theorem dX5_digitsTogether_6 : decode cX5_digitsTogether 6 = .ok (.getfield 28, 3) := by decide +kernel
theorem dX5_digitsTogether_9 : decode cX5_digitsTogether 9 = .ok (.if_icmp .ge 26, 3) := by decide +kernel
theorem dX5_digitsTogether_12 : decode cX5_digitsTogether 12 = .ok (.iload_n 2, 1) := by decide +kernel
theorem dX5_digitsTogether_13 : decode cX5_digitsTogether 13 = .ok (.iconst 5, 1) := by decide +kernel
theorem dX5_digitsTogether_14 : decode cX5_digitsTogether 14 = .ok (.if_icmp .ge 21, 3) := by decide +kernel
theorem dX5_digitsTogether_17 : decode cX5_digitsTogether 17 = .ok (.bipush 10, 2) := by decide +kernel
theorem dX5_digitsTogether_19 : decode cX5_digitsTogether 19 = .ok (.iload_n 1, 1) := by decide +kernel
theorem dX5_digitsTogether_20 : decode cX5_digitsTogether 20 = .ok (.imul, 1) := by decide +kernel
theorem dX5_digitsTogether_21 : decode cX5_digitsTogether 21 = .ok (.aload_n 0, 1) := by decide +kernel
theorem dX5_digitsTogether_22 : decode cX5_digitsTogether 22 = .ok (.getfield 25, 3) := by decide +kernel
theorem dX5_digitsTogether_25 : decode cX5_digitsTogether 25 = .ok (.iload_n 2, 1) := by decide +kernel
theorem dX5_digitsTogether_26 : decode cX5_digitsTogether 26 = .ok (.iaload, 1) := by decide +kernel
theorem dX5_digitsTogether_27 : decode cX5_digitsTogether 27 = .ok (.iadd, 1) := by decide +kernel
theorem dX5_digitsTogether_28 : decode cX5_digitsTogether 28 = .ok (.istore_n 1, 1) := by decide +kernel
theorem dX5_digitsTogether_29 : decode cX5_digitsTogether 29 = .ok (.iinc 2 1, 3) := by decide +kernel
theorem dX5_digitsTogether_32 : decode cX5_digitsTogether 32 = .ok (.goto (-28), 3) := by decide +kernel
theorem dX5_digitsTogether_35 : decode cX5_digitsTogether 35 = .ok (.iload_n 1, 1) := by decide +kernel
theorem dX5_digitsTogether_36 : decode cX5_digitsTogether 36 = .ok (.ireturn, 1) := by decide +kernel
theorem dX5_copyNumbersTo_0 : decode cX5_copyNumbersTo 0 = .ok (.iconst 0, 1) := by decide +kernel
theorem dX5_copyNumbersTo_1 : decode cX5_copyNumbersTo 1 = .ok (.istore_n 3, 1) := by decide +kernel
theorem dX5_copyNumbersTo_2 : decode cX5_copyNumbersTo 2 = .ok (.iload_n 3, 1) := by decide +kernel
theorem dX5_copyNumbersTo_3 : decode cX5_copyNumbersTo 3 = .ok (.aload_n 0, 1) := by decide +kernel
theorem dX5_copyNumbersTo_4 : decode cX5_copyNumbersTo 4 = .ok (.getfield 28, 3) := by decide +kernel
theorem dX5_copyNumbersTo_7 : decode cX5_copyNumbersTo 7 = .ok (.if_icmp .ge 30, 3) := by decide +kernel
theorem dX5_copyNumbersTo_10 : decode cX5_copyNumbersTo 10 = .ok (.iload_n 3, 1) := by decide +kernel
theorem dX5_copyNumbersTo_11 : decode cX5_copyNumbersTo 11 = .ok (.aload_n 0, 1) := by decide +kernel
theorem dX5_copyNumbersTo_12 : decode cX5_copyNumbersTo 12 = .ok (.getfield 25, 3) := by decide +kernel
theorem dX5_copyNumbersTo_15 : decode cX5_copyNumbersTo 15 = .ok (.arraylength, 1) := by decide +kernel
theorem dX5_copyNumbersTo_16 : decode cX5_copyNumbersTo 16 = .ok (.if_icmp .ge 21, 3) := by decide +kernel
theorem dX5_copyNumbersTo_19 : decode cX5_copyNumbersTo 19 = .ok (.aload_n 0, 1) := by decide +kernel
theorem dX5_copyNumbersTo_20 : decode cX5_copyNumbersTo 20 = .ok (.getfield 25, 3) := by decide +kernel
theorem dX5_copyNumbersTo_23 : decode cX5_copyNumbersTo 23 = .ok (.iload_n 3, 1) := by decide +kernel
theorem dX5_copyNumbersTo_24 : decode cX5_copyNumbersTo 24 = .ok (.iaload, 1) := by decide +kernel
theorem dX5_copyNumbersTo_25 : decode cX5_copyNumbersTo 25 = .ok (.iload_n 2, 1) := by decide +kernel
theorem dX5_copyNumbersTo_26 : decode cX5_copyNumbersTo 26 = .ok (.if_icmp .le 5, 3) := by decide +kernel
theorem dX5_copyNumbersTo_29 : decode cX5_copyNumbersTo 29 = .ok (.iconst 0, 1) := by decide +kernel
theorem dX5_copyNumbersTo_30 : decode cX5_copyNumbersTo 30 = .ok (.ireturn, 1) := by decide +kernel
theorem dX5_copyNumbersTo_31 : decode cX5_copyNumbersTo 31 = .ok (.iinc 3 1, 3) := by decide +kernel
theorem dX5_copyNumbersTo_34 : decode cX5_copyNumbersTo 34 = .ok (.goto (-32), 3) := by decide +kernel
theorem dX5_copyNumbersTo_37 : decode cX5_copyNumbersTo 37 = .ok (.iconst 0, 1) := by decide +kernel
theorem dX5_copyNumbersTo_38 : decode cX5_copyNumbersTo 38 = .ok (.istore_n 3, 1) := by decide +kernel
theorem dX5_copyNumbersTo_39 : decode cX5_copyNumbersTo 39 = .ok (.iload_n 3, 1) := by decide +kernel
theorem dX5_copyNumbersTo_40 : decode cX5_copyNumbersTo 40 = .ok (.aload_n 1, 1) := by decide +kernel
theorem dX5_copyNumbersTo_41 : decode cX5_copyNumbersTo 41 = .ok (.arraylength, 1) := by decide +kernel
theorem dX5_copyNumbersTo_42 : decode cX5_copyNumbersTo 42 = .ok (.if_icmp .ge 39, 3) := by decide +kernel
theorem dX5_copyNumbersTo_45 : decode cX5_copyNumbersTo 45 = .ok (.aload_n 1, 1) := by decide +kernel
theorem dX5_copyNumbersTo_46 : decode cX5_copyNumbersTo 46 = .ok (.iload_n 3, 1) := by decide +kernel
theorem dX5_copyNumbersTo_47 : decode cX5_copyNumbersTo 47 = .ok (.iload_n 3, 1) := by decide +kernel
theorem dX5_copyNumbersTo_48 : decode cX5_copyNumbersTo 48 = .ok (.aload_n 0, 1) := by decide +kernel
theorem dX5_copyNumbersTo_49 : decode cX5_copyNumbersTo 49 = .ok (.getfield 28, 3) := by decide +kernel
theorem dX5_copyNumbersTo_52 : decode cX5_copyNumbersTo 52 = .ok (.if_icmp .ge 21, 3) := by decide +kernel
theorem dX5_copyNumbersTo_55 : decode cX5_copyNumbersTo 55 = .ok (.iload_n 3, 1) := by decide +kernel
theorem dX5_copyNumbersTo_56 : decode cX5_copyNumbersTo 56 = .ok (.aload_n 0, 1) := by decide +kernel
theorem dX5_copyNumbersTo_57 : decode cX5_copyNumbersTo 57 = .ok (.getfield 25, 3) := by decide +kernel
theorem dX5_copyNumbersTo_60 : decode cX5_copyNumbersTo 60 = .ok (.arraylength, 1) := by decide +kernel
theorem dX5_copyNumbersTo_61 : decode cX5_copyNumbersTo 61 = .ok (.if_icmp .ge 12, 3) := by decide +kernel
theorem dX5_copyNumbersTo_64 : decode cX5_copyNumbersTo 64 = .ok (.aload_n 0, 1) := by decide +kernel
theorem dX5_copyNumbersTo_65 : decode cX5_copyNumbersTo 65 = .ok (.getfield 25, 3) := by decide +kernel
theorem dX5_copyNumbersTo_68 : decode cX5_copyNumbersTo 68 = .ok (.iload_n 3, 1) := by decide +kernel
theorem dX5_copyNumbersTo_69 : decode cX5_copyNumbersTo 69 = .ok (.iaload, 1) := by decide +kernel
theorem dX5_copyNumbersTo_70 : decode cX5_copyNumbersTo 70 = .ok (.goto 4, 3) := by decide +kernel
theorem dX5_copyNumbersTo_73 : decode cX5_copyNumbersTo 73 = .ok (.iconst 0, 1) := by decide +kernel
theorem dX5_copyNumbersTo_74 : decode cX5_copyNumbersTo 74 = .ok (.iastore, 1) := by decide +kernel
theorem dX5_copyNumbersTo_75 : decode cX5_copyNumbersTo 75 = .ok (.iinc 3 1, 3) := by decide +kernel
theorem dX5_copyNumbersTo_78 : decode cX5_copyNumbersTo 78 = .ok (.goto (-39), 3) := by decide +kernel
theorem dX5_copyNumbersTo_81 : decode cX5_copyNumbersTo 81 = .ok (.iconst 1, 1) := by decide +kernel
theorem dX5_copyNumbersTo_82 : decode cX5_copyNumbersTo 82 = .ok (.ireturn, 1) := by decide +kernel
theorem dX5_sign_0 : decode cX5_sign 0 = .ok (.aload_n 0, 1) := by decide +kernel
theorem dX5_sign_1 : decode cX5_sign 1 = .ok (.getfield 19, 3) := by decide +kernel
theorem dX5_sign_4 : decode cX5_sign 4 = .ok (.ifCond .lt 38, 3) := by decide +kernel
theorem dX5_sign_7 : decode cX5_sign 7 = .ok (.aload_n 0, 1) := by decide +kernel
theorem dX5_sign_8 : decode cX5_sign 8 = .ok (.getfield 19, 3) := by decide +kernel
theorem dX5_sign_11 : decode cX5_sign 11 = .ok (.aload_n 0, 1) := by decide +kernel
theorem dX5_sign_12 : decode cX5_sign 12 = .ok (.getfield 15, 3) := by decide +kernel
theorem dX5_sign_15 : decode cX5_sign 15 = .ok (.if_icmp .ge 27, 3) := by decide +kernel
theorem dX5_sign_18 : decode cX5_sign 18 = .ok (.aload_n 0, 1) := by decide +kernel
theorem dX5_sign_19 : decode cX5_sign 19 = .ok (.getfield 19, 3) := by decide +kernel
theorem dX5_sign_22 : decode cX5_sign 22 = .ok (.aload_n 0, 1) := by decide +kernel
theorem dX5_sign_23 : decode cX5_sign 23 = .ok (.getfield 9, 3) := by decide +kernel
theorem dX5_sign_26 : decode cX5_sign 26 = .ok (.arraylength, 1) := by decide +kernel
theorem dX5_sign_27 : decode cX5_sign 27 = .ok (.if_icmp .ge 15, 3) := by decide +kernel
theorem dX5_sign_30 : decode cX5_sign 30 = .ok (.aload_n 0, 1) := by decide +kernel
theorem dX5_sign_31 : decode cX5_sign 31 = .ok (.getfield 9, 3) := by decide +kernel
theorem dX5_sign_34 : decode cX5_sign 34 = .ok (.aload_n 0, 1) := by decide +kernel
theorem dX5_sign_35 : decode cX5_sign 35 = .ok (.getfield 19, 3) := by decide +kernel
theorem dX5_sign_38 : decode cX5_sign 38 = .ok (.iaload, 1) := by decide +kernel
theorem dX5_sign_39 : decode cX5_sign 39 = .ok (.goto 4, 3) := by decide +kernel
theorem dX5_sign_42 : decode cX5_sign 42 = .ok (.iconst (-1), 1) := by decide +kernel
theorem dX5_sign_43 : decode cX5_sign 43 = .ok (.ireturn, 1) := by decide +kernel
set_option maxRecDepth 20000 in
theorem ggX5_readDigits_X5_readNumber : GoodIn wsX5_readDigits wsX5_readNumber := goodIn_r _ [6, 7, 1, 8, 9, 10, 11, 5, 12, 13, 14, 15, 16, 17, 18, 19, 20, 21, 22, 23] (by decide +kernel) (by decide +kernel)
set_option maxRecDepth 20000 in
theorem gX5_readDigits_X5_readNumber : GoodIn wsX5_readDigits (wsV RX5 58 RX5 yX5_readNumber wsX5_readNumber) := goodIn_app (goodIn_of _ (by decide +kernel)) ggX5_readDigits_X5_readNumber
theorem dX5_readDigits_0 : decode cX5_readDigits 0 = .ok (.iconst 1, 1) := by decide +kernel
theorem dX5_readDigits_1 : decode cX5_readDigits 1 = .ok (.istore_n 3, 1) := by decide +kernel
theorem dX5_readDigits_2 : decode cX5_readDigits 2 = .ok (.iconst 0, 1) := by decide +kernel
theorem dX5_readDigits_3 : decode cX5_readDigits 3 = .ok (.istore 4, 2) := by decide +kernel
theorem dX5_readDigits_5 : decode cX5_readDigits 5 = .ok (.iload 4, 2) := by decide +kernel
theorem dX5_readDigits_7 : decode cX5_readDigits 7 = .ok (.iload_n 2, 1) := by decide +kernel
theorem dX5_readDigits_8 : decode cX5_readDigits 8 = .ok (.if_icmp .ge 19, 3) := by decide +kernel
theorem dX5_readDigits_11 : decode cX5_readDigits 11 = .ok (.iload_n 3, 1) := by decide +kernel
theorem dX5_readDigits_12 : decode cX5_readDigits 12 = .ok (.ifCond .eq 15, 3) := by decide +kernel
theorem dX5_readDigits_15 : decode cX5_readDigits 15 = .ok (.aload_n 0, 1) := by decide +kernel
theorem dX5_readDigits_16 : decode cX5_readDigits 16 = .ok (.iconst 1, 1) := by decide +kernel
theorem dX5_readDigits_17 : decode cX5_readDigits 17 = .ok (.invokevirtual 58, 3) := by decide +kernel
theorem dX5_readDigits_20 : decode cX5_readDigits 20 = .ok (.istore_n 3, 1) := by decide +kernel
theorem dX5_readDigits_21 : decode cX5_readDigits 21 = .ok (.iinc 4 1, 3) := by decide +kernel
theorem dX5_readDigits_24 : decode cX5_readDigits 24 = .ok (.goto (-19), 3) := by decide +kernel
theorem dX5_readDigits_27 : decode cX5_readDigits 27 = .ok (.aload_n 0, 1) := by decide +kernel
theorem dX5_readDigits_28 : decode cX5_readDigits 28 = .ok (.getfield 28, 3) := by decide +kernel
theorem dX5_readDigits_31 : decode cX5_readDigits 31 = .ok (.iload_n 1, 1) := by decide +kernel
theorem dX5_readDigits_32 : decode cX5_readDigits 32 = .ok (.if_icmp .lt 7, 3) := by decide +kernel
theorem dX5_readDigits_35 : decode cX5_readDigits 35 = .ok (.iconst 1, 1) := by decide +kernel
theorem dX5_readDigits_36 : decode cX5_readDigits 36 = .ok (.goto 4, 3) := by decide +kernel
theorem dX5_readDigits_39 : decode cX5_readDigits 39 = .ok (.iconst 0, 1) := by decide +kernel
theorem dX5_readDigits_40 : decode cX5_readDigits 40 = .ok (.ireturn, 1) := by decide +kernel
set_option maxRecDepth 20000 in
theorem ggX5_readNumbers_X5_readNumber : GoodIn wsX5_readNumbers wsX5_readNumber := goodIn_r _ [5, 6, 7, 8, 9, 10, 11, 4, 12, 13, 14, 15, 16, 17, 22, 23, 24, 25, 26, 27] (by decide +kernel) (by decide +kernel)
set_option maxRecDepth 20000 in
theorem gX5_readNumbers_X5_readNumber : GoodIn wsX5_readNumbers (wsV RX5 58 RX5 yX5_readNumber wsX5_readNumber) := goodIn_app (goodIn_of _ (by decide +kernel)) ggX5_readNumbers_X5_readNumber
set_option maxRecDepth 20000 in
theorem ggX5_readNumbers_X5_stepOver : GoodIn wsX5_readNumbers wsX5_stepOver := goodIn_r _ [21, 6, 9, 10, 11, 4, 12, 13, 14, 22, 23, 24, 25, 26, 27] (by decide +kernel) (by decide +kernel)
set_option maxRecDepth 20000 in
theorem gX5_readNumbers_X5_stepOver : GoodIn wsX5_readNumbers (wsV RX5 42 RX5 yX5_stepOver wsX5_stepOver) := goodIn_app (goodIn_of _ (by decide +kernel)) ggX5_readNumbers_X5_stepOver
theorem dX5_readNumbers_0 : decode cX5_readNumbers 0 = .ok (.aload_n 0, 1) := by decide +kernel
theorem dX5_readNumbers_1 : decode cX5_readNumbers 1 = .ok (.iconst 3, 1) := by decide +kernel
theorem dX5_readNumbers_2 : decode cX5_readNumbers 2 = .ok (.invokevirtual 58, 3) := by decide +kernel
theorem dX5_readNumbers_5 : decode cX5_readNumbers 5 = .ok (.istore_n 2, 1) := by decide +kernel
theorem dX5_readNumbers_6 : decode cX5_readNumbers 6 = .ok (.iconst 1, 1) := by decide +kernel
theorem dX5_readNumbers_7 : decode cX5_readNumbers 7 = .ok (.istore_n 3, 1) := by decide +kernel
theorem dX5_readNumbers_8 : decode cX5_readNumbers 8 = .ok (.iload_n 3, 1) := by decide +kernel
theorem dX5_readNumbers_9 : decode cX5_readNumbers 9 = .ok (.iload_n 1, 1) := by decide +kernel
theorem dX5_readNumbers_10 : decode cX5_readNumbers 10 = .ok (.if_icmp .ge 28, 3) := by decide +kernel
theorem dX5_readNumbers_13 : decode cX5_readNumbers 13 = .ok (.iload_n 2, 1) := by decide +kernel
theorem dX5_readNumbers_14 : decode cX5_readNumbers 14 = .ok (.ifCond .eq 24, 3) := by decide +kernel
theorem dX5_readNumbers_17 : decode cX5_readNumbers 17 = .ok (.aload_n 0, 1) := by decide +kernel
theorem dX5_readNumbers_18 : decode cX5_readNumbers 18 = .ok (.bipush 44, 2) := by decide +kernel
theorem dX5_readNumbers_20 : decode cX5_readNumbers 20 = .ok (.invokevirtual 42, 3) := by decide +kernel
theorem dX5_readNumbers_23 : decode cX5_readNumbers 23 = .ok (.ifCond .eq 15, 3) := by decide +kernel
theorem dX5_readNumbers_26 : decode cX5_readNumbers 26 = .ok (.aload_n 0, 1) := by decide +kernel
theorem dX5_readNumbers_27 : decode cX5_readNumbers 27 = .ok (.iconst 3, 1) := by decide +kernel
theorem dX5_readNumbers_28 : decode cX5_readNumbers 28 = .ok (.invokevirtual 58, 3) := by decide +kernel
theorem dX5_readNumbers_31 : decode cX5_readNumbers 31 = .ok (.istore_n 2, 1) := by decide +kernel
theorem dX5_readNumbers_32 : decode cX5_readNumbers 32 = .ok (.iinc 3 1, 3) := by decide +kernel
theorem dX5_readNumbers_35 : decode cX5_readNumbers 35 = .ok (.goto (-27), 3) := by decide +kernel
theorem dX5_readNumbers_38 : decode cX5_readNumbers 38 = .ok (.iload_n 2, 1) := by decide +kernel
theorem dX5_readNumbers_39 : decode cX5_readNumbers 39 = .ok (.ireturn, 1) := by decide +kernel
set_option maxRecDepth 20000 in
theorem ggX5_readNumber_X5_sign : GoodIn wsX5_readNumber wsX5_sign := goodIn_r _ [8, 1, 9, 10, 14, 15, 16, 17, 18, 19] (by decide +kernel) (by decide +kernel)
set_option maxRecDepth 20000 in
theorem gX5_readNumber_X5_sign : GoodIn wsX5_readNumber (wsV RX5 46 RX5 yX5_sign wsX5_sign) := goodIn_app (goodIn_of _ (by decide +kernel)) ggX5_readNumber_X5_sign
set_option maxRecDepth 20000 in
theorem ggX5_readNumber_X9_between : GoodIn wsX5_readNumber wsX9_between := goodIn_r _ [13] (by decide +kernel) (by decide +kernel)
set_option maxRecDepth 20000 in
theorem gX5_readNumber_X9_between_n31 : GoodIn wsX5_readNumber (wsX9_between) := ggX5_readNumber_X9_between
theorem dX5_readNumber_0 : decode cX5_readNumber 0 = .ok (.iconst 0, 1) := by decide +kernel
theorem dX5_readNumber_1 : decode cX5_readNumber 1 = .ok (.istore_n 2, 1) := by decide +kernel
theorem dX5_readNumber_2 : decode cX5_readNumber 2 = .ok (.iconst 0, 1) := by decide +kernel
theorem dX5_readNumber_3 : decode cX5_readNumber 3 = .ok (.istore_n 3, 1) := by decide +kernel
theorem dX5_readNumber_4 : decode cX5_readNumber 4 = .ok (.iload_n 3, 1) := by decide +kernel
theorem dX5_readNumber_5 : decode cX5_readNumber 5 = .ok (.iload_n 1, 1) := by decide +kernel
theorem dX5_readNumber_6 : decode cX5_readNumber 6 = .ok (.if_icmp .ge 46, 3) := by decide +kernel
theorem dX5_readNumber_9 : decode cX5_readNumber 9 = .ok (.aload_n 0, 1) := by decide +kernel
theorem dX5_readNumber_10 : decode cX5_readNumber 10 = .ok (.invokevirtual 46, 3) := by decide +kernel
theorem dX5_readNumber_13 : decode cX5_readNumber 13 = .ok (.bipush 48, 2) := by decide +kernel
theorem dX5_readNumber_15 : decode cX5_readNumber 15 = .ok (.bipush 57, 2) := by decide +kernel
theorem dX5_readNumber_17 : decode cX5_readNumber 17 = .ok (.invokestatic 31, 3) := by decide +kernel
theorem dX5_readNumber_20 : decode cX5_readNumber 20 = .ok (.ifCond .eq 32, 3) := by decide +kernel
theorem dX5_readNumber_23 : decode cX5_readNumber 23 = .ok (.bipush 10, 2) := by decide +kernel
theorem dX5_readNumber_25 : decode cX5_readNumber 25 = .ok (.iload_n 2, 1) := by decide +kernel
theorem dX5_readNumber_26 : decode cX5_readNumber 26 = .ok (.imul, 1) := by decide +kernel
theorem dX5_readNumber_27 : decode cX5_readNumber 27 = .ok (.aload_n 0, 1) := by decide +kernel
theorem dX5_readNumber_28 : decode cX5_readNumber 28 = .ok (.invokevirtual 46, 3) := by decide +kernel
theorem dX5_readNumber_31 : decode cX5_readNumber 31 = .ok (.iadd, 1) := by decide +kernel
theorem dX5_readNumber_32 : decode cX5_readNumber 32 = .ok (.bipush 48, 2) := by decide +kernel
theorem dX5_readNumber_34 : decode cX5_readNumber 34 = .ok (.isub, 1) := by decide +kernel
theorem dX5_readNumber_35 : decode cX5_readNumber 35 = .ok (.istore_n 2, 1) := by decide +kernel
theorem dX5_readNumber_36 : decode cX5_readNumber 36 = .ok (.iinc 3 1, 3) := by decide +kernel
theorem dX5_readNumber_39 : decode cX5_readNumber 39 = .ok (.aload_n 0, 1) := by decide +kernel
theorem dX5_readNumber_40 : decode cX5_readNumber 40 = .ok (.dup, 1) := by decide +kernel
theorem dX5_readNumber_41 : decode cX5_readNumber 41 = .ok (.getfield 19, 3) := by decide +kernel
theorem dX5_readNumber_44 : decode cX5_readNumber 44 = .ok (.iconst 1, 1) := by decide +kernel
theorem dX5_readNumber_45 : decode cX5_readNumber 45 = .ok (.iadd, 1) := by decide +kernel
theorem dX5_readNumber_46 : decode cX5_readNumber 46 = .ok (.putfield 19, 3) := by decide +kernel
theorem dX5_readNumber_49 : decode cX5_readNumber 49 = .ok (.goto (-45), 3) := by decide +kernel
theorem dX5_readNumber_52 : decode cX5_readNumber 52 = .ok (.iload_n 3, 1) := by decide +kernel
theorem dX5_readNumber_53 : decode cX5_readNumber 53 = .ok (.ifCond .eq 22, 3) := by decide +kernel
theorem dX5_readNumber_56 : decode cX5_readNumber 56 = .ok (.aload_n 0, 1) := by decide +kernel
theorem dX5_readNumber_57 : decode cX5_readNumber 57 = .ok (.getfield 28, 3) := by decide +kernel
theorem dX5_readNumber_60 : decode cX5_readNumber 60 = .ok (.ifCond .lt 15, 3) := by decide +kernel
theorem dX5_readNumber_63 : decode cX5_readNumber 63 = .ok (.aload_n 0, 1) := by decide +kernel
theorem dX5_readNumber_64 : decode cX5_readNumber 64 = .ok (.getfield 28, 3) := by decide +kernel
theorem dX5_readNumber_67 : decode cX5_readNumber 67 = .ok (.aload_n 0, 1) := by decide +kernel
theorem dX5_readNumber_68 : decode cX5_readNumber 68 = .ok (.getfield 25, 3) := by decide +kernel
theorem dX5_readNumber_71 : decode cX5_readNumber 71 = .ok (.arraylength, 1) := by decide +kernel
theorem dX5_readNumber_72 : decode cX5_readNumber 72 = .ok (.if_icmp .lt 5, 3) := by decide +kernel
theorem dX5_readNumber_75 : decode cX5_readNumber 75 = .ok (.iconst 0, 1) := by decide +kernel
theorem dX5_readNumber_76 : decode cX5_readNumber 76 = .ok (.ireturn, 1) := by decide +kernel
theorem dX5_readNumber_77 : decode cX5_readNumber 77 = .ok (.aload_n 0, 1) := by decide +kernel
theorem dX5_readNumber_78 : decode cX5_readNumber 78 = .ok (.getfield 25, 3) := by decide +kernel
theorem dX5_readNumber_81 : decode cX5_readNumber 81 = .ok (.aload_n 0, 1) := by decide +kernel
theorem dX5_readNumber_82 : decode cX5_readNumber 82 = .ok (.getfield 28, 3) := by decide +kernel
theorem dX5_readNumber_85 : decode cX5_readNumber 85 = .ok (.iload_n 2, 1) := by decide +kernel
theorem dX5_readNumber_86 : decode cX5_readNumber 86 = .ok (.iastore, 1) := by decide +kernel
theorem dX5_readNumber_87 : decode cX5_readNumber 87 = .ok (.aload_n 0, 1) := by decide +kernel
theorem dX5_readNumber_88 : decode cX5_readNumber 88 = .ok (.dup, 1) := by decide +kernel
theorem dX5_readNumber_89 : decode cX5_readNumber 89 = .ok (.getfield 28, 3) := by decide +kernel
theorem dX5_readNumber_92 : decode cX5_readNumber 92 = .ok (.iconst 1, 1) := by decide +kernel
theorem dX5_readNumber_93 : decode cX5_readNumber 93 = .ok (.iadd, 1) := by decide +kernel
theorem dX5_readNumber_94 : decode cX5_readNumber 94 = .ok (.putfield 28, 3) := by decide +kernel
theorem dX5_readNumber_97 : decode cX5_readNumber 97 = .ok (.iconst 1, 1) := by decide +kernel
theorem dX5_readNumber_98 : decode cX5_readNumber 98 = .ok (.ireturn, 1) := by decide +kernel
set_option maxRecDepth 20000 in
theorem ggX6_init_X0_init : GoodIn wsX6_init wsX0_init := goodIn_r _ [12, 13, 2, 3, 4, 14, 15, 16, 17, 21, 22, 23, 24] (by decide +kernel) (by decide +kernel)
set_option maxRecDepth 20000 in
theorem gX6_init_X0_init_n17 : GoodIn wsX6_init (wsX0_init) := ggX6_init_X0_init
theorem dX6_init_0 : decode cX6_init 0 = .ok (.aload_n 0, 1) := by decide +kernel
theorem dX6_init_1 : decode cX6_init 1 = .ok (.invokespecial 3, 3) := by decide +kernel
theorem dX6_init_4 : decode cX6_init 4 = .ok (.aload_n 0, 1) := by decide +kernel
theorem dX6_init_5 : decode cX6_init 5 = .ok (.bipush 8, 2) := by decide +kernel
theorem dX6_init_7 : decode cX6_init 7 = .ok (.newarray .int, 2) := by decide +kernel
theorem dX6_init_9 : decode cX6_init 9 = .ok (.putfield 9, 3) := by decide +kernel
theorem dX6_init_12 : decode cX6_init 12 = .ok (.aload_n 0, 1) := by decide +kernel
theorem dX6_init_13 : decode cX6_init 13 = .ok (.iconst 3, 1) := by decide +kernel
theorem dX6_init_14 : decode cX6_init 14 = .ok (.anewarray 15, 3) := by decide +kernel
theorem dX6_init_17 : decode cX6_init 17 = .ok (.dup, 1) := by decide +kernel
theorem dX6_init_18 : decode cX6_init 18 = .ok (.iconst 0, 1) := by decide +kernel
theorem dX6_init_19 : decode cX6_init 19 = .ok (.new 15, 3) := by decide +kernel
theorem dX6_init_22 : decode cX6_init 22 = .ok (.dup, 1) := by decide +kernel
theorem dX6_init_23 : decode cX6_init 23 = .ok (.invokespecial 17, 3) := by decide +kernel
theorem dX6_init_26 : decode cX6_init 26 = .ok (.aastore, 1) := by decide +kernel
theorem dX6_init_27 : decode cX6_init 27 = .ok (.dup, 1) := by decide +kernel
theorem dX6_init_28 : decode cX6_init 28 = .ok (.iconst 1, 1) := by decide +kernel
theorem dX6_init_29 : decode cX6_init 29 = .ok (.new 15, 3) := by decide +kernel
theorem dX6_init_32 : decode cX6_init 32 = .ok (.dup, 1) := by decide +kernel
theorem dX6_init_33 : decode cX6_init 33 = .ok (.invokespecial 17, 3) := by decide +kernel
theorem dX6_init_36 : decode cX6_init 36 = .ok (.aastore, 1) := by decide +kernel
theorem dX6_init_37 : decode cX6_init 37 = .ok (.dup, 1) := by decide +kernel
theorem dX6_init_38 : decode cX6_init 38 = .ok (.iconst 2, 1) := by decide +kernel
theorem dX6_init_39 : decode cX6_init 39 = .ok (.new 15, 3) := by decide +kernel
theorem dX6_init_42 : decode cX6_init 42 = .ok (.dup, 1) := by decide +kernel
theorem dX6_init_43 : decode cX6_init 43 = .ok (.invokespecial 17, 3) := by decide +kernel
theorem dX6_init_46 : decode cX6_init 46 = .ok (.aastore, 1) := by decide +kernel
theorem dX6_init_47 : decode cX6_init 47 = .ok (.putfield 18, 3) := by decide +kernel
theorem dX6_init_50 : decode cX6_init 50 = .ok (.aload_n 0, 1) := by decide +kernel
theorem dX6_init_51 : decode cX6_init 51 = .ok (.iconst 0, 1) := by decide +kernel
theorem dX6_init_52 : decode cX6_init 52 = .ok (.putfield 22, 3) := by decide +kernel
theorem dX6_init_55 : decode cX6_init 55 = .ok (.return_, 1) := by decide +kernel
set_option maxRecDepth 20000 in
theorem ggX6_become_X9_copyNumbers : GoodIn wsX6_become wsX9_copyNumbers := goodIn_r _ [6] (by decide +kernel) (by decide +kernel)
set_option maxRecDepth 20000 in
theorem gX6_become_X9_copyNumbers_n26 : GoodIn wsX6_become (wsX9_copyNumbers) := ggX6_become_X9_copyNumbers
set_option maxRecDepth 20000 in
theorem ggX6_become_X0_become : GoodIn wsX6_become wsX0_become := goodIn_r _ [11, 12, 13, 14, 15, 4, 5, 6, 19, 20, 21, 22] (by decide +kernel) (by decide +kernel)
set_option maxRecDepth 20000 in
theorem gX6_become_X0_become : GoodIn wsX6_become (wsV RX6 30 RX0 yX0_become wsX0_become) := goodIn_app (goodIn_of _ (by decide +kernel)) ggX6_become_X0_become
theorem dX6_become_0 : decode cX6_become 0 = .ok (.aload_n 1, 1) := by decide +kernel
theorem dX6_become_1 : decode cX6_become 1 = .ok (.getfield 9, 3) := by decide +kernel
theorem dX6_become_4 : decode cX6_become 4 = .ok (.aload_n 0, 1) := by decide +kernel
theorem dX6_become_5 : decode cX6_become 5 = .ok (.getfield 9, 3) := by decide +kernel
theorem dX6_become_8 : decode cX6_become 8 = .ok (.invokestatic 26, 3) := by decide +kernel
theorem dX6_become_11 : decode cX6_become 11 = .ok (.iconst 0, 1) := by decide +kernel
theorem dX6_become_12 : decode cX6_become 12 = .ok (.istore_n 2, 1) := by decide +kernel
theorem dX6_become_13 : decode cX6_become 13 = .ok (.iload_n 2, 1) := by decide +kernel
theorem dX6_become_14 : decode cX6_become 14 = .ok (.aload_n 0, 1) := by decide +kernel
theorem dX6_become_15 : decode cX6_become 15 = .ok (.getfield 18, 3) := by decide +kernel
theorem dX6_become_18 : decode cX6_become 18 = .ok (.arraylength, 1) := by decide +kernel
theorem dX6_become_19 : decode cX6_become 19 = .ok (.if_icmp .ge 33, 3) := by decide +kernel
theorem dX6_become_22 : decode cX6_become 22 = .ok (.iload_n 2, 1) := by decide +kernel
theorem dX6_become_23 : decode cX6_become 23 = .ok (.aload_n 1, 1) := by decide +kernel
theorem dX6_become_24 : decode cX6_become 24 = .ok (.getfield 18, 3) := by decide +kernel
theorem dX6_become_27 : decode cX6_become 27 = .ok (.arraylength, 1) := by decide +kernel
theorem dX6_become_28 : decode cX6_become 28 = .ok (.if_icmp .ge 24, 3) := by decide +kernel
theorem dX6_become_31 : decode cX6_become 31 = .ok (.aload_n 0, 1) := by decide +kernel
theorem dX6_become_32 : decode cX6_become 32 = .ok (.getfield 18, 3) := by decide +kernel
theorem dX6_become_35 : decode cX6_become 35 = .ok (.iload_n 2, 1) := by decide +kernel
theorem dX6_become_36 : decode cX6_become 36 = .ok (.aaload, 1) := by decide +kernel
theorem dX6_become_37 : decode cX6_become 37 = .ok (.aload_n 1, 1) := by decide +kernel
theorem dX6_become_38 : decode cX6_become 38 = .ok (.getfield 18, 3) := by decide +kernel
theorem dX6_become_41 : decode cX6_become 41 = .ok (.iload_n 2, 1) := by decide +kernel
theorem dX6_become_42 : decode cX6_become 42 = .ok (.aaload, 1) := by decide +kernel
theorem dX6_become_43 : decode cX6_become 43 = .ok (.invokevirtual 30, 3) := by decide +kernel
theorem dX6_become_46 : decode cX6_become 46 = .ok (.iinc 2 1, 3) := by decide +kernel
theorem dX6_become_49 : decode cX6_become 49 = .ok (.goto (-36), 3) := by decide +kernel
theorem dX6_become_52 : decode cX6_become 52 = .ok (.aload_n 0, 1) := by decide +kernel
theorem dX6_become_53 : decode cX6_become 53 = .ok (.aload_n 1, 1) := by decide +kernel
theorem dX6_become_54 : decode cX6_become 54 = .ok (.getfield 22, 3) := by decide +kernel
theorem dX6_become_57 : decode cX6_become 57 = .ok (.putfield 22, 3) := by decide +kernel
theorem dX6_become_60 : decode cX6_become 60 = .ok (.return_, 1) := by decide +kernel
theorem dX6_has_0 : decode cX6_has 0 = .ok (.iload_n 1, 1) := by decide +kernel
theorem dX6_has_1 : decode cX6_has 1 = .ok (.ifCond .lt 24, 3) := by decide +kernel
theorem dX6_has_4 : decode cX6_has 4 = .ok (.iload_n 1, 1) := by decide +kernel
theorem dX6_has_5 : decode cX6_has 5 = .ok (.aload_n 0, 1) := by decide +kernel
theorem dX6_has_6 : decode cX6_has 6 = .ok (.getfield 22, 3) := by decide +kernel
theorem dX6_has_9 : decode cX6_has 9 = .ok (.if_icmp .ge 16, 3) := by decide +kernel
theorem dX6_has_12 : decode cX6_has 12 = .ok (.iload_n 1, 1) := by decide +kernel
theorem dX6_has_13 : decode cX6_has 13 = .ok (.aload_n 0, 1) := by decide +kernel
theorem dX6_has_14 : decode cX6_has 14 = .ok (.getfield 18, 3) := by decide +kernel
theorem dX6_has_17 : decode cX6_has 17 = .ok (.arraylength, 1) := by decide +kernel
theorem dX6_has_18 : decode cX6_has 18 = .ok (.if_icmp .ge 7, 3) := by decide +kernel
theorem dX6_has_21 : decode cX6_has 21 = .ok (.iconst 1, 1) := by decide +kernel
theorem dX6_has_22 : decode cX6_has 22 = .ok (.goto 4, 3) := by decide +kernel
theorem dX6_has_25 : decode cX6_has 25 = .ok (.iconst 0, 1) := by decide +kernel
theorem dX6_has_26 : decode cX6_has 26 = .ok (.ireturn, 1) := by decide +kernel
set_option maxRecDepth 20000 in
theorem ggX6_undergo_X6_has : GoodIn wsX6_undergo wsX6_has := goodIn_r _ [8, 9, 1, 21, 22, 23] (by decide +kernel) (by decide +kernel)
set_option maxRecDepth 20000 in
theorem gX6_undergo_X6_has : GoodIn wsX6_undergo (wsV RX6 34 RX6 yX6_has wsX6_has) := goodIn_app (goodIn_of _ (by decide +kernel)) ggX6_undergo_X6_has
set_option maxRecDepth 20000 in
theorem ggX6_undergo_X9_between : GoodIn wsX6_undergo wsX9_between := goodIn_r _ [12] (by decide +kernel) (by decide +kernel)
set_option maxRecDepth 20000 in
theorem gX6_undergo_X9_between_n41 : GoodIn wsX6_undergo (wsX9_between) := ggX6_undergo_X9_between
set_option maxRecDepth 20000 in
theorem ggX6_undergo_X6_rainOtherwise : GoodIn wsX6_undergo wsX6_rainOtherwise := goodIn_r _ [16, 3, 17, 18, 19, 20, 21, 22, 23] (by decide +kernel) (by decide +kernel)
set_option maxRecDepth 20000 in
theorem gX6_undergo_X6_rainOtherwise : GoodIn wsX6_undergo (wsV RX6 45 RX6 yX6_rainOtherwise wsX6_rainOtherwise) := goodIn_app (goodIn_of _ (by decide +kernel)) ggX6_undergo_X6_rainOtherwise
theorem dX6_undergo_0 : decode cX6_undergo 0 = .ok (.iload_n 1, 1) := by decide +kernel
theorem dX6_undergo_1 : decode cX6_undergo 1 = .ok (.iconst 2, 1) := by decide +kernel
theorem dX6_undergo_2 : decode cX6_undergo 2 = .ok (.if_icmp .ne 24, 3) := by decide +kernel
theorem dX6_undergo_5 : decode cX6_undergo 5 = .ok (.aload_n 0, 1) := by decide +kernel
theorem dX6_undergo_6 : decode cX6_undergo 6 = .ok (.iload_n 2, 1) := by decide +kernel
theorem dX6_undergo_7 : decode cX6_undergo 7 = .ok (.invokevirtual 34, 3) := by decide +kernel
theorem dX6_undergo_10 : decode cX6_undergo 10 = .ok (.ifCond .eq 37, 3) := by decide +kernel
theorem dX6_undergo_13 : decode cX6_undergo 13 = .ok (.aload_n 0, 1) := by decide +kernel
theorem dX6_undergo_14 : decode cX6_undergo 14 = .ok (.getfield 18, 3) := by decide +kernel
theorem dX6_undergo_17 : decode cX6_undergo 17 = .ok (.iload_n 2, 1) := by decide +kernel
theorem dX6_undergo_18 : decode cX6_undergo 18 = .ok (.aaload, 1) := by decide +kernel
theorem dX6_undergo_19 : decode cX6_undergo 19 = .ok (.iconst 0, 1) := by decide +kernel
theorem dX6_undergo_20 : decode cX6_undergo 20 = .ok (.putfield 38, 3) := by decide +kernel
theorem dX6_undergo_23 : decode cX6_undergo 23 = .ok (.goto 24, 3) := by decide +kernel
theorem dX6_undergo_26 : decode cX6_undergo 26 = .ok (.iload_n 2, 1) := by decide +kernel
theorem dX6_undergo_27 : decode cX6_undergo 27 = .ok (.iconst 0, 1) := by decide +kernel
theorem dX6_undergo_28 : decode cX6_undergo 28 = .ok (.aload_n 0, 1) := by decide +kernel
theorem dX6_undergo_29 : decode cX6_undergo 29 = .ok (.getfield 9, 3) := by decide +kernel
theorem dX6_undergo_32 : decode cX6_undergo 32 = .ok (.arraylength, 1) := by decide +kernel
theorem dX6_undergo_33 : decode cX6_undergo 33 = .ok (.iconst 1, 1) := by decide +kernel
theorem dX6_undergo_34 : decode cX6_undergo 34 = .ok (.isub, 1) := by decide +kernel
theorem dX6_undergo_35 : decode cX6_undergo 35 = .ok (.invokestatic 41, 3) := by decide +kernel
theorem dX6_undergo_38 : decode cX6_undergo 38 = .ok (.ifCond .eq 9, 3) := by decide +kernel
theorem dX6_undergo_41 : decode cX6_undergo 41 = .ok (.aload_n 0, 1) := by decide +kernel
theorem dX6_undergo_42 : decode cX6_undergo 42 = .ok (.iload_n 1, 1) := by decide +kernel
theorem dX6_undergo_43 : decode cX6_undergo 43 = .ok (.iload_n 2, 1) := by decide +kernel
theorem dX6_undergo_44 : decode cX6_undergo 44 = .ok (.invokevirtual 45, 3) := by decide +kernel
theorem dX6_undergo_47 : decode cX6_undergo 47 = .ok (.return_, 1) := by decide +kernel
theorem dX6_rainOtherwise_0 : decode cX6_rainOtherwise 0 = .ok (.iload_n 1, 1) := by decide +kernel
theorem dX6_rainOtherwise_1 : decode cX6_rainOtherwise 1 = .ok (.lookupswitch 59 #[(0, 27), (1, 49)], 27) := by decide +kernel
theorem dX6_rainOtherwise_28 : decode cX6_rainOtherwise 28 = .ok (.aload_n 0, 1) := by decide +kernel
theorem dX6_rainOtherwise_29 : decode cX6_rainOtherwise 29 = .ok (.getfield 9, 3) := by decide +kernel
theorem dX6_rainOtherwise_32 : decode cX6_rainOtherwise 32 = .ok (.iload_n 2, 1) := by decide +kernel
theorem dX6_rainOtherwise_33 : decode cX6_rainOtherwise 33 = .ok (.iconst 2, 1) := by decide +kernel
theorem dX6_rainOtherwise_34 : decode cX6_rainOtherwise 34 = .ok (.aload_n 0, 1) := by decide +kernel
theorem dX6_rainOtherwise_35 : decode cX6_rainOtherwise 35 = .ok (.getfield 9, 3) := by decide +kernel
theorem dX6_rainOtherwise_38 : decode cX6_rainOtherwise 38 = .ok (.iload_n 2, 1) := by decide +kernel
theorem dX6_rainOtherwise_39 : decode cX6_rainOtherwise 39 = .ok (.iaload, 1) := by decide +kernel
theorem dX6_rainOtherwise_40 : decode cX6_rainOtherwise 40 = .ok (.imul, 1) := by decide +kernel
theorem dX6_rainOtherwise_41 : decode cX6_rainOtherwise 41 = .ok (.bipush 20, 2) := by decide +kernel
theorem dX6_rainOtherwise_43 : decode cX6_rainOtherwise 43 = .ok (.invokestatic 49, 3) := by decide +kernel
theorem dX6_rainOtherwise_46 : decode cX6_rainOtherwise 46 = .ok (.iastore, 1) := by decide +kernel
theorem dX6_rainOtherwise_47 : decode cX6_rainOtherwise 47 = .ok (.goto 54, 3) := by decide +kernel
theorem dX6_rainOtherwise_50 : decode cX6_rainOtherwise 50 = .ok (.aload_n 0, 1) := by decide +kernel
theorem dX6_rainOtherwise_51 : decode cX6_rainOtherwise 51 = .ok (.getfield 9, 3) := by decide +kernel
theorem dX6_rainOtherwise_54 : decode cX6_rainOtherwise 54 = .ok (.iload_n 2, 1) := by decide +kernel
theorem dX6_rainOtherwise_55 : decode cX6_rainOtherwise 55 = .ok (.iconst 0, 1) := by decide +kernel
theorem dX6_rainOtherwise_56 : decode cX6_rainOtherwise 56 = .ok (.iastore, 1) := by decide +kernel
theorem dX6_rainOtherwise_57 : decode cX6_rainOtherwise 57 = .ok (.goto 44, 3) := by decide +kernel
theorem dX6_rainOtherwise_60 : decode cX6_rainOtherwise 60 = .ok (.aload_n 0, 1) := by decide +kernel
theorem dX6_rainOtherwise_61 : decode cX6_rainOtherwise 61 = .ok (.getfield 9, 3) := by decide +kernel
theorem dX6_rainOtherwise_64 : decode cX6_rainOtherwise 64 = .ok (.arraylength, 1) := by decide +kernel
theorem dX6_rainOtherwise_65 : decode cX6_rainOtherwise 65 = .ok (.iconst 1, 1) := by decide +kernel
theorem dX6_rainOtherwise_66 : decode cX6_rainOtherwise 66 = .ok (.isub, 1) := by decide +kernel
theorem dX6_rainOtherwise_67 : decode cX6_rainOtherwise 67 = .ok (.istore_n 3, 1) := by decide +kernel
theorem dX6_rainOtherwise_68 : decode cX6_rainOtherwise 68 = .ok (.iload_n 3, 1) := by decide +kernel
theorem dX6_rainOtherwise_69 : decode cX6_rainOtherwise 69 = .ok (.ifCond .lt 32, 3) := by decide +kernel
theorem dX6_rainOtherwise_72 : decode cX6_rainOtherwise 72 = .ok (.aload_n 0, 1) := by decide +kernel
theorem dX6_rainOtherwise_73 : decode cX6_rainOtherwise 73 = .ok (.getfield 9, 3) := by decide +kernel
theorem dX6_rainOtherwise_76 : decode cX6_rainOtherwise 76 = .ok (.iload_n 3, 1) := by decide +kernel
theorem dX6_rainOtherwise_77 : decode cX6_rainOtherwise 77 = .ok (.iload_n 3, 1) := by decide +kernel
theorem dX6_rainOtherwise_78 : decode cX6_rainOtherwise 78 = .ok (.iload_n 2, 1) := by decide +kernel
theorem dX6_rainOtherwise_79 : decode cX6_rainOtherwise 79 = .ok (.if_icmp .lt 14, 3) := by decide +kernel
theorem dX6_rainOtherwise_82 : decode cX6_rainOtherwise 82 = .ok (.aload_n 0, 1) := by decide +kernel
theorem dX6_rainOtherwise_83 : decode cX6_rainOtherwise 83 = .ok (.getfield 9, 3) := by decide +kernel
theorem dX6_rainOtherwise_86 : decode cX6_rainOtherwise 86 = .ok (.iload_n 3, 1) := by decide +kernel
theorem dX6_rainOtherwise_87 : decode cX6_rainOtherwise 87 = .ok (.iload_n 2, 1) := by decide +kernel
theorem dX6_rainOtherwise_88 : decode cX6_rainOtherwise 88 = .ok (.isub, 1) := by decide +kernel
theorem dX6_rainOtherwise_89 : decode cX6_rainOtherwise 89 = .ok (.iaload, 1) := by decide +kernel
theorem dX6_rainOtherwise_90 : decode cX6_rainOtherwise 90 = .ok (.goto 4, 3) := by decide +kernel
theorem dX6_rainOtherwise_93 : decode cX6_rainOtherwise 93 = .ok (.iconst 0, 1) := by decide +kernel
theorem dX6_rainOtherwise_94 : decode cX6_rainOtherwise 94 = .ok (.iastore, 1) := by decide +kernel
theorem dX6_rainOtherwise_95 : decode cX6_rainOtherwise 95 = .ok (.iinc 3 (-1), 3) := by decide +kernel
theorem dX6_rainOtherwise_98 : decode cX6_rainOtherwise 98 = .ok (.goto (-30), 3) := by decide +kernel
theorem dX6_rainOtherwise_101 : decode cX6_rainOtherwise 101 = .ok (.return_, 1) := by decide +kernel
set_option maxRecDepth 20000 in
theorem ggX7_init_X6_init : GoodIn wsX7_init wsX6_init := goodIn_r _ [17, 18, 2, 3, 8, 19, 20, 21, 22, 23, 24, 25, 26, 27, 28, 29, 30, 31, 40, 41, 42, 52, 53, 54, 55] (by decide +kernel) (by decide +kernel)
set_option maxRecDepth 20000 in
theorem gX7_init_X6_init_n11 : GoodIn wsX7_init (wsX6_init) := ggX7_init_X6_init
set_option maxRecDepth 20000 in
theorem ggX7_init_X4_init : GoodIn wsX7_init wsX4_init := goodIn_r _ [34, 35, 2, 3, 8, 36, 37, 38, 39, 48, 49, 50, 51] (by decide +kernel) (by decide +kernel)
set_option maxRecDepth 20000 in
theorem gX7_init_X4_init : GoodIn wsX7_init (wsX4_init) := ggX7_init_X4_init
theorem dX7_init_0 : decode cX7_init 0 = .ok (.aload_n 0, 1) := by decide +kernel
theorem dX7_init_1 : decode cX7_init 1 = .ok (.invokespecial 3, 3) := by decide +kernel
theorem dX7_init_4 : decode cX7_init 4 = .ok (.aload_n 0, 1) := by decide +kernel
theorem dX7_init_5 : decode cX7_init 5 = .ok (.new 9, 3) := by decide +kernel
theorem dX7_init_8 : decode cX7_init 8 = .ok (.dup, 1) := by decide +kernel
theorem dX7_init_9 : decode cX7_init 9 = .ok (.invokespecial 11, 3) := by decide +kernel
theorem dX7_init_12 : decode cX7_init 12 = .ok (.putfield 12, 3) := by decide +kernel
theorem dX7_init_15 : decode cX7_init 15 = .ok (.aload_n 0, 1) := by decide +kernel
theorem dX7_init_16 : decode cX7_init 16 = .ok (.bipush 12, 2) := by decide +kernel
theorem dX7_init_18 : decode cX7_init 18 = .ok (.newarray .int, 2) := by decide +kernel
theorem dX7_init_20 : decode cX7_init 20 = .ok (.putfield 18, 3) := by decide +kernel
theorem dX7_init_23 : decode cX7_init 23 = .ok (.aload_n 0, 1) := by decide +kernel
theorem dX7_init_24 : decode cX7_init 24 = .ok (.new 22, 3) := by decide +kernel
theorem dX7_init_27 : decode cX7_init 27 = .ok (.dup, 1) := by decide +kernel
theorem dX7_init_28 : decode cX7_init 28 = .ok (.iconst 5, 1) := by decide +kernel
theorem dX7_init_29 : decode cX7_init 29 = .ok (.invokespecial 24, 3) := by decide +kernel
theorem dX7_init_32 : decode cX7_init 32 = .ok (.putfield 27, 3) := by decide +kernel
theorem dX7_init_35 : decode cX7_init 35 = .ok (.aload_n 0, 1) := by decide +kernel
theorem dX7_init_36 : decode cX7_init 36 = .ok (.new 22, 3) := by decide +kernel
theorem dX7_init_39 : decode cX7_init 39 = .ok (.dup, 1) := by decide +kernel
theorem dX7_init_40 : decode cX7_init 40 = .ok (.bipush 8, 2) := by decide +kernel
theorem dX7_init_42 : decode cX7_init 42 = .ok (.invokespecial 24, 3) := by decide +kernel
theorem dX7_init_45 : decode cX7_init 45 = .ok (.putfield 31, 3) := by decide +kernel
theorem dX7_init_48 : decode cX7_init 48 = .ok (.aload_n 0, 1) := by decide +kernel
theorem dX7_init_49 : decode cX7_init 49 = .ok (.new 22, 3) := by decide +kernel
theorem dX7_init_52 : decode cX7_init 52 = .ok (.dup, 1) := by decide +kernel
theorem dX7_init_53 : decode cX7_init 53 = .ok (.bipush 8, 2) := by decide +kernel
theorem dX7_init_55 : decode cX7_init 55 = .ok (.invokespecial 24, 3) := by decide +kernel
theorem dX7_init_58 : decode cX7_init 58 = .ok (.putfield 34, 3) := by decide +kernel
theorem dX7_init_61 : decode cX7_init 61 = .ok (.return_, 1) := by decide +kernel
set_option maxRecDepth 20000 in
theorem ggX7_become_X6_become : GoodIn wsX7_become wsX6_become := goodIn_r _ [10, 11, 12, 13, 14, 15, 16, 17, 18, 19, 20, 21, 22, 23, 24, 25, 39, 40, 41, 42, 43, 44, 45] (by decide +kernel) (by decide +kernel)
set_option maxRecDepth 20000 in
theorem gX7_become_X6_become : GoodIn wsX7_become (wsV RX7 37 RX6 yX6_become wsX6_become) := goodIn_app (goodIn_of _ (by decide +kernel)) ggX7_become_X6_become
set_option maxRecDepth 20000 in
theorem ggX7_become_X9_copyNumbers : GoodIn wsX7_become wsX9_copyNumbers := goodIn_r _ [16] (by decide +kernel) (by decide +kernel)
set_option maxRecDepth 20000 in
theorem gX7_become_X9_copyNumbers_n41 : GoodIn wsX7_become (wsX9_copyNumbers) := ggX7_become_X9_copyNumbers
set_option maxRecDepth 20000 in
theorem ggX7_become_X4_become : GoodIn wsX7_become wsX4_become := goodIn_r _ [30, 31, 32, 33, 14, 15, 16, 46, 47, 48, 49] (by decide +kernel) (by decide +kernel)
set_option maxRecDepth 20000 in
theorem gX7_become_X4_become : GoodIn wsX7_become (wsV RX7 45 RX4 yX4_become wsX4_become) := goodIn_app (goodIn_of _ (by decide +kernel)) ggX7_become_X4_become
theorem dX7_become_0 : decode cX7_become 0 = .ok (.aload_n 0, 1) := by decide +kernel
theorem dX7_become_1 : decode cX7_become 1 = .ok (.getfield 12, 3) := by decide +kernel
theorem dX7_become_4 : decode cX7_become 4 = .ok (.aload_n 1, 1) := by decide +kernel
theorem dX7_become_5 : decode cX7_become 5 = .ok (.getfield 12, 3) := by decide +kernel
theorem dX7_become_8 : decode cX7_become 8 = .ok (.invokevirtual 37, 3) := by decide +kernel
theorem dX7_become_11 : decode cX7_become 11 = .ok (.aload_n 1, 1) := by decide +kernel
theorem dX7_become_12 : decode cX7_become 12 = .ok (.getfield 18, 3) := by decide +kernel
theorem dX7_become_15 : decode cX7_become 15 = .ok (.aload_n 0, 1) := by decide +kernel
theorem dX7_become_16 : decode cX7_become 16 = .ok (.getfield 18, 3) := by decide +kernel
theorem dX7_become_19 : decode cX7_become 19 = .ok (.invokestatic 41, 3) := by decide +kernel
theorem dX7_become_22 : decode cX7_become 22 = .ok (.aload_n 0, 1) := by decide +kernel
theorem dX7_become_23 : decode cX7_become 23 = .ok (.getfield 27, 3) := by decide +kernel
theorem dX7_become_26 : decode cX7_become 26 = .ok (.aload_n 1, 1) := by decide +kernel
theorem dX7_become_27 : decode cX7_become 27 = .ok (.getfield 27, 3) := by decide +kernel
theorem dX7_become_30 : decode cX7_become 30 = .ok (.invokevirtual 45, 3) := by decide +kernel
theorem dX7_become_33 : decode cX7_become 33 = .ok (.aload_n 0, 1) := by decide +kernel
theorem dX7_become_34 : decode cX7_become 34 = .ok (.getfield 31, 3) := by decide +kernel
theorem dX7_become_37 : decode cX7_become 37 = .ok (.aload_n 1, 1) := by decide +kernel
theorem dX7_become_38 : decode cX7_become 38 = .ok (.getfield 31, 3) := by decide +kernel
theorem dX7_become_41 : decode cX7_become 41 = .ok (.invokevirtual 45, 3) := by decide +kernel
theorem dX7_become_44 : decode cX7_become 44 = .ok (.aload_n 0, 1) := by decide +kernel
theorem dX7_become_45 : decode cX7_become 45 = .ok (.getfield 34, 3) := by decide +kernel
theorem dX7_become_48 : decode cX7_become 48 = .ok (.aload_n 1, 1) := by decide +kernel
theorem dX7_become_49 : decode cX7_become 49 = .ok (.getfield 34, 3) := by decide +kernel
theorem dX7_become_52 : decode cX7_become 52 = .ok (.invokevirtual 45, 3) := by decide +kernel
theorem dX7_become_55 : decode cX7_become 55 = .ok (.return_, 1) := by decide +kernel
theorem dX8_init_0 : decode cX8_init 0 = .ok (.aload_n 0, 1) := by decide +kernel
theorem dX8_init_1 : decode cX8_init 1 = .ok (.invokespecial 3, 3) := by decide +kernel
theorem dX8_init_4 : decode cX8_init 4 = .ok (.aload_n 0, 1) := by decide +kernel
theorem dX8_init_5 : decode cX8_init 5 = .ok (.bipush 60, 2) := by decide +kernel
theorem dX8_init_7 : decode cX8_init 7 = .ok (.newarray .long, 2) := by decide +kernel
theorem dX8_init_9 : decode cX8_init 9 = .ok (.putfield 9, 3) := by decide +kernel
theorem dX8_init_12 : decode cX8_init 12 = .ok (.aload_n 0, 1) := by decide +kernel
theorem dX8_init_13 : decode cX8_init 13 = .ok (.iconst (-1), 1) := by decide +kernel
theorem dX8_init_14 : decode cX8_init 14 = .ok (.putfield 15, 3) := by decide +kernel
theorem dX8_init_17 : decode cX8_init 17 = .ok (.aload_n 0, 1) := by decide +kernel
theorem dX8_init_18 : decode cX8_init 18 = .ok (.iconst 0, 1) := by decide +kernel
theorem dX8_init_19 : decode cX8_init 19 = .ok (.putfield 19, 3) := by decide +kernel
theorem dX8_init_22 : decode cX8_init 22 = .ok (.return_, 1) := by decide +kernel
set_option maxRecDepth 20000 in
theorem ggX8_begin_J7_fill_d0a16 : GoodIn wsX8_begin wsJ7_fill_d0a16 := goodIn_r _ [7] (by decide +kernel) (by decide +kernel)
set_option maxRecDepth 20000 in
theorem gX8_begin_J7_fill_d0a16 : GoodIn wsX8_begin (va_wsS RX8 22 yJ7_fill_d0a16 wsJ7_fill_d0a16) := goodIn_app (goodIn_of _ (by decide +kernel)) ggX8_begin_J7_fill_d0a16
theorem dX8_begin_0 : decode cX8_begin 0 = .ok (.aload_n 0, 1) := by decide +kernel
theorem dX8_begin_1 : decode cX8_begin 1 = .ok (.iload_n 1, 1) := by decide +kernel
theorem dX8_begin_2 : decode cX8_begin 2 = .ok (.putfield 15, 3) := by decide +kernel
theorem dX8_begin_5 : decode cX8_begin 5 = .ok (.aload_n 0, 1) := by decide +kernel
theorem dX8_begin_6 : decode cX8_begin 6 = .ok (.iload_n 2, 1) := by decide +kernel
theorem dX8_begin_7 : decode cX8_begin 7 = .ok (.putfield 19, 3) := by decide +kernel
theorem dX8_begin_10 : decode cX8_begin 10 = .ok (.aload_n 0, 1) := by decide +kernel
theorem dX8_begin_11 : decode cX8_begin 11 = .ok (.getfield 9, 3) := by decide +kernel
theorem dX8_begin_14 : decode cX8_begin 14 = .ok (.lconst 0, 1) := by decide +kernel
theorem dX8_begin_15 : decode cX8_begin 15 = .ok (.invokestatic 22, 3) := by decide +kernel
theorem dX8_begin_18 : decode cX8_begin 18 = .ok (.return_, 1) := by decide +kernel
theorem dX8_hasPlace_0 : decode cX8_hasPlace 0 = .ok (.iload_n 1, 1) := by decide +kernel
theorem dX8_hasPlace_1 : decode cX8_hasPlace 1 = .ok (.ifCond .lt 24, 3) := by decide +kernel
theorem dX8_hasPlace_4 : decode cX8_hasPlace 4 = .ok (.iload_n 1, 1) := by decide +kernel
theorem dX8_hasPlace_5 : decode cX8_hasPlace 5 = .ok (.aload_n 0, 1) := by decide +kernel
theorem dX8_hasPlace_6 : decode cX8_hasPlace 6 = .ok (.getfield 19, 3) := by decide +kernel
theorem dX8_hasPlace_9 : decode cX8_hasPlace 9 = .ok (.if_icmp .ge 16, 3) := by decide +kernel
theorem dX8_hasPlace_12 : decode cX8_hasPlace 12 = .ok (.iload_n 1, 1) := by decide +kernel
theorem dX8_hasPlace_13 : decode cX8_hasPlace 13 = .ok (.aload_n 0, 1) := by decide +kernel
theorem dX8_hasPlace_14 : decode cX8_hasPlace 14 = .ok (.getfield 9, 3) := by decide +kernel
theorem dX8_hasPlace_17 : decode cX8_hasPlace 17 = .ok (.arraylength, 1) := by decide +kernel
theorem dX8_hasPlace_18 : decode cX8_hasPlace 18 = .ok (.if_icmp .ge 7, 3) := by decide +kernel
theorem dX8_hasPlace_21 : decode cX8_hasPlace 21 = .ok (.iconst 1, 1) := by decide +kernel
theorem dX8_hasPlace_22 : decode cX8_hasPlace 22 = .ok (.goto 4, 3) := by decide +kernel
theorem dX8_hasPlace_25 : decode cX8_hasPlace 25 = .ok (.iconst 0, 1) := by decide +kernel
theorem dX8_hasPlace_26 : decode cX8_hasPlace 26 = .ok (.ireturn, 1) := by decide +kernel
theorem dX8_hasStretch_0 : decode cX8_hasStretch 0 = .ok (.iload_n 2, 1) := by decide +kernel
theorem dX8_hasStretch_1 : decode cX8_hasStretch 1 = .ok (.ifCond .lt 41, 3) := by decide +kernel
theorem dX8_hasStretch_4 : decode cX8_hasStretch 4 = .ok (.iload_n 1, 1) := by decide +kernel
theorem dX8_hasStretch_5 : decode cX8_hasStretch 5 = .ok (.ifCond .lt 37, 3) := by decide +kernel
theorem dX8_hasStretch_8 : decode cX8_hasStretch 8 = .ok (.iload_n 2, 1) := by decide +kernel
theorem dX8_hasStretch_9 : decode cX8_hasStretch 9 = .ok (.aload_n 0, 1) := by decide +kernel
theorem dX8_hasStretch_10 : decode cX8_hasStretch 10 = .ok (.getfield 19, 3) := by decide +kernel
theorem dX8_hasStretch_13 : decode cX8_hasStretch 13 = .ok (.if_icmp .gt 29, 3) := by decide +kernel
theorem dX8_hasStretch_16 : decode cX8_hasStretch 16 = .ok (.iload_n 1, 1) := by decide +kernel
theorem dX8_hasStretch_17 : decode cX8_hasStretch 17 = .ok (.aload_n 0, 1) := by decide +kernel
theorem dX8_hasStretch_18 : decode cX8_hasStretch 18 = .ok (.getfield 19, 3) := by decide +kernel
theorem dX8_hasStretch_21 : decode cX8_hasStretch 21 = .ok (.iload_n 2, 1) := by decide +kernel
theorem dX8_hasStretch_22 : decode cX8_hasStretch 22 = .ok (.isub, 1) := by decide +kernel
theorem dX8_hasStretch_23 : decode cX8_hasStretch 23 = .ok (.if_icmp .gt 19, 3) := by decide +kernel
theorem dX8_hasStretch_26 : decode cX8_hasStretch 26 = .ok (.aload_n 0, 1) := by decide +kernel
theorem dX8_hasStretch_27 : decode cX8_hasStretch 27 = .ok (.getfield 19, 3) := by decide +kernel
theorem dX8_hasStretch_30 : decode cX8_hasStretch 30 = .ok (.aload_n 0, 1) := by decide +kernel
theorem dX8_hasStretch_31 : decode cX8_hasStretch 31 = .ok (.getfield 9, 3) := by decide +kernel
theorem dX8_hasStretch_34 : decode cX8_hasStretch 34 = .ok (.arraylength, 1) := by decide +kernel
theorem dX8_hasStretch_35 : decode cX8_hasStretch 35 = .ok (.if_icmp .gt 7, 3) := by decide +kernel
theorem dX8_hasStretch_38 : decode cX8_hasStretch 38 = .ok (.iconst 1, 1) := by decide +kernel
theorem dX8_hasStretch_39 : decode cX8_hasStretch 39 = .ok (.goto 4, 3) := by decide +kernel
theorem dX8_hasStretch_42 : decode cX8_hasStretch 42 = .ok (.iconst 0, 1) := by decide +kernel
theorem dX8_hasStretch_43 : decode cX8_hasStretch 43 = .ok (.ireturn, 1) := by decide +kernel
